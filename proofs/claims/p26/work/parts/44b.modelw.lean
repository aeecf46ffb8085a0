set_option maxHeartbeats 4000000 in
set_option maxRecDepth 100000 in
theorem s_X12_aloneOf (l : Launch) (G : Gx) (g q : Nat → Nat) (I0 : Nat → Int32) (J0 : Nat → Int64) (R0 : Nat → Nat → Int32) (L0 : Nat → Nat → Int64) (hvI : InvI Wm_lo Wm_hi I0) (hvR : InvR Wm_rl R0)  (p1 : Int32) (p2 : Int32) (hp1 : ((0 : Int) ≤ p1.toInt ∧ p1.toInt ≤ (11 : Int))) : CtI (S := St) l yX12_aloneOf cX12_aloneOf 8 (some .int) (rmD 5 0 0) G [.ref (g 45), .int p1, .int p2] (Wm G g q I0 J0 R0 L0) (fun r u => InvI Wm_lo Wm_hi u.1 ∧ InvR Wm_rl u.2.2.1 ∧ SmF ([] : List Nat) I0 u.1 ∧ SmF ([36] : List Nat) R0 u.2.2.1) (fun u => Wm G g q u.1 u.2.1 u.2.2.1 u.2.2.2) := by
  refine ctI_of (own := RX12) (by decide +kernel) rfl (Nat.le_of_ble_eq_true rfl) ?_
  intro p e s m below meth c A ls F hr hlk hnm hK hP hD hA hS hl
  have hx := F.1
  have hb := F.2.1
  have hown := F.2.2.2.1
  have hl : lv_has ls 8 [(0, .ref (g 45)), (1, .int p1), (2, .int p2)] := hl
  obtain ⟨Q, hQ⟩ : ∃ Q : State → Prop, Q = MQ below (va_Qi (S := St) (fun r u => InvI Wm_lo Wm_hi u.1 ∧ InvR Wm_rl u.2.2.1 ∧ SmF ([] : List Nat) I0 u.1 ∧ SmF ([36] : List Nat) R0 u.2.2.1) (BX G A (fun u => Wm G g q u.1 u.2.1 u.2.2.1 u.2.2.2)) A) [.ref (g 45), .int p1, .int p2].toArray s 0 0 A := ⟨_, rfl⟩
  rw [show (MQ below (va_Qi (S := St) (fun r u => InvI Wm_lo Wm_hi u.1 ∧ InvR Wm_rl u.2.2.1 ∧ SmF ([] : List Nat) I0 u.1 ∧ SmF ([36] : List Nat) R0 u.2.2.1) (BX G A (fun u => Wm G g q u.1 u.2.1 u.2.2.1 u.2.2.2)) A) [.ref (g 45), .int p1, .int p2].toArray s (rmD 5 0 0).cells (rmD 5 0 0).slots A) = Q from hQ.symm]
  have hsI := smF_rf ([] : List Nat) I0
  have hsR := smF_rf ([36] : List Nat) R0
  have hvI0 := hvI
  have lab_20 : ∀ (k_20 : Nat) (a3_20 : Int32) (a4_20 : Int32) (a5_20 : Int32) (I_20 : Nat → Int32) (J_20 : Nat → Int64) (R_20 : Nat → Nat → Int32) (L_20 : Nat → Nat → Int64) (H : Heap) (locs : List Loc) (ls : Array Slot), ((5 - a5_20.toInt) < (k_20 : Int)) → InvI Wm_lo Wm_hi I_20 → InvR Wm_rl R_20 → SmF ([] : List Nat) I0 I_20 → SmF ([36] : List Nat) R0 R_20 → ((0 : Int) ≤ a5_20.toInt ∧ a5_20.toInt ≤ (5 : Int)) → va_P G.1 vwCl (Wm G g q I_20 J_20 R_20 L_20) H → va_D A (Wm G g q I_20 J_20 R_20 L_20) → va_S A s.heap H locs → lv_has ls 8 [(0, .ref (g 45)), (1, .int p1), (3, .int a3_20), (4, .int a4_20), (5, .int a5_20)] → W p l e (rmD 5 0 0) s m [.ref (g 45), .int p1, .int p2].toArray below meth c H locs 0 0 Q (F0 m 20 ls []) := by
    intro k_20
    induction k_20 with
    | zero =>
      intro a3_20 a4_20 a5_20 I_20 J_20 R_20 L_20 H locs ls hm hvI hvR hsI hsR y0_20 hP hD hS hl
      have hv_I_20 := hvI
      exact absurd hm (by omega)
    | succ k_20 ih_20 =>
      intro a3_20 a4_20 a5_20 I_20 J_20 R_20 L_20 H locs ls hm hvI hvR hsI hsR y0_20 hP hD hS hl
      have hv_I_20 := hvI
      have lab_201 : ∀ (a4_201 : Int32) (I_201 : Nat → Int32) (J_201 : Nat → Int64) (R_201 : Nat → Nat → Int32) (L_201 : Nat → Nat → Int64) (H : Heap) (locs : List Loc) (ls : Array Slot), InvI Wm_lo Wm_hi I_201 → InvR Wm_rl R_201 → SmF ([] : List Nat) I0 I_201 → SmF ([36] : List Nat) R0 R_201 → ((0 : Int) ≤ a5_20.toInt ∧ a5_20.toInt ≤ (4 : Int)) → va_P G.1 vwCl (Wm G g q I_201 J_201 R_201 L_201) H → va_D A (Wm G g q I_201 J_201 R_201 L_201) → va_S A s.heap H locs → lv_has ls 8 [(0, .ref (g 45)), (1, .int p1), (3, .int a3_20), (4, .int a4_201), (5, .int a5_20)] → W p l e (rmD 5 0 0) s m [.ref (g 45), .int p1, .int p2].toArray below meth c H locs 0 0 Q (F0 m 201 ls []) := by
        intro a4_201 I_201 J_201 R_201 L_201 H locs ls hvI hvR hsI hsR y0_201 hP hD hS hl
        have hv_I_201 := hvI
        obtain ⟨x1, ex1⟩ : ∃ y : Int32, y = a5_20 + 1 := ⟨_, rfl⟩
        have fx1 : x1.toInt = a5_20.toInt + (1 : Int) := by rw [ex1]; exact t_add (by show (-2147483648 : Int) ≤ a5_20.toInt + (1 : Int); omega) (by show a5_20.toInt + (1 : Int) ≤ 2147483647; omega)
        refine lv_iinc (v := x1) (lv' := [(5, .int x1), (0, .ref (g 45)), (1, .int p1), (3, .int a3_20), (4, .int a4_201)]) hx hb dX12_aloneOf_201 hl (k := 4) rfl (by rw [ex1]; rfl) (by decide) rfl (fun ls hl => ?_)
        refine lv_goto (tgt := 20) hx hb dX12_aloneOf_204 (by decide) ?_
        exact ih_20 a3_20 a4_201 x1 I_201 J_201 R_201 L_201 _ _ _ (show (5 - x1.toInt) < (k_20 : Int) from by omega) hvI hvR hsI hsR (show ((0 : Int) ≤ x1.toInt ∧ x1.toInt ≤ (5 : Int)) from by omega) hP hD hS (lv_sub hl [1, 2, 3, 4, 0] rfl)
      have lab_95 : ∀ (k_95 : Nat) (a4_95 : Int32) (a6_95 : Int32) (I_95 : Nat → Int32) (J_95 : Nat → Int64) (R_95 : Nat → Nat → Int32) (L_95 : Nat → Nat → Int64) (H : Heap) (locs : List Loc) (ls : Array Slot), ((60 - a6_95.toInt) < (k_95 : Int)) → InvI Wm_lo Wm_hi I_95 → InvR Wm_rl R_95 → SmF ([] : List Nat) I0 I_95 → SmF ([36] : List Nat) R0 R_95 → ((0 : Int) ≤ a5_20.toInt ∧ a5_20.toInt ≤ (4 : Int)) → ((0 : Int) ≤ a6_95.toInt ∧ a6_95.toInt ≤ (60 : Int)) → va_P G.1 vwCl (Wm G g q I_95 J_95 R_95 L_95) H → va_D A (Wm G g q I_95 J_95 R_95 L_95) → va_S A s.heap H locs → lv_has ls 8 [(0, .ref (g 45)), (1, .int p1), (3, .int a3_20), (4, .int a4_95), (5, .int a5_20), (6, .int a6_95)] → W p l e (rmD 5 0 0) s m [.ref (g 45), .int p1, .int p2].toArray below meth c H locs 0 0 Q (F0 m 95 ls []) := by
        intro k_95
        induction k_95 with
        | zero =>
          intro a4_95 a6_95 I_95 J_95 R_95 L_95 H locs ls hm hvI hvR hsI hsR y0_95 y1_95 hP hD hS hl
          have hv_I_95 := hvI
          exact absurd hm (by omega)
        | succ k_95 ih_95 =>
          intro a4_95 a6_95 I_95 J_95 R_95 L_95 H locs ls hm hvI hvR hsI hsR y0_95 y1_95 hP hD hS hl
          have hv_I_95 := hvI
          have lab_192 : ∀ (b0_192 : Int32) (b1_192 : Int32) (I_192 : Nat → Int32) (J_192 : Nat → Int64) (R_192 : Nat → Nat → Int32) (L_192 : Nat → Nat → Int64) (H : Heap) (locs : List Loc) (ls : Array Slot), InvI Wm_lo Wm_hi I_192 → InvR Wm_rl R_192 → SmF ([] : List Nat) I0 I_192 → SmF ([36] : List Nat) R0 R_192 → ((0 : Int) ≤ a6_95.toInt ∧ a6_95.toInt ≤ (59 : Int)) → va_P G.1 vwCl (Wm G g q I_192 J_192 R_192 L_192) H → va_D A (Wm G g q I_192 J_192 R_192 L_192) → va_S A s.heap H locs → lv_has ls 8 [(0, .ref (g 45)), (1, .int p1), (3, .int a3_20), (5, .int a5_20), (6, .int a6_95)] → W p l e (rmD 5 0 0) s m [.ref (g 45), .int p1, .int p2].toArray below meth c H locs 0 0 Q (F0 m 192 ls [.int b0_192, .int b1_192]) := by
            intro b0_192 b1_192 I_192 J_192 R_192 L_192 H locs ls hvI hvR hsI hsR y0_192 hP hD hS hl
            have hv_I_192 := hvI
            refine lv_iadd hx hb dX12_aloneOf_192 ?_
            refine lv_topi (fun x2 ex2 => ?_)
            refine lv_istore (lv' := [(4, .int x2), (0, .ref (g 45)), (1, .int p1), (3, .int a3_20), (5, .int a5_20), (6, .int a6_95)]) hx hb dX12_aloneOf_193 hl (by decide) rfl (fun ls hl => ?_)
            obtain ⟨x3, ex3⟩ : ∃ y : Int32, y = a6_95 + 1 := ⟨_, rfl⟩
            have fx3 : x3.toInt = a6_95.toInt + (1 : Int) := by rw [ex3]; exact t_add (by show (-2147483648 : Int) ≤ a6_95.toInt + (1 : Int); omega) (by show a6_95.toInt + (1 : Int) ≤ 2147483647; omega)
            refine lv_iinc (v := x3) (lv' := [(6, .int x3), (4, .int x2), (0, .ref (g 45)), (1, .int p1), (3, .int a3_20), (5, .int a5_20)]) hx hb dX12_aloneOf_195 hl (k := 5) rfl (by rw [ex3]; rfl) (by decide) rfl (fun ls hl => ?_)
            refine lv_goto (tgt := 95) hx hb dX12_aloneOf_198 (by decide) ?_
            exact ih_95 x2 x3 I_192 J_192 R_192 L_192 _ _ _ (show (60 - x3.toInt) < (k_95 : Int) from by omega) hvI hvR hsI hsR (show ((0 : Int) ≤ a5_20.toInt ∧ a5_20.toInt ≤ (4 : Int)) from by omega) (show ((0 : Int) ≤ x3.toInt ∧ x3.toInt ≤ (60 : Int)) from by omega) hP hD hS (lv_sub hl [2, 3, 4, 1, 5, 0] rfl)
          have lab_191 : ∀ (b0_191 : Int32) (I_191 : Nat → Int32) (J_191 : Nat → Int64) (R_191 : Nat → Nat → Int32) (L_191 : Nat → Nat → Int64) (H : Heap) (locs : List Loc) (ls : Array Slot), InvI Wm_lo Wm_hi I_191 → InvR Wm_rl R_191 → SmF ([] : List Nat) I0 I_191 → SmF ([36] : List Nat) R0 R_191 → ((0 : Int) ≤ a6_95.toInt ∧ a6_95.toInt ≤ (59 : Int)) → va_P G.1 vwCl (Wm G g q I_191 J_191 R_191 L_191) H → va_D A (Wm G g q I_191 J_191 R_191 L_191) → va_S A s.heap H locs → lv_has ls 8 [(0, .ref (g 45)), (1, .int p1), (3, .int a3_20), (5, .int a5_20), (6, .int a6_95)] → W p l e (rmD 5 0 0) s m [.ref (g 45), .int p1, .int p2].toArray below meth c H locs 0 0 Q (F0 m 191 ls [.int b0_191]) := by
            intro b0_191 I_191 J_191 R_191 L_191 H locs ls hvI hvR hsI hsR y0_191 hP hD hS hl
            have hv_I_191 := hvI
            refine lv_iconst (v := 0) hx hb dX12_aloneOf_191 (by decide) ?_
            exact lab_192 0 b0_191 I_191 J_191 R_191 L_191 _ _ _ hvI hvR hsI hsR (show ((0 : Int) ≤ a6_95.toInt ∧ a6_95.toInt ≤ (59 : Int)) from by omega) hP hD hS (lv_sub hl [0, 1, 2, 3, 4] rfl)
          have lab_160 : ∀ (b0_160 : Int32) (I_160 : Nat → Int32) (J_160 : Nat → Int64) (R_160 : Nat → Nat → Int32) (L_160 : Nat → Nat → Int64) (H : Heap) (locs : List Loc) (ls : Array Slot), InvI Wm_lo Wm_hi I_160 → InvR Wm_rl R_160 → SmF ([] : List Nat) I0 I_160 → SmF ([36] : List Nat) R0 R_160 → ((0 : Int) ≤ a6_95.toInt ∧ a6_95.toInt ≤ (59 : Int)) → ((-1 : Int) ≤ b0_160.toInt ∧ b0_160.toInt ≤ (11 : Int)) → va_P G.1 vwCl (Wm G g q I_160 J_160 R_160 L_160) H → va_D A (Wm G g q I_160 J_160 R_160 L_160) → va_S A s.heap H locs → lv_has ls 8 [(0, .ref (g 45)), (1, .int p1), (3, .int a3_20), (4, .int a4_95), (5, .int a5_20), (6, .int a6_95)] → W p l e (rmD 5 0 0) s m [.ref (g 45), .int p1, .int p2].toArray below meth c H locs 0 0 Q (F0 m 160 ls [.int b0_160]) := by
            intro b0_160 I_160 J_160 R_160 L_160 H locs ls hvI hvR hsI hsR y0_160 y1_160 hP hD hS hl
            have hv_I_160 := hvI
            refine lv_istore (lv' := [(7, .int b0_160), (0, .ref (g 45)), (1, .int p1), (3, .int a3_20), (4, .int a4_95), (5, .int a5_20), (6, .int a6_95)]) hx hb dX12_aloneOf_160 hl (by decide) rfl (fun ls hl => ?_)
            refine lv_iload hx hb dX12_aloneOf_162 (lv_at hl 4 rfl) ?_
            refine lv_iload hx hb dX12_aloneOf_164 (lv_at hl 0 rfl) ?_
            refine lv_iconst (v := (-1)) hx hb dX12_aloneOf_166 (by decide) ?_
            refine lv_icmp_eq (tgt := 191) hx hb dX12_aloneOf_167 (by decide) (fun c4 => ?_) (fun c4 => ?_)
            · have gc4 : b0_160.toInt = (-1) := congrArg Int32.toInt c4
              exact lab_191 a4_95 I_160 J_160 R_160 L_160 _ _ _ hvI hvR hsI hsR (show ((0 : Int) ≤ a6_95.toInt ∧ a6_95.toInt ≤ (59 : Int)) from by omega) hP hD hS (lv_sub hl [1, 2, 3, 5, 6] rfl)
            · have gc4 : ¬ (b0_160.toInt = (-1)) := fun q0 => c4 (Int32.toInt_inj.mp q0)
              refine lv_aload_n hx hb dX12_aloneOf_170 rfl (lv_at hl 1 rfl) ?_
              refine lv_iload hx hb dX12_aloneOf_171 (lv_at hl 0 rfl) ?_
              refine lv_iload hx hb dX12_aloneOf_173 (lv_at hl 5 rfl) ?_
              refine wvi (As := [.int b0_160, .int a5_20]) (rest := [.int a4_95]) (b := (g 45)) (d := 1) F hK hP hD hS hA (s_X12_isIn l G g q I_160 J_160 R_160 L_160 hvI hvR  b0_160 a5_20 (show ((0 : Int) ≤ b0_160.toInt ∧ b0_160.toInt ≤ (11 : Int)) from by omega) (show ((0 : Int) ≤ a5_20.toInt ∧ a5_20.toInt ≤ (4 : Int)) from by omega)) kmV_X12_isIn mlX12_479 clX12 rfl 0 (Wm_at0 G g q I_160 J_160 R_160 L_160) ⟨(Nat.le_of_ble_eq_true rfl), (Nat.le_of_ble_eq_true rfl)⟩ hl.1 rfl (Nat.le_of_ble_eq_true rfl) dX12_aloneOf_175 (fun r5 u6 H locs hwr5 hP hD hS => ?_)
              have F0r5 := hwr5
              replace F0r5 : ((0 : Int) ≤ r5.toInt ∧ r5.toInt ≤ (1 : Int)) := F0r5
              refine lv_if_eq (tgt := 191) hx hb dX12_aloneOf_178 (by decide) (fun c7 => ?_) (fun c7 => ?_)
              · have gc7 : r5.toInt = 0 := congrArg Int32.toInt c7
                exact lab_191 a4_95 I_160 J_160 R_160 L_160 _ _ _ hvI hvR hsI hsR (show ((0 : Int) ≤ a6_95.toInt ∧ a6_95.toInt ≤ (59 : Int)) from by omega) hP hD hS (lv_sub hl [1, 2, 3, 5, 6] rfl)
              · have gc7 : ¬ (r5.toInt = 0) := fun q0 => c7 (Int32.toInt_inj.mp q0)
                refine lv_aload_n hx hb dX12_aloneOf_181 rfl (lv_at hl 1 rfl) ?_
                refine g_get F hK hP 0 (Wm_at0 G g q I_160 J_160 R_160 L_160) clX12 33 (by decide) flX12_113 rfl dX12_aloneOf_182 ?_
                refine lv_iload hx hb dX12_aloneOf_185 (lv_at hl 6 rfl) ?_
                refine g_iald F hK hP 22 (Wm_at22 G g q I_160 J_160 R_160 L_160) (in_of (by omega)) dX12_aloneOf_187 rfl ?_
                refine lv_topi (fun x8 ex8 => ?_)
                have gx8 : x8.toInt = (R0 18 (Int32.toNatClampNeg a6_95)).toInt := congrArg Int32.toInt ((ex8).trans (congrFun (hsR 18 rfl) _))
                refine lv_goto (tgt := 192) hx hb dX12_aloneOf_188 (by decide) ?_
                exact lab_192 x8 a4_95 I_160 J_160 R_160 L_160 _ _ _ hvI hvR hsI hsR (show ((0 : Int) ≤ a6_95.toInt ∧ a6_95.toInt ≤ (59 : Int)) from by omega) hP hD hS (lv_sub hl [1, 2, 3, 5, 6] rfl)
          refine lv_iload hx hb dX12_aloneOf_95 (lv_at hl 5 rfl) ?_
          refine lv_bipush (v := 30) hx hb dX12_aloneOf_97 (by decide) ?_
          refine lv_aload_n hx hb dX12_aloneOf_99 rfl (lv_at hl 0 rfl) ?_
          refine g_get F hK hP 0 (Wm_at0 G g q I_95 J_95 R_95 L_95) clX12 12 (by decide) flX12_48 rfl dX12_aloneOf_100 ?_
          refine cst_i (hsI 10 rfl) ?_
          have w_I0_10 := rg (hvI0 10 (by decide)) (0) (1) rfl rfl
          refine lv_imul hx hb dX12_aloneOf_103 ?_
          refine lv_topi (fun x9 ex9 => ?_)
          have fx9 : x9.toInt = 30 * (I0 10).toInt := by rw [ex9]; exact t_mul (by show (-2147483648 : Int) ≤ 30 * (I0 10).toInt; omega) (by show 30 * (I0 10).toInt ≤ 2147483647; omega)
          refine lv_aload_n hx hb dX12_aloneOf_104 rfl (lv_at hl 0 rfl) ?_
          refine g_get F hK hP 0 (Wm_at0 G g q I_95 J_95 R_95 L_95) clX12 30 (by decide) flX12_104 rfl dX12_aloneOf_105 ?_
          refine lv_aload_n hx hb dX12_aloneOf_108 rfl (lv_at hl 0 rfl) ?_
          refine g_get F hK hP 0 (Wm_at0 G g q I_95 J_95 R_95 L_95) clX12 12 (by decide) flX12_48 rfl dX12_aloneOf_109 ?_
          refine cst_i (hsI 10 rfl) ?_
          refine g_iald F hK hP 19 (Wm_at19 G g q I_95 J_95 R_95 L_95) (in_of (by omega)) dX12_aloneOf_112 rfl ?_
          refine lv_topi (fun x10 ex10 => ?_)
          have gx10 : x10.toInt = (R0 15 (Int32.toNatClampNeg (I0 10))).toInt := congrArg Int32.toInt ((ex10).trans (congrFun (hsR 15 rfl) _))
          have fx10 : ((0 : Int) ≤ x10.toInt ∧ x10.toInt ≤ (30 : Int)) := by rw [ex10]; exact hvR 15 (by decide) _ (clamp_lt (n := 2) (in_of (by omega)))
          refine lv_iadd hx hb dX12_aloneOf_113 ?_
          refine lv_topi (fun x11 ex11 => ?_)
          have fx11 : x11.toInt = x9.toInt + x10.toInt := by rw [ex11]; exact t_add (by show (-2147483648 : Int) ≤ x9.toInt + x10.toInt; omega) (by show x9.toInt + x10.toInt ≤ 2147483647; omega)
          refine lv_icmp_ge (tgt := 201) hx hb dX12_aloneOf_114 (by decide) (fun c12 => ?_) (fun c12 => ?_)
          · have gc12 : x11.toInt ≤ a6_95.toInt := (tle _ _).mp c12
            exact lab_201 a4_95 I_95 J_95 R_95 L_95 _ _ _ hvI hvR hsI hsR (show ((0 : Int) ≤ a5_20.toInt ∧ a5_20.toInt ≤ (4 : Int)) from by omega) hP hD hS (lv_sub hl [0, 1, 2, 3, 4] rfl)
          · have gc12 : ¬ (x11.toInt ≤ a6_95.toInt) := fun q0 => c12 ((tle _ _).mpr q0)
            refine lv_aload_n hx hb dX12_aloneOf_117 rfl (lv_at hl 0 rfl) ?_
            refine g_get F hK hP 0 (Wm_at0 G g q I_95 J_95 R_95 L_95) clX12 31 (by decide) flX12_107 rfl dX12_aloneOf_118 ?_
            refine lv_iload hx hb dX12_aloneOf_121 (lv_at hl 5 rfl) ?_
            refine g_iald F hK hP 20 (Wm_at20 G g q I_95 J_95 R_95 L_95) (in_of (by omega)) dX12_aloneOf_123 rfl ?_
            refine lv_topi (fun x13 ex13 => ?_)
            have gx13 : x13.toInt = (R0 16 (Int32.toNatClampNeg a6_95)).toInt := congrArg Int32.toInt ((ex13).trans (congrFun (hsR 16 rfl) _))
            have fx13 : ((0 : Int) ≤ x13.toInt ∧ x13.toInt ≤ (11 : Int)) := by rw [ex13]; exact hvR 16 (by decide) _ (clamp_lt (n := 60) (in_of (by omega)))
            refine lv_iload_n hx hb dX12_aloneOf_124 rfl (lv_at hl 1 rfl) ?_
            refine lv_icmp_ne (tgt := 138) hx hb dX12_aloneOf_125 (by decide) (fun c14 => ?_) (fun c14 => ?_)
            · have gc14 : ¬ (x13.toInt = p1.toInt) := fun q0 => c14 (Int32.toInt_inj.mp q0)
              refine lv_aload_n hx hb dX12_aloneOf_138 rfl (lv_at hl 0 rfl) ?_
              refine g_get F hK hP 0 (Wm_at0 G g q I_95 J_95 R_95 L_95) clX12 32 (by decide) flX12_110 rfl dX12_aloneOf_139 ?_
              refine lv_iload hx hb dX12_aloneOf_142 (lv_at hl 5 rfl) ?_
              refine g_iald F hK hP 21 (Wm_at21 G g q I_95 J_95 R_95 L_95) (in_of (by omega)) dX12_aloneOf_144 rfl ?_
              refine lv_topi (fun x15 ex15 => ?_)
              have gx15 : x15.toInt = (R0 17 (Int32.toNatClampNeg a6_95)).toInt := congrArg Int32.toInt ((ex15).trans (congrFun (hsR 17 rfl) _))
              have fx15 : ((0 : Int) ≤ x15.toInt ∧ x15.toInt ≤ (11 : Int)) := by rw [ex15]; exact hvR 17 (by decide) _ (clamp_lt (n := 60) (in_of (by omega)))
              refine lv_iload_n hx hb dX12_aloneOf_145 rfl (lv_at hl 1 rfl) ?_
              refine lv_icmp_ne (tgt := 159) hx hb dX12_aloneOf_146 (by decide) (fun c16 => ?_) (fun c16 => ?_)
              · have gc16 : ¬ (x15.toInt = p1.toInt) := fun q0 => c16 (Int32.toInt_inj.mp q0)
                refine lv_iconst (v := (-1)) hx hb dX12_aloneOf_159 (by decide) ?_
                exact lab_160 ((-1)) I_95 J_95 R_95 L_95 _ _ _ hvI hvR hsI hsR (show ((0 : Int) ≤ a6_95.toInt ∧ a6_95.toInt ≤ (59 : Int)) from by omega) (by decide) hP hD hS (lv_sub hl [0, 1, 2, 3, 4, 5] rfl)
              · have gc16 : x15.toInt = p1.toInt := congrArg Int32.toInt c16
                refine lv_aload_n hx hb dX12_aloneOf_149 rfl (lv_at hl 0 rfl) ?_
                refine g_get F hK hP 0 (Wm_at0 G g q I_95 J_95 R_95 L_95) clX12 31 (by decide) flX12_107 rfl dX12_aloneOf_150 ?_
                refine lv_iload hx hb dX12_aloneOf_153 (lv_at hl 5 rfl) ?_
                refine g_iald F hK hP 20 (Wm_at20 G g q I_95 J_95 R_95 L_95) (in_of (by omega)) dX12_aloneOf_155 rfl ?_
                refine lv_topi (fun x17 ex17 => ?_)
                have gx17 : x17.toInt = (R0 16 (Int32.toNatClampNeg a6_95)).toInt := congrArg Int32.toInt ((ex17).trans (congrFun (hsR 16 rfl) _))
                have fx17 : ((0 : Int) ≤ x17.toInt ∧ x17.toInt ≤ (11 : Int)) := by rw [ex17]; exact hvR 16 (by decide) _ (clamp_lt (n := 60) (in_of (by omega)))
                refine lv_goto (tgt := 160) hx hb dX12_aloneOf_156 (by decide) ?_
                exact lab_160 x17 I_95 J_95 R_95 L_95 _ _ _ hvI hvR hsI hsR (show ((0 : Int) ≤ a6_95.toInt ∧ a6_95.toInt ≤ (59 : Int)) from by omega) (show ((-1 : Int) ≤ x17.toInt ∧ x17.toInt ≤ (11 : Int)) from by omega) hP hD hS (lv_sub hl [0, 1, 2, 3, 4, 5] rfl)
            · have gc14 : x13.toInt = p1.toInt := congrArg Int32.toInt c14
              refine lv_aload_n hx hb dX12_aloneOf_128 rfl (lv_at hl 0 rfl) ?_
              refine g_get F hK hP 0 (Wm_at0 G g q I_95 J_95 R_95 L_95) clX12 32 (by decide) flX12_110 rfl dX12_aloneOf_129 ?_
              refine lv_iload hx hb dX12_aloneOf_132 (lv_at hl 5 rfl) ?_
              refine g_iald F hK hP 21 (Wm_at21 G g q I_95 J_95 R_95 L_95) (in_of (by omega)) dX12_aloneOf_134 rfl ?_
              refine lv_topi (fun x18 ex18 => ?_)
              have gx18 : x18.toInt = (R0 17 (Int32.toNatClampNeg a6_95)).toInt := congrArg Int32.toInt ((ex18).trans (congrFun (hsR 17 rfl) _))
              have fx18 : ((0 : Int) ≤ x18.toInt ∧ x18.toInt ≤ (11 : Int)) := by rw [ex18]; exact hvR 17 (by decide) _ (clamp_lt (n := 60) (in_of (by omega)))
              refine lv_goto (tgt := 160) hx hb dX12_aloneOf_135 (by decide) ?_
              exact lab_160 x18 I_95 J_95 R_95 L_95 _ _ _ hvI hvR hsI hsR (show ((0 : Int) ≤ a6_95.toInt ∧ a6_95.toInt ≤ (59 : Int)) from by omega) (show ((-1 : Int) ≤ x18.toInt ∧ x18.toInt ≤ (11 : Int)) from by omega) hP hD hS (lv_sub hl [0, 1, 2, 3, 4, 5] rfl)
      have lab_82 : ∀ (b0_82 : Int32) (b1_82 : Int32) (b2_82 : Int32) (I_82 : Nat → Int32) (J_82 : Nat → Int64) (R_82 : Nat → Nat → Int32) (L_82 : Nat → Nat → Int64) (H : Heap) (locs : List Loc) (ls : Array Slot), InvI Wm_lo Wm_hi I_82 → InvR Wm_rl R_82 → SmF ([] : List Nat) I0 I_82 → SmF ([36] : List Nat) R0 R_82 → ((0 : Int) ≤ a5_20.toInt ∧ a5_20.toInt ≤ (4 : Int)) → va_P G.1 vwCl (Wm G g q I_82 J_82 R_82 L_82) H → va_D A (Wm G g q I_82 J_82 R_82 L_82) → va_S A s.heap H locs → lv_has ls 8 [(0, .ref (g 45)), (1, .int p1), (3, .int a3_20), (5, .int a5_20)] → W p l e (rmD 5 0 0) s m [.ref (g 45), .int p1, .int p2].toArray below meth c H locs 0 0 Q (F0 m 82 ls [.int b0_82, .int b1_82, .int b2_82]) := by
        intro b0_82 b1_82 b2_82 I_82 J_82 R_82 L_82 H locs ls hvI hvR hsI hsR y0_82 hP hD hS hl
        have hv_I_82 := hvI
        refine lv_isub hx hb dX12_aloneOf_82 ?_
        refine lv_topi (fun x19 ex19 => ?_)
        refine lv_iadd hx hb dX12_aloneOf_83 ?_
        refine lv_topi (fun x20 ex20 => ?_)
        refine lv_istore (lv' := [(4, .int x20), (0, .ref (g 45)), (1, .int p1), (3, .int a3_20), (5, .int a5_20)]) hx hb dX12_aloneOf_84 hl (by decide) rfl (fun ls hl => ?_)
        refine lv_bipush (v := 30) hx hb dX12_aloneOf_86 (by decide) ?_
        refine lv_aload_n hx hb dX12_aloneOf_88 rfl (lv_at hl 1 rfl) ?_
        refine g_get F hK hP 0 (Wm_at0 G g q I_82 J_82 R_82 L_82) clX12 12 (by decide) flX12_48 rfl dX12_aloneOf_89 ?_
        refine cst_i (hsI 10 rfl) ?_
        have w_I0_10 := rg (hvI0 10 (by decide)) (0) (1) rfl rfl
        refine lv_imul hx hb dX12_aloneOf_92 ?_
        refine lv_topi (fun x21 ex21 => ?_)
        have fx21 : x21.toInt = 30 * (I0 10).toInt := by rw [ex21]; exact t_mul (by show (-2147483648 : Int) ≤ 30 * (I0 10).toInt; omega) (by show 30 * (I0 10).toInt ≤ 2147483647; omega)
        refine lv_istore (lv' := [(6, .int x21), (4, .int x20), (0, .ref (g 45)), (1, .int p1), (3, .int a3_20), (5, .int a5_20)]) hx hb dX12_aloneOf_93 hl (by decide) rfl (fun ls hl => ?_)
        exact lab_95 61 x20 x21 I_82 J_82 R_82 L_82 _ _ _ (show (60 - x21.toInt) < ((61 : Nat) : Int) from by omega) hvI hvR hsI hsR (show ((0 : Int) ≤ a5_20.toInt ∧ a5_20.toInt ≤ (4 : Int)) from by omega) (show ((0 : Int) ≤ x21.toInt ∧ x21.toInt ≤ (60 : Int)) from by omega) hP hD hS (lv_sub hl [2, 3, 4, 1, 5, 0] rfl)
      refine lv_iload hx hb dX12_aloneOf_20 (lv_at hl 4 rfl) ?_
      refine lv_iconst (v := 5) hx hb dX12_aloneOf_22 (by decide) ?_
      refine lv_icmp_ge (tgt := 207) hx hb dX12_aloneOf_23 (by decide) (fun c22 => ?_) (fun c22 => ?_)
      · have gc22 : 5 ≤ a5_20.toInt := (tle _ _).mp c22
        refine lv_aload_n hx hb dX12_aloneOf_207 rfl (lv_at hl 0 rfl) ?_
        refine g_get F hK hP 0 (Wm_at0 G g q I_20 J_20 R_20 L_20) clX12 58 (by decide) flX12_189 rfl dX12_aloneOf_208 ?_
        refine lv_iload_n hx hb dX12_aloneOf_211 rfl (lv_at hl 1 rfl) ?_
        refine lv_iload_n hx hb dX12_aloneOf_212 rfl (lv_at hl 2 rfl) ?_
        refine p_row (W1 := fun y => Wm G g q I_20 J_20 y L_20) (n := 36) F hK hP hD hS 41 (Wm_at41 G g q I_20 J_20 R_20 L_20) (in_of (by omega)) dX12_aloneOf_213 (Wm_rowR36 G g q I_20 J_20 R_20 L_20) (fun R23 H locs eR23 hP hD hS => ?_)
        have hvR : InvR Wm_rl R23 := inv_upR hvR 36 eR23 (upd_in (hvR 36 (by decide)) (full _))
        have hsR := smF_up hsR eR23 (by decide)
        refine lv_iload hx hb dX12_aloneOf_214 (lv_at hl 3 rfl) ?_
        rw [hQ]
        exact q_i F hr hlk (I_20, J_20, R23, L_20) hP hD hS ⟨hvI, hvR, hsI, hsR⟩ dX12_aloneOf_216 (Nat.le_of_ble_eq_true rfl) (Nat.le_of_ble_eq_true rfl)
      · have gc22 : ¬ (5 ≤ a5_20.toInt) := fun q0 => c22 ((tle _ _).mpr q0)
        refine lv_aload_n hx hb dX12_aloneOf_26 rfl (lv_at hl 0 rfl) ?_
        refine lv_iload_n hx hb dX12_aloneOf_27 rfl (lv_at hl 1 rfl) ?_
        refine lv_iload hx hb dX12_aloneOf_28 (lv_at hl 4 rfl) ?_
        refine wvi (As := [.int p1, .int a5_20]) (rest := []) (b := (g 45)) (d := 1) F hK hP hD hS hA (s_X12_isIn l G g q I_20 J_20 R_20 L_20 hvI hvR  p1 a5_20 (show ((0 : Int) ≤ p1.toInt ∧ p1.toInt ≤ (11 : Int)) from by omega) (show ((0 : Int) ≤ a5_20.toInt ∧ a5_20.toInt ≤ (4 : Int)) from by omega)) kmV_X12_isIn mlX12_479 clX12 rfl 0 (Wm_at0 G g q I_20 J_20 R_20 L_20) ⟨(Nat.le_of_ble_eq_true rfl), (Nat.le_of_ble_eq_true rfl)⟩ hl.1 rfl (Nat.le_of_ble_eq_true rfl) dX12_aloneOf_30 (fun r24 u25 H locs hwr24 hP hD hS => ?_)
        have F0r24 := hwr24
        replace F0r24 : ((0 : Int) ≤ r24.toInt ∧ r24.toInt ≤ (1 : Int)) := F0r24
        refine lv_if_ne (tgt := 39) hx hb dX12_aloneOf_33 (by decide) (fun c26 => ?_) (fun c26 => ?_)
        · have gc26 : ¬ (r24.toInt = 0) := fun q0 => c26 (Int32.toInt_inj.mp q0)
          refine lv_iload hx hb dX12_aloneOf_39 (lv_at hl 3 rfl) ?_
          refine lv_aload_n hx hb dX12_aloneOf_41 rfl (lv_at hl 0 rfl) ?_
          refine g_get F hK hP 0 (Wm_at0 G g q I_20 J_20 R_20 L_20) clX12 26 (by decide) flX12_92 rfl dX12_aloneOf_42 ?_
          refine lv_iconst (v := 5) hx hb dX12_aloneOf_45 (by decide) ?_
          refine lv_bipush (v := 12) hx hb dX12_aloneOf_46 (by decide) ?_
          refine lv_aload_n hx hb dX12_aloneOf_48 rfl (lv_at hl 0 rfl) ?_
          refine g_get F hK hP 0 (Wm_at0 G g q I_20 J_20 R_20 L_20) clX12 12 (by decide) flX12_48 rfl dX12_aloneOf_49 ?_
          refine cst_i (hsI 10 rfl) ?_
          have w_I0_10 := rg (hvI0 10 (by decide)) (0) (1) rfl rfl
          refine lv_imul hx hb dX12_aloneOf_52 ?_
          refine lv_topi (fun x27 ex27 => ?_)
          have fx27 : x27.toInt = 12 * (I0 10).toInt := by rw [ex27]; exact t_mul (by show (-2147483648 : Int) ≤ 12 * (I0 10).toInt; omega) (by show 12 * (I0 10).toInt ≤ 2147483647; omega)
          refine lv_iload_n hx hb dX12_aloneOf_53 rfl (lv_at hl 1 rfl) ?_
          refine lv_iadd hx hb dX12_aloneOf_54 ?_
          refine lv_topi (fun x28 ex28 => ?_)
          have fx28 : x28.toInt = x27.toInt + p1.toInt := by rw [ex28]; exact t_add (by show (-2147483648 : Int) ≤ x27.toInt + p1.toInt; omega) (by show x27.toInt + p1.toInt ≤ 2147483647; omega)
          refine lv_imul hx hb dX12_aloneOf_55 ?_
          refine lv_topi (fun x29 ex29 => ?_)
          have fx29 : x29.toInt = 5 * x28.toInt := by rw [ex29]; exact t_mul (by show (-2147483648 : Int) ≤ 5 * x28.toInt; omega) (by show 5 * x28.toInt ≤ 2147483647; omega)
          refine lv_iload hx hb dX12_aloneOf_56 (lv_at hl 4 rfl) ?_
          refine lv_iadd hx hb dX12_aloneOf_58 ?_
          refine lv_topi (fun x30 ex30 => ?_)
          have fx30 : x30.toInt = x29.toInt + a5_20.toInt := by rw [ex30]; exact t_add (by show (-2147483648 : Int) ≤ x29.toInt + a5_20.toInt; omega) (by show x29.toInt + a5_20.toInt ≤ 2147483647; omega)
          refine g_iald F hK hP 15 (Wm_at15 G g q I_20 J_20 R_20 L_20) (in_of (by omega)) dX12_aloneOf_59 rfl ?_
          refine lv_topi (fun x31 ex31 => ?_)
          have gx31 : x31.toInt = (R0 11 (Int32.toNatClampNeg x30)).toInt := congrArg Int32.toInt ((ex31).trans (congrFun (hsR 11 rfl) _))
          refine lv_aload_n hx hb dX12_aloneOf_60 rfl (lv_at hl 0 rfl) ?_
          refine lv_iload hx hb dX12_aloneOf_61 (lv_at hl 4 rfl) ?_
          refine wvi (As := [.int a5_20]) (rest := [.int x31, .int a4_20]) (b := (g 45)) (d := 4) F hK hP hD hS hA (s_X12_standOn l G g q I_20 J_20 R_20 L_20 hvI hvR  a5_20 (show ((0 : Int) ≤ a5_20.toInt ∧ a5_20.toInt ≤ (4 : Int)) from by omega)) kmV_X12_standOn mlX12_494 clX12 rfl 0 (Wm_at0 G g q I_20 J_20 R_20 L_20) ⟨(Nat.le_of_ble_eq_true rfl), (Nat.le_of_ble_eq_true rfl)⟩ hl.1 rfl (Nat.le_of_ble_eq_true rfl) dX12_aloneOf_63 (fun r32 u33 H locs hwr32 hP hD hS => ?_)
          refine lv_if_le (tgt := 81) hx hb dX12_aloneOf_66 (by decide) (fun c34 => ?_) (fun c34 => ?_)
          · have gc34 : r32.toInt ≤ 0 := (tle _ _).mp c34
            refine lv_iconst (v := 0) hx hb dX12_aloneOf_81 (by decide) ?_
            exact lab_82 0 x31 a4_20 I_20 J_20 R_20 L_20 _ _ _ hvI hvR hsI hsR (show ((0 : Int) ≤ a5_20.toInt ∧ a5_20.toInt ≤ (4 : Int)) from by omega) hP hD hS (lv_sub hl [0, 1, 2, 4] rfl)
          · have gc34 : ¬ (r32.toInt ≤ 0) := fun q0 => c34 ((tle _ _).mpr q0)
            refine lv_aload_n hx hb dX12_aloneOf_69 rfl (lv_at hl 0 rfl) ?_
            refine g_get F hK hP 0 (Wm_at0 G g q I_20 J_20 R_20 L_20) clX12 36 (by decide) flX12_122 rfl dX12_aloneOf_70 ?_
            refine lv_aload_n hx hb dX12_aloneOf_73 rfl (lv_at hl 0 rfl) ?_
            refine g_get F hK hP 0 (Wm_at0 G g q I_20 J_20 R_20 L_20) clX12 12 (by decide) flX12_48 rfl dX12_aloneOf_74 ?_
            refine cst_i (hsI 10 rfl) ?_
            refine g_iald F hK hP 25 (Wm_at25 G g q I_20 J_20 R_20 L_20) (in_of (by omega)) dX12_aloneOf_77 rfl ?_
            refine lv_topi (fun x35 ex35 => ?_)
            have gx35 : x35.toInt = (R0 21 (Int32.toNatClampNeg (I0 10))).toInt := congrArg Int32.toInt ((ex35).trans (congrFun (hsR 21 rfl) _))
            refine lv_goto (tgt := 82) hx hb dX12_aloneOf_78 (by decide) ?_
            exact lab_82 x35 x31 a4_20 I_20 J_20 R_20 L_20 _ _ _ hvI hvR hsI hsR (show ((0 : Int) ≤ a5_20.toInt ∧ a5_20.toInt ≤ (4 : Int)) from by omega) hP hD hS (lv_sub hl [0, 1, 2, 4] rfl)
        · have gc26 : r24.toInt = 0 := congrArg Int32.toInt c26
          refine lv_goto (tgt := 201) hx hb dX12_aloneOf_36 (by decide) ?_
          exact lab_201 a4_20 I_20 J_20 R_20 L_20 _ _ _ hvI hvR hsI hsR (show ((0 : Int) ≤ a5_20.toInt ∧ a5_20.toInt ≤ (4 : Int)) from by omega) hP hD hS (lv_sub hl [0, 1, 2, 3, 4] rfl)
  refine lv_aload_n hx hb dX12_aloneOf_0 rfl (lv_at hl 0 rfl) ?_
  refine g_get F hK hP 0 (Wm_at0 G g q I0 J0 R0 L0) clX12 58 (by decide) flX12_189 rfl dX12_aloneOf_1 ?_
  refine lv_iload_n hx hb dX12_aloneOf_4 rfl (lv_at hl 1 rfl) ?_
  refine g_iald F hK hP 41 (Wm_at41 G g q I0 J0 R0 L0) (in_of (by omega)) dX12_aloneOf_5 rfl ?_
  refine lv_topi (fun x36 ex36 => ?_)
  have gx36 : x36.toInt = (R0 36 (Int32.toNatClampNeg p1)).toInt := congrArg Int32.toInt (ex36)
  refine lv_istore_n (lv' := [(3, .int x36), (0, .ref (g 45)), (1, .int p1), (2, .int p2)]) hx hb dX12_aloneOf_6 rfl hl (by decide) rfl (fun ls hl => ?_)
  refine lv_aload_n hx hb dX12_aloneOf_7 rfl (lv_at hl 1 rfl) ?_
  refine g_get F hK hP 0 (Wm_at0 G g q I0 J0 R0 L0) clX12 58 (by decide) flX12_189 rfl dX12_aloneOf_8 ?_
  refine lv_iload_n hx hb dX12_aloneOf_11 rfl (lv_at hl 2 rfl) ?_
  refine lv_iload_n hx hb dX12_aloneOf_12 rfl (lv_at hl 3 rfl) ?_
  refine p_row (W1 := fun y => Wm G g q I0 J0 y L0) (n := 36) F hK hP hD hS 41 (Wm_at41 G g q I0 J0 R0 L0) (in_of (by omega)) dX12_aloneOf_13 (Wm_rowR36 G g q I0 J0 R0 L0) (fun R37 H locs eR37 hP hD hS => ?_)
  have hvR : InvR Wm_rl R37 := inv_upR hvR 36 eR37 (upd_in (hvR 36 (by decide)) (full _))
  have hsR := smF_up hsR eR37 (by decide)
  refine lv_iconst (v := 0) hx hb dX12_aloneOf_14 (by decide) ?_
  refine lv_istore (lv' := [(4, .int 0), (3, .int x36), (0, .ref (g 45)), (1, .int p1), (2, .int p2)]) hx hb dX12_aloneOf_15 hl (by decide) rfl (fun ls hl => ?_)
  refine lv_iconst (v := 0) hx hb dX12_aloneOf_17 (by decide) ?_
  refine lv_istore (lv' := [(5, .int 0), (4, .int 0), (3, .int x36), (0, .ref (g 45)), (1, .int p1), (2, .int p2)]) hx hb dX12_aloneOf_18 hl (by decide) rfl (fun ls hl => ?_)
  exact lab_20 6 x36 0 0 I0 J0 R37 L0 _ _ _ (show (5 - 0) < ((6 : Nat) : Int) from by omega) hvI hvR hsI hsR (by decide) hP hD hS (lv_sub hl [3, 4, 2, 1, 0] rfl)
set_option maxHeartbeats 4000000 in
set_option maxRecDepth 100000 in
theorem s_X12_alone (l : Launch) (G : Gx) (g q : Nat → Nat) (I0 : Nat → Int32) (J0 : Nat → Int64) (R0 : Nat → Nat → Int32) (L0 : Nat → Nat → Int64) (hvI : InvI Wm_lo Wm_hi I0) (hvR : InvR Wm_rl R0)  (p1 : Int32)  : CtI (S := St) l yX12_alone cX12_alone 2 (some .int) (rmD 6 0 0) G [.ref (g 45), .int p1] (Wm G g q I0 J0 R0 L0) (fun r u => InvI Wm_lo Wm_hi u.1 ∧ InvR Wm_rl u.2.2.1 ∧ SmF ([] : List Nat) I0 u.1 ∧ SmF ([36] : List Nat) R0 u.2.2.1) (fun u => Wm G g q u.1 u.2.1 u.2.2.1 u.2.2.2) := by
  refine ctI_of (own := RX12) (by decide +kernel) rfl (Nat.le_of_ble_eq_true rfl) ?_
  intro p e s m below meth c A ls F hr hlk hnm hK hP hD hA hS hl
  have hx := F.1
  have hb := F.2.1
  have hown := F.2.2.2.1
  have hl : lv_has ls 2 [(0, .ref (g 45)), (1, .int p1)] := hl
  obtain ⟨Q, hQ⟩ : ∃ Q : State → Prop, Q = MQ below (va_Qi (S := St) (fun r u => InvI Wm_lo Wm_hi u.1 ∧ InvR Wm_rl u.2.2.1 ∧ SmF ([] : List Nat) I0 u.1 ∧ SmF ([36] : List Nat) R0 u.2.2.1) (BX G A (fun u => Wm G g q u.1 u.2.1 u.2.2.1 u.2.2.2)) A) [.ref (g 45), .int p1].toArray s 0 0 A := ⟨_, rfl⟩
  rw [show (MQ below (va_Qi (S := St) (fun r u => InvI Wm_lo Wm_hi u.1 ∧ InvR Wm_rl u.2.2.1 ∧ SmF ([] : List Nat) I0 u.1 ∧ SmF ([36] : List Nat) R0 u.2.2.1) (BX G A (fun u => Wm G g q u.1 u.2.1 u.2.2.1 u.2.2.2)) A) [.ref (g 45), .int p1].toArray s (rmD 6 0 0).cells (rmD 6 0 0).slots A) = Q from hQ.symm]
  have hsI := smF_rf ([] : List Nat) I0
  have hsR := smF_rf ([36] : List Nat) R0
  have hvI0 := hvI
  refine lv_aload_n hx hb dX12_alone_0 rfl (lv_at hl 0 rfl) ?_
  refine lv_iload_n hx hb dX12_alone_1 rfl (lv_at hl 1 rfl) ?_
  refine wvi (As := [.int p1]) (rest := []) (b := (g 45)) (d := 2) F hK hP hD hS hA (s_X12_isPerson l G g q I0 J0 R0 L0 hvI hvR  p1 ) kmV_X12_isPerson mlX12_466 clX12 rfl 0 (Wm_at0 G g q I0 J0 R0 L0) ⟨(Nat.le_of_ble_eq_true rfl), (Nat.le_of_ble_eq_true rfl)⟩ hl.1 rfl (Nat.le_of_ble_eq_true rfl) dX12_alone_2 (fun r1 u2 H locs hwr1 hP hD hS => ?_)
  obtain ⟨F0r1, F1r1⟩ := hwr1
  replace F0r1 : ((0 : Int) ≤ r1.toInt ∧ r1.toInt ≤ (1 : Int)) := F0r1
  replace F1r1 : (r1.toInt = 1 → (0 ≤ p1.toInt ∧ p1.toInt ≤ 11)) := F1r1
  refine lv_if_eq (tgt := 22) hx hb dX12_alone_5 (by decide) (fun c3 => ?_) (fun c3 => ?_)
  · have gc3 : r1.toInt = 0 := congrArg Int32.toInt c3
    refine lv_ldcw hx hb hown (F.2.2.2.2 _ cnX12_538) dX12_alone_22 ?_
    rw [hQ]
    exact q_i F hr hlk (I0, J0, R0, L0) hP hD hS ⟨hvI, hvR, hsI, hsR⟩ dX12_alone_25 (Nat.le_of_ble_eq_true rfl) (Nat.le_of_ble_eq_true rfl)
  · have gc3 : ¬ (r1.toInt = 0) := fun q0 => c3 (Int32.toInt_inj.mp q0)
    refine lv_aload_n hx hb dX12_alone_8 rfl (lv_at hl 0 rfl) ?_
    refine lv_iload_n hx hb dX12_alone_9 rfl (lv_at hl 1 rfl) ?_
    refine lv_aload_n hx hb dX12_alone_10 rfl (lv_at hl 0 rfl) ?_
    refine g_get F hK hP 0 (Wm_at0 G g q I0 J0 R0 L0) clX12 58 (by decide) flX12_189 rfl dX12_alone_11 ?_
    refine lv_iload_n hx hb dX12_alone_14 rfl (lv_at hl 1 rfl) ?_
    refine g_iald F hK hP 41 (Wm_at41 G g q I0 J0 R0 L0) (in_of (by omega)) dX12_alone_15 rfl ?_
    refine lv_topi (fun x4 ex4 => ?_)
    have gx4 : x4.toInt = (R0 36 (Int32.toNatClampNeg p1)).toInt := congrArg Int32.toInt (ex4)
    refine wvi (As := [.int p1, .int x4]) (rest := []) (b := (g 45)) (d := 5) F hK hP hD hS hA (s_X12_aloneOf l G g q I0 J0 R0 L0 hvI hvR  p1 x4 (show ((0 : Int) ≤ p1.toInt ∧ p1.toInt ≤ (11 : Int)) from by omega)) kmV_X12_aloneOf mlX12_577 clX12 rfl 0 (Wm_at0 G g q I0 J0 R0 L0) ⟨(Nat.le_of_ble_eq_true rfl), (Nat.le_of_ble_eq_true rfl)⟩ hl.1 rfl (Nat.le_of_ble_eq_true rfl) dX12_alone_16 (fun r5 u6 H locs hwr5 hP hD hS => ?_)
    obtain ⟨I7, J8, R9, L10⟩ := u6
    replace hP : va_P G.1 vwCl (Wm G g q I7 J8 R9 L10) H := hP
    replace hD : va_D A (Wm G g q I7 J8 R9 L10) := hD
    obtain ⟨hvI, hvR, tIr5, tRr5⟩ := hwr5
    replace hvI : InvI Wm_lo Wm_hi I7 := hvI
    replace hvR : InvR Wm_rl R9 := hvR
    replace tIr5 : SmF ([] : List Nat) I0 I7 := tIr5
    replace tRr5 : SmF ([36] : List Nat) R0 R9 := tRr5
    have hv_I7 := hvI
    have hsI := smF_tr hsI tIr5 (by decide)
    have hsR := smF_tr hsR tRr5 (by decide)
    refine lv_goto (tgt := 25) hx hb dX12_alone_19 (by decide) ?_
    rw [hQ]
    exact q_i F hr hlk (I7, J8, R9, L10) hP hD hS ⟨hvI, hvR, hsI, hsR⟩ dX12_alone_25 (Nat.le_of_ble_eq_true rfl) (Nat.le_of_ble_eq_true rfl)
set_option maxHeartbeats 4000000 in
set_option maxRecDepth 100000 in
theorem s_X12_wrong (l : Launch) (G : Gx) (g q : Nat → Nat) (I0 : Nat → Int32) (J0 : Nat → Int64) (R0 : Nat → Nat → Int32) (L0 : Nat → Nat → Int64) (hvI : InvI Wm_lo Wm_hi I0) (hvR : InvR Wm_rl R0)  (p1 : Int32) (p2 : Int32) (p3 : Int32) (hp1 : ((1 : Int) ≤ p1.toInt ∧ p1.toInt ≤ (4 : Int))) (hp2 : ((0 : Int) ≤ p2.toInt ∧ p2.toInt ≤ (11 : Int))) (hp3 : ((-1 : Int) ≤ p3.toInt ∧ p3.toInt ≤ (4 : Int))) : CtV (S := St) l yX12_wrong cX12_wrong 4 none (rmD 1 0 0) G [.ref (g 45), .int p1, .int p2, .int p3] (Wm G g q I0 J0 R0 L0) (fun u => InvI Wm_lo Wm_hi u.1 ∧ InvR Wm_rl u.2.2.1 ∧ SmF ([17, 18, 19] : List Nat) I0 u.1 ∧ SmF ([] : List Nat) R0 u.2.2.1) (fun u => Wm G g q u.1 u.2.1 u.2.2.1 u.2.2.2) := by
  refine ctV_of (own := RX12) (by decide +kernel) rfl (Nat.le_of_ble_eq_true rfl) ?_
  intro p e s m below meth c A ls F hr hlk hnm hK hP hD hA hS hl
  have hx := F.1
  have hb := F.2.1
  have hown := F.2.2.2.1
  have hl : lv_has ls 4 [(0, .ref (g 45)), (1, .int p1), (2, .int p2), (3, .int p3)] := hl
  obtain ⟨Q, hQ⟩ : ∃ Q : State → Prop, Q = MQ below (va_Qv (S := St) (fun u => InvI Wm_lo Wm_hi u.1 ∧ InvR Wm_rl u.2.2.1 ∧ SmF ([17, 18, 19] : List Nat) I0 u.1 ∧ SmF ([] : List Nat) R0 u.2.2.1) (BX G A (fun u => Wm G g q u.1 u.2.1 u.2.2.1 u.2.2.2)) A) [.ref (g 45), .int p1, .int p2, .int p3].toArray s 0 0 A := ⟨_, rfl⟩
  rw [show (MQ below (va_Qv (S := St) (fun u => InvI Wm_lo Wm_hi u.1 ∧ InvR Wm_rl u.2.2.1 ∧ SmF ([17, 18, 19] : List Nat) I0 u.1 ∧ SmF ([] : List Nat) R0 u.2.2.1) (BX G A (fun u => Wm G g q u.1 u.2.1 u.2.2.1 u.2.2.2)) A) [.ref (g 45), .int p1, .int p2, .int p3].toArray s (rmD 1 0 0).cells (rmD 1 0 0).slots A) = Q from hQ.symm]
  have hsI := smF_rf ([17, 18, 19] : List Nat) I0
  have hsR := smF_rf ([] : List Nat) R0
  have hvI0 := hvI
  refine lv_aload_n hx hb dX12_wrong_0 rfl (lv_at hl 0 rfl) ?_
  refine g_get F hK hP 0 (Wm_at0 G g q I0 J0 R0 L0) clX12 59 (by decide) flX12_192 rfl dX12_wrong_1 ?_
  refine lv_if_le (tgt := 8) hx hb dX12_wrong_4 (by decide) (fun c1 => ?_) (fun c1 => ?_)
  · have gc1 : (I0 17).toInt ≤ 0 := (tle _ _).mp c1
    refine lv_aload_n hx hb dX12_wrong_8 rfl (lv_at hl 0 rfl) ?_
    refine lv_iload_n hx hb dX12_wrong_9 rfl (lv_at hl 1 rfl) ?_
    refine p_fld (W1 := fun y => Wm G g q y J0 R0 L0) (n := 17) (v := p1) F hK hP hD hS 0 (Wm_at0 G g q I0 J0 R0 L0) clX12 59 (by decide) flX12_192 rfl rfl rfl (Nat.le_of_ble_eq_true rfl) dX12_wrong_10 (Wm_setI17 G g q I0 J0 R0 L0 _) (fun I2 H locs eI2 hP hD hS => ?_)
    have hvI : InvI Wm_lo Wm_hi I2 := inv_upI hvI 17 eI2 (full _)
    have hsI := smF_up hsI eI2 (by decide)
    have hv_I2 := hvI
    refine lv_aload_n hx hb dX12_wrong_13 rfl (lv_at hl 0 rfl) ?_
    refine lv_iload_n hx hb dX12_wrong_14 rfl (lv_at hl 2 rfl) ?_
    refine p_fld (W1 := fun y => Wm G g q y J0 R0 L0) (n := 18) (v := p2) F hK hP hD hS 0 (Wm_at0 G g q I2 J0 R0 L0) clX12 60 (by decide) flX12_195 rfl rfl rfl (Nat.le_of_ble_eq_true rfl) dX12_wrong_15 (Wm_setI18 G g q I2 J0 R0 L0 _) (fun I3 H locs eI3 hP hD hS => ?_)
    have hvI : InvI Wm_lo Wm_hi I3 := inv_upI hvI 18 eI3 (full _)
    have hsI := smF_up hsI eI3 (by decide)
    have hv_I3 := hvI
    refine lv_aload_n hx hb dX12_wrong_18 rfl (lv_at hl 0 rfl) ?_
    refine lv_iload_n hx hb dX12_wrong_19 rfl (lv_at hl 3 rfl) ?_
    refine p_fld (W1 := fun y => Wm G g q y J0 R0 L0) (n := 19) (v := p3) F hK hP hD hS 0 (Wm_at0 G g q I3 J0 R0 L0) clX12 61 (by decide) flX12_198 rfl rfl rfl (Nat.le_of_ble_eq_true rfl) dX12_wrong_20 (Wm_setI19 G g q I3 J0 R0 L0 _) (fun I4 H locs eI4 hP hD hS => ?_)
    have hvI : InvI Wm_lo Wm_hi I4 := inv_upI hvI 19 eI4 (full _)
    have hsI := smF_up hsI eI4 (by decide)
    have hv_I4 := hvI
    rw [hQ]
    exact q_v F hr hlk (I4, J0, R0, L0) hP hD hS ⟨hvI, hvR, hsI, hsR⟩ dX12_wrong_23 (Nat.le_of_ble_eq_true rfl) (Nat.le_of_ble_eq_true rfl)
  · have gc1 : ¬ ((I0 17).toInt ≤ 0) := fun q0 => c1 ((tle _ _).mpr q0)
    rw [hQ]
    exact q_v F hr hlk (I0, J0, R0, L0) hP hD hS ⟨hvI, hvR, hsI, hsR⟩ dX12_wrong_7 (Nat.le_of_ble_eq_true rfl) (Nat.le_of_ble_eq_true rfl)
set_option maxHeartbeats 4000000 in
set_option maxRecDepth 100000 in
theorem s_X12_holds (l : Launch) (G : Gx) (g q : Nat → Nat) (I0 : Nat → Int32) (J0 : Nat → Int64) (R0 : Nat → Nat → Int32) (L0 : Nat → Nat → Int64) (hvI : InvI Wm_lo Wm_hi I0) (hvR : InvR Wm_rl R0)    : CtI (S := St) l yX12_holds cX12_holds 3 (some .boolean) (rmD 5 0 0) G [.ref (g 45)] (Wm G g q I0 J0 R0 L0) (fun r u => InvI Wm_lo Wm_hi u.1 ∧ InvR Wm_rl u.2.2.1 ∧ SmF ([17, 18, 19] : List Nat) I0 u.1 ∧ SmF ([] : List Nat) R0 u.2.2.1 ∧ ((0 : Int) ≤ r.toInt ∧ r.toInt ≤ (1 : Int))) (fun u => Wm G g q u.1 u.2.1 u.2.2.1 u.2.2.2) := by
  refine ctI_of (own := RX12) (by decide +kernel) rfl (Nat.le_of_ble_eq_true rfl) ?_
  intro p e s m below meth c A ls F hr hlk hnm hK hP hD hA hS hl
  have hx := F.1
  have hb := F.2.1
  have hown := F.2.2.2.1
  have hl : lv_has ls 3 [(0, .ref (g 45))] := hl
  obtain ⟨Q, hQ⟩ : ∃ Q : State → Prop, Q = MQ below (va_Qi (S := St) (fun r u => InvI Wm_lo Wm_hi u.1 ∧ InvR Wm_rl u.2.2.1 ∧ SmF ([17, 18, 19] : List Nat) I0 u.1 ∧ SmF ([] : List Nat) R0 u.2.2.1 ∧ ((0 : Int) ≤ r.toInt ∧ r.toInt ≤ (1 : Int))) (BX G A (fun u => Wm G g q u.1 u.2.1 u.2.2.1 u.2.2.2)) A) [.ref (g 45)].toArray s 0 0 A := ⟨_, rfl⟩
  rw [show (MQ below (va_Qi (S := St) (fun r u => InvI Wm_lo Wm_hi u.1 ∧ InvR Wm_rl u.2.2.1 ∧ SmF ([17, 18, 19] : List Nat) I0 u.1 ∧ SmF ([] : List Nat) R0 u.2.2.1 ∧ ((0 : Int) ≤ r.toInt ∧ r.toInt ≤ (1 : Int))) (BX G A (fun u => Wm G g q u.1 u.2.1 u.2.2.1 u.2.2.2)) A) [.ref (g 45)].toArray s (rmD 5 0 0).cells (rmD 5 0 0).slots A) = Q from hQ.symm]
  have hsI := smF_rf ([17, 18, 19] : List Nat) I0
  have hsR := smF_rf ([] : List Nat) R0
  have hvI0 := hvI
  have lab_171 : ∀ (k_171 : Nat) (a1_171 : Int32) (I_171 : Nat → Int32) (J_171 : Nat → Int64) (R_171 : Nat → Nat → Int32) (L_171 : Nat → Nat → Int64) (H : Heap) (locs : List Loc) (ls : Array Slot), ((6 - a1_171.toInt) < (k_171 : Int)) → InvI Wm_lo Wm_hi I_171 → InvR Wm_rl R_171 → SmF ([17, 18, 19] : List Nat) I0 I_171 → SmF ([] : List Nat) R0 R_171 → ((0 : Int) ≤ a1_171.toInt ∧ a1_171.toInt ≤ (6 : Int)) → va_P G.1 vwCl (Wm G g q I_171 J_171 R_171 L_171) H → va_D A (Wm G g q I_171 J_171 R_171 L_171) → va_S A s.heap H locs → lv_has ls 3 [(0, .ref (g 45)), (1, .int a1_171)] → W p l e (rmD 5 0 0) s m [.ref (g 45)].toArray below meth c H locs 0 0 Q (F0 m 171 ls []) := by
    intro k_171
    induction k_171 with
    | zero =>
      intro a1_171 I_171 J_171 R_171 L_171 H locs ls hm hvI hvR hsI hsR y0_171 hP hD hS hl
      have hv_I_171 := hvI
      exact absurd hm (by omega)
    | succ k_171 ih_171 =>
      intro a1_171 I_171 J_171 R_171 L_171 H locs ls hm hvI hvR hsI hsR y0_171 hP hD hS hl
      have hv_I_171 := hvI
      have lab_216 : ∀  (I_216 : Nat → Int32) (J_216 : Nat → Int64) (R_216 : Nat → Nat → Int32) (L_216 : Nat → Nat → Int64) (H : Heap) (locs : List Loc) (ls : Array Slot), InvI Wm_lo Wm_hi I_216 → InvR Wm_rl R_216 → SmF ([17, 18, 19] : List Nat) I0 I_216 → SmF ([] : List Nat) R0 R_216 → ((0 : Int) ≤ a1_171.toInt ∧ a1_171.toInt ≤ (5 : Int)) → va_P G.1 vwCl (Wm G g q I_216 J_216 R_216 L_216) H → va_D A (Wm G g q I_216 J_216 R_216 L_216) → va_S A s.heap H locs → lv_has ls 3 [(0, .ref (g 45)), (1, .int a1_171)] → W p l e (rmD 5 0 0) s m [.ref (g 45)].toArray below meth c H locs 0 0 Q (F0 m 216 ls []) := by
        intro I_216 J_216 R_216 L_216 H locs ls hvI hvR hsI hsR y0_216 hP hD hS hl
        have hv_I_216 := hvI
        obtain ⟨x1, ex1⟩ : ∃ y : Int32, y = a1_171 + 1 := ⟨_, rfl⟩
        have fx1 : x1.toInt = a1_171.toInt + (1 : Int) := by rw [ex1]; exact t_add (by show (-2147483648 : Int) ≤ a1_171.toInt + (1 : Int); omega) (by show a1_171.toInt + (1 : Int) ≤ 2147483647; omega)
        refine lv_iinc (v := x1) (lv' := [(1, .int x1), (0, .ref (g 45))]) hx hb dX12_holds_216 hl (k := 1) rfl (by rw [ex1]; rfl) (by decide) rfl (fun ls hl => ?_)
        refine lv_goto (tgt := 171) hx hb dX12_holds_219 (by decide) ?_
        exact ih_171 x1 I_216 J_216 R_216 L_216 _ _ _ (show (6 - x1.toInt) < (k_171 : Int) from by omega) hvI hvR hsI hsR (show ((0 : Int) ≤ x1.toInt ∧ x1.toInt ≤ (6 : Int)) from by omega) hP hD hS (lv_sub hl [1, 0] rfl)
      refine lv_iload_n hx hb dX12_holds_171 rfl (lv_at hl 1 rfl) ?_
      refine lv_aload_n hx hb dX12_holds_172 rfl (lv_at hl 0 rfl) ?_
      refine g_get F hK hP 0 (Wm_at0 G g q I_171 J_171 R_171 L_171) clX12 18 (by decide) flX12_67 rfl dX12_holds_173 ?_
      refine lv_aload_n hx hb dX12_holds_176 rfl (lv_at hl 0 rfl) ?_
      refine g_get F hK hP 0 (Wm_at0 G g q I_171 J_171 R_171 L_171) clX12 12 (by decide) flX12_48 rfl dX12_holds_177 ?_
      refine cst_i (hsI 10 rfl) ?_
      have w_I0_10 := rg (hvI0 10 (by decide)) (0) (1) rfl rfl
      refine g_iald F hK hP 7 (Wm_at7 G g q I_171 J_171 R_171 L_171) (in_of (by omega)) dX12_holds_180 rfl ?_
      refine lv_topi (fun x2 ex2 => ?_)
      have gx2 : x2.toInt = (R0 5 (Int32.toNatClampNeg (I0 10))).toInt := congrArg Int32.toInt ((ex2).trans (congrFun (hsR 5 rfl) _))
      have fx2 : ((0 : Int) ≤ x2.toInt ∧ x2.toInt ≤ (6 : Int)) := by rw [ex2]; exact hvR 5 (by decide) _ (clamp_lt (n := 2) (in_of (by omega)))
      refine lv_icmp_ge (tgt := 222) hx hb dX12_holds_181 (by decide) (fun c3 => ?_) (fun c3 => ?_)
      · have gc3 : x2.toInt ≤ a1_171.toInt := (tle _ _).mp c3
        refine lv_aload_n hx hb dX12_holds_222 rfl (lv_at hl 0 rfl) ?_
        refine g_get F hK hP 0 (Wm_at0 G g q I_171 J_171 R_171 L_171) clX12 59 (by decide) flX12_192 rfl dX12_holds_223 ?_
        refine lv_if_ne (tgt := 233) hx hb dX12_holds_226 (by decide) (fun c4 => ?_) (fun c4 => ?_)
        · have gc4 : ¬ ((I_171 17).toInt = 0) := fun q0 => c4 (Int32.toInt_inj.mp q0)
          refine lv_iconst (v := 0) hx hb dX12_holds_233 (by decide) ?_
          rw [hQ]
          exact q_z F hr hlk (I_171, J_171, R_171, L_171) hP hD hS ⟨hvI, hvR, hsI, hsR, (show ((0 : Int) ≤ 0 ∧ 0 ≤ (1 : Int)) from by omega)⟩ dX12_holds_234 (Nat.le_of_ble_eq_true rfl) (Nat.le_of_ble_eq_true rfl) (nar01 (by decide))
        · have gc4 : (I_171 17).toInt = 0 := congrArg Int32.toInt c4
          refine lv_iconst (v := 1) hx hb dX12_holds_229 (by decide) ?_
          refine lv_goto (tgt := 234) hx hb dX12_holds_230 (by decide) ?_
          rw [hQ]
          exact q_z F hr hlk (I_171, J_171, R_171, L_171) hP hD hS ⟨hvI, hvR, hsI, hsR, (show ((0 : Int) ≤ 1 ∧ 1 ≤ (1 : Int)) from by omega)⟩ dX12_holds_234 (Nat.le_of_ble_eq_true rfl) (Nat.le_of_ble_eq_true rfl) (nar01 (by decide))
      · have gc3 : ¬ (x2.toInt ≤ a1_171.toInt) := fun q0 => c3 ((tle _ _).mpr q0)
        refine lv_aload_n hx hb dX12_holds_184 rfl (lv_at hl 0 rfl) ?_
        refine g_get F hK hP 0 (Wm_at0 G g q I_171 J_171 R_171 L_171) clX12 20 (by decide) flX12_73 rfl dX12_holds_185 ?_
        refine lv_bipush (v := 6) hx hb dX12_holds_188 (by decide) ?_
        refine lv_aload_n hx hb dX12_holds_190 rfl (lv_at hl 0 rfl) ?_
        refine g_get F hK hP 0 (Wm_at0 G g q I_171 J_171 R_171 L_171) clX12 12 (by decide) flX12_48 rfl dX12_holds_191 ?_
        refine cst_i (hsI 10 rfl) ?_
        refine lv_imul hx hb dX12_holds_194 ?_
        refine lv_topi (fun x5 ex5 => ?_)
        have fx5 : x5.toInt = 6 * (I0 10).toInt := by rw [ex5]; exact t_mul (by show (-2147483648 : Int) ≤ 6 * (I0 10).toInt; omega) (by show 6 * (I0 10).toInt ≤ 2147483647; omega)
        refine lv_iload_n hx hb dX12_holds_195 rfl (lv_at hl 1 rfl) ?_
        refine lv_iadd hx hb dX12_holds_196 ?_
        refine lv_topi (fun x6 ex6 => ?_)
        have fx6 : x6.toInt = x5.toInt + a1_171.toInt := by rw [ex6]; exact t_add (by show (-2147483648 : Int) ≤ x5.toInt + a1_171.toInt; omega) (by show x5.toInt + a1_171.toInt ≤ 2147483647; omega)
        refine g_zald F hK hP 9 (Wm_at9 G g q I_171 J_171 R_171 L_171) (in_of (by omega)) dX12_holds_197 rfl ?_
        refine lv_topi (fun x7 ex7 => ?_)
        have gx7 : x7.toInt = (R0 6 (Int32.toNatClampNeg x6)).toInt := congrArg Int32.toInt ((ex7).trans (congrFun (hsR 6 rfl) _))
        have fx7 : ((0 : Int) ≤ x7.toInt ∧ x7.toInt ≤ (1 : Int)) := by rw [ex7]; exact hvR 6 (by decide) _ (clamp_lt (n := 12) (in_of (by omega)))
        refine lv_if_eq (tgt := 216) hx hb dX12_holds_198 (by decide) (fun c8 => ?_) (fun c8 => ?_)
        · have gc8 : x7.toInt = 0 := congrArg Int32.toInt c8
          exact lab_216  I_171 J_171 R_171 L_171 _ _ _ hvI hvR hsI hsR (show ((0 : Int) ≤ a1_171.toInt ∧ a1_171.toInt ≤ (5 : Int)) from by omega) hP hD hS (lv_sub hl [0, 1] rfl)
        · have gc8 : ¬ (x7.toInt = 0) := fun q0 => c8 (Int32.toInt_inj.mp q0)
          refine lv_aload_n hx hb dX12_holds_201 rfl (lv_at hl 0 rfl) ?_
          refine lv_iload_n hx hb dX12_holds_202 rfl (lv_at hl 1 rfl) ?_
          refine wvi (As := [.int a1_171]) (rest := []) (b := (g 45)) (d := 1) F hK hP hD hS hA (s_X12_together l G g q I_171 J_171 R_171 L_171 hvI hvR  a1_171 (show ((0 : Int) ≤ a1_171.toInt ∧ a1_171.toInt ≤ (5 : Int)) from by omega)) kmV_X12_together mlX12_504 clX12 rfl 0 (Wm_at0 G g q I_171 J_171 R_171 L_171) ⟨(Nat.le_of_ble_eq_true rfl), (Nat.le_of_ble_eq_true rfl)⟩ hl.1 rfl (Nat.le_of_ble_eq_true rfl) dX12_holds_203 (fun r9 u10 H locs hwr9 hP hD hS => ?_)
          refine lv_if_ne (tgt := 216) hx hb dX12_holds_206 (by decide) (fun c11 => ?_) (fun c11 => ?_)
          · have gc11 : ¬ (r9.toInt = 0) := fun q0 => c11 (Int32.toInt_inj.mp q0)
            exact lab_216  I_171 J_171 R_171 L_171 _ _ _ hvI hvR hsI hsR (show ((0 : Int) ≤ a1_171.toInt ∧ a1_171.toInt ≤ (5 : Int)) from by omega) hP hD hS (lv_sub hl [0, 1] rfl)
          · have gc11 : r9.toInt = 0 := congrArg Int32.toInt c11
            refine lv_aload_n hx hb dX12_holds_209 rfl (lv_at hl 0 rfl) ?_
            refine lv_iconst (v := 4) hx hb dX12_holds_210 (by decide) ?_
            refine lv_iload_n hx hb dX12_holds_211 rfl (lv_at hl 1 rfl) ?_
            refine lv_iconst (v := (-1)) hx hb dX12_holds_212 (by decide) ?_
            refine wvv (As := [.int 4, .int a1_171, .int (-1)]) (rest := []) (b := (g 45)) (d := 1) F hK hP hD hS hA (s_X12_wrong l G g q I_171 J_171 R_171 L_171 hvI hvR  4 a1_171 ((-1)) (by decide) (show ((0 : Int) ≤ a1_171.toInt ∧ a1_171.toInt ≤ (11 : Int)) from by omega) (by decide)) kmV_X12_wrong mlX12_500 clX12 rfl 0 (Wm_at0 G g q I_171 J_171 R_171 L_171) ⟨(Nat.le_of_ble_eq_true rfl), (Nat.le_of_ble_eq_true rfl)⟩ hl.1 rfl (Nat.le_of_ble_eq_true rfl) dX12_holds_213 (fun u13 H locs hwr12 hP hD hS => ?_)
            obtain ⟨I14, J15, R16, L17⟩ := u13
            replace hP : va_P G.1 vwCl (Wm G g q I14 J15 R16 L17) H := hP
            replace hD : va_D A (Wm G g q I14 J15 R16 L17) := hD
            obtain ⟨hvI, hvR, tIr12, tRr12⟩ := hwr12
            replace hvI : InvI Wm_lo Wm_hi I14 := hvI
            replace hvR : InvR Wm_rl R16 := hvR
            replace tIr12 : SmF ([17, 18, 19] : List Nat) I_171 I14 := tIr12
            replace tRr12 : SmF ([] : List Nat) R_171 R16 := tRr12
            have hv_I14 := hvI
            have hsI := smF_tr hsI tIr12 (by decide)
            have hsR := smF_tr hsR tRr12 (by decide)
            exact lab_216  I14 J15 R16 L17 _ _ _ hvI hvR hsI hsR (show ((0 : Int) ≤ a1_171.toInt ∧ a1_171.toInt ≤ (5 : Int)) from by omega) hP hD hS (lv_sub hl [0, 1] rfl)
  have lab_143 : ∀ (k_143 : Nat) (a1_143 : Int32) (I_143 : Nat → Int32) (J_143 : Nat → Int64) (R_143 : Nat → Nat → Int32) (L_143 : Nat → Nat → Int64) (H : Heap) (locs : List Loc) (ls : Array Slot), ((5 - a1_143.toInt) < (k_143 : Int)) → InvI Wm_lo Wm_hi I_143 → InvR Wm_rl R_143 → SmF ([17, 18, 19] : List Nat) I0 I_143 → SmF ([] : List Nat) R0 R_143 → ((0 : Int) ≤ a1_143.toInt ∧ a1_143.toInt ≤ (5 : Int)) → va_P G.1 vwCl (Wm G g q I_143 J_143 R_143 L_143) H → va_D A (Wm G g q I_143 J_143 R_143 L_143) → va_S A s.heap H locs → lv_has ls 3 [(0, .ref (g 45)), (1, .int a1_143)] → W p l e (rmD 5 0 0) s m [.ref (g 45)].toArray below meth c H locs 0 0 Q (F0 m 143 ls []) := by
    intro k_143
    induction k_143 with
    | zero =>
      intro a1_143 I_143 J_143 R_143 L_143 H locs ls hm hvI hvR hsI hsR y0_143 hP hD hS hl
      have hv_I_143 := hvI
      exact absurd hm (by omega)
    | succ k_143 ih_143 =>
      intro a1_143 I_143 J_143 R_143 L_143 H locs ls hm hvI hvR hsI hsR y0_143 hP hD hS hl
      have hv_I_143 := hvI
      have lab_163 : ∀  (I_163 : Nat → Int32) (J_163 : Nat → Int64) (R_163 : Nat → Nat → Int32) (L_163 : Nat → Nat → Int64) (H : Heap) (locs : List Loc) (ls : Array Slot), InvI Wm_lo Wm_hi I_163 → InvR Wm_rl R_163 → SmF ([17, 18, 19] : List Nat) I0 I_163 → SmF ([] : List Nat) R0 R_163 → ((0 : Int) ≤ a1_143.toInt ∧ a1_143.toInt ≤ (4 : Int)) → va_P G.1 vwCl (Wm G g q I_163 J_163 R_163 L_163) H → va_D A (Wm G g q I_163 J_163 R_163 L_163) → va_S A s.heap H locs → lv_has ls 3 [(0, .ref (g 45)), (1, .int a1_143)] → W p l e (rmD 5 0 0) s m [.ref (g 45)].toArray below meth c H locs 0 0 Q (F0 m 163 ls []) := by
        intro I_163 J_163 R_163 L_163 H locs ls hvI hvR hsI hsR y0_163 hP hD hS hl
        have hv_I_163 := hvI
        obtain ⟨x18, ex18⟩ : ∃ y : Int32, y = a1_143 + 1 := ⟨_, rfl⟩
        have fx18 : x18.toInt = a1_143.toInt + (1 : Int) := by rw [ex18]; exact t_add (by show (-2147483648 : Int) ≤ a1_143.toInt + (1 : Int); omega) (by show a1_143.toInt + (1 : Int) ≤ 2147483647; omega)
        refine lv_iinc (v := x18) (lv' := [(1, .int x18), (0, .ref (g 45))]) hx hb dX12_holds_163 hl (k := 1) rfl (by rw [ex18]; rfl) (by decide) rfl (fun ls hl => ?_)
        refine lv_goto (tgt := 143) hx hb dX12_holds_166 (by decide) ?_
        exact ih_143 x18 I_163 J_163 R_163 L_163 _ _ _ (show (5 - x18.toInt) < (k_143 : Int) from by omega) hvI hvR hsI hsR (show ((0 : Int) ≤ x18.toInt ∧ x18.toInt ≤ (5 : Int)) from by omega) hP hD hS (lv_sub hl [1, 0] rfl)
      refine lv_iload_n hx hb dX12_holds_143 rfl (lv_at hl 1 rfl) ?_
      refine lv_iconst (v := 5) hx hb dX12_holds_144 (by decide) ?_
      refine lv_icmp_ge (tgt := 169) hx hb dX12_holds_145 (by decide) (fun c19 => ?_) (fun c19 => ?_)
      · have gc19 : 5 ≤ a1_143.toInt := (tle _ _).mp c19
        refine lv_iconst (v := 0) hx hb dX12_holds_169 (by decide) ?_
        refine lv_istore_n (lv' := [(1, .int 0), (0, .ref (g 45))]) hx hb dX12_holds_170 rfl hl (by decide) rfl (fun ls hl => ?_)
        exact lab_171 7 0 I_143 J_143 R_143 L_143 _ _ _ (show (6 - 0) < ((7 : Nat) : Int) from by omega) hvI hvR hsI hsR (by decide) hP hD hS (lv_sub hl [1, 0] rfl)
      · have gc19 : ¬ (5 ≤ a1_143.toInt) := fun q0 => c19 ((tle _ _).mpr q0)
        refine lv_aload_n hx hb dX12_holds_148 rfl (lv_at hl 0 rfl) ?_
        refine lv_iload_n hx hb dX12_holds_149 rfl (lv_at hl 1 rfl) ?_
        refine wvi (As := [.int a1_143]) (rest := []) (b := (g 45)) (d := 4) F hK hP hD hS hA (s_X12_standOn l G g q I_143 J_143 R_143 L_143 hvI hvR  a1_143 (show ((0 : Int) ≤ a1_143.toInt ∧ a1_143.toInt ≤ (4 : Int)) from by omega)) kmV_X12_standOn mlX12_494 clX12 rfl 0 (Wm_at0 G g q I_143 J_143 R_143 L_143) ⟨(Nat.le_of_ble_eq_true rfl), (Nat.le_of_ble_eq_true rfl)⟩ hl.1 rfl (Nat.le_of_ble_eq_true rfl) dX12_holds_150 (fun r20 u21 H locs hwr20 hP hD hS => ?_)
        refine lv_if_le (tgt := 163) hx hb dX12_holds_153 (by decide) (fun c22 => ?_) (fun c22 => ?_)
        · have gc22 : r20.toInt ≤ 0 := (tle _ _).mp c22
          exact lab_163  I_143 J_143 R_143 L_143 _ _ _ hvI hvR hsI hsR (show ((0 : Int) ≤ a1_143.toInt ∧ a1_143.toInt ≤ (4 : Int)) from by omega) hP hD hS (lv_sub hl [0, 1] rfl)
        · have gc22 : ¬ (r20.toInt ≤ 0) := fun q0 => c22 ((tle _ _).mpr q0)
          refine lv_aload_n hx hb dX12_holds_156 rfl (lv_at hl 0 rfl) ?_
          refine lv_iconst (v := 3) hx hb dX12_holds_157 (by decide) ?_
          refine lv_iload_n hx hb dX12_holds_158 rfl (lv_at hl 1 rfl) ?_
          refine lv_iconst (v := (-1)) hx hb dX12_holds_159 (by decide) ?_
          refine wvv (As := [.int 3, .int a1_143, .int (-1)]) (rest := []) (b := (g 45)) (d := 1) F hK hP hD hS hA (s_X12_wrong l G g q I_143 J_143 R_143 L_143 hvI hvR  3 a1_143 ((-1)) (by decide) (show ((0 : Int) ≤ a1_143.toInt ∧ a1_143.toInt ≤ (11 : Int)) from by omega) (by decide)) kmV_X12_wrong mlX12_500 clX12 rfl 0 (Wm_at0 G g q I_143 J_143 R_143 L_143) ⟨(Nat.le_of_ble_eq_true rfl), (Nat.le_of_ble_eq_true rfl)⟩ hl.1 rfl (Nat.le_of_ble_eq_true rfl) dX12_holds_160 (fun u24 H locs hwr23 hP hD hS => ?_)
          obtain ⟨I25, J26, R27, L28⟩ := u24
          replace hP : va_P G.1 vwCl (Wm G g q I25 J26 R27 L28) H := hP
          replace hD : va_D A (Wm G g q I25 J26 R27 L28) := hD
          obtain ⟨hvI, hvR, tIr23, tRr23⟩ := hwr23
          replace hvI : InvI Wm_lo Wm_hi I25 := hvI
          replace hvR : InvR Wm_rl R27 := hvR
          replace tIr23 : SmF ([17, 18, 19] : List Nat) I_143 I25 := tIr23
          replace tRr23 : SmF ([] : List Nat) R_143 R27 := tRr23
          have hv_I25 := hvI
          have hsI := smF_tr hsI tIr23 (by decide)
          have hsR := smF_tr hsR tRr23 (by decide)
          exact lab_163  I25 J26 R27 L28 _ _ _ hvI hvR hsI hsR (show ((0 : Int) ≤ a1_143.toInt ∧ a1_143.toInt ≤ (4 : Int)) from by omega) hP hD hS (lv_sub hl [0, 1] rfl)
  have lab_89 : ∀ (k_89 : Nat) (a1_89 : Int32) (I_89 : Nat → Int32) (J_89 : Nat → Int64) (R_89 : Nat → Nat → Int32) (L_89 : Nat → Nat → Int64) (H : Heap) (locs : List Loc) (ls : Array Slot), ((12 - a1_89.toInt) < (k_89 : Int)) → InvI Wm_lo Wm_hi I_89 → InvR Wm_rl R_89 → SmF ([17, 18, 19] : List Nat) I0 I_89 → SmF ([] : List Nat) R0 R_89 → ((0 : Int) ≤ a1_89.toInt ∧ a1_89.toInt ≤ (12 : Int)) → va_P G.1 vwCl (Wm G g q I_89 J_89 R_89 L_89) H → va_D A (Wm G g q I_89 J_89 R_89 L_89) → va_S A s.heap H locs → lv_has ls 3 [(0, .ref (g 45)), (1, .int a1_89)] → W p l e (rmD 5 0 0) s m [.ref (g 45)].toArray below meth c H locs 0 0 Q (F0 m 89 ls []) := by
    intro k_89
    induction k_89 with
    | zero =>
      intro a1_89 I_89 J_89 R_89 L_89 H locs ls hm hvI hvR hsI hsR y0_89 hP hD hS hl
      have hv_I_89 := hvI
      exact absurd hm (by omega)
    | succ k_89 ih_89 =>
      intro a1_89 I_89 J_89 R_89 L_89 H locs ls hm hvI hvR hsI hsR y0_89 hP hD hS hl
      have hv_I_89 := hvI
      have lab_135 : ∀  (I_135 : Nat → Int32) (J_135 : Nat → Int64) (R_135 : Nat → Nat → Int32) (L_135 : Nat → Nat → Int64) (H : Heap) (locs : List Loc) (ls : Array Slot), InvI Wm_lo Wm_hi I_135 → InvR Wm_rl R_135 → SmF ([17, 18, 19] : List Nat) I0 I_135 → SmF ([] : List Nat) R0 R_135 → ((0 : Int) ≤ a1_89.toInt ∧ a1_89.toInt ≤ (11 : Int)) → va_P G.1 vwCl (Wm G g q I_135 J_135 R_135 L_135) H → va_D A (Wm G g q I_135 J_135 R_135 L_135) → va_S A s.heap H locs → lv_has ls 3 [(0, .ref (g 45)), (1, .int a1_89)] → W p l e (rmD 5 0 0) s m [.ref (g 45)].toArray below meth c H locs 0 0 Q (F0 m 135 ls []) := by
        intro I_135 J_135 R_135 L_135 H locs ls hvI hvR hsI hsR y0_135 hP hD hS hl
        have hv_I_135 := hvI
        obtain ⟨x29, ex29⟩ : ∃ y : Int32, y = a1_89 + 1 := ⟨_, rfl⟩
        have fx29 : x29.toInt = a1_89.toInt + (1 : Int) := by rw [ex29]; exact t_add (by show (-2147483648 : Int) ≤ a1_89.toInt + (1 : Int); omega) (by show a1_89.toInt + (1 : Int) ≤ 2147483647; omega)
        refine lv_iinc (v := x29) (lv' := [(1, .int x29), (0, .ref (g 45))]) hx hb dX12_holds_135 hl (k := 1) rfl (by rw [ex29]; rfl) (by decide) rfl (fun ls hl => ?_)
        refine lv_goto (tgt := 89) hx hb dX12_holds_138 (by decide) ?_
        exact ih_89 x29 I_135 J_135 R_135 L_135 _ _ _ (show (12 - x29.toInt) < (k_89 : Int) from by omega) hvI hvR hsI hsR (show ((0 : Int) ≤ x29.toInt ∧ x29.toInt ≤ (12 : Int)) from by omega) hP hD hS (lv_sub hl [1, 0] rfl)
      refine lv_iload_n hx hb dX12_holds_89 rfl (lv_at hl 1 rfl) ?_
      refine lv_aload_n hx hb dX12_holds_90 rfl (lv_at hl 0 rfl) ?_
      refine g_get F hK hP 0 (Wm_at0 G g q I_89 J_89 R_89 L_89) clX12 21 (by decide) flX12_77 rfl dX12_holds_91 ?_
      refine lv_aload_n hx hb dX12_holds_94 rfl (lv_at hl 0 rfl) ?_
      refine g_get F hK hP 0 (Wm_at0 G g q I_89 J_89 R_89 L_89) clX12 12 (by decide) flX12_48 rfl dX12_holds_95 ?_
      refine cst_i (hsI 10 rfl) ?_
      have w_I0_10 := rg (hvI0 10 (by decide)) (0) (1) rfl rfl
      refine g_iald F hK hP 10 (Wm_at10 G g q I_89 J_89 R_89 L_89) (in_of (by omega)) dX12_holds_98 rfl ?_
      refine lv_topi (fun x30 ex30 => ?_)
      have gx30 : x30.toInt = (R0 7 (Int32.toNatClampNeg (I0 10))).toInt := congrArg Int32.toInt ((ex30).trans (congrFun (hsR 7 rfl) _))
      have fx30 : ((0 : Int) ≤ x30.toInt ∧ x30.toInt ≤ (12 : Int)) := by rw [ex30]; exact hvR 7 (by decide) _ (clamp_lt (n := 2) (in_of (by omega)))
      refine lv_icmp_ge (tgt := 141) hx hb dX12_holds_99 (by decide) (fun c31 => ?_) (fun c31 => ?_)
      · have gc31 : x30.toInt ≤ a1_89.toInt := (tle _ _).mp c31
        refine lv_iconst (v := 0) hx hb dX12_holds_141 (by decide) ?_
        refine lv_istore_n (lv' := [(1, .int 0), (0, .ref (g 45))]) hx hb dX12_holds_142 rfl hl (by decide) rfl (fun ls hl => ?_)
        exact lab_143 6 0 I_89 J_89 R_89 L_89 _ _ _ (show (5 - 0) < ((6 : Nat) : Int) from by omega) hvI hvR hsI hsR (by decide) hP hD hS (lv_sub hl [1, 0] rfl)
      · have gc31 : ¬ (x30.toInt ≤ a1_89.toInt) := fun q0 => c31 ((tle _ _).mpr q0)
        refine lv_aload_n hx hb dX12_holds_102 rfl (lv_at hl 0 rfl) ?_
        refine g_get F hK hP 0 (Wm_at0 G g q I_89 J_89 R_89 L_89) clX12 58 (by decide) flX12_189 rfl dX12_holds_103 ?_
        refine lv_iload_n hx hb dX12_holds_106 rfl (lv_at hl 1 rfl) ?_
        refine g_iald F hK hP 41 (Wm_at41 G g q I_89 J_89 R_89 L_89) (in_of (by omega)) dX12_holds_107 rfl ?_
        refine lv_topi (fun x32 ex32 => ?_)
        have gx32 : x32.toInt = (R0 36 (Int32.toNatClampNeg a1_89)).toInt := congrArg Int32.toInt ((ex32).trans (congrFun (hsR 36 rfl) _))
        refine w0i (As := [.int x32]) (rest := []) (d := 1) F hK hP hD hS hA (s_X12_bitsOf l G  x32 ) kmS_X12_bitsOf mlX12_469 ⟨(Nat.le_of_ble_eq_true rfl), (Nat.le_of_ble_eq_true rfl)⟩ hl.1 rfl (Nat.le_of_ble_eq_true rfl) dX12_holds_108 (fun r33 u34 H locs hwr33 hP hD hS => ?_)
        refine lv_aload_n hx hb dX12_holds_111 rfl (lv_at hl 0 rfl) ?_
        refine g_get F hK hP 0 (Wm_at0 G g q I_89 J_89 R_89 L_89) clX12 24 (by decide) flX12_86 rfl dX12_holds_112 ?_
        refine lv_bipush (v := 12) hx hb dX12_holds_115 (by decide) ?_
        refine lv_aload_n hx hb dX12_holds_117 rfl (lv_at hl 0 rfl) ?_
        refine g_get F hK hP 0 (Wm_at0 G g q I_89 J_89 R_89 L_89) clX12 12 (by decide) flX12_48 rfl dX12_holds_118 ?_
        refine cst_i (hsI 10 rfl) ?_
        refine lv_imul hx hb dX12_holds_121 ?_
        refine lv_topi (fun x35 ex35 => ?_)
        have fx35 : x35.toInt = 12 * (I0 10).toInt := by rw [ex35]; exact t_mul (by show (-2147483648 : Int) ≤ 12 * (I0 10).toInt; omega) (by show 12 * (I0 10).toInt ≤ 2147483647; omega)
        refine lv_iload_n hx hb dX12_holds_122 rfl (lv_at hl 1 rfl) ?_
        refine lv_iadd hx hb dX12_holds_123 ?_
        refine lv_topi (fun x36 ex36 => ?_)
        have fx36 : x36.toInt = x35.toInt + a1_89.toInt := by rw [ex36]; exact t_add (by show (-2147483648 : Int) ≤ x35.toInt + a1_89.toInt; omega) (by show x35.toInt + a1_89.toInt ≤ 2147483647; omega)
        refine g_iald F hK hP 13 (Wm_at13 G g q I_89 J_89 R_89 L_89) (in_of (by omega)) dX12_holds_124 rfl ?_
        refine lv_topi (fun x37 ex37 => ?_)
        have gx37 : x37.toInt = (R0 9 (Int32.toNatClampNeg x36)).toInt := congrArg Int32.toInt ((ex37).trans (congrFun (hsR 9 rfl) _))
        refine lv_icmp_eq (tgt := 135) hx hb dX12_holds_125 (by decide) (fun c38 => ?_) (fun c38 => ?_)
        · have gc38 : r33.toInt = x37.toInt := congrArg Int32.toInt c38
          exact lab_135  I_89 J_89 R_89 L_89 _ _ _ hvI hvR hsI hsR (show ((0 : Int) ≤ a1_89.toInt ∧ a1_89.toInt ≤ (11 : Int)) from by omega) hP hD hS (lv_sub hl [0, 1] rfl)
        · have gc38 : ¬ (r33.toInt = x37.toInt) := fun q0 => c38 (Int32.toInt_inj.mp q0)
          refine lv_aload_n hx hb dX12_holds_128 rfl (lv_at hl 0 rfl) ?_
          refine lv_iconst (v := 2) hx hb dX12_holds_129 (by decide) ?_
          refine lv_iload_n hx hb dX12_holds_130 rfl (lv_at hl 1 rfl) ?_
          refine lv_iconst (v := (-1)) hx hb dX12_holds_131 (by decide) ?_
          refine wvv (As := [.int 2, .int a1_89, .int (-1)]) (rest := []) (b := (g 45)) (d := 1) F hK hP hD hS hA (s_X12_wrong l G g q I_89 J_89 R_89 L_89 hvI hvR  2 a1_89 ((-1)) (by decide) (show ((0 : Int) ≤ a1_89.toInt ∧ a1_89.toInt ≤ (11 : Int)) from by omega) (by decide)) kmV_X12_wrong mlX12_500 clX12 rfl 0 (Wm_at0 G g q I_89 J_89 R_89 L_89) ⟨(Nat.le_of_ble_eq_true rfl), (Nat.le_of_ble_eq_true rfl)⟩ hl.1 rfl (Nat.le_of_ble_eq_true rfl) dX12_holds_132 (fun u40 H locs hwr39 hP hD hS => ?_)
          obtain ⟨I41, J42, R43, L44⟩ := u40
          replace hP : va_P G.1 vwCl (Wm G g q I41 J42 R43 L44) H := hP
          replace hD : va_D A (Wm G g q I41 J42 R43 L44) := hD
          obtain ⟨hvI, hvR, tIr39, tRr39⟩ := hwr39
          replace hvI : InvI Wm_lo Wm_hi I41 := hvI
          replace hvR : InvR Wm_rl R43 := hvR
          replace tIr39 : SmF ([17, 18, 19] : List Nat) I_89 I41 := tIr39
          replace tRr39 : SmF ([] : List Nat) R_89 R43 := tRr39
          have hv_I41 := hvI
          have hsI := smF_tr hsI tIr39 (by decide)
          have hsR := smF_tr hsR tRr39 (by decide)
          exact lab_135  I41 J42 R43 L44 _ _ _ hvI hvR hsI hsR (show ((0 : Int) ≤ a1_89.toInt ∧ a1_89.toInt ≤ (11 : Int)) from by omega) hP hD hS (lv_sub hl [0, 1] rfl)
  have lab_17 : ∀ (k_17 : Nat) (a1_17 : Int32) (I_17 : Nat → Int32) (J_17 : Nat → Int64) (R_17 : Nat → Nat → Int32) (L_17 : Nat → Nat → Int64) (H : Heap) (locs : List Loc) (ls : Array Slot), ((12 - a1_17.toInt) < (k_17 : Int)) → InvI Wm_lo Wm_hi I_17 → InvR Wm_rl R_17 → SmF ([17, 18, 19] : List Nat) I0 I_17 → SmF ([] : List Nat) R0 R_17 → ((0 : Int) ≤ a1_17.toInt ∧ a1_17.toInt ≤ (12 : Int)) → va_P G.1 vwCl (Wm G g q I_17 J_17 R_17 L_17) H → va_D A (Wm G g q I_17 J_17 R_17 L_17) → va_S A s.heap H locs → lv_has ls 3 [(0, .ref (g 45)), (1, .int a1_17)] → W p l e (rmD 5 0 0) s m [.ref (g 45)].toArray below meth c H locs 0 0 Q (F0 m 17 ls []) := by
    intro k_17
    induction k_17 with
    | zero =>
      intro a1_17 I_17 J_17 R_17 L_17 H locs ls hm hvI hvR hsI hsR y0_17 hP hD hS hl
      have hv_I_17 := hvI
      exact absurd hm (by omega)
    | succ k_17 ih_17 =>
      intro a1_17 I_17 J_17 R_17 L_17 H locs ls hm hvI hvR hsI hsR y0_17 hP hD hS hl
      have hv_I_17 := hvI
      have lab_32 : ∀ (k_32 : Nat) (a2_32 : Int32) (I_32 : Nat → Int32) (J_32 : Nat → Int64) (R_32 : Nat → Nat → Int32) (L_32 : Nat → Nat → Int64) (H : Heap) (locs : List Loc) (ls : Array Slot), ((5 - a2_32.toInt) < (k_32 : Int)) → InvI Wm_lo Wm_hi I_32 → InvR Wm_rl R_32 → SmF ([17, 18, 19] : List Nat) I0 I_32 → SmF ([] : List Nat) R0 R_32 → ((0 : Int) ≤ a1_17.toInt ∧ a1_17.toInt ≤ (11 : Int)) → ((0 : Int) ≤ a2_32.toInt ∧ a2_32.toInt ≤ (5 : Int)) → va_P G.1 vwCl (Wm G g q I_32 J_32 R_32 L_32) H → va_D A (Wm G g q I_32 J_32 R_32 L_32) → va_S A s.heap H locs → lv_has ls 3 [(0, .ref (g 45)), (1, .int a1_17), (2, .int a2_32)] → W p l e (rmD 5 0 0) s m [.ref (g 45)].toArray below meth c H locs 0 0 Q (F0 m 32 ls []) := by
        intro k_32
        induction k_32 with
        | zero =>
          intro a2_32 I_32 J_32 R_32 L_32 H locs ls hm hvI hvR hsI hsR y0_32 y1_32 hP hD hS hl
          have hv_I_32 := hvI
          exact absurd hm (by omega)
        | succ k_32 ih_32 =>
          intro a2_32 I_32 J_32 R_32 L_32 H locs ls hm hvI hvR hsI hsR y0_32 y1_32 hP hD hS hl
          have hv_I_32 := hvI
          have lab_75 : ∀  (I_75 : Nat → Int32) (J_75 : Nat → Int64) (R_75 : Nat → Nat → Int32) (L_75 : Nat → Nat → Int64) (H : Heap) (locs : List Loc) (ls : Array Slot), InvI Wm_lo Wm_hi I_75 → InvR Wm_rl R_75 → SmF ([17, 18, 19] : List Nat) I0 I_75 → SmF ([] : List Nat) R0 R_75 → ((0 : Int) ≤ a2_32.toInt ∧ a2_32.toInt ≤ (4 : Int)) → va_P G.1 vwCl (Wm G g q I_75 J_75 R_75 L_75) H → va_D A (Wm G g q I_75 J_75 R_75 L_75) → va_S A s.heap H locs → lv_has ls 3 [(0, .ref (g 45)), (1, .int a1_17), (2, .int a2_32)] → W p l e (rmD 5 0 0) s m [.ref (g 45)].toArray below meth c H locs 0 0 Q (F0 m 75 ls []) := by
            intro I_75 J_75 R_75 L_75 H locs ls hvI hvR hsI hsR y0_75 hP hD hS hl
            have hv_I_75 := hvI
            obtain ⟨x45, ex45⟩ : ∃ y : Int32, y = a2_32 + 1 := ⟨_, rfl⟩
            have fx45 : x45.toInt = a2_32.toInt + (1 : Int) := by rw [ex45]; exact t_add (by show (-2147483648 : Int) ≤ a2_32.toInt + (1 : Int); omega) (by show a2_32.toInt + (1 : Int) ≤ 2147483647; omega)
            refine lv_iinc (v := x45) (lv' := [(2, .int x45), (0, .ref (g 45)), (1, .int a1_17)]) hx hb dX12_holds_75 hl (k := 2) rfl (by rw [ex45]; rfl) (by decide) rfl (fun ls hl => ?_)
            refine lv_goto (tgt := 32) hx hb dX12_holds_78 (by decide) ?_
            exact ih_32 x45 I_75 J_75 R_75 L_75 _ _ _ (show (5 - x45.toInt) < (k_32 : Int) from by omega) hvI hvR hsI hsR (show ((0 : Int) ≤ a1_17.toInt ∧ a1_17.toInt ≤ (11 : Int)) from by omega) (show ((0 : Int) ≤ x45.toInt ∧ x45.toInt ≤ (5 : Int)) from by omega) hP hD hS (lv_sub hl [1, 2, 0] rfl)
          refine lv_iload_n hx hb dX12_holds_32 rfl (lv_at hl 2 rfl) ?_
          refine lv_iconst (v := 5) hx hb dX12_holds_33 (by decide) ?_
          refine lv_icmp_ge (tgt := 81) hx hb dX12_holds_34 (by decide) (fun c46 => ?_) (fun c46 => ?_)
          · have gc46 : 5 ≤ a2_32.toInt := (tle _ _).mp c46
            obtain ⟨x47, ex47⟩ : ∃ y : Int32, y = a1_17 + 1 := ⟨_, rfl⟩
            have fx47 : x47.toInt = a1_17.toInt + (1 : Int) := by rw [ex47]; exact t_add (by show (-2147483648 : Int) ≤ a1_17.toInt + (1 : Int); omega) (by show a1_17.toInt + (1 : Int) ≤ 2147483647; omega)
            refine lv_iinc (v := x47) (lv' := [(1, .int x47), (0, .ref (g 45)), (2, .int a2_32)]) hx hb dX12_holds_81 hl (k := 1) rfl (by rw [ex47]; rfl) (by decide) rfl (fun ls hl => ?_)
            refine lv_goto (tgt := 17) hx hb dX12_holds_84 (by decide) ?_
            exact ih_17 x47 I_32 J_32 R_32 L_32 _ _ _ (show (12 - x47.toInt) < (k_17 : Int) from by omega) hvI hvR hsI hsR (show ((0 : Int) ≤ x47.toInt ∧ x47.toInt ≤ (12 : Int)) from by omega) hP hD hS (lv_sub hl [1, 0] rfl)
          · have gc46 : ¬ (5 ≤ a2_32.toInt) := fun q0 => c46 ((tle _ _).mpr q0)
            refine lv_aload_n hx hb dX12_holds_37 rfl (lv_at hl 0 rfl) ?_
            refine lv_iload_n hx hb dX12_holds_38 rfl (lv_at hl 1 rfl) ?_
            refine lv_iload_n hx hb dX12_holds_39 rfl (lv_at hl 2 rfl) ?_
            refine wvi (As := [.int a1_17, .int a2_32]) (rest := []) (b := (g 45)) (d := 1) F hK hP hD hS hA (s_X12_isIn l G g q I_32 J_32 R_32 L_32 hvI hvR  a1_17 a2_32 (show ((0 : Int) ≤ a1_17.toInt ∧ a1_17.toInt ≤ (11 : Int)) from by omega) (show ((0 : Int) ≤ a2_32.toInt ∧ a2_32.toInt ≤ (4 : Int)) from by omega)) kmV_X12_isIn mlX12_479 clX12 rfl 0 (Wm_at0 G g q I_32 J_32 R_32 L_32) ⟨(Nat.le_of_ble_eq_true rfl), (Nat.le_of_ble_eq_true rfl)⟩ hl.1 rfl (Nat.le_of_ble_eq_true rfl) dX12_holds_40 (fun r48 u49 H locs hwr48 hP hD hS => ?_)
            have F0r48 := hwr48
            replace F0r48 : ((0 : Int) ≤ r48.toInt ∧ r48.toInt ≤ (1 : Int)) := F0r48
            refine lv_if_eq (tgt := 75) hx hb dX12_holds_43 (by decide) (fun c50 => ?_) (fun c50 => ?_)
            · have gc50 : r48.toInt = 0 := congrArg Int32.toInt c50
              exact lab_75  I_32 J_32 R_32 L_32 _ _ _ hvI hvR hsI hsR (show ((0 : Int) ≤ a2_32.toInt ∧ a2_32.toInt ≤ (4 : Int)) from by omega) hP hD hS (lv_sub hl [0, 1, 2] rfl)
            · have gc50 : ¬ (r48.toInt = 0) := fun q0 => c50 (Int32.toInt_inj.mp q0)
              refine lv_aload_n hx hb dX12_holds_46 rfl (lv_at hl 0 rfl) ?_
              refine g_get F hK hP 0 (Wm_at0 G g q I_32 J_32 R_32 L_32) clX12 25 (by decide) flX12_89 rfl dX12_holds_47 ?_
              refine lv_bipush (v := 12) hx hb dX12_holds_50 (by decide) ?_
              refine lv_aload_n hx hb dX12_holds_52 rfl (lv_at hl 0 rfl) ?_
              refine g_get F hK hP 0 (Wm_at0 G g q I_32 J_32 R_32 L_32) clX12 12 (by decide) flX12_48 rfl dX12_holds_53 ?_
              refine cst_i (hsI 10 rfl) ?_
              have w_I0_10 := rg (hvI0 10 (by decide)) (0) (1) rfl rfl
              refine lv_imul hx hb dX12_holds_56 ?_
              refine lv_topi (fun x51 ex51 => ?_)
              have fx51 : x51.toInt = 12 * (I0 10).toInt := by rw [ex51]; exact t_mul (by show (-2147483648 : Int) ≤ 12 * (I0 10).toInt; omega) (by show 12 * (I0 10).toInt ≤ 2147483647; omega)
              refine lv_iload_n hx hb dX12_holds_57 rfl (lv_at hl 1 rfl) ?_
              refine lv_iadd hx hb dX12_holds_58 ?_
              refine lv_topi (fun x52 ex52 => ?_)
              have fx52 : x52.toInt = x51.toInt + a1_17.toInt := by rw [ex52]; exact t_add (by show (-2147483648 : Int) ≤ x51.toInt + a1_17.toInt; omega) (by show x51.toInt + a1_17.toInt ≤ 2147483647; omega)
              refine g_iald F hK hP 14 (Wm_at14 G g q I_32 J_32 R_32 L_32) (in_of (by omega)) dX12_holds_59 rfl ?_
              refine lv_topi (fun x53 ex53 => ?_)
              have gx53 : x53.toInt = (R0 10 (Int32.toNatClampNeg x52)).toInt := congrArg Int32.toInt ((ex53).trans (congrFun (hsR 10 rfl) _))
              refine lv_iload_n hx hb dX12_holds_60 rfl (lv_at hl 2 rfl) ?_
              refine lv_ishr hx hb dX12_holds_61 ?_
              refine lv_topi (fun x54 ex54 => ?_)
              refine lv_iconst (v := 1) hx hb dX12_holds_62 (by decide) ?_
              refine lv_iand hx hb dX12_holds_63 ?_
              refine lv_topi (fun x55 ex55 => ?_)
              have fx55 : (0 : Int) ≤ x55.toInt ∧ x55.toInt ≤ (1 : Int) := by rw [ex55]; exact t_and (b := 1) (by decide)
              refine lv_iconst (v := 1) hx hb dX12_holds_64 (by decide) ?_
              refine lv_icmp_ne (tgt := 75) hx hb dX12_holds_65 (by decide) (fun c56 => ?_) (fun c56 => ?_)
              · have gc56 : ¬ (x55.toInt = 1) := fun q0 => c56 (Int32.toInt_inj.mp q0)
                exact lab_75  I_32 J_32 R_32 L_32 _ _ _ hvI hvR hsI hsR (show ((0 : Int) ≤ a2_32.toInt ∧ a2_32.toInt ≤ (4 : Int)) from by omega) hP hD hS (lv_sub hl [0, 1, 2] rfl)
              · have gc56 : x55.toInt = 1 := congrArg Int32.toInt c56
                refine lv_aload_n hx hb dX12_holds_68 rfl (lv_at hl 0 rfl) ?_
                refine lv_iconst (v := 1) hx hb dX12_holds_69 (by decide) ?_
                refine lv_iload_n hx hb dX12_holds_70 rfl (lv_at hl 1 rfl) ?_
                refine lv_iload_n hx hb dX12_holds_71 rfl (lv_at hl 2 rfl) ?_
                refine wvv (As := [.int 1, .int a1_17, .int a2_32]) (rest := []) (b := (g 45)) (d := 1) F hK hP hD hS hA (s_X12_wrong l G g q I_32 J_32 R_32 L_32 hvI hvR  1 a1_17 a2_32 (by decide) (show ((0 : Int) ≤ a1_17.toInt ∧ a1_17.toInt ≤ (11 : Int)) from by omega) (show ((-1 : Int) ≤ a2_32.toInt ∧ a2_32.toInt ≤ (4 : Int)) from by omega)) kmV_X12_wrong mlX12_500 clX12 rfl 0 (Wm_at0 G g q I_32 J_32 R_32 L_32) ⟨(Nat.le_of_ble_eq_true rfl), (Nat.le_of_ble_eq_true rfl)⟩ hl.1 rfl (Nat.le_of_ble_eq_true rfl) dX12_holds_72 (fun u58 H locs hwr57 hP hD hS => ?_)
                obtain ⟨I59, J60, R61, L62⟩ := u58
                replace hP : va_P G.1 vwCl (Wm G g q I59 J60 R61 L62) H := hP
                replace hD : va_D A (Wm G g q I59 J60 R61 L62) := hD
                obtain ⟨hvI, hvR, tIr57, tRr57⟩ := hwr57
                replace hvI : InvI Wm_lo Wm_hi I59 := hvI
                replace hvR : InvR Wm_rl R61 := hvR
                replace tIr57 : SmF ([17, 18, 19] : List Nat) I_32 I59 := tIr57
                replace tRr57 : SmF ([] : List Nat) R_32 R61 := tRr57
                have hv_I59 := hvI
                have hsI := smF_tr hsI tIr57 (by decide)
                have hsR := smF_tr hsR tRr57 (by decide)
                exact lab_75  I59 J60 R61 L62 _ _ _ hvI hvR hsI hsR (show ((0 : Int) ≤ a2_32.toInt ∧ a2_32.toInt ≤ (4 : Int)) from by omega) hP hD hS (lv_sub hl [0, 1, 2] rfl)
      refine lv_iload_n hx hb dX12_holds_17 rfl (lv_at hl 1 rfl) ?_
      refine lv_aload_n hx hb dX12_holds_18 rfl (lv_at hl 0 rfl) ?_
      refine g_get F hK hP 0 (Wm_at0 G g q I_17 J_17 R_17 L_17) clX12 21 (by decide) flX12_77 rfl dX12_holds_19 ?_
      refine lv_aload_n hx hb dX12_holds_22 rfl (lv_at hl 0 rfl) ?_
      refine g_get F hK hP 0 (Wm_at0 G g q I_17 J_17 R_17 L_17) clX12 12 (by decide) flX12_48 rfl dX12_holds_23 ?_
      refine cst_i (hsI 10 rfl) ?_
      have w_I0_10 := rg (hvI0 10 (by decide)) (0) (1) rfl rfl
      refine g_iald F hK hP 10 (Wm_at10 G g q I_17 J_17 R_17 L_17) (in_of (by omega)) dX12_holds_26 rfl ?_
      refine lv_topi (fun x63 ex63 => ?_)
      have gx63 : x63.toInt = (R0 7 (Int32.toNatClampNeg (I0 10))).toInt := congrArg Int32.toInt ((ex63).trans (congrFun (hsR 7 rfl) _))
      have fx63 : ((0 : Int) ≤ x63.toInt ∧ x63.toInt ≤ (12 : Int)) := by rw [ex63]; exact hvR 7 (by decide) _ (clamp_lt (n := 2) (in_of (by omega)))
      refine lv_icmp_ge (tgt := 87) hx hb dX12_holds_27 (by decide) (fun c64 => ?_) (fun c64 => ?_)
      · have gc64 : x63.toInt ≤ a1_17.toInt := (tle _ _).mp c64
        refine lv_iconst (v := 0) hx hb dX12_holds_87 (by decide) ?_
        refine lv_istore_n (lv' := [(1, .int 0), (0, .ref (g 45))]) hx hb dX12_holds_88 rfl hl (by decide) rfl (fun ls hl => ?_)
        exact lab_89 13 0 I_17 J_17 R_17 L_17 _ _ _ (show (12 - 0) < ((13 : Nat) : Int) from by omega) hvI hvR hsI hsR (by decide) hP hD hS (lv_sub hl [1, 0] rfl)
      · have gc64 : ¬ (x63.toInt ≤ a1_17.toInt) := fun q0 => c64 ((tle _ _).mpr q0)
        refine lv_iconst (v := 0) hx hb dX12_holds_30 (by decide) ?_
        refine lv_istore_n (lv' := [(2, .int 0), (0, .ref (g 45)), (1, .int a1_17)]) hx hb dX12_holds_31 rfl hl (by decide) rfl (fun ls hl => ?_)
        exact lab_32 6 0 I_17 J_17 R_17 L_17 _ _ _ (show (5 - 0) < ((6 : Nat) : Int) from by omega) hvI hvR hsI hsR (show ((0 : Int) ≤ a1_17.toInt ∧ a1_17.toInt ≤ (11 : Int)) from by omega) (by decide) hP hD hS (lv_sub hl [1, 2, 0] rfl)
  refine lv_aload_n hx hb dX12_holds_0 rfl (lv_at hl 0 rfl) ?_
  refine lv_iconst (v := 0) hx hb dX12_holds_1 (by decide) ?_
  refine p_fld (W1 := fun y => Wm G g q y J0 R0 L0) (n := 17) (v := 0) F hK hP hD hS 0 (Wm_at0 G g q I0 J0 R0 L0) clX12 59 (by decide) flX12_192 rfl rfl rfl (Nat.le_of_ble_eq_true rfl) dX12_holds_2 (Wm_setI17 G g q I0 J0 R0 L0 _) (fun I65 H locs eI65 hP hD hS => ?_)
  have hvI : InvI Wm_lo Wm_hi I65 := inv_upI hvI 17 eI65 (full _)
  have hsI := smF_up hsI eI65 (by decide)
  have hv_I65 := hvI
  refine lv_aload_n hx hb dX12_holds_5 rfl (lv_at hl 0 rfl) ?_
  refine lv_iconst (v := (-1)) hx hb dX12_holds_6 (by decide) ?_
  refine p_fld (W1 := fun y => Wm G g q y J0 R0 L0) (n := 18) (v := (-1)) F hK hP hD hS 0 (Wm_at0 G g q I65 J0 R0 L0) clX12 60 (by decide) flX12_195 rfl rfl rfl (Nat.le_of_ble_eq_true rfl) dX12_holds_7 (Wm_setI18 G g q I65 J0 R0 L0 _) (fun I66 H locs eI66 hP hD hS => ?_)
  have hvI : InvI Wm_lo Wm_hi I66 := inv_upI hvI 18 eI66 (full _)
  have hsI := smF_up hsI eI66 (by decide)
  have hv_I66 := hvI
  refine lv_aload_n hx hb dX12_holds_10 rfl (lv_at hl 0 rfl) ?_
  refine lv_iconst (v := (-1)) hx hb dX12_holds_11 (by decide) ?_
  refine p_fld (W1 := fun y => Wm G g q y J0 R0 L0) (n := 19) (v := (-1)) F hK hP hD hS 0 (Wm_at0 G g q I66 J0 R0 L0) clX12 61 (by decide) flX12_198 rfl rfl rfl (Nat.le_of_ble_eq_true rfl) dX12_holds_12 (Wm_setI19 G g q I66 J0 R0 L0 _) (fun I67 H locs eI67 hP hD hS => ?_)
  have hvI : InvI Wm_lo Wm_hi I67 := inv_upI hvI 19 eI67 (full _)
  have hsI := smF_up hsI eI67 (by decide)
  have hv_I67 := hvI
  refine lv_iconst (v := 0) hx hb dX12_holds_15 (by decide) ?_
  refine lv_istore_n (lv' := [(1, .int 0), (0, .ref (g 45))]) hx hb dX12_holds_16 rfl hl (by decide) rfl (fun ls hl => ?_)
  exact lab_17 13 0 I67 J0 R0 L0 _ _ _ (show (12 - 0) < ((13 : Nat) : Int) from by omega) hvI hvR hsI hsR (by decide) hP hD hS (lv_sub hl [1, 0] rfl)
set_option maxHeartbeats 4000000 in
set_option maxRecDepth 100000 in
theorem s_X12_refuses (l : Launch) (G : Gx) (g q : Nat → Nat) (I0 : Nat → Int32) (J0 : Nat → Int64) (R0 : Nat → Nat → Int32) (L0 : Nat → Nat → Int64) (hvI : InvI Wm_lo Wm_hi I0) (hvR : InvR Wm_rl R0)  (p1 : Int32) (hp1 : ((0 : Int) ≤ p1.toInt ∧ p1.toInt ≤ (5 : Int))) : CtI (S := St) l yX12_refuses cX12_refuses 2 (some .int) (rmD 1 0 0) G [.ref (g 45), .int p1] (Wm G g q I0 J0 R0 L0) (fun r u => InvI Wm_lo Wm_hi u.1 ∧ InvR Wm_rl u.2.2.1 ∧ SmF ([] : List Nat) I0 u.1 ∧ SmF ([34] : List Nat) R0 u.2.2.1 ∧ ((-1 : Int) ≤ r.toInt ∧ r.toInt ≤ (-1 : Int))) (fun u => Wm G g q u.1 u.2.1 u.2.2.1 u.2.2.2) := by
  refine ctI_of (own := RX12) (by decide +kernel) rfl (Nat.le_of_ble_eq_true rfl) ?_
  intro p e s m below meth c A ls F hr hlk hnm hK hP hD hA hS hl
  have hx := F.1
  have hb := F.2.1
  have hown := F.2.2.2.1
  have hl : lv_has ls 2 [(0, .ref (g 45)), (1, .int p1)] := hl
  obtain ⟨Q, hQ⟩ : ∃ Q : State → Prop, Q = MQ below (va_Qi (S := St) (fun r u => InvI Wm_lo Wm_hi u.1 ∧ InvR Wm_rl u.2.2.1 ∧ SmF ([] : List Nat) I0 u.1 ∧ SmF ([34] : List Nat) R0 u.2.2.1 ∧ ((-1 : Int) ≤ r.toInt ∧ r.toInt ≤ (-1 : Int))) (BX G A (fun u => Wm G g q u.1 u.2.1 u.2.2.1 u.2.2.2)) A) [.ref (g 45), .int p1].toArray s 0 0 A := ⟨_, rfl⟩
  rw [show (MQ below (va_Qi (S := St) (fun r u => InvI Wm_lo Wm_hi u.1 ∧ InvR Wm_rl u.2.2.1 ∧ SmF ([] : List Nat) I0 u.1 ∧ SmF ([34] : List Nat) R0 u.2.2.1 ∧ ((-1 : Int) ≤ r.toInt ∧ r.toInt ≤ (-1 : Int))) (BX G A (fun u => Wm G g q u.1 u.2.1 u.2.2.1 u.2.2.2)) A) [.ref (g 45), .int p1].toArray s (rmD 1 0 0).cells (rmD 1 0 0).slots A) = Q from hQ.symm]
  have hsI := smF_rf ([] : List Nat) I0
  have hsR := smF_rf ([34] : List Nat) R0
  have hvI0 := hvI
  refine lv_aload_n hx hb dX12_refuses_0 rfl (lv_at hl 0 rfl) ?_
  refine g_get F hK hP 0 (Wm_at0 G g q I0 J0 R0 L0) clX12 55 (by decide) flX12_180 rfl dX12_refuses_1 ?_
  refine lv_iload_n hx hb dX12_refuses_4 rfl (lv_at hl 1 rfl) ?_
  refine lv_dup2_11 hx hb dX12_refuses_5 rfl rfl ?_
  refine g_iald F hK hP 38 (Wm_at38 G g q I0 J0 R0 L0) (in_of (by omega)) dX12_refuses_6 rfl ?_
  refine lv_topi (fun x1 ex1 => ?_)
  have gx1 : x1.toInt = (R0 34 (Int32.toNatClampNeg p1)).toInt := congrArg Int32.toInt (ex1)
  refine lv_iconst (v := 1) hx hb dX12_refuses_7 (by decide) ?_
  refine lv_iadd hx hb dX12_refuses_8 ?_
  refine lv_topi (fun x2 ex2 => ?_)
  refine p_row (W1 := fun y => Wm G g q I0 J0 y L0) (n := 34) F hK hP hD hS 38 (Wm_at38 G g q I0 J0 R0 L0) (in_of (by omega)) dX12_refuses_9 (Wm_rowR34 G g q I0 J0 R0 L0) (fun R3 H locs eR3 hP hD hS => ?_)
  have hvR : InvR Wm_rl R3 := inv_upR hvR 34 eR3 (upd_in (hvR 34 (by decide)) (full _))
  have hsR := smF_up hsR eR3 (by decide)
  refine lv_iconst (v := (-1)) hx hb dX12_refuses_10 (by decide) ?_
  rw [hQ]
  exact q_i F hr hlk (I0, J0, R3, L0) hP hD hS ⟨hvI, hvR, hsI, hsR, (show ((-1 : Int) ≤ (-1) ∧ (-1) ≤ (-1 : Int)) from by omega)⟩ dX12_refuses_11 (Nat.le_of_ble_eq_true rfl) (Nat.le_of_ble_eq_true rfl)
set_option maxHeartbeats 4000000 in
set_option maxRecDepth 100000 in
theorem s_X12_change (l : Launch) (G : Gx) (g q : Nat → Nat) (I0 : Nat → Int32) (J0 : Nat → Int64) (R0 : Nat → Nat → Int32) (L0 : Nat → Nat → Int64) (hvI : InvI Wm_lo Wm_hi I0) (hvR : InvR Wm_rl R0)  (p1 : Int32) (p2 : Int32) (hp1 : ((0 : Int) ≤ p1.toInt ∧ p1.toInt ≤ (11 : Int))) (hp2 : ((0 : Int) ≤ p2.toInt ∧ p2.toInt ≤ (11 : Int))) : CtV (S := St) l yX12_change cX12_change 4 none (rmD 1 0 0) G [.ref (g 45), .int p1, .int p2] (Wm G g q I0 J0 R0 L0) (fun u => InvI Wm_lo Wm_hi u.1 ∧ InvR Wm_rl u.2.2.1 ∧ SmF ([] : List Nat) I0 u.1 ∧ SmF ([38] : List Nat) R0 u.2.2.1) (fun u => Wm G g q u.1 u.2.1 u.2.2.1 u.2.2.2) := by
  refine ctV_of (own := RX12) (by decide +kernel) rfl (Nat.le_of_ble_eq_true rfl) ?_
  intro p e s m below meth c A ls F hr hlk hnm hK hP hD hA hS hl
  have hx := F.1
  have hb := F.2.1
  have hown := F.2.2.2.1
  have hl : lv_has ls 4 [(0, .ref (g 45)), (1, .int p1), (2, .int p2)] := hl
  obtain ⟨Q, hQ⟩ : ∃ Q : State → Prop, Q = MQ below (va_Qv (S := St) (fun u => InvI Wm_lo Wm_hi u.1 ∧ InvR Wm_rl u.2.2.1 ∧ SmF ([] : List Nat) I0 u.1 ∧ SmF ([38] : List Nat) R0 u.2.2.1) (BX G A (fun u => Wm G g q u.1 u.2.1 u.2.2.1 u.2.2.2)) A) [.ref (g 45), .int p1, .int p2].toArray s 0 0 A := ⟨_, rfl⟩
  rw [show (MQ below (va_Qv (S := St) (fun u => InvI Wm_lo Wm_hi u.1 ∧ InvR Wm_rl u.2.2.1 ∧ SmF ([] : List Nat) I0 u.1 ∧ SmF ([38] : List Nat) R0 u.2.2.1) (BX G A (fun u => Wm G g q u.1 u.2.1 u.2.2.1 u.2.2.2)) A) [.ref (g 45), .int p1, .int p2].toArray s (rmD 1 0 0).cells (rmD 1 0 0).slots A) = Q from hQ.symm]
  have hsI := smF_rf ([] : List Nat) I0
  have hsR := smF_rf ([38] : List Nat) R0
  have hvI0 := hvI
  refine lv_aload_n hx hb dX12_change_0 rfl (lv_at hl 0 rfl) ?_
  refine g_get F hK hP 0 (Wm_at0 G g q I0 J0 R0 L0) clX12 67 (by decide) flX12_216 rfl dX12_change_1 ?_
  refine lv_iload_n hx hb dX12_change_4 rfl (lv_at hl 1 rfl) ?_
  refine g_iald F hK hP 44 (Wm_at44 G g q I0 J0 R0 L0) (in_of (by omega)) dX12_change_5 rfl ?_
  refine lv_topi (fun x1 ex1 => ?_)
  have gx1 : x1.toInt = (R0 38 (Int32.toNatClampNeg p1)).toInt := congrArg Int32.toInt (ex1)
  have fx1 : ((-1 : Int) ≤ x1.toInt ∧ x1.toInt ≤ (4 : Int)) := by rw [ex1]; exact hvR 38 (by decide) _ (clamp_lt (n := 12) (in_of (by omega)))
  refine lv_istore_n (lv' := [(3, .int x1), (0, .ref (g 45)), (1, .int p1), (2, .int p2)]) hx hb dX12_change_6 rfl hl (by decide) rfl (fun ls hl => ?_)
  refine lv_aload_n hx hb dX12_change_7 rfl (lv_at hl 1 rfl) ?_
  refine g_get F hK hP 0 (Wm_at0 G g q I0 J0 R0 L0) clX12 67 (by decide) flX12_216 rfl dX12_change_8 ?_
  refine lv_iload_n hx hb dX12_change_11 rfl (lv_at hl 2 rfl) ?_
  refine lv_aload_n hx hb dX12_change_12 rfl (lv_at hl 1 rfl) ?_
  refine g_get F hK hP 0 (Wm_at0 G g q I0 J0 R0 L0) clX12 67 (by decide) flX12_216 rfl dX12_change_13 ?_
  refine lv_iload_n hx hb dX12_change_16 rfl (lv_at hl 3 rfl) ?_
  refine g_iald F hK hP 44 (Wm_at44 G g q I0 J0 R0 L0) (in_of (by omega)) dX12_change_17 rfl ?_
  refine lv_topi (fun x2 ex2 => ?_)
  have gx2 : x2.toInt = (R0 38 (Int32.toNatClampNeg p2)).toInt := congrArg Int32.toInt (ex2)
  have fx2 : ((-1 : Int) ≤ x2.toInt ∧ x2.toInt ≤ (4 : Int)) := by rw [ex2]; exact hvR 38 (by decide) _ (clamp_lt (n := 12) (in_of (by omega)))
  refine p_row (W1 := fun y => Wm G g q I0 J0 y L0) (n := 38) F hK hP hD hS 44 (Wm_at44 G g q I0 J0 R0 L0) (in_of (by omega)) dX12_change_18 (Wm_rowR38 G g q I0 J0 R0 L0) (fun R3 H locs eR3 hP hD hS => ?_)
  have hvR : InvR Wm_rl R3 := inv_upR hvR 38 eR3 (upd_in (hvR 38 (by decide)) (show ((-1 : Int) ≤ x2.toInt ∧ x2.toInt ≤ (4 : Int)) from by omega))
  have hsR := smF_up hsR eR3 (by decide)
  refine lv_aload_n hx hb dX12_change_19 rfl (lv_at hl 1 rfl) ?_
  refine g_get F hK hP 0 (Wm_at0 G g q I0 J0 R3 L0) clX12 67 (by decide) flX12_216 rfl dX12_change_20 ?_
  refine lv_iload_n hx hb dX12_change_23 rfl (lv_at hl 3 rfl) ?_
  refine lv_iload_n hx hb dX12_change_24 rfl (lv_at hl 0 rfl) ?_
  refine p_row (W1 := fun y => Wm G g q I0 J0 y L0) (n := 38) F hK hP hD hS 44 (Wm_at44 G g q I0 J0 R3 L0) (in_of (by omega)) dX12_change_25 (Wm_rowR38 G g q I0 J0 R3 L0) (fun R4 H locs eR4 hP hD hS => ?_)
  have hvR : InvR Wm_rl R4 := inv_upR hvR 38 eR4 (upd_in (hvR 38 (by decide)) (show ((-1 : Int) ≤ x1.toInt ∧ x1.toInt ≤ (4 : Int)) from by omega))
  have hsR := smF_up hsR eR4 (by decide)
  rw [hQ]
  exact q_v F hr hlk (I0, J0, R4, L0) hP hD hS ⟨hvI, hvR, hsI, hsR⟩ dX12_change_26 (Nat.le_of_ble_eq_true rfl) (Nat.le_of_ble_eq_true rfl)
set_option maxHeartbeats 4000000 in
set_option maxRecDepth 100000 in
theorem s_X12_nobody (l : Launch) (G : Gx) (g q : Nat → Nat) (I0 : Nat → Int32) (J0 : Nat → Int64) (R0 : Nat → Nat → Int32) (L0 : Nat → Nat → Int64) (hvI : InvI Wm_lo Wm_hi I0) (hvR : InvR Wm_rl R0)    : CtV (S := St) l yX12_nobody cX12_nobody 2 none (rmD 1 0 0) G [.ref (g 45)] (Wm G g q I0 J0 R0 L0) (fun u => InvI Wm_lo Wm_hi u.1 ∧ InvR Wm_rl u.2.2.1 ∧ SmF ([] : List Nat) I0 u.1 ∧ SmF ([] : List Nat) R0 u.2.2.1) (fun u => Wm G g q u.1 u.2.1 u.2.2.1 u.2.2.2) := by
  refine ctV_of (own := RX12) (by decide +kernel) rfl (Nat.le_of_ble_eq_true rfl) ?_
  intro p e s m below meth c A ls F hr hlk hnm hK hP hD hA hS hl
  have hx := F.1
  have hb := F.2.1
  have hown := F.2.2.2.1
  have hl : lv_has ls 2 [(0, .ref (g 45))] := hl
  obtain ⟨Q, hQ⟩ : ∃ Q : State → Prop, Q = MQ below (va_Qv (S := St) (fun u => InvI Wm_lo Wm_hi u.1 ∧ InvR Wm_rl u.2.2.1 ∧ SmF ([] : List Nat) I0 u.1 ∧ SmF ([] : List Nat) R0 u.2.2.1) (BX G A (fun u => Wm G g q u.1 u.2.1 u.2.2.1 u.2.2.2)) A) [.ref (g 45)].toArray s 0 0 A := ⟨_, rfl⟩
  rw [show (MQ below (va_Qv (S := St) (fun u => InvI Wm_lo Wm_hi u.1 ∧ InvR Wm_rl u.2.2.1 ∧ SmF ([] : List Nat) I0 u.1 ∧ SmF ([] : List Nat) R0 u.2.2.1) (BX G A (fun u => Wm G g q u.1 u.2.1 u.2.2.1 u.2.2.2)) A) [.ref (g 45)].toArray s (rmD 1 0 0).cells (rmD 1 0 0).slots A) = Q from hQ.symm]
  have hsI := smF_rf ([] : List Nat) I0
  have hsR := smF_rf ([] : List Nat) R0
  have hvI0 := hvI
  have lab_2 : ∀ (k_2 : Nat) (a1_2 : Int32) (I_2 : Nat → Int32) (J_2 : Nat → Int64) (R_2 : Nat → Nat → Int32) (L_2 : Nat → Nat → Int64) (H : Heap) (locs : List Loc) (ls : Array Slot), ((64 - a1_2.toInt) < (k_2 : Int)) → InvI Wm_lo Wm_hi I_2 → InvR Wm_rl R_2 → SmF ([] : List Nat) I0 I_2 → SmF ([] : List Nat) R0 R_2 → ((0 : Int) ≤ a1_2.toInt ∧ a1_2.toInt ≤ (64 : Int)) → va_P G.1 vwCl (Wm G g q I_2 J_2 R_2 L_2) H → va_D A (Wm G g q I_2 J_2 R_2 L_2) → va_S A s.heap H locs → lv_has ls 2 [(0, .ref (g 45)), (1, .int a1_2)] → W p l e (rmD 1 0 0) s m [.ref (g 45)].toArray below meth c H locs 0 0 Q (F0 m 2 ls []) := by
    intro k_2
    induction k_2 with
    | zero =>
      intro a1_2 I_2 J_2 R_2 L_2 H locs ls hm hvI hvR hsI hsR y0_2 hP hD hS hl
      have hv_I_2 := hvI
      exact absurd hm (by omega)
    | succ k_2 ih_2 =>
      intro a1_2 I_2 J_2 R_2 L_2 H locs ls hm hvI hvR hsI hsR y0_2 hP hD hS hl
      have hv_I_2 := hvI
      have lab_24 : ∀ (b0_24 : Int64) (b1_24 : Int32) (I_24 : Nat → Int32) (J_24 : Nat → Int64) (R_24 : Nat → Nat → Int32) (L_24 : Nat → Nat → Int64) (H : Heap) (locs : List Loc) (ls : Array Slot), InvI Wm_lo Wm_hi I_24 → InvR Wm_rl R_24 → SmF ([] : List Nat) I0 I_24 → SmF ([] : List Nat) R0 R_24 → ((0 : Int) ≤ a1_2.toInt ∧ a1_2.toInt ≤ (63 : Int)) → ((0 : Int) ≤ b1_24.toInt ∧ b1_24.toInt ≤ (63 : Int)) → va_P G.1 vwCl (Wm G g q I_24 J_24 R_24 L_24) H → va_D A (Wm G g q I_24 J_24 R_24 L_24) → va_S A s.heap H locs → lv_has ls 2 [(0, .ref (g 45)), (1, .int a1_2)] → W p l e (rmD 1 0 0) s m [.ref (g 45)].toArray below meth c H locs 0 0 Q (F0 m 24 ls [.long b0_24, .int b1_24, .ref (g 42)]) := by
        intro b0_24 b1_24 I_24 J_24 R_24 L_24 H locs ls hvI hvR hsI hsR y0_24 y1_24 hP hD hS hl
        have hv_I_24 := hvI
        refine p_lrow (W1 := fun y => Wm G g q I_24 J_24 R_24 y) (n := 4) F hK hP hD hS 43 (Wm_at43 G g q I_24 J_24 R_24 L_24) (in_of (by omega)) dX12_nobody_24 (Wm_rowL4 G g q I_24 J_24 R_24 L_24) (fun L1 H locs eL1 hP hD hS => ?_)
        obtain ⟨x2, ex2⟩ : ∃ y : Int32, y = a1_2 + 1 := ⟨_, rfl⟩
        have fx2 : x2.toInt = a1_2.toInt + (1 : Int) := by rw [ex2]; exact t_add (by show (-2147483648 : Int) ≤ a1_2.toInt + (1 : Int); omega) (by show a1_2.toInt + (1 : Int) ≤ 2147483647; omega)
        refine lv_iinc (v := x2) (lv' := [(1, .int x2), (0, .ref (g 45))]) hx hb dX12_nobody_25 hl (k := 1) rfl (by rw [ex2]; rfl) (by decide) rfl (fun ls hl => ?_)
        refine lv_goto (tgt := 2) hx hb dX12_nobody_28 (by decide) ?_
        exact ih_2 x2 I_24 J_24 R_24 L1 _ _ _ (show (64 - x2.toInt) < (k_2 : Int) from by omega) hvI hvR hsI hsR (show ((0 : Int) ≤ x2.toInt ∧ x2.toInt ≤ (64 : Int)) from by omega) hP hD hS (lv_sub hl [1, 0] rfl)
      refine lv_iload_n hx hb dX12_nobody_2 rfl (lv_at hl 1 rfl) ?_
      refine lv_bipush (v := 64) hx hb dX12_nobody_3 (by decide) ?_
      refine lv_icmp_ge (tgt := 31) hx hb dX12_nobody_5 (by decide) (fun c3 => ?_) (fun c3 => ?_)
      · have gc3 : 64 ≤ a1_2.toInt := (tle _ _).mp c3
        rw [hQ]
        exact q_v F hr hlk (I_2, J_2, R_2, L_2) hP hD hS ⟨hvI, hvR, hsI, hsR⟩ dX12_nobody_31 (Nat.le_of_ble_eq_true rfl) (Nat.le_of_ble_eq_true rfl)
      · have gc3 : ¬ (64 ≤ a1_2.toInt) := fun q0 => c3 ((tle _ _).mpr q0)
        refine lv_aload_n hx hb dX12_nobody_8 rfl (lv_at hl 0 rfl) ?_
        refine g_get F hK hP 0 (Wm_at0 G g q I_2 J_2 R_2 L_2) clX12 65 (by decide) flX12_210 rfl dX12_nobody_9 ?_
        refine lv_iload_n hx hb dX12_nobody_12 rfl (lv_at hl 1 rfl) ?_
        refine lv_iload_n hx hb dX12_nobody_13 rfl (lv_at hl 1 rfl) ?_
        refine lv_if_ne (tgt := 23) hx hb dX12_nobody_14 (by decide) (fun c4 => ?_) (fun c4 => ?_)
        · have gc4 : ¬ (a1_2.toInt = 0) := fun q0 => c4 (Int32.toInt_inj.mp q0)
          refine lv_lconst (v := 0) hx hb dX12_nobody_23 (by decide) ?_
          exact lab_24 0 a1_2 I_2 J_2 R_2 L_2 _ _ _ hvI hvR hsI hsR (show ((0 : Int) ≤ a1_2.toInt ∧ a1_2.toInt ≤ (63 : Int)) from by omega) (show ((0 : Int) ≤ a1_2.toInt ∧ a1_2.toInt ≤ (63 : Int)) from by omega) hP hD hS (lv_sub hl [0, 1] rfl)
        · have gc4 : a1_2.toInt = 0 := congrArg Int32.toInt c4
          refine lv_ldc2 hx hb hown (F.2.2.2.2 _ clX12_545) dX12_nobody_17 ?_
          refine lv_goto (tgt := 24) hx hb dX12_nobody_20 (by decide) ?_
          exact lab_24 1000000000000 a1_2 I_2 J_2 R_2 L_2 _ _ _ hvI hvR hsI hsR (show ((0 : Int) ≤ a1_2.toInt ∧ a1_2.toInt ≤ (63 : Int)) from by omega) (show ((0 : Int) ≤ a1_2.toInt ∧ a1_2.toInt ≤ (63 : Int)) from by omega) hP hD hS (lv_sub hl [0, 1] rfl)
  refine lv_iconst (v := 0) hx hb dX12_nobody_0 (by decide) ?_
  refine lv_istore_n (lv' := [(1, .int 0), (0, .ref (g 45))]) hx hb dX12_nobody_1 rfl hl (by decide) rfl (fun ls hl => ?_)
  exact lab_2 65 0 I0 J0 R0 L0 _ _ _ (show (64 - 0) < ((65 : Nat) : Int) from by omega) hvI hvR hsI hsR (by decide) hP hD hS (lv_sub hl [1, 0] rfl)
set_option maxHeartbeats 4000000 in
set_option maxRecDepth 100000 in
theorem s_X12_oneMore (l : Launch) (G : Gx) (g q : Nat → Nat) (I0 : Nat → Int32) (J0 : Nat → Int64) (R0 : Nat → Nat → Int32) (L0 : Nat → Nat → Int64) (hvI : InvI Wm_lo Wm_hi I0) (hvR : InvR Wm_rl R0)  (p1 : Int32)  : CtV (S := St) l yX12_oneMore cX12_oneMore 3 none (rmD 1 0 0) G [.ref (g 45), .int p1] (Wm G g q I0 J0 R0 L0) (fun u => InvI Wm_lo Wm_hi u.1 ∧ InvR Wm_rl u.2.2.1 ∧ SmF ([] : List Nat) I0 u.1 ∧ SmF ([] : List Nat) R0 u.2.2.1) (fun u => Wm G g q u.1 u.2.1 u.2.2.1 u.2.2.2) := by
  refine ctV_of (own := RX12) (by decide +kernel) rfl (Nat.le_of_ble_eq_true rfl) ?_
  intro p e s m below meth c A ls F hr hlk hnm hK hP hD hA hS hl
  have hx := F.1
  have hb := F.2.1
  have hown := F.2.2.2.1
  have hl : lv_has ls 3 [(0, .ref (g 45)), (1, .int p1)] := hl
  obtain ⟨Q, hQ⟩ : ∃ Q : State → Prop, Q = MQ below (va_Qv (S := St) (fun u => InvI Wm_lo Wm_hi u.1 ∧ InvR Wm_rl u.2.2.1 ∧ SmF ([] : List Nat) I0 u.1 ∧ SmF ([] : List Nat) R0 u.2.2.1) (BX G A (fun u => Wm G g q u.1 u.2.1 u.2.2.1 u.2.2.2)) A) [.ref (g 45), .int p1].toArray s 0 0 A := ⟨_, rfl⟩
  rw [show (MQ below (va_Qv (S := St) (fun u => InvI Wm_lo Wm_hi u.1 ∧ InvR Wm_rl u.2.2.1 ∧ SmF ([] : List Nat) I0 u.1 ∧ SmF ([] : List Nat) R0 u.2.2.1) (BX G A (fun u => Wm G g q u.1 u.2.1 u.2.2.1 u.2.2.2)) A) [.ref (g 45), .int p1].toArray s (rmD 1 0 0).cells (rmD 1 0 0).slots A) = Q from hQ.symm]
  have hsI := smF_rf ([] : List Nat) I0
  have hsR := smF_rf ([] : List Nat) R0
  have hvI0 := hvI
  have lab_3 : ∀ (k_3 : Nat) (a2_3 : Int32) (I_3 : Nat → Int32) (J_3 : Nat → Int64) (R_3 : Nat → Nat → Int32) (L_3 : Nat → Nat → Int64) (H : Heap) (locs : List Loc) (ls : Array Slot), ((a2_3.toInt - (-1)) < (k_3 : Int)) → InvI Wm_lo Wm_hi I_3 → InvR Wm_rl R_3 → SmF ([] : List Nat) I0 I_3 → SmF ([] : List Nat) R0 R_3 → ((-1 : Int) ≤ a2_3.toInt ∧ a2_3.toInt ≤ (63 : Int)) → va_P G.1 vwCl (Wm G g q I_3 J_3 R_3 L_3) H → va_D A (Wm G g q I_3 J_3 R_3 L_3) → va_S A s.heap H locs → lv_has ls 3 [(0, .ref (g 45)), (1, .int p1), (2, .int a2_3)] → W p l e (rmD 1 0 0) s m [.ref (g 45), .int p1].toArray below meth c H locs 0 0 Q (F0 m 3 ls []) := by
    intro k_3
    induction k_3 with
    | zero =>
      intro a2_3 I_3 J_3 R_3 L_3 H locs ls hm hvI hvR hsI hsR y0_3 hP hD hS hl
      have hv_I_3 := hvI
      exact absurd hm (by omega)
    | succ k_3 ih_3 =>
      intro a2_3 I_3 J_3 R_3 L_3 H locs ls hm hvI hvR hsI hsR y0_3 hP hD hS hl
      have hv_I_3 := hvI
      have lab_43 : ∀ (b0_43 : Int64) (b1_43 : Int64) (b2_43 : Int32) (I_43 : Nat → Int32) (J_43 : Nat → Int64) (R_43 : Nat → Nat → Int32) (L_43 : Nat → Nat → Int64) (H : Heap) (locs : List Loc) (ls : Array Slot), InvI Wm_lo Wm_hi I_43 → InvR Wm_rl R_43 → SmF ([] : List Nat) I0 I_43 → SmF ([] : List Nat) R0 R_43 → ((0 : Int) ≤ a2_3.toInt ∧ a2_3.toInt ≤ (63 : Int)) → ((0 : Int) ≤ b2_43.toInt ∧ b2_43.toInt ≤ (63 : Int)) → va_P G.1 vwCl (Wm G g q I_43 J_43 R_43 L_43) H → va_D A (Wm G g q I_43 J_43 R_43 L_43) → va_S A s.heap H locs → lv_has ls 3 [(0, .ref (g 45)), (1, .int p1), (2, .int a2_3)] → W p l e (rmD 1 0 0) s m [.ref (g 45), .int p1].toArray below meth c H locs 0 0 Q (F0 m 43 ls [.long b0_43, .long b1_43, .int b2_43, .ref (g 42)]) := by
        intro b0_43 b1_43 b2_43 I_43 J_43 R_43 L_43 H locs ls hvI hvR hsI hsR y0_43 y1_43 hP hD hS hl
        have hv_I_43 := hvI
        refine lv_ladd hx hb dX12_oneMore_43 ?_
        refine lv_topl (fun x1 ex1 => ?_)
        refine lv_ldc2 hx hb hown (F.2.2.2.2 _ clX12_547) dX12_oneMore_44 ?_
        refine lv_ldiv hx hb dX12_oneMore_47 (by decide) ?_
        refine lv_topl (fun x2 ex2 => ?_)
        refine p_lrow (W1 := fun y => Wm G g q I_43 J_43 R_43 y) (n := 4) F hK hP hD hS 43 (Wm_at43 G g q I_43 J_43 R_43 L_43) (in_of (by omega)) dX12_oneMore_48 (Wm_rowL4 G g q I_43 J_43 R_43 L_43) (fun L3 H locs eL3 hP hD hS => ?_)
        obtain ⟨x4, ex4⟩ : ∃ y : Int32, y = a2_3 + (-1) := ⟨_, rfl⟩
        have fx4 : x4.toInt = a2_3.toInt + (-1 : Int) := by rw [ex4]; exact t_add (by show (-2147483648 : Int) ≤ a2_3.toInt + (-1 : Int); omega) (by show a2_3.toInt + (-1 : Int) ≤ 2147483647; omega)
        refine lv_iinc (v := x4) (lv' := [(2, .int x4), (0, .ref (g 45)), (1, .int p1)]) hx hb dX12_oneMore_49 hl (k := 2) rfl (by rw [ex4]; rfl) (by decide) rfl (fun ls hl => ?_)
        refine lv_goto (tgt := 3) hx hb dX12_oneMore_52 (by decide) ?_
        exact ih_3 x4 I_43 J_43 R_43 L3 _ _ _ (show (x4.toInt - (-1)) < (k_3 : Int) from by omega) hvI hvR hsI hsR (show ((-1 : Int) ≤ x4.toInt ∧ x4.toInt ≤ (63 : Int)) from by omega) hP hD hS (lv_sub hl [1, 2, 0] rfl)
      refine lv_iload_n hx hb dX12_oneMore_3 rfl (lv_at hl 2 rfl) ?_
      refine lv_if_lt (tgt := 55) hx hb dX12_oneMore_4 (by decide) (fun c5 => ?_) (fun c5 => ?_)
      · have gc5 : a2_3.toInt < 0 := (tlt _ _).mp c5
        rw [hQ]
        exact q_v F hr hlk (I_3, J_3, R_3, L_3) hP hD hS ⟨hvI, hvR, hsI, hsR⟩ dX12_oneMore_55 (Nat.le_of_ble_eq_true rfl) (Nat.le_of_ble_eq_true rfl)
      · have gc5 : ¬ (a2_3.toInt < 0) := fun q0 => c5 ((tlt _ _).mpr q0)
        refine lv_aload_n hx hb dX12_oneMore_7 rfl (lv_at hl 0 rfl) ?_
        refine g_get F hK hP 0 (Wm_at0 G g q I_3 J_3 R_3 L_3) clX12 65 (by decide) flX12_210 rfl dX12_oneMore_8 ?_
        refine lv_iload_n hx hb dX12_oneMore_11 rfl (lv_at hl 2 rfl) ?_
        refine lv_aload_n hx hb dX12_oneMore_12 rfl (lv_at hl 0 rfl) ?_
        refine g_get F hK hP 0 (Wm_at0 G g q I_3 J_3 R_3 L_3) clX12 65 (by decide) flX12_210 rfl dX12_oneMore_13 ?_
        refine lv_iload_n hx hb dX12_oneMore_16 rfl (lv_at hl 2 rfl) ?_
        refine g_lald F hK hP 43 (Wm_at43 G g q I_3 J_3 R_3 L_3) (in_of (by omega)) dX12_oneMore_17 rfl ?_
        refine lv_topl (fun x6 ex6 => ?_)
        refine lv_bipush (v := 100) hx hb dX12_oneMore_18 (by decide) ?_
        refine lv_iload_n hx hb dX12_oneMore_20 rfl (lv_at hl 1 rfl) ?_
        refine lv_isub hx hb dX12_oneMore_21 ?_
        refine lv_topi (fun x7 ex7 => ?_)
        obtain ⟨x8, ex8⟩ : ∃ y : Int64, (x7 : Int32).toInt64 = y := ⟨_, rfl⟩
        refine lv_i2l (v := x8) hx hb dX12_oneMore_22 ex8 ?_
        refine lv_lmul hx hb dX12_oneMore_23 ?_
        refine lv_topl (fun x9 ex9 => ?_)
        refine lv_iload_n hx hb dX12_oneMore_24 rfl (lv_at hl 2 rfl) ?_
        refine lv_if_le (tgt := 42) hx hb dX12_oneMore_25 (by decide) (fun c10 => ?_) (fun c10 => ?_)
        · have gc10 : a2_3.toInt ≤ 0 := (tle _ _).mp c10
          refine lv_lconst (v := 0) hx hb dX12_oneMore_42 (by decide) ?_
          exact lab_43 0 x9 a2_3 I_3 J_3 R_3 L_3 _ _ _ hvI hvR hsI hsR (show ((0 : Int) ≤ a2_3.toInt ∧ a2_3.toInt ≤ (63 : Int)) from by omega) (show ((0 : Int) ≤ a2_3.toInt ∧ a2_3.toInt ≤ (63 : Int)) from by omega) hP hD hS (lv_sub hl [0, 1, 2] rfl)
        · have gc10 : ¬ (a2_3.toInt ≤ 0) := fun q0 => c10 ((tle _ _).mpr q0)
          refine lv_aload_n hx hb dX12_oneMore_28 rfl (lv_at hl 0 rfl) ?_
          refine g_get F hK hP 0 (Wm_at0 G g q I_3 J_3 R_3 L_3) clX12 65 (by decide) flX12_210 rfl dX12_oneMore_29 ?_
          refine lv_iload_n hx hb dX12_oneMore_32 rfl (lv_at hl 2 rfl) ?_
          refine lv_iconst (v := 1) hx hb dX12_oneMore_33 (by decide) ?_
          refine lv_isub hx hb dX12_oneMore_34 ?_
          refine lv_topi (fun x11 ex11 => ?_)
          have fx11 : x11.toInt = a2_3.toInt - 1 := by rw [ex11]; exact t_sub (by show (-2147483648 : Int) ≤ a2_3.toInt - 1; omega) (by show a2_3.toInt - 1 ≤ 2147483647; omega)
          refine g_lald F hK hP 43 (Wm_at43 G g q I_3 J_3 R_3 L_3) (in_of (by omega)) dX12_oneMore_35 rfl ?_
          refine lv_topl (fun x12 ex12 => ?_)
          refine lv_iload_n hx hb dX12_oneMore_36 rfl (lv_at hl 1 rfl) ?_
          obtain ⟨x13, ex13⟩ : ∃ y : Int64, (p1 : Int32).toInt64 = y := ⟨_, rfl⟩
          refine lv_i2l (v := x13) hx hb dX12_oneMore_37 ex13 ?_
          refine lv_lmul hx hb dX12_oneMore_38 ?_
          refine lv_topl (fun x14 ex14 => ?_)
          refine lv_goto (tgt := 43) hx hb dX12_oneMore_39 (by decide) ?_
          exact lab_43 x14 x9 a2_3 I_3 J_3 R_3 L_3 _ _ _ hvI hvR hsI hsR (show ((0 : Int) ≤ a2_3.toInt ∧ a2_3.toInt ≤ (63 : Int)) from by omega) (show ((0 : Int) ≤ a2_3.toInt ∧ a2_3.toInt ≤ (63 : Int)) from by omega) hP hD hS (lv_sub hl [0, 1, 2] rfl)
  refine lv_bipush (v := 63) hx hb dX12_oneMore_0 (by decide) ?_
  refine lv_istore_n (lv' := [(2, .int 63), (0, .ref (g 45)), (1, .int p1)]) hx hb dX12_oneMore_2 rfl hl (by decide) rfl (fun ls hl => ?_)
  exact lab_3 65 63 I0 J0 R0 L0 _ _ _ (show (63 - (-1)) < ((65 : Nat) : Int) from by omega) hvI hvR hsI hsR (by decide) hP hD hS (lv_sub hl [1, 2, 0] rfl)
set_option maxHeartbeats 4000000 in
set_option maxRecDepth 100000 in
theorem s_X12_comers (l : Launch) (G : Gx) (g q : Nat → Nat) (I0 : Nat → Int32) (J0 : Nat → Int64) (R0 : Nat → Nat → Int32) (L0 : Nat → Nat → Int64) (hvI : InvI Wm_lo Wm_hi I0) (hvR : InvR Wm_rl R0)  (p1 : Int32) (hp1 : ((0 : Int) ≤ p1.toInt ∧ p1.toInt ≤ (4 : Int))) : CtV (S := St) l yX12_comers cX12_comers 3 none (rmD 2 0 0) G [.ref (g 45), .int p1] (Wm G g q I0 J0 R0 L0) (fun u => InvI Wm_lo Wm_hi u.1 ∧ InvR Wm_rl u.2.2.1 ∧ SmF ([] : List Nat) I0 u.1 ∧ SmF ([] : List Nat) R0 u.2.2.1) (fun u => Wm G g q u.1 u.2.1 u.2.2.1 u.2.2.2) := by
  refine ctV_of (own := RX12) (by decide +kernel) rfl (Nat.le_of_ble_eq_true rfl) ?_
  intro p e s m below meth c A ls F hr hlk hnm hK hP hD hA hS hl
  have hx := F.1
  have hb := F.2.1
  have hown := F.2.2.2.1
  have hl : lv_has ls 3 [(0, .ref (g 45)), (1, .int p1)] := hl
  obtain ⟨Q, hQ⟩ : ∃ Q : State → Prop, Q = MQ below (va_Qv (S := St) (fun u => InvI Wm_lo Wm_hi u.1 ∧ InvR Wm_rl u.2.2.1 ∧ SmF ([] : List Nat) I0 u.1 ∧ SmF ([] : List Nat) R0 u.2.2.1) (BX G A (fun u => Wm G g q u.1 u.2.1 u.2.2.1 u.2.2.2)) A) [.ref (g 45), .int p1].toArray s 0 0 A := ⟨_, rfl⟩
  rw [show (MQ below (va_Qv (S := St) (fun u => InvI Wm_lo Wm_hi u.1 ∧ InvR Wm_rl u.2.2.1 ∧ SmF ([] : List Nat) I0 u.1 ∧ SmF ([] : List Nat) R0 u.2.2.1) (BX G A (fun u => Wm G g q u.1 u.2.1 u.2.2.1 u.2.2.2)) A) [.ref (g 45), .int p1].toArray s (rmD 2 0 0).cells (rmD 2 0 0).slots A) = Q from hQ.symm]
  have hsI := smF_rf ([] : List Nat) I0
  have hsR := smF_rf ([] : List Nat) R0
  have hvI0 := hvI
  have lab_54 : ∀ (k_54 : Nat) (a2_54 : Int32) (I_54 : Nat → Int32) (J_54 : Nat → Int64) (R_54 : Nat → Nat → Int32) (L_54 : Nat → Nat → Int64) (H : Heap) (locs : List Loc) (ls : Array Slot), ((2147483647 - a2_54.toInt) < (k_54 : Int)) → InvI Wm_lo Wm_hi I_54 → InvR Wm_rl R_54 → SmF ([] : List Nat) I0 I_54 → SmF ([] : List Nat) R0 R_54 → ((0 : Int) ≤ a2_54.toInt) → va_P G.1 vwCl (Wm G g q I_54 J_54 R_54 L_54) H → va_D A (Wm G g q I_54 J_54 R_54 L_54) → va_S A s.heap H locs → lv_has ls 3 [(0, .ref (g 45)), (1, .int p1), (2, .int a2_54)] → W p l e (rmD 2 0 0) s m [.ref (g 45), .int p1].toArray below meth c H locs 0 0 Q (F0 m 54 ls []) := by
    intro k_54
    induction k_54 with
    | zero =>
      intro a2_54 I_54 J_54 R_54 L_54 H locs ls hm hvI hvR hsI hsR y0_54 hP hD hS hl
      have hf_54 := full a2_54
      have hv_I_54 := hvI
      exact absurd hm (by omega)
    | succ k_54 ih_54 =>
      intro a2_54 I_54 J_54 R_54 L_54 H locs ls hm hvI hvR hsI hsR y0_54 hP hD hS hl
      have hf_54 := full a2_54
      have hv_I_54 := hvI
      refine lv_iload_n hx hb dX12_comers_54 rfl (lv_at hl 2 rfl) ?_
      refine lv_aload_n hx hb dX12_comers_55 rfl (lv_at hl 0 rfl) ?_
      refine g_get F hK hP 0 (Wm_at0 G g q I_54 J_54 R_54 L_54) clX12 34 (by decide) flX12_116 rfl dX12_comers_56 ?_
      refine lv_iconst (v := 5) hx hb dX12_comers_59 (by decide) ?_
      refine lv_aload_n hx hb dX12_comers_60 rfl (lv_at hl 0 rfl) ?_
      refine g_get F hK hP 0 (Wm_at0 G g q I_54 J_54 R_54 L_54) clX12 12 (by decide) flX12_48 rfl dX12_comers_61 ?_
      refine cst_i (hsI 10 rfl) ?_
      have w_I0_10 := rg (hvI0 10 (by decide)) (0) (1) rfl rfl
      refine lv_imul hx hb dX12_comers_64 ?_
      refine lv_topi (fun x1 ex1 => ?_)
      have fx1 : x1.toInt = 5 * (I0 10).toInt := by rw [ex1]; exact t_mul (by show (-2147483648 : Int) ≤ 5 * (I0 10).toInt; omega) (by show 5 * (I0 10).toInt ≤ 2147483647; omega)
      refine lv_iload_n hx hb dX12_comers_65 rfl (lv_at hl 1 rfl) ?_
      refine lv_iadd hx hb dX12_comers_66 ?_
      refine lv_topi (fun x2 ex2 => ?_)
      have fx2 : x2.toInt = x1.toInt + p1.toInt := by rw [ex2]; exact t_add (by show (-2147483648 : Int) ≤ x1.toInt + p1.toInt; omega) (by show x1.toInt + p1.toInt ≤ 2147483647; omega)
      refine g_iald F hK hP 23 (Wm_at23 G g q I_54 J_54 R_54 L_54) (in_of (by omega)) dX12_comers_67 rfl ?_
      refine lv_topi (fun x3 ex3 => ?_)
      have gx3 : x3.toInt = (R0 19 (Int32.toNatClampNeg x2)).toInt := congrArg Int32.toInt ((ex3).trans (congrFun (hsR 19 rfl) _))
      have fx3 := full x3
      refine lv_icmp_ge (tgt := 94) hx hb dX12_comers_68 (by decide) (fun c4 => ?_) (fun c4 => ?_)
      · have gc4 : x3.toInt ≤ a2_54.toInt := (tle _ _).mp c4
        rw [hQ]
        exact q_v F hr hlk (I_54, J_54, R_54, L_54) hP hD hS ⟨hvI, hvR, hsI, hsR⟩ dX12_comers_94 (Nat.le_of_ble_eq_true rfl) (Nat.le_of_ble_eq_true rfl)
      · have gc4 : ¬ (x3.toInt ≤ a2_54.toInt) := fun q0 => c4 ((tle _ _).mpr q0)
        refine lv_aload_n hx hb dX12_comers_71 rfl (lv_at hl 0 rfl) ?_
        refine lv_aload_n hx hb dX12_comers_72 rfl (lv_at hl 0 rfl) ?_
        refine g_get F hK hP 0 (Wm_at0 G g q I_54 J_54 R_54 L_54) clX12 35 (by decide) flX12_119 rfl dX12_comers_73 ?_
        refine lv_iconst (v := 5) hx hb dX12_comers_76 (by decide) ?_
        refine lv_aload_n hx hb dX12_comers_77 rfl (lv_at hl 0 rfl) ?_
        refine g_get F hK hP 0 (Wm_at0 G g q I_54 J_54 R_54 L_54) clX12 12 (by decide) flX12_48 rfl dX12_comers_78 ?_
        refine cst_i (hsI 10 rfl) ?_
        refine lv_imul hx hb dX12_comers_81 ?_
        refine lv_topi (fun x5 ex5 => ?_)
        have fx5 : x5.toInt = 5 * (I0 10).toInt := by rw [ex5]; exact t_mul (by show (-2147483648 : Int) ≤ 5 * (I0 10).toInt; omega) (by show 5 * (I0 10).toInt ≤ 2147483647; omega)
        refine lv_iload_n hx hb dX12_comers_82 rfl (lv_at hl 1 rfl) ?_
        refine lv_iadd hx hb dX12_comers_83 ?_
        refine lv_topi (fun x6 ex6 => ?_)
        have fx6 : x6.toInt = x5.toInt + p1.toInt := by rw [ex6]; exact t_add (by show (-2147483648 : Int) ≤ x5.toInt + p1.toInt; omega) (by show x5.toInt + p1.toInt ≤ 2147483647; omega)
        refine g_iald F hK hP 24 (Wm_at24 G g q I_54 J_54 R_54 L_54) (in_of (by omega)) dX12_comers_84 rfl ?_
        refine lv_topi (fun x7 ex7 => ?_)
        have gx7 : x7.toInt = (R0 20 (Int32.toNatClampNeg x6)).toInt := congrArg Int32.toInt ((ex7).trans (congrFun (hsR 20 rfl) _))
        have fx7 := full x7
        refine wvv (As := [.int x7]) (rest := []) (b := (g 45)) (d := 1) F hK hP hD hS hA (s_X12_oneMore l G g q I_54 J_54 R_54 L_54 hvI hvR  x7 ) kmV_X12_oneMore mlX12_552 clX12 rfl 0 (Wm_at0 G g q I_54 J_54 R_54 L_54) ⟨(Nat.le_of_ble_eq_true rfl), (Nat.le_of_ble_eq_true rfl)⟩ hl.1 rfl (Nat.le_of_ble_eq_true rfl) dX12_comers_85 (fun u9 H locs hwr8 hP hD hS => ?_)
        obtain ⟨I10, J11, R12, L13⟩ := u9
        replace hP : va_P G.1 vwCl (Wm G g q I10 J11 R12 L13) H := hP
        replace hD : va_D A (Wm G g q I10 J11 R12 L13) := hD
        obtain ⟨hvI, hvR, tIr8, tRr8⟩ := hwr8
        replace hvI : InvI Wm_lo Wm_hi I10 := hvI
        replace hvR : InvR Wm_rl R12 := hvR
        replace tIr8 : SmF ([] : List Nat) I_54 I10 := tIr8
        replace tRr8 : SmF ([] : List Nat) R_54 R12 := tRr8
        have hv_I10 := hvI
        have hsI := smF_tr hsI tIr8 (by decide)
        have hsR := smF_tr hsR tRr8 (by decide)
        obtain ⟨x14, ex14⟩ : ∃ y : Int32, y = a2_54 + 1 := ⟨_, rfl⟩
        have fx14 : x14.toInt = a2_54.toInt + (1 : Int) := by rw [ex14]; exact t_add (by show (-2147483648 : Int) ≤ a2_54.toInt + (1 : Int); omega) (by show a2_54.toInt + (1 : Int) ≤ 2147483647; omega)
        refine lv_iinc (v := x14) (lv' := [(2, .int x14), (0, .ref (g 45)), (1, .int p1)]) hx hb dX12_comers_88 hl (k := 2) rfl (by rw [ex14]; rfl) (by decide) rfl (fun ls hl => ?_)
        refine lv_goto (tgt := 54) hx hb dX12_comers_91 (by decide) ?_
        exact ih_54 x14 I10 J11 R12 L13 _ _ _ (show (2147483647 - x14.toInt) < (k_54 : Int) from by omega) hvI hvR hsI hsR (show ((0 : Int) ≤ x14.toInt) from by omega) hP hD hS (lv_sub hl [1, 2, 0] rfl)
  have lab_6 : ∀ (k_6 : Nat) (a2_6 : Int32) (I_6 : Nat → Int32) (J_6 : Nat → Int64) (R_6 : Nat → Nat → Int32) (L_6 : Nat → Nat → Int64) (H : Heap) (locs : List Loc) (ls : Array Slot), ((12 - a2_6.toInt) < (k_6 : Int)) → InvI Wm_lo Wm_hi I_6 → InvR Wm_rl R_6 → SmF ([] : List Nat) I0 I_6 → SmF ([] : List Nat) R0 R_6 → ((0 : Int) ≤ a2_6.toInt ∧ a2_6.toInt ≤ (12 : Int)) → va_P G.1 vwCl (Wm G g q I_6 J_6 R_6 L_6) H → va_D A (Wm G g q I_6 J_6 R_6 L_6) → va_S A s.heap H locs → lv_has ls 3 [(0, .ref (g 45)), (1, .int p1), (2, .int a2_6)] → W p l e (rmD 2 0 0) s m [.ref (g 45), .int p1].toArray below meth c H locs 0 0 Q (F0 m 6 ls []) := by
    intro k_6
    induction k_6 with
    | zero =>
      intro a2_6 I_6 J_6 R_6 L_6 H locs ls hm hvI hvR hsI hsR y0_6 hP hD hS hl
      have hv_I_6 := hvI
      exact absurd hm (by omega)
    | succ k_6 ih_6 =>
      intro a2_6 I_6 J_6 R_6 L_6 H locs ls hm hvI hvR hsI hsR y0_6 hP hD hS hl
      have hv_I_6 := hvI
      have lab_46 : ∀  (I_46 : Nat → Int32) (J_46 : Nat → Int64) (R_46 : Nat → Nat → Int32) (L_46 : Nat → Nat → Int64) (H : Heap) (locs : List Loc) (ls : Array Slot), InvI Wm_lo Wm_hi I_46 → InvR Wm_rl R_46 → SmF ([] : List Nat) I0 I_46 → SmF ([] : List Nat) R0 R_46 → ((0 : Int) ≤ a2_6.toInt ∧ a2_6.toInt ≤ (11 : Int)) → va_P G.1 vwCl (Wm G g q I_46 J_46 R_46 L_46) H → va_D A (Wm G g q I_46 J_46 R_46 L_46) → va_S A s.heap H locs → lv_has ls 3 [(0, .ref (g 45)), (1, .int p1), (2, .int a2_6)] → W p l e (rmD 2 0 0) s m [.ref (g 45), .int p1].toArray below meth c H locs 0 0 Q (F0 m 46 ls []) := by
        intro I_46 J_46 R_46 L_46 H locs ls hvI hvR hsI hsR y0_46 hP hD hS hl
        have hv_I_46 := hvI
        obtain ⟨x15, ex15⟩ : ∃ y : Int32, y = a2_6 + 1 := ⟨_, rfl⟩
        have fx15 : x15.toInt = a2_6.toInt + (1 : Int) := by rw [ex15]; exact t_add (by show (-2147483648 : Int) ≤ a2_6.toInt + (1 : Int); omega) (by show a2_6.toInt + (1 : Int) ≤ 2147483647; omega)
        refine lv_iinc (v := x15) (lv' := [(2, .int x15), (0, .ref (g 45)), (1, .int p1)]) hx hb dX12_comers_46 hl (k := 2) rfl (by rw [ex15]; rfl) (by decide) rfl (fun ls hl => ?_)
        refine lv_goto (tgt := 6) hx hb dX12_comers_49 (by decide) ?_
        exact ih_6 x15 I_46 J_46 R_46 L_46 _ _ _ (show (12 - x15.toInt) < (k_6 : Int) from by omega) hvI hvR hsI hsR (show ((0 : Int) ≤ x15.toInt ∧ x15.toInt ≤ (12 : Int)) from by omega) hP hD hS (lv_sub hl [1, 2, 0] rfl)
      refine lv_iload_n hx hb dX12_comers_6 rfl (lv_at hl 2 rfl) ?_
      refine lv_aload_n hx hb dX12_comers_7 rfl (lv_at hl 0 rfl) ?_
      refine g_get F hK hP 0 (Wm_at0 G g q I_6 J_6 R_6 L_6) clX12 21 (by decide) flX12_77 rfl dX12_comers_8 ?_
      refine lv_aload_n hx hb dX12_comers_11 rfl (lv_at hl 0 rfl) ?_
      refine g_get F hK hP 0 (Wm_at0 G g q I_6 J_6 R_6 L_6) clX12 12 (by decide) flX12_48 rfl dX12_comers_12 ?_
      refine cst_i (hsI 10 rfl) ?_
      have w_I0_10 := rg (hvI0 10 (by decide)) (0) (1) rfl rfl
      refine g_iald F hK hP 10 (Wm_at10 G g q I_6 J_6 R_6 L_6) (in_of (by omega)) dX12_comers_15 rfl ?_
      refine lv_topi (fun x16 ex16 => ?_)
      have gx16 : x16.toInt = (R0 7 (Int32.toNatClampNeg (I0 10))).toInt := congrArg Int32.toInt ((ex16).trans (congrFun (hsR 7 rfl) _))
      have fx16 : ((0 : Int) ≤ x16.toInt ∧ x16.toInt ≤ (12 : Int)) := by rw [ex16]; exact hvR 7 (by decide) _ (clamp_lt (n := 2) (in_of (by omega)))
      refine lv_icmp_ge (tgt := 52) hx hb dX12_comers_16 (by decide) (fun c17 => ?_) (fun c17 => ?_)
      · have gc17 : x16.toInt ≤ a2_6.toInt := (tle _ _).mp c17
        refine lv_iconst (v := 0) hx hb dX12_comers_52 (by decide) ?_
        refine lv_istore_n (lv' := [(2, .int 0), (0, .ref (g 45)), (1, .int p1)]) hx hb dX12_comers_53 rfl hl (by decide) rfl (fun ls hl => ?_)
        exact lab_54 2147483648 0 I_6 J_6 R_6 L_6 _ _ _ (show (2147483647 - 0) < ((2147483648 : Nat) : Int) from by omega) hvI hvR hsI hsR (by decide) hP hD hS (lv_sub hl [1, 2, 0] rfl)
      · have gc17 : ¬ (x16.toInt ≤ a2_6.toInt) := fun q0 => c17 ((tle _ _).mpr q0)
        refine lv_aload_n hx hb dX12_comers_19 rfl (lv_at hl 0 rfl) ?_
        refine lv_iload_n hx hb dX12_comers_20 rfl (lv_at hl 2 rfl) ?_
        refine lv_iload_n hx hb dX12_comers_21 rfl (lv_at hl 1 rfl) ?_
        refine wvi (As := [.int a2_6, .int p1]) (rest := []) (b := (g 45)) (d := 1) F hK hP hD hS hA (s_X12_isIn l G g q I_6 J_6 R_6 L_6 hvI hvR  a2_6 p1 (show ((0 : Int) ≤ a2_6.toInt ∧ a2_6.toInt ≤ (11 : Int)) from by omega) (show ((0 : Int) ≤ p1.toInt ∧ p1.toInt ≤ (4 : Int)) from by omega)) kmV_X12_isIn mlX12_479 clX12 rfl 0 (Wm_at0 G g q I_6 J_6 R_6 L_6) ⟨(Nat.le_of_ble_eq_true rfl), (Nat.le_of_ble_eq_true rfl)⟩ hl.1 rfl (Nat.le_of_ble_eq_true rfl) dX12_comers_22 (fun r18 u19 H locs hwr18 hP hD hS => ?_)
        have F0r18 := hwr18
        replace F0r18 : ((0 : Int) ≤ r18.toInt ∧ r18.toInt ≤ (1 : Int)) := F0r18
        refine lv_if_eq (tgt := 46) hx hb dX12_comers_25 (by decide) (fun c20 => ?_) (fun c20 => ?_)
        · have gc20 : r18.toInt = 0 := congrArg Int32.toInt c20
          exact lab_46  I_6 J_6 R_6 L_6 _ _ _ hvI hvR hsI hsR (show ((0 : Int) ≤ a2_6.toInt ∧ a2_6.toInt ≤ (11 : Int)) from by omega) hP hD hS (lv_sub hl [0, 1, 2] rfl)
        · have gc20 : ¬ (r18.toInt = 0) := fun q0 => c20 (Int32.toInt_inj.mp q0)
          refine lv_aload_n hx hb dX12_comers_28 rfl (lv_at hl 0 rfl) ?_
          refine lv_aload_n hx hb dX12_comers_29 rfl (lv_at hl 0 rfl) ?_
          refine g_get F hK hP 0 (Wm_at0 G g q I_6 J_6 R_6 L_6) clX12 27 (by decide) flX12_95 rfl dX12_comers_30 ?_
          refine lv_bipush (v := 12) hx hb dX12_comers_33 (by decide) ?_
          refine lv_aload_n hx hb dX12_comers_35 rfl (lv_at hl 0 rfl) ?_
          refine g_get F hK hP 0 (Wm_at0 G g q I_6 J_6 R_6 L_6) clX12 12 (by decide) flX12_48 rfl dX12_comers_36 ?_
          refine cst_i (hsI 10 rfl) ?_
          refine lv_imul hx hb dX12_comers_39 ?_
          refine lv_topi (fun x21 ex21 => ?_)
          have fx21 : x21.toInt = 12 * (I0 10).toInt := by rw [ex21]; exact t_mul (by show (-2147483648 : Int) ≤ 12 * (I0 10).toInt; omega) (by show 12 * (I0 10).toInt ≤ 2147483647; omega)
          refine lv_iload_n hx hb dX12_comers_40 rfl (lv_at hl 2 rfl) ?_
          refine lv_iadd hx hb dX12_comers_41 ?_
          refine lv_topi (fun x22 ex22 => ?_)
          have fx22 : x22.toInt = x21.toInt + a2_6.toInt := by rw [ex22]; exact t_add (by show (-2147483648 : Int) ≤ x21.toInt + a2_6.toInt; omega) (by show x21.toInt + a2_6.toInt ≤ 2147483647; omega)
          refine g_iald F hK hP 16 (Wm_at16 G g q I_6 J_6 R_6 L_6) (in_of (by omega)) dX12_comers_42 rfl ?_
          refine lv_topi (fun x23 ex23 => ?_)
          have gx23 : x23.toInt = (R0 12 (Int32.toNatClampNeg x22)).toInt := congrArg Int32.toInt ((ex23).trans (congrFun (hsR 12 rfl) _))
          have fx23 := full x23
          refine wvv (As := [.int x23]) (rest := []) (b := (g 45)) (d := 1) F hK hP hD hS hA (s_X12_oneMore l G g q I_6 J_6 R_6 L_6 hvI hvR  x23 ) kmV_X12_oneMore mlX12_552 clX12 rfl 0 (Wm_at0 G g q I_6 J_6 R_6 L_6) ⟨(Nat.le_of_ble_eq_true rfl), (Nat.le_of_ble_eq_true rfl)⟩ hl.1 rfl (Nat.le_of_ble_eq_true rfl) dX12_comers_43 (fun u25 H locs hwr24 hP hD hS => ?_)
          obtain ⟨I26, J27, R28, L29⟩ := u25
          replace hP : va_P G.1 vwCl (Wm G g q I26 J27 R28 L29) H := hP
          replace hD : va_D A (Wm G g q I26 J27 R28 L29) := hD
          obtain ⟨hvI, hvR, tIr24, tRr24⟩ := hwr24
          replace hvI : InvI Wm_lo Wm_hi I26 := hvI
          replace hvR : InvR Wm_rl R28 := hvR
          replace tIr24 : SmF ([] : List Nat) I_6 I26 := tIr24
          replace tRr24 : SmF ([] : List Nat) R_6 R28 := tRr24
          have hv_I26 := hvI
          have hsI := smF_tr hsI tIr24 (by decide)
          have hsR := smF_tr hsR tRr24 (by decide)
          exact lab_46  I26 J27 R28 L29 _ _ _ hvI hvR hsI hsR (show ((0 : Int) ≤ a2_6.toInt ∧ a2_6.toInt ≤ (11 : Int)) from by omega) hP hD hS (lv_sub hl [0, 1, 2] rfl)
  refine lv_aload_n hx hb dX12_comers_0 rfl (lv_at hl 0 rfl) ?_
  refine wvv (As := []) (rest := []) (b := (g 45)) (d := 1) F hK hP hD hS hA (s_X12_nobody l G g q I0 J0 R0 L0 hvI hvR   ) kmV_X12_nobody mlX12_549 clX12 rfl 0 (Wm_at0 G g q I0 J0 R0 L0) ⟨(Nat.le_of_ble_eq_true rfl), (Nat.le_of_ble_eq_true rfl)⟩ hl.1 rfl (Nat.le_of_ble_eq_true rfl) dX12_comers_1 (fun u31 H locs hwr30 hP hD hS => ?_)
  obtain ⟨I32, J33, R34, L35⟩ := u31
  replace hP : va_P G.1 vwCl (Wm G g q I32 J33 R34 L35) H := hP
  replace hD : va_D A (Wm G g q I32 J33 R34 L35) := hD
  obtain ⟨hvI, hvR, tIr30, tRr30⟩ := hwr30
  replace hvI : InvI Wm_lo Wm_hi I32 := hvI
  replace hvR : InvR Wm_rl R34 := hvR
  replace tIr30 : SmF ([] : List Nat) I0 I32 := tIr30
  replace tRr30 : SmF ([] : List Nat) R0 R34 := tRr30
  have hv_I32 := hvI
  have hsI := smF_tr hsI tIr30 (by decide)
  have hsR := smF_tr hsR tRr30 (by decide)
  refine lv_iconst (v := 0) hx hb dX12_comers_4 (by decide) ?_
  refine lv_istore_n (lv' := [(2, .int 0), (0, .ref (g 45)), (1, .int p1)]) hx hb dX12_comers_5 rfl hl (by decide) rfl (fun ls hl => ?_)
  exact lab_6 13 0 I32 J33 R34 L35 _ _ _ (show (12 - 0) < ((13 : Nat) : Int) from by omega) hvI hvR hsI hsR (by decide) hP hD hS (lv_sub hl [1, 2, 0] rfl)
set_option maxHeartbeats 4000000 in
set_option maxRecDepth 100000 in
theorem s_X12_drawn (l : Launch) (G : Gx) (g q : Nat → Nat) (I0 : Nat → Int32) (J0 : Nat → Int64) (R0 : Nat → Nat → Int32) (L0 : Nat → Nat → Int64) (hvI : InvI Wm_lo Wm_hi I0) (hvR : InvR Wm_rl R0)  (p1 : Int32) (hp1 : ((100 : Int) ≤ p1.toInt ∧ p1.toInt ≤ (100 : Int))) : CtI (S := St) l yX12_drawn cX12_drawn 2 (some .int) (rmD 1 0 0) G [.ref (g 45), .int p1] (Wm G g q I0 J0 R0 L0) (fun r u => InvI Wm_lo Wm_hi u.1 ∧ InvR Wm_rl u.2.2.1 ∧ SmF ([] : List Nat) I0 u.1 ∧ SmF ([] : List Nat) R0 u.2.2.1) (fun u => Wm G g q u.1 u.2.1 u.2.2.1 u.2.2.2) := by
  refine ctI_of (own := RX12) (by decide +kernel) rfl (Nat.le_of_ble_eq_true rfl) ?_
  intro p e s m below meth c A ls F hr hlk hnm hK hP hD hA hS hl
  have hx := F.1
  have hb := F.2.1
  have hown := F.2.2.2.1
  have hl : lv_has ls 2 [(0, .ref (g 45)), (1, .int p1)] := hl
  obtain ⟨Q, hQ⟩ : ∃ Q : State → Prop, Q = MQ below (va_Qi (S := St) (fun r u => InvI Wm_lo Wm_hi u.1 ∧ InvR Wm_rl u.2.2.1 ∧ SmF ([] : List Nat) I0 u.1 ∧ SmF ([] : List Nat) R0 u.2.2.1) (BX G A (fun u => Wm G g q u.1 u.2.1 u.2.2.1 u.2.2.2)) A) [.ref (g 45), .int p1].toArray s 0 0 A := ⟨_, rfl⟩
  rw [show (MQ below (va_Qi (S := St) (fun r u => InvI Wm_lo Wm_hi u.1 ∧ InvR Wm_rl u.2.2.1 ∧ SmF ([] : List Nat) I0 u.1 ∧ SmF ([] : List Nat) R0 u.2.2.1) (BX G A (fun u => Wm G g q u.1 u.2.1 u.2.2.1 u.2.2.2)) A) [.ref (g 45), .int p1].toArray s (rmD 1 0 0).cells (rmD 1 0 0).slots A) = Q from hQ.symm]
  have hsI := smF_rf ([] : List Nat) I0
  have hsR := smF_rf ([] : List Nat) R0
  have hvI0 := hvI
  refine lv_aload_n hx hb dX12_drawn_0 rfl (lv_at hl 0 rfl) ?_
  refine lv_ldc2 hx hb hown (F.2.2.2.2 _ clX12_566) dX12_drawn_1 ?_
  refine lv_aload_n hx hb dX12_drawn_4 rfl (lv_at hl 0 rfl) ?_
  refine g_get F hK hP 0 (Wm_at0 G g q I0 J0 R0 L0) clX12 66 (by decide) flX12_213 rfl dX12_drawn_5 ?_
  refine lv_lmul hx hb dX12_drawn_8 ?_
  refine lv_topl (fun x1 ex1 => ?_)
  refine lv_ldc2 hx hb hown (F.2.2.2.2 _ clX12_568) dX12_drawn_9 ?_
  refine lv_ladd hx hb dX12_drawn_12 ?_
  refine lv_topl (fun x2 ex2 => ?_)
  refine lv_ldc2 hx hb hown (F.2.2.2.2 _ clX12_570) dX12_drawn_13 ?_
  refine lv_lrem hx hb dX12_drawn_16 (by decide) ?_
  refine lv_topl (fun x3 ex3 => ?_)
  refine p_fld (W1 := fun y => Wm G g q I0 y R0 L0) (n := 1) (v := x3) F hK hP hD hS 0 (Wm_at0 G g q I0 J0 R0 L0) clX12 66 (by decide) flX12_213 rfl rfl rfl (Nat.le_of_ble_eq_true rfl) dX12_drawn_17 (Wm_setJ1 G g q I0 J0 R0 L0 _) (fun J4 H locs eJ4 hP hD hS => ?_)
  refine lv_aload_n hx hb dX12_drawn_20 rfl (lv_at hl 0 rfl) ?_
  refine g_get F hK hP 0 (Wm_at0 G g q I0 J4 R0 L0) clX12 66 (by decide) flX12_213 rfl dX12_drawn_21 ?_
  refine lv_ldc2 hx hb hown (F.2.2.2.2 _ clX12_572) dX12_drawn_24 ?_
  refine lv_ldiv hx hb dX12_drawn_27 (by decide) ?_
  refine lv_topl (fun x5 ex5 => ?_)
  refine lv_iload_n hx hb dX12_drawn_28 rfl (lv_at hl 1 rfl) ?_
  obtain ⟨x6, ex6⟩ : ∃ y : Int64, (p1 : Int32).toInt64 = y := ⟨_, rfl⟩
  refine lv_i2l (v := x6) hx hb dX12_drawn_29 ex6 ?_
  refine lv_lrem hx hb dX12_drawn_30 (i2l_ne ex6 (by omega)) ?_
  refine lv_topl (fun x7 ex7 => ?_)
  obtain ⟨x8, ex8⟩ : ∃ y : Int32, (x7 : Int64).toInt32 = y := ⟨_, rfl⟩
  refine lv_l2i (v := x8) hx hb dX12_drawn_31 ex8 ?_
  rw [hQ]
  exact q_i F hr hlk (I0, J4, R0, L0) hP hD hS ⟨hvI, hvR, hsI, hsR⟩ dX12_drawn_32 (Nat.le_of_ble_eq_true rfl) (Nat.le_of_ble_eq_true rfl)
set_option maxHeartbeats 4000000 in
set_option maxRecDepth 100000 in
theorem s_X12_draw (l : Launch) (G : Gx) (g q : Nat → Nat) (I0 : Nat → Int32) (J0 : Nat → Int64) (R0 : Nat → Nat → Int32) (L0 : Nat → Nat → Int64) (hvI : InvI Wm_lo Wm_hi I0) (hvR : InvR Wm_rl R0)  (p1 : Int32)  : CtI (S := St) l yX12_draw cX12_draw 4 (some .int) (rmD 3 0 0) G [.ref (g 45), .int p1] (Wm G g q I0 J0 R0 L0) (fun r u => InvI Wm_lo Wm_hi u.1 ∧ InvR Wm_rl u.2.2.1 ∧ SmF ([] : List Nat) I0 u.1 ∧ SmF ([] : List Nat) R0 u.2.2.1) (fun u => Wm G g q u.1 u.2.1 u.2.2.1 u.2.2.2) := by
  refine ctI_of (own := RX12) (by decide +kernel) rfl (Nat.le_of_ble_eq_true rfl) ?_
  intro p e s m below meth c A ls F hr hlk hnm hK hP hD hA hS hl
  have hx := F.1
  have hb := F.2.1
  have hown := F.2.2.2.1
  have hl : lv_has ls 4 [(0, .ref (g 45)), (1, .int p1)] := hl
  obtain ⟨Q, hQ⟩ : ∃ Q : State → Prop, Q = MQ below (va_Qi (S := St) (fun r u => InvI Wm_lo Wm_hi u.1 ∧ InvR Wm_rl u.2.2.1 ∧ SmF ([] : List Nat) I0 u.1 ∧ SmF ([] : List Nat) R0 u.2.2.1) (BX G A (fun u => Wm G g q u.1 u.2.1 u.2.2.1 u.2.2.2)) A) [.ref (g 45), .int p1].toArray s 0 0 A := ⟨_, rfl⟩
  rw [show (MQ below (va_Qi (S := St) (fun r u => InvI Wm_lo Wm_hi u.1 ∧ InvR Wm_rl u.2.2.1 ∧ SmF ([] : List Nat) I0 u.1 ∧ SmF ([] : List Nat) R0 u.2.2.1) (BX G A (fun u => Wm G g q u.1 u.2.1 u.2.2.1 u.2.2.2)) A) [.ref (g 45), .int p1].toArray s (rmD 3 0 0).cells (rmD 3 0 0).slots A) = Q from hQ.symm]
  have hsI := smF_rf ([] : List Nat) I0
  have hsR := smF_rf ([] : List Nat) R0
  have hvI0 := hvI
  have lab_74 : ∀ (k_74 : Nat) (a2_74 : Int32) (a3_74 : Int32) (I_74 : Nat → Int32) (J_74 : Nat → Int64) (R_74 : Nat → Nat → Int32) (L_74 : Nat → Nat → Int64) (H : Heap) (locs : List Loc) (ls : Array Slot), ((2147483647 - a3_74.toInt) < (k_74 : Int)) → InvI Wm_lo Wm_hi I_74 → InvR Wm_rl R_74 → SmF ([] : List Nat) I0 I_74 → SmF ([] : List Nat) R0 R_74 → ((0 : Int) ≤ p1.toInt ∧ p1.toInt ≤ (4 : Int)) → ((0 : Int) ≤ a3_74.toInt) → va_P G.1 vwCl (Wm G g q I_74 J_74 R_74 L_74) H → va_D A (Wm G g q I_74 J_74 R_74 L_74) → va_S A s.heap H locs → lv_has ls 4 [(0, .ref (g 45)), (1, .int p1), (2, .int a2_74), (3, .int a3_74)] → W p l e (rmD 3 0 0) s m [.ref (g 45), .int p1].toArray below meth c H locs 0 0 Q (F0 m 74 ls []) := by
    intro k_74
    induction k_74 with
    | zero =>
      intro a2_74 a3_74 I_74 J_74 R_74 L_74 H locs ls hm hvI hvR hsI hsR y0_74 y1_74 hP hD hS hl
      have hf_74 := full a3_74
      have hv_I_74 := hvI
      exact absurd hm (by omega)
    | succ k_74 ih_74 =>
      intro a2_74 a3_74 I_74 J_74 R_74 L_74 H locs ls hm hvI hvR hsI hsR y0_74 y1_74 hP hD hS hl
      have hf_74 := full a3_74
      have hv_I_74 := hvI
      have lab_119 : ∀ (b0_119 : Int32) (b1_119 : Int32) (I_119 : Nat → Int32) (J_119 : Nat → Int64) (R_119 : Nat → Nat → Int32) (L_119 : Nat → Nat → Int64) (H : Heap) (locs : List Loc) (ls : Array Slot), InvI Wm_lo Wm_hi I_119 → InvR Wm_rl R_119 → SmF ([] : List Nat) I0 I_119 → SmF ([] : List Nat) R0 R_119 → ((0 : Int) ≤ a3_74.toInt ∧ a3_74.toInt ≤ (2147483646 : Int)) → ((0 : Int) ≤ b0_119.toInt ∧ b0_119.toInt ≤ (1 : Int)) → va_P G.1 vwCl (Wm G g q I_119 J_119 R_119 L_119) H → va_D A (Wm G g q I_119 J_119 R_119 L_119) → va_S A s.heap H locs → lv_has ls 4 [(0, .ref (g 45)), (1, .int p1), (3, .int a3_74)] → W p l e (rmD 3 0 0) s m [.ref (g 45), .int p1].toArray below meth c H locs 0 0 Q (F0 m 119 ls [.int b0_119, .int b1_119]) := by
        intro b0_119 b1_119 I_119 J_119 R_119 L_119 H locs ls hvI hvR hsI hsR y0_119 y1_119 hP hD hS hl
        have hv_I_119 := hvI
        refine lv_iadd hx hb dX12_draw_119 ?_
        refine lv_topi (fun x1 ex1 => ?_)
        refine lv_istore_n (lv' := [(2, .int x1), (0, .ref (g 45)), (1, .int p1), (3, .int a3_74)]) hx hb dX12_draw_120 rfl hl (by decide) rfl (fun ls hl => ?_)
        obtain ⟨x2, ex2⟩ : ∃ y : Int32, y = a3_74 + 1 := ⟨_, rfl⟩
        have fx2 : x2.toInt = a3_74.toInt + (1 : Int) := by rw [ex2]; exact t_add (by show (-2147483648 : Int) ≤ a3_74.toInt + (1 : Int); omega) (by show a3_74.toInt + (1 : Int) ≤ 2147483647; omega)
        refine lv_iinc (v := x2) (lv' := [(3, .int x2), (2, .int x1), (0, .ref (g 45)), (1, .int p1)]) hx hb dX12_draw_121 hl (k := 3) rfl (by rw [ex2]; rfl) (by decide) rfl (fun ls hl => ?_)
        refine lv_goto (tgt := 74) hx hb dX12_draw_124 (by decide) ?_
        exact ih_74 x1 x2 I_119 J_119 R_119 L_119 _ _ _ (show (2147483647 - x2.toInt) < (k_74 : Int) from by omega) hvI hvR hsI hsR (show ((0 : Int) ≤ p1.toInt ∧ p1.toInt ≤ (4 : Int)) from by omega) (show ((0 : Int) ≤ x2.toInt) from by omega) hP hD hS (lv_sub hl [2, 3, 1, 0] rfl)
      refine lv_iload_n hx hb dX12_draw_74 rfl (lv_at hl 3 rfl) ?_
      refine lv_aload_n hx hb dX12_draw_75 rfl (lv_at hl 0 rfl) ?_
      refine g_get F hK hP 0 (Wm_at0 G g q I_74 J_74 R_74 L_74) clX12 34 (by decide) flX12_116 rfl dX12_draw_76 ?_
      refine lv_iconst (v := 5) hx hb dX12_draw_79 (by decide) ?_
      refine lv_aload_n hx hb dX12_draw_80 rfl (lv_at hl 0 rfl) ?_
      refine g_get F hK hP 0 (Wm_at0 G g q I_74 J_74 R_74 L_74) clX12 12 (by decide) flX12_48 rfl dX12_draw_81 ?_
      refine cst_i (hsI 10 rfl) ?_
      have w_I0_10 := rg (hvI0 10 (by decide)) (0) (1) rfl rfl
      refine lv_imul hx hb dX12_draw_84 ?_
      refine lv_topi (fun x3 ex3 => ?_)
      have fx3 : x3.toInt = 5 * (I0 10).toInt := by rw [ex3]; exact t_mul (by show (-2147483648 : Int) ≤ 5 * (I0 10).toInt; omega) (by show 5 * (I0 10).toInt ≤ 2147483647; omega)
      refine lv_iload_n hx hb dX12_draw_85 rfl (lv_at hl 1 rfl) ?_
      refine lv_iadd hx hb dX12_draw_86 ?_
      refine lv_topi (fun x4 ex4 => ?_)
      have fx4 : x4.toInt = x3.toInt + p1.toInt := by rw [ex4]; exact t_add (by show (-2147483648 : Int) ≤ x3.toInt + p1.toInt; omega) (by show x3.toInt + p1.toInt ≤ 2147483647; omega)
      refine g_iald F hK hP 23 (Wm_at23 G g q I_74 J_74 R_74 L_74) (in_of (by omega)) dX12_draw_87 rfl ?_
      refine lv_topi (fun x5 ex5 => ?_)
      have gx5 : x5.toInt = (R0 19 (Int32.toNatClampNeg x4)).toInt := congrArg Int32.toInt ((ex5).trans (congrFun (hsR 19 rfl) _))
      have fx5 := full x5
      refine lv_icmp_ge (tgt := 127) hx hb dX12_draw_88 (by decide) (fun c6 => ?_) (fun c6 => ?_)
      · have gc6 : x5.toInt ≤ a3_74.toInt := (tle _ _).mp c6
        refine lv_iload_n hx hb dX12_draw_127 rfl (lv_at hl 2 rfl) ?_
        rw [hQ]
        exact q_i F hr hlk (I_74, J_74, R_74, L_74) hP hD hS ⟨hvI, hvR, hsI, hsR⟩ dX12_draw_128 (Nat.le_of_ble_eq_true rfl) (Nat.le_of_ble_eq_true rfl)
      · have gc6 : ¬ (x5.toInt ≤ a3_74.toInt) := fun q0 => c6 ((tle _ _).mpr q0)
        refine lv_iload_n hx hb dX12_draw_91 rfl (lv_at hl 2 rfl) ?_
        refine lv_aload_n hx hb dX12_draw_92 rfl (lv_at hl 0 rfl) ?_
        refine lv_bipush (v := 100) hx hb dX12_draw_93 (by decide) ?_
        refine wvi (As := [.int 100]) (rest := [.int a2_74]) (b := (g 45)) (d := 1) F hK hP hD hS hA (s_X12_drawn l G g q I_74 J_74 R_74 L_74 hvI hvR  100 (by decide)) kmV_X12_drawn mlX12_574 clX12 rfl 0 (Wm_at0 G g q I_74 J_74 R_74 L_74) ⟨(Nat.le_of_ble_eq_true rfl), (Nat.le_of_ble_eq_true rfl)⟩ hl.1 rfl (Nat.le_of_ble_eq_true rfl) dX12_draw_95 (fun r7 u8 H locs hwr7 hP hD hS => ?_)
        obtain ⟨I9, J10, R11, L12⟩ := u8
        replace hP : va_P G.1 vwCl (Wm G g q I9 J10 R11 L12) H := hP
        replace hD : va_D A (Wm G g q I9 J10 R11 L12) := hD
        obtain ⟨hvI, hvR, tIr7, tRr7⟩ := hwr7
        replace hvI : InvI Wm_lo Wm_hi I9 := hvI
        replace hvR : InvR Wm_rl R11 := hvR
        replace tIr7 : SmF ([] : List Nat) I_74 I9 := tIr7
        replace tRr7 : SmF ([] : List Nat) R_74 R11 := tRr7
        have hv_I9 := hvI
        have hsI := smF_tr hsI tIr7 (by decide)
        have hsR := smF_tr hsR tRr7 (by decide)
        refine lv_aload_n hx hb dX12_draw_98 rfl (lv_at hl 0 rfl) ?_
        refine g_get F hK hP 0 (Wm_at0 G g q I9 J10 R11 L12) clX12 35 (by decide) flX12_119 rfl dX12_draw_99 ?_
        refine lv_iconst (v := 5) hx hb dX12_draw_102 (by decide) ?_
        refine lv_aload_n hx hb dX12_draw_103 rfl (lv_at hl 0 rfl) ?_
        refine g_get F hK hP 0 (Wm_at0 G g q I9 J10 R11 L12) clX12 12 (by decide) flX12_48 rfl dX12_draw_104 ?_
        refine cst_i (hsI 10 rfl) ?_
        refine lv_imul hx hb dX12_draw_107 ?_
        refine lv_topi (fun x13 ex13 => ?_)
        have fx13 : x13.toInt = 5 * (I0 10).toInt := by rw [ex13]; exact t_mul (by show (-2147483648 : Int) ≤ 5 * (I0 10).toInt; omega) (by show 5 * (I0 10).toInt ≤ 2147483647; omega)
        refine lv_iload_n hx hb dX12_draw_108 rfl (lv_at hl 1 rfl) ?_
        refine lv_iadd hx hb dX12_draw_109 ?_
        refine lv_topi (fun x14 ex14 => ?_)
        have fx14 : x14.toInt = x13.toInt + p1.toInt := by rw [ex14]; exact t_add (by show (-2147483648 : Int) ≤ x13.toInt + p1.toInt; omega) (by show x13.toInt + p1.toInt ≤ 2147483647; omega)
        refine g_iald F hK hP 24 (Wm_at24 G g q I9 J10 R11 L12) (in_of (by omega)) dX12_draw_110 rfl ?_
        refine lv_topi (fun x15 ex15 => ?_)
        have gx15 : x15.toInt = (R0 20 (Int32.toNatClampNeg x14)).toInt := congrArg Int32.toInt ((ex15).trans (congrFun (hsR 20 rfl) _))
        have fx15 := full x15
        refine lv_icmp_ge (tgt := 118) hx hb dX12_draw_111 (by decide) (fun c16 => ?_) (fun c16 => ?_)
        · have gc16 : x15.toInt ≤ r7.toInt := (tle _ _).mp c16
          refine lv_iconst (v := 0) hx hb dX12_draw_118 (by decide) ?_
          exact lab_119 0 a2_74 I9 J10 R11 L12 _ _ _ hvI hvR hsI hsR (show ((0 : Int) ≤ a3_74.toInt ∧ a3_74.toInt ≤ (2147483646 : Int)) from by omega) (by decide) hP hD hS (lv_sub hl [0, 1, 3] rfl)
        · have gc16 : ¬ (x15.toInt ≤ r7.toInt) := fun q0 => c16 ((tle _ _).mpr q0)
          refine lv_iconst (v := 1) hx hb dX12_draw_114 (by decide) ?_
          refine lv_goto (tgt := 119) hx hb dX12_draw_115 (by decide) ?_
          exact lab_119 1 a2_74 I9 J10 R11 L12 _ _ _ hvI hvR hsI hsR (show ((0 : Int) ≤ a3_74.toInt ∧ a3_74.toInt ≤ (2147483646 : Int)) from by omega) (by decide) hP hD hS (lv_sub hl [0, 1, 3] rfl)
  have lab_13 : ∀ (k_13 : Nat) (a2_13 : Int32) (a3_13 : Int32) (I_13 : Nat → Int32) (J_13 : Nat → Int64) (R_13 : Nat → Nat → Int32) (L_13 : Nat → Nat → Int64) (H : Heap) (locs : List Loc) (ls : Array Slot), ((12 - a3_13.toInt) < (k_13 : Int)) → InvI Wm_lo Wm_hi I_13 → InvR Wm_rl R_13 → SmF ([] : List Nat) I0 I_13 → SmF ([] : List Nat) R0 R_13 → ((0 : Int) ≤ p1.toInt ∧ p1.toInt ≤ (4 : Int)) → ((0 : Int) ≤ a3_13.toInt ∧ a3_13.toInt ≤ (12 : Int)) → va_P G.1 vwCl (Wm G g q I_13 J_13 R_13 L_13) H → va_D A (Wm G g q I_13 J_13 R_13 L_13) → va_S A s.heap H locs → lv_has ls 4 [(0, .ref (g 45)), (1, .int p1), (2, .int a2_13), (3, .int a3_13)] → W p l e (rmD 3 0 0) s m [.ref (g 45), .int p1].toArray below meth c H locs 0 0 Q (F0 m 13 ls []) := by
    intro k_13
    induction k_13 with
    | zero =>
      intro a2_13 a3_13 I_13 J_13 R_13 L_13 H locs ls hm hvI hvR hsI hsR y0_13 y1_13 hP hD hS hl
      have hv_I_13 := hvI
      exact absurd hm (by omega)
    | succ k_13 ih_13 =>
      intro a2_13 a3_13 I_13 J_13 R_13 L_13 H locs ls hm hvI hvR hsI hsR y0_13 y1_13 hP hD hS hl
      have hv_I_13 := hvI
      have lab_64 : ∀ (b0_64 : Int32) (b1_64 : Int32) (I_64 : Nat → Int32) (J_64 : Nat → Int64) (R_64 : Nat → Nat → Int32) (L_64 : Nat → Nat → Int64) (H : Heap) (locs : List Loc) (ls : Array Slot), InvI Wm_lo Wm_hi I_64 → InvR Wm_rl R_64 → SmF ([] : List Nat) I0 I_64 → SmF ([] : List Nat) R0 R_64 → ((0 : Int) ≤ a3_13.toInt ∧ a3_13.toInt ≤ (11 : Int)) → ((0 : Int) ≤ b0_64.toInt ∧ b0_64.toInt ≤ (1 : Int)) → va_P G.1 vwCl (Wm G g q I_64 J_64 R_64 L_64) H → va_D A (Wm G g q I_64 J_64 R_64 L_64) → va_S A s.heap H locs → lv_has ls 4 [(0, .ref (g 45)), (1, .int p1), (3, .int a3_13)] → W p l e (rmD 3 0 0) s m [.ref (g 45), .int p1].toArray below meth c H locs 0 0 Q (F0 m 64 ls [.int b0_64, .int b1_64]) := by
        intro b0_64 b1_64 I_64 J_64 R_64 L_64 H locs ls hvI hvR hsI hsR y0_64 y1_64 hP hD hS hl
        have hv_I_64 := hvI
        refine lv_iadd hx hb dX12_draw_64 ?_
        refine lv_topi (fun x17 ex17 => ?_)
        refine lv_istore_n (lv' := [(2, .int x17), (0, .ref (g 45)), (1, .int p1), (3, .int a3_13)]) hx hb dX12_draw_65 rfl hl (by decide) rfl (fun ls hl => ?_)
        obtain ⟨x18, ex18⟩ : ∃ y : Int32, y = a3_13 + 1 := ⟨_, rfl⟩
        have fx18 : x18.toInt = a3_13.toInt + (1 : Int) := by rw [ex18]; exact t_add (by show (-2147483648 : Int) ≤ a3_13.toInt + (1 : Int); omega) (by show a3_13.toInt + (1 : Int) ≤ 2147483647; omega)
        refine lv_iinc (v := x18) (lv' := [(3, .int x18), (2, .int x17), (0, .ref (g 45)), (1, .int p1)]) hx hb dX12_draw_66 hl (k := 3) rfl (by rw [ex18]; rfl) (by decide) rfl (fun ls hl => ?_)
        refine lv_goto (tgt := 13) hx hb dX12_draw_69 (by decide) ?_
        exact ih_13 x17 x18 I_64 J_64 R_64 L_64 _ _ _ (show (12 - x18.toInt) < (k_13 : Int) from by omega) hvI hvR hsI hsR (show ((0 : Int) ≤ p1.toInt ∧ p1.toInt ≤ (4 : Int)) from by omega) (show ((0 : Int) ≤ x18.toInt ∧ x18.toInt ≤ (12 : Int)) from by omega) hP hD hS (lv_sub hl [2, 3, 1, 0] rfl)
      have lab_63 : ∀ (b0_63 : Int32) (I_63 : Nat → Int32) (J_63 : Nat → Int64) (R_63 : Nat → Nat → Int32) (L_63 : Nat → Nat → Int64) (H : Heap) (locs : List Loc) (ls : Array Slot), InvI Wm_lo Wm_hi I_63 → InvR Wm_rl R_63 → SmF ([] : List Nat) I0 I_63 → SmF ([] : List Nat) R0 R_63 → ((0 : Int) ≤ a3_13.toInt ∧ a3_13.toInt ≤ (11 : Int)) → va_P G.1 vwCl (Wm G g q I_63 J_63 R_63 L_63) H → va_D A (Wm G g q I_63 J_63 R_63 L_63) → va_S A s.heap H locs → lv_has ls 4 [(0, .ref (g 45)), (1, .int p1), (3, .int a3_13)] → W p l e (rmD 3 0 0) s m [.ref (g 45), .int p1].toArray below meth c H locs 0 0 Q (F0 m 63 ls [.int b0_63]) := by
        intro b0_63 I_63 J_63 R_63 L_63 H locs ls hvI hvR hsI hsR y0_63 hP hD hS hl
        have hv_I_63 := hvI
        refine lv_iconst (v := 0) hx hb dX12_draw_63 (by decide) ?_
        exact lab_64 0 b0_63 I_63 J_63 R_63 L_63 _ _ _ hvI hvR hsI hsR (show ((0 : Int) ≤ a3_13.toInt ∧ a3_13.toInt ≤ (11 : Int)) from by omega) (by decide) hP hD hS (lv_sub hl [0, 1, 2] rfl)
      refine lv_iload_n hx hb dX12_draw_13 rfl (lv_at hl 3 rfl) ?_
      refine lv_aload_n hx hb dX12_draw_14 rfl (lv_at hl 0 rfl) ?_
      refine g_get F hK hP 0 (Wm_at0 G g q I_13 J_13 R_13 L_13) clX12 21 (by decide) flX12_77 rfl dX12_draw_15 ?_
      refine lv_aload_n hx hb dX12_draw_18 rfl (lv_at hl 0 rfl) ?_
      refine g_get F hK hP 0 (Wm_at0 G g q I_13 J_13 R_13 L_13) clX12 12 (by decide) flX12_48 rfl dX12_draw_19 ?_
      refine cst_i (hsI 10 rfl) ?_
      have w_I0_10 := rg (hvI0 10 (by decide)) (0) (1) rfl rfl
      refine g_iald F hK hP 10 (Wm_at10 G g q I_13 J_13 R_13 L_13) (in_of (by omega)) dX12_draw_22 rfl ?_
      refine lv_topi (fun x19 ex19 => ?_)
      have gx19 : x19.toInt = (R0 7 (Int32.toNatClampNeg (I0 10))).toInt := congrArg Int32.toInt ((ex19).trans (congrFun (hsR 7 rfl) _))
      have fx19 : ((0 : Int) ≤ x19.toInt ∧ x19.toInt ≤ (12 : Int)) := by rw [ex19]; exact hvR 7 (by decide) _ (clamp_lt (n := 2) (in_of (by omega)))
      refine lv_icmp_ge (tgt := 72) hx hb dX12_draw_23 (by decide) (fun c20 => ?_) (fun c20 => ?_)
      · have gc20 : x19.toInt ≤ a3_13.toInt := (tle _ _).mp c20
        refine lv_iconst (v := 0) hx hb dX12_draw_72 (by decide) ?_
        refine lv_istore_n (lv' := [(3, .int 0), (0, .ref (g 45)), (1, .int p1), (2, .int a2_13)]) hx hb dX12_draw_73 rfl hl (by decide) rfl (fun ls hl => ?_)
        exact lab_74 2147483648 a2_13 0 I_13 J_13 R_13 L_13 _ _ _ (show (2147483647 - 0) < ((2147483648 : Nat) : Int) from by omega) hvI hvR hsI hsR (show ((0 : Int) ≤ p1.toInt ∧ p1.toInt ≤ (4 : Int)) from by omega) (by decide) hP hD hS (lv_sub hl [1, 2, 3, 0] rfl)
      · have gc20 : ¬ (x19.toInt ≤ a3_13.toInt) := fun q0 => c20 ((tle _ _).mpr q0)
        refine lv_iload_n hx hb dX12_draw_26 rfl (lv_at hl 2 rfl) ?_
        refine lv_aload_n hx hb dX12_draw_27 rfl (lv_at hl 0 rfl) ?_
        refine lv_iload_n hx hb dX12_draw_28 rfl (lv_at hl 3 rfl) ?_
        refine lv_iload_n hx hb dX12_draw_29 rfl (lv_at hl 1 rfl) ?_
        refine wvi (As := [.int a3_13, .int p1]) (rest := [.int a2_13]) (b := (g 45)) (d := 1) F hK hP hD hS hA (s_X12_isIn l G g q I_13 J_13 R_13 L_13 hvI hvR  a3_13 p1 (show ((0 : Int) ≤ a3_13.toInt ∧ a3_13.toInt ≤ (11 : Int)) from by omega) (show ((0 : Int) ≤ p1.toInt ∧ p1.toInt ≤ (4 : Int)) from by omega)) kmV_X12_isIn mlX12_479 clX12 rfl 0 (Wm_at0 G g q I_13 J_13 R_13 L_13) ⟨(Nat.le_of_ble_eq_true rfl), (Nat.le_of_ble_eq_true rfl)⟩ hl.1 rfl (Nat.le_of_ble_eq_true rfl) dX12_draw_30 (fun r21 u22 H locs hwr21 hP hD hS => ?_)
        have F0r21 := hwr21
        replace F0r21 : ((0 : Int) ≤ r21.toInt ∧ r21.toInt ≤ (1 : Int)) := F0r21
        refine lv_if_eq (tgt := 63) hx hb dX12_draw_33 (by decide) (fun c23 => ?_) (fun c23 => ?_)
        · have gc23 : r21.toInt = 0 := congrArg Int32.toInt c23
          exact lab_63 a2_13 I_13 J_13 R_13 L_13 _ _ _ hvI hvR hsI hsR (show ((0 : Int) ≤ a3_13.toInt ∧ a3_13.toInt ≤ (11 : Int)) from by omega) hP hD hS (lv_sub hl [0, 1, 3] rfl)
        · have gc23 : ¬ (r21.toInt = 0) := fun q0 => c23 (Int32.toInt_inj.mp q0)
          refine lv_aload_n hx hb dX12_draw_36 rfl (lv_at hl 0 rfl) ?_
          refine lv_bipush (v := 100) hx hb dX12_draw_37 (by decide) ?_
          refine wvi (As := [.int 100]) (rest := [.int a2_13]) (b := (g 45)) (d := 1) F hK hP hD hS hA (s_X12_drawn l G g q I_13 J_13 R_13 L_13 hvI hvR  100 (by decide)) kmV_X12_drawn mlX12_574 clX12 rfl 0 (Wm_at0 G g q I_13 J_13 R_13 L_13) ⟨(Nat.le_of_ble_eq_true rfl), (Nat.le_of_ble_eq_true rfl)⟩ hl.1 rfl (Nat.le_of_ble_eq_true rfl) dX12_draw_39 (fun r24 u25 H locs hwr24 hP hD hS => ?_)
          obtain ⟨I26, J27, R28, L29⟩ := u25
          replace hP : va_P G.1 vwCl (Wm G g q I26 J27 R28 L29) H := hP
          replace hD : va_D A (Wm G g q I26 J27 R28 L29) := hD
          obtain ⟨hvI, hvR, tIr24, tRr24⟩ := hwr24
          replace hvI : InvI Wm_lo Wm_hi I26 := hvI
          replace hvR : InvR Wm_rl R28 := hvR
          replace tIr24 : SmF ([] : List Nat) I_13 I26 := tIr24
          replace tRr24 : SmF ([] : List Nat) R_13 R28 := tRr24
          have hv_I26 := hvI
          have hsI := smF_tr hsI tIr24 (by decide)
          have hsR := smF_tr hsR tRr24 (by decide)
          refine lv_aload_n hx hb dX12_draw_42 rfl (lv_at hl 0 rfl) ?_
          refine g_get F hK hP 0 (Wm_at0 G g q I26 J27 R28 L29) clX12 27 (by decide) flX12_95 rfl dX12_draw_43 ?_
          refine lv_bipush (v := 12) hx hb dX12_draw_46 (by decide) ?_
          refine lv_aload_n hx hb dX12_draw_48 rfl (lv_at hl 0 rfl) ?_
          refine g_get F hK hP 0 (Wm_at0 G g q I26 J27 R28 L29) clX12 12 (by decide) flX12_48 rfl dX12_draw_49 ?_
          refine cst_i (hsI 10 rfl) ?_
          refine lv_imul hx hb dX12_draw_52 ?_
          refine lv_topi (fun x30 ex30 => ?_)
          have fx30 : x30.toInt = 12 * (I0 10).toInt := by rw [ex30]; exact t_mul (by show (-2147483648 : Int) ≤ 12 * (I0 10).toInt; omega) (by show 12 * (I0 10).toInt ≤ 2147483647; omega)
          refine lv_iload_n hx hb dX12_draw_53 rfl (lv_at hl 3 rfl) ?_
          refine lv_iadd hx hb dX12_draw_54 ?_
          refine lv_topi (fun x31 ex31 => ?_)
          have fx31 : x31.toInt = x30.toInt + a3_13.toInt := by rw [ex31]; exact t_add (by show (-2147483648 : Int) ≤ x30.toInt + a3_13.toInt; omega) (by show x30.toInt + a3_13.toInt ≤ 2147483647; omega)
          refine g_iald F hK hP 16 (Wm_at16 G g q I26 J27 R28 L29) (in_of (by omega)) dX12_draw_55 rfl ?_
          refine lv_topi (fun x32 ex32 => ?_)
          have gx32 : x32.toInt = (R0 12 (Int32.toNatClampNeg x31)).toInt := congrArg Int32.toInt ((ex32).trans (congrFun (hsR 12 rfl) _))
          have fx32 := full x32
          refine lv_icmp_ge (tgt := 63) hx hb dX12_draw_56 (by decide) (fun c33 => ?_) (fun c33 => ?_)
          · have gc33 : x32.toInt ≤ r24.toInt := (tle _ _).mp c33
            exact lab_63 a2_13 I26 J27 R28 L29 _ _ _ hvI hvR hsI hsR (show ((0 : Int) ≤ a3_13.toInt ∧ a3_13.toInt ≤ (11 : Int)) from by omega) hP hD hS (lv_sub hl [0, 1, 3] rfl)
          · have gc33 : ¬ (x32.toInt ≤ r24.toInt) := fun q0 => c33 ((tle _ _).mpr q0)
            refine lv_iconst (v := 1) hx hb dX12_draw_59 (by decide) ?_
            refine lv_goto (tgt := 64) hx hb dX12_draw_60 (by decide) ?_
            exact lab_64 1 a2_13 I26 J27 R28 L29 _ _ _ hvI hvR hsI hsR (show ((0 : Int) ≤ a3_13.toInt ∧ a3_13.toInt ≤ (11 : Int)) from by omega) (by decide) hP hD hS (lv_sub hl [0, 1, 3] rfl)
  refine lv_iload_n hx hb dX12_draw_0 rfl (lv_at hl 1 rfl) ?_
  refine w0i (As := [.int p1]) (rest := []) (d := 2) F hK hP hD hS hA (s_X12_isDay l G  p1 ) kmS_X12_isDay mlX12_488 ⟨(Nat.le_of_ble_eq_true rfl), (Nat.le_of_ble_eq_true rfl)⟩ hl.1 rfl (Nat.le_of_ble_eq_true rfl) dX12_draw_1 (fun r34 u35 H locs hwr34 hP hD hS => ?_)
  obtain ⟨F0r34, F1r34⟩ := hwr34
  replace F0r34 : ((0 : Int) ≤ r34.toInt ∧ r34.toInt ≤ (1 : Int)) := F0r34
  replace F1r34 : (r34.toInt = 1 → (0 ≤ p1.toInt ∧ p1.toInt ≤ 4)) := F1r34
  refine lv_if_ne (tgt := 9) hx hb dX12_draw_4 (by decide) (fun c36 => ?_) (fun c36 => ?_)
  · have gc36 : ¬ (r34.toInt = 0) := fun q0 => c36 (Int32.toInt_inj.mp q0)
    refine lv_iconst (v := 0) hx hb dX12_draw_9 (by decide) ?_
    refine lv_istore_n (lv' := [(2, .int 0), (0, .ref (g 45)), (1, .int p1)]) hx hb dX12_draw_10 rfl hl (by decide) rfl (fun ls hl => ?_)
    refine lv_iconst (v := 0) hx hb dX12_draw_11 (by decide) ?_
    refine lv_istore_n (lv' := [(3, .int 0), (2, .int 0), (0, .ref (g 45)), (1, .int p1)]) hx hb dX12_draw_12 rfl hl (by decide) rfl (fun ls hl => ?_)
    exact lab_13 13 0 0 I0 J0 R0 L0 _ _ _ (show (12 - 0) < ((13 : Nat) : Int) from by omega) hvI hvR hsI hsR (show ((0 : Int) ≤ p1.toInt ∧ p1.toInt ≤ (4 : Int)) from by omega) (by decide) hP hD hS (lv_sub hl [2, 3, 1, 0] rfl)
  · have gc36 : r34.toInt = 0 := congrArg Int32.toInt c36
    refine lv_iconst (v := (-1)) hx hb dX12_draw_7 (by decide) ?_
    rw [hQ]
    exact q_i F hr hlk (I0, J0, R0, L0) hP hD hS ⟨hvI, hvR, hsI, hsR⟩ dX12_draw_8 (Nat.le_of_ble_eq_true rfl) (Nat.le_of_ble_eq_true rfl)
set_option maxHeartbeats 4000000 in
set_option maxRecDepth 100000 in
theorem s_X12_end (l : Launch) (G : Gx) (g q : Nat → Nat) (I0 : Nat → Int32) (J0 : Nat → Int64) (R0 : Nat → Nat → Int32) (L0 : Nat → Nat → Int64) (hvI : InvI Wm_lo Wm_hi I0) (hvR : InvR Wm_rl R0)  (p1 : Int32)  : CtI (S := St) l yX12_end cX12_end 2 (some .boolean) (rmD 2 0 0) G [.ref (g 45), .int p1] (Wm G g q I0 J0 R0 L0) (fun r u => InvI Wm_lo Wm_hi u.1 ∧ InvR Wm_rl u.2.2.1 ∧ SmF ([0] : List Nat) I0 u.1 ∧ SmF ([34] : List Nat) R0 u.2.2.1 ∧ ((0 : Int) ≤ r.toInt ∧ r.toInt ≤ (1 : Int))) (fun u => Wm G g q u.1 u.2.1 u.2.2.1 u.2.2.2) := by
  refine ctI_of (own := RX12) (by decide +kernel) rfl (Nat.le_of_ble_eq_true rfl) ?_
  intro p e s m below meth c A ls F hr hlk hnm hK hP hD hA hS hl
  have hx := F.1
  have hb := F.2.1
  have hown := F.2.2.2.1
  have hl : lv_has ls 2 [(0, .ref (g 45)), (1, .int p1)] := hl
  obtain ⟨Q, hQ⟩ : ∃ Q : State → Prop, Q = MQ below (va_Qi (S := St) (fun r u => InvI Wm_lo Wm_hi u.1 ∧ InvR Wm_rl u.2.2.1 ∧ SmF ([0] : List Nat) I0 u.1 ∧ SmF ([34] : List Nat) R0 u.2.2.1 ∧ ((0 : Int) ≤ r.toInt ∧ r.toInt ≤ (1 : Int))) (BX G A (fun u => Wm G g q u.1 u.2.1 u.2.2.1 u.2.2.2)) A) [.ref (g 45), .int p1].toArray s 0 0 A := ⟨_, rfl⟩
  rw [show (MQ below (va_Qi (S := St) (fun r u => InvI Wm_lo Wm_hi u.1 ∧ InvR Wm_rl u.2.2.1 ∧ SmF ([0] : List Nat) I0 u.1 ∧ SmF ([34] : List Nat) R0 u.2.2.1 ∧ ((0 : Int) ≤ r.toInt ∧ r.toInt ≤ (1 : Int))) (BX G A (fun u => Wm G g q u.1 u.2.1 u.2.2.1 u.2.2.2)) A) [.ref (g 45), .int p1].toArray s (rmD 2 0 0).cells (rmD 2 0 0).slots A) = Q from hQ.symm]
  have hsI := smF_rf ([0] : List Nat) I0
  have hsR := smF_rf ([34] : List Nat) R0
  have hvI0 := hvI
  have lab_12 : ∀  (I_12 : Nat → Int32) (J_12 : Nat → Int64) (R_12 : Nat → Nat → Int32) (L_12 : Nat → Nat → Int64) (H : Heap) (locs : List Loc) (ls : Array Slot), InvI Wm_lo Wm_hi I_12 → InvR Wm_rl R_12 → SmF ([0] : List Nat) I0 I_12 → SmF ([34] : List Nat) R0 R_12 → va_P G.1 vwCl (Wm G g q I_12 J_12 R_12 L_12) H → va_D A (Wm G g q I_12 J_12 R_12 L_12) → va_S A s.heap H locs → lv_has ls 2 [(0, .ref (g 45))] → W p l e (rmD 2 0 0) s m [.ref (g 45), .int p1].toArray below meth c H locs 0 0 Q (F0 m 12 ls []) := by
    intro I_12 J_12 R_12 L_12 H locs ls hvI hvR hsI hsR hP hD hS hl
    have hv_I_12 := hvI
    refine lv_aload_n hx hb dX12_end_12 rfl (lv_at hl 0 rfl) ?_
    refine lv_iconst (v := 0) hx hb dX12_end_13 (by decide) ?_
    refine wvi (As := [.int 0]) (rest := []) (b := (g 45)) (d := 1) F hK hP hD hS hA (s_X12_refuses l G g q I_12 J_12 R_12 L_12 hvI hvR  0 (by decide)) kmV_X12_refuses mlX12_225 clX12 rfl 0 (Wm_at0 G g q I_12 J_12 R_12 L_12) ⟨(Nat.le_of_ble_eq_true rfl), (Nat.le_of_ble_eq_true rfl)⟩ hl.1 rfl (Nat.le_of_ble_eq_true rfl) dX12_end_14 (fun r1 u2 H locs hwr1 hP hD hS => ?_)
    obtain ⟨I3, J4, R5, L6⟩ := u2
    replace hP : va_P G.1 vwCl (Wm G g q I3 J4 R5 L6) H := hP
    replace hD : va_D A (Wm G g q I3 J4 R5 L6) := hD
    obtain ⟨hvI, hvR, tIr1, tRr1, F0r1⟩ := hwr1
    replace F0r1 : ((-1 : Int) ≤ r1.toInt ∧ r1.toInt ≤ (-1 : Int)) := F0r1
    replace hvI : InvI Wm_lo Wm_hi I3 := hvI
    replace hvR : InvR Wm_rl R5 := hvR
    replace tIr1 : SmF ([] : List Nat) I_12 I3 := tIr1
    replace tRr1 : SmF ([34] : List Nat) R_12 R5 := tRr1
    have hv_I3 := hvI
    have hsI := smF_tr hsI tIr1 (by decide)
    have hsR := smF_tr hsR tRr1 (by decide)
    refine lv_if_lt (tgt := 24) hx hb dX12_end_17 (by decide) (fun c7 => ?_) (fun c7 => ?_)
    · have gc7 : r1.toInt < 0 := (tlt _ _).mp c7
      refine lv_iconst (v := 0) hx hb dX12_end_24 (by decide) ?_
      rw [hQ]
      exact q_z F hr hlk (I3, J4, R5, L6) hP hD hS ⟨hvI, hvR, hsI, hsR, (show ((0 : Int) ≤ 0 ∧ 0 ≤ (1 : Int)) from by omega)⟩ dX12_end_25 (Nat.le_of_ble_eq_true rfl) (Nat.le_of_ble_eq_true rfl) (nar01 (by decide))
    · have gc7 : ¬ (r1.toInt < 0) := fun q0 => c7 ((tlt _ _).mpr q0)
      refine lv_iconst (v := 1) hx hb dX12_end_20 (by decide) ?_
      refine lv_goto (tgt := 25) hx hb dX12_end_21 (by decide) ?_
      rw [hQ]
      exact q_z F hr hlk (I3, J4, R5, L6) hP hD hS ⟨hvI, hvR, hsI, hsR, (show ((0 : Int) ≤ 1 ∧ 1 ≤ (1 : Int)) from by omega)⟩ dX12_end_25 (Nat.le_of_ble_eq_true rfl) (Nat.le_of_ble_eq_true rfl) (nar01 (by decide))
  refine lv_iload_n hx hb dX12_end_0 rfl (lv_at hl 1 rfl) ?_
  refine lv_if_lt (tgt := 12) hx hb dX12_end_1 (by decide) (fun c8 => ?_) (fun c8 => ?_)
  · have gc8 : p1.toInt < 0 := (tlt _ _).mp c8
    exact lab_12  I0 J0 R0 L0 _ _ _ hvI hvR hsI hsR  hP hD hS (lv_sub hl [0] rfl)
  · have gc8 : ¬ (p1.toInt < 0) := fun q0 => c8 ((tlt _ _).mpr q0)
    refine lv_iload_n hx hb dX12_end_4 rfl (lv_at hl 1 rfl) ?_
    refine lv_aload_n hx hb dX12_end_5 rfl (lv_at hl 0 rfl) ?_
    refine g_get F hK hP 0 (Wm_at0 G g q I0 J0 R0 L0) clX12 1 (by decide) flX12_13 rfl dX12_end_6 ?_
    have w_I0_0 := rg (hvI0 0 (by decide)) (0) (1800) rfl rfl
    refine lv_icmp_le (tgt := 26) hx hb dX12_end_9 (by decide) (fun c9 => ?_) (fun c9 => ?_)
    · have gc9 : p1.toInt ≤ (I0 0).toInt := (tle _ _).mp c9
      refine lv_aload_n hx hb dX12_end_26 rfl (lv_at hl 0 rfl) ?_
      refine lv_iload_n hx hb dX12_end_27 rfl (lv_at hl 1 rfl) ?_
      refine p_fld (W1 := fun y => Wm G g q y J0 R0 L0) (n := 0) (v := p1) F hK hP hD hS 0 (Wm_at0 G g q I0 J0 R0 L0) clX12 1 (by decide) flX12_13 rfl rfl rfl (Nat.le_of_ble_eq_true rfl) dX12_end_28 (Wm_setI0 G g q I0 J0 R0 L0 _) (fun I10 H locs eI10 hP hD hS => ?_)
      have hvI : InvI Wm_lo Wm_hi I10 := inv_upI hvI 0 eI10 (show ((0 : Int) ≤ p1.toInt ∧ p1.toInt ≤ (1800 : Int)) from by omega)
      have hsI := smF_up hsI eI10 (by decide)
      have hv_I10 := hvI
      refine lv_iconst (v := 1) hx hb dX12_end_31 (by decide) ?_
      rw [hQ]
      exact q_z F hr hlk (I10, J0, R0, L0) hP hD hS ⟨hvI, hvR, hsI, hsR, (show ((0 : Int) ≤ 1 ∧ 1 ≤ (1 : Int)) from by omega)⟩ dX12_end_32 (Nat.le_of_ble_eq_true rfl) (Nat.le_of_ble_eq_true rfl) (nar01 (by decide))
    · have gc9 : ¬ (p1.toInt ≤ (I0 0).toInt) := fun q0 => c9 ((tle _ _).mpr q0)
      exact lab_12  I0 J0 R0 L0 _ _ _ hvI hvR hsI hsR  hP hD hS (lv_sub hl [0] rfl)
set_option maxHeartbeats 4000000 in
set_option maxRecDepth 100000 in
theorem s_X12_enough (l : Launch) (G : Gx) (g q : Nat → Nat) (I0 : Nat → Int32) (J0 : Nat → Int64) (R0 : Nat → Nat → Int32) (L0 : Nat → Nat → Int64) (hvI : InvI Wm_lo Wm_hi I0) (hvR : InvR Wm_rl R0)  (p1 : Int32) (p2 : Int32)  : CtI (S := St) l yX12_enough cX12_enough 4 (some .int) (rmD 3 0 0) G [.ref (g 45), .int p1, .int p2] (Wm G g q I0 J0 R0 L0) (fun r u => InvI Wm_lo Wm_hi u.1 ∧ InvR Wm_rl u.2.2.1 ∧ SmF ([] : List Nat) I0 u.1 ∧ SmF ([] : List Nat) R0 u.2.2.1 ∧ ((-1 : Int) ≤ r.toInt ∧ r.toInt ≤ (30 : Int))) (fun u => Wm G g q u.1 u.2.1 u.2.2.1 u.2.2.2) := by
  refine ctI_of (own := RX12) (by decide +kernel) rfl (Nat.le_of_ble_eq_true rfl) ?_
  intro p e s m below meth c A ls F hr hlk hnm hK hP hD hA hS hl
  have hx := F.1
  have hb := F.2.1
  have hown := F.2.2.2.1
  have hl : lv_has ls 4 [(0, .ref (g 45)), (1, .int p1), (2, .int p2)] := hl
  obtain ⟨Q, hQ⟩ : ∃ Q : State → Prop, Q = MQ below (va_Qi (S := St) (fun r u => InvI Wm_lo Wm_hi u.1 ∧ InvR Wm_rl u.2.2.1 ∧ SmF ([] : List Nat) I0 u.1 ∧ SmF ([] : List Nat) R0 u.2.2.1 ∧ ((-1 : Int) ≤ r.toInt ∧ r.toInt ≤ (30 : Int))) (BX G A (fun u => Wm G g q u.1 u.2.1 u.2.2.1 u.2.2.2)) A) [.ref (g 45), .int p1, .int p2].toArray s 0 0 A := ⟨_, rfl⟩
  rw [show (MQ below (va_Qi (S := St) (fun r u => InvI Wm_lo Wm_hi u.1 ∧ InvR Wm_rl u.2.2.1 ∧ SmF ([] : List Nat) I0 u.1 ∧ SmF ([] : List Nat) R0 u.2.2.1 ∧ ((-1 : Int) ≤ r.toInt ∧ r.toInt ≤ (30 : Int))) (BX G A (fun u => Wm G g q u.1 u.2.1 u.2.2.1 u.2.2.2)) A) [.ref (g 45), .int p1, .int p2].toArray s (rmD 3 0 0).cells (rmD 3 0 0).slots A) = Q from hQ.symm]
  have hsI := smF_rf ([] : List Nat) I0
  have hsR := smF_rf ([] : List Nat) R0
  have hvI0 := hvI
  have lab_26 : ∀ (k_26 : Nat) (a3_26 : Int32) (I_26 : Nat → Int32) (J_26 : Nat → Int64) (R_26 : Nat → Nat → Int32) (L_26 : Nat → Nat → Int64) (H : Heap) (locs : List Loc) (ls : Array Slot), ((31 - a3_26.toInt) < (k_26 : Int)) → InvI Wm_lo Wm_hi I_26 → InvR Wm_rl R_26 → SmF ([] : List Nat) I0 I_26 → SmF ([] : List Nat) R0 R_26 → ((0 : Int) ≤ p2.toInt ∧ p2.toInt ≤ (100 : Int)) → ((0 : Int) ≤ a3_26.toInt ∧ a3_26.toInt ≤ (31 : Int)) → va_P G.1 vwCl (Wm G g q I_26 J_26 R_26 L_26) H → va_D A (Wm G g q I_26 J_26 R_26 L_26) → va_S A s.heap H locs → lv_has ls 4 [(0, .ref (g 45)), (2, .int p2), (3, .int a3_26)] → W p l e (rmD 3 0 0) s m [.ref (g 45), .int p1, .int p2].toArray below meth c H locs 0 0 Q (F0 m 26 ls []) := by
    intro k_26
    induction k_26 with
    | zero =>
      intro a3_26 I_26 J_26 R_26 L_26 H locs ls hm hvI hvR hsI hsR y0_26 y1_26 hP hD hS hl
      have hv_I_26 := hvI
      exact absurd hm (by omega)
    | succ k_26 ih_26 =>
      intro a3_26 I_26 J_26 R_26 L_26 H locs ls hm hvI hvR hsI hsR y0_26 y1_26 hP hD hS hl
      have hv_I_26 := hvI
      refine lv_iload_n hx hb dX12_enough_26 rfl (lv_at hl 2 rfl) ?_
      refine lv_bipush (v := 30) hx hb dX12_enough_27 (by decide) ?_
      refine lv_icmp_gt (tgt := 55) hx hb dX12_enough_29 (by decide) (fun c1 => ?_) (fun c1 => ?_)
      · have gc1 : 30 < a3_26.toInt := (tlt _ _).mp c1
        refine lv_iconst (v := (-1)) hx hb dX12_enough_55 (by decide) ?_
        rw [hQ]
        exact q_i F hr hlk (I_26, J_26, R_26, L_26) hP hD hS ⟨hvI, hvR, hsI, hsR, (show ((-1 : Int) ≤ (-1) ∧ (-1) ≤ (30 : Int)) from by omega)⟩ dX12_enough_56 (Nat.le_of_ble_eq_true rfl) (Nat.le_of_ble_eq_true rfl)
      · have gc1 : ¬ (30 < a3_26.toInt) := fun q0 => c1 ((tlt _ _).mpr q0)
        refine lv_aload_n hx hb dX12_enough_32 rfl (lv_at hl 0 rfl) ?_
        refine lv_iload_n hx hb dX12_enough_33 rfl (lv_at hl 2 rfl) ?_
        refine wvl (As := [.int a3_26]) (rest := []) (b := (g 45)) (d := 1) F hK hP hD hS hA (s_X12_above l G g q I_26 J_26 R_26 L_26 hvI hvR  a3_26 (show ((0 : Int) ≤ a3_26.toInt ∧ a3_26.toInt ≤ (40 : Int)) from by omega)) kmV_X12_above mlX12_560 clX12 rfl 0 (Wm_at0 G g q I_26 J_26 R_26 L_26) ⟨(Nat.le_of_ble_eq_true rfl), (Nat.le_of_ble_eq_true rfl)⟩ hl.1 rfl (Nat.le_of_ble_eq_true rfl) dX12_enough_34 (fun r2 u3 H locs hwr2 hP hD hS => ?_)
        refine lv_iload_n hx hb dX12_enough_37 rfl (lv_at hl 1 rfl) ?_
        obtain ⟨x4, ex4⟩ : ∃ y : Int64, (p2 : Int32).toInt64 = y := ⟨_, rfl⟩
        refine lv_i2l (v := x4) hx hb dX12_enough_38 ex4 ?_
        refine lv_ldc2 hx hb hown (F.2.2.2.2 _ clX12_564) dX12_enough_39 ?_
        refine lv_lmul hx hb dX12_enough_42 ?_
        refine lv_topl (fun x5 ex5 => ?_)
        refine W.lcmp hx hb dX12_enough_43 ?_
        refine lv_topi (fun x6 ex6 => ?_)
        refine lv_if_gt (tgt := 49) hx hb dX12_enough_44 (by decide) (fun c7 => ?_) (fun c7 => ?_)
        · have gc7 : 0 < x6.toInt := (tlt _ _).mp c7
          obtain ⟨x8, ex8⟩ : ∃ y : Int32, y = a3_26 + 1 := ⟨_, rfl⟩
          have fx8 : x8.toInt = a3_26.toInt + (1 : Int) := by rw [ex8]; exact t_add (by show (-2147483648 : Int) ≤ a3_26.toInt + (1 : Int); omega) (by show a3_26.toInt + (1 : Int) ≤ 2147483647; omega)
          refine lv_iinc (v := x8) (lv' := [(3, .int x8), (0, .ref (g 45)), (2, .int p2)]) hx hb dX12_enough_49 hl (k := 2) rfl (by rw [ex8]; rfl) (by decide) rfl (fun ls hl => ?_)
          refine lv_goto (tgt := 26) hx hb dX12_enough_52 (by decide) ?_
          exact ih_26 x8 I_26 J_26 R_26 L_26 _ _ _ (show (31 - x8.toInt) < (k_26 : Int) from by omega) hvI hvR hsI hsR (show ((0 : Int) ≤ p2.toInt ∧ p2.toInt ≤ (100 : Int)) from by omega) (show ((0 : Int) ≤ x8.toInt ∧ x8.toInt ≤ (31 : Int)) from by omega) hP hD hS (lv_sub hl [1, 2, 0] rfl)
        · have gc7 : ¬ (0 < x6.toInt) := fun q0 => c7 ((tlt _ _).mpr q0)
          refine lv_iload_n hx hb dX12_enough_47 rfl (lv_at hl 2 rfl) ?_
          rw [hQ]
          exact q_i F hr hlk (I_26, J_26, R_26, L_26) hP hD hS ⟨hvI, hvR, hsI, hsR, (show ((-1 : Int) ≤ a3_26.toInt ∧ a3_26.toInt ≤ (30 : Int)) from by omega)⟩ dX12_enough_48 (Nat.le_of_ble_eq_true rfl) (Nat.le_of_ble_eq_true rfl)
  refine lv_iload_n hx hb dX12_enough_0 rfl (lv_at hl 1 rfl) ?_
  refine w0i (As := [.int p1]) (rest := []) (d := 2) F hK hP hD hS hA (s_X12_isDay l G  p1 ) kmS_X12_isDay mlX12_488 ⟨(Nat.le_of_ble_eq_true rfl), (Nat.le_of_ble_eq_true rfl)⟩ hl.1 rfl (Nat.le_of_ble_eq_true rfl) dX12_enough_1 (fun r9 u10 H locs hwr9 hP hD hS => ?_)
  obtain ⟨F0r9, F1r9⟩ := hwr9
  replace F0r9 : ((0 : Int) ≤ r9.toInt ∧ r9.toInt ≤ (1 : Int)) := F0r9
  replace F1r9 : (r9.toInt = 1 → (0 ≤ p1.toInt ∧ p1.toInt ≤ 4)) := F1r9
  refine lv_if_eq (tgt := 17) hx hb dX12_enough_4 (by decide) (fun c11 => ?_) (fun c11 => ?_)
  · have gc11 : r9.toInt = 0 := congrArg Int32.toInt c11
    refine lv_iconst (v := (-1)) hx hb dX12_enough_17 (by decide) ?_
    rw [hQ]
    exact q_i F hr hlk (I0, J0, R0, L0) hP hD hS ⟨hvI, hvR, hsI, hsR, (show ((-1 : Int) ≤ (-1) ∧ (-1) ≤ (30 : Int)) from by omega)⟩ dX12_enough_18 (Nat.le_of_ble_eq_true rfl) (Nat.le_of_ble_eq_true rfl)
  · have gc11 : ¬ (r9.toInt = 0) := fun q0 => c11 (Int32.toInt_inj.mp q0)
    refine lv_iload_n hx hb dX12_enough_7 rfl (lv_at hl 2 rfl) ?_
    refine lv_iconst (v := 0) hx hb dX12_enough_8 (by decide) ?_
    refine lv_bipush (v := 100) hx hb dX12_enough_9 (by decide) ?_
    refine w0i (As := [.int p2, .int 0, .int 100]) (rest := []) (d := 1) F hK hP hD hS hA (s_X12_is l G  p2 0 100 (by decide) (by decide)) kmS_X12_is mlX12_316 ⟨(Nat.le_of_ble_eq_true rfl), (Nat.le_of_ble_eq_true rfl)⟩ hl.1 rfl (Nat.le_of_ble_eq_true rfl) dX12_enough_11 (fun r12 u13 H locs hwr12 hP hD hS => ?_)
    obtain ⟨F0r12, F1r12⟩ := hwr12
    replace F0r12 : ((0 : Int) ≤ r12.toInt ∧ r12.toInt ≤ (1 : Int)) := F0r12
    replace F1r12 : (r12.toInt = 1 → ((0 : Int) ≤ p2.toInt ∧ p2.toInt ≤ (100 : Int))) := F1r12
    refine lv_if_ne (tgt := 19) hx hb dX12_enough_14 (by decide) (fun c14 => ?_) (fun c14 => ?_)
    · have gc14 : ¬ (r12.toInt = 0) := fun q0 => c14 (Int32.toInt_inj.mp q0)
      refine lv_aload_n hx hb dX12_enough_19 rfl (lv_at hl 0 rfl) ?_
      refine lv_iload_n hx hb dX12_enough_20 rfl (lv_at hl 1 rfl) ?_
      refine wvv (As := [.int p1]) (rest := []) (b := (g 45)) (d := 2) F hK hP hD hS hA (s_X12_comers l G g q I0 J0 R0 L0 hvI hvR  p1 (show ((0 : Int) ≤ p1.toInt ∧ p1.toInt ≤ (4 : Int)) from by omega)) kmV_X12_comers mlX12_557 clX12 rfl 0 (Wm_at0 G g q I0 J0 R0 L0) ⟨(Nat.le_of_ble_eq_true rfl), (Nat.le_of_ble_eq_true rfl)⟩ hl.1 rfl (Nat.le_of_ble_eq_true rfl) dX12_enough_21 (fun u16 H locs hwr15 hP hD hS => ?_)
      obtain ⟨I17, J18, R19, L20⟩ := u16
      replace hP : va_P G.1 vwCl (Wm G g q I17 J18 R19 L20) H := hP
      replace hD : va_D A (Wm G g q I17 J18 R19 L20) := hD
      obtain ⟨hvI, hvR, tIr15, tRr15⟩ := hwr15
      replace hvI : InvI Wm_lo Wm_hi I17 := hvI
      replace hvR : InvR Wm_rl R19 := hvR
      replace tIr15 : SmF ([] : List Nat) I0 I17 := tIr15
      replace tRr15 : SmF ([] : List Nat) R0 R19 := tRr15
      have hv_I17 := hvI
      have hsI := smF_tr hsI tIr15 (by decide)
      have hsR := smF_tr hsR tRr15 (by decide)
      refine lv_iconst (v := 0) hx hb dX12_enough_24 (by decide) ?_
      refine lv_istore_n (lv' := [(3, .int 0), (0, .ref (g 45)), (1, .int p1), (2, .int p2)]) hx hb dX12_enough_25 rfl hl (by decide) rfl (fun ls hl => ?_)
      exact lab_26 32 0 I17 J18 R19 L20 _ _ _ (show (31 - 0) < ((32 : Nat) : Int) from by omega) hvI hvR hsI hsR (show ((0 : Int) ≤ p2.toInt ∧ p2.toInt ≤ (100 : Int)) from by omega) (by decide) hP hD hS (lv_sub hl [1, 3, 0] rfl)
    · have gc14 : r12.toInt = 0 := congrArg Int32.toInt c14
      refine lv_iconst (v := (-1)) hx hb dX12_enough_17 (by decide) ?_
      rw [hQ]
      exact q_i F hr hlk (I0, J0, R0, L0) hP hD hS ⟨hvI, hvR, hsI, hsR, (show ((-1 : Int) ≤ (-1) ∧ (-1) ≤ (30 : Int)) from by omega)⟩ dX12_enough_18 (Nat.le_of_ble_eq_true rfl) (Nat.le_of_ble_eq_true rfl)
set_option maxHeartbeats 4000000 in
set_option maxRecDepth 100000 in
theorem s_X12_exchanges (l : Launch) (G : Gx) (g q : Nat → Nat) (I0 : Nat → Int32) (J0 : Nat → Int64) (R0 : Nat → Nat → Int32) (L0 : Nat → Nat → Int64) (hvI : InvI Wm_lo Wm_hi I0) (hvR : InvR Wm_rl R0)    : CtI (S := St) l yX12_exchanges cX12_exchanges 4 (some .boolean) (rmD 3 0 0) G [.ref (g 45)] (Wm G g q I0 J0 R0 L0) (fun r u => InvI Wm_lo Wm_hi u.1 ∧ InvR Wm_rl u.2.2.1 ∧ SmF ([] : List Nat) I0 u.1 ∧ SmF ([38] : List Nat) R0 u.2.2.1 ∧ ((0 : Int) ≤ r.toInt ∧ r.toInt ≤ (1 : Int))) (fun u => Wm G g q u.1 u.2.1 u.2.2.1 u.2.2.2) := by
  refine ctI_of (own := RX12) (by decide +kernel) rfl (Nat.le_of_ble_eq_true rfl) ?_
  intro p e s m below meth c A ls F hr hlk hnm hK hP hD hA hS hl
  have hx := F.1
  have hb := F.2.1
  have hown := F.2.2.2.1
  have hl : lv_has ls 4 [(0, .ref (g 45))] := hl
  obtain ⟨Q, hQ⟩ : ∃ Q : State → Prop, Q = MQ below (va_Qi (S := St) (fun r u => InvI Wm_lo Wm_hi u.1 ∧ InvR Wm_rl u.2.2.1 ∧ SmF ([] : List Nat) I0 u.1 ∧ SmF ([38] : List Nat) R0 u.2.2.1 ∧ ((0 : Int) ≤ r.toInt ∧ r.toInt ≤ (1 : Int))) (BX G A (fun u => Wm G g q u.1 u.2.1 u.2.2.1 u.2.2.2)) A) [.ref (g 45)].toArray s 0 0 A := ⟨_, rfl⟩
  rw [show (MQ below (va_Qi (S := St) (fun r u => InvI Wm_lo Wm_hi u.1 ∧ InvR Wm_rl u.2.2.1 ∧ SmF ([] : List Nat) I0 u.1 ∧ SmF ([38] : List Nat) R0 u.2.2.1 ∧ ((0 : Int) ≤ r.toInt ∧ r.toInt ≤ (1 : Int))) (BX G A (fun u => Wm G g q u.1 u.2.1 u.2.2.1 u.2.2.2)) A) [.ref (g 45)].toArray s (rmD 3 0 0).cells (rmD 3 0 0).slots A) = Q from hQ.symm]
  have hsI := smF_rf ([] : List Nat) I0
  have hsR := smF_rf ([38] : List Nat) R0
  have hvI0 := hvI
  have lab_7 : ∀ (k_7 : Nat) (a1_7 : Int32) (a2_7 : Int32) (I_7 : Nat → Int32) (J_7 : Nat → Int64) (R_7 : Nat → Nat → Int32) (L_7 : Nat → Nat → Int64) (H : Heap) (locs : List Loc) (ls : Array Slot), ((12 - a2_7.toInt) < (k_7 : Int)) → InvI Wm_lo Wm_hi I_7 → InvR Wm_rl R_7 → SmF ([] : List Nat) I0 I_7 → SmF ([38] : List Nat) R0 R_7 → ((0 : Int) ≤ a2_7.toInt ∧ a2_7.toInt ≤ (12 : Int)) → va_P G.1 vwCl (Wm G g q I_7 J_7 R_7 L_7) H → va_D A (Wm G g q I_7 J_7 R_7 L_7) → va_S A s.heap H locs → lv_has ls 4 [(0, .ref (g 45)), (1, .int a1_7), (2, .int a2_7)] → W p l e (rmD 3 0 0) s m [.ref (g 45)].toArray below meth c H locs 0 0 Q (F0 m 7 ls []) := by
    intro k_7
    induction k_7 with
    | zero =>
      intro a1_7 a2_7 I_7 J_7 R_7 L_7 H locs ls hm hvI hvR hsI hsR y0_7 hP hD hS hl
      have hv_I_7 := hvI
      exact absurd hm (by omega)
    | succ k_7 ih_7 =>
      intro a1_7 a2_7 I_7 J_7 R_7 L_7 H locs ls hm hvI hvR hsI hsR y0_7 hP hD hS hl
      have hv_I_7 := hvI
      have lab_24 : ∀ (k_24 : Nat) (a3_24 : Int32) (I_24 : Nat → Int32) (J_24 : Nat → Int64) (R_24 : Nat → Nat → Int32) (L_24 : Nat → Nat → Int64) (H : Heap) (locs : List Loc) (ls : Array Slot), ((12 - a3_24.toInt) < (k_24 : Int)) → InvI Wm_lo Wm_hi I_24 → InvR Wm_rl R_24 → SmF ([] : List Nat) I0 I_24 → SmF ([38] : List Nat) R0 R_24 → ((0 : Int) ≤ a2_7.toInt ∧ a2_7.toInt ≤ (11 : Int)) → ((1 : Int) ≤ a3_24.toInt ∧ a3_24.toInt ≤ (12 : Int)) → va_P G.1 vwCl (Wm G g q I_24 J_24 R_24 L_24) H → va_D A (Wm G g q I_24 J_24 R_24 L_24) → va_S A s.heap H locs → lv_has ls 4 [(0, .ref (g 45)), (1, .int a1_7), (2, .int a2_7), (3, .int a3_24)] → W p l e (rmD 3 0 0) s m [.ref (g 45)].toArray below meth c H locs 0 0 Q (F0 m 24 ls []) := by
        intro k_24
        induction k_24 with
        | zero =>
          intro a3_24 I_24 J_24 R_24 L_24 H locs ls hm hvI hvR hsI hsR y0_24 y1_24 hP hD hS hl
          have hv_I_24 := hvI
          exact absurd hm (by omega)
        | succ k_24 ih_24 =>
          intro a3_24 I_24 J_24 R_24 L_24 H locs ls hm hvI hvR hsI hsR y0_24 y1_24 hP hD hS hl
          have hv_I_24 := hvI
          have lab_93 : ∀  (I_93 : Nat → Int32) (J_93 : Nat → Int64) (R_93 : Nat → Nat → Int32) (L_93 : Nat → Nat → Int64) (H : Heap) (locs : List Loc) (ls : Array Slot), InvI Wm_lo Wm_hi I_93 → InvR Wm_rl R_93 → SmF ([] : List Nat) I0 I_93 → SmF ([38] : List Nat) R0 R_93 → ((1 : Int) ≤ a3_24.toInt ∧ a3_24.toInt ≤ (11 : Int)) → va_P G.1 vwCl (Wm G g q I_93 J_93 R_93 L_93) H → va_D A (Wm G g q I_93 J_93 R_93 L_93) → va_S A s.heap H locs → lv_has ls 4 [(0, .ref (g 45)), (1, .int a1_7), (2, .int a2_7), (3, .int a3_24)] → W p l e (rmD 3 0 0) s m [.ref (g 45)].toArray below meth c H locs 0 0 Q (F0 m 93 ls []) := by
            intro I_93 J_93 R_93 L_93 H locs ls hvI hvR hsI hsR y0_93 hP hD hS hl
            have hv_I_93 := hvI
            obtain ⟨x1, ex1⟩ : ∃ y : Int32, y = a3_24 + 1 := ⟨_, rfl⟩
            have fx1 : x1.toInt = a3_24.toInt + (1 : Int) := by rw [ex1]; exact t_add (by show (-2147483648 : Int) ≤ a3_24.toInt + (1 : Int); omega) (by show a3_24.toInt + (1 : Int) ≤ 2147483647; omega)
            refine lv_iinc (v := x1) (lv' := [(3, .int x1), (0, .ref (g 45)), (1, .int a1_7), (2, .int a2_7)]) hx hb dX12_exchanges_93 hl (k := 3) rfl (by rw [ex1]; rfl) (by decide) rfl (fun ls hl => ?_)
            refine lv_goto (tgt := 24) hx hb dX12_exchanges_96 (by decide) ?_
            exact ih_24 x1 I_93 J_93 R_93 L_93 _ _ _ (show (12 - x1.toInt) < (k_24 : Int) from by omega) hvI hvR hsI hsR (show ((0 : Int) ≤ a2_7.toInt ∧ a2_7.toInt ≤ (11 : Int)) from by omega) (show ((1 : Int) ≤ x1.toInt ∧ x1.toInt ≤ (12 : Int)) from by omega) hP hD hS (lv_sub hl [1, 2, 3, 0] rfl)
          refine lv_iload_n hx hb dX12_exchanges_24 rfl (lv_at hl 3 rfl) ?_
          refine lv_aload_n hx hb dX12_exchanges_25 rfl (lv_at hl 0 rfl) ?_
          refine g_get F hK hP 0 (Wm_at0 G g q I_24 J_24 R_24 L_24) clX12 21 (by decide) flX12_77 rfl dX12_exchanges_26 ?_
          refine lv_aload_n hx hb dX12_exchanges_29 rfl (lv_at hl 0 rfl) ?_
          refine g_get F hK hP 0 (Wm_at0 G g q I_24 J_24 R_24 L_24) clX12 12 (by decide) flX12_48 rfl dX12_exchanges_30 ?_
          refine cst_i (hsI 10 rfl) ?_
          have w_I0_10 := rg (hvI0 10 (by decide)) (0) (1) rfl rfl
          refine g_iald F hK hP 10 (Wm_at10 G g q I_24 J_24 R_24 L_24) (in_of (by omega)) dX12_exchanges_33 rfl ?_
          refine lv_topi (fun x2 ex2 => ?_)
          have gx2 : x2.toInt = (R0 7 (Int32.toNatClampNeg (I0 10))).toInt := congrArg Int32.toInt ((ex2).trans (congrFun (hsR 7 rfl) _))
          have fx2 : ((0 : Int) ≤ x2.toInt ∧ x2.toInt ≤ (12 : Int)) := by rw [ex2]; exact hvR 7 (by decide) _ (clamp_lt (n := 2) (in_of (by omega)))
          refine lv_icmp_ge (tgt := 99) hx hb dX12_exchanges_34 (by decide) (fun c3 => ?_) (fun c3 => ?_)
          · have gc3 : x2.toInt ≤ a3_24.toInt := (tle _ _).mp c3
            obtain ⟨x4, ex4⟩ : ∃ y : Int32, y = a2_7 + 1 := ⟨_, rfl⟩
            have fx4 : x4.toInt = a2_7.toInt + (1 : Int) := by rw [ex4]; exact t_add (by show (-2147483648 : Int) ≤ a2_7.toInt + (1 : Int); omega) (by show a2_7.toInt + (1 : Int) ≤ 2147483647; omega)
            refine lv_iinc (v := x4) (lv' := [(2, .int x4), (0, .ref (g 45)), (1, .int a1_7), (3, .int a3_24)]) hx hb dX12_exchanges_99 hl (k := 2) rfl (by rw [ex4]; rfl) (by decide) rfl (fun ls hl => ?_)
            refine lv_goto (tgt := 7) hx hb dX12_exchanges_102 (by decide) ?_
            exact ih_7 a1_7 x4 I_24 J_24 R_24 L_24 _ _ _ (show (12 - x4.toInt) < (k_7 : Int) from by omega) hvI hvR hsI hsR (show ((0 : Int) ≤ x4.toInt ∧ x4.toInt ≤ (12 : Int)) from by omega) hP hD hS (lv_sub hl [1, 2, 0] rfl)
          · have gc3 : ¬ (x2.toInt ≤ a3_24.toInt) := fun q0 => c3 ((tle _ _).mpr q0)
            refine lv_aload_n hx hb dX12_exchanges_37 rfl (lv_at hl 0 rfl) ?_
            refine lv_iload_n hx hb dX12_exchanges_38 rfl (lv_at hl 2 rfl) ?_
            refine wvi (As := [.int a2_7]) (rest := []) (b := (g 45)) (d := 2) F hK hP hD hS hA (s_X12_isMovable l G g q I_24 J_24 R_24 L_24 hvI hvR  a2_7 (show ((0 : Int) ≤ a2_7.toInt ∧ a2_7.toInt ≤ (11 : Int)) from by omega)) kmV_X12_isMovable mlX12_593 clX12 rfl 0 (Wm_at0 G g q I_24 J_24 R_24 L_24) ⟨(Nat.le_of_ble_eq_true rfl), (Nat.le_of_ble_eq_true rfl)⟩ hl.1 rfl (Nat.le_of_ble_eq_true rfl) dX12_exchanges_39 (fun r5 u6 H locs hwr5 hP hD hS => ?_)
            have F0r5 := hwr5
            replace F0r5 : ((0 : Int) ≤ r5.toInt ∧ r5.toInt ≤ (1 : Int)) := F0r5
            refine lv_if_eq (tgt := 93) hx hb dX12_exchanges_42 (by decide) (fun c7 => ?_) (fun c7 => ?_)
            · have gc7 : r5.toInt = 0 := congrArg Int32.toInt c7
              exact lab_93  I_24 J_24 R_24 L_24 _ _ _ hvI hvR hsI hsR (show ((1 : Int) ≤ a3_24.toInt ∧ a3_24.toInt ≤ (11 : Int)) from by omega) hP hD hS (lv_sub hl [0, 1, 2, 3] rfl)
            · have gc7 : ¬ (r5.toInt = 0) := fun q0 => c7 (Int32.toInt_inj.mp q0)
              refine lv_aload_n hx hb dX12_exchanges_45 rfl (lv_at hl 0 rfl) ?_
              refine lv_iload_n hx hb dX12_exchanges_46 rfl (lv_at hl 3 rfl) ?_
              refine wvi (As := [.int a3_24]) (rest := []) (b := (g 45)) (d := 2) F hK hP hD hS hA (s_X12_isMovable l G g q I_24 J_24 R_24 L_24 hvI hvR  a3_24 (show ((0 : Int) ≤ a3_24.toInt ∧ a3_24.toInt ≤ (11 : Int)) from by omega)) kmV_X12_isMovable mlX12_593 clX12 rfl 0 (Wm_at0 G g q I_24 J_24 R_24 L_24) ⟨(Nat.le_of_ble_eq_true rfl), (Nat.le_of_ble_eq_true rfl)⟩ hl.1 rfl (Nat.le_of_ble_eq_true rfl) dX12_exchanges_47 (fun r8 u9 H locs hwr8 hP hD hS => ?_)
              have F0r8 := hwr8
              replace F0r8 : ((0 : Int) ≤ r8.toInt ∧ r8.toInt ≤ (1 : Int)) := F0r8
              refine lv_if_eq (tgt := 93) hx hb dX12_exchanges_50 (by decide) (fun c10 => ?_) (fun c10 => ?_)
              · have gc10 : r8.toInt = 0 := congrArg Int32.toInt c10
                exact lab_93  I_24 J_24 R_24 L_24 _ _ _ hvI hvR hsI hsR (show ((1 : Int) ≤ a3_24.toInt ∧ a3_24.toInt ≤ (11 : Int)) from by omega) hP hD hS (lv_sub hl [0, 1, 2, 3] rfl)
              · have gc10 : ¬ (r8.toInt = 0) := fun q0 => c10 (Int32.toInt_inj.mp q0)
                refine lv_aload_n hx hb dX12_exchanges_53 rfl (lv_at hl 0 rfl) ?_
                refine g_get F hK hP 0 (Wm_at0 G g q I_24 J_24 R_24 L_24) clX12 67 (by decide) flX12_216 rfl dX12_exchanges_54 ?_
                refine lv_iload_n hx hb dX12_exchanges_57 rfl (lv_at hl 2 rfl) ?_
                refine g_iald F hK hP 44 (Wm_at44 G g q I_24 J_24 R_24 L_24) (in_of (by omega)) dX12_exchanges_58 rfl ?_
                refine lv_topi (fun x11 ex11 => ?_)
                have gx11 : x11.toInt = (R_24 38 (Int32.toNatClampNeg a2_7)).toInt := congrArg Int32.toInt (ex11)
                have fx11 : ((-1 : Int) ≤ x11.toInt ∧ x11.toInt ≤ (4 : Int)) := by rw [ex11]; exact hvR 38 (by decide) _ (clamp_lt (n := 12) (in_of (by omega)))
                refine lv_aload_n hx hb dX12_exchanges_59 rfl (lv_at hl 0 rfl) ?_
                refine g_get F hK hP 0 (Wm_at0 G g q I_24 J_24 R_24 L_24) clX12 67 (by decide) flX12_216 rfl dX12_exchanges_60 ?_
                refine lv_iload_n hx hb dX12_exchanges_63 rfl (lv_at hl 3 rfl) ?_
                refine g_iald F hK hP 44 (Wm_at44 G g q I_24 J_24 R_24 L_24) (in_of (by omega)) dX12_exchanges_64 rfl ?_
                refine lv_topi (fun x12 ex12 => ?_)
                have gx12 : x12.toInt = (R_24 38 (Int32.toNatClampNeg a3_24)).toInt := congrArg Int32.toInt (ex12)
                have fx12 : ((-1 : Int) ≤ x12.toInt ∧ x12.toInt ≤ (4 : Int)) := by rw [ex12]; exact hvR 38 (by decide) _ (clamp_lt (n := 12) (in_of (by omega)))
                refine lv_icmp_ne (tgt := 71) hx hb dX12_exchanges_65 (by decide) (fun c13 => ?_) (fun c13 => ?_)
                · have gc13 : ¬ (x11.toInt = x12.toInt) := fun q0 => c13 (Int32.toInt_inj.mp q0)
                  refine lv_aload_n hx hb dX12_exchanges_71 rfl (lv_at hl 0 rfl) ?_
                  refine lv_iload_n hx hb dX12_exchanges_72 rfl (lv_at hl 2 rfl) ?_
                  refine lv_iload_n hx hb dX12_exchanges_73 rfl (lv_at hl 3 rfl) ?_
                  refine wvv (As := [.int a2_7, .int a3_24]) (rest := []) (b := (g 45)) (d := 1) F hK hP hD hS hA (s_X12_change l G g q I_24 J_24 R_24 L_24 hvI hvR  a2_7 a3_24 (show ((0 : Int) ≤ a2_7.toInt ∧ a2_7.toInt ≤ (11 : Int)) from by omega) (show ((0 : Int) ≤ a3_24.toInt ∧ a3_24.toInt ≤ (11 : Int)) from by omega)) kmV_X12_change mlX12_596 clX12 rfl 0 (Wm_at0 G g q I_24 J_24 R_24 L_24) ⟨(Nat.le_of_ble_eq_true rfl), (Nat.le_of_ble_eq_true rfl)⟩ hl.1 rfl (Nat.le_of_ble_eq_true rfl) dX12_exchanges_74 (fun u15 H locs hwr14 hP hD hS => ?_)
                  obtain ⟨I16, J17, R18, L19⟩ := u15
                  replace hP : va_P G.1 vwCl (Wm G g q I16 J17 R18 L19) H := hP
                  replace hD : va_D A (Wm G g q I16 J17 R18 L19) := hD
                  obtain ⟨hvI, hvR, tIr14, tRr14⟩ := hwr14
                  replace hvI : InvI Wm_lo Wm_hi I16 := hvI
                  replace hvR : InvR Wm_rl R18 := hvR
                  replace tIr14 : SmF ([] : List Nat) I_24 I16 := tIr14
                  replace tRr14 : SmF ([38] : List Nat) R_24 R18 := tRr14
                  have hv_I16 := hvI
                  have hsI := smF_tr hsI tIr14 (by decide)
                  have hsR := smF_tr hsR tRr14 (by decide)
                  refine lv_aload_n hx hb dX12_exchanges_77 rfl (lv_at hl 0 rfl) ?_
                  refine wvi (As := []) (rest := []) (b := (g 45)) (d := 1) F hK hP hD hS hA (s_X12_fitOf l G g q I16 J17 R18 L19 hvI hvR   ) kmV_X12_fitOf mlX12_590 clX12 rfl 0 (Wm_at0 G g q I16 J17 R18 L19) ⟨(Nat.le_of_ble_eq_true rfl), (Nat.le_of_ble_eq_true rfl)⟩ hl.1 rfl (Nat.le_of_ble_eq_true rfl) dX12_exchanges_78 (fun r20 u21 H locs hwr20 hP hD hS => ?_)
                  refine lv_iload_n hx hb dX12_exchanges_81 rfl (lv_at hl 1 rfl) ?_
                  refine lv_icmp_le (tgt := 87) hx hb dX12_exchanges_82 (by decide) (fun c22 => ?_) (fun c22 => ?_)
                  · have gc22 : r20.toInt ≤ a1_7.toInt := (tle _ _).mp c22
                    refine lv_aload_n hx hb dX12_exchanges_87 rfl (lv_at hl 0 rfl) ?_
                    refine lv_iload_n hx hb dX12_exchanges_88 rfl (lv_at hl 2 rfl) ?_
                    refine lv_iload_n hx hb dX12_exchanges_89 rfl (lv_at hl 3 rfl) ?_
                    refine wvv (As := [.int a2_7, .int a3_24]) (rest := []) (b := (g 45)) (d := 1) F hK hP hD hS hA (s_X12_change l G g q I16 J17 R18 L19 hvI hvR  a2_7 a3_24 (show ((0 : Int) ≤ a2_7.toInt ∧ a2_7.toInt ≤ (11 : Int)) from by omega) (show ((0 : Int) ≤ a3_24.toInt ∧ a3_24.toInt ≤ (11 : Int)) from by omega)) kmV_X12_change mlX12_596 clX12 rfl 0 (Wm_at0 G g q I16 J17 R18 L19) ⟨(Nat.le_of_ble_eq_true rfl), (Nat.le_of_ble_eq_true rfl)⟩ hl.1 rfl (Nat.le_of_ble_eq_true rfl) dX12_exchanges_90 (fun u24 H locs hwr23 hP hD hS => ?_)
                    obtain ⟨I25, J26, R27, L28⟩ := u24
                    replace hP : va_P G.1 vwCl (Wm G g q I25 J26 R27 L28) H := hP
                    replace hD : va_D A (Wm G g q I25 J26 R27 L28) := hD
                    obtain ⟨hvI, hvR, tIr23, tRr23⟩ := hwr23
                    replace hvI : InvI Wm_lo Wm_hi I25 := hvI
                    replace hvR : InvR Wm_rl R27 := hvR
                    replace tIr23 : SmF ([] : List Nat) I16 I25 := tIr23
                    replace tRr23 : SmF ([38] : List Nat) R18 R27 := tRr23
                    have hv_I25 := hvI
                    have hsI := smF_tr hsI tIr23 (by decide)
                    have hsR := smF_tr hsR tRr23 (by decide)
                    exact lab_93  I25 J26 R27 L28 _ _ _ hvI hvR hsI hsR (show ((1 : Int) ≤ a3_24.toInt ∧ a3_24.toInt ≤ (11 : Int)) from by omega) hP hD hS (lv_sub hl [0, 1, 2, 3] rfl)
                  · have gc22 : ¬ (r20.toInt ≤ a1_7.toInt) := fun q0 => c22 ((tle _ _).mpr q0)
                    refine lv_iconst (v := 1) hx hb dX12_exchanges_85 (by decide) ?_
                    rw [hQ]
                    exact q_z F hr hlk (I16, J17, R18, L19) hP hD hS ⟨hvI, hvR, hsI, hsR, (show ((0 : Int) ≤ 1 ∧ 1 ≤ (1 : Int)) from by omega)⟩ dX12_exchanges_86 (Nat.le_of_ble_eq_true rfl) (Nat.le_of_ble_eq_true rfl) (nar01 (by decide))
                · have gc13 : x11.toInt = x12.toInt := congrArg Int32.toInt c13
                  refine lv_goto (tgt := 93) hx hb dX12_exchanges_68 (by decide) ?_
                  exact lab_93  I_24 J_24 R_24 L_24 _ _ _ hvI hvR hsI hsR (show ((1 : Int) ≤ a3_24.toInt ∧ a3_24.toInt ≤ (11 : Int)) from by omega) hP hD hS (lv_sub hl [0, 1, 2, 3] rfl)
      refine lv_iload_n hx hb dX12_exchanges_7 rfl (lv_at hl 2 rfl) ?_
      refine lv_aload_n hx hb dX12_exchanges_8 rfl (lv_at hl 0 rfl) ?_
      refine g_get F hK hP 0 (Wm_at0 G g q I_7 J_7 R_7 L_7) clX12 21 (by decide) flX12_77 rfl dX12_exchanges_9 ?_
      refine lv_aload_n hx hb dX12_exchanges_12 rfl (lv_at hl 0 rfl) ?_
      refine g_get F hK hP 0 (Wm_at0 G g q I_7 J_7 R_7 L_7) clX12 12 (by decide) flX12_48 rfl dX12_exchanges_13 ?_
      refine cst_i (hsI 10 rfl) ?_
      have w_I0_10 := rg (hvI0 10 (by decide)) (0) (1) rfl rfl
      refine g_iald F hK hP 10 (Wm_at10 G g q I_7 J_7 R_7 L_7) (in_of (by omega)) dX12_exchanges_16 rfl ?_
      refine lv_topi (fun x29 ex29 => ?_)
      have gx29 : x29.toInt = (R0 7 (Int32.toNatClampNeg (I0 10))).toInt := congrArg Int32.toInt ((ex29).trans (congrFun (hsR 7 rfl) _))
      have fx29 : ((0 : Int) ≤ x29.toInt ∧ x29.toInt ≤ (12 : Int)) := by rw [ex29]; exact hvR 7 (by decide) _ (clamp_lt (n := 2) (in_of (by omega)))
      refine lv_icmp_ge (tgt := 105) hx hb dX12_exchanges_17 (by decide) (fun c30 => ?_) (fun c30 => ?_)
      · have gc30 : x29.toInt ≤ a2_7.toInt := (tle _ _).mp c30
        refine lv_iconst (v := 0) hx hb dX12_exchanges_105 (by decide) ?_
        rw [hQ]
        exact q_z F hr hlk (I_7, J_7, R_7, L_7) hP hD hS ⟨hvI, hvR, hsI, hsR, (show ((0 : Int) ≤ 0 ∧ 0 ≤ (1 : Int)) from by omega)⟩ dX12_exchanges_106 (Nat.le_of_ble_eq_true rfl) (Nat.le_of_ble_eq_true rfl) (nar01 (by decide))
      · have gc30 : ¬ (x29.toInt ≤ a2_7.toInt) := fun q0 => c30 ((tle _ _).mpr q0)
        refine lv_iload_n hx hb dX12_exchanges_20 rfl (lv_at hl 2 rfl) ?_
        refine lv_iconst (v := 1) hx hb dX12_exchanges_21 (by decide) ?_
        refine lv_iadd hx hb dX12_exchanges_22 ?_
        refine lv_topi (fun x31 ex31 => ?_)
        have fx31 : x31.toInt = a2_7.toInt + 1 := by rw [ex31]; exact t_add (by show (-2147483648 : Int) ≤ a2_7.toInt + 1; omega) (by show a2_7.toInt + 1 ≤ 2147483647; omega)
        refine lv_istore_n (lv' := [(3, .int x31), (0, .ref (g 45)), (1, .int a1_7), (2, .int a2_7)]) hx hb dX12_exchanges_23 rfl hl (by decide) rfl (fun ls hl => ?_)
        exact lab_24 12 x31 I_7 J_7 R_7 L_7 _ _ _ (show (12 - x31.toInt) < ((12 : Nat) : Int) from by omega) hvI hvR hsI hsR (show ((0 : Int) ≤ a2_7.toInt ∧ a2_7.toInt ≤ (11 : Int)) from by omega) (show ((1 : Int) ≤ x31.toInt ∧ x31.toInt ≤ (12 : Int)) from by omega) hP hD hS (lv_sub hl [1, 2, 3, 0] rfl)
  refine lv_aload_n hx hb dX12_exchanges_0 rfl (lv_at hl 0 rfl) ?_
  refine wvi (As := []) (rest := []) (b := (g 45)) (d := 1) F hK hP hD hS hA (s_X12_fitOf l G g q I0 J0 R0 L0 hvI hvR   ) kmV_X12_fitOf mlX12_590 clX12 rfl 0 (Wm_at0 G g q I0 J0 R0 L0) ⟨(Nat.le_of_ble_eq_true rfl), (Nat.le_of_ble_eq_true rfl)⟩ hl.1 rfl (Nat.le_of_ble_eq_true rfl) dX12_exchanges_1 (fun r32 u33 H locs hwr32 hP hD hS => ?_)
  refine lv_istore_n (lv' := [(1, .int r32), (0, .ref (g 45))]) hx hb dX12_exchanges_4 rfl hl (by decide) rfl (fun ls hl => ?_)
  refine lv_iconst (v := 0) hx hb dX12_exchanges_5 (by decide) ?_
  refine lv_istore_n (lv' := [(2, .int 0), (1, .int r32), (0, .ref (g 45))]) hx hb dX12_exchanges_6 rfl hl (by decide) rfl (fun ls hl => ?_)
  exact lab_7 13 r32 0 I0 J0 R0 L0 _ _ _ (show (12 - 0) < ((13 : Nat) : Int) from by omega) hvI hvR hsI hsR (by decide) hP hD hS (lv_sub hl [2, 1, 0] rfl)
set_option maxHeartbeats 4000000 in
set_option maxRecDepth 100000 in
theorem s_X12_exchanged (l : Launch) (G : Gx) (g q : Nat → Nat) (I0 : Nat → Int32) (J0 : Nat → Int64) (R0 : Nat → Nat → Int32) (L0 : Nat → Nat → Int64) (hvI : InvI Wm_lo Wm_hi I0) (hvR : InvR Wm_rl R0)    : CtI (S := St) l yX12_exchanged cX12_exchanged 2 (some .int) (rmD 4 0 0) G [.ref (g 45)] (Wm G g q I0 J0 R0 L0) (fun r u => InvI Wm_lo Wm_hi u.1 ∧ InvR Wm_rl u.2.2.1 ∧ SmF ([] : List Nat) I0 u.1 ∧ SmF ([38] : List Nat) R0 u.2.2.1 ∧ ((0 : Int) ≤ r.toInt ∧ r.toInt ≤ (50 : Int))) (fun u => Wm G g q u.1 u.2.1 u.2.2.1 u.2.2.2) := by
  refine ctI_of (own := RX12) (by decide +kernel) rfl (Nat.le_of_ble_eq_true rfl) ?_
  intro p e s m below meth c A ls F hr hlk hnm hK hP hD hA hS hl
  have hx := F.1
  have hb := F.2.1
  have hown := F.2.2.2.1
  have hl : lv_has ls 2 [(0, .ref (g 45))] := hl
  obtain ⟨Q, hQ⟩ : ∃ Q : State → Prop, Q = MQ below (va_Qi (S := St) (fun r u => InvI Wm_lo Wm_hi u.1 ∧ InvR Wm_rl u.2.2.1 ∧ SmF ([] : List Nat) I0 u.1 ∧ SmF ([38] : List Nat) R0 u.2.2.1 ∧ ((0 : Int) ≤ r.toInt ∧ r.toInt ≤ (50 : Int))) (BX G A (fun u => Wm G g q u.1 u.2.1 u.2.2.1 u.2.2.2)) A) [.ref (g 45)].toArray s 0 0 A := ⟨_, rfl⟩
  rw [show (MQ below (va_Qi (S := St) (fun r u => InvI Wm_lo Wm_hi u.1 ∧ InvR Wm_rl u.2.2.1 ∧ SmF ([] : List Nat) I0 u.1 ∧ SmF ([38] : List Nat) R0 u.2.2.1 ∧ ((0 : Int) ≤ r.toInt ∧ r.toInt ≤ (50 : Int))) (BX G A (fun u => Wm G g q u.1 u.2.1 u.2.2.1 u.2.2.2)) A) [.ref (g 45)].toArray s (rmD 4 0 0).cells (rmD 4 0 0).slots A) = Q from hQ.symm]
  have hsI := smF_rf ([] : List Nat) I0
  have hsR := smF_rf ([38] : List Nat) R0
  have hvI0 := hvI
  have lab_2 : ∀ (k_2 : Nat) (a1_2 : Int32) (I_2 : Nat → Int32) (J_2 : Nat → Int64) (R_2 : Nat → Nat → Int32) (L_2 : Nat → Nat → Int64) (H : Heap) (locs : List Loc) (ls : Array Slot), ((50 - a1_2.toInt) < (k_2 : Int)) → InvI Wm_lo Wm_hi I_2 → InvR Wm_rl R_2 → SmF ([] : List Nat) I0 I_2 → SmF ([38] : List Nat) R0 R_2 → ((0 : Int) ≤ a1_2.toInt ∧ a1_2.toInt ≤ (50 : Int)) → va_P G.1 vwCl (Wm G g q I_2 J_2 R_2 L_2) H → va_D A (Wm G g q I_2 J_2 R_2 L_2) → va_S A s.heap H locs → lv_has ls 2 [(0, .ref (g 45)), (1, .int a1_2)] → W p l e (rmD 4 0 0) s m [.ref (g 45)].toArray below meth c H locs 0 0 Q (F0 m 2 ls []) := by
    intro k_2
    induction k_2 with
    | zero =>
      intro a1_2 I_2 J_2 R_2 L_2 H locs ls hm hvI hvR hsI hsR y0_2 hP hD hS hl
      have hv_I_2 := hvI
      exact absurd hm (by omega)
    | succ k_2 ih_2 =>
      intro a1_2 I_2 J_2 R_2 L_2 H locs ls hm hvI hvR hsI hsR y0_2 hP hD hS hl
      have hv_I_2 := hvI
      refine lv_iload_n hx hb dX12_exchanged_2 rfl (lv_at hl 1 rfl) ?_
      refine lv_bipush (v := 50) hx hb dX12_exchanged_3 (by decide) ?_
      refine lv_icmp_ge (tgt := 21) hx hb dX12_exchanged_5 (by decide) (fun c1 => ?_) (fun c1 => ?_)
      · have gc1 : 50 ≤ a1_2.toInt := (tle _ _).mp c1
        refine lv_iload_n hx hb dX12_exchanged_21 rfl (lv_at hl 1 rfl) ?_
        rw [hQ]
        exact q_i F hr hlk (I_2, J_2, R_2, L_2) hP hD hS ⟨hvI, hvR, hsI, hsR, (show ((0 : Int) ≤ a1_2.toInt ∧ a1_2.toInt ≤ (50 : Int)) from by omega)⟩ dX12_exchanged_22 (Nat.le_of_ble_eq_true rfl) (Nat.le_of_ble_eq_true rfl)
      · have gc1 : ¬ (50 ≤ a1_2.toInt) := fun q0 => c1 ((tle _ _).mpr q0)
        refine lv_aload_n hx hb dX12_exchanged_8 rfl (lv_at hl 0 rfl) ?_
        refine wvi (As := []) (rest := []) (b := (g 45)) (d := 3) F hK hP hD hS hA (s_X12_exchanges l G g q I_2 J_2 R_2 L_2 hvI hvR   ) kmV_X12_exchanges mlX12_599 clX12 rfl 0 (Wm_at0 G g q I_2 J_2 R_2 L_2) ⟨(Nat.le_of_ble_eq_true rfl), (Nat.le_of_ble_eq_true rfl)⟩ hl.1 rfl (Nat.le_of_ble_eq_true rfl) dX12_exchanged_9 (fun r2 u3 H locs hwr2 hP hD hS => ?_)
        obtain ⟨I4, J5, R6, L7⟩ := u3
        replace hP : va_P G.1 vwCl (Wm G g q I4 J5 R6 L7) H := hP
        replace hD : va_D A (Wm G g q I4 J5 R6 L7) := hD
        obtain ⟨hvI, hvR, tIr2, tRr2, F0r2⟩ := hwr2
        replace F0r2 : ((0 : Int) ≤ r2.toInt ∧ r2.toInt ≤ (1 : Int)) := F0r2
        replace hvI : InvI Wm_lo Wm_hi I4 := hvI
        replace hvR : InvR Wm_rl R6 := hvR
        replace tIr2 : SmF ([] : List Nat) I_2 I4 := tIr2
        replace tRr2 : SmF ([38] : List Nat) R_2 R6 := tRr2
        have hv_I4 := hvI
        have hsI := smF_tr hsI tIr2 (by decide)
        have hsR := smF_tr hsR tRr2 (by decide)
        refine lv_if_eq (tgt := 21) hx hb dX12_exchanged_12 (by decide) (fun c8 => ?_) (fun c8 => ?_)
        · have gc8 : r2.toInt = 0 := congrArg Int32.toInt c8
          refine lv_iload_n hx hb dX12_exchanged_21 rfl (lv_at hl 1 rfl) ?_
          rw [hQ]
          exact q_i F hr hlk (I4, J5, R6, L7) hP hD hS ⟨hvI, hvR, hsI, hsR, (show ((0 : Int) ≤ a1_2.toInt ∧ a1_2.toInt ≤ (50 : Int)) from by omega)⟩ dX12_exchanged_22 (Nat.le_of_ble_eq_true rfl) (Nat.le_of_ble_eq_true rfl)
        · have gc8 : ¬ (r2.toInt = 0) := fun q0 => c8 (Int32.toInt_inj.mp q0)
          obtain ⟨x9, ex9⟩ : ∃ y : Int32, y = a1_2 + 1 := ⟨_, rfl⟩
          have fx9 : x9.toInt = a1_2.toInt + (1 : Int) := by rw [ex9]; exact t_add (by show (-2147483648 : Int) ≤ a1_2.toInt + (1 : Int); omega) (by show a1_2.toInt + (1 : Int) ≤ 2147483647; omega)
          refine lv_iinc (v := x9) (lv' := [(1, .int x9), (0, .ref (g 45))]) hx hb dX12_exchanged_15 hl (k := 1) rfl (by rw [ex9]; rfl) (by decide) rfl (fun ls hl => ?_)
          refine lv_goto (tgt := 2) hx hb dX12_exchanged_18 (by decide) ?_
          exact ih_2 x9 I4 J5 R6 L7 _ _ _ (show (50 - x9.toInt) < (k_2 : Int) from by omega) hvI hvR hsI hsR (show ((0 : Int) ≤ x9.toInt ∧ x9.toInt ≤ (50 : Int)) from by omega) hP hD hS (lv_sub hl [1, 0] rfl)
  refine lv_iconst (v := 0) hx hb dX12_exchanged_0 (by decide) ?_
  refine lv_istore_n (lv' := [(1, .int 0), (0, .ref (g 45))]) hx hb dX12_exchanged_1 rfl hl (by decide) rfl (fun ls hl => ?_)
  exact lab_2 51 0 I0 J0 R0 L0 _ _ _ (show (50 - 0) < ((51 : Nat) : Int) from by omega) hvI hvR hsI hsR (by decide) hP hD hS (lv_sub hl [1, 0] rfl)
set_option maxHeartbeats 4000000 in
set_option maxRecDepth 100000 in
theorem s_X12_put (l : Launch) (G : Gx) (g q : Nat → Nat) (I0 : Nat → Int32) (J0 : Nat → Int64) (R0 : Nat → Nat → Int32) (L0 : Nat → Nat → Int64) (hvI : InvI Wm_lo Wm_hi I0) (hvR : InvR Wm_rl R0)  (p1 : Int32) (hpre0 : ((I0 0).toInt ≤ 1796)) : CtV (S := St) l yX12_put cX12_put 3 none (rmD 1 0 0) G [.ref (g 45), .int p1] (Wm G g q I0 J0 R0 L0) (fun u => InvI Wm_lo Wm_hi u.1 ∧ InvR Wm_rl u.2.2.1 ∧ SmF ([0] : List Nat) I0 u.1 ∧ SmF ([0] : List Nat) R0 u.2.2.1 ∧ ((u.1 0).toInt = (I0 0).toInt + 4)) (fun u => Wm G g q u.1 u.2.1 u.2.2.1 u.2.2.2) := by
  refine ctV_of (own := RX12) (by decide +kernel) rfl (Nat.le_of_ble_eq_true rfl) ?_
  intro p e s m below meth c A ls F hr hlk hnm hK hP hD hA hS hl
  have hx := F.1
  have hb := F.2.1
  have hown := F.2.2.2.1
  have hl : lv_has ls 3 [(0, .ref (g 45)), (1, .int p1)] := hl
  obtain ⟨Q, hQ⟩ : ∃ Q : State → Prop, Q = MQ below (va_Qv (S := St) (fun u => InvI Wm_lo Wm_hi u.1 ∧ InvR Wm_rl u.2.2.1 ∧ SmF ([0] : List Nat) I0 u.1 ∧ SmF ([0] : List Nat) R0 u.2.2.1 ∧ ((u.1 0).toInt = (I0 0).toInt + 4)) (BX G A (fun u => Wm G g q u.1 u.2.1 u.2.2.1 u.2.2.2)) A) [.ref (g 45), .int p1].toArray s 0 0 A := ⟨_, rfl⟩
  rw [show (MQ below (va_Qv (S := St) (fun u => InvI Wm_lo Wm_hi u.1 ∧ InvR Wm_rl u.2.2.1 ∧ SmF ([0] : List Nat) I0 u.1 ∧ SmF ([0] : List Nat) R0 u.2.2.1 ∧ ((u.1 0).toInt = (I0 0).toInt + 4)) (BX G A (fun u => Wm G g q u.1 u.2.1 u.2.2.1 u.2.2.2)) A) [.ref (g 45), .int p1].toArray s (rmD 1 0 0).cells (rmD 1 0 0).slots A) = Q from hQ.symm]
  have hsI := smF_rf ([0] : List Nat) I0
  have hsR := smF_rf ([0] : List Nat) R0
  have hvI0 := hvI
  have lab_3 : ∀ (k_3 : Nat) (a2_3 : Int32) (I_3 : Nat → Int32) (J_3 : Nat → Int64) (R_3 : Nat → Nat → Int32) (L_3 : Nat → Nat → Int64) (H : Heap) (locs : List Loc) (ls : Array Slot), ((a2_3.toInt - (-8)) < (k_3 : Int)) → InvI Wm_lo Wm_hi I_3 → InvR Wm_rl R_3 → SmF ([0] : List Nat) I0 I_3 → SmF ([0] : List Nat) R0 R_3 → ((-8 : Int) ≤ a2_3.toInt ∧ a2_3.toInt ≤ (24 : Int)) → (8 * ((I_3 0).toInt - (I0 0).toInt) = 24 - a2_3.toInt) → va_P G.1 vwCl (Wm G g q I_3 J_3 R_3 L_3) H → va_D A (Wm G g q I_3 J_3 R_3 L_3) → va_S A s.heap H locs → lv_has ls 3 [(0, .ref (g 45)), (1, .int p1), (2, .int a2_3)] → W p l e (rmD 1 0 0) s m [.ref (g 45), .int p1].toArray below meth c H locs 0 0 Q (F0 m 3 ls []) := by
    intro k_3
    induction k_3 with
    | zero =>
      intro a2_3 I_3 J_3 R_3 L_3 H locs ls hm hvI hvR hsI hsR y0_3 z0_3 hP hD hS hl
      have hv_I_3 := hvI
      have w_I_3_0 := rg (hvI 0 (by decide)) (0) (1800) rfl rfl
      exact absurd hm (by omega)
    | succ k_3 ih_3 =>
      intro a2_3 I_3 J_3 R_3 L_3 H locs ls hm hvI hvR hsI hsR y0_3 z0_3 hP hD hS hl
      have hv_I_3 := hvI
      have w_I_3_0 := rg (hvI 0 (by decide)) (0) (1800) rfl rfl
      refine lv_iload_n hx hb dX12_put_3 rfl (lv_at hl 2 rfl) ?_
      refine lv_if_lt (tgt := 39) hx hb dX12_put_4 (by decide) (fun c1 => ?_) (fun c1 => ?_)
      · have gc1 : a2_3.toInt < 0 := (tlt _ _).mp c1
        rw [hQ]
        exact q_v F hr hlk (I_3, J_3, R_3, L_3) hP hD hS ⟨hvI, hvR, hsI, hsR, (show ((I_3 0).toInt = (I0 0).toInt + 4) from by omega)⟩ dX12_put_39 (Nat.le_of_ble_eq_true rfl) (Nat.le_of_ble_eq_true rfl)
      · have gc1 : ¬ (a2_3.toInt < 0) := fun q0 => c1 ((tlt _ _).mpr q0)
        refine lv_aload_n hx hb dX12_put_7 rfl (lv_at hl 0 rfl) ?_
        refine g_get F hK hP 0 (Wm_at0 G g q I_3 J_3 R_3 L_3) clX12 0 (by decide) flX12_7 rfl dX12_put_8 ?_
        refine lv_aload_n hx hb dX12_put_11 rfl (lv_at hl 0 rfl) ?_
        refine g_get F hK hP 0 (Wm_at0 G g q I_3 J_3 R_3 L_3) clX12 1 (by decide) flX12_13 rfl dX12_put_12 ?_
        have w_I_3_0 := rg (hv_I_3 0 (by decide)) (0) (1800) rfl rfl
        refine lv_iload_n hx hb dX12_put_15 rfl (lv_at hl 1 rfl) ?_
        refine lv_iload_n hx hb dX12_put_16 rfl (lv_at hl 2 rfl) ?_
        refine lv_ishr hx hb dX12_put_17 ?_
        refine lv_topi (fun x2 ex2 => ?_)
        refine lv_sipush (v := 255) hx hb dX12_put_18 (by decide) ?_
        refine lv_iand hx hb dX12_put_21 ?_
        refine lv_topi (fun x3 ex3 => ?_)
        have fx3 : (0 : Int) ≤ x3.toInt ∧ x3.toInt ≤ (255 : Int) := by rw [ex3]; exact t_and (b := 255) (by decide)
        refine p_row (W1 := fun y => Wm G g q I_3 J_3 y L_3) (n := 0) F hK hP hD hS 1 (Wm_at1 G g q I_3 J_3 R_3 L_3) (in_of (by omega)) dX12_put_22 (Wm_rowR0 G g q I_3 J_3 R_3 L_3) (fun R4 H locs eR4 hP hD hS => ?_)
        have hvR : InvR Wm_rl R4 := inv_upR hvR 0 eR4 (upd_in (hvR 0 (by decide)) (show ((0 : Int) ≤ x3.toInt ∧ x3.toInt ≤ (255 : Int)) from by omega))
        have hsR := smF_up hsR eR4 (by decide)
        refine lv_aload_n hx hb dX12_put_23 rfl (lv_at hl 0 rfl) ?_
        refine lv_dup hx hb dX12_put_24 rfl ?_
        refine g_get F hK hP 0 (Wm_at0 G g q I_3 J_3 R4 L_3) clX12 1 (by decide) flX12_13 rfl dX12_put_25 ?_
        refine lv_iconst (v := 1) hx hb dX12_put_28 (by decide) ?_
        refine lv_iadd hx hb dX12_put_29 ?_
        refine lv_topi (fun x5 ex5 => ?_)
        have fx5 : x5.toInt = (I_3 0).toInt + 1 := by rw [ex5]; exact t_add (by show (-2147483648 : Int) ≤ (I_3 0).toInt + 1; omega) (by show (I_3 0).toInt + 1 ≤ 2147483647; omega)
        refine p_fld (W1 := fun y => Wm G g q y J_3 R4 L_3) (n := 0) (v := x5) F hK hP hD hS 0 (Wm_at0 G g q I_3 J_3 R4 L_3) clX12 1 (by decide) flX12_13 rfl rfl rfl (Nat.le_of_ble_eq_true rfl) dX12_put_30 (Wm_setI0 G g q I_3 J_3 R4 L_3 _) (fun I6 H locs eI6 hP hD hS => ?_)
        have hvI : InvI Wm_lo Wm_hi I6 := inv_upI hvI 0 eI6 (show ((0 : Int) ≤ x5.toInt ∧ x5.toInt ≤ (1800 : Int)) from by omega)
        have hsI := smF_up hsI eI6 (by decide)
        have hv_I6 := hvI
        have u_I6_0 : (I6 0).toInt = x5.toInt := by rw [eI6]; rfl
        obtain ⟨x7, ex7⟩ : ∃ y : Int32, y = a2_3 + (-8) := ⟨_, rfl⟩
        have fx7 : x7.toInt = a2_3.toInt + (-8 : Int) := by rw [ex7]; exact t_add (by show (-2147483648 : Int) ≤ a2_3.toInt + (-8 : Int); omega) (by show a2_3.toInt + (-8 : Int) ≤ 2147483647; omega)
        refine lv_iinc (v := x7) (lv' := [(2, .int x7), (0, .ref (g 45)), (1, .int p1)]) hx hb dX12_put_33 hl (k := 2) rfl (by rw [ex7]; rfl) (by decide) rfl (fun ls hl => ?_)
        refine lv_goto (tgt := 3) hx hb dX12_put_36 (by decide) ?_
        exact ih_3 x7 I6 J_3 R4 L_3 _ _ _ (show (x7.toInt - (-8)) < (k_3 : Int) from by omega) hvI hvR hsI hsR (show ((-8 : Int) ≤ x7.toInt ∧ x7.toInt ≤ (24 : Int)) from by omega) (show (8 * ((I6 0).toInt - (I0 0).toInt) = 24 - x7.toInt) from by omega) hP hD hS (lv_sub hl [1, 2, 0] rfl)
  have w_I0_0 := rg (hvI 0 (by decide)) (0) (1800) rfl rfl
  refine lv_bipush (v := 24) hx hb dX12_put_0 (by decide) ?_
  refine lv_istore_n (lv' := [(2, .int 24), (0, .ref (g 45)), (1, .int p1)]) hx hb dX12_put_2 rfl hl (by decide) rfl (fun ls hl => ?_)
  exact lab_3 33 24 I0 J0 R0 L0 _ _ _ (show (24 - (-8)) < ((33 : Nat) : Int) from by omega) hvI hvR hsI hsR (by decide) (show (8 * ((I0 0).toInt - (I0 0).toInt) = 24 - 24) from by omega) hP hD hS (lv_sub hl [1, 2, 0] rfl)
set_option maxHeartbeats 4000000 in
set_option maxRecDepth 100000 in
theorem s_X12_feed (l : Launch) (G : Gx) (g q : Nat → Nat) (I0 : Nat → Int32) (J0 : Nat → Int64) (R0 : Nat → Nat → Int32) (L0 : Nat → Nat → Int64) (hvI : InvI Wm_lo Wm_hi I0) (hvR : InvR Wm_rl R0)  (p1 : Int32) (p2 : Int32) (p3 : Int32) (p4 : Int32) (p5 : Int32)  : CtI (S := St) l yX12_feed cX12_feed 6 (some .int) (rmD 2 0 0) G [.ref (g 45), .int p1, .int p2, .int p3, .int p4, .int p5] (Wm G g q I0 J0 R0 L0) (fun r u => InvI Wm_lo Wm_hi u.1 ∧ InvR Wm_rl u.2.2.1 ∧ SmF ([0] : List Nat) I0 u.1 ∧ SmF ([0, 34] : List Nat) R0 u.2.2.1 ∧ ((-1 : Int) ≤ r.toInt ∧ r.toInt ≤ (1800 : Int))) (fun u => Wm G g q u.1 u.2.1 u.2.2.1 u.2.2.2) := by
  refine ctI_of (own := RX12) (by decide +kernel) rfl (Nat.le_of_ble_eq_true rfl) ?_
  intro p e s m below meth c A ls F hr hlk hnm hK hP hD hA hS hl
  have hx := F.1
  have hb := F.2.1
  have hown := F.2.2.2.1
  have hl : lv_has ls 6 [(0, .ref (g 45)), (1, .int p1), (2, .int p2), (3, .int p3), (4, .int p4), (5, .int p5)] := hl
  obtain ⟨Q, hQ⟩ : ∃ Q : State → Prop, Q = MQ below (va_Qi (S := St) (fun r u => InvI Wm_lo Wm_hi u.1 ∧ InvR Wm_rl u.2.2.1 ∧ SmF ([0] : List Nat) I0 u.1 ∧ SmF ([0, 34] : List Nat) R0 u.2.2.1 ∧ ((-1 : Int) ≤ r.toInt ∧ r.toInt ≤ (1800 : Int))) (BX G A (fun u => Wm G g q u.1 u.2.1 u.2.2.1 u.2.2.2)) A) [.ref (g 45), .int p1, .int p2, .int p3, .int p4, .int p5].toArray s 0 0 A := ⟨_, rfl⟩
  rw [show (MQ below (va_Qi (S := St) (fun r u => InvI Wm_lo Wm_hi u.1 ∧ InvR Wm_rl u.2.2.1 ∧ SmF ([0] : List Nat) I0 u.1 ∧ SmF ([0, 34] : List Nat) R0 u.2.2.1 ∧ ((-1 : Int) ≤ r.toInt ∧ r.toInt ≤ (1800 : Int))) (BX G A (fun u => Wm G g q u.1 u.2.1 u.2.2.1 u.2.2.2)) A) [.ref (g 45), .int p1, .int p2, .int p3, .int p4, .int p5].toArray s (rmD 2 0 0).cells (rmD 2 0 0).slots A) = Q from hQ.symm]
  have hsI := smF_rf ([0] : List Nat) I0
  have hsR := smF_rf ([0, 34] : List Nat) R0
  have hvI0 := hvI
  refine lv_aload_n hx hb dX12_feed_0 rfl (lv_at hl 0 rfl) ?_
  refine g_get F hK hP 0 (Wm_at0 G g q I0 J0 R0 L0) clX12 1 (by decide) flX12_13 rfl dX12_feed_1 ?_
  have w_I0_0 := rg (hvI0 0 (by decide)) (0) (1800) rfl rfl
  refine lv_bipush (v := 20) hx hb dX12_feed_4 (by decide) ?_
  refine lv_iadd hx hb dX12_feed_6 ?_
  refine lv_topi (fun x1 ex1 => ?_)
  have fx1 : x1.toInt = (I0 0).toInt + 20 := by rw [ex1]; exact t_add (by show (-2147483648 : Int) ≤ (I0 0).toInt + 20; omega) (by show (I0 0).toInt + 20 ≤ 2147483647; omega)
  refine lv_sipush (v := 1800) hx hb dX12_feed_7 (by decide) ?_
  refine lv_icmp_le (tgt := 19) hx hb dX12_feed_10 (by decide) (fun c2 => ?_) (fun c2 => ?_)
  · have gc2 : x1.toInt ≤ 1800 := (tle _ _).mp c2
    refine lv_aload_n hx hb dX12_feed_19 rfl (lv_at hl 0 rfl) ?_
    refine lv_iload_n hx hb dX12_feed_20 rfl (lv_at hl 1 rfl) ?_
    refine wvv (As := [.int p1]) (rest := []) (b := (g 45)) (d := 1) F hK hP hD hS hA (s_X12_put l G g q I0 J0 R0 L0 hvI hvR  p1 (by omega)) kmV_X12_put mlX12_229 clX12 rfl 0 (Wm_at0 G g q I0 J0 R0 L0) ⟨(Nat.le_of_ble_eq_true rfl), (Nat.le_of_ble_eq_true rfl)⟩ hl.1 rfl (Nat.le_of_ble_eq_true rfl) dX12_feed_21 (fun u4 H locs hwr3 hP hD hS => ?_)
    obtain ⟨I5, J6, R7, L8⟩ := u4
    replace hP : va_P G.1 vwCl (Wm G g q I5 J6 R7 L8) H := hP
    replace hD : va_D A (Wm G g q I5 J6 R7 L8) := hD
    obtain ⟨hvI, hvR, tIr3, tRr3, F0r3⟩ := hwr3
    replace F0r3 : ((I5 0).toInt = (I0 0).toInt + 4) := F0r3
    replace hvI : InvI Wm_lo Wm_hi I5 := hvI
    replace hvR : InvR Wm_rl R7 := hvR
    replace tIr3 : SmF ([0] : List Nat) I0 I5 := tIr3
    replace tRr3 : SmF ([0] : List Nat) R0 R7 := tRr3
    have hv_I5 := hvI
    have hsI := smF_tr hsI tIr3 (by decide)
    have hsR := smF_tr hsR tRr3 (by decide)
    refine lv_aload_n hx hb dX12_feed_24 rfl (lv_at hl 0 rfl) ?_
    refine lv_iload_n hx hb dX12_feed_25 rfl (lv_at hl 2 rfl) ?_
    refine wvv (As := [.int p2]) (rest := []) (b := (g 45)) (d := 1) F hK hP hD hS hA (s_X12_put l G g q I5 J6 R7 L8 hvI hvR  p2 (by omega)) kmV_X12_put mlX12_229 clX12 rfl 0 (Wm_at0 G g q I5 J6 R7 L8) ⟨(Nat.le_of_ble_eq_true rfl), (Nat.le_of_ble_eq_true rfl)⟩ hl.1 rfl (Nat.le_of_ble_eq_true rfl) dX12_feed_26 (fun u10 H locs hwr9 hP hD hS => ?_)
    obtain ⟨I11, J12, R13, L14⟩ := u10
    replace hP : va_P G.1 vwCl (Wm G g q I11 J12 R13 L14) H := hP
    replace hD : va_D A (Wm G g q I11 J12 R13 L14) := hD
    obtain ⟨hvI, hvR, tIr9, tRr9, F0r9⟩ := hwr9
    replace F0r9 : ((I11 0).toInt = (I5 0).toInt + 4) := F0r9
    replace hvI : InvI Wm_lo Wm_hi I11 := hvI
    replace hvR : InvR Wm_rl R13 := hvR
    replace tIr9 : SmF ([0] : List Nat) I5 I11 := tIr9
    replace tRr9 : SmF ([0] : List Nat) R7 R13 := tRr9
    have hv_I11 := hvI
    have hsI := smF_tr hsI tIr9 (by decide)
    have hsR := smF_tr hsR tRr9 (by decide)
    refine lv_aload_n hx hb dX12_feed_29 rfl (lv_at hl 0 rfl) ?_
    refine lv_iload_n hx hb dX12_feed_30 rfl (lv_at hl 3 rfl) ?_
    refine wvv (As := [.int p3]) (rest := []) (b := (g 45)) (d := 1) F hK hP hD hS hA (s_X12_put l G g q I11 J12 R13 L14 hvI hvR  p3 (by omega)) kmV_X12_put mlX12_229 clX12 rfl 0 (Wm_at0 G g q I11 J12 R13 L14) ⟨(Nat.le_of_ble_eq_true rfl), (Nat.le_of_ble_eq_true rfl)⟩ hl.1 rfl (Nat.le_of_ble_eq_true rfl) dX12_feed_31 (fun u16 H locs hwr15 hP hD hS => ?_)
    obtain ⟨I17, J18, R19, L20⟩ := u16
    replace hP : va_P G.1 vwCl (Wm G g q I17 J18 R19 L20) H := hP
    replace hD : va_D A (Wm G g q I17 J18 R19 L20) := hD
    obtain ⟨hvI, hvR, tIr15, tRr15, F0r15⟩ := hwr15
    replace F0r15 : ((I17 0).toInt = (I11 0).toInt + 4) := F0r15
    replace hvI : InvI Wm_lo Wm_hi I17 := hvI
    replace hvR : InvR Wm_rl R19 := hvR
    replace tIr15 : SmF ([0] : List Nat) I11 I17 := tIr15
    replace tRr15 : SmF ([0] : List Nat) R13 R19 := tRr15
    have hv_I17 := hvI
    have hsI := smF_tr hsI tIr15 (by decide)
    have hsR := smF_tr hsR tRr15 (by decide)
    refine lv_aload_n hx hb dX12_feed_34 rfl (lv_at hl 0 rfl) ?_
    refine lv_iload hx hb dX12_feed_35 (lv_at hl 4 rfl) ?_
    refine wvv (As := [.int p4]) (rest := []) (b := (g 45)) (d := 1) F hK hP hD hS hA (s_X12_put l G g q I17 J18 R19 L20 hvI hvR  p4 (by omega)) kmV_X12_put mlX12_229 clX12 rfl 0 (Wm_at0 G g q I17 J18 R19 L20) ⟨(Nat.le_of_ble_eq_true rfl), (Nat.le_of_ble_eq_true rfl)⟩ hl.1 rfl (Nat.le_of_ble_eq_true rfl) dX12_feed_37 (fun u22 H locs hwr21 hP hD hS => ?_)
    obtain ⟨I23, J24, R25, L26⟩ := u22
    replace hP : va_P G.1 vwCl (Wm G g q I23 J24 R25 L26) H := hP
    replace hD : va_D A (Wm G g q I23 J24 R25 L26) := hD
    obtain ⟨hvI, hvR, tIr21, tRr21, F0r21⟩ := hwr21
    replace F0r21 : ((I23 0).toInt = (I17 0).toInt + 4) := F0r21
    replace hvI : InvI Wm_lo Wm_hi I23 := hvI
    replace hvR : InvR Wm_rl R25 := hvR
    replace tIr21 : SmF ([0] : List Nat) I17 I23 := tIr21
    replace tRr21 : SmF ([0] : List Nat) R19 R25 := tRr21
    have hv_I23 := hvI
    have hsI := smF_tr hsI tIr21 (by decide)
    have hsR := smF_tr hsR tRr21 (by decide)
    refine lv_aload_n hx hb dX12_feed_40 rfl (lv_at hl 0 rfl) ?_
    refine lv_iload hx hb dX12_feed_41 (lv_at hl 5 rfl) ?_
    refine wvv (As := [.int p5]) (rest := []) (b := (g 45)) (d := 1) F hK hP hD hS hA (s_X12_put l G g q I23 J24 R25 L26 hvI hvR  p5 (by omega)) kmV_X12_put mlX12_229 clX12 rfl 0 (Wm_at0 G g q I23 J24 R25 L26) ⟨(Nat.le_of_ble_eq_true rfl), (Nat.le_of_ble_eq_true rfl)⟩ hl.1 rfl (Nat.le_of_ble_eq_true rfl) dX12_feed_43 (fun u28 H locs hwr27 hP hD hS => ?_)
    obtain ⟨I29, J30, R31, L32⟩ := u28
    replace hP : va_P G.1 vwCl (Wm G g q I29 J30 R31 L32) H := hP
    replace hD : va_D A (Wm G g q I29 J30 R31 L32) := hD
    obtain ⟨hvI, hvR, tIr27, tRr27, F0r27⟩ := hwr27
    replace F0r27 : ((I29 0).toInt = (I23 0).toInt + 4) := F0r27
    replace hvI : InvI Wm_lo Wm_hi I29 := hvI
    replace hvR : InvR Wm_rl R31 := hvR
    replace tIr27 : SmF ([0] : List Nat) I23 I29 := tIr27
    replace tRr27 : SmF ([0] : List Nat) R25 R31 := tRr27
    have hv_I29 := hvI
    have hsI := smF_tr hsI tIr27 (by decide)
    have hsR := smF_tr hsR tRr27 (by decide)
    refine lv_aload_n hx hb dX12_feed_46 rfl (lv_at hl 0 rfl) ?_
    refine g_get F hK hP 0 (Wm_at0 G g q I29 J30 R31 L32) clX12 1 (by decide) flX12_13 rfl dX12_feed_47 ?_
    have w_I29_0 := rg (hv_I29 0 (by decide)) (0) (1800) rfl rfl
    rw [hQ]
    exact q_i F hr hlk (I29, J30, R31, L32) hP hD hS ⟨hvI, hvR, hsI, hsR, (show ((-1 : Int) ≤ (I29 0).toInt ∧ (I29 0).toInt ≤ (1800 : Int)) from by omega)⟩ dX12_feed_50 (Nat.le_of_ble_eq_true rfl) (Nat.le_of_ble_eq_true rfl)
  · have gc2 : ¬ (x1.toInt ≤ 1800) := fun q0 => c2 ((tle _ _).mpr q0)
    refine lv_aload_n hx hb dX12_feed_13 rfl (lv_at hl 0 rfl) ?_
    refine lv_iconst (v := 0) hx hb dX12_feed_14 (by decide) ?_
    refine wvi (As := [.int 0]) (rest := []) (b := (g 45)) (d := 1) F hK hP hD hS hA (s_X12_refuses l G g q I0 J0 R0 L0 hvI hvR  0 (by decide)) kmV_X12_refuses mlX12_225 clX12 rfl 0 (Wm_at0 G g q I0 J0 R0 L0) ⟨(Nat.le_of_ble_eq_true rfl), (Nat.le_of_ble_eq_true rfl)⟩ hl.1 rfl (Nat.le_of_ble_eq_true rfl) dX12_feed_15 (fun r33 u34 H locs hwr33 hP hD hS => ?_)
    obtain ⟨I35, J36, R37, L38⟩ := u34
    replace hP : va_P G.1 vwCl (Wm G g q I35 J36 R37 L38) H := hP
    replace hD : va_D A (Wm G g q I35 J36 R37 L38) := hD
    obtain ⟨hvI, hvR, tIr33, tRr33, F0r33⟩ := hwr33
    replace F0r33 : ((-1 : Int) ≤ r33.toInt ∧ r33.toInt ≤ (-1 : Int)) := F0r33
    replace hvI : InvI Wm_lo Wm_hi I35 := hvI
    replace hvR : InvR Wm_rl R37 := hvR
    replace tIr33 : SmF ([] : List Nat) I0 I35 := tIr33
    replace tRr33 : SmF ([34] : List Nat) R0 R37 := tRr33
    have hv_I35 := hvI
    have hsI := smF_tr hsI tIr33 (by decide)
    have hsR := smF_tr hsR tRr33 (by decide)
    rw [hQ]
    exact q_i F hr hlk (I35, J36, R37, L38) hP hD hS ⟨hvI, hvR, hsI, hsR, (show ((-1 : Int) ≤ r33.toInt ∧ r33.toInt ≤ (1800 : Int)) from by omega)⟩ dX12_feed_18 (Nat.le_of_ble_eq_true rfl) (Nat.le_of_ble_eq_true rfl)
set_option maxHeartbeats 4000000 in
set_option maxRecDepth 100000 in
theorem s_X12_sought (l : Launch) (G : Gx) (g q : Nat → Nat) (I0 : Nat → Int32) (J0 : Nat → Int64) (R0 : Nat → Nat → Int32) (L0 : Nat → Nat → Int64) (hvI : InvI Wm_lo Wm_hi I0) (hvR : InvR Wm_rl R0)  (p1 : Int32)  : CtI (S := St) l yX12_sought cX12_sought 6 (some .int) (rmD 4 0 0) G [.ref (g 45), .int p1] (Wm G g q I0 J0 R0 L0) (fun r u => InvI Wm_lo Wm_hi u.1 ∧ InvR Wm_rl u.2.2.1 ∧ SmF ([20] : List Nat) I0 u.1 ∧ SmF ([37] : List Nat) R0 u.2.2.1 ∧ ((-2 : Int) ≤ r.toInt ∧ r.toInt ≤ (1 : Int))) (fun u => Wm G g q u.1 u.2.1 u.2.2.1 u.2.2.2) := by
  refine ctI_of (own := RX12) (by decide +kernel) rfl (Nat.le_of_ble_eq_true rfl) ?_
  intro p e s m below meth c A ls F hr hlk hnm hK hP hD hA hS hl
  have hx := F.1
  have hb := F.2.1
  have hown := F.2.2.2.1
  have hl : lv_has ls 6 [(0, .ref (g 45)), (1, .int p1)] := hl
  obtain ⟨Q, hQ⟩ : ∃ Q : State → Prop, Q = MQ below (va_Qi (S := St) (fun r u => InvI Wm_lo Wm_hi u.1 ∧ InvR Wm_rl u.2.2.1 ∧ SmF ([20] : List Nat) I0 u.1 ∧ SmF ([37] : List Nat) R0 u.2.2.1 ∧ ((-2 : Int) ≤ r.toInt ∧ r.toInt ≤ (1 : Int))) (BX G A (fun u => Wm G g q u.1 u.2.1 u.2.2.1 u.2.2.2)) A) [.ref (g 45), .int p1].toArray s 0 0 A := ⟨_, rfl⟩
  rw [show (MQ below (va_Qi (S := St) (fun r u => InvI Wm_lo Wm_hi u.1 ∧ InvR Wm_rl u.2.2.1 ∧ SmF ([20] : List Nat) I0 u.1 ∧ SmF ([37] : List Nat) R0 u.2.2.1 ∧ ((-2 : Int) ≤ r.toInt ∧ r.toInt ≤ (1 : Int))) (BX G A (fun u => Wm G g q u.1 u.2.1 u.2.2.1 u.2.2.2)) A) [.ref (g 45), .int p1].toArray s (rmD 4 0 0).cells (rmD 4 0 0).slots A) = Q from hQ.symm]
  have hsI := smF_rf ([20] : List Nat) I0
  have hsR := smF_rf ([37] : List Nat) R0
  have hvI0 := hvI
  have lab_157 : ∀ (a3_157 : Int32) (I_157 : Nat → Int32) (J_157 : Nat → Int64) (R_157 : Nat → Nat → Int32) (L_157 : Nat → Nat → Int64) (H : Heap) (locs : List Loc) (ls : Array Slot), InvI Wm_lo Wm_hi I_157 → InvR Wm_rl R_157 → SmF ([20] : List Nat) I0 I_157 → SmF ([37] : List Nat) R0 R_157 → ((-1 : Int) ≤ a3_157.toInt ∧ a3_157.toInt ≤ (12 : Int)) → va_P G.1 vwCl (Wm G g q I_157 J_157 R_157 L_157) H → va_D A (Wm G g q I_157 J_157 R_157 L_157) → va_S A s.heap H locs → lv_has ls 6 [(3, .int a3_157)] → W p l e (rmD 4 0 0) s m [.ref (g 45), .int p1].toArray below meth c H locs 0 0 Q (F0 m 157 ls []) := by
    intro a3_157 I_157 J_157 R_157 L_157 H locs ls hvI hvR hsI hsR y0_157 hP hD hS hl
    have hv_I_157 := hvI
    have w_I_157_20 := rg (hvI 20 (by decide)) (0) (20000) rfl rfl
    refine lv_iload_n hx hb dX12_sought_157 rfl (lv_at hl 0 rfl) ?_
    refine lv_if_ge (tgt := 165) hx hb dX12_sought_158 (by decide) (fun c1 => ?_) (fun c1 => ?_)
    · have gc1 : 0 ≤ a3_157.toInt := (tle _ _).mp c1
      refine lv_iconst (v := 1) hx hb dX12_sought_165 (by decide) ?_
      rw [hQ]
      exact q_i F hr hlk (I_157, J_157, R_157, L_157) hP hD hS ⟨hvI, hvR, hsI, hsR, (show ((-2 : Int) ≤ 1 ∧ 1 ≤ (1 : Int)) from by omega)⟩ dX12_sought_166 (Nat.le_of_ble_eq_true rfl) (Nat.le_of_ble_eq_true rfl)
    · have gc1 : ¬ (0 ≤ a3_157.toInt) := fun q0 => c1 ((tle _ _).mpr q0)
      refine lv_iconst (v := 0) hx hb dX12_sought_161 (by decide) ?_
      refine lv_goto (tgt := 166) hx hb dX12_sought_162 (by decide) ?_
      rw [hQ]
      exact q_i F hr hlk (I_157, J_157, R_157, L_157) hP hD hS ⟨hvI, hvR, hsI, hsR, (show ((-2 : Int) ≤ 0 ∧ 0 ≤ (1 : Int)) from by omega)⟩ dX12_sought_166 (Nat.le_of_ble_eq_true rfl) (Nat.le_of_ble_eq_true rfl)
  have lab_24 : ∀ (k_24 : Nat) (a2_24 : Int32) (a3_24 : Int32) (I_24 : Nat → Int32) (J_24 : Nat → Int64) (R_24 : Nat → Nat → Int32) (L_24 : Nat → Nat → Int64) (H : Heap) (locs : List Loc) (ls : Array Slot), ((2 * (20000 - (I_24 20).toInt) + a3_24.toInt + 1) < (k_24 : Int)) → InvI Wm_lo Wm_hi I_24 → InvR Wm_rl R_24 → SmF ([20] : List Nat) I0 I_24 → SmF ([37] : List Nat) R0 R_24 → ((0 : Int) ≤ a2_24.toInt ∧ a2_24.toInt ≤ (12 : Int)) → ((-1 : Int) ≤ a3_24.toInt ∧ a3_24.toInt ≤ (12 : Int)) → va_P G.1 vwCl (Wm G g q I_24 J_24 R_24 L_24) H → va_D A (Wm G g q I_24 J_24 R_24 L_24) → va_S A s.heap H locs → lv_has ls 6 [(0, .ref (g 45)), (1, .int p1), (2, .int a2_24), (3, .int a3_24)] → W p l e (rmD 4 0 0) s m [.ref (g 45), .int p1].toArray below meth c H locs 0 0 Q (F0 m 24 ls []) := by
    intro k_24
    induction k_24 with
    | zero =>
      intro a2_24 a3_24 I_24 J_24 R_24 L_24 H locs ls hm hvI hvR hsI hsR y0_24 y1_24 hP hD hS hl
      have hv_I_24 := hvI
      have w_I_24_20 := rg (hvI 20 (by decide)) (0) (20000) rfl rfl
      exact absurd hm (by omega)
    | succ k_24 ih_24 =>
      intro a2_24 a3_24 I_24 J_24 R_24 L_24 H locs ls hm hvI hvR hsI hsR y0_24 y1_24 hP hD hS hl
      have hv_I_24 := hvI
      have w_I_24_20 := rg (hvI 20 (by decide)) (0) (20000) rfl rfl
      have lab_154 : ∀ (a3_154 : Int32) (I_154 : Nat → Int32) (J_154 : Nat → Int64) (R_154 : Nat → Nat → Int32) (L_154 : Nat → Nat → Int64) (H : Heap) (locs : List Loc) (ls : Array Slot), InvI Wm_lo Wm_hi I_154 → InvR Wm_rl R_154 → SmF ([20] : List Nat) I0 I_154 → SmF ([37] : List Nat) R0 R_154 → ((1 : Int) ≤ a2_24.toInt ∧ a2_24.toInt ≤ (12 : Int)) → ((-1 : Int) ≤ a3_154.toInt ∧ a3_154.toInt ≤ (12 : Int)) → (2 * (20000 - (I_154 20).toInt) + a3_154.toInt < 2 * (20000 - (I_24 20).toInt) + a3_24.toInt) → va_P G.1 vwCl (Wm G g q I_154 J_154 R_154 L_154) H → va_D A (Wm G g q I_154 J_154 R_154 L_154) → va_S A s.heap H locs → lv_has ls 6 [(0, .ref (g 45)), (1, .int p1), (2, .int a2_24), (3, .int a3_154)] → W p l e (rmD 4 0 0) s m [.ref (g 45), .int p1].toArray below meth c H locs 0 0 Q (F0 m 154 ls []) := by
        intro a3_154 I_154 J_154 R_154 L_154 H locs ls hvI hvR hsI hsR y0_154 y1_154 z0_154 hP hD hS hl
        have hv_I_154 := hvI
        have w_I_154_20 := rg (hvI 20 (by decide)) (0) (20000) rfl rfl
        refine lv_goto (tgt := 24) hx hb dX12_sought_154 (by decide) ?_
        exact ih_24 a2_24 a3_154 I_154 J_154 R_154 L_154 _ _ _ (show (2 * (20000 - (I_154 20).toInt) + a3_154.toInt + 1) < (k_24 : Int) from by omega) hvI hvR hsI hsR (show ((0 : Int) ≤ a2_24.toInt ∧ a2_24.toInt ≤ (12 : Int)) from by omega) (show ((-1 : Int) ≤ a3_154.toInt ∧ a3_154.toInt ≤ (12 : Int)) from by omega) hP hD hS (lv_sub hl [0, 1, 2, 3] rfl)
      have lab_125 : ∀ (a5_125 : Int32) (I_125 : Nat → Int32) (J_125 : Nat → Int64) (R_125 : Nat → Nat → Int32) (L_125 : Nat → Nat → Int64) (H : Heap) (locs : List Loc) (ls : Array Slot), InvI Wm_lo Wm_hi I_125 → InvR Wm_rl R_125 → SmF ([20] : List Nat) I0 I_125 → SmF ([37] : List Nat) R0 R_125 → ((1 : Int) ≤ a2_24.toInt ∧ a2_24.toInt ≤ (12 : Int)) → ((0 : Int) ≤ a3_24.toInt ∧ a3_24.toInt ≤ (11 : Int)) → ((0 : Int) ≤ a5_125.toInt ∧ a5_125.toInt ≤ (1 : Int)) → ((I_24 20).toInt + a5_125.toInt ≤ (I_125 20).toInt) → va_P G.1 vwCl (Wm G g q I_125 J_125 R_125 L_125) H → va_D A (Wm G g q I_125 J_125 R_125 L_125) → va_S A s.heap H locs → lv_has ls 6 [(0, .ref (g 45)), (1, .int p1), (2, .int a2_24), (3, .int a3_24), (5, .int a5_125)] → W p l e (rmD 4 0 0) s m [.ref (g 45), .int p1].toArray below meth c H locs 0 0 Q (F0 m 125 ls []) := by
        intro a5_125 I_125 J_125 R_125 L_125 H locs ls hvI hvR hsI hsR y0_125 y1_125 y2_125 z0_125 hP hD hS hl
        have hv_I_125 := hvI
        have w_I_125_20 := rg (hvI 20 (by decide)) (0) (20000) rfl rfl
        refine lv_iload hx hb dX12_sought_125 (lv_at hl 4 rfl) ?_
        refine lv_if_eq (tgt := 143) hx hb dX12_sought_127 (by decide) (fun c2 => ?_) (fun c2 => ?_)
        · have gc2 : a5_125.toInt = 0 := congrArg Int32.toInt c2
          refine lv_aload_n hx hb dX12_sought_143 rfl (lv_at hl 0 rfl) ?_
          refine g_get F hK hP 0 (Wm_at0 G g q I_125 J_125 R_125 L_125) clX12 63 (by decide) flX12_204 rfl dX12_sought_144 ?_
          refine lv_iload_n hx hb dX12_sought_147 rfl (lv_at hl 3 rfl) ?_
          refine lv_bipush (v := 32) hx hb dX12_sought_148 (by decide) ?_
          refine p_row (W1 := fun y => Wm G g q I_125 J_125 y L_125) (n := 37) F hK hP hD hS 42 (Wm_at42 G g q I_125 J_125 R_125 L_125) (in_of (by omega)) dX12_sought_150 (Wm_rowR37 G g q I_125 J_125 R_125 L_125) (fun R3 H locs eR3 hP hD hS => ?_)
          have hvR : InvR Wm_rl R3 := inv_upR hvR 37 eR3 (upd_in (hvR 37 (by decide)) (by decide))
          have hsR := smF_up hsR eR3 (by decide)
          obtain ⟨x4, ex4⟩ : ∃ y : Int32, y = a3_24 + (-1) := ⟨_, rfl⟩
          have fx4 : x4.toInt = a3_24.toInt + (-1 : Int) := by rw [ex4]; exact t_add (by show (-2147483648 : Int) ≤ a3_24.toInt + (-1 : Int); omega) (by show a3_24.toInt + (-1 : Int) ≤ 2147483647; omega)
          refine lv_iinc (v := x4) (lv' := [(3, .int x4), (0, .ref (g 45)), (1, .int p1), (2, .int a2_24), (5, .int a5_125)]) hx hb dX12_sought_151 hl (k := 3) rfl (by rw [ex4]; rfl) (by decide) rfl (fun ls hl => ?_)
          exact lab_154 x4 I_125 J_125 R3 L_125 _ _ _ hvI hvR hsI hsR (show ((1 : Int) ≤ a2_24.toInt ∧ a2_24.toInt ≤ (12 : Int)) from by omega) (show ((-1 : Int) ≤ x4.toInt ∧ x4.toInt ≤ (12 : Int)) from by omega) (show (2 * (20000 - (I_125 20).toInt) + x4.toInt < 2 * (20000 - (I_24 20).toInt) + a3_24.toInt) from by omega) hP hD hS (lv_sub hl [1, 2, 3, 0] rfl)
        · have gc2 : ¬ (a5_125.toInt = 0) := fun q0 => c2 (Int32.toInt_inj.mp q0)
          obtain ⟨x5, ex5⟩ : ∃ y : Int32, y = a3_24 + 1 := ⟨_, rfl⟩
          have fx5 : x5.toInt = a3_24.toInt + (1 : Int) := by rw [ex5]; exact t_add (by show (-2147483648 : Int) ≤ a3_24.toInt + (1 : Int); omega) (by show a3_24.toInt + (1 : Int) ≤ 2147483647; omega)
          refine lv_iinc (v := x5) (lv' := [(3, .int x5), (0, .ref (g 45)), (1, .int p1), (2, .int a2_24), (5, .int a5_125)]) hx hb dX12_sought_130 hl (k := 3) rfl (by rw [ex5]; rfl) (by decide) rfl (fun ls hl => ?_)
          refine lv_aload_n hx hb dX12_sought_133 rfl (lv_at hl 1 rfl) ?_
          refine g_get F hK hP 0 (Wm_at0 G g q I_125 J_125 R_125 L_125) clX12 63 (by decide) flX12_204 rfl dX12_sought_134 ?_
          refine lv_iload_n hx hb dX12_sought_137 rfl (lv_at hl 0 rfl) ?_
          refine lv_iconst (v := (-1)) hx hb dX12_sought_138 (by decide) ?_
          refine p_row (W1 := fun y => Wm G g q I_125 J_125 y L_125) (n := 37) F hK hP hD hS 42 (Wm_at42 G g q I_125 J_125 R_125 L_125) (in_of (by omega)) dX12_sought_139 (Wm_rowR37 G g q I_125 J_125 R_125 L_125) (fun R6 H locs eR6 hP hD hS => ?_)
          have hvR : InvR Wm_rl R6 := inv_upR hvR 37 eR6 (upd_in (hvR 37 (by decide)) (by decide))
          have hsR := smF_up hsR eR6 (by decide)
          refine lv_goto (tgt := 154) hx hb dX12_sought_140 (by decide) ?_
          exact lab_154 x5 I_125 J_125 R6 L_125 _ _ _ hvI hvR hsI hsR (show ((1 : Int) ≤ a2_24.toInt ∧ a2_24.toInt ≤ (12 : Int)) from by omega) (show ((-1 : Int) ≤ x5.toInt ∧ x5.toInt ≤ (12 : Int)) from by omega) (show (2 * (20000 - (I_125 20).toInt) + x5.toInt < 2 * (20000 - (I_24 20).toInt) + a3_24.toInt) from by omega) hP hD hS (lv_sub hl [1, 2, 3, 0] rfl)
      have lab_46 : ∀ (k_46 : Nat) (a4_46 : Int32) (a5_46 : Int32) (I_46 : Nat → Int32) (J_46 : Nat → Int64) (R_46 : Nat → Nat → Int32) (L_46 : Nat → Nat → Int64) (H : Heap) (locs : List Loc) (ls : Array Slot), ((2 * (33 - a4_46.toInt) + 1 - a5_46.toInt) < (k_46 : Int)) → InvI Wm_lo Wm_hi I_46 → InvR Wm_rl R_46 → SmF ([20] : List Nat) I0 I_46 → SmF ([37] : List Nat) R0 R_46 → ((1 : Int) ≤ a2_24.toInt ∧ a2_24.toInt ≤ (12 : Int)) → ((0 : Int) ≤ a3_24.toInt ∧ a3_24.toInt ≤ (11 : Int)) → ((0 : Int) ≤ a4_46.toInt ∧ a4_46.toInt ≤ (33 : Int)) → ((0 : Int) ≤ a5_46.toInt ∧ a5_46.toInt ≤ (1 : Int)) → ((I_24 20).toInt + a5_46.toInt ≤ (I_46 20).toInt) → va_P G.1 vwCl (Wm G g q I_46 J_46 R_46 L_46) H → va_D A (Wm G g q I_46 J_46 R_46 L_46) → va_S A s.heap H locs → lv_has ls 6 [(0, .ref (g 45)), (1, .int p1), (2, .int a2_24), (3, .int a3_24), (4, .int a4_46), (5, .int a5_46)] → W p l e (rmD 4 0 0) s m [.ref (g 45), .int p1].toArray below meth c H locs 0 0 Q (F0 m 46 ls []) := by
        intro k_46
        induction k_46 with
        | zero =>
          intro a4_46 a5_46 I_46 J_46 R_46 L_46 H locs ls hm hvI hvR hsI hsR y0_46 y1_46 y2_46 y3_46 z0_46 hP hD hS hl
          have hv_I_46 := hvI
          have w_I_46_20 := rg (hvI 20 (by decide)) (0) (20000) rfl rfl
          exact absurd hm (by omega)
        | succ k_46 ih_46 =>
          intro a4_46 a5_46 I_46 J_46 R_46 L_46 H locs ls hm hvI hvR hsI hsR y0_46 y1_46 y2_46 y3_46 z0_46 hP hD hS hl
          have hv_I_46 := hvI
          have w_I_46_20 := rg (hvI 20 (by decide)) (0) (20000) rfl rfl
          have lab_119 : ∀ (a5_119 : Int32) (b0_119 : Int32) (b1_119 : Int32) (I_119 : Nat → Int32) (J_119 : Nat → Int64) (R_119 : Nat → Nat → Int32) (L_119 : Nat → Nat → Int64) (H : Heap) (locs : List Loc) (ls : Array Slot), InvI Wm_lo Wm_hi I_119 → InvR Wm_rl R_119 → SmF ([20] : List Nat) I0 I_119 → SmF ([37] : List Nat) R0 R_119 → ((0 : Int) ≤ a5_119.toInt ∧ a5_119.toInt ≤ (1 : Int)) → ((0 : Int) ≤ b0_119.toInt ∧ b0_119.toInt ≤ (1 : Int)) → ((0 : Int) ≤ b1_119.toInt ∧ b1_119.toInt ≤ (31 : Int)) → ((I_24 20).toInt + a5_119.toInt ≤ (I_119 20).toInt) → (a5_46.toInt = 0) → (b1_119.toInt = a4_46.toInt) → ((b0_119.toInt = 0 ∧ a5_119.toInt = 1) ∨ (b0_119.toInt = 1 ∧ a5_119.toInt = 0)) → va_P G.1 vwCl (Wm G g q I_119 J_119 R_119 L_119) H → va_D A (Wm G g q I_119 J_119 R_119 L_119) → va_S A s.heap H locs → lv_has ls 6 [(0, .ref (g 45)), (1, .int p1), (2, .int a2_24), (3, .int a3_24), (5, .int a5_119)] → W p l e (rmD 4 0 0) s m [.ref (g 45), .int p1].toArray below meth c H locs 0 0 Q (F0 m 119 ls [.int b0_119, .int b1_119]) := by
            intro a5_119 b0_119 b1_119 I_119 J_119 R_119 L_119 H locs ls hvI hvR hsI hsR y0_119 y1_119 y2_119 z0_119 z1_119 z2_119 z3_119 hP hD hS hl
            have hv_I_119 := hvI
            have w_I_119_20 := rg (hvI 20 (by decide)) (0) (20000) rfl rfl
            refine lv_iadd hx hb dX12_sought_119 ?_
            refine lv_topi (fun x7 ex7 => ?_)
            have fx7 : x7.toInt = b1_119.toInt + b0_119.toInt := by rw [ex7]; exact t_add (by show (-2147483648 : Int) ≤ b1_119.toInt + b0_119.toInt; omega) (by show b1_119.toInt + b0_119.toInt ≤ 2147483647; omega)
            refine lv_istore (lv' := [(4, .int x7), (0, .ref (g 45)), (1, .int p1), (2, .int a2_24), (3, .int a3_24), (5, .int a5_119)]) hx hb dX12_sought_120 hl (by decide) rfl (fun ls hl => ?_)
            refine lv_goto (tgt := 46) hx hb dX12_sought_122 (by decide) ?_
            exact ih_46 x7 a5_119 I_119 J_119 R_119 L_119 _ _ _ (show (2 * (33 - x7.toInt) + 1 - a5_119.toInt) < (k_46 : Int) from by omega) hvI hvR hsI hsR (show ((1 : Int) ≤ a2_24.toInt ∧ a2_24.toInt ≤ (12 : Int)) from by omega) (show ((0 : Int) ≤ a3_24.toInt ∧ a3_24.toInt ≤ (11 : Int)) from by omega) (show ((0 : Int) ≤ x7.toInt ∧ x7.toInt ≤ (33 : Int)) from by omega) (show ((0 : Int) ≤ a5_119.toInt ∧ a5_119.toInt ≤ (1 : Int)) from by omega) (show ((I_24 20).toInt + a5_119.toInt ≤ (I_119 20).toInt) from by omega) hP hD hS (lv_sub hl [1, 2, 3, 4, 0, 5] rfl)
          have lab_107 : ∀ (a5_107 : Int32) (I_107 : Nat → Int32) (J_107 : Nat → Int64) (R_107 : Nat → Nat → Int32) (L_107 : Nat → Nat → Int64) (H : Heap) (locs : List Loc) (ls : Array Slot), InvI Wm_lo Wm_hi I_107 → InvR Wm_rl R_107 → SmF ([20] : List Nat) I0 I_107 → SmF ([37] : List Nat) R0 R_107 → ((0 : Int) ≤ a4_46.toInt ∧ a4_46.toInt ≤ (31 : Int)) → ((0 : Int) ≤ a5_107.toInt ∧ a5_107.toInt ≤ (1 : Int)) → ((I_24 20).toInt + a5_107.toInt ≤ (I_107 20).toInt) → (a5_46.toInt = 0) → (a4_46.toInt ≤ 31) → va_P G.1 vwCl (Wm G g q I_107 J_107 R_107 L_107) H → va_D A (Wm G g q I_107 J_107 R_107 L_107) → va_S A s.heap H locs → lv_has ls 6 [(0, .ref (g 45)), (1, .int p1), (2, .int a2_24), (3, .int a3_24), (4, .int a4_46), (5, .int a5_107)] → W p l e (rmD 4 0 0) s m [.ref (g 45), .int p1].toArray below meth c H locs 0 0 Q (F0 m 107 ls []) := by
            intro a5_107 I_107 J_107 R_107 L_107 H locs ls hvI hvR hsI hsR y0_107 y1_107 z0_107 z1_107 z2_107 hP hD hS hl
            have hv_I_107 := hvI
            have w_I_107_20 := rg (hvI 20 (by decide)) (0) (20000) rfl rfl
            refine lv_iload hx hb dX12_sought_107 (lv_at hl 4 rfl) ?_
            refine lv_iload hx hb dX12_sought_109 (lv_at hl 5 rfl) ?_
            refine lv_if_eq (tgt := 118) hx hb dX12_sought_111 (by decide) (fun c8 => ?_) (fun c8 => ?_)
            · have gc8 : a5_107.toInt = 0 := congrArg Int32.toInt c8
              refine lv_iconst (v := 1) hx hb dX12_sought_118 (by decide) ?_
              exact lab_119 a5_107 1 a4_46 I_107 J_107 R_107 L_107 _ _ _ hvI hvR hsI hsR (show ((0 : Int) ≤ a5_107.toInt ∧ a5_107.toInt ≤ (1 : Int)) from by omega) (by decide) (show ((0 : Int) ≤ a4_46.toInt ∧ a4_46.toInt ≤ (31 : Int)) from by omega) (show ((I_24 20).toInt + a5_107.toInt ≤ (I_107 20).toInt) from by omega) (show (a5_46.toInt = 0) from by omega) (show (a4_46.toInt = a4_46.toInt) from by omega) (show ((1 = 0 ∧ a5_107.toInt = 1) ∨ (1 = 1 ∧ a5_107.toInt = 0)) from by omega) hP hD hS (lv_sub hl [0, 1, 2, 3, 5] rfl)
            · have gc8 : ¬ (a5_107.toInt = 0) := fun q0 => c8 (Int32.toInt_inj.mp q0)
              refine lv_iconst (v := 0) hx hb dX12_sought_114 (by decide) ?_
              refine lv_goto (tgt := 119) hx hb dX12_sought_115 (by decide) ?_
              exact lab_119 a5_107 0 a4_46 I_107 J_107 R_107 L_107 _ _ _ hvI hvR hsI hsR (show ((0 : Int) ≤ a5_107.toInt ∧ a5_107.toInt ≤ (1 : Int)) from by omega) (by decide) (show ((0 : Int) ≤ a4_46.toInt ∧ a4_46.toInt ≤ (31 : Int)) from by omega) (show ((I_24 20).toInt + a5_107.toInt ≤ (I_107 20).toInt) from by omega) (show (a5_46.toInt = 0) from by omega) (show (a4_46.toInt = a4_46.toInt) from by omega) (show ((0 = 0 ∧ a5_107.toInt = 1) ∨ (0 = 1 ∧ a5_107.toInt = 0)) from by omega) hP hD hS (lv_sub hl [0, 1, 2, 3, 5] rfl)
          refine lv_iload hx hb dX12_sought_46 (lv_at hl 4 rfl) ?_
          refine lv_bipush (v := 32) hx hb dX12_sought_48 (by decide) ?_
          refine lv_icmp_ge (tgt := 125) hx hb dX12_sought_50 (by decide) (fun c9 => ?_) (fun c9 => ?_)
          · have gc9 : 32 ≤ a4_46.toInt := (tle _ _).mp c9
            exact lab_125 a5_46 I_46 J_46 R_46 L_46 _ _ _ hvI hvR hsI hsR (show ((1 : Int) ≤ a2_24.toInt ∧ a2_24.toInt ≤ (12 : Int)) from by omega) (show ((0 : Int) ≤ a3_24.toInt ∧ a3_24.toInt ≤ (11 : Int)) from by omega) (show ((0 : Int) ≤ a5_46.toInt ∧ a5_46.toInt ≤ (1 : Int)) from by omega) (show ((I_24 20).toInt + a5_46.toInt ≤ (I_46 20).toInt) from by omega) hP hD hS (lv_sub hl [0, 1, 2, 3, 5] rfl)
          · have gc9 : ¬ (32 ≤ a4_46.toInt) := fun q0 => c9 ((tle _ _).mpr q0)
            refine lv_iload hx hb dX12_sought_53 (lv_at hl 5 rfl) ?_
            refine lv_if_ne (tgt := 125) hx hb dX12_sought_55 (by decide) (fun c10 => ?_) (fun c10 => ?_)
            · have gc10 : ¬ (a5_46.toInt = 0) := fun q0 => c10 (Int32.toInt_inj.mp q0)
              exact lab_125 a5_46 I_46 J_46 R_46 L_46 _ _ _ hvI hvR hsI hsR (show ((1 : Int) ≤ a2_24.toInt ∧ a2_24.toInt ≤ (12 : Int)) from by omega) (show ((0 : Int) ≤ a3_24.toInt ∧ a3_24.toInt ≤ (11 : Int)) from by omega) (show ((0 : Int) ≤ a5_46.toInt ∧ a5_46.toInt ≤ (1 : Int)) from by omega) (show ((I_24 20).toInt + a5_46.toInt ≤ (I_46 20).toInt) from by omega) hP hD hS (lv_sub hl [0, 1, 2, 3, 5] rfl)
            · have gc10 : a5_46.toInt = 0 := congrArg Int32.toInt c10
              refine lv_aload_n hx hb dX12_sought_58 rfl (lv_at hl 0 rfl) ?_
              refine lv_iload_n hx hb dX12_sought_59 rfl (lv_at hl 3 rfl) ?_
              refine lv_iload hx hb dX12_sought_60 (lv_at hl 4 rfl) ?_
              refine wvi (As := [.int a3_24, .int a4_46]) (rest := []) (b := (g 45)) (d := 2) F hK hP hD hS hA (s_X12_suits l G g q I_46 J_46 R_46 L_46 hvI hvR  a3_24 a4_46 (show ((0 : Int) ≤ a3_24.toInt ∧ a3_24.toInt ≤ (11 : Int)) from by omega)) kmV_X12_suits mlX12_472 clX12 rfl 0 (Wm_at0 G g q I_46 J_46 R_46 L_46) ⟨(Nat.le_of_ble_eq_true rfl), (Nat.le_of_ble_eq_true rfl)⟩ hl.1 rfl (Nat.le_of_ble_eq_true rfl) dX12_sought_62 (fun r11 u12 H locs hwr11 hP hD hS => ?_)
              have F0r11 := hwr11
              replace F0r11 : ((0 : Int) ≤ r11.toInt ∧ r11.toInt ≤ (1 : Int)) := F0r11
              refine lv_if_eq (tgt := 107) hx hb dX12_sought_65 (by decide) (fun c13 => ?_) (fun c13 => ?_)
              · have gc13 : r11.toInt = 0 := congrArg Int32.toInt c13
                exact lab_107 a5_46 I_46 J_46 R_46 L_46 _ _ _ hvI hvR hsI hsR (show ((0 : Int) ≤ a4_46.toInt ∧ a4_46.toInt ≤ (31 : Int)) from by omega) (show ((0 : Int) ≤ a5_46.toInt ∧ a5_46.toInt ≤ (1 : Int)) from by omega) (show ((I_24 20).toInt + a5_46.toInt ≤ (I_46 20).toInt) from by omega) (show (a5_46.toInt = 0) from by omega) (show (a4_46.toInt ≤ 31) from by omega) hP hD hS (lv_sub hl [0, 1, 2, 3, 4, 5] rfl)
              · have gc13 : ¬ (r11.toInt = 0) := fun q0 => c13 (Int32.toInt_inj.mp q0)
                refine lv_aload_n hx hb dX12_sought_68 rfl (lv_at hl 0 rfl) ?_
                refine g_get F hK hP 0 (Wm_at0 G g q I_46 J_46 R_46 L_46) clX12 62 (by decide) flX12_201 rfl dX12_sought_69 ?_
                have w_I_46_20 := rg (hv_I_46 20 (by decide)) (0) (20000) rfl rfl
                refine lv_sipush (v := 20000) hx hb dX12_sought_72 (by decide) ?_
                refine lv_icmp_ne (tgt := 81) hx hb dX12_sought_75 (by decide) (fun c14 => ?_) (fun c14 => ?_)
                · have gc14 : ¬ ((I_46 20).toInt = 20000) := fun q0 => c14 (Int32.toInt_inj.mp q0)
                  refine lv_aload_n hx hb dX12_sought_81 rfl (lv_at hl 0 rfl) ?_
                  refine lv_dup hx hb dX12_sought_82 rfl ?_
                  refine g_get F hK hP 0 (Wm_at0 G g q I_46 J_46 R_46 L_46) clX12 62 (by decide) flX12_201 rfl dX12_sought_83 ?_
                  refine lv_iconst (v := 1) hx hb dX12_sought_86 (by decide) ?_
                  refine lv_iadd hx hb dX12_sought_87 ?_
                  refine lv_topi (fun x15 ex15 => ?_)
                  have fx15 : x15.toInt = (I_46 20).toInt + 1 := by rw [ex15]; exact t_add (by show (-2147483648 : Int) ≤ (I_46 20).toInt + 1; omega) (by show (I_46 20).toInt + 1 ≤ 2147483647; omega)
                  refine p_fld (W1 := fun y => Wm G g q y J_46 R_46 L_46) (n := 20) (v := x15) F hK hP hD hS 0 (Wm_at0 G g q I_46 J_46 R_46 L_46) clX12 62 (by decide) flX12_201 rfl rfl rfl (Nat.le_of_ble_eq_true rfl) dX12_sought_88 (Wm_setI20 G g q I_46 J_46 R_46 L_46 _) (fun I16 H locs eI16 hP hD hS => ?_)
                  have hvI : InvI Wm_lo Wm_hi I16 := inv_upI hvI 20 eI16 (show ((0 : Int) ≤ x15.toInt ∧ x15.toInt ≤ (20000 : Int)) from by omega)
                  have hsI := smF_up hsI eI16 (by decide)
                  have hv_I16 := hvI
                  have u_I16_20 : (I16 20).toInt = x15.toInt := by rw [eI16]; rfl
                  refine lv_aload_n hx hb dX12_sought_91 rfl (lv_at hl 0 rfl) ?_
                  refine g_get F hK hP 0 (Wm_at0 G g q I16 J_46 R_46 L_46) clX12 63 (by decide) flX12_204 rfl dX12_sought_92 ?_
                  refine lv_iload_n hx hb dX12_sought_95 rfl (lv_at hl 3 rfl) ?_
                  refine lv_iload hx hb dX12_sought_96 (lv_at hl 4 rfl) ?_
                  refine p_row (W1 := fun y => Wm G g q I16 J_46 y L_46) (n := 37) F hK hP hD hS 42 (Wm_at42 G g q I16 J_46 R_46 L_46) (in_of (by omega)) dX12_sought_98 (Wm_rowR37 G g q I16 J_46 R_46 L_46) (fun R17 H locs eR17 hP hD hS => ?_)
                  have hvR : InvR Wm_rl R17 := inv_upR hvR 37 eR17 (upd_in (hvR 37 (by decide)) (show ((-1 : Int) ≤ a4_46.toInt ∧ a4_46.toInt ≤ (32 : Int)) from by omega))
                  have hsR := smF_up hsR eR17 (by decide)
                  refine lv_aload_n hx hb dX12_sought_99 rfl (lv_at hl 0 rfl) ?_
                  refine lv_iload_n hx hb dX12_sought_100 rfl (lv_at hl 3 rfl) ?_
                  refine lv_iload_n hx hb dX12_sought_101 rfl (lv_at hl 1 rfl) ?_
                  refine wvi (As := [.int a3_24, .int p1]) (rest := []) (b := (g 45)) (d := 3) F hK hP hD hS hA (s_X12_may l G g q I16 J_46 R17 L_46 hvI hvR  a3_24 p1 (show ((0 : Int) ≤ a3_24.toInt ∧ a3_24.toInt ≤ (11 : Int)) from by omega)) kmV_X12_may mlX12_526 clX12 rfl 0 (Wm_at0 G g q I16 J_46 R17 L_46) ⟨(Nat.le_of_ble_eq_true rfl), (Nat.le_of_ble_eq_true rfl)⟩ hl.1 rfl (Nat.le_of_ble_eq_true rfl) dX12_sought_102 (fun r18 u19 H locs hwr18 hP hD hS => ?_)
                  have F0r18 := hwr18
                  replace F0r18 : ((0 : Int) ≤ r18.toInt ∧ r18.toInt ≤ (1 : Int)) := F0r18
                  refine lv_istore (lv' := [(5, .int r18), (0, .ref (g 45)), (1, .int p1), (2, .int a2_24), (3, .int a3_24), (4, .int a4_46)]) hx hb dX12_sought_105 hl (by decide) rfl (fun ls hl => ?_)
                  exact lab_107 r18 I16 J_46 R17 L_46 _ _ _ hvI hvR hsI hsR (show ((0 : Int) ≤ a4_46.toInt ∧ a4_46.toInt ≤ (31 : Int)) from by omega) (show ((0 : Int) ≤ r18.toInt ∧ r18.toInt ≤ (1 : Int)) from by omega) (show ((I_24 20).toInt + r18.toInt ≤ (I16 20).toInt) from by omega) (show (a5_46.toInt = 0) from by omega) (show (a4_46.toInt ≤ 31) from by omega) hP hD hS (lv_sub hl [1, 2, 3, 4, 5, 0] rfl)
                · have gc14 : (I_46 20).toInt = 20000 := congrArg Int32.toInt c14
                  refine lv_bipush (v := (-2)) hx hb dX12_sought_78 (by decide) ?_
                  rw [hQ]
                  exact q_i F hr hlk (I_46, J_46, R_46, L_46) hP hD hS ⟨hvI, hvR, hsI, hsR, (show ((-2 : Int) ≤ (-2) ∧ (-2) ≤ (1 : Int)) from by omega)⟩ dX12_sought_80 (Nat.le_of_ble_eq_true rfl) (Nat.le_of_ble_eq_true rfl)
      refine lv_iload_n hx hb dX12_sought_24 rfl (lv_at hl 3 rfl) ?_
      refine lv_if_lt (tgt := 157) hx hb dX12_sought_25 (by decide) (fun c20 => ?_) (fun c20 => ?_)
      · have gc20 : a3_24.toInt < 0 := (tlt _ _).mp c20
        exact lab_157 a3_24 I_24 J_24 R_24 L_24 _ _ _ hvI hvR hsI hsR (show ((-1 : Int) ≤ a3_24.toInt ∧ a3_24.toInt ≤ (12 : Int)) from by omega) hP hD hS (lv_sub hl [3] rfl)
      · have gc20 : ¬ (a3_24.toInt < 0) := fun q0 => c20 ((tlt _ _).mpr q0)
        refine lv_iload_n hx hb dX12_sought_28 rfl (lv_at hl 3 rfl) ?_
        refine lv_iload_n hx hb dX12_sought_29 rfl (lv_at hl 2 rfl) ?_
        refine lv_icmp_ge (tgt := 157) hx hb dX12_sought_30 (by decide) (fun c21 => ?_) (fun c21 => ?_)
        · have gc21 : a2_24.toInt ≤ a3_24.toInt := (tle _ _).mp c21
          exact lab_157 a3_24 I_24 J_24 R_24 L_24 _ _ _ hvI hvR hsI hsR (show ((-1 : Int) ≤ a3_24.toInt ∧ a3_24.toInt ≤ (12 : Int)) from by omega) hP hD hS (lv_sub hl [3] rfl)
        · have gc21 : ¬ (a2_24.toInt ≤ a3_24.toInt) := fun q0 => c21 ((tle _ _).mpr q0)
          refine lv_aload_n hx hb dX12_sought_33 rfl (lv_at hl 0 rfl) ?_
          refine g_get F hK hP 0 (Wm_at0 G g q I_24 J_24 R_24 L_24) clX12 63 (by decide) flX12_204 rfl dX12_sought_34 ?_
          refine lv_iload_n hx hb dX12_sought_37 rfl (lv_at hl 3 rfl) ?_
          refine g_iald F hK hP 42 (Wm_at42 G g q I_24 J_24 R_24 L_24) (in_of (by omega)) dX12_sought_38 rfl ?_
          refine lv_topi (fun x22 ex22 => ?_)
          have gx22 : x22.toInt = (R_24 37 (Int32.toNatClampNeg a3_24)).toInt := congrArg Int32.toInt (ex22)
          have fx22 : ((-1 : Int) ≤ x22.toInt ∧ x22.toInt ≤ (32 : Int)) := by rw [ex22]; exact hvR 37 (by decide) _ (clamp_lt (n := 13) (in_of (by omega)))
          refine lv_iconst (v := 1) hx hb dX12_sought_39 (by decide) ?_
          refine lv_iadd hx hb dX12_sought_40 ?_
          refine lv_topi (fun x23 ex23 => ?_)
          have fx23 : x23.toInt = x22.toInt + 1 := by rw [ex23]; exact t_add (by show (-2147483648 : Int) ≤ x22.toInt + 1; omega) (by show x22.toInt + 1 ≤ 2147483647; omega)
          refine lv_istore (lv' := [(4, .int x23), (0, .ref (g 45)), (1, .int p1), (2, .int a2_24), (3, .int a3_24)]) hx hb dX12_sought_41 hl (by decide) rfl (fun ls hl => ?_)
          refine lv_iconst (v := 0) hx hb dX12_sought_43 (by decide) ?_
          refine lv_istore (lv' := [(5, .int 0), (4, .int x23), (0, .ref (g 45)), (1, .int p1), (2, .int a2_24), (3, .int a3_24)]) hx hb dX12_sought_44 hl (by decide) rfl (fun ls hl => ?_)
          exact lab_46 80 x23 0 I_24 J_24 R_24 L_24 _ _ _ (show (2 * (33 - x23.toInt) + 1 - 0) < ((80 : Nat) : Int) from by omega) hvI hvR hsI hsR (show ((1 : Int) ≤ a2_24.toInt ∧ a2_24.toInt ≤ (12 : Int)) from by omega) (show ((0 : Int) ≤ a3_24.toInt ∧ a3_24.toInt ≤ (11 : Int)) from by omega) (show ((0 : Int) ≤ x23.toInt ∧ x23.toInt ≤ (33 : Int)) from by omega) (by decide) (show ((I_24 20).toInt + 0 ≤ (I_24 20).toInt) from by omega) hP hD hS (lv_sub hl [2, 3, 4, 5, 1, 0] rfl)
  have w_I0_20 := rg (hvI 20 (by decide)) (0) (20000) rfl rfl
  refine lv_aload_n hx hb dX12_sought_0 rfl (lv_at hl 0 rfl) ?_
  refine lv_iconst (v := 0) hx hb dX12_sought_1 (by decide) ?_
  refine p_fld (W1 := fun y => Wm G g q y J0 R0 L0) (n := 20) (v := 0) F hK hP hD hS 0 (Wm_at0 G g q I0 J0 R0 L0) clX12 62 (by decide) flX12_201 rfl rfl rfl (Nat.le_of_ble_eq_true rfl) dX12_sought_2 (Wm_setI20 G g q I0 J0 R0 L0 _) (fun I24 H locs eI24 hP hD hS => ?_)
  have hvI : InvI Wm_lo Wm_hi I24 := inv_upI hvI 20 eI24 (by decide)
  have hsI := smF_up hsI eI24 (by decide)
  have hv_I24 := hvI
  have u_I24_20 : (I24 20).toInt = 0 := by rw [eI24]; rfl
  refine lv_aload_n hx hb dX12_sought_5 rfl (lv_at hl 0 rfl) ?_
  refine g_get F hK hP 0 (Wm_at0 G g q I24 J0 R0 L0) clX12 21 (by decide) flX12_77 rfl dX12_sought_6 ?_
  refine lv_aload_n hx hb dX12_sought_9 rfl (lv_at hl 0 rfl) ?_
  refine g_get F hK hP 0 (Wm_at0 G g q I24 J0 R0 L0) clX12 12 (by decide) flX12_48 rfl dX12_sought_10 ?_
  refine cst_i (hsI 10 rfl) ?_
  have w_I0_10 := rg (hvI0 10 (by decide)) (0) (1) rfl rfl
  refine g_iald F hK hP 10 (Wm_at10 G g q I24 J0 R0 L0) (in_of (by omega)) dX12_sought_13 rfl ?_
  refine lv_topi (fun x25 ex25 => ?_)
  have gx25 : x25.toInt = (R0 7 (Int32.toNatClampNeg (I0 10))).toInt := congrArg Int32.toInt (ex25)
  have fx25 : ((0 : Int) ≤ x25.toInt ∧ x25.toInt ≤ (12 : Int)) := by rw [ex25]; exact hvR 7 (by decide) _ (clamp_lt (n := 2) (in_of (by omega)))
  refine lv_istore_n (lv' := [(2, .int x25), (0, .ref (g 45)), (1, .int p1)]) hx hb dX12_sought_14 rfl hl (by decide) rfl (fun ls hl => ?_)
  refine lv_iconst (v := 0) hx hb dX12_sought_15 (by decide) ?_
  refine lv_istore_n (lv' := [(3, .int 0), (2, .int x25), (0, .ref (g 45)), (1, .int p1)]) hx hb dX12_sought_16 rfl hl (by decide) rfl (fun ls hl => ?_)
  refine lv_aload_n hx hb dX12_sought_17 rfl (lv_at hl 2 rfl) ?_
  refine g_get F hK hP 0 (Wm_at0 G g q I24 J0 R0 L0) clX12 63 (by decide) flX12_204 rfl dX12_sought_18 ?_
  refine lv_iconst (v := 0) hx hb dX12_sought_21 (by decide) ?_
  refine lv_iconst (v := (-1)) hx hb dX12_sought_22 (by decide) ?_
  refine p_row (W1 := fun y => Wm G g q I24 J0 y L0) (n := 37) F hK hP hD hS 42 (Wm_at42 G g q I24 J0 R0 L0) (in_of (by decide)) dX12_sought_23 (Wm_rowR37 G g q I24 J0 R0 L0) (fun R26 H locs eR26 hP hD hS => ?_)
  have hvR : InvR Wm_rl R26 := inv_upR hvR 37 eR26 (upd_in (hvR 37 (by decide)) (by decide))
  have hsR := smF_up hsR eR26 (by decide)
  exact lab_24 40020 x25 0 I24 J0 R26 L0 _ _ _ (show (2 * (20000 - (I24 20).toInt) + 0 + 1) < ((40020 : Nat) : Int) from by omega) hvI hvR hsI hsR (show ((0 : Int) ≤ x25.toInt ∧ x25.toInt ≤ (12 : Int)) from by omega) (by decide) hP hD hS (lv_sub hl [2, 3, 1, 0] rfl)
set_option maxHeartbeats 4000000 in
set_option maxRecDepth 100000 in
theorem s_X12_fewest (l : Launch) (G : Gx) (g q : Nat → Nat) (I0 : Nat → Int32) (J0 : Nat → Int64) (R0 : Nat → Nat → Int32) (L0 : Nat → Nat → Int64) (hvI : InvI Wm_lo Wm_hi I0) (hvR : InvR Wm_rl R0)    : CtI (S := St) l yX12_fewest cX12_fewest 3 (some .int) (rmD 5 0 0) G [.ref (g 45)] (Wm G g q I0 J0 R0 L0) (fun r u => InvI Wm_lo Wm_hi u.1 ∧ InvR Wm_rl u.2.2.1 ∧ SmF ([20] : List Nat) I0 u.1 ∧ SmF ([37] : List Nat) R0 u.2.2.1 ∧ ((-2 : Int) ≤ r.toInt ∧ r.toInt ≤ (20 : Int))) (fun u => Wm G g q u.1 u.2.1 u.2.2.1 u.2.2.2) := by
  refine ctI_of (own := RX12) (by decide +kernel) rfl (Nat.le_of_ble_eq_true rfl) ?_
  intro p e s m below meth c A ls F hr hlk hnm hK hP hD hA hS hl
  have hx := F.1
  have hb := F.2.1
  have hown := F.2.2.2.1
  have hl : lv_has ls 3 [(0, .ref (g 45))] := hl
  obtain ⟨Q, hQ⟩ : ∃ Q : State → Prop, Q = MQ below (va_Qi (S := St) (fun r u => InvI Wm_lo Wm_hi u.1 ∧ InvR Wm_rl u.2.2.1 ∧ SmF ([20] : List Nat) I0 u.1 ∧ SmF ([37] : List Nat) R0 u.2.2.1 ∧ ((-2 : Int) ≤ r.toInt ∧ r.toInt ≤ (20 : Int))) (BX G A (fun u => Wm G g q u.1 u.2.1 u.2.2.1 u.2.2.2)) A) [.ref (g 45)].toArray s 0 0 A := ⟨_, rfl⟩
  rw [show (MQ below (va_Qi (S := St) (fun r u => InvI Wm_lo Wm_hi u.1 ∧ InvR Wm_rl u.2.2.1 ∧ SmF ([20] : List Nat) I0 u.1 ∧ SmF ([37] : List Nat) R0 u.2.2.1 ∧ ((-2 : Int) ≤ r.toInt ∧ r.toInt ≤ (20 : Int))) (BX G A (fun u => Wm G g q u.1 u.2.1 u.2.2.1 u.2.2.2)) A) [.ref (g 45)].toArray s (rmD 5 0 0).cells (rmD 5 0 0).slots A) = Q from hQ.symm]
  have hsI := smF_rf ([20] : List Nat) I0
  have hsR := smF_rf ([37] : List Nat) R0
  have hvI0 := hvI
  have lab_2 : ∀ (k_2 : Nat) (a1_2 : Int32) (I_2 : Nat → Int32) (J_2 : Nat → Int64) (R_2 : Nat → Nat → Int32) (L_2 : Nat → Nat → Int64) (H : Heap) (locs : List Loc) (ls : Array Slot), ((21 - a1_2.toInt) < (k_2 : Int)) → InvI Wm_lo Wm_hi I_2 → InvR Wm_rl R_2 → SmF ([20] : List Nat) I0 I_2 → SmF ([37] : List Nat) R0 R_2 → ((0 : Int) ≤ a1_2.toInt ∧ a1_2.toInt ≤ (21 : Int)) → va_P G.1 vwCl (Wm G g q I_2 J_2 R_2 L_2) H → va_D A (Wm G g q I_2 J_2 R_2 L_2) → va_S A s.heap H locs → lv_has ls 3 [(0, .ref (g 45)), (1, .int a1_2)] → W p l e (rmD 5 0 0) s m [.ref (g 45)].toArray below meth c H locs 0 0 Q (F0 m 2 ls []) := by
    intro k_2
    induction k_2 with
    | zero =>
      intro a1_2 I_2 J_2 R_2 L_2 H locs ls hm hvI hvR hsI hsR y0_2 hP hD hS hl
      have hv_I_2 := hvI
      exact absurd hm (by omega)
    | succ k_2 ih_2 =>
      intro a1_2 I_2 J_2 R_2 L_2 H locs ls hm hvI hvR hsI hsR y0_2 hP hD hS hl
      have hv_I_2 := hvI
      refine lv_iload_n hx hb dX12_fewest_2 rfl (lv_at hl 1 rfl) ?_
      refine lv_bipush (v := 20) hx hb dX12_fewest_3 (by decide) ?_
      refine lv_icmp_gt (tgt := 36) hx hb dX12_fewest_5 (by decide) (fun c1 => ?_) (fun c1 => ?_)
      · have gc1 : 20 < a1_2.toInt := (tlt _ _).mp c1
        refine lv_iconst (v := (-1)) hx hb dX12_fewest_36 (by decide) ?_
        rw [hQ]
        exact q_i F hr hlk (I_2, J_2, R_2, L_2) hP hD hS ⟨hvI, hvR, hsI, hsR, (show ((-2 : Int) ≤ (-1) ∧ (-1) ≤ (20 : Int)) from by omega)⟩ dX12_fewest_37 (Nat.le_of_ble_eq_true rfl) (Nat.le_of_ble_eq_true rfl)
      · have gc1 : ¬ (20 < a1_2.toInt) := fun q0 => c1 ((tlt _ _).mpr q0)
        refine lv_aload_n hx hb dX12_fewest_8 rfl (lv_at hl 0 rfl) ?_
        refine lv_iload_n hx hb dX12_fewest_9 rfl (lv_at hl 1 rfl) ?_
        refine wvi (As := [.int a1_2]) (rest := []) (b := (g 45)) (d := 4) F hK hP hD hS hA (s_X12_sought l G g q I_2 J_2 R_2 L_2 hvI hvR  a1_2 ) kmV_X12_sought mlX12_529 clX12 rfl 0 (Wm_at0 G g q I_2 J_2 R_2 L_2) ⟨(Nat.le_of_ble_eq_true rfl), (Nat.le_of_ble_eq_true rfl)⟩ hl.1 rfl (Nat.le_of_ble_eq_true rfl) dX12_fewest_10 (fun r2 u3 H locs hwr2 hP hD hS => ?_)
        obtain ⟨I4, J5, R6, L7⟩ := u3
        replace hP : va_P G.1 vwCl (Wm G g q I4 J5 R6 L7) H := hP
        replace hD : va_D A (Wm G g q I4 J5 R6 L7) := hD
        obtain ⟨hvI, hvR, tIr2, tRr2, F0r2⟩ := hwr2
        replace F0r2 : ((-2 : Int) ≤ r2.toInt ∧ r2.toInt ≤ (1 : Int)) := F0r2
        replace hvI : InvI Wm_lo Wm_hi I4 := hvI
        replace hvR : InvR Wm_rl R6 := hvR
        replace tIr2 : SmF ([20] : List Nat) I_2 I4 := tIr2
        replace tRr2 : SmF ([37] : List Nat) R_2 R6 := tRr2
        have hv_I4 := hvI
        have hsI := smF_tr hsI tIr2 (by decide)
        have hsR := smF_tr hsR tRr2 (by decide)
        refine lv_istore_n (lv' := [(2, .int r2), (0, .ref (g 45)), (1, .int a1_2)]) hx hb dX12_fewest_13 rfl hl (by decide) rfl (fun ls hl => ?_)
        refine lv_iload_n hx hb dX12_fewest_14 rfl (lv_at hl 0 rfl) ?_
        refine lv_if_eq (tgt := 30) hx hb dX12_fewest_15 (by decide) (fun c8 => ?_) (fun c8 => ?_)
        · have gc8 : r2.toInt = 0 := congrArg Int32.toInt c8
          obtain ⟨x9, ex9⟩ : ∃ y : Int32, y = a1_2 + 1 := ⟨_, rfl⟩
          have fx9 : x9.toInt = a1_2.toInt + (1 : Int) := by rw [ex9]; exact t_add (by show (-2147483648 : Int) ≤ a1_2.toInt + (1 : Int); omega) (by show a1_2.toInt + (1 : Int) ≤ 2147483647; omega)
          refine lv_iinc (v := x9) (lv' := [(1, .int x9), (2, .int r2), (0, .ref (g 45))]) hx hb dX12_fewest_30 hl (k := 2) rfl (by rw [ex9]; rfl) (by decide) rfl (fun ls hl => ?_)
          refine lv_goto (tgt := 2) hx hb dX12_fewest_33 (by decide) ?_
          exact ih_2 x9 I4 J5 R6 L7 _ _ _ (show (21 - x9.toInt) < (k_2 : Int) from by omega) hvI hvR hsI hsR (show ((0 : Int) ≤ x9.toInt ∧ x9.toInt ≤ (21 : Int)) from by omega) hP hD hS (lv_sub hl [2, 0] rfl)
        · have gc8 : ¬ (r2.toInt = 0) := fun q0 => c8 (Int32.toInt_inj.mp q0)
          refine lv_iload_n hx hb dX12_fewest_18 rfl (lv_at hl 0 rfl) ?_
          refine lv_iconst (v := 1) hx hb dX12_fewest_19 (by decide) ?_
          refine lv_icmp_ne (tgt := 27) hx hb dX12_fewest_20 (by decide) (fun c10 => ?_) (fun c10 => ?_)
          · have gc10 : ¬ (r2.toInt = 1) := fun q0 => c10 (Int32.toInt_inj.mp q0)
            refine lv_bipush (v := (-2)) hx hb dX12_fewest_27 (by decide) ?_
            rw [hQ]
            exact q_i F hr hlk (I4, J5, R6, L7) hP hD hS ⟨hvI, hvR, hsI, hsR, (show ((-2 : Int) ≤ (-2) ∧ (-2) ≤ (20 : Int)) from by omega)⟩ dX12_fewest_29 (Nat.le_of_ble_eq_true rfl) (Nat.le_of_ble_eq_true rfl)
          · have gc10 : r2.toInt = 1 := congrArg Int32.toInt c10
            refine lv_iload_n hx hb dX12_fewest_23 rfl (lv_at hl 2 rfl) ?_
            refine lv_goto (tgt := 29) hx hb dX12_fewest_24 (by decide) ?_
            rw [hQ]
            exact q_i F hr hlk (I4, J5, R6, L7) hP hD hS ⟨hvI, hvR, hsI, hsR, (show ((-2 : Int) ≤ a1_2.toInt ∧ a1_2.toInt ≤ (20 : Int)) from by omega)⟩ dX12_fewest_29 (Nat.le_of_ble_eq_true rfl) (Nat.le_of_ble_eq_true rfl)
  refine lv_iconst (v := 0) hx hb dX12_fewest_0 (by decide) ?_
  refine lv_istore_n (lv' := [(1, .int 0), (0, .ref (g 45))]) hx hb dX12_fewest_1 rfl hl (by decide) rfl (fun ls hl => ?_)
  exact lab_2 22 0 I0 J0 R0 L0 _ _ _ (show (21 - 0) < ((22 : Nat) : Int) from by omega) hvI hvR hsI hsR (by decide) hP hD hS (lv_sub hl [1, 0] rfl)
set_option maxHeartbeats 4000000 in
set_option maxRecDepth 100000 in
theorem s_X12_seats (l : Launch) (G : Gx) (g q : Nat → Nat) (I0 : Nat → Int32) (J0 : Nat → Int64) (R0 : Nat → Nat → Int32) (L0 : Nat → Nat → Int64) (hvI : InvI Wm_lo Wm_hi I0) (hvR : InvR Wm_rl R0)  (p1 : Int32) (hp1 : ((0 : Int) ≤ p1.toInt ∧ p1.toInt ≤ (4 : Int))) : CtV (S := St) l yX12_seats cX12_seats 7 none (rmD 3 0 0) G [.ref (g 45), .int p1] (Wm G g q I0 J0 R0 L0) (fun u => InvI Wm_lo Wm_hi u.1 ∧ InvR Wm_rl u.2.2.1 ∧ SmF ([] : List Nat) I0 u.1 ∧ SmF ([38] : List Nat) R0 u.2.2.1) (fun u => Wm G g q u.1 u.2.1 u.2.2.1 u.2.2.2) := by
  refine ctV_of (own := RX12) (by decide +kernel) rfl (Nat.le_of_ble_eq_true rfl) ?_
  intro p e s m below meth c A ls F hr hlk hnm hK hP hD hA hS hl
  have hx := F.1
  have hb := F.2.1
  have hown := F.2.2.2.1
  have hl : lv_has ls 7 [(0, .ref (g 45)), (1, .int p1)] := hl
  obtain ⟨Q, hQ⟩ : ∃ Q : State → Prop, Q = MQ below (va_Qv (S := St) (fun u => InvI Wm_lo Wm_hi u.1 ∧ InvR Wm_rl u.2.2.1 ∧ SmF ([] : List Nat) I0 u.1 ∧ SmF ([38] : List Nat) R0 u.2.2.1) (BX G A (fun u => Wm G g q u.1 u.2.1 u.2.2.1 u.2.2.2)) A) [.ref (g 45), .int p1].toArray s 0 0 A := ⟨_, rfl⟩
  rw [show (MQ below (va_Qv (S := St) (fun u => InvI Wm_lo Wm_hi u.1 ∧ InvR Wm_rl u.2.2.1 ∧ SmF ([] : List Nat) I0 u.1 ∧ SmF ([38] : List Nat) R0 u.2.2.1) (BX G A (fun u => Wm G g q u.1 u.2.1 u.2.2.1 u.2.2.2)) A) [.ref (g 45), .int p1].toArray s (rmD 3 0 0).cells (rmD 3 0 0).slots A) = Q from hQ.symm]
  have hsI := smF_rf ([] : List Nat) I0
  have hsR := smF_rf ([38] : List Nat) R0
  have hvI0 := hvI
  have lab_53 : ∀ (k_53 : Nat) (a2_53 : Int32) (I_53 : Nat → Int32) (J_53 : Nat → Int64) (R_53 : Nat → Nat → Int32) (L_53 : Nat → Nat → Int64) (H : Heap) (locs : List Loc) (ls : Array Slot), ((12 - a2_53.toInt) < (k_53 : Int)) → InvI Wm_lo Wm_hi I_53 → InvR Wm_rl R_53 → SmF ([] : List Nat) I0 I_53 → SmF ([38] : List Nat) R0 R_53 → ((0 : Int) ≤ a2_53.toInt ∧ a2_53.toInt ≤ (12 : Int)) → va_P G.1 vwCl (Wm G g q I_53 J_53 R_53 L_53) H → va_D A (Wm G g q I_53 J_53 R_53 L_53) → va_S A s.heap H locs → lv_has ls 7 [(0, .ref (g 45)), (1, .int p1), (2, .int a2_53)] → W p l e (rmD 3 0 0) s m [.ref (g 45), .int p1].toArray below meth c H locs 0 0 Q (F0 m 53 ls []) := by
    intro k_53
    induction k_53 with
    | zero =>
      intro a2_53 I_53 J_53 R_53 L_53 H locs ls hm hvI hvR hsI hsR y0_53 hP hD hS hl
      have hv_I_53 := hvI
      exact absurd hm (by omega)
    | succ k_53 ih_53 =>
      intro a2_53 I_53 J_53 R_53 L_53 H locs ls hm hvI hvR hsI hsR y0_53 hP hD hS hl
      have hv_I_53 := hvI
      have lab_207 : ∀  (I_207 : Nat → Int32) (J_207 : Nat → Int64) (R_207 : Nat → Nat → Int32) (L_207 : Nat → Nat → Int64) (H : Heap) (locs : List Loc) (ls : Array Slot), InvI Wm_lo Wm_hi I_207 → InvR Wm_rl R_207 → SmF ([] : List Nat) I0 I_207 → SmF ([38] : List Nat) R0 R_207 → ((0 : Int) ≤ a2_53.toInt ∧ a2_53.toInt ≤ (11 : Int)) → va_P G.1 vwCl (Wm G g q I_207 J_207 R_207 L_207) H → va_D A (Wm G g q I_207 J_207 R_207 L_207) → va_S A s.heap H locs → lv_has ls 7 [(0, .ref (g 45)), (1, .int p1), (2, .int a2_53)] → W p l e (rmD 3 0 0) s m [.ref (g 45), .int p1].toArray below meth c H locs 0 0 Q (F0 m 207 ls []) := by
        intro I_207 J_207 R_207 L_207 H locs ls hvI hvR hsI hsR y0_207 hP hD hS hl
        have hv_I_207 := hvI
        obtain ⟨x1, ex1⟩ : ∃ y : Int32, y = a2_53 + 1 := ⟨_, rfl⟩
        have fx1 : x1.toInt = a2_53.toInt + (1 : Int) := by rw [ex1]; exact t_add (by show (-2147483648 : Int) ≤ a2_53.toInt + (1 : Int); omega) (by show a2_53.toInt + (1 : Int) ≤ 2147483647; omega)
        refine lv_iinc (v := x1) (lv' := [(2, .int x1), (0, .ref (g 45)), (1, .int p1)]) hx hb dX12_seats_207 hl (k := 2) rfl (by rw [ex1]; rfl) (by decide) rfl (fun ls hl => ?_)
        refine lv_goto (tgt := 53) hx hb dX12_seats_210 (by decide) ?_
        exact ih_53 x1 I_207 J_207 R_207 L_207 _ _ _ (show (12 - x1.toInt) < (k_53 : Int) from by omega) hvI hvR hsI hsR (show ((0 : Int) ≤ x1.toInt ∧ x1.toInt ≤ (12 : Int)) from by omega) hP hD hS (lv_sub hl [1, 2, 0] rfl)
      have lab_95 : ∀ (k_95 : Nat) (a3_95 : Int32) (a4_95 : Int32) (a5_95 : Int32) (I_95 : Nat → Int32) (J_95 : Nat → Int64) (R_95 : Nat → Nat → Int32) (L_95 : Nat → Nat → Int64) (H : Heap) (locs : List Loc) (ls : Array Slot), ((5 - a5_95.toInt) < (k_95 : Int)) → InvI Wm_lo Wm_hi I_95 → InvR Wm_rl R_95 → SmF ([] : List Nat) I0 I_95 → SmF ([38] : List Nat) R0 R_95 → ((0 : Int) ≤ a2_53.toInt ∧ a2_53.toInt ≤ (11 : Int)) → ((-1 : Int) ≤ a3_95.toInt ∧ a3_95.toInt ≤ (4 : Int)) → ((0 : Int) ≤ a5_95.toInt ∧ a5_95.toInt ≤ (5 : Int)) → va_P G.1 vwCl (Wm G g q I_95 J_95 R_95 L_95) H → va_D A (Wm G g q I_95 J_95 R_95 L_95) → va_S A s.heap H locs → lv_has ls 7 [(0, .ref (g 45)), (1, .int p1), (2, .int a2_53), (3, .int a3_95), (4, .int a4_95), (5, .int a5_95)] → W p l e (rmD 3 0 0) s m [.ref (g 45), .int p1].toArray below meth c H locs 0 0 Q (F0 m 95 ls []) := by
        intro k_95
        induction k_95 with
        | zero =>
          intro a3_95 a4_95 a5_95 I_95 J_95 R_95 L_95 H locs ls hm hvI hvR hsI hsR y0_95 y1_95 y2_95 hP hD hS hl
          have hv_I_95 := hvI
          exact absurd hm (by omega)
        | succ k_95 ih_95 =>
          intro a3_95 a4_95 a5_95 I_95 J_95 R_95 L_95 H locs ls hm hvI hvR hsI hsR y0_95 y1_95 y2_95 hP hD hS hl
          have hv_I_95 := hvI
          have lab_194 : ∀ (a3_194 : Int32) (a4_194 : Int32) (I_194 : Nat → Int32) (J_194 : Nat → Int64) (R_194 : Nat → Nat → Int32) (L_194 : Nat → Nat → Int64) (H : Heap) (locs : List Loc) (ls : Array Slot), InvI Wm_lo Wm_hi I_194 → InvR Wm_rl R_194 → SmF ([] : List Nat) I0 I_194 → SmF ([38] : List Nat) R0 R_194 → ((-1 : Int) ≤ a3_194.toInt ∧ a3_194.toInt ≤ (4 : Int)) → ((0 : Int) ≤ a5_95.toInt ∧ a5_95.toInt ≤ (4 : Int)) → va_P G.1 vwCl (Wm G g q I_194 J_194 R_194 L_194) H → va_D A (Wm G g q I_194 J_194 R_194 L_194) → va_S A s.heap H locs → lv_has ls 7 [(0, .ref (g 45)), (1, .int p1), (2, .int a2_53), (3, .int a3_194), (4, .int a4_194), (5, .int a5_95)] → W p l e (rmD 3 0 0) s m [.ref (g 45), .int p1].toArray below meth c H locs 0 0 Q (F0 m 194 ls []) := by
            intro a3_194 a4_194 I_194 J_194 R_194 L_194 H locs ls hvI hvR hsI hsR y0_194 y1_194 hP hD hS hl
            have hv_I_194 := hvI
            obtain ⟨x2, ex2⟩ : ∃ y : Int32, y = a5_95 + 1 := ⟨_, rfl⟩
            have fx2 : x2.toInt = a5_95.toInt + (1 : Int) := by rw [ex2]; exact t_add (by show (-2147483648 : Int) ≤ a5_95.toInt + (1 : Int); omega) (by show a5_95.toInt + (1 : Int) ≤ 2147483647; omega)
            refine lv_iinc (v := x2) (lv' := [(5, .int x2), (0, .ref (g 45)), (1, .int p1), (2, .int a2_53), (3, .int a3_194), (4, .int a4_194)]) hx hb dX12_seats_194 hl (k := 5) rfl (by rw [ex2]; rfl) (by decide) rfl (fun ls hl => ?_)
            refine lv_goto (tgt := 95) hx hb dX12_seats_197 (by decide) ?_
            exact ih_95 a3_194 a4_194 x2 I_194 J_194 R_194 L_194 _ _ _ (show (5 - x2.toInt) < (k_95 : Int) from by omega) hvI hvR hsI hsR (show ((0 : Int) ≤ a2_53.toInt ∧ a2_53.toInt ≤ (11 : Int)) from by omega) (show ((-1 : Int) ≤ a3_194.toInt ∧ a3_194.toInt ≤ (4 : Int)) from by omega) (show ((0 : Int) ≤ x2.toInt ∧ x2.toInt ≤ (5 : Int)) from by omega) hP hD hS (lv_sub hl [1, 2, 3, 4, 5, 0] rfl)
          have lab_187 : ∀ (a6_187 : Int32) (I_187 : Nat → Int32) (J_187 : Nat → Int64) (R_187 : Nat → Nat → Int32) (L_187 : Nat → Nat → Int64) (H : Heap) (locs : List Loc) (ls : Array Slot), InvI Wm_lo Wm_hi I_187 → InvR Wm_rl R_187 → SmF ([] : List Nat) I0 I_187 → SmF ([38] : List Nat) R0 R_187 → ((0 : Int) ≤ a5_95.toInt ∧ a5_95.toInt ≤ (4 : Int)) → va_P G.1 vwCl (Wm G g q I_187 J_187 R_187 L_187) H → va_D A (Wm G g q I_187 J_187 R_187 L_187) → va_S A s.heap H locs → lv_has ls 7 [(0, .ref (g 45)), (1, .int p1), (2, .int a2_53), (5, .int a5_95), (6, .int a6_187)] → W p l e (rmD 3 0 0) s m [.ref (g 45), .int p1].toArray below meth c H locs 0 0 Q (F0 m 187 ls []) := by
            intro a6_187 I_187 J_187 R_187 L_187 H locs ls hvI hvR hsI hsR y0_187 hP hD hS hl
            have hv_I_187 := hvI
            refine lv_iload hx hb dX12_seats_187 (lv_at hl 3 rfl) ?_
            refine lv_istore_n (lv' := [(3, .int a5_95), (0, .ref (g 45)), (1, .int p1), (2, .int a2_53), (5, .int a5_95), (6, .int a6_187)]) hx hb dX12_seats_189 rfl hl (by decide) rfl (fun ls hl => ?_)
            refine lv_iload hx hb dX12_seats_190 (lv_at hl 5 rfl) ?_
            refine lv_istore (lv' := [(4, .int a6_187), (3, .int a5_95), (0, .ref (g 45)), (1, .int p1), (2, .int a2_53), (5, .int a5_95), (6, .int a6_187)]) hx hb dX12_seats_192 hl (by decide) rfl (fun ls hl => ?_)
            exact lab_194 a5_95 a6_187 I_187 J_187 R_187 L_187 _ _ _ hvI hvR hsI hsR (show ((-1 : Int) ≤ a5_95.toInt ∧ a5_95.toInt ≤ (4 : Int)) from by omega) (show ((0 : Int) ≤ a5_95.toInt ∧ a5_95.toInt ≤ (4 : Int)) from by omega) hP hD hS (lv_sub hl [2, 3, 4, 1, 0, 5] rfl)
          refine lv_iload hx hb dX12_seats_95 (lv_at hl 5 rfl) ?_
          refine lv_aload_n hx hb dX12_seats_97 rfl (lv_at hl 0 rfl) ?_
          refine g_get F hK hP 0 (Wm_at0 G g q I_95 J_95 R_95 L_95) clX12 13 (by decide) flX12_51 rfl dX12_seats_98 ?_
          refine lv_aload_n hx hb dX12_seats_101 rfl (lv_at hl 0 rfl) ?_
          refine g_get F hK hP 0 (Wm_at0 G g q I_95 J_95 R_95 L_95) clX12 12 (by decide) flX12_48 rfl dX12_seats_102 ?_
          refine cst_i (hsI 10 rfl) ?_
          have w_I0_10 := rg (hvI0 10 (by decide)) (0) (1) rfl rfl
          refine g_iald F hK hP 2 (Wm_at2 G g q I_95 J_95 R_95 L_95) (in_of (by omega)) dX12_seats_105 rfl ?_
          refine lv_topi (fun x3 ex3 => ?_)
          have gx3 : x3.toInt = (R0 1 (Int32.toNatClampNeg (I0 10))).toInt := congrArg Int32.toInt ((ex3).trans (congrFun (hsR 1 rfl) _))
          have fx3 : ((0 : Int) ≤ x3.toInt ∧ x3.toInt ≤ (5 : Int)) := by rw [ex3]; exact hvR 1 (by decide) _ (clamp_lt (n := 2) (in_of (by omega)))
          refine lv_icmp_ge (tgt := 200) hx hb dX12_seats_106 (by decide) (fun c4 => ?_) (fun c4 => ?_)
          · have gc4 : x3.toInt ≤ a5_95.toInt := (tle _ _).mp c4
            refine lv_aload_n hx hb dX12_seats_200 rfl (lv_at hl 0 rfl) ?_
            refine g_get F hK hP 0 (Wm_at0 G g q I_95 J_95 R_95 L_95) clX12 67 (by decide) flX12_216 rfl dX12_seats_201 ?_
            refine lv_iload_n hx hb dX12_seats_204 rfl (lv_at hl 2 rfl) ?_
            refine lv_iload_n hx hb dX12_seats_205 rfl (lv_at hl 3 rfl) ?_
            refine p_row (W1 := fun y => Wm G g q I_95 J_95 y L_95) (n := 38) F hK hP hD hS 44 (Wm_at44 G g q I_95 J_95 R_95 L_95) (in_of (by omega)) dX12_seats_206 (Wm_rowR38 G g q I_95 J_95 R_95 L_95) (fun R5 H locs eR5 hP hD hS => ?_)
            have hvR : InvR Wm_rl R5 := inv_upR hvR 38 eR5 (upd_in (hvR 38 (by decide)) (show ((-1 : Int) ≤ a3_95.toInt ∧ a3_95.toInt ≤ (4 : Int)) from by omega))
            have hsR := smF_up hsR eR5 (by decide)
            exact lab_207  I_95 J_95 R5 L_95 _ _ _ hvI hvR hsI hsR (show ((0 : Int) ≤ a2_53.toInt ∧ a2_53.toInt ≤ (11 : Int)) from by omega) hP hD hS (lv_sub hl [0, 1, 2] rfl)
          · have gc4 : ¬ (x3.toInt ≤ a5_95.toInt) := fun q0 => c4 ((tle _ _).mpr q0)
            refine lv_aload_n hx hb dX12_seats_109 rfl (lv_at hl 0 rfl) ?_
            refine g_get F hK hP 0 (Wm_at0 G g q I_95 J_95 R_95 L_95) clX12 15 (by decide) flX12_58 rfl dX12_seats_110 ?_
            refine lv_iconst (v := 5) hx hb dX12_seats_113 (by decide) ?_
            refine lv_aload_n hx hb dX12_seats_114 rfl (lv_at hl 0 rfl) ?_
            refine g_get F hK hP 0 (Wm_at0 G g q I_95 J_95 R_95 L_95) clX12 12 (by decide) flX12_48 rfl dX12_seats_115 ?_
            refine cst_i (hsI 10 rfl) ?_
            refine lv_imul hx hb dX12_seats_118 ?_
            refine lv_topi (fun x6 ex6 => ?_)
            have fx6 : x6.toInt = 5 * (I0 10).toInt := by rw [ex6]; exact t_mul (by show (-2147483648 : Int) ≤ 5 * (I0 10).toInt; omega) (by show 5 * (I0 10).toInt ≤ 2147483647; omega)
            refine lv_iload hx hb dX12_seats_119 (lv_at hl 5 rfl) ?_
            refine lv_iadd hx hb dX12_seats_121 ?_
            refine lv_topi (fun x7 ex7 => ?_)
            have fx7 : x7.toInt = x6.toInt + a5_95.toInt := by rw [ex7]; exact t_add (by show (-2147483648 : Int) ≤ x6.toInt + a5_95.toInt; omega) (by show x6.toInt + a5_95.toInt ≤ 2147483647; omega)
            refine g_iald F hK hP 4 (Wm_at4 G g q I_95 J_95 R_95 L_95) (in_of (by omega)) dX12_seats_122 rfl ?_
            refine lv_topi (fun x8 ex8 => ?_)
            have gx8 : x8.toInt = (R0 2 (Int32.toNatClampNeg x7)).toInt := congrArg Int32.toInt ((ex8).trans (congrFun (hsR 2 rfl) _))
            have fx8 : ((0 : Int) ≤ x8.toInt ∧ x8.toInt ≤ (9999 : Int)) := by rw [ex8]; exact hvR 2 (by decide) _ (clamp_lt (n := 10) (in_of (by omega)))
            refine lv_aload_n hx hb dX12_seats_123 rfl (lv_at hl 0 rfl) ?_
            refine lv_aload_n hx hb dX12_seats_124 rfl (lv_at hl 0 rfl) ?_
            refine g_get F hK hP 0 (Wm_at0 G g q I_95 J_95 R_95 L_95) clX12 12 (by decide) flX12_48 rfl dX12_seats_125 ?_
            refine cst_i (hsI 10 rfl) ?_
            refine lv_iload hx hb dX12_seats_128 (lv_at hl 5 rfl) ?_
            refine wvi (As := [.int (I0 10), .int a5_95]) (rest := [.int x8]) (b := (g 45)) (d := 1) F hK hP hD hS hA (s_X12_ownedOn l G g q I_95 J_95 R_95 L_95 hvI hvR  ((I0 10)) a5_95 (show ((0 : Int) ≤ (I0 10).toInt ∧ (I0 10).toInt ≤ (1 : Int)) from by omega) (show ((0 : Int) ≤ a5_95.toInt ∧ a5_95.toInt ≤ (11 : Int)) from by omega)) kmV_X12_ownedOn mlX12_381 clX12 rfl 0 (Wm_at0 G g q I_95 J_95 R_95 L_95) ⟨(Nat.le_of_ble_eq_true rfl), (Nat.le_of_ble_eq_true rfl)⟩ hl.1 rfl (Nat.le_of_ble_eq_true rfl) dX12_seats_130 (fun r9 u10 H locs hwr9 hP hD hS => ?_)
            refine lv_isub hx hb dX12_seats_133 ?_
            refine lv_topi (fun x11 ex11 => ?_)
            refine lv_aload_n hx hb dX12_seats_134 rfl (lv_at hl 0 rfl) ?_
            refine lv_iload hx hb dX12_seats_135 (lv_at hl 5 rfl) ?_
            refine lv_iconst (v := 1) hx hb dX12_seats_137 (by decide) ?_
            refine wvi (As := [.int a5_95, .int 1]) (rest := [.int x11]) (b := (g 45)) (d := 2) F hK hP hD hS hA (s_X12_sitting l G g q I_95 J_95 R_95 L_95 hvI hvR  a5_95 1 (show ((0 : Int) ≤ a5_95.toInt ∧ a5_95.toInt ≤ (4 : Int)) from by omega) (by decide)) kmV_X12_sitting mlX12_583 clX12 rfl 0 (Wm_at0 G g q I_95 J_95 R_95 L_95) ⟨(Nat.le_of_ble_eq_true rfl), (Nat.le_of_ble_eq_true rfl)⟩ hl.1 rfl (Nat.le_of_ble_eq_true rfl) dX12_seats_138 (fun r12 u13 H locs hwr12 hP hD hS => ?_)
            refine lv_isub hx hb dX12_seats_141 ?_
            refine lv_topi (fun x14 ex14 => ?_)
            refine lv_if_gt (tgt := 148) hx hb dX12_seats_142 (by decide) (fun c15 => ?_) (fun c15 => ?_)
            · have gc15 : 0 < x14.toInt := (tlt _ _).mp c15
              refine lv_aload_n hx hb dX12_seats_148 rfl (lv_at hl 0 rfl) ?_
              refine lv_iload_n hx hb dX12_seats_149 rfl (lv_at hl 2 rfl) ?_
              refine lv_iload hx hb dX12_seats_150 (lv_at hl 5 rfl) ?_
              refine wvi (As := [.int a2_53, .int a5_95]) (rest := []) (b := (g 45)) (d := 1) F hK hP hD hS hA (s_X12_tiesWith l G g q I_95 J_95 R_95 L_95 hvI hvR  a2_53 a5_95 (show ((0 : Int) ≤ a2_53.toInt ∧ a2_53.toInt ≤ (11 : Int)) from by omega) (show ((0 : Int) ≤ a5_95.toInt ∧ a5_95.toInt ≤ (4 : Int)) from by omega)) kmV_X12_tiesWith mlX12_587 clX12 rfl 0 (Wm_at0 G g q I_95 J_95 R_95 L_95) ⟨(Nat.le_of_ble_eq_true rfl), (Nat.le_of_ble_eq_true rfl)⟩ hl.1 rfl (Nat.le_of_ble_eq_true rfl) dX12_seats_152 (fun r16 u17 H locs hwr16 hP hD hS => ?_)
              refine lv_aload_n hx hb dX12_seats_155 rfl (lv_at hl 0 rfl) ?_
              refine g_get F hK hP 0 (Wm_at0 G g q I_95 J_95 R_95 L_95) clX12 16 (by decide) flX12_61 rfl dX12_seats_156 ?_
              refine lv_iconst (v := 5) hx hb dX12_seats_159 (by decide) ?_
              refine lv_aload_n hx hb dX12_seats_160 rfl (lv_at hl 0 rfl) ?_
              refine g_get F hK hP 0 (Wm_at0 G g q I_95 J_95 R_95 L_95) clX12 12 (by decide) flX12_48 rfl dX12_seats_161 ?_
              refine cst_i (hsI 10 rfl) ?_
              refine lv_imul hx hb dX12_seats_164 ?_
              refine lv_topi (fun x18 ex18 => ?_)
              have fx18 : x18.toInt = 5 * (I0 10).toInt := by rw [ex18]; exact t_mul (by show (-2147483648 : Int) ≤ 5 * (I0 10).toInt; omega) (by show 5 * (I0 10).toInt ≤ 2147483647; omega)
              refine lv_iload hx hb dX12_seats_165 (lv_at hl 5 rfl) ?_
              refine lv_iadd hx hb dX12_seats_167 ?_
              refine lv_topi (fun x19 ex19 => ?_)
              have fx19 : x19.toInt = x18.toInt + a5_95.toInt := by rw [ex19]; exact t_add (by show (-2147483648 : Int) ≤ x18.toInt + a5_95.toInt; omega) (by show x18.toInt + a5_95.toInt ≤ 2147483647; omega)
              refine g_iald F hK hP 5 (Wm_at5 G g q I_95 J_95 R_95 L_95) (in_of (by omega)) dX12_seats_168 rfl ?_
              refine lv_topi (fun x20 ex20 => ?_)
              have gx20 : x20.toInt = (R0 3 (Int32.toNatClampNeg x19)).toInt := congrArg Int32.toInt ((ex20).trans (congrFun (hsR 3 rfl) _))
              refine lv_isub hx hb dX12_seats_169 ?_
              refine lv_topi (fun x21 ex21 => ?_)
              refine lv_istore (lv' := [(6, .int x21), (0, .ref (g 45)), (1, .int p1), (2, .int a2_53), (3, .int a3_95), (4, .int a4_95), (5, .int a5_95)]) hx hb dX12_seats_170 hl (by decide) rfl (fun ls hl => ?_)
              refine lv_iload_n hx hb dX12_seats_172 rfl (lv_at hl 4 rfl) ?_
              refine lv_iconst (v := (-1)) hx hb dX12_seats_173 (by decide) ?_
              refine lv_icmp_eq (tgt := 187) hx hb dX12_seats_174 (by decide) (fun c22 => ?_) (fun c22 => ?_)
              · have gc22 : a3_95.toInt = (-1) := congrArg Int32.toInt c22
                exact lab_187 x21 I_95 J_95 R_95 L_95 _ _ _ hvI hvR hsI hsR (show ((0 : Int) ≤ a5_95.toInt ∧ a5_95.toInt ≤ (4 : Int)) from by omega) hP hD hS (lv_sub hl [1, 2, 3, 6, 0] rfl)
              · have gc22 : ¬ (a3_95.toInt = (-1)) := fun q0 => c22 (Int32.toInt_inj.mp q0)
                refine lv_iload hx hb dX12_seats_177 (lv_at hl 0 rfl) ?_
                refine lv_iload hx hb dX12_seats_179 (lv_at hl 5 rfl) ?_
                refine lv_icmp_gt (tgt := 187) hx hb dX12_seats_181 (by decide) (fun c23 => ?_) (fun c23 => ?_)
                · have gc23 : a4_95.toInt < x21.toInt := (tlt _ _).mp c23
                  exact lab_187 x21 I_95 J_95 R_95 L_95 _ _ _ hvI hvR hsI hsR (show ((0 : Int) ≤ a5_95.toInt ∧ a5_95.toInt ≤ (4 : Int)) from by omega) hP hD hS (lv_sub hl [1, 2, 3, 6, 0] rfl)
                · have gc23 : ¬ (a4_95.toInt < x21.toInt) := fun q0 => c23 ((tlt _ _).mpr q0)
                  refine lv_goto (tgt := 194) hx hb dX12_seats_184 (by decide) ?_
                  exact lab_194 a3_95 a4_95 I_95 J_95 R_95 L_95 _ _ _ hvI hvR hsI hsR (show ((-1 : Int) ≤ a3_95.toInt ∧ a3_95.toInt ≤ (4 : Int)) from by omega) (show ((0 : Int) ≤ a5_95.toInt ∧ a5_95.toInt ≤ (4 : Int)) from by omega) hP hD hS (lv_sub hl [1, 2, 3, 4, 5, 6] rfl)
            · have gc15 : ¬ (0 < x14.toInt) := fun q0 => c15 ((tlt _ _).mpr q0)
              refine lv_goto (tgt := 194) hx hb dX12_seats_145 (by decide) ?_
              exact lab_194 a3_95 a4_95 I_95 J_95 R_95 L_95 _ _ _ hvI hvR hsI hsR (show ((-1 : Int) ≤ a3_95.toInt ∧ a3_95.toInt ≤ (4 : Int)) from by omega) (show ((0 : Int) ≤ a5_95.toInt ∧ a5_95.toInt ≤ (4 : Int)) from by omega) hP hD hS (lv_sub hl [0, 1, 2, 3, 4, 5] rfl)
      refine lv_iload_n hx hb dX12_seats_53 rfl (lv_at hl 2 rfl) ?_
      refine lv_aload_n hx hb dX12_seats_54 rfl (lv_at hl 0 rfl) ?_
      refine g_get F hK hP 0 (Wm_at0 G g q I_53 J_53 R_53 L_53) clX12 21 (by decide) flX12_77 rfl dX12_seats_55 ?_
      refine lv_aload_n hx hb dX12_seats_58 rfl (lv_at hl 0 rfl) ?_
      refine g_get F hK hP 0 (Wm_at0 G g q I_53 J_53 R_53 L_53) clX12 12 (by decide) flX12_48 rfl dX12_seats_59 ?_
      refine cst_i (hsI 10 rfl) ?_
      have w_I0_10 := rg (hvI0 10 (by decide)) (0) (1) rfl rfl
      refine g_iald F hK hP 10 (Wm_at10 G g q I_53 J_53 R_53 L_53) (in_of (by omega)) dX12_seats_62 rfl ?_
      refine lv_topi (fun x24 ex24 => ?_)
      have gx24 : x24.toInt = (R0 7 (Int32.toNatClampNeg (I0 10))).toInt := congrArg Int32.toInt ((ex24).trans (congrFun (hsR 7 rfl) _))
      have fx24 : ((0 : Int) ≤ x24.toInt ∧ x24.toInt ≤ (12 : Int)) := by rw [ex24]; exact hvR 7 (by decide) _ (clamp_lt (n := 2) (in_of (by omega)))
      refine lv_icmp_ge (tgt := 213) hx hb dX12_seats_63 (by decide) (fun c25 => ?_) (fun c25 => ?_)
      · have gc25 : x24.toInt ≤ a2_53.toInt := (tle _ _).mp c25
        rw [hQ]
        exact q_v F hr hlk (I_53, J_53, R_53, L_53) hP hD hS ⟨hvI, hvR, hsI, hsR⟩ dX12_seats_213 (Nat.le_of_ble_eq_true rfl) (Nat.le_of_ble_eq_true rfl)
      · have gc25 : ¬ (x24.toInt ≤ a2_53.toInt) := fun q0 => c25 ((tle _ _).mpr q0)
        refine lv_aload_n hx hb dX12_seats_66 rfl (lv_at hl 0 rfl) ?_
        refine lv_iload_n hx hb dX12_seats_67 rfl (lv_at hl 2 rfl) ?_
        refine lv_iload_n hx hb dX12_seats_68 rfl (lv_at hl 1 rfl) ?_
        refine wvi (As := [.int a2_53, .int p1]) (rest := []) (b := (g 45)) (d := 1) F hK hP hD hS hA (s_X12_isIn l G g q I_53 J_53 R_53 L_53 hvI hvR  a2_53 p1 (show ((0 : Int) ≤ a2_53.toInt ∧ a2_53.toInt ≤ (11 : Int)) from by omega) (show ((0 : Int) ≤ p1.toInt ∧ p1.toInt ≤ (4 : Int)) from by omega)) kmV_X12_isIn mlX12_479 clX12 rfl 0 (Wm_at0 G g q I_53 J_53 R_53 L_53) ⟨(Nat.le_of_ble_eq_true rfl), (Nat.le_of_ble_eq_true rfl)⟩ hl.1 rfl (Nat.le_of_ble_eq_true rfl) dX12_seats_69 (fun r26 u27 H locs hwr26 hP hD hS => ?_)
        have F0r26 := hwr26
        replace F0r26 : ((0 : Int) ≤ r26.toInt ∧ r26.toInt ≤ (1 : Int)) := F0r26
        refine lv_if_eq (tgt := 207) hx hb dX12_seats_72 (by decide) (fun c28 => ?_) (fun c28 => ?_)
        · have gc28 : r26.toInt = 0 := congrArg Int32.toInt c28
          exact lab_207  I_53 J_53 R_53 L_53 _ _ _ hvI hvR hsI hsR (show ((0 : Int) ≤ a2_53.toInt ∧ a2_53.toInt ≤ (11 : Int)) from by omega) hP hD hS (lv_sub hl [0, 1, 2] rfl)
        · have gc28 : ¬ (r26.toInt = 0) := fun q0 => c28 (Int32.toInt_inj.mp q0)
          refine lv_aload_n hx hb dX12_seats_75 rfl (lv_at hl 0 rfl) ?_
          refine lv_iload_n hx hb dX12_seats_76 rfl (lv_at hl 2 rfl) ?_
          refine wvi (As := [.int a2_53]) (rest := []) (b := (g 45)) (d := 1) F hK hP hD hS hA (s_X12_floorOf l G g q I_53 J_53 R_53 L_53 hvI hvR  a2_53 (show ((0 : Int) ≤ a2_53.toInt ∧ a2_53.toInt ≤ (11 : Int)) from by omega)) kmV_X12_floorOf mlX12_451 clX12 rfl 0 (Wm_at0 G g q I_53 J_53 R_53 L_53) ⟨(Nat.le_of_ble_eq_true rfl), (Nat.le_of_ble_eq_true rfl)⟩ hl.1 rfl (Nat.le_of_ble_eq_true rfl) dX12_seats_77 (fun r29 u30 H locs hwr29 hP hD hS => ?_)
          have F0r29 := hwr29
          replace F0r29 : ((-1 : Int) ≤ r29.toInt ∧ r29.toInt ≤ (4 : Int)) := F0r29
          refine lv_iconst (v := (-1)) hx hb dX12_seats_80 (by decide) ?_
          refine lv_icmp_eq (tgt := 87) hx hb dX12_seats_81 (by decide) (fun c31 => ?_) (fun c31 => ?_)
          · have gc31 : r29.toInt = (-1) := congrArg Int32.toInt c31
            refine lv_iconst (v := (-1)) hx hb dX12_seats_87 (by decide) ?_
            refine lv_istore_n (lv' := [(3, .int (-1)), (0, .ref (g 45)), (1, .int p1), (2, .int a2_53)]) hx hb dX12_seats_88 rfl hl (by decide) rfl (fun ls hl => ?_)
            refine lv_iconst (v := 0) hx hb dX12_seats_89 (by decide) ?_
            refine lv_istore (lv' := [(4, .int 0), (3, .int (-1)), (0, .ref (g 45)), (1, .int p1), (2, .int a2_53)]) hx hb dX12_seats_90 hl (by decide) rfl (fun ls hl => ?_)
            refine lv_iconst (v := 0) hx hb dX12_seats_92 (by decide) ?_
            refine lv_istore (lv' := [(5, .int 0), (4, .int 0), (3, .int (-1)), (0, .ref (g 45)), (1, .int p1), (2, .int a2_53)]) hx hb dX12_seats_93 hl (by decide) rfl (fun ls hl => ?_)
            exact lab_95 6 ((-1)) 0 0 I_53 J_53 R_53 L_53 _ _ _ (show (5 - 0) < ((6 : Nat) : Int) from by omega) hvI hvR hsI hsR (show ((0 : Int) ≤ a2_53.toInt ∧ a2_53.toInt ≤ (11 : Int)) from by omega) (by decide) (by decide) hP hD hS (lv_sub hl [3, 4, 5, 2, 1, 0] rfl)
          · have gc31 : ¬ (r29.toInt = (-1)) := fun q0 => c31 (Int32.toInt_inj.mp q0)
            refine lv_goto (tgt := 207) hx hb dX12_seats_84 (by decide) ?_
            exact lab_207  I_53 J_53 R_53 L_53 _ _ _ hvI hvR hsI hsR (show ((0 : Int) ≤ a2_53.toInt ∧ a2_53.toInt ≤ (11 : Int)) from by omega) hP hD hS (lv_sub hl [0, 1, 2] rfl)
  have lab_2 : ∀ (k_2 : Nat) (a2_2 : Int32) (I_2 : Nat → Int32) (J_2 : Nat → Int64) (R_2 : Nat → Nat → Int32) (L_2 : Nat → Nat → Int64) (H : Heap) (locs : List Loc) (ls : Array Slot), ((12 - a2_2.toInt) < (k_2 : Int)) → InvI Wm_lo Wm_hi I_2 → InvR Wm_rl R_2 → SmF ([] : List Nat) I0 I_2 → SmF ([38] : List Nat) R0 R_2 → ((0 : Int) ≤ a2_2.toInt ∧ a2_2.toInt ≤ (12 : Int)) → va_P G.1 vwCl (Wm G g q I_2 J_2 R_2 L_2) H → va_D A (Wm G g q I_2 J_2 R_2 L_2) → va_S A s.heap H locs → lv_has ls 7 [(0, .ref (g 45)), (1, .int p1), (2, .int a2_2)] → W p l e (rmD 3 0 0) s m [.ref (g 45), .int p1].toArray below meth c H locs 0 0 Q (F0 m 2 ls []) := by
    intro k_2
    induction k_2 with
    | zero =>
      intro a2_2 I_2 J_2 R_2 L_2 H locs ls hm hvI hvR hsI hsR y0_2 hP hD hS hl
      have hv_I_2 := hvI
      exact absurd hm (by omega)
    | succ k_2 ih_2 =>
      intro a2_2 I_2 J_2 R_2 L_2 H locs ls hm hvI hvR hsI hsR y0_2 hP hD hS hl
      have hv_I_2 := hvI
      have lab_44 : ∀ (b0_44 : Int32) (b1_44 : Int32) (I_44 : Nat → Int32) (J_44 : Nat → Int64) (R_44 : Nat → Nat → Int32) (L_44 : Nat → Nat → Int64) (H : Heap) (locs : List Loc) (ls : Array Slot), InvI Wm_lo Wm_hi I_44 → InvR Wm_rl R_44 → SmF ([] : List Nat) I0 I_44 → SmF ([38] : List Nat) R0 R_44 → ((0 : Int) ≤ a2_2.toInt ∧ a2_2.toInt ≤ (11 : Int)) → ((-1 : Int) ≤ b0_44.toInt ∧ b0_44.toInt ≤ (4 : Int)) → ((0 : Int) ≤ b1_44.toInt ∧ b1_44.toInt ≤ (11 : Int)) → va_P G.1 vwCl (Wm G g q I_44 J_44 R_44 L_44) H → va_D A (Wm G g q I_44 J_44 R_44 L_44) → va_S A s.heap H locs → lv_has ls 7 [(0, .ref (g 45)), (1, .int p1), (2, .int a2_2)] → W p l e (rmD 3 0 0) s m [.ref (g 45), .int p1].toArray below meth c H locs 0 0 Q (F0 m 44 ls [.int b0_44, .int b1_44, .ref (g 43)]) := by
        intro b0_44 b1_44 I_44 J_44 R_44 L_44 H locs ls hvI hvR hsI hsR y0_44 y1_44 y2_44 hP hD hS hl
        have hv_I_44 := hvI
        refine p_row (W1 := fun y => Wm G g q I_44 J_44 y L_44) (n := 38) F hK hP hD hS 44 (Wm_at44 G g q I_44 J_44 R_44 L_44) (in_of (by omega)) dX12_seats_44 (Wm_rowR38 G g q I_44 J_44 R_44 L_44) (fun R32 H locs eR32 hP hD hS => ?_)
        have hvR : InvR Wm_rl R32 := inv_upR hvR 38 eR32 (upd_in (hvR 38 (by decide)) (show ((-1 : Int) ≤ b0_44.toInt ∧ b0_44.toInt ≤ (4 : Int)) from by omega))
        have hsR := smF_up hsR eR32 (by decide)
        obtain ⟨x33, ex33⟩ : ∃ y : Int32, y = a2_2 + 1 := ⟨_, rfl⟩
        have fx33 : x33.toInt = a2_2.toInt + (1 : Int) := by rw [ex33]; exact t_add (by show (-2147483648 : Int) ≤ a2_2.toInt + (1 : Int); omega) (by show a2_2.toInt + (1 : Int) ≤ 2147483647; omega)
        refine lv_iinc (v := x33) (lv' := [(2, .int x33), (0, .ref (g 45)), (1, .int p1)]) hx hb dX12_seats_45 hl (k := 2) rfl (by rw [ex33]; rfl) (by decide) rfl (fun ls hl => ?_)
        refine lv_goto (tgt := 2) hx hb dX12_seats_48 (by decide) ?_
        exact ih_2 x33 I_44 J_44 R32 L_44 _ _ _ (show (12 - x33.toInt) < (k_2 : Int) from by omega) hvI hvR hsI hsR (show ((0 : Int) ≤ x33.toInt ∧ x33.toInt ≤ (12 : Int)) from by omega) hP hD hS (lv_sub hl [1, 2, 0] rfl)
      have lab_43 : ∀ (b0_43 : Int32) (I_43 : Nat → Int32) (J_43 : Nat → Int64) (R_43 : Nat → Nat → Int32) (L_43 : Nat → Nat → Int64) (H : Heap) (locs : List Loc) (ls : Array Slot), InvI Wm_lo Wm_hi I_43 → InvR Wm_rl R_43 → SmF ([] : List Nat) I0 I_43 → SmF ([38] : List Nat) R0 R_43 → ((0 : Int) ≤ a2_2.toInt ∧ a2_2.toInt ≤ (11 : Int)) → ((0 : Int) ≤ b0_43.toInt ∧ b0_43.toInt ≤ (11 : Int)) → va_P G.1 vwCl (Wm G g q I_43 J_43 R_43 L_43) H → va_D A (Wm G g q I_43 J_43 R_43 L_43) → va_S A s.heap H locs → lv_has ls 7 [(0, .ref (g 45)), (1, .int p1), (2, .int a2_2)] → W p l e (rmD 3 0 0) s m [.ref (g 45), .int p1].toArray below meth c H locs 0 0 Q (F0 m 43 ls [.int b0_43, .ref (g 43)]) := by
        intro b0_43 I_43 J_43 R_43 L_43 H locs ls hvI hvR hsI hsR y0_43 y1_43 hP hD hS hl
        have hv_I_43 := hvI
        refine lv_iconst (v := (-1)) hx hb dX12_seats_43 (by decide) ?_
        exact lab_44 ((-1)) b0_43 I_43 J_43 R_43 L_43 _ _ _ hvI hvR hsI hsR (show ((0 : Int) ≤ a2_2.toInt ∧ a2_2.toInt ≤ (11 : Int)) from by omega) (by decide) (show ((0 : Int) ≤ b0_43.toInt ∧ b0_43.toInt ≤ (11 : Int)) from by omega) hP hD hS (lv_sub hl [0, 1, 2] rfl)
      refine lv_iload_n hx hb dX12_seats_2 rfl (lv_at hl 2 rfl) ?_
      refine lv_bipush (v := 12) hx hb dX12_seats_3 (by decide) ?_
      refine lv_icmp_ge (tgt := 51) hx hb dX12_seats_5 (by decide) (fun c34 => ?_) (fun c34 => ?_)
      · have gc34 : 12 ≤ a2_2.toInt := (tle _ _).mp c34
        refine lv_iconst (v := 0) hx hb dX12_seats_51 (by decide) ?_
        refine lv_istore_n (lv' := [(2, .int 0), (0, .ref (g 45)), (1, .int p1)]) hx hb dX12_seats_52 rfl hl (by decide) rfl (fun ls hl => ?_)
        exact lab_53 13 0 I_2 J_2 R_2 L_2 _ _ _ (show (12 - 0) < ((13 : Nat) : Int) from by omega) hvI hvR hsI hsR (by decide) hP hD hS (lv_sub hl [1, 2, 0] rfl)
      · have gc34 : ¬ (12 ≤ a2_2.toInt) := fun q0 => c34 ((tle _ _).mpr q0)
        refine lv_aload_n hx hb dX12_seats_8 rfl (lv_at hl 0 rfl) ?_
        refine g_get F hK hP 0 (Wm_at0 G g q I_2 J_2 R_2 L_2) clX12 67 (by decide) flX12_216 rfl dX12_seats_9 ?_
        refine lv_iload_n hx hb dX12_seats_12 rfl (lv_at hl 2 rfl) ?_
        refine lv_iload_n hx hb dX12_seats_13 rfl (lv_at hl 2 rfl) ?_
        refine lv_aload_n hx hb dX12_seats_14 rfl (lv_at hl 0 rfl) ?_
        refine g_get F hK hP 0 (Wm_at0 G g q I_2 J_2 R_2 L_2) clX12 21 (by decide) flX12_77 rfl dX12_seats_15 ?_
        refine lv_aload_n hx hb dX12_seats_18 rfl (lv_at hl 0 rfl) ?_
        refine g_get F hK hP 0 (Wm_at0 G g q I_2 J_2 R_2 L_2) clX12 12 (by decide) flX12_48 rfl dX12_seats_19 ?_
        refine cst_i (hsI 10 rfl) ?_
        have w_I0_10 := rg (hvI0 10 (by decide)) (0) (1) rfl rfl
        refine g_iald F hK hP 10 (Wm_at10 G g q I_2 J_2 R_2 L_2) (in_of (by omega)) dX12_seats_22 rfl ?_
        refine lv_topi (fun x35 ex35 => ?_)
        have gx35 : x35.toInt = (R0 7 (Int32.toNatClampNeg (I0 10))).toInt := congrArg Int32.toInt ((ex35).trans (congrFun (hsR 7 rfl) _))
        have fx35 : ((0 : Int) ≤ x35.toInt ∧ x35.toInt ≤ (12 : Int)) := by rw [ex35]; exact hvR 7 (by decide) _ (clamp_lt (n := 2) (in_of (by omega)))
        refine lv_icmp_ge (tgt := 43) hx hb dX12_seats_23 (by decide) (fun c36 => ?_) (fun c36 => ?_)
        · have gc36 : x35.toInt ≤ a2_2.toInt := (tle _ _).mp c36
          exact lab_43 a2_2 I_2 J_2 R_2 L_2 _ _ _ hvI hvR hsI hsR (show ((0 : Int) ≤ a2_2.toInt ∧ a2_2.toInt ≤ (11 : Int)) from by omega) (show ((0 : Int) ≤ a2_2.toInt ∧ a2_2.toInt ≤ (11 : Int)) from by omega) hP hD hS (lv_sub hl [0, 1, 2] rfl)
        · have gc36 : ¬ (x35.toInt ≤ a2_2.toInt) := fun q0 => c36 ((tle _ _).mpr q0)
          refine lv_aload_n hx hb dX12_seats_26 rfl (lv_at hl 0 rfl) ?_
          refine lv_iload_n hx hb dX12_seats_27 rfl (lv_at hl 2 rfl) ?_
          refine lv_iload_n hx hb dX12_seats_28 rfl (lv_at hl 1 rfl) ?_
          refine wvi (As := [.int a2_2, .int p1]) (rest := [.int a2_2, .ref (g 43)]) (b := (g 45)) (d := 1) F hK hP hD hS hA (s_X12_isIn l G g q I_2 J_2 R_2 L_2 hvI hvR  a2_2 p1 (show ((0 : Int) ≤ a2_2.toInt ∧ a2_2.toInt ≤ (11 : Int)) from by omega) (show ((0 : Int) ≤ p1.toInt ∧ p1.toInt ≤ (4 : Int)) from by omega)) kmV_X12_isIn mlX12_479 clX12 rfl 0 (Wm_at0 G g q I_2 J_2 R_2 L_2) ⟨(Nat.le_of_ble_eq_true rfl), (Nat.le_of_ble_eq_true rfl)⟩ hl.1 rfl (Nat.le_of_ble_eq_true rfl) dX12_seats_29 (fun r37 u38 H locs hwr37 hP hD hS => ?_)
          have F0r37 := hwr37
          replace F0r37 : ((0 : Int) ≤ r37.toInt ∧ r37.toInt ≤ (1 : Int)) := F0r37
          refine lv_if_eq (tgt := 43) hx hb dX12_seats_32 (by decide) (fun c39 => ?_) (fun c39 => ?_)
          · have gc39 : r37.toInt = 0 := congrArg Int32.toInt c39
            exact lab_43 a2_2 I_2 J_2 R_2 L_2 _ _ _ hvI hvR hsI hsR (show ((0 : Int) ≤ a2_2.toInt ∧ a2_2.toInt ≤ (11 : Int)) from by omega) (show ((0 : Int) ≤ a2_2.toInt ∧ a2_2.toInt ≤ (11 : Int)) from by omega) hP hD hS (lv_sub hl [0, 1, 2] rfl)
          · have gc39 : ¬ (r37.toInt = 0) := fun q0 => c39 (Int32.toInt_inj.mp q0)
            refine lv_aload_n hx hb dX12_seats_35 rfl (lv_at hl 0 rfl) ?_
            refine lv_iload_n hx hb dX12_seats_36 rfl (lv_at hl 2 rfl) ?_
            refine wvi (As := [.int a2_2]) (rest := [.int a2_2, .ref (g 43)]) (b := (g 45)) (d := 1) F hK hP hD hS hA (s_X12_floorOf l G g q I_2 J_2 R_2 L_2 hvI hvR  a2_2 (show ((0 : Int) ≤ a2_2.toInt ∧ a2_2.toInt ≤ (11 : Int)) from by omega)) kmV_X12_floorOf mlX12_451 clX12 rfl 0 (Wm_at0 G g q I_2 J_2 R_2 L_2) ⟨(Nat.le_of_ble_eq_true rfl), (Nat.le_of_ble_eq_true rfl)⟩ hl.1 rfl (Nat.le_of_ble_eq_true rfl) dX12_seats_37 (fun r40 u41 H locs hwr40 hP hD hS => ?_)
            have F0r40 := hwr40
            replace F0r40 : ((-1 : Int) ≤ r40.toInt ∧ r40.toInt ≤ (4 : Int)) := F0r40
            refine lv_goto (tgt := 44) hx hb dX12_seats_40 (by decide) ?_
            exact lab_44 r40 a2_2 I_2 J_2 R_2 L_2 _ _ _ hvI hvR hsI hsR (show ((0 : Int) ≤ a2_2.toInt ∧ a2_2.toInt ≤ (11 : Int)) from by omega) (show ((-1 : Int) ≤ r40.toInt ∧ r40.toInt ≤ (4 : Int)) from by omega) (show ((0 : Int) ≤ a2_2.toInt ∧ a2_2.toInt ≤ (11 : Int)) from by omega) hP hD hS (lv_sub hl [0, 1, 2] rfl)
  refine lv_iconst (v := 0) hx hb dX12_seats_0 (by decide) ?_
  refine lv_istore_n (lv' := [(2, .int 0), (0, .ref (g 45)), (1, .int p1)]) hx hb dX12_seats_1 rfl hl (by decide) rfl (fun ls hl => ?_)
  exact lab_2 13 0 I0 J0 R0 L0 _ _ _ (show (12 - 0) < ((13 : Nat) : Int) from by omega) hvI hvR hsI hsR (by decide) hP hD hS (lv_sub hl [1, 2, 0] rfl)
set_option maxHeartbeats 4000000 in
set_option maxRecDepth 100000 in
theorem s_X12_fit (l : Launch) (G : Gx) (g q : Nat → Nat) (I0 : Nat → Int32) (J0 : Nat → Int64) (R0 : Nat → Nat → Int32) (L0 : Nat → Nat → Int64) (hvI : InvI Wm_lo Wm_hi I0) (hvR : InvR Wm_rl R0)  (p1 : Int32) (p2 : Int32)  : CtI (S := St) l yX12_fit cX12_fit 4 (some .int) (rmD 5 0 0) G [.ref (g 45), .int p1, .int p2] (Wm G g q I0 J0 R0 L0) (fun r u => InvI Wm_lo Wm_hi u.1 ∧ InvR Wm_rl u.2.2.1 ∧ SmF ([] : List Nat) I0 u.1 ∧ SmF ([38] : List Nat) R0 u.2.2.1) (fun u => Wm G g q u.1 u.2.1 u.2.2.1 u.2.2.2) := by
  refine ctI_of (own := RX12) (by decide +kernel) rfl (Nat.le_of_ble_eq_true rfl) ?_
  intro p e s m below meth c A ls F hr hlk hnm hK hP hD hA hS hl
  have hx := F.1
  have hb := F.2.1
  have hown := F.2.2.2.1
  have hl : lv_has ls 4 [(0, .ref (g 45)), (1, .int p1), (2, .int p2)] := hl
  obtain ⟨Q, hQ⟩ : ∃ Q : State → Prop, Q = MQ below (va_Qi (S := St) (fun r u => InvI Wm_lo Wm_hi u.1 ∧ InvR Wm_rl u.2.2.1 ∧ SmF ([] : List Nat) I0 u.1 ∧ SmF ([38] : List Nat) R0 u.2.2.1) (BX G A (fun u => Wm G g q u.1 u.2.1 u.2.2.1 u.2.2.2)) A) [.ref (g 45), .int p1, .int p2].toArray s 0 0 A := ⟨_, rfl⟩
  rw [show (MQ below (va_Qi (S := St) (fun r u => InvI Wm_lo Wm_hi u.1 ∧ InvR Wm_rl u.2.2.1 ∧ SmF ([] : List Nat) I0 u.1 ∧ SmF ([38] : List Nat) R0 u.2.2.1) (BX G A (fun u => Wm G g q u.1 u.2.1 u.2.2.1 u.2.2.2)) A) [.ref (g 45), .int p1, .int p2].toArray s (rmD 5 0 0).cells (rmD 5 0 0).slots A) = Q from hQ.symm]
  have hsI := smF_rf ([] : List Nat) I0
  have hsR := smF_rf ([38] : List Nat) R0
  have hvI0 := hvI
  have lab_16 : ∀  (I_16 : Nat → Int32) (J_16 : Nat → Int64) (R_16 : Nat → Nat → Int32) (L_16 : Nat → Nat → Int64) (H : Heap) (locs : List Loc) (ls : Array Slot), InvI Wm_lo Wm_hi I_16 → InvR Wm_rl R_16 → SmF ([] : List Nat) I0 I_16 → SmF ([38] : List Nat) R0 R_16 → va_P G.1 vwCl (Wm G g q I_16 J_16 R_16 L_16) H → va_D A (Wm G g q I_16 J_16 R_16 L_16) → va_S A s.heap H locs → lv_has ls 4 [] → W p l e (rmD 5 0 0) s m [.ref (g 45), .int p1, .int p2].toArray below meth c H locs 0 0 Q (F0 m 16 ls []) := by
    intro I_16 J_16 R_16 L_16 H locs ls hvI hvR hsI hsR hP hD hS hl
    have hv_I_16 := hvI
    refine lv_ldcw hx hb hown (F.2.2.2.2 _ cnX12_538) dX12_fit_16 ?_
    rw [hQ]
    exact q_i F hr hlk (I_16, J_16, R_16, L_16) hP hD hS ⟨hvI, hvR, hsI, hsR⟩ dX12_fit_19 (Nat.le_of_ble_eq_true rfl) (Nat.le_of_ble_eq_true rfl)
  refine lv_iload_n hx hb dX12_fit_0 rfl (lv_at hl 1 rfl) ?_
  refine w0i (As := [.int p1]) (rest := []) (d := 2) F hK hP hD hS hA (s_X12_isDay l G  p1 ) kmS_X12_isDay mlX12_488 ⟨(Nat.le_of_ble_eq_true rfl), (Nat.le_of_ble_eq_true rfl)⟩ hl.1 rfl (Nat.le_of_ble_eq_true rfl) dX12_fit_1 (fun r1 u2 H locs hwr1 hP hD hS => ?_)
  obtain ⟨F0r1, F1r1⟩ := hwr1
  replace F0r1 : ((0 : Int) ≤ r1.toInt ∧ r1.toInt ≤ (1 : Int)) := F0r1
  replace F1r1 : (r1.toInt = 1 → (0 ≤ p1.toInt ∧ p1.toInt ≤ 4)) := F1r1
  refine lv_if_eq (tgt := 16) hx hb dX12_fit_4 (by decide) (fun c3 => ?_) (fun c3 => ?_)
  · have gc3 : r1.toInt = 0 := congrArg Int32.toInt c3
    exact lab_16  I0 J0 R0 L0 _ _ _ hvI hvR hsI hsR  hP hD hS (lv_sub hl [] rfl)
  · have gc3 : ¬ (r1.toInt = 0) := fun q0 => c3 (Int32.toInt_inj.mp q0)
    refine lv_iload_n hx hb dX12_fit_7 rfl (lv_at hl 2 rfl) ?_
    refine lv_iconst (v := 0) hx hb dX12_fit_8 (by decide) ?_
    refine lv_iconst (v := 2) hx hb dX12_fit_9 (by decide) ?_
    refine w0i (As := [.int p2, .int 0, .int 2]) (rest := []) (d := 1) F hK hP hD hS hA (s_X12_is l G  p2 0 2 (by decide) (by decide)) kmS_X12_is mlX12_316 ⟨(Nat.le_of_ble_eq_true rfl), (Nat.le_of_ble_eq_true rfl)⟩ hl.1 rfl (Nat.le_of_ble_eq_true rfl) dX12_fit_10 (fun r4 u5 H locs hwr4 hP hD hS => ?_)
    obtain ⟨F0r4, F1r4⟩ := hwr4
    replace F0r4 : ((0 : Int) ≤ r4.toInt ∧ r4.toInt ≤ (1 : Int)) := F0r4
    replace F1r4 : (r4.toInt = 1 → ((0 : Int) ≤ p2.toInt ∧ p2.toInt ≤ (2 : Int))) := F1r4
    refine lv_if_ne (tgt := 20) hx hb dX12_fit_13 (by decide) (fun c6 => ?_) (fun c6 => ?_)
    · have gc6 : ¬ (r4.toInt = 0) := fun q0 => c6 (Int32.toInt_inj.mp q0)
      refine lv_aload_n hx hb dX12_fit_20 rfl (lv_at hl 0 rfl) ?_
      refine lv_iload_n hx hb dX12_fit_21 rfl (lv_at hl 1 rfl) ?_
      refine wvv (As := [.int p1]) (rest := []) (b := (g 45)) (d := 3) F hK hP hD hS hA (s_X12_seats l G g q I0 J0 R0 L0 hvI hvR  p1 (show ((0 : Int) ≤ p1.toInt ∧ p1.toInt ≤ (4 : Int)) from by omega)) kmV_X12_seats mlX12_602 clX12 rfl 0 (Wm_at0 G g q I0 J0 R0 L0) ⟨(Nat.le_of_ble_eq_true rfl), (Nat.le_of_ble_eq_true rfl)⟩ hl.1 rfl (Nat.le_of_ble_eq_true rfl) dX12_fit_22 (fun u8 H locs hwr7 hP hD hS => ?_)
      obtain ⟨I9, J10, R11, L12⟩ := u8
      replace hP : va_P G.1 vwCl (Wm G g q I9 J10 R11 L12) H := hP
      replace hD : va_D A (Wm G g q I9 J10 R11 L12) := hD
      obtain ⟨hvI, hvR, tIr7, tRr7⟩ := hwr7
      replace hvI : InvI Wm_lo Wm_hi I9 := hvI
      replace hvR : InvR Wm_rl R11 := hvR
      replace tIr7 : SmF ([] : List Nat) I0 I9 := tIr7
      replace tRr7 : SmF ([38] : List Nat) R0 R11 := tRr7
      have hv_I9 := hvI
      have hsI := smF_tr hsI tIr7 (by decide)
      have hsR := smF_tr hsR tRr7 (by decide)
      refine lv_iload_n hx hb dX12_fit_25 rfl (lv_at hl 2 rfl) ?_
      refine lv_if_ne (tgt := 34) hx hb dX12_fit_26 (by decide) (fun c13 => ?_) (fun c13 => ?_)
      · have gc13 : ¬ (p2.toInt = 0) := fun q0 => c13 (Int32.toInt_inj.mp q0)
        refine lv_aload_n hx hb dX12_fit_34 rfl (lv_at hl 0 rfl) ?_
        refine wvi (As := []) (rest := []) (b := (g 45)) (d := 4) F hK hP hD hS hA (s_X12_exchanged l G g q I9 J10 R11 L12 hvI hvR   ) kmV_X12_exchanged mlX12_605 clX12 rfl 0 (Wm_at0 G g q I9 J10 R11 L12) ⟨(Nat.le_of_ble_eq_true rfl), (Nat.le_of_ble_eq_true rfl)⟩ hl.1 rfl (Nat.le_of_ble_eq_true rfl) dX12_fit_35 (fun r14 u15 H locs hwr14 hP hD hS => ?_)
        obtain ⟨I16, J17, R18, L19⟩ := u15
        replace hP : va_P G.1 vwCl (Wm G g q I16 J17 R18 L19) H := hP
        replace hD : va_D A (Wm G g q I16 J17 R18 L19) := hD
        obtain ⟨hvI, hvR, tIr14, tRr14, F0r14⟩ := hwr14
        replace F0r14 : ((0 : Int) ≤ r14.toInt ∧ r14.toInt ≤ (50 : Int)) := F0r14
        replace hvI : InvI Wm_lo Wm_hi I16 := hvI
        replace hvR : InvR Wm_rl R18 := hvR
        replace tIr14 : SmF ([] : List Nat) I9 I16 := tIr14
        replace tRr14 : SmF ([38] : List Nat) R11 R18 := tRr14
        have hv_I16 := hvI
        have hsI := smF_tr hsI tIr14 (by decide)
        have hsR := smF_tr hsR tRr14 (by decide)
        refine lv_istore_n (lv' := [(3, .int r14), (0, .ref (g 45)), (1, .int p1), (2, .int p2)]) hx hb dX12_fit_38 rfl hl (by decide) rfl (fun ls hl => ?_)
        refine lv_iload_n hx hb dX12_fit_39 rfl (lv_at hl 3 rfl) ?_
        refine lv_iconst (v := 1) hx hb dX12_fit_40 (by decide) ?_
        refine lv_icmp_ne (tgt := 51) hx hb dX12_fit_41 (by decide) (fun c20 => ?_) (fun c20 => ?_)
        · have gc20 : ¬ (p2.toInt = 1) := fun q0 => c20 (Int32.toInt_inj.mp q0)
          refine lv_iload_n hx hb dX12_fit_51 rfl (lv_at hl 0 rfl) ?_
          rw [hQ]
          exact q_i F hr hlk (I16, J17, R18, L19) hP hD hS ⟨hvI, hvR, hsI, hsR⟩ dX12_fit_52 (Nat.le_of_ble_eq_true rfl) (Nat.le_of_ble_eq_true rfl)
        · have gc20 : p2.toInt = 1 := congrArg Int32.toInt c20
          refine lv_aload_n hx hb dX12_fit_44 rfl (lv_at hl 1 rfl) ?_
          refine wvi (As := []) (rest := []) (b := (g 45)) (d := 1) F hK hP hD hS hA (s_X12_fitOf l G g q I16 J17 R18 L19 hvI hvR   ) kmV_X12_fitOf mlX12_590 clX12 rfl 0 (Wm_at0 G g q I16 J17 R18 L19) ⟨(Nat.le_of_ble_eq_true rfl), (Nat.le_of_ble_eq_true rfl)⟩ hl.1 rfl (Nat.le_of_ble_eq_true rfl) dX12_fit_45 (fun r21 u22 H locs hwr21 hP hD hS => ?_)
          refine lv_goto (tgt := 52) hx hb dX12_fit_48 (by decide) ?_
          rw [hQ]
          exact q_i F hr hlk (I16, J17, R18, L19) hP hD hS ⟨hvI, hvR, hsI, hsR⟩ dX12_fit_52 (Nat.le_of_ble_eq_true rfl) (Nat.le_of_ble_eq_true rfl)
      · have gc13 : p2.toInt = 0 := congrArg Int32.toInt c13
        refine lv_aload_n hx hb dX12_fit_29 rfl (lv_at hl 0 rfl) ?_
        refine wvi (As := []) (rest := []) (b := (g 45)) (d := 1) F hK hP hD hS hA (s_X12_fitOf l G g q I9 J10 R11 L12 hvI hvR   ) kmV_X12_fitOf mlX12_590 clX12 rfl 0 (Wm_at0 G g q I9 J10 R11 L12) ⟨(Nat.le_of_ble_eq_true rfl), (Nat.le_of_ble_eq_true rfl)⟩ hl.1 rfl (Nat.le_of_ble_eq_true rfl) dX12_fit_30 (fun r23 u24 H locs hwr23 hP hD hS => ?_)
        rw [hQ]
        exact q_i F hr hlk (I9, J10, R11, L12) hP hD hS ⟨hvI, hvR, hsI, hsR⟩ dX12_fit_33 (Nat.le_of_ble_eq_true rfl) (Nat.le_of_ble_eq_true rfl)
    · have gc6 : r4.toInt = 0 := congrArg Int32.toInt c6
      exact lab_16  I0 J0 R0 L0 _ _ _ hvI hvR hsI hsR  hP hD hS (lv_sub hl [] rfl)
set_option maxHeartbeats 4000000 in
set_option maxRecDepth 100000 in
theorem s_X12_round (l : Launch) (G : Gx) (g q : Nat → Nat) (I0 : Nat → Int32) (J0 : Nat → Int64) (R0 : Nat → Nat → Int32) (L0 : Nat → Nat → Int64) (hvI : InvI Wm_lo Wm_hi I0) (hvR : InvR Wm_rl R0)    : CtI (S := St) l yX12_round cX12_round 7 (some .boolean) (rmD 6 0 0) G [.ref (g 45)] (Wm G g q I0 J0 R0 L0) (fun r u => InvI Wm_lo Wm_hi u.1 ∧ InvR Wm_rl u.2.2.1 ∧ SmF ([] : List Nat) I0 u.1 ∧ SmF ([36] : List Nat) R0 u.2.2.1 ∧ ((0 : Int) ≤ r.toInt ∧ r.toInt ≤ (1 : Int))) (fun u => Wm G g q u.1 u.2.1 u.2.2.1 u.2.2.2) := by
  refine ctI_of (own := RX12) (by decide +kernel) rfl (Nat.le_of_ble_eq_true rfl) ?_
  intro p e s m below meth c A ls F hr hlk hnm hK hP hD hA hS hl
  have hx := F.1
  have hb := F.2.1
  have hown := F.2.2.2.1
  have hl : lv_has ls 7 [(0, .ref (g 45))] := hl
  obtain ⟨Q, hQ⟩ : ∃ Q : State → Prop, Q = MQ below (va_Qi (S := St) (fun r u => InvI Wm_lo Wm_hi u.1 ∧ InvR Wm_rl u.2.2.1 ∧ SmF ([] : List Nat) I0 u.1 ∧ SmF ([36] : List Nat) R0 u.2.2.1 ∧ ((0 : Int) ≤ r.toInt ∧ r.toInt ≤ (1 : Int))) (BX G A (fun u => Wm G g q u.1 u.2.1 u.2.2.1 u.2.2.2)) A) [.ref (g 45)].toArray s 0 0 A := ⟨_, rfl⟩
  rw [show (MQ below (va_Qi (S := St) (fun r u => InvI Wm_lo Wm_hi u.1 ∧ InvR Wm_rl u.2.2.1 ∧ SmF ([] : List Nat) I0 u.1 ∧ SmF ([36] : List Nat) R0 u.2.2.1 ∧ ((0 : Int) ≤ r.toInt ∧ r.toInt ≤ (1 : Int))) (BX G A (fun u => Wm G g q u.1 u.2.1 u.2.2.1 u.2.2.2)) A) [.ref (g 45)].toArray s (rmD 6 0 0).cells (rmD 6 0 0).slots A) = Q from hQ.symm]
  have hsI := smF_rf ([] : List Nat) I0
  have hsR := smF_rf ([36] : List Nat) R0
  have hvI0 := hvI
  have lab_4 : ∀ (k_4 : Nat) (a1_4 : Int32) (a2_4 : Int32) (I_4 : Nat → Int32) (J_4 : Nat → Int64) (R_4 : Nat → Nat → Int32) (L_4 : Nat → Nat → Int64) (H : Heap) (locs : List Loc) (ls : Array Slot), ((12 - a2_4.toInt) < (k_4 : Int)) → InvI Wm_lo Wm_hi I_4 → InvR Wm_rl R_4 → SmF ([] : List Nat) I0 I_4 → SmF ([36] : List Nat) R0 R_4 → ((0 : Int) ≤ a1_4.toInt ∧ a1_4.toInt ≤ (1 : Int)) → ((0 : Int) ≤ a2_4.toInt ∧ a2_4.toInt ≤ (12 : Int)) → va_P G.1 vwCl (Wm G g q I_4 J_4 R_4 L_4) H → va_D A (Wm G g q I_4 J_4 R_4 L_4) → va_S A s.heap H locs → lv_has ls 7 [(0, .ref (g 45)), (1, .int a1_4), (2, .int a2_4)] → W p l e (rmD 6 0 0) s m [.ref (g 45)].toArray below meth c H locs 0 0 Q (F0 m 4 ls []) := by
    intro k_4
    induction k_4 with
    | zero =>
      intro a1_4 a2_4 I_4 J_4 R_4 L_4 H locs ls hm hvI hvR hsI hsR y0_4 y1_4 hP hD hS hl
      have hv_I_4 := hvI
      exact absurd hm (by omega)
    | succ k_4 ih_4 =>
      intro a1_4 a2_4 I_4 J_4 R_4 L_4 H locs ls hm hvI hvR hsI hsR y0_4 y1_4 hP hD hS hl
      have hv_I_4 := hvI
      have lab_127 : ∀ (a1_127 : Int32) (b0_127 : Int32) (b1_127 : Int32) (I_127 : Nat → Int32) (J_127 : Nat → Int64) (R_127 : Nat → Nat → Int32) (L_127 : Nat → Nat → Int64) (H : Heap) (locs : List Loc) (ls : Array Slot), InvI Wm_lo Wm_hi I_127 → InvR Wm_rl R_127 → SmF ([] : List Nat) I0 I_127 → SmF ([36] : List Nat) R0 R_127 → ((0 : Int) ≤ a1_127.toInt ∧ a1_127.toInt ≤ (1 : Int)) → ((0 : Int) ≤ a2_4.toInt ∧ a2_4.toInt ≤ (11 : Int)) → ((0 : Int) ≤ b1_127.toInt ∧ b1_127.toInt ≤ (11 : Int)) → va_P G.1 vwCl (Wm G g q I_127 J_127 R_127 L_127) H → va_D A (Wm G g q I_127 J_127 R_127 L_127) → va_S A s.heap H locs → lv_has ls 7 [(0, .ref (g 45)), (1, .int a1_127), (2, .int a2_4)] → W p l e (rmD 6 0 0) s m [.ref (g 45)].toArray below meth c H locs 0 0 Q (F0 m 127 ls [.int b0_127, .int b1_127, .ref (g 40)]) := by
        intro a1_127 b0_127 b1_127 I_127 J_127 R_127 L_127 H locs ls hvI hvR hsI hsR y0_127 y1_127 y2_127 hP hD hS hl
        have hv_I_127 := hvI
        refine p_row (W1 := fun y => Wm G g q I_127 J_127 y L_127) (n := 36) F hK hP hD hS 41 (Wm_at41 G g q I_127 J_127 R_127 L_127) (in_of (by omega)) dX12_round_127 (Wm_rowR36 G g q I_127 J_127 R_127 L_127) (fun R1 H locs eR1 hP hD hS => ?_)
        have hvR : InvR Wm_rl R1 := inv_upR hvR 36 eR1 (upd_in (hvR 36 (by decide)) (full _))
        have hsR := smF_up hsR eR1 (by decide)
        obtain ⟨x2, ex2⟩ : ∃ y : Int32, y = a2_4 + 1 := ⟨_, rfl⟩
        have fx2 : x2.toInt = a2_4.toInt + (1 : Int) := by rw [ex2]; exact t_add (by show (-2147483648 : Int) ≤ a2_4.toInt + (1 : Int); omega) (by show a2_4.toInt + (1 : Int) ≤ 2147483647; omega)
        refine lv_iinc (v := x2) (lv' := [(2, .int x2), (0, .ref (g 45)), (1, .int a1_127)]) hx hb dX12_round_128 hl (k := 2) rfl (by rw [ex2]; rfl) (by decide) rfl (fun ls hl => ?_)
        refine lv_goto (tgt := 4) hx hb dX12_round_131 (by decide) ?_
        exact ih_4 a1_127 x2 I_127 J_127 R1 L_127 _ _ _ (show (12 - x2.toInt) < (k_4 : Int) from by omega) hvI hvR hsI hsR (show ((0 : Int) ≤ a1_127.toInt ∧ a1_127.toInt ≤ (1 : Int)) from by omega) (show ((0 : Int) ≤ x2.toInt ∧ x2.toInt ≤ (12 : Int)) from by omega) hP hD hS (lv_sub hl [1, 2, 0] rfl)
      have lab_106 : ∀ (a3_106 : Int32) (b0_106 : Int32) (I_106 : Nat → Int32) (J_106 : Nat → Int64) (R_106 : Nat → Nat → Int32) (L_106 : Nat → Nat → Int64) (H : Heap) (locs : List Loc) (ls : Array Slot), InvI Wm_lo Wm_hi I_106 → InvR Wm_rl R_106 → SmF ([] : List Nat) I0 I_106 → SmF ([36] : List Nat) R0 R_106 → ((0 : Int) ≤ a2_4.toInt ∧ a2_4.toInt ≤ (11 : Int)) → ((-1 : Int) ≤ a3_106.toInt ∧ a3_106.toInt ≤ (31 : Int)) → ((0 : Int) ≤ b0_106.toInt ∧ b0_106.toInt ≤ (1 : Int)) → va_P G.1 vwCl (Wm G g q I_106 J_106 R_106 L_106) H → va_D A (Wm G g q I_106 J_106 R_106 L_106) → va_S A s.heap H locs → lv_has ls 7 [(0, .ref (g 45)), (2, .int a2_4), (3, .int a3_106)] → W p l e (rmD 6 0 0) s m [.ref (g 45)].toArray below meth c H locs 0 0 Q (F0 m 106 ls [.int b0_106]) := by
        intro a3_106 b0_106 I_106 J_106 R_106 L_106 H locs ls hvI hvR hsI hsR y0_106 y1_106 y2_106 hP hD hS hl
        have hv_I_106 := hvI
        refine lv_istore_n (lv' := [(1, .int b0_106), (0, .ref (g 45)), (2, .int a2_4), (3, .int a3_106)]) hx hb dX12_round_106 rfl hl (by decide) rfl (fun ls hl => ?_)
        refine lv_aload_n hx hb dX12_round_107 rfl (lv_at hl 1 rfl) ?_
        refine g_get F hK hP 0 (Wm_at0 G g q I_106 J_106 R_106 L_106) clX12 58 (by decide) flX12_189 rfl dX12_round_108 ?_
        refine lv_iload_n hx hb dX12_round_111 rfl (lv_at hl 2 rfl) ?_
        refine lv_iload_n hx hb dX12_round_112 rfl (lv_at hl 3 rfl) ?_
        refine lv_iconst (v := (-1)) hx hb dX12_round_113 (by decide) ?_
        refine lv_icmp_ne (tgt := 126) hx hb dX12_round_114 (by decide) (fun c3 => ?_) (fun c3 => ?_)
        · have gc3 : ¬ (a3_106.toInt = (-1)) := fun q0 => c3 (Int32.toInt_inj.mp q0)
          refine lv_iload_n hx hb dX12_round_126 rfl (lv_at hl 3 rfl) ?_
          exact lab_127 b0_106 a3_106 a2_4 I_106 J_106 R_106 L_106 _ _ _ hvI hvR hsI hsR (show ((0 : Int) ≤ b0_106.toInt ∧ b0_106.toInt ≤ (1 : Int)) from by omega) (show ((0 : Int) ≤ a2_4.toInt ∧ a2_4.toInt ≤ (11 : Int)) from by omega) (show ((0 : Int) ≤ a2_4.toInt ∧ a2_4.toInt ≤ (11 : Int)) from by omega) hP hD hS (lv_sub hl [1, 0, 2] rfl)
        · have gc3 : a3_106.toInt = (-1) := congrArg Int32.toInt c3
          refine lv_aload_n hx hb dX12_round_117 rfl (lv_at hl 1 rfl) ?_
          refine g_get F hK hP 0 (Wm_at0 G g q I_106 J_106 R_106 L_106) clX12 58 (by decide) flX12_189 rfl dX12_round_118 ?_
          refine lv_iload_n hx hb dX12_round_121 rfl (lv_at hl 2 rfl) ?_
          refine g_iald F hK hP 41 (Wm_at41 G g q I_106 J_106 R_106 L_106) (in_of (by omega)) dX12_round_122 rfl ?_
          refine lv_topi (fun x4 ex4 => ?_)
          have gx4 : x4.toInt = (R_106 36 (Int32.toNatClampNeg a2_4)).toInt := congrArg Int32.toInt (ex4)
          refine lv_goto (tgt := 127) hx hb dX12_round_123 (by decide) ?_
          exact lab_127 b0_106 x4 a2_4 I_106 J_106 R_106 L_106 _ _ _ hvI hvR hsI hsR (show ((0 : Int) ≤ b0_106.toInt ∧ b0_106.toInt ≤ (1 : Int)) from by omega) (show ((0 : Int) ≤ a2_4.toInt ∧ a2_4.toInt ≤ (11 : Int)) from by omega) (show ((0 : Int) ≤ a2_4.toInt ∧ a2_4.toInt ≤ (11 : Int)) from by omega) hP hD hS (lv_sub hl [1, 0, 2] rfl)
      have lab_101 : ∀ (a3_101 : Int32) (I_101 : Nat → Int32) (J_101 : Nat → Int64) (R_101 : Nat → Nat → Int32) (L_101 : Nat → Nat → Int64) (H : Heap) (locs : List Loc) (ls : Array Slot), InvI Wm_lo Wm_hi I_101 → InvR Wm_rl R_101 → SmF ([] : List Nat) I0 I_101 → SmF ([36] : List Nat) R0 R_101 → ((0 : Int) ≤ a2_4.toInt ∧ a2_4.toInt ≤ (11 : Int)) → ((-1 : Int) ≤ a3_101.toInt ∧ a3_101.toInt ≤ (31 : Int)) → va_P G.1 vwCl (Wm G g q I_101 J_101 R_101 L_101) H → va_D A (Wm G g q I_101 J_101 R_101 L_101) → va_S A s.heap H locs → lv_has ls 7 [(0, .ref (g 45)), (2, .int a2_4), (3, .int a3_101)] → W p l e (rmD 6 0 0) s m [.ref (g 45)].toArray below meth c H locs 0 0 Q (F0 m 101 ls []) := by
        intro a3_101 I_101 J_101 R_101 L_101 H locs ls hvI hvR hsI hsR y0_101 y1_101 hP hD hS hl
        have hv_I_101 := hvI
        refine lv_iconst (v := 1) hx hb dX12_round_101 (by decide) ?_
        refine lv_goto (tgt := 106) hx hb dX12_round_102 (by decide) ?_
        exact lab_106 a3_101 1 I_101 J_101 R_101 L_101 _ _ _ hvI hvR hsI hsR (show ((0 : Int) ≤ a2_4.toInt ∧ a2_4.toInt ≤ (11 : Int)) from by omega) (show ((-1 : Int) ≤ a3_101.toInt ∧ a3_101.toInt ≤ (31 : Int)) from by omega) (by decide) hP hD hS (lv_sub hl [0, 1, 2] rfl)
      have lab_105 : ∀ (a3_105 : Int32) (I_105 : Nat → Int32) (J_105 : Nat → Int64) (R_105 : Nat → Nat → Int32) (L_105 : Nat → Nat → Int64) (H : Heap) (locs : List Loc) (ls : Array Slot), InvI Wm_lo Wm_hi I_105 → InvR Wm_rl R_105 → SmF ([] : List Nat) I0 I_105 → SmF ([36] : List Nat) R0 R_105 → ((0 : Int) ≤ a2_4.toInt ∧ a2_4.toInt ≤ (11 : Int)) → ((-1 : Int) ≤ a3_105.toInt ∧ a3_105.toInt ≤ (31 : Int)) → va_P G.1 vwCl (Wm G g q I_105 J_105 R_105 L_105) H → va_D A (Wm G g q I_105 J_105 R_105 L_105) → va_S A s.heap H locs → lv_has ls 7 [(0, .ref (g 45)), (2, .int a2_4), (3, .int a3_105)] → W p l e (rmD 6 0 0) s m [.ref (g 45)].toArray below meth c H locs 0 0 Q (F0 m 105 ls []) := by
        intro a3_105 I_105 J_105 R_105 L_105 H locs ls hvI hvR hsI hsR y0_105 y1_105 hP hD hS hl
        have hv_I_105 := hvI
        refine lv_iconst (v := 0) hx hb dX12_round_105 (by decide) ?_
        exact lab_106 a3_105 0 I_105 J_105 R_105 L_105 _ _ _ hvI hvR hsI hsR (show ((0 : Int) ≤ a2_4.toInt ∧ a2_4.toInt ≤ (11 : Int)) from by omega) (show ((-1 : Int) ≤ a3_105.toInt ∧ a3_105.toInt ≤ (31 : Int)) from by omega) (by decide) hP hD hS (lv_sub hl [0, 1, 2] rfl)
      have lab_25 : ∀ (k_25 : Nat) (a3_25 : Int32) (a4_25 : Int32) (a5_25 : Int32) (I_25 : Nat → Int32) (J_25 : Nat → Int64) (R_25 : Nat → Nat → Int32) (L_25 : Nat → Nat → Int64) (H : Heap) (locs : List Loc) (ls : Array Slot), ((32 - a5_25.toInt) < (k_25 : Int)) → InvI Wm_lo Wm_hi I_25 → InvR Wm_rl R_25 → SmF ([] : List Nat) I0 I_25 → SmF ([36] : List Nat) R0 R_25 → ((0 : Int) ≤ a2_4.toInt ∧ a2_4.toInt ≤ (11 : Int)) → ((-1 : Int) ≤ a3_25.toInt ∧ a3_25.toInt ≤ (31 : Int)) → ((0 : Int) ≤ a5_25.toInt ∧ a5_25.toInt ≤ (32 : Int)) → va_P G.1 vwCl (Wm G g q I_25 J_25 R_25 L_25) H → va_D A (Wm G g q I_25 J_25 R_25 L_25) → va_S A s.heap H locs → lv_has ls 7 [(0, .ref (g 45)), (1, .int a1_4), (2, .int a2_4), (3, .int a3_25), (4, .int a4_25), (5, .int a5_25)] → W p l e (rmD 6 0 0) s m [.ref (g 45)].toArray below meth c H locs 0 0 Q (F0 m 25 ls []) := by
        intro k_25
        induction k_25 with
        | zero =>
          intro a3_25 a4_25 a5_25 I_25 J_25 R_25 L_25 H locs ls hm hvI hvR hsI hsR y0_25 y1_25 y2_25 hP hD hS hl
          have hv_I_25 := hvI
          exact absurd hm (by omega)
        | succ k_25 ih_25 =>
          intro a3_25 a4_25 a5_25 I_25 J_25 R_25 L_25 H locs ls hm hvI hvR hsI hsR y0_25 y1_25 y2_25 hP hD hS hl
          have hv_I_25 := hvI
          have lab_76 : ∀ (a3_76 : Int32) (a4_76 : Int32) (I_76 : Nat → Int32) (J_76 : Nat → Int64) (R_76 : Nat → Nat → Int32) (L_76 : Nat → Nat → Int64) (H : Heap) (locs : List Loc) (ls : Array Slot), InvI Wm_lo Wm_hi I_76 → InvR Wm_rl R_76 → SmF ([] : List Nat) I0 I_76 → SmF ([36] : List Nat) R0 R_76 → ((-1 : Int) ≤ a3_76.toInt ∧ a3_76.toInt ≤ (31 : Int)) → ((0 : Int) ≤ a5_25.toInt ∧ a5_25.toInt ≤ (31 : Int)) → va_P G.1 vwCl (Wm G g q I_76 J_76 R_76 L_76) H → va_D A (Wm G g q I_76 J_76 R_76 L_76) → va_S A s.heap H locs → lv_has ls 7 [(0, .ref (g 45)), (1, .int a1_4), (2, .int a2_4), (3, .int a3_76), (4, .int a4_76), (5, .int a5_25)] → W p l e (rmD 6 0 0) s m [.ref (g 45)].toArray below meth c H locs 0 0 Q (F0 m 76 ls []) := by
            intro a3_76 a4_76 I_76 J_76 R_76 L_76 H locs ls hvI hvR hsI hsR y0_76 y1_76 hP hD hS hl
            have hv_I_76 := hvI
            obtain ⟨x5, ex5⟩ : ∃ y : Int32, y = a5_25 + 1 := ⟨_, rfl⟩
            have fx5 : x5.toInt = a5_25.toInt + (1 : Int) := by rw [ex5]; exact t_add (by show (-2147483648 : Int) ≤ a5_25.toInt + (1 : Int); omega) (by show a5_25.toInt + (1 : Int) ≤ 2147483647; omega)
            refine lv_iinc (v := x5) (lv' := [(5, .int x5), (0, .ref (g 45)), (1, .int a1_4), (2, .int a2_4), (3, .int a3_76), (4, .int a4_76)]) hx hb dX12_round_76 hl (k := 5) rfl (by rw [ex5]; rfl) (by decide) rfl (fun ls hl => ?_)
            refine lv_goto (tgt := 25) hx hb dX12_round_79 (by decide) ?_
            exact ih_25 a3_76 a4_76 x5 I_76 J_76 R_76 L_76 _ _ _ (show (32 - x5.toInt) < (k_25 : Int) from by omega) hvI hvR hsI hsR (show ((0 : Int) ≤ a2_4.toInt ∧ a2_4.toInt ≤ (11 : Int)) from by omega) (show ((-1 : Int) ≤ a3_76.toInt ∧ a3_76.toInt ≤ (31 : Int)) from by omega) (show ((0 : Int) ≤ x5.toInt ∧ x5.toInt ≤ (32 : Int)) from by omega) hP hD hS (lv_sub hl [1, 2, 3, 4, 5, 0] rfl)
          have lab_69 : ∀ (a6_69 : Int32) (I_69 : Nat → Int32) (J_69 : Nat → Int64) (R_69 : Nat → Nat → Int32) (L_69 : Nat → Nat → Int64) (H : Heap) (locs : List Loc) (ls : Array Slot), InvI Wm_lo Wm_hi I_69 → InvR Wm_rl R_69 → SmF ([] : List Nat) I0 I_69 → SmF ([36] : List Nat) R0 R_69 → ((0 : Int) ≤ a5_25.toInt ∧ a5_25.toInt ≤ (31 : Int)) → va_P G.1 vwCl (Wm G g q I_69 J_69 R_69 L_69) H → va_D A (Wm G g q I_69 J_69 R_69 L_69) → va_S A s.heap H locs → lv_has ls 7 [(0, .ref (g 45)), (1, .int a1_4), (2, .int a2_4), (5, .int a5_25), (6, .int a6_69)] → W p l e (rmD 6 0 0) s m [.ref (g 45)].toArray below meth c H locs 0 0 Q (F0 m 69 ls []) := by
            intro a6_69 I_69 J_69 R_69 L_69 H locs ls hvI hvR hsI hsR y0_69 hP hD hS hl
            have hv_I_69 := hvI
            refine lv_iload hx hb dX12_round_69 (lv_at hl 3 rfl) ?_
            refine lv_istore_n (lv' := [(3, .int a5_25), (0, .ref (g 45)), (1, .int a1_4), (2, .int a2_4), (5, .int a5_25), (6, .int a6_69)]) hx hb dX12_round_71 rfl hl (by decide) rfl (fun ls hl => ?_)
            refine lv_iload hx hb dX12_round_72 (lv_at hl 5 rfl) ?_
            refine lv_istore (lv' := [(4, .int a6_69), (3, .int a5_25), (0, .ref (g 45)), (1, .int a1_4), (2, .int a2_4), (5, .int a5_25), (6, .int a6_69)]) hx hb dX12_round_74 hl (by decide) rfl (fun ls hl => ?_)
            exact lab_76 a5_25 a6_69 I_69 J_69 R_69 L_69 _ _ _ hvI hvR hsI hsR (show ((-1 : Int) ≤ a5_25.toInt ∧ a5_25.toInt ≤ (31 : Int)) from by omega) (show ((0 : Int) ≤ a5_25.toInt ∧ a5_25.toInt ≤ (31 : Int)) from by omega) hP hD hS (lv_sub hl [2, 3, 4, 1, 0, 5] rfl)
          refine lv_iload hx hb dX12_round_25 (lv_at hl 5 rfl) ?_
          refine lv_bipush (v := 32) hx hb dX12_round_27 (by decide) ?_
          refine lv_icmp_ge (tgt := 82) hx hb dX12_round_29 (by decide) (fun c6 => ?_) (fun c6 => ?_)
          · have gc6 : 32 ≤ a5_25.toInt := (tle _ _).mp c6
            refine lv_iload_n hx hb dX12_round_82 rfl (lv_at hl 1 rfl) ?_
            refine lv_if_ne (tgt := 101) hx hb dX12_round_83 (by decide) (fun c7 => ?_) (fun c7 => ?_)
            · have gc7 : ¬ (a1_4.toInt = 0) := fun q0 => c7 (Int32.toInt_inj.mp q0)
              exact lab_101 a3_25 I_25 J_25 R_25 L_25 _ _ _ hvI hvR hsI hsR (show ((0 : Int) ≤ a2_4.toInt ∧ a2_4.toInt ≤ (11 : Int)) from by omega) (show ((-1 : Int) ≤ a3_25.toInt ∧ a3_25.toInt ≤ (31 : Int)) from by omega) hP hD hS (lv_sub hl [0, 2, 3] rfl)
            · have gc7 : a1_4.toInt = 0 := congrArg Int32.toInt c7
              refine lv_iload_n hx hb dX12_round_86 rfl (lv_at hl 3 rfl) ?_
              refine lv_iconst (v := (-1)) hx hb dX12_round_87 (by decide) ?_
              refine lv_icmp_eq (tgt := 105) hx hb dX12_round_88 (by decide) (fun c8 => ?_) (fun c8 => ?_)
              · have gc8 : a3_25.toInt = (-1) := congrArg Int32.toInt c8
                exact lab_105 a3_25 I_25 J_25 R_25 L_25 _ _ _ hvI hvR hsI hsR (show ((0 : Int) ≤ a2_4.toInt ∧ a2_4.toInt ≤ (11 : Int)) from by omega) (show ((-1 : Int) ≤ a3_25.toInt ∧ a3_25.toInt ≤ (31 : Int)) from by omega) hP hD hS (lv_sub hl [0, 2, 3] rfl)
              · have gc8 : ¬ (a3_25.toInt = (-1)) := fun q0 => c8 (Int32.toInt_inj.mp q0)
                refine lv_iload_n hx hb dX12_round_91 rfl (lv_at hl 3 rfl) ?_
                refine lv_aload_n hx hb dX12_round_92 rfl (lv_at hl 0 rfl) ?_
                refine g_get F hK hP 0 (Wm_at0 G g q I_25 J_25 R_25 L_25) clX12 58 (by decide) flX12_189 rfl dX12_round_93 ?_
                refine lv_iload_n hx hb dX12_round_96 rfl (lv_at hl 2 rfl) ?_
                refine g_iald F hK hP 41 (Wm_at41 G g q I_25 J_25 R_25 L_25) (in_of (by omega)) dX12_round_97 rfl ?_
                refine lv_topi (fun x9 ex9 => ?_)
                have gx9 : x9.toInt = (R_25 36 (Int32.toNatClampNeg a2_4)).toInt := congrArg Int32.toInt (ex9)
                refine lv_icmp_eq (tgt := 105) hx hb dX12_round_98 (by decide) (fun c10 => ?_) (fun c10 => ?_)
                · have gc10 : a3_25.toInt = x9.toInt := congrArg Int32.toInt c10
                  exact lab_105 a3_25 I_25 J_25 R_25 L_25 _ _ _ hvI hvR hsI hsR (show ((0 : Int) ≤ a2_4.toInt ∧ a2_4.toInt ≤ (11 : Int)) from by omega) (show ((-1 : Int) ≤ a3_25.toInt ∧ a3_25.toInt ≤ (31 : Int)) from by omega) hP hD hS (lv_sub hl [0, 2, 3] rfl)
                · have gc10 : ¬ (a3_25.toInt = x9.toInt) := fun q0 => c10 (Int32.toInt_inj.mp q0)
                  exact lab_101 a3_25 I_25 J_25 R_25 L_25 _ _ _ hvI hvR hsI hsR (show ((0 : Int) ≤ a2_4.toInt ∧ a2_4.toInt ≤ (11 : Int)) from by omega) (show ((-1 : Int) ≤ a3_25.toInt ∧ a3_25.toInt ≤ (31 : Int)) from by omega) hP hD hS (lv_sub hl [0, 2, 3] rfl)
          · have gc6 : ¬ (32 ≤ a5_25.toInt) := fun q0 => c6 ((tle _ _).mpr q0)
            refine lv_aload_n hx hb dX12_round_32 rfl (lv_at hl 0 rfl) ?_
            refine lv_iload_n hx hb dX12_round_33 rfl (lv_at hl 2 rfl) ?_
            refine lv_iload hx hb dX12_round_34 (lv_at hl 5 rfl) ?_
            refine wvi (As := [.int a2_4, .int a5_25]) (rest := []) (b := (g 45)) (d := 2) F hK hP hD hS hA (s_X12_suits l G g q I_25 J_25 R_25 L_25 hvI hvR  a2_4 a5_25 (show ((0 : Int) ≤ a2_4.toInt ∧ a2_4.toInt ≤ (11 : Int)) from by omega)) kmV_X12_suits mlX12_472 clX12 rfl 0 (Wm_at0 G g q I_25 J_25 R_25 L_25) ⟨(Nat.le_of_ble_eq_true rfl), (Nat.le_of_ble_eq_true rfl)⟩ hl.1 rfl (Nat.le_of_ble_eq_true rfl) dX12_round_36 (fun r11 u12 H locs hwr11 hP hD hS => ?_)
            have F0r11 := hwr11
            replace F0r11 : ((0 : Int) ≤ r11.toInt ∧ r11.toInt ≤ (1 : Int)) := F0r11
            refine lv_if_ne (tgt := 45) hx hb dX12_round_39 (by decide) (fun c13 => ?_) (fun c13 => ?_)
            · have gc13 : ¬ (r11.toInt = 0) := fun q0 => c13 (Int32.toInt_inj.mp q0)
              refine lv_aload_n hx hb dX12_round_45 rfl (lv_at hl 0 rfl) ?_
              refine lv_iload_n hx hb dX12_round_46 rfl (lv_at hl 2 rfl) ?_
              refine lv_iload hx hb dX12_round_47 (lv_at hl 5 rfl) ?_
              refine wvi (As := [.int a2_4, .int a5_25]) (rest := []) (b := (g 45)) (d := 5) F hK hP hD hS hA (s_X12_aloneOf l G g q I_25 J_25 R_25 L_25 hvI hvR  a2_4 a5_25 (show ((0 : Int) ≤ a2_4.toInt ∧ a2_4.toInt ≤ (11 : Int)) from by omega)) kmV_X12_aloneOf mlX12_577 clX12 rfl 0 (Wm_at0 G g q I_25 J_25 R_25 L_25) ⟨(Nat.le_of_ble_eq_true rfl), (Nat.le_of_ble_eq_true rfl)⟩ hl.1 rfl (Nat.le_of_ble_eq_true rfl) dX12_round_49 (fun r14 u15 H locs hwr14 hP hD hS => ?_)
              obtain ⟨I16, J17, R18, L19⟩ := u15
              replace hP : va_P G.1 vwCl (Wm G g q I16 J17 R18 L19) H := hP
              replace hD : va_D A (Wm G g q I16 J17 R18 L19) := hD
              obtain ⟨hvI, hvR, tIr14, tRr14⟩ := hwr14
              replace hvI : InvI Wm_lo Wm_hi I16 := hvI
              replace hvR : InvR Wm_rl R18 := hvR
              replace tIr14 : SmF ([] : List Nat) I_25 I16 := tIr14
              replace tRr14 : SmF ([36] : List Nat) R_25 R18 := tRr14
              have hv_I16 := hvI
              have hsI := smF_tr hsI tIr14 (by decide)
              have hsR := smF_tr hsR tRr14 (by decide)
              refine lv_istore (lv' := [(6, .int r14), (0, .ref (g 45)), (1, .int a1_4), (2, .int a2_4), (3, .int a3_25), (4, .int a4_25), (5, .int a5_25)]) hx hb dX12_round_52 hl (by decide) rfl (fun ls hl => ?_)
              refine lv_iload_n hx hb dX12_round_54 rfl (lv_at hl 4 rfl) ?_
              refine lv_iconst (v := (-1)) hx hb dX12_round_55 (by decide) ?_
              refine lv_icmp_eq (tgt := 69) hx hb dX12_round_56 (by decide) (fun c20 => ?_) (fun c20 => ?_)
              · have gc20 : a3_25.toInt = (-1) := congrArg Int32.toInt c20
                exact lab_69 r14 I16 J17 R18 L19 _ _ _ hvI hvR hsI hsR (show ((0 : Int) ≤ a5_25.toInt ∧ a5_25.toInt ≤ (31 : Int)) from by omega) hP hD hS (lv_sub hl [1, 2, 3, 6, 0] rfl)
              · have gc20 : ¬ (a3_25.toInt = (-1)) := fun q0 => c20 (Int32.toInt_inj.mp q0)
                refine lv_iload hx hb dX12_round_59 (lv_at hl 0 rfl) ?_
                refine lv_iload hx hb dX12_round_61 (lv_at hl 5 rfl) ?_
                refine lv_icmp_gt (tgt := 69) hx hb dX12_round_63 (by decide) (fun c21 => ?_) (fun c21 => ?_)
                · have gc21 : a4_25.toInt < r14.toInt := (tlt _ _).mp c21
                  exact lab_69 r14 I16 J17 R18 L19 _ _ _ hvI hvR hsI hsR (show ((0 : Int) ≤ a5_25.toInt ∧ a5_25.toInt ≤ (31 : Int)) from by omega) hP hD hS (lv_sub hl [1, 2, 3, 6, 0] rfl)
                · have gc21 : ¬ (a4_25.toInt < r14.toInt) := fun q0 => c21 ((tlt _ _).mpr q0)
                  refine lv_goto (tgt := 76) hx hb dX12_round_66 (by decide) ?_
                  exact lab_76 a3_25 a4_25 I16 J17 R18 L19 _ _ _ hvI hvR hsI hsR (show ((-1 : Int) ≤ a3_25.toInt ∧ a3_25.toInt ≤ (31 : Int)) from by omega) (show ((0 : Int) ≤ a5_25.toInt ∧ a5_25.toInt ≤ (31 : Int)) from by omega) hP hD hS (lv_sub hl [1, 2, 3, 4, 5, 6] rfl)
            · have gc13 : r11.toInt = 0 := congrArg Int32.toInt c13
              refine lv_goto (tgt := 76) hx hb dX12_round_42 (by decide) ?_
              exact lab_76 a3_25 a4_25 I_25 J_25 R_25 L_25 _ _ _ hvI hvR hsI hsR (show ((-1 : Int) ≤ a3_25.toInt ∧ a3_25.toInt ≤ (31 : Int)) from by omega) (show ((0 : Int) ≤ a5_25.toInt ∧ a5_25.toInt ≤ (31 : Int)) from by omega) hP hD hS (lv_sub hl [0, 1, 2, 3, 4, 5] rfl)
      refine lv_iload_n hx hb dX12_round_4 rfl (lv_at hl 2 rfl) ?_
      refine lv_aload_n hx hb dX12_round_5 rfl (lv_at hl 0 rfl) ?_
      refine g_get F hK hP 0 (Wm_at0 G g q I_4 J_4 R_4 L_4) clX12 21 (by decide) flX12_77 rfl dX12_round_6 ?_
      refine lv_aload_n hx hb dX12_round_9 rfl (lv_at hl 0 rfl) ?_
      refine g_get F hK hP 0 (Wm_at0 G g q I_4 J_4 R_4 L_4) clX12 12 (by decide) flX12_48 rfl dX12_round_10 ?_
      refine cst_i (hsI 10 rfl) ?_
      have w_I0_10 := rg (hvI0 10 (by decide)) (0) (1) rfl rfl
      refine g_iald F hK hP 10 (Wm_at10 G g q I_4 J_4 R_4 L_4) (in_of (by omega)) dX12_round_13 rfl ?_
      refine lv_topi (fun x22 ex22 => ?_)
      have gx22 : x22.toInt = (R0 7 (Int32.toNatClampNeg (I0 10))).toInt := congrArg Int32.toInt ((ex22).trans (congrFun (hsR 7 rfl) _))
      have fx22 : ((0 : Int) ≤ x22.toInt ∧ x22.toInt ≤ (12 : Int)) := by rw [ex22]; exact hvR 7 (by decide) _ (clamp_lt (n := 2) (in_of (by omega)))
      refine lv_icmp_ge (tgt := 134) hx hb dX12_round_14 (by decide) (fun c23 => ?_) (fun c23 => ?_)
      · have gc23 : x22.toInt ≤ a2_4.toInt := (tle _ _).mp c23
        refine lv_iload_n hx hb dX12_round_134 rfl (lv_at hl 1 rfl) ?_
        rw [hQ]
        exact q_z F hr hlk (I_4, J_4, R_4, L_4) hP hD hS ⟨hvI, hvR, hsI, hsR, (show ((0 : Int) ≤ a1_4.toInt ∧ a1_4.toInt ≤ (1 : Int)) from by omega)⟩ dX12_round_135 (Nat.le_of_ble_eq_true rfl) (Nat.le_of_ble_eq_true rfl) (nar01 (show ((0 : Int) ≤ a1_4.toInt ∧ a1_4.toInt ≤ (1 : Int)) from by omega))
      · have gc23 : ¬ (x22.toInt ≤ a2_4.toInt) := fun q0 => c23 ((tle _ _).mpr q0)
        refine lv_iconst (v := (-1)) hx hb dX12_round_17 (by decide) ?_
        refine lv_istore_n (lv' := [(3, .int (-1)), (0, .ref (g 45)), (1, .int a1_4), (2, .int a2_4)]) hx hb dX12_round_18 rfl hl (by decide) rfl (fun ls hl => ?_)
        refine lv_iconst (v := 0) hx hb dX12_round_19 (by decide) ?_
        refine lv_istore (lv' := [(4, .int 0), (3, .int (-1)), (0, .ref (g 45)), (1, .int a1_4), (2, .int a2_4)]) hx hb dX12_round_20 hl (by decide) rfl (fun ls hl => ?_)
        refine lv_iconst (v := 0) hx hb dX12_round_22 (by decide) ?_
        refine lv_istore (lv' := [(5, .int 0), (4, .int 0), (3, .int (-1)), (0, .ref (g 45)), (1, .int a1_4), (2, .int a2_4)]) hx hb dX12_round_23 hl (by decide) rfl (fun ls hl => ?_)
        exact lab_25 33 ((-1)) 0 0 I_4 J_4 R_4 L_4 _ _ _ (show (32 - 0) < ((33 : Nat) : Int) from by omega) hvI hvR hsI hsR (show ((0 : Int) ≤ a2_4.toInt ∧ a2_4.toInt ≤ (11 : Int)) from by omega) (by decide) (by decide) hP hD hS (lv_sub hl [3, 4, 5, 2, 1, 0] rfl)
  refine lv_iconst (v := 0) hx hb dX12_round_0 (by decide) ?_
  refine lv_istore_n (lv' := [(1, .int 0), (0, .ref (g 45))]) hx hb dX12_round_1 rfl hl (by decide) rfl (fun ls hl => ?_)
  refine lv_iconst (v := 0) hx hb dX12_round_2 (by decide) ?_
  refine lv_istore_n (lv' := [(2, .int 0), (1, .int 0), (0, .ref (g 45))]) hx hb dX12_round_3 rfl hl (by decide) rfl (fun ls hl => ?_)
  exact lab_4 13 0 0 I0 J0 R0 L0 _ _ _ (show (12 - 0) < ((13 : Nat) : Int) from by omega) hvI hvR hsI hsR (by decide) (by decide) hP hD hS (lv_sub hl [2, 1, 0] rfl)
set_option maxHeartbeats 4000000 in
set_option maxRecDepth 100000 in
theorem s_X12_free (l : Launch) (G : Gx) (g q : Nat → Nat) (I0 : Nat → Int32) (J0 : Nat → Int64) (R0 : Nat → Nat → Int32) (L0 : Nat → Nat → Int64) (hvI : InvI Wm_lo Wm_hi I0) (hvR : InvR Wm_rl R0)  (p1 : Int32)  : CtI (S := St) l yX12_free cX12_free 3 (some .int) (rmD 7 0 0) G [.ref (g 45), .int p1] (Wm G g q I0 J0 R0 L0) (fun r u => InvI Wm_lo Wm_hi u.1 ∧ InvR Wm_rl u.2.2.1 ∧ SmF ([] : List Nat) I0 u.1 ∧ SmF ([34, 36] : List Nat) R0 u.2.2.1 ∧ ((-2 : Int) ≤ r.toInt ∧ r.toInt ≤ (60 : Int))) (fun u => Wm G g q u.1 u.2.1 u.2.2.1 u.2.2.2) := by
  refine ctI_of (own := RX12) (by decide +kernel) rfl (Nat.le_of_ble_eq_true rfl) ?_
  intro p e s m below meth c A ls F hr hlk hnm hK hP hD hA hS hl
  have hx := F.1
  have hb := F.2.1
  have hown := F.2.2.2.1
  have hl : lv_has ls 3 [(0, .ref (g 45)), (1, .int p1)] := hl
  obtain ⟨Q, hQ⟩ : ∃ Q : State → Prop, Q = MQ below (va_Qi (S := St) (fun r u => InvI Wm_lo Wm_hi u.1 ∧ InvR Wm_rl u.2.2.1 ∧ SmF ([] : List Nat) I0 u.1 ∧ SmF ([34, 36] : List Nat) R0 u.2.2.1 ∧ ((-2 : Int) ≤ r.toInt ∧ r.toInt ≤ (60 : Int))) (BX G A (fun u => Wm G g q u.1 u.2.1 u.2.2.1 u.2.2.2)) A) [.ref (g 45), .int p1].toArray s 0 0 A := ⟨_, rfl⟩
  rw [show (MQ below (va_Qi (S := St) (fun r u => InvI Wm_lo Wm_hi u.1 ∧ InvR Wm_rl u.2.2.1 ∧ SmF ([] : List Nat) I0 u.1 ∧ SmF ([34, 36] : List Nat) R0 u.2.2.1 ∧ ((-2 : Int) ≤ r.toInt ∧ r.toInt ≤ (60 : Int))) (BX G A (fun u => Wm G g q u.1 u.2.1 u.2.2.1 u.2.2.2)) A) [.ref (g 45), .int p1].toArray s (rmD 7 0 0).cells (rmD 7 0 0).slots A) = Q from hQ.symm]
  have hsI := smF_rf ([] : List Nat) I0
  have hsR := smF_rf ([34, 36] : List Nat) R0
  have hvI0 := hvI
  have lab_18 : ∀ (k_18 : Nat) (a2_18 : Int32) (I_18 : Nat → Int32) (J_18 : Nat → Int64) (R_18 : Nat → Nat → Int32) (L_18 : Nat → Nat → Int64) (H : Heap) (locs : List Loc) (ls : Array Slot), ((61 - a2_18.toInt) < (k_18 : Int)) → InvI Wm_lo Wm_hi I_18 → InvR Wm_rl R_18 → SmF ([] : List Nat) I0 I_18 → SmF ([34, 36] : List Nat) R0 R_18 → ((1 : Int) ≤ p1.toInt ∧ p1.toInt ≤ (60 : Int)) → ((1 : Int) ≤ a2_18.toInt ∧ a2_18.toInt ≤ (61 : Int)) → va_P G.1 vwCl (Wm G g q I_18 J_18 R_18 L_18) H → va_D A (Wm G g q I_18 J_18 R_18 L_18) → va_S A s.heap H locs → lv_has ls 3 [(0, .ref (g 45)), (1, .int p1), (2, .int a2_18)] → W p l e (rmD 7 0 0) s m [.ref (g 45), .int p1].toArray below meth c H locs 0 0 Q (F0 m 18 ls []) := by
    intro k_18
    induction k_18 with
    | zero =>
      intro a2_18 I_18 J_18 R_18 L_18 H locs ls hm hvI hvR hsI hsR y0_18 y1_18 hP hD hS hl
      have hv_I_18 := hvI
      exact absurd hm (by omega)
    | succ k_18 ih_18 =>
      intro a2_18 I_18 J_18 R_18 L_18 H locs ls hm hvI hvR hsI hsR y0_18 y1_18 hP hD hS hl
      have hv_I_18 := hvI
      refine lv_iload_n hx hb dX12_free_18 rfl (lv_at hl 2 rfl) ?_
      refine lv_iload_n hx hb dX12_free_19 rfl (lv_at hl 1 rfl) ?_
      refine lv_icmp_gt (tgt := 38) hx hb dX12_free_20 (by decide) (fun c1 => ?_) (fun c1 => ?_)
      · have gc1 : p1.toInt < a2_18.toInt := (tlt _ _).mp c1
        refine lv_bipush (v := (-2)) hx hb dX12_free_38 (by decide) ?_
        rw [hQ]
        exact q_i F hr hlk (I_18, J_18, R_18, L_18) hP hD hS ⟨hvI, hvR, hsI, hsR, (show ((-2 : Int) ≤ (-2) ∧ (-2) ≤ (60 : Int)) from by omega)⟩ dX12_free_40 (Nat.le_of_ble_eq_true rfl) (Nat.le_of_ble_eq_true rfl)
      · have gc1 : ¬ (p1.toInt < a2_18.toInt) := fun q0 => c1 ((tlt _ _).mpr q0)
        refine lv_aload_n hx hb dX12_free_23 rfl (lv_at hl 0 rfl) ?_
        refine wvi (As := []) (rest := []) (b := (g 45)) (d := 6) F hK hP hD hS hA (s_X12_round l G g q I_18 J_18 R_18 L_18 hvI hvR   ) kmV_X12_round mlX12_580 clX12 rfl 0 (Wm_at0 G g q I_18 J_18 R_18 L_18) ⟨(Nat.le_of_ble_eq_true rfl), (Nat.le_of_ble_eq_true rfl)⟩ hl.1 rfl (Nat.le_of_ble_eq_true rfl) dX12_free_24 (fun r2 u3 H locs hwr2 hP hD hS => ?_)
        obtain ⟨I4, J5, R6, L7⟩ := u3
        replace hP : va_P G.1 vwCl (Wm G g q I4 J5 R6 L7) H := hP
        replace hD : va_D A (Wm G g q I4 J5 R6 L7) := hD
        obtain ⟨hvI, hvR, tIr2, tRr2, F0r2⟩ := hwr2
        replace F0r2 : ((0 : Int) ≤ r2.toInt ∧ r2.toInt ≤ (1 : Int)) := F0r2
        replace hvI : InvI Wm_lo Wm_hi I4 := hvI
        replace hvR : InvR Wm_rl R6 := hvR
        replace tIr2 : SmF ([] : List Nat) I_18 I4 := tIr2
        replace tRr2 : SmF ([36] : List Nat) R_18 R6 := tRr2
        have hv_I4 := hvI
        have hsI := smF_tr hsI tIr2 (by decide)
        have hsR := smF_tr hsR tRr2 (by decide)
        refine lv_if_ne (tgt := 32) hx hb dX12_free_27 (by decide) (fun c8 => ?_) (fun c8 => ?_)
        · have gc8 : ¬ (r2.toInt = 0) := fun q0 => c8 (Int32.toInt_inj.mp q0)
          obtain ⟨x9, ex9⟩ : ∃ y : Int32, y = a2_18 + 1 := ⟨_, rfl⟩
          have fx9 : x9.toInt = a2_18.toInt + (1 : Int) := by rw [ex9]; exact t_add (by show (-2147483648 : Int) ≤ a2_18.toInt + (1 : Int); omega) (by show a2_18.toInt + (1 : Int) ≤ 2147483647; omega)
          refine lv_iinc (v := x9) (lv' := [(2, .int x9), (0, .ref (g 45)), (1, .int p1)]) hx hb dX12_free_32 hl (k := 2) rfl (by rw [ex9]; rfl) (by decide) rfl (fun ls hl => ?_)
          refine lv_goto (tgt := 18) hx hb dX12_free_35 (by decide) ?_
          exact ih_18 x9 I4 J5 R6 L7 _ _ _ (show (61 - x9.toInt) < (k_18 : Int) from by omega) hvI hvR hsI hsR (show ((1 : Int) ≤ p1.toInt ∧ p1.toInt ≤ (60 : Int)) from by omega) (show ((1 : Int) ≤ x9.toInt ∧ x9.toInt ≤ (61 : Int)) from by omega) hP hD hS (lv_sub hl [1, 2, 0] rfl)
        · have gc8 : r2.toInt = 0 := congrArg Int32.toInt c8
          refine lv_iload_n hx hb dX12_free_30 rfl (lv_at hl 2 rfl) ?_
          rw [hQ]
          exact q_i F hr hlk (I4, J5, R6, L7) hP hD hS ⟨hvI, hvR, hsI, hsR, (show ((-2 : Int) ≤ a2_18.toInt ∧ a2_18.toInt ≤ (60 : Int)) from by omega)⟩ dX12_free_31 (Nat.le_of_ble_eq_true rfl) (Nat.le_of_ble_eq_true rfl)
  refine lv_iload_n hx hb dX12_free_0 rfl (lv_at hl 1 rfl) ?_
  refine lv_iconst (v := 1) hx hb dX12_free_1 (by decide) ?_
  refine lv_bipush (v := 60) hx hb dX12_free_2 (by decide) ?_
  refine w0i (As := [.int p1, .int 1, .int 60]) (rest := []) (d := 1) F hK hP hD hS hA (s_X12_is l G  p1 1 60 (by decide) (by decide)) kmS_X12_is mlX12_316 ⟨(Nat.le_of_ble_eq_true rfl), (Nat.le_of_ble_eq_true rfl)⟩ hl.1 rfl (Nat.le_of_ble_eq_true rfl) dX12_free_4 (fun r10 u11 H locs hwr10 hP hD hS => ?_)
  obtain ⟨F0r10, F1r10⟩ := hwr10
  replace F0r10 : ((0 : Int) ≤ r10.toInt ∧ r10.toInt ≤ (1 : Int)) := F0r10
  replace F1r10 : (r10.toInt = 1 → ((1 : Int) ≤ p1.toInt ∧ p1.toInt ≤ (60 : Int))) := F1r10
  refine lv_if_ne (tgt := 16) hx hb dX12_free_7 (by decide) (fun c12 => ?_) (fun c12 => ?_)
  · have gc12 : ¬ (r10.toInt = 0) := fun q0 => c12 (Int32.toInt_inj.mp q0)
    refine lv_iconst (v := 1) hx hb dX12_free_16 (by decide) ?_
    refine lv_istore_n (lv' := [(2, .int 1), (0, .ref (g 45)), (1, .int p1)]) hx hb dX12_free_17 rfl hl (by decide) rfl (fun ls hl => ?_)
    exact lab_18 61 1 I0 J0 R0 L0 _ _ _ (show (61 - 1) < ((61 : Nat) : Int) from by omega) hvI hvR hsI hsR (show ((1 : Int) ≤ p1.toInt ∧ p1.toInt ≤ (60 : Int)) from by omega) (by decide) hP hD hS (lv_sub hl [1, 2, 0] rfl)
  · have gc12 : r10.toInt = 0 := congrArg Int32.toInt c12
    refine lv_aload_n hx hb dX12_free_10 rfl (lv_at hl 0 rfl) ?_
    refine lv_iconst (v := 3) hx hb dX12_free_11 (by decide) ?_
    refine wvi (As := [.int 3]) (rest := []) (b := (g 45)) (d := 1) F hK hP hD hS hA (s_X12_refuses l G g q I0 J0 R0 L0 hvI hvR  3 (by decide)) kmV_X12_refuses mlX12_225 clX12 rfl 0 (Wm_at0 G g q I0 J0 R0 L0) ⟨(Nat.le_of_ble_eq_true rfl), (Nat.le_of_ble_eq_true rfl)⟩ hl.1 rfl (Nat.le_of_ble_eq_true rfl) dX12_free_12 (fun r13 u14 H locs hwr13 hP hD hS => ?_)
    obtain ⟨I15, J16, R17, L18⟩ := u14
    replace hP : va_P G.1 vwCl (Wm G g q I15 J16 R17 L18) H := hP
    replace hD : va_D A (Wm G g q I15 J16 R17 L18) := hD
    obtain ⟨hvI, hvR, tIr13, tRr13, F0r13⟩ := hwr13
    replace F0r13 : ((-1 : Int) ≤ r13.toInt ∧ r13.toInt ≤ (-1 : Int)) := F0r13
    replace hvI : InvI Wm_lo Wm_hi I15 := hvI
    replace hvR : InvR Wm_rl R17 := hvR
    replace tIr13 : SmF ([] : List Nat) I0 I15 := tIr13
    replace tRr13 : SmF ([34] : List Nat) R0 R17 := tRr13
    have hv_I15 := hvI
    have hsI := smF_tr hsI tIr13 (by decide)
    have hsR := smF_tr hsR tRr13 (by decide)
    rw [hQ]
    exact q_i F hr hlk (I15, J16, R17, L18) hP hD hS ⟨hvI, hvR, hsI, hsR, (show ((-2 : Int) ≤ r13.toInt ∧ r13.toInt ≤ (60 : Int)) from by omega)⟩ dX12_free_15 (Nat.le_of_ble_eq_true rfl) (Nat.le_of_ble_eq_true rfl)
set_option maxHeartbeats 4000000 in
set_option maxRecDepth 100000 in
theorem s_X12_writes (l : Launch) (G : Gx) (g q : Nat → Nat) (I0 : Nat → Int32) (J0 : Nat → Int64) (R0 : Nat → Nat → Int32) (L0 : Nat → Nat → Int64) (hvI : InvI Wm_lo Wm_hi I0) (hvR : InvR Wm_rl R0)  (p1 : Int32) (hpre0 : ((I0 22).toInt ≤ 15)) : CtV (S := St) l yX12_writes cX12_writes 2 none (rmD 1 0 0) G [.ref (g 45), .int p1] (Wm G g q I0 J0 R0 L0) (fun u => InvI Wm_lo Wm_hi u.1 ∧ InvR Wm_rl u.2.2.1 ∧ SmF ([22] : List Nat) I0 u.1 ∧ SmF ([39] : List Nat) R0 u.2.2.1 ∧ ((u.1 22).toInt = (I0 22).toInt + 1)) (fun u => Wm G g q u.1 u.2.1 u.2.2.1 u.2.2.2) := by
  refine ctV_of (own := RX12) (by decide +kernel) rfl (Nat.le_of_ble_eq_true rfl) ?_
  intro p e s m below meth c A ls F hr hlk hnm hK hP hD hA hS hl
  have hx := F.1
  have hb := F.2.1
  have hown := F.2.2.2.1
  have hl : lv_has ls 2 [(0, .ref (g 45)), (1, .int p1)] := hl
  obtain ⟨Q, hQ⟩ : ∃ Q : State → Prop, Q = MQ below (va_Qv (S := St) (fun u => InvI Wm_lo Wm_hi u.1 ∧ InvR Wm_rl u.2.2.1 ∧ SmF ([22] : List Nat) I0 u.1 ∧ SmF ([39] : List Nat) R0 u.2.2.1 ∧ ((u.1 22).toInt = (I0 22).toInt + 1)) (BX G A (fun u => Wm G g q u.1 u.2.1 u.2.2.1 u.2.2.2)) A) [.ref (g 45), .int p1].toArray s 0 0 A := ⟨_, rfl⟩
  rw [show (MQ below (va_Qv (S := St) (fun u => InvI Wm_lo Wm_hi u.1 ∧ InvR Wm_rl u.2.2.1 ∧ SmF ([22] : List Nat) I0 u.1 ∧ SmF ([39] : List Nat) R0 u.2.2.1 ∧ ((u.1 22).toInt = (I0 22).toInt + 1)) (BX G A (fun u => Wm G g q u.1 u.2.1 u.2.2.1 u.2.2.2)) A) [.ref (g 45), .int p1].toArray s (rmD 1 0 0).cells (rmD 1 0 0).slots A) = Q from hQ.symm]
  have hsI := smF_rf ([22] : List Nat) I0
  have hsR := smF_rf ([39] : List Nat) R0
  have hvI0 := hvI
  have w_I0_22 := rg (hvI 22 (by decide)) (0) (16) rfl rfl
  refine lv_aload_n hx hb dX12_writes_0 rfl (lv_at hl 0 rfl) ?_
  refine g_get F hK hP 0 (Wm_at0 G g q I0 J0 R0 L0) clX12 68 (by decide) flX12_219 rfl dX12_writes_1 ?_
  refine lv_aload_n hx hb dX12_writes_4 rfl (lv_at hl 0 rfl) ?_
  refine g_get F hK hP 0 (Wm_at0 G g q I0 J0 R0 L0) clX12 69 (by decide) flX12_222 rfl dX12_writes_5 ?_
  have w_I0_22 := rg (hvI0 22 (by decide)) (0) (16) rfl rfl
  refine lv_iload_n hx hb dX12_writes_8 rfl (lv_at hl 1 rfl) ?_
  refine lv_sipush (v := 255) hx hb dX12_writes_9 (by decide) ?_
  refine lv_iand hx hb dX12_writes_12 ?_
  refine lv_topi (fun x1 ex1 => ?_)
  have fx1 : (0 : Int) ≤ x1.toInt ∧ x1.toInt ≤ (255 : Int) := by rw [ex1]; exact t_and (b := 255) (by decide)
  refine p_row (W1 := fun y => Wm G g q I0 J0 y L0) (n := 39) F hK hP hD hS 45 (Wm_at45 G g q I0 J0 R0 L0) (in_of (by omega)) dX12_writes_13 (Wm_rowR39 G g q I0 J0 R0 L0) (fun R2 H locs eR2 hP hD hS => ?_)
  have hvR : InvR Wm_rl R2 := inv_upR hvR 39 eR2 (upd_in (hvR 39 (by decide)) (full _))
  have hsR := smF_up hsR eR2 (by decide)
  refine lv_aload_n hx hb dX12_writes_14 rfl (lv_at hl 0 rfl) ?_
  refine lv_dup hx hb dX12_writes_15 rfl ?_
  refine g_get F hK hP 0 (Wm_at0 G g q I0 J0 R2 L0) clX12 69 (by decide) flX12_222 rfl dX12_writes_16 ?_
  refine lv_iconst (v := 1) hx hb dX12_writes_19 (by decide) ?_
  refine lv_iadd hx hb dX12_writes_20 ?_
  refine lv_topi (fun x3 ex3 => ?_)
  have fx3 : x3.toInt = (I0 22).toInt + 1 := by rw [ex3]; exact t_add (by show (-2147483648 : Int) ≤ (I0 22).toInt + 1; omega) (by show (I0 22).toInt + 1 ≤ 2147483647; omega)
  refine p_fld (W1 := fun y => Wm G g q y J0 R2 L0) (n := 22) (v := x3) F hK hP hD hS 0 (Wm_at0 G g q I0 J0 R2 L0) clX12 69 (by decide) flX12_222 rfl rfl rfl (Nat.le_of_ble_eq_true rfl) dX12_writes_21 (Wm_setI22 G g q I0 J0 R2 L0 _) (fun I4 H locs eI4 hP hD hS => ?_)
  have hvI : InvI Wm_lo Wm_hi I4 := inv_upI hvI 22 eI4 (show ((0 : Int) ≤ x3.toInt ∧ x3.toInt ≤ (16 : Int)) from by omega)
  have hsI := smF_up hsI eI4 (by decide)
  have hv_I4 := hvI
  have u_I4_22 : (I4 22).toInt = x3.toInt := by rw [eI4]; rfl
  rw [hQ]
  exact q_v F hr hlk (I4, J0, R2, L0) hP hD hS ⟨hvI, hvR, hsI, hsR, (show ((I4 22).toInt = (I0 22).toInt + 1) from by omega)⟩ dX12_writes_24 (Nat.le_of_ble_eq_true rfl) (Nat.le_of_ble_eq_true rfl)
set_option maxHeartbeats 4000000 in
set_option maxRecDepth 100000 in
theorem s_X12_image (l : Launch) (G : Gx) (g q : Nat → Nat) (I0 : Nat → Int32) (J0 : Nat → Int64) (R0 : Nat → Nat → Int32) (L0 : Nat → Nat → Int64) (hvI : InvI Wm_lo Wm_hi I0) (hvR : InvR Wm_rl R0)    : CtI (S := St) l yX12_image cX12_image 3 (some .int) (rmD 2 0 0) G [.ref (g 45)] (Wm G g q I0 J0 R0 L0) (fun r u => InvI Wm_lo Wm_hi u.1 ∧ InvR Wm_rl u.2.2.1 ∧ SmF ([22] : List Nat) I0 u.1 ∧ SmF ([39] : List Nat) R0 u.2.2.1 ∧ ((0 : Int) ≤ r.toInt ∧ r.toInt ≤ (16 : Int))) (fun u => Wm G g q u.1 u.2.1 u.2.2.1 u.2.2.2) := by
  refine ctI_of (own := RX12) (by decide +kernel) rfl (Nat.le_of_ble_eq_true rfl) ?_
  intro p e s m below meth c A ls F hr hlk hnm hK hP hD hA hS hl
  have hx := F.1
  have hb := F.2.1
  have hown := F.2.2.2.1
  have hl : lv_has ls 3 [(0, .ref (g 45))] := hl
  obtain ⟨Q, hQ⟩ : ∃ Q : State → Prop, Q = MQ below (va_Qi (S := St) (fun r u => InvI Wm_lo Wm_hi u.1 ∧ InvR Wm_rl u.2.2.1 ∧ SmF ([22] : List Nat) I0 u.1 ∧ SmF ([39] : List Nat) R0 u.2.2.1 ∧ ((0 : Int) ≤ r.toInt ∧ r.toInt ≤ (16 : Int))) (BX G A (fun u => Wm G g q u.1 u.2.1 u.2.2.1 u.2.2.2)) A) [.ref (g 45)].toArray s 0 0 A := ⟨_, rfl⟩
  rw [show (MQ below (va_Qi (S := St) (fun r u => InvI Wm_lo Wm_hi u.1 ∧ InvR Wm_rl u.2.2.1 ∧ SmF ([22] : List Nat) I0 u.1 ∧ SmF ([39] : List Nat) R0 u.2.2.1 ∧ ((0 : Int) ≤ r.toInt ∧ r.toInt ≤ (16 : Int))) (BX G A (fun u => Wm G g q u.1 u.2.1 u.2.2.1 u.2.2.2)) A) [.ref (g 45)].toArray s (rmD 2 0 0).cells (rmD 2 0 0).slots A) = Q from hQ.symm]
  have hsI := smF_rf ([22] : List Nat) I0
  have hsR := smF_rf ([39] : List Nat) R0
  have hvI0 := hvI
  have lab_54 : ∀ (k_54 : Nat) (a1_54 : Int32) (a2_54 : Int32) (I_54 : Nat → Int32) (J_54 : Nat → Int64) (R_54 : Nat → Nat → Int32) (L_54 : Nat → Nat → Int64) (H : Heap) (locs : List Loc) (ls : Array Slot), ((16 - a2_54.toInt) < (k_54 : Int)) → InvI Wm_lo Wm_hi I_54 → InvR Wm_rl R_54 → SmF ([22] : List Nat) I0 I_54 → SmF ([39] : List Nat) R0 R_54 → ((0 : Int) ≤ a2_54.toInt ∧ a2_54.toInt ≤ (16 : Int)) → ((I_54 22).toInt ≤ 13) → va_P G.1 vwCl (Wm G g q I_54 J_54 R_54 L_54) H → va_D A (Wm G g q I_54 J_54 R_54 L_54) → va_S A s.heap H locs → lv_has ls 3 [(0, .ref (g 45)), (1, .int a1_54), (2, .int a2_54)] → W p l e (rmD 2 0 0) s m [.ref (g 45)].toArray below meth c H locs 0 0 Q (F0 m 54 ls []) := by
    intro k_54
    induction k_54 with
    | zero =>
      intro a1_54 a2_54 I_54 J_54 R_54 L_54 H locs ls hm hvI hvR hsI hsR y0_54 z0_54 hP hD hS hl
      have hv_I_54 := hvI
      have w_I_54_22 := rg (hvI 22 (by decide)) (0) (16) rfl rfl
      exact absurd hm (by omega)
    | succ k_54 ih_54 =>
      intro a1_54 a2_54 I_54 J_54 R_54 L_54 H locs ls hm hvI hvR hsI hsR y0_54 z0_54 hP hD hS hl
      have hv_I_54 := hvI
      have w_I_54_22 := rg (hvI 22 (by decide)) (0) (16) rfl rfl
      refine lv_iload_n hx hb dX12_image_54 rfl (lv_at hl 2 rfl) ?_
      refine lv_aload_n hx hb dX12_image_55 rfl (lv_at hl 0 rfl) ?_
      refine g_get F hK hP 0 (Wm_at0 G g q I_54 J_54 R_54 L_54) clX12 69 (by decide) flX12_222 rfl dX12_image_56 ?_
      have w_I_54_22 := rg (hv_I_54 22 (by decide)) (0) (16) rfl rfl
      refine lv_icmp_ge (tgt := 83) hx hb dX12_image_59 (by decide) (fun c1 => ?_) (fun c1 => ?_)
      · have gc1 : (I_54 22).toInt ≤ a2_54.toInt := (tle _ _).mp c1
        refine lv_aload_n hx hb dX12_image_83 rfl (lv_at hl 0 rfl) ?_
        refine lv_iload_n hx hb dX12_image_84 rfl (lv_at hl 1 rfl) ?_
        refine wvv (As := [.int a1_54]) (rest := []) (b := (g 45)) (d := 1) F hK hP hD hS hA (s_X12_writes l G g q I_54 J_54 R_54 L_54 hvI hvR  a1_54 (by omega)) kmV_X12_writes mlX12_617 clX12 rfl 0 (Wm_at0 G g q I_54 J_54 R_54 L_54) ⟨(Nat.le_of_ble_eq_true rfl), (Nat.le_of_ble_eq_true rfl)⟩ hl.1 rfl (Nat.le_of_ble_eq_true rfl) dX12_image_85 (fun u3 H locs hwr2 hP hD hS => ?_)
        obtain ⟨I4, J5, R6, L7⟩ := u3
        replace hP : va_P G.1 vwCl (Wm G g q I4 J5 R6 L7) H := hP
        replace hD : va_D A (Wm G g q I4 J5 R6 L7) := hD
        obtain ⟨hvI, hvR, tIr2, tRr2, F0r2⟩ := hwr2
        replace F0r2 : ((I4 22).toInt = (I_54 22).toInt + 1) := F0r2
        replace hvI : InvI Wm_lo Wm_hi I4 := hvI
        replace hvR : InvR Wm_rl R6 := hvR
        replace tIr2 : SmF ([22] : List Nat) I_54 I4 := tIr2
        replace tRr2 : SmF ([39] : List Nat) R_54 R6 := tRr2
        have hv_I4 := hvI
        have hsI := smF_tr hsI tIr2 (by decide)
        have hsR := smF_tr hsR tRr2 (by decide)
        have w_I4_22 := rg (hvI 22 (by decide)) (0) (16) rfl rfl
        refine lv_aload_n hx hb dX12_image_88 rfl (lv_at hl 0 rfl) ?_
        refine g_get F hK hP 0 (Wm_at0 G g q I4 J5 R6 L7) clX12 69 (by decide) flX12_222 rfl dX12_image_89 ?_
        have w_I4_22 := rg (hv_I4 22 (by decide)) (0) (16) rfl rfl
        rw [hQ]
        exact q_i F hr hlk (I4, J5, R6, L7) hP hD hS ⟨hvI, hvR, hsI, hsR, (show ((0 : Int) ≤ (I4 22).toInt ∧ (I4 22).toInt ≤ (16 : Int)) from by omega)⟩ dX12_image_92 (Nat.le_of_ble_eq_true rfl) (Nat.le_of_ble_eq_true rfl)
      · have gc1 : ¬ ((I_54 22).toInt ≤ a2_54.toInt) := fun q0 => c1 ((tle _ _).mpr q0)
        refine lv_iconst (v := 5) hx hb dX12_image_62 (by decide) ?_
        refine lv_iload_n hx hb dX12_image_63 rfl (lv_at hl 1 rfl) ?_
        refine lv_imul hx hb dX12_image_64 ?_
        refine lv_topi (fun x8 ex8 => ?_)
        refine lv_aload_n hx hb dX12_image_65 rfl (lv_at hl 0 rfl) ?_
        refine g_get F hK hP 0 (Wm_at0 G g q I_54 J_54 R_54 L_54) clX12 68 (by decide) flX12_219 rfl dX12_image_66 ?_
        refine lv_iload_n hx hb dX12_image_69 rfl (lv_at hl 2 rfl) ?_
        refine g_iald F hK hP 45 (Wm_at45 G g q I_54 J_54 R_54 L_54) (in_of (by omega)) dX12_image_70 rfl ?_
        refine lv_topi (fun x9 ex9 => ?_)
        have gx9 : x9.toInt = (R_54 39 (Int32.toNatClampNeg a2_54)).toInt := congrArg Int32.toInt (ex9)
        refine lv_iadd hx hb dX12_image_71 ?_
        refine lv_topi (fun x10 ex10 => ?_)
        refine lv_sipush (v := 227) hx hb dX12_image_72 (by decide) ?_
        refine lv_irem hx hb dX12_image_75 (by decide) ?_
        refine lv_topi (fun x11 ex11 => ?_)
        refine lv_istore_n (lv' := [(1, .int x11), (0, .ref (g 45)), (2, .int a2_54)]) hx hb dX12_image_76 rfl hl (by decide) rfl (fun ls hl => ?_)
        obtain ⟨x12, ex12⟩ : ∃ y : Int32, y = a2_54 + 1 := ⟨_, rfl⟩
        have fx12 : x12.toInt = a2_54.toInt + (1 : Int) := by rw [ex12]; exact t_add (by show (-2147483648 : Int) ≤ a2_54.toInt + (1 : Int); omega) (by show a2_54.toInt + (1 : Int) ≤ 2147483647; omega)
        refine lv_iinc (v := x12) (lv' := [(2, .int x12), (1, .int x11), (0, .ref (g 45))]) hx hb dX12_image_77 hl (k := 2) rfl (by rw [ex12]; rfl) (by decide) rfl (fun ls hl => ?_)
        refine lv_goto (tgt := 54) hx hb dX12_image_80 (by decide) ?_
        exact ih_54 x11 x12 I_54 J_54 R_54 L_54 _ _ _ (show (16 - x12.toInt) < (k_54 : Int) from by omega) hvI hvR hsI hsR (show ((0 : Int) ≤ x12.toInt ∧ x12.toInt ≤ (16 : Int)) from by omega) (show ((I_54 22).toInt ≤ 13) from by omega) hP hD hS (lv_sub hl [2, 1, 0] rfl)
  have lab_20 : ∀ (k_20 : Nat) (a1_20 : Int32) (I_20 : Nat → Int32) (J_20 : Nat → Int64) (R_20 : Nat → Nat → Int32) (L_20 : Nat → Nat → Int64) (H : Heap) (locs : List Loc) (ls : Array Slot), ((12 - a1_20.toInt) < (k_20 : Int)) → InvI Wm_lo Wm_hi I_20 → InvR Wm_rl R_20 → SmF ([22] : List Nat) I0 I_20 → SmF ([39] : List Nat) R0 R_20 → ((0 : Int) ≤ a1_20.toInt ∧ a1_20.toInt ≤ (12 : Int)) → ((I_20 22).toInt = a1_20.toInt + 1) → va_P G.1 vwCl (Wm G g q I_20 J_20 R_20 L_20) H → va_D A (Wm G g q I_20 J_20 R_20 L_20) → va_S A s.heap H locs → lv_has ls 3 [(0, .ref (g 45)), (1, .int a1_20)] → W p l e (rmD 2 0 0) s m [.ref (g 45)].toArray below meth c H locs 0 0 Q (F0 m 20 ls []) := by
    intro k_20
    induction k_20 with
    | zero =>
      intro a1_20 I_20 J_20 R_20 L_20 H locs ls hm hvI hvR hsI hsR y0_20 z0_20 hP hD hS hl
      have hv_I_20 := hvI
      have w_I_20_22 := rg (hvI 22 (by decide)) (0) (16) rfl rfl
      exact absurd hm (by omega)
    | succ k_20 ih_20 =>
      intro a1_20 I_20 J_20 R_20 L_20 H locs ls hm hvI hvR hsI hsR y0_20 z0_20 hP hD hS hl
      have hv_I_20 := hvI
      have w_I_20_22 := rg (hvI 22 (by decide)) (0) (16) rfl rfl
      refine lv_iload_n hx hb dX12_image_20 rfl (lv_at hl 1 rfl) ?_
      refine lv_aload_n hx hb dX12_image_21 rfl (lv_at hl 0 rfl) ?_
      refine g_get F hK hP 0 (Wm_at0 G g q I_20 J_20 R_20 L_20) clX12 21 (by decide) flX12_77 rfl dX12_image_22 ?_
      refine lv_aload_n hx hb dX12_image_25 rfl (lv_at hl 0 rfl) ?_
      refine g_get F hK hP 0 (Wm_at0 G g q I_20 J_20 R_20 L_20) clX12 12 (by decide) flX12_48 rfl dX12_image_26 ?_
      refine cst_i (hsI 10 rfl) ?_
      have w_I0_10 := rg (hvI0 10 (by decide)) (0) (1) rfl rfl
      refine g_iald F hK hP 10 (Wm_at10 G g q I_20 J_20 R_20 L_20) (in_of (by omega)) dX12_image_29 rfl ?_
      refine lv_topi (fun x13 ex13 => ?_)
      have gx13 : x13.toInt = (R0 7 (Int32.toNatClampNeg (I0 10))).toInt := congrArg Int32.toInt ((ex13).trans (congrFun (hsR 7 rfl) _))
      have fx13 : ((0 : Int) ≤ x13.toInt ∧ x13.toInt ≤ (12 : Int)) := by rw [ex13]; exact hvR 7 (by decide) _ (clamp_lt (n := 2) (in_of (by omega)))
      refine lv_icmp_ge (tgt := 49) hx hb dX12_image_30 (by decide) (fun c14 => ?_) (fun c14 => ?_)
      · have gc14 : x13.toInt ≤ a1_20.toInt := (tle _ _).mp c14
        refine lv_bipush (v := 31) hx hb dX12_image_49 (by decide) ?_
        refine lv_istore_n (lv' := [(1, .int 31), (0, .ref (g 45))]) hx hb dX12_image_51 rfl hl (by decide) rfl (fun ls hl => ?_)
        refine lv_iconst (v := 0) hx hb dX12_image_52 (by decide) ?_
        refine lv_istore_n (lv' := [(2, .int 0), (1, .int 31), (0, .ref (g 45))]) hx hb dX12_image_53 rfl hl (by decide) rfl (fun ls hl => ?_)
        exact lab_54 17 31 0 I_20 J_20 R_20 L_20 _ _ _ (show (16 - 0) < ((17 : Nat) : Int) from by omega) hvI hvR hsI hsR (by decide) (show ((I_20 22).toInt ≤ 13) from by omega) hP hD hS (lv_sub hl [2, 1, 0] rfl)
      · have gc14 : ¬ (x13.toInt ≤ a1_20.toInt) := fun q0 => c14 ((tle _ _).mpr q0)
        refine lv_aload_n hx hb dX12_image_33 rfl (lv_at hl 0 rfl) ?_
        refine lv_aload_n hx hb dX12_image_34 rfl (lv_at hl 0 rfl) ?_
        refine g_get F hK hP 0 (Wm_at0 G g q I_20 J_20 R_20 L_20) clX12 58 (by decide) flX12_189 rfl dX12_image_35 ?_
        refine lv_iload_n hx hb dX12_image_38 rfl (lv_at hl 1 rfl) ?_
        refine g_iald F hK hP 41 (Wm_at41 G g q I_20 J_20 R_20 L_20) (in_of (by omega)) dX12_image_39 rfl ?_
        refine lv_topi (fun x15 ex15 => ?_)
        have gx15 : x15.toInt = (R0 36 (Int32.toNatClampNeg a1_20)).toInt := congrArg Int32.toInt ((ex15).trans (congrFun (hsR 36 rfl) _))
        refine wvv (As := [.int x15]) (rest := []) (b := (g 45)) (d := 1) F hK hP hD hS hA (s_X12_writes l G g q I_20 J_20 R_20 L_20 hvI hvR  x15 (by omega)) kmV_X12_writes mlX12_617 clX12 rfl 0 (Wm_at0 G g q I_20 J_20 R_20 L_20) ⟨(Nat.le_of_ble_eq_true rfl), (Nat.le_of_ble_eq_true rfl)⟩ hl.1 rfl (Nat.le_of_ble_eq_true rfl) dX12_image_40 (fun u17 H locs hwr16 hP hD hS => ?_)
        obtain ⟨I18, J19, R20, L21⟩ := u17
        replace hP : va_P G.1 vwCl (Wm G g q I18 J19 R20 L21) H := hP
        replace hD : va_D A (Wm G g q I18 J19 R20 L21) := hD
        obtain ⟨hvI, hvR, tIr16, tRr16, F0r16⟩ := hwr16
        replace F0r16 : ((I18 22).toInt = (I_20 22).toInt + 1) := F0r16
        replace hvI : InvI Wm_lo Wm_hi I18 := hvI
        replace hvR : InvR Wm_rl R20 := hvR
        replace tIr16 : SmF ([22] : List Nat) I_20 I18 := tIr16
        replace tRr16 : SmF ([39] : List Nat) R_20 R20 := tRr16
        have hv_I18 := hvI
        have hsI := smF_tr hsI tIr16 (by decide)
        have hsR := smF_tr hsR tRr16 (by decide)
        have w_I18_22 := rg (hvI 22 (by decide)) (0) (16) rfl rfl
        obtain ⟨x22, ex22⟩ : ∃ y : Int32, y = a1_20 + 1 := ⟨_, rfl⟩
        have fx22 : x22.toInt = a1_20.toInt + (1 : Int) := by rw [ex22]; exact t_add (by show (-2147483648 : Int) ≤ a1_20.toInt + (1 : Int); omega) (by show a1_20.toInt + (1 : Int) ≤ 2147483647; omega)
        refine lv_iinc (v := x22) (lv' := [(1, .int x22), (0, .ref (g 45))]) hx hb dX12_image_43 hl (k := 1) rfl (by rw [ex22]; rfl) (by decide) rfl (fun ls hl => ?_)
        refine lv_goto (tgt := 20) hx hb dX12_image_46 (by decide) ?_
        exact ih_20 x22 I18 J19 R20 L21 _ _ _ (show (12 - x22.toInt) < (k_20 : Int) from by omega) hvI hvR hsI hsR (show ((0 : Int) ≤ x22.toInt ∧ x22.toInt ≤ (12 : Int)) from by omega) (show ((I18 22).toInt = x22.toInt + 1) from by omega) hP hD hS (lv_sub hl [1, 0] rfl)
  have w_I0_22 := rg (hvI 22 (by decide)) (0) (16) rfl rfl
  refine lv_aload_n hx hb dX12_image_0 rfl (lv_at hl 0 rfl) ?_
  refine lv_iconst (v := 0) hx hb dX12_image_1 (by decide) ?_
  refine p_fld (W1 := fun y => Wm G g q y J0 R0 L0) (n := 22) (v := 0) F hK hP hD hS 0 (Wm_at0 G g q I0 J0 R0 L0) clX12 69 (by decide) flX12_222 rfl rfl rfl (Nat.le_of_ble_eq_true rfl) dX12_image_2 (Wm_setI22 G g q I0 J0 R0 L0 _) (fun I23 H locs eI23 hP hD hS => ?_)
  have hvI : InvI Wm_lo Wm_hi I23 := inv_upI hvI 22 eI23 (by decide)
  have hsI := smF_up hsI eI23 (by decide)
  have hv_I23 := hvI
  have u_I23_22 : (I23 22).toInt = 0 := by rw [eI23]; rfl
  refine lv_aload_n hx hb dX12_image_5 rfl (lv_at hl 0 rfl) ?_
  refine lv_aload_n hx hb dX12_image_6 rfl (lv_at hl 0 rfl) ?_
  refine g_get F hK hP 0 (Wm_at0 G g q I23 J0 R0 L0) clX12 21 (by decide) flX12_77 rfl dX12_image_7 ?_
  refine lv_aload_n hx hb dX12_image_10 rfl (lv_at hl 0 rfl) ?_
  refine g_get F hK hP 0 (Wm_at0 G g q I23 J0 R0 L0) clX12 12 (by decide) flX12_48 rfl dX12_image_11 ?_
  refine cst_i (hsI 10 rfl) ?_
  have w_I0_10 := rg (hvI0 10 (by decide)) (0) (1) rfl rfl
  refine g_iald F hK hP 10 (Wm_at10 G g q I23 J0 R0 L0) (in_of (by omega)) dX12_image_14 rfl ?_
  refine lv_topi (fun x24 ex24 => ?_)
  have gx24 : x24.toInt = (R0 7 (Int32.toNatClampNeg (I0 10))).toInt := congrArg Int32.toInt (ex24)
  have fx24 : ((0 : Int) ≤ x24.toInt ∧ x24.toInt ≤ (12 : Int)) := by rw [ex24]; exact hvR 7 (by decide) _ (clamp_lt (n := 2) (in_of (by omega)))
  refine wvv (As := [.int x24]) (rest := []) (b := (g 45)) (d := 1) F hK hP hD hS hA (s_X12_writes l G g q I23 J0 R0 L0 hvI hvR  x24 (by omega)) kmV_X12_writes mlX12_617 clX12 rfl 0 (Wm_at0 G g q I23 J0 R0 L0) ⟨(Nat.le_of_ble_eq_true rfl), (Nat.le_of_ble_eq_true rfl)⟩ hl.1 rfl (Nat.le_of_ble_eq_true rfl) dX12_image_15 (fun u26 H locs hwr25 hP hD hS => ?_)
  obtain ⟨I27, J28, R29, L30⟩ := u26
  replace hP : va_P G.1 vwCl (Wm G g q I27 J28 R29 L30) H := hP
  replace hD : va_D A (Wm G g q I27 J28 R29 L30) := hD
  obtain ⟨hvI, hvR, tIr25, tRr25, F0r25⟩ := hwr25
  replace F0r25 : ((I27 22).toInt = (I23 22).toInt + 1) := F0r25
  replace hvI : InvI Wm_lo Wm_hi I27 := hvI
  replace hvR : InvR Wm_rl R29 := hvR
  replace tIr25 : SmF ([22] : List Nat) I23 I27 := tIr25
  replace tRr25 : SmF ([39] : List Nat) R0 R29 := tRr25
  have hv_I27 := hvI
  have hsI := smF_tr hsI tIr25 (by decide)
  have hsR := smF_tr hsR tRr25 (by decide)
  have w_I27_22 := rg (hvI 22 (by decide)) (0) (16) rfl rfl
  refine lv_iconst (v := 0) hx hb dX12_image_18 (by decide) ?_
  refine lv_istore_n (lv' := [(1, .int 0), (0, .ref (g 45))]) hx hb dX12_image_19 rfl hl (by decide) rfl (fun ls hl => ?_)
  exact lab_20 13 0 I27 J28 R29 L30 _ _ _ (show (12 - 0) < ((13 : Nat) : Int) from by omega) hvI hvR hsI hsR (by decide) (show ((I27 22).toInt = 0 + 1) from by omega) hP hD hS (lv_sub hl [1, 0] rfl)
set_option maxHeartbeats 4000000 in
set_option maxRecDepth 100000 in
theorem s_X12_judge (l : Launch) (G : Gx) (g q : Nat → Nat) (I0 : Nat → Int32) (J0 : Nat → Int64) (R0 : Nat → Nat → Int32) (L0 : Nat → Nat → Int64) (hvI : InvI Wm_lo Wm_hi I0) (hvR : InvR Wm_rl R0)  (p1 : Int32)  : CtI (S := St) l yX12_judge cX12_judge 3 (some .int) (rmD 6 0 0) G [.ref (g 45), .int p1] (Wm G g q I0 J0 R0 L0) (fun r u => InvI Wm_lo Wm_hi u.1 ∧ InvR Wm_rl u.2.2.1 ∧ SmF ([17, 18, 19] : List Nat) I0 u.1 ∧ SmF ([] : List Nat) R0 u.2.2.1) (fun u => Wm G g q u.1 u.2.1 u.2.2.1 u.2.2.2) := by
  refine ctI_of (own := RX12) (by decide +kernel) rfl (Nat.le_of_ble_eq_true rfl) ?_
  intro p e s m below meth c A ls F hr hlk hnm hK hP hD hA hS hl
  have hx := F.1
  have hb := F.2.1
  have hown := F.2.2.2.1
  have hl : lv_has ls 3 [(0, .ref (g 45)), (1, .int p1)] := hl
  obtain ⟨Q, hQ⟩ : ∃ Q : State → Prop, Q = MQ below (va_Qi (S := St) (fun r u => InvI Wm_lo Wm_hi u.1 ∧ InvR Wm_rl u.2.2.1 ∧ SmF ([17, 18, 19] : List Nat) I0 u.1 ∧ SmF ([] : List Nat) R0 u.2.2.1) (BX G A (fun u => Wm G g q u.1 u.2.1 u.2.2.1 u.2.2.2)) A) [.ref (g 45), .int p1].toArray s 0 0 A := ⟨_, rfl⟩
  rw [show (MQ below (va_Qi (S := St) (fun r u => InvI Wm_lo Wm_hi u.1 ∧ InvR Wm_rl u.2.2.1 ∧ SmF ([17, 18, 19] : List Nat) I0 u.1 ∧ SmF ([] : List Nat) R0 u.2.2.1) (BX G A (fun u => Wm G g q u.1 u.2.1 u.2.2.1 u.2.2.2)) A) [.ref (g 45), .int p1].toArray s (rmD 6 0 0).cells (rmD 6 0 0).slots A) = Q from hQ.symm]
  have hsI := smF_rf ([17, 18, 19] : List Nat) I0
  have hsR := smF_rf ([] : List Nat) R0
  have hvI0 := hvI
  refine lv_iload_n hx hb dX12_judge_0 rfl (lv_at hl 1 rfl) ?_
  refine lv_iconst (v := 0) hx hb dX12_judge_1 (by decide) ?_
  refine lv_iconst (v := 2) hx hb dX12_judge_2 (by decide) ?_
  refine w0i (As := [.int p1, .int 0, .int 2]) (rest := []) (d := 1) F hK hP hD hS hA (s_X12_is l G  p1 0 2 (by decide) (by decide)) kmS_X12_is mlX12_316 ⟨(Nat.le_of_ble_eq_true rfl), (Nat.le_of_ble_eq_true rfl)⟩ hl.1 rfl (Nat.le_of_ble_eq_true rfl) dX12_judge_3 (fun r1 u2 H locs hwr1 hP hD hS => ?_)
  obtain ⟨F0r1, F1r1⟩ := hwr1
  replace F0r1 : ((0 : Int) ≤ r1.toInt ∧ r1.toInt ≤ (1 : Int)) := F0r1
  replace F1r1 : (r1.toInt = 1 → ((0 : Int) ≤ p1.toInt ∧ p1.toInt ≤ (2 : Int))) := F1r1
  refine lv_if_ne (tgt := 11) hx hb dX12_judge_6 (by decide) (fun c3 => ?_) (fun c3 => ?_)
  · have gc3 : ¬ (r1.toInt = 0) := fun q0 => c3 (Int32.toInt_inj.mp q0)
    refine lv_aload_n hx hb dX12_judge_11 rfl (lv_at hl 0 rfl) ?_
    refine wvi (As := []) (rest := []) (b := (g 45)) (d := 5) F hK hP hD hS hA (s_X12_holds l G g q I0 J0 R0 L0 hvI hvR   ) kmV_X12_holds mlX12_507 clX12 rfl 0 (Wm_at0 G g q I0 J0 R0 L0) ⟨(Nat.le_of_ble_eq_true rfl), (Nat.le_of_ble_eq_true rfl)⟩ hl.1 rfl (Nat.le_of_ble_eq_true rfl) dX12_judge_12 (fun r4 u5 H locs hwr4 hP hD hS => ?_)
    obtain ⟨I6, J7, R8, L9⟩ := u5
    replace hP : va_P G.1 vwCl (Wm G g q I6 J7 R8 L9) H := hP
    replace hD : va_D A (Wm G g q I6 J7 R8 L9) := hD
    obtain ⟨hvI, hvR, tIr4, tRr4, F0r4⟩ := hwr4
    replace F0r4 : ((0 : Int) ≤ r4.toInt ∧ r4.toInt ≤ (1 : Int)) := F0r4
    replace hvI : InvI Wm_lo Wm_hi I6 := hvI
    replace hvR : InvR Wm_rl R8 := hvR
    replace tIr4 : SmF ([17, 18, 19] : List Nat) I0 I6 := tIr4
    replace tRr4 : SmF ([] : List Nat) R0 R8 := tRr4
    have hv_I6 := hvI
    have hsI := smF_tr hsI tIr4 (by decide)
    have hsR := smF_tr hsR tRr4 (by decide)
    refine lv_istore_n (lv' := [(2, .int r4), (0, .ref (g 45)), (1, .int p1)]) hx hb dX12_judge_15 rfl hl (by decide) rfl (fun ls hl => ?_)
    refine lv_iload_n hx hb dX12_judge_16 rfl (lv_at hl 2 rfl) ?_
    refine lv_if_ne (tgt := 27) hx hb dX12_judge_17 (by decide) (fun c10 => ?_) (fun c10 => ?_)
    · have gc10 : ¬ (p1.toInt = 0) := fun q0 => c10 (Int32.toInt_inj.mp q0)
      refine lv_iload_n hx hb dX12_judge_27 rfl (lv_at hl 2 rfl) ?_
      refine lv_iconst (v := 1) hx hb dX12_judge_28 (by decide) ?_
      refine lv_icmp_ne (tgt := 39) hx hb dX12_judge_29 (by decide) (fun c11 => ?_) (fun c11 => ?_)
      · have gc11 : ¬ (p1.toInt = 1) := fun q0 => c11 (Int32.toInt_inj.mp q0)
        refine lv_aload_n hx hb dX12_judge_39 rfl (lv_at hl 1 rfl) ?_
        refine g_get F hK hP 0 (Wm_at0 G g q I6 J7 R8 L9) clX12 61 (by decide) flX12_198 rfl dX12_judge_40 ?_
        rw [hQ]
        exact q_i F hr hlk (I6, J7, R8, L9) hP hD hS ⟨hvI, hvR, hsI, hsR⟩ dX12_judge_43 (Nat.le_of_ble_eq_true rfl) (Nat.le_of_ble_eq_true rfl)
      · have gc11 : p1.toInt = 1 := congrArg Int32.toInt c11
        refine lv_aload_n hx hb dX12_judge_32 rfl (lv_at hl 1 rfl) ?_
        refine g_get F hK hP 0 (Wm_at0 G g q I6 J7 R8 L9) clX12 60 (by decide) flX12_195 rfl dX12_judge_33 ?_
        refine lv_goto (tgt := 43) hx hb dX12_judge_36 (by decide) ?_
        rw [hQ]
        exact q_i F hr hlk (I6, J7, R8, L9) hP hD hS ⟨hvI, hvR, hsI, hsR⟩ dX12_judge_43 (Nat.le_of_ble_eq_true rfl) (Nat.le_of_ble_eq_true rfl)
    · have gc10 : p1.toInt = 0 := congrArg Int32.toInt c10
      refine lv_aload_n hx hb dX12_judge_20 rfl (lv_at hl 1 rfl) ?_
      refine g_get F hK hP 0 (Wm_at0 G g q I6 J7 R8 L9) clX12 59 (by decide) flX12_192 rfl dX12_judge_21 ?_
      refine lv_goto (tgt := 43) hx hb dX12_judge_24 (by decide) ?_
      rw [hQ]
      exact q_i F hr hlk (I6, J7, R8, L9) hP hD hS ⟨hvI, hvR, hsI, hsR⟩ dX12_judge_43 (Nat.le_of_ble_eq_true rfl) (Nat.le_of_ble_eq_true rfl)
  · have gc3 : r1.toInt = 0 := congrArg Int32.toInt c3
    refine lv_iconst (v := (-1)) hx hb dX12_judge_9 (by decide) ?_
    rw [hQ]
    exact q_i F hr hlk (I0, J0, R0, L0) hP hD hS ⟨hvI, hvR, hsI, hsR⟩ dX12_judge_10 (Nat.le_of_ble_eq_true rfl) (Nat.le_of_ble_eq_true rfl)
set_option maxHeartbeats 4000000 in
set_option maxRecDepth 100000 in
theorem s_X12_likely (l : Launch) (G : Gx) (g q : Nat → Nat) (I0 : Nat → Int32) (J0 : Nat → Int64) (R0 : Nat → Nat → Int32) (L0 : Nat → Nat → Int64) (hvI : InvI Wm_lo Wm_hi I0) (hvR : InvR Wm_rl R0)  (p1 : Int32) (p2 : Int32)  : CtL (S := St) l yX12_likely cX12_likely 3 (some .long) (rmD 3 0 0) G [.ref (g 45), .int p1, .int p2] (Wm G g q I0 J0 R0 L0) (fun r u => InvI Wm_lo Wm_hi u.1 ∧ InvR Wm_rl u.2.2.1 ∧ SmF ([] : List Nat) I0 u.1 ∧ SmF ([] : List Nat) R0 u.2.2.1) (fun u => Wm G g q u.1 u.2.1 u.2.2.1 u.2.2.2) := by
  refine ctL_of (own := RX12) (by decide +kernel) rfl (Nat.le_of_ble_eq_true rfl) ?_
  intro p e s m below meth c A ls F hr hlk hnm hK hP hD hA hS hl
  have hx := F.1
  have hb := F.2.1
  have hown := F.2.2.2.1
  have hl : lv_has ls 3 [(0, .ref (g 45)), (1, .int p1), (2, .int p2)] := hl
  obtain ⟨Q, hQ⟩ : ∃ Q : State → Prop, Q = MQ below (va_Ql (S := St) (fun r u => InvI Wm_lo Wm_hi u.1 ∧ InvR Wm_rl u.2.2.1 ∧ SmF ([] : List Nat) I0 u.1 ∧ SmF ([] : List Nat) R0 u.2.2.1) (BX G A (fun u => Wm G g q u.1 u.2.1 u.2.2.1 u.2.2.2)) A) [.ref (g 45), .int p1, .int p2].toArray s 0 0 A := ⟨_, rfl⟩
  rw [show (MQ below (va_Ql (S := St) (fun r u => InvI Wm_lo Wm_hi u.1 ∧ InvR Wm_rl u.2.2.1 ∧ SmF ([] : List Nat) I0 u.1 ∧ SmF ([] : List Nat) R0 u.2.2.1) (BX G A (fun u => Wm G g q u.1 u.2.1 u.2.2.1 u.2.2.2)) A) [.ref (g 45), .int p1, .int p2].toArray s (rmD 3 0 0).cells (rmD 3 0 0).slots A) = Q from hQ.symm]
  have hsI := smF_rf ([] : List Nat) I0
  have hsR := smF_rf ([] : List Nat) R0
  have hvI0 := hvI
  have lab_17 : ∀  (I_17 : Nat → Int32) (J_17 : Nat → Int64) (R_17 : Nat → Nat → Int32) (L_17 : Nat → Nat → Int64) (H : Heap) (locs : List Loc) (ls : Array Slot), InvI Wm_lo Wm_hi I_17 → InvR Wm_rl R_17 → SmF ([] : List Nat) I0 I_17 → SmF ([] : List Nat) R0 R_17 → va_P G.1 vwCl (Wm G g q I_17 J_17 R_17 L_17) H → va_D A (Wm G g q I_17 J_17 R_17 L_17) → va_S A s.heap H locs → lv_has ls 3 [] → W p l e (rmD 3 0 0) s m [.ref (g 45), .int p1, .int p2].toArray below meth c H locs 0 0 Q (F0 m 17 ls []) := by
    intro I_17 J_17 R_17 L_17 H locs ls hvI hvR hsI hsR hP hD hS hl
    have hv_I_17 := hvI
    refine lv_ldc2 hx hb hown (F.2.2.2.2 _ clX12_555) dX12_likely_17 ?_
    rw [hQ]
    exact q_l F hr hlk (I_17, J_17, R_17, L_17) hP hD hS ⟨hvI, hvR, hsI, hsR⟩ dX12_likely_20 (Nat.le_of_ble_eq_true rfl) (Nat.le_of_ble_eq_true rfl)
  refine lv_iload_n hx hb dX12_likely_0 rfl (lv_at hl 1 rfl) ?_
  refine w0i (As := [.int p1]) (rest := []) (d := 2) F hK hP hD hS hA (s_X12_isDay l G  p1 ) kmS_X12_isDay mlX12_488 ⟨(Nat.le_of_ble_eq_true rfl), (Nat.le_of_ble_eq_true rfl)⟩ hl.1 rfl (Nat.le_of_ble_eq_true rfl) dX12_likely_1 (fun r1 u2 H locs hwr1 hP hD hS => ?_)
  obtain ⟨F0r1, F1r1⟩ := hwr1
  replace F0r1 : ((0 : Int) ≤ r1.toInt ∧ r1.toInt ≤ (1 : Int)) := F0r1
  replace F1r1 : (r1.toInt = 1 → (0 ≤ p1.toInt ∧ p1.toInt ≤ 4)) := F1r1
  refine lv_if_eq (tgt := 17) hx hb dX12_likely_4 (by decide) (fun c3 => ?_) (fun c3 => ?_)
  · have gc3 : r1.toInt = 0 := congrArg Int32.toInt c3
    exact lab_17  I0 J0 R0 L0 _ _ _ hvI hvR hsI hsR  hP hD hS (lv_sub hl [] rfl)
  · have gc3 : ¬ (r1.toInt = 0) := fun q0 => c3 (Int32.toInt_inj.mp q0)
    refine lv_iload_n hx hb dX12_likely_7 rfl (lv_at hl 2 rfl) ?_
    refine lv_iconst (v := 0) hx hb dX12_likely_8 (by decide) ?_
    refine lv_bipush (v := 30) hx hb dX12_likely_9 (by decide) ?_
    refine w0i (As := [.int p2, .int 0, .int 30]) (rest := []) (d := 1) F hK hP hD hS hA (s_X12_is l G  p2 0 30 (by decide) (by decide)) kmS_X12_is mlX12_316 ⟨(Nat.le_of_ble_eq_true rfl), (Nat.le_of_ble_eq_true rfl)⟩ hl.1 rfl (Nat.le_of_ble_eq_true rfl) dX12_likely_11 (fun r4 u5 H locs hwr4 hP hD hS => ?_)
    obtain ⟨F0r4, F1r4⟩ := hwr4
    replace F0r4 : ((0 : Int) ≤ r4.toInt ∧ r4.toInt ≤ (1 : Int)) := F0r4
    replace F1r4 : (r4.toInt = 1 → ((0 : Int) ≤ p2.toInt ∧ p2.toInt ≤ (30 : Int))) := F1r4
    refine lv_if_ne (tgt := 21) hx hb dX12_likely_14 (by decide) (fun c6 => ?_) (fun c6 => ?_)
    · have gc6 : ¬ (r4.toInt = 0) := fun q0 => c6 (Int32.toInt_inj.mp q0)
      refine lv_aload_n hx hb dX12_likely_21 rfl (lv_at hl 0 rfl) ?_
      refine lv_iload_n hx hb dX12_likely_22 rfl (lv_at hl 1 rfl) ?_
      refine wvv (As := [.int p1]) (rest := []) (b := (g 45)) (d := 2) F hK hP hD hS hA (s_X12_comers l G g q I0 J0 R0 L0 hvI hvR  p1 (show ((0 : Int) ≤ p1.toInt ∧ p1.toInt ≤ (4 : Int)) from by omega)) kmV_X12_comers mlX12_557 clX12 rfl 0 (Wm_at0 G g q I0 J0 R0 L0) ⟨(Nat.le_of_ble_eq_true rfl), (Nat.le_of_ble_eq_true rfl)⟩ hl.1 rfl (Nat.le_of_ble_eq_true rfl) dX12_likely_23 (fun u8 H locs hwr7 hP hD hS => ?_)
      obtain ⟨I9, J10, R11, L12⟩ := u8
      replace hP : va_P G.1 vwCl (Wm G g q I9 J10 R11 L12) H := hP
      replace hD : va_D A (Wm G g q I9 J10 R11 L12) := hD
      obtain ⟨hvI, hvR, tIr7, tRr7⟩ := hwr7
      replace hvI : InvI Wm_lo Wm_hi I9 := hvI
      replace hvR : InvR Wm_rl R11 := hvR
      replace tIr7 : SmF ([] : List Nat) I0 I9 := tIr7
      replace tRr7 : SmF ([] : List Nat) R0 R11 := tRr7
      have hv_I9 := hvI
      have hsI := smF_tr hsI tIr7 (by decide)
      have hsR := smF_tr hsR tRr7 (by decide)
      refine lv_aload_n hx hb dX12_likely_26 rfl (lv_at hl 0 rfl) ?_
      refine lv_iload_n hx hb dX12_likely_27 rfl (lv_at hl 2 rfl) ?_
      refine wvl (As := [.int p2]) (rest := []) (b := (g 45)) (d := 1) F hK hP hD hS hA (s_X12_above l G g q I9 J10 R11 L12 hvI hvR  p2 (show ((0 : Int) ≤ p2.toInt ∧ p2.toInt ≤ (40 : Int)) from by omega)) kmV_X12_above mlX12_560 clX12 rfl 0 (Wm_at0 G g q I9 J10 R11 L12) ⟨(Nat.le_of_ble_eq_true rfl), (Nat.le_of_ble_eq_true rfl)⟩ hl.1 rfl (Nat.le_of_ble_eq_true rfl) dX12_likely_28 (fun r13 u14 H locs hwr13 hP hD hS => ?_)
      rw [hQ]
      exact q_l F hr hlk (I9, J10, R11, L12) hP hD hS ⟨hvI, hvR, hsI, hsR⟩ dX12_likely_31 (Nat.le_of_ble_eq_true rfl) (Nat.le_of_ble_eq_true rfl)
    · have gc6 : r4.toInt = 0 := congrArg Int32.toInt c6
      exact lab_17  I0 J0 R0 L0 _ _ _ hvI hvR hsI hsR  hP hD hS (lv_sub hl [] rfl)
set_option maxHeartbeats 4000000 in
set_option maxRecDepth 100000 in
theorem s_X12_move (l : Launch) (G : Gx) (g q : Nat → Nat) (I0 : Nat → Int32) (J0 : Nat → Int64) (R0 : Nat → Nat → Int32) (L0 : Nat → Nat → Int64) (hvI : InvI Wm_lo Wm_hi I0) (hvR : InvR Wm_rl R0)  (p1 : Int32)  : CtI (S := St) l yX12_move cX12_move 5 (some .int) (rmD 6 0 0) G [.ref (g 45), .int p1] (Wm G g q I0 J0 R0 L0) (fun r u => InvI Wm_lo Wm_hi u.1 ∧ InvR Wm_rl u.2.2.1 ∧ SmF ([17, 18, 19] : List Nat) I0 u.1 ∧ SmF ([36] : List Nat) R0 u.2.2.1) (fun u => Wm G g q u.1 u.2.1 u.2.2.1 u.2.2.2) := by
  refine ctI_of (own := RX12) (by decide +kernel) rfl (Nat.le_of_ble_eq_true rfl) ?_
  intro p e s m below meth c A ls F hr hlk hnm hK hP hD hA hS hl
  have hx := F.1
  have hb := F.2.1
  have hown := F.2.2.2.1
  have hl : lv_has ls 5 [(0, .ref (g 45)), (1, .int p1)] := hl
  obtain ⟨Q, hQ⟩ : ∃ Q : State → Prop, Q = MQ below (va_Qi (S := St) (fun r u => InvI Wm_lo Wm_hi u.1 ∧ InvR Wm_rl u.2.2.1 ∧ SmF ([17, 18, 19] : List Nat) I0 u.1 ∧ SmF ([36] : List Nat) R0 u.2.2.1) (BX G A (fun u => Wm G g q u.1 u.2.1 u.2.2.1 u.2.2.2)) A) [.ref (g 45), .int p1].toArray s 0 0 A := ⟨_, rfl⟩
  rw [show (MQ below (va_Qi (S := St) (fun r u => InvI Wm_lo Wm_hi u.1 ∧ InvR Wm_rl u.2.2.1 ∧ SmF ([17, 18, 19] : List Nat) I0 u.1 ∧ SmF ([36] : List Nat) R0 u.2.2.1) (BX G A (fun u => Wm G g q u.1 u.2.1 u.2.2.1 u.2.2.2)) A) [.ref (g 45), .int p1].toArray s (rmD 6 0 0).cells (rmD 6 0 0).slots A) = Q from hQ.symm]
  have hsI := smF_rf ([17, 18, 19] : List Nat) I0
  have hsR := smF_rf ([36] : List Nat) R0
  have hvI0 := hvI
  have lab_22 : ∀ (k_22 : Nat) (a2_22 : Int32) (a3_22 : Int32) (a4_22 : Int32) (I_22 : Nat → Int32) (J_22 : Nat → Int64) (R_22 : Nat → Nat → Int32) (L_22 : Nat → Nat → Int64) (H : Heap) (locs : List Loc) (ls : Array Slot), ((32 - a4_22.toInt) < (k_22 : Int)) → InvI Wm_lo Wm_hi I_22 → InvR Wm_rl R_22 → SmF ([17, 18, 19] : List Nat) I0 I_22 → SmF ([36] : List Nat) R0 R_22 → ((0 : Int) ≤ p1.toInt ∧ p1.toInt ≤ (11 : Int)) → ((0 : Int) ≤ a4_22.toInt ∧ a4_22.toInt ≤ (32 : Int)) → va_P G.1 vwCl (Wm G g q I_22 J_22 R_22 L_22) H → va_D A (Wm G g q I_22 J_22 R_22 L_22) → va_S A s.heap H locs → lv_has ls 5 [(0, .ref (g 45)), (1, .int p1), (2, .int a2_22), (3, .int a3_22), (4, .int a4_22)] → W p l e (rmD 6 0 0) s m [.ref (g 45), .int p1].toArray below meth c H locs 0 0 Q (F0 m 22 ls []) := by
    intro k_22
    induction k_22 with
    | zero =>
      intro a2_22 a3_22 a4_22 I_22 J_22 R_22 L_22 H locs ls hm hvI hvR hsI hsR y0_22 y1_22 hP hD hS hl
      have hv_I_22 := hvI
      exact absurd hm (by omega)
    | succ k_22 ih_22 =>
      intro a2_22 a3_22 a4_22 I_22 J_22 R_22 L_22 H locs ls hm hvI hvR hsI hsR y0_22 y1_22 hP hD hS hl
      have hv_I_22 := hvI
      have lab_71 : ∀ (a3_71 : Int32) (I_71 : Nat → Int32) (J_71 : Nat → Int64) (R_71 : Nat → Nat → Int32) (L_71 : Nat → Nat → Int64) (H : Heap) (locs : List Loc) (ls : Array Slot), InvI Wm_lo Wm_hi I_71 → InvR Wm_rl R_71 → SmF ([17, 18, 19] : List Nat) I0 I_71 → SmF ([36] : List Nat) R0 R_71 → ((0 : Int) ≤ a4_22.toInt ∧ a4_22.toInt ≤ (31 : Int)) → va_P G.1 vwCl (Wm G g q I_71 J_71 R_71 L_71) H → va_D A (Wm G g q I_71 J_71 R_71 L_71) → va_S A s.heap H locs → lv_has ls 5 [(0, .ref (g 45)), (1, .int p1), (2, .int a2_22), (3, .int a3_71), (4, .int a4_22)] → W p l e (rmD 6 0 0) s m [.ref (g 45), .int p1].toArray below meth c H locs 0 0 Q (F0 m 71 ls []) := by
        intro a3_71 I_71 J_71 R_71 L_71 H locs ls hvI hvR hsI hsR y0_71 hP hD hS hl
        have hv_I_71 := hvI
        obtain ⟨x1, ex1⟩ : ∃ y : Int32, y = a4_22 + 1 := ⟨_, rfl⟩
        have fx1 : x1.toInt = a4_22.toInt + (1 : Int) := by rw [ex1]; exact t_add (by show (-2147483648 : Int) ≤ a4_22.toInt + (1 : Int); omega) (by show a4_22.toInt + (1 : Int) ≤ 2147483647; omega)
        refine lv_iinc (v := x1) (lv' := [(4, .int x1), (0, .ref (g 45)), (1, .int p1), (2, .int a2_22), (3, .int a3_71)]) hx hb dX12_move_71 hl (k := 4) rfl (by rw [ex1]; rfl) (by decide) rfl (fun ls hl => ?_)
        refine lv_goto (tgt := 22) hx hb dX12_move_74 (by decide) ?_
        exact ih_22 a2_22 a3_71 x1 I_71 J_71 R_71 L_71 _ _ _ (show (32 - x1.toInt) < (k_22 : Int) from by omega) hvI hvR hsI hsR (show ((0 : Int) ≤ p1.toInt ∧ p1.toInt ≤ (11 : Int)) from by omega) (show ((0 : Int) ≤ x1.toInt ∧ x1.toInt ≤ (32 : Int)) from by omega) hP hD hS (lv_sub hl [1, 2, 3, 4, 0] rfl)
      have lab_69 : ∀ (b0_69 : Int32) (b1_69 : Int32) (I_69 : Nat → Int32) (J_69 : Nat → Int64) (R_69 : Nat → Nat → Int32) (L_69 : Nat → Nat → Int64) (H : Heap) (locs : List Loc) (ls : Array Slot), InvI Wm_lo Wm_hi I_69 → InvR Wm_rl R_69 → SmF ([17, 18, 19] : List Nat) I0 I_69 → SmF ([36] : List Nat) R0 R_69 → ((0 : Int) ≤ a4_22.toInt ∧ a4_22.toInt ≤ (31 : Int)) → ((0 : Int) ≤ b0_69.toInt ∧ b0_69.toInt ≤ (1 : Int)) → va_P G.1 vwCl (Wm G g q I_69 J_69 R_69 L_69) H → va_D A (Wm G g q I_69 J_69 R_69 L_69) → va_S A s.heap H locs → lv_has ls 5 [(0, .ref (g 45)), (1, .int p1), (2, .int a2_22), (4, .int a4_22)] → W p l e (rmD 6 0 0) s m [.ref (g 45), .int p1].toArray below meth c H locs 0 0 Q (F0 m 69 ls [.int b0_69, .int b1_69]) := by
        intro b0_69 b1_69 I_69 J_69 R_69 L_69 H locs ls hvI hvR hsI hsR y0_69 y1_69 hP hD hS hl
        have hv_I_69 := hvI
        refine lv_iadd hx hb dX12_move_69 ?_
        refine lv_topi (fun x2 ex2 => ?_)
        refine lv_istore_n (lv' := [(3, .int x2), (0, .ref (g 45)), (1, .int p1), (2, .int a2_22), (4, .int a4_22)]) hx hb dX12_move_70 rfl hl (by decide) rfl (fun ls hl => ?_)
        exact lab_71 x2 I_69 J_69 R_69 L_69 _ _ _ hvI hvR hsI hsR (show ((0 : Int) ≤ a4_22.toInt ∧ a4_22.toInt ≤ (31 : Int)) from by omega) hP hD hS (lv_sub hl [1, 2, 3, 0, 4] rfl)
      refine lv_iload hx hb dX12_move_22 (lv_at hl 4 rfl) ?_
      refine lv_bipush (v := 32) hx hb dX12_move_24 (by decide) ?_
      refine lv_icmp_ge (tgt := 77) hx hb dX12_move_26 (by decide) (fun c3 => ?_) (fun c3 => ?_)
      · have gc3 : 32 ≤ a4_22.toInt := (tle _ _).mp c3
        refine lv_aload_n hx hb dX12_move_77 rfl (lv_at hl 0 rfl) ?_
        refine g_get F hK hP 0 (Wm_at0 G g q I_22 J_22 R_22 L_22) clX12 58 (by decide) flX12_189 rfl dX12_move_78 ?_
        refine lv_iload_n hx hb dX12_move_81 rfl (lv_at hl 1 rfl) ?_
        refine lv_iload_n hx hb dX12_move_82 rfl (lv_at hl 2 rfl) ?_
        refine p_row (W1 := fun y => Wm G g q I_22 J_22 y L_22) (n := 36) F hK hP hD hS 41 (Wm_at41 G g q I_22 J_22 R_22 L_22) (in_of (by omega)) dX12_move_83 (Wm_rowR36 G g q I_22 J_22 R_22 L_22) (fun R4 H locs eR4 hP hD hS => ?_)
        have hvR : InvR Wm_rl R4 := inv_upR hvR 36 eR4 (upd_in (hvR 36 (by decide)) (full _))
        have hsR := smF_up hsR eR4 (by decide)
        refine lv_iload_n hx hb dX12_move_84 rfl (lv_at hl 3 rfl) ?_
        rw [hQ]
        exact q_i F hr hlk (I_22, J_22, R4, L_22) hP hD hS ⟨hvI, hvR, hsI, hsR⟩ dX12_move_85 (Nat.le_of_ble_eq_true rfl) (Nat.le_of_ble_eq_true rfl)
      · have gc3 : ¬ (32 ≤ a4_22.toInt) := fun q0 => c3 ((tle _ _).mpr q0)
        refine lv_iload hx hb dX12_move_29 (lv_at hl 4 rfl) ?_
        refine lv_iload_n hx hb dX12_move_31 rfl (lv_at hl 2 rfl) ?_
        refine lv_icmp_eq (tgt := 71) hx hb dX12_move_32 (by decide) (fun c5 => ?_) (fun c5 => ?_)
        · have gc5 : a4_22.toInt = a2_22.toInt := congrArg Int32.toInt c5
          exact lab_71 a3_22 I_22 J_22 R_22 L_22 _ _ _ hvI hvR hsI hsR (show ((0 : Int) ≤ a4_22.toInt ∧ a4_22.toInt ≤ (31 : Int)) from by omega) hP hD hS (lv_sub hl [0, 1, 2, 3, 4] rfl)
        · have gc5 : ¬ (a4_22.toInt = a2_22.toInt) := fun q0 => c5 (Int32.toInt_inj.mp q0)
          refine lv_aload_n hx hb dX12_move_35 rfl (lv_at hl 0 rfl) ?_
          refine lv_iload_n hx hb dX12_move_36 rfl (lv_at hl 1 rfl) ?_
          refine lv_iload hx hb dX12_move_37 (lv_at hl 4 rfl) ?_
          refine wvi (As := [.int p1, .int a4_22]) (rest := []) (b := (g 45)) (d := 2) F hK hP hD hS hA (s_X12_suits l G g q I_22 J_22 R_22 L_22 hvI hvR  p1 a4_22 (show ((0 : Int) ≤ p1.toInt ∧ p1.toInt ≤ (11 : Int)) from by omega)) kmV_X12_suits mlX12_472 clX12 rfl 0 (Wm_at0 G g q I_22 J_22 R_22 L_22) ⟨(Nat.le_of_ble_eq_true rfl), (Nat.le_of_ble_eq_true rfl)⟩ hl.1 rfl (Nat.le_of_ble_eq_true rfl) dX12_move_39 (fun r6 u7 H locs hwr6 hP hD hS => ?_)
          have F0r6 := hwr6
          replace F0r6 : ((0 : Int) ≤ r6.toInt ∧ r6.toInt ≤ (1 : Int)) := F0r6
          refine lv_if_ne (tgt := 48) hx hb dX12_move_42 (by decide) (fun c8 => ?_) (fun c8 => ?_)
          · have gc8 : ¬ (r6.toInt = 0) := fun q0 => c8 (Int32.toInt_inj.mp q0)
            refine lv_aload_n hx hb dX12_move_48 rfl (lv_at hl 0 rfl) ?_
            refine g_get F hK hP 0 (Wm_at0 G g q I_22 J_22 R_22 L_22) clX12 58 (by decide) flX12_189 rfl dX12_move_49 ?_
            refine lv_iload_n hx hb dX12_move_52 rfl (lv_at hl 1 rfl) ?_
            refine lv_iload hx hb dX12_move_53 (lv_at hl 4 rfl) ?_
            refine p_row (W1 := fun y => Wm G g q I_22 J_22 y L_22) (n := 36) F hK hP hD hS 41 (Wm_at41 G g q I_22 J_22 R_22 L_22) (in_of (by omega)) dX12_move_55 (Wm_rowR36 G g q I_22 J_22 R_22 L_22) (fun R9 H locs eR9 hP hD hS => ?_)
            have hvR : InvR Wm_rl R9 := inv_upR hvR 36 eR9 (upd_in (hvR 36 (by decide)) (full _))
            have hsR := smF_up hsR eR9 (by decide)
            refine lv_iload_n hx hb dX12_move_56 rfl (lv_at hl 3 rfl) ?_
            refine lv_aload_n hx hb dX12_move_57 rfl (lv_at hl 0 rfl) ?_
            refine wvi (As := []) (rest := [.int a3_22]) (b := (g 45)) (d := 5) F hK hP hD hS hA (s_X12_holds l G g q I_22 J_22 R9 L_22 hvI hvR   ) kmV_X12_holds mlX12_507 clX12 rfl 0 (Wm_at0 G g q I_22 J_22 R9 L_22) ⟨(Nat.le_of_ble_eq_true rfl), (Nat.le_of_ble_eq_true rfl)⟩ hl.1 rfl (Nat.le_of_ble_eq_true rfl) dX12_move_58 (fun r10 u11 H locs hwr10 hP hD hS => ?_)
            obtain ⟨I12, J13, R14, L15⟩ := u11
            replace hP : va_P G.1 vwCl (Wm G g q I12 J13 R14 L15) H := hP
            replace hD : va_D A (Wm G g q I12 J13 R14 L15) := hD
            obtain ⟨hvI, hvR, tIr10, tRr10, F0r10⟩ := hwr10
            replace F0r10 : ((0 : Int) ≤ r10.toInt ∧ r10.toInt ≤ (1 : Int)) := F0r10
            replace hvI : InvI Wm_lo Wm_hi I12 := hvI
            replace hvR : InvR Wm_rl R14 := hvR
            replace tIr10 : SmF ([17, 18, 19] : List Nat) I_22 I12 := tIr10
            replace tRr10 : SmF ([] : List Nat) R9 R14 := tRr10
            have hv_I12 := hvI
            have hsI := smF_tr hsI tIr10 (by decide)
            have hsR := smF_tr hsR tRr10 (by decide)
            refine lv_if_eq (tgt := 68) hx hb dX12_move_61 (by decide) (fun c16 => ?_) (fun c16 => ?_)
            · have gc16 : r10.toInt = 0 := congrArg Int32.toInt c16
              refine lv_iconst (v := 0) hx hb dX12_move_68 (by decide) ?_
              exact lab_69 0 a3_22 I12 J13 R14 L15 _ _ _ hvI hvR hsI hsR (show ((0 : Int) ≤ a4_22.toInt ∧ a4_22.toInt ≤ (31 : Int)) from by omega) (by decide) hP hD hS (lv_sub hl [0, 1, 2, 4] rfl)
            · have gc16 : ¬ (r10.toInt = 0) := fun q0 => c16 (Int32.toInt_inj.mp q0)
              refine lv_iconst (v := 1) hx hb dX12_move_64 (by decide) ?_
              refine lv_goto (tgt := 69) hx hb dX12_move_65 (by decide) ?_
              exact lab_69 1 a3_22 I12 J13 R14 L15 _ _ _ hvI hvR hsI hsR (show ((0 : Int) ≤ a4_22.toInt ∧ a4_22.toInt ≤ (31 : Int)) from by omega) (by decide) hP hD hS (lv_sub hl [0, 1, 2, 4] rfl)
          · have gc8 : r6.toInt = 0 := congrArg Int32.toInt c8
            refine lv_goto (tgt := 71) hx hb dX12_move_45 (by decide) ?_
            exact lab_71 a3_22 I_22 J_22 R_22 L_22 _ _ _ hvI hvR hsI hsR (show ((0 : Int) ≤ a4_22.toInt ∧ a4_22.toInt ≤ (31 : Int)) from by omega) hP hD hS (lv_sub hl [0, 1, 2, 3, 4] rfl)
  refine lv_aload_n hx hb dX12_move_0 rfl (lv_at hl 0 rfl) ?_
  refine lv_iload_n hx hb dX12_move_1 rfl (lv_at hl 1 rfl) ?_
  refine wvi (As := [.int p1]) (rest := []) (b := (g 45)) (d := 2) F hK hP hD hS hA (s_X12_isPerson l G g q I0 J0 R0 L0 hvI hvR  p1 ) kmV_X12_isPerson mlX12_466 clX12 rfl 0 (Wm_at0 G g q I0 J0 R0 L0) ⟨(Nat.le_of_ble_eq_true rfl), (Nat.le_of_ble_eq_true rfl)⟩ hl.1 rfl (Nat.le_of_ble_eq_true rfl) dX12_move_2 (fun r17 u18 H locs hwr17 hP hD hS => ?_)
  obtain ⟨F0r17, F1r17⟩ := hwr17
  replace F0r17 : ((0 : Int) ≤ r17.toInt ∧ r17.toInt ≤ (1 : Int)) := F0r17
  replace F1r17 : (r17.toInt = 1 → (0 ≤ p1.toInt ∧ p1.toInt ≤ 11)) := F1r17
  refine lv_if_ne (tgt := 10) hx hb dX12_move_5 (by decide) (fun c19 => ?_) (fun c19 => ?_)
  · have gc19 : ¬ (r17.toInt = 0) := fun q0 => c19 (Int32.toInt_inj.mp q0)
    refine lv_aload_n hx hb dX12_move_10 rfl (lv_at hl 0 rfl) ?_
    refine g_get F hK hP 0 (Wm_at0 G g q I0 J0 R0 L0) clX12 58 (by decide) flX12_189 rfl dX12_move_11 ?_
    refine lv_iload_n hx hb dX12_move_14 rfl (lv_at hl 1 rfl) ?_
    refine g_iald F hK hP 41 (Wm_at41 G g q I0 J0 R0 L0) (in_of (by omega)) dX12_move_15 rfl ?_
    refine lv_topi (fun x20 ex20 => ?_)
    have gx20 : x20.toInt = (R0 36 (Int32.toNatClampNeg p1)).toInt := congrArg Int32.toInt (ex20)
    refine lv_istore_n (lv' := [(2, .int x20), (0, .ref (g 45)), (1, .int p1)]) hx hb dX12_move_16 rfl hl (by decide) rfl (fun ls hl => ?_)
    refine lv_iconst (v := 0) hx hb dX12_move_17 (by decide) ?_
    refine lv_istore_n (lv' := [(3, .int 0), (2, .int x20), (0, .ref (g 45)), (1, .int p1)]) hx hb dX12_move_18 rfl hl (by decide) rfl (fun ls hl => ?_)
    refine lv_iconst (v := 0) hx hb dX12_move_19 (by decide) ?_
    refine lv_istore (lv' := [(4, .int 0), (3, .int 0), (2, .int x20), (0, .ref (g 45)), (1, .int p1)]) hx hb dX12_move_20 hl (by decide) rfl (fun ls hl => ?_)
    exact lab_22 33 x20 0 0 I0 J0 R0 L0 _ _ _ (show (32 - 0) < ((33 : Nat) : Int) from by omega) hvI hvR hsI hsR (show ((0 : Int) ≤ p1.toInt ∧ p1.toInt ≤ (11 : Int)) from by omega) (by decide) hP hD hS (lv_sub hl [3, 4, 2, 1, 0] rfl)
  · have gc19 : r17.toInt = 0 := congrArg Int32.toInt c19
    refine lv_iconst (v := (-1)) hx hb dX12_move_8 (by decide) ?_
    rw [hQ]
    exact q_i F hr hlk (I0, J0, R0, L0) hP hD hS ⟨hvI, hvR, hsI, hsR⟩ dX12_move_9 (Nat.le_of_ble_eq_true rfl) (Nat.le_of_ble_eq_true rfl)
set_option maxHeartbeats 4000000 in
set_option maxRecDepth 100000 in
theorem s_X12_on (l : Launch) (G : Gx) (g q : Nat → Nat) (I0 : Nat → Int32) (J0 : Nat → Int64) (R0 : Nat → Nat → Int32) (L0 : Nat → Nat → Int64) (hvI : InvI Wm_lo Wm_hi I0) (hvR : InvR Wm_rl R0)    : CtI (S := St) l yX12_on cX12_on 5 (some .boolean) (rmD 2 0 0) G [.ref (g 45)] (Wm G g q I0 J0 R0 L0) (fun r u => InvI Wm_lo Wm_hi u.1 ∧ InvR Wm_rl u.2.2.1 ∧ SmF ([0] : List Nat) I0 u.1 ∧ SmF ([34, 36] : List Nat) R0 u.2.2.1 ∧ ((0 : Int) ≤ r.toInt ∧ r.toInt ≤ (1 : Int))) (fun u => Wm G g q u.1 u.2.1 u.2.2.1 u.2.2.2) := by
  refine ctI_of (own := RX12) (by decide +kernel) rfl (Nat.le_of_ble_eq_true rfl) ?_
  intro p e s m below meth c A ls F hr hlk hnm hK hP hD hA hS hl
  have hx := F.1
  have hb := F.2.1
  have hown := F.2.2.2.1
  have hl : lv_has ls 5 [(0, .ref (g 45))] := hl
  obtain ⟨Q, hQ⟩ : ∃ Q : State → Prop, Q = MQ below (va_Qi (S := St) (fun r u => InvI Wm_lo Wm_hi u.1 ∧ InvR Wm_rl u.2.2.1 ∧ SmF ([0] : List Nat) I0 u.1 ∧ SmF ([34, 36] : List Nat) R0 u.2.2.1 ∧ ((0 : Int) ≤ r.toInt ∧ r.toInt ≤ (1 : Int))) (BX G A (fun u => Wm G g q u.1 u.2.1 u.2.2.1 u.2.2.2)) A) [.ref (g 45)].toArray s 0 0 A := ⟨_, rfl⟩
  rw [show (MQ below (va_Qi (S := St) (fun r u => InvI Wm_lo Wm_hi u.1 ∧ InvR Wm_rl u.2.2.1 ∧ SmF ([0] : List Nat) I0 u.1 ∧ SmF ([34, 36] : List Nat) R0 u.2.2.1 ∧ ((0 : Int) ≤ r.toInt ∧ r.toInt ≤ (1 : Int))) (BX G A (fun u => Wm G g q u.1 u.2.1 u.2.2.1 u.2.2.2)) A) [.ref (g 45)].toArray s (rmD 2 0 0).cells (rmD 2 0 0).slots A) = Q from hQ.symm]
  have hsI := smF_rf ([0] : List Nat) I0
  have hsR := smF_rf ([34, 36] : List Nat) R0
  have hvI0 := hvI
  have lab_128 : ∀  (I_128 : Nat → Int32) (J_128 : Nat → Int64) (R_128 : Nat → Nat → Int32) (L_128 : Nat → Nat → Int64) (H : Heap) (locs : List Loc) (ls : Array Slot), InvI Wm_lo Wm_hi I_128 → InvR Wm_rl R_128 → SmF ([0] : List Nat) I0 I_128 → SmF ([34, 36] : List Nat) R0 R_128 → va_P G.1 vwCl (Wm G g q I_128 J_128 R_128 L_128) H → va_D A (Wm G g q I_128 J_128 R_128 L_128) → va_S A s.heap H locs → lv_has ls 5 [(0, .ref (g 45))] → W p l e (rmD 2 0 0) s m [.ref (g 45)].toArray below meth c H locs 0 0 Q (F0 m 128 ls []) := by
    intro I_128 J_128 R_128 L_128 H locs ls hvI hvR hsI hsR hP hD hS hl
    have hv_I_128 := hvI
    refine lv_aload_n hx hb dX12_on_128 rfl (lv_at hl 0 rfl) ?_
    refine lv_iconst (v := 5) hx hb dX12_on_129 (by decide) ?_
    refine wvi (As := [.int 5]) (rest := []) (b := (g 45)) (d := 1) F hK hP hD hS hA (s_X12_refuses l G g q I_128 J_128 R_128 L_128 hvI hvR  5 (by decide)) kmV_X12_refuses mlX12_225 clX12 rfl 0 (Wm_at0 G g q I_128 J_128 R_128 L_128) ⟨(Nat.le_of_ble_eq_true rfl), (Nat.le_of_ble_eq_true rfl)⟩ hl.1 rfl (Nat.le_of_ble_eq_true rfl) dX12_on_130 (fun r1 u2 H locs hwr1 hP hD hS => ?_)
    obtain ⟨I3, J4, R5, L6⟩ := u2
    replace hP : va_P G.1 vwCl (Wm G g q I3 J4 R5 L6) H := hP
    replace hD : va_D A (Wm G g q I3 J4 R5 L6) := hD
    obtain ⟨hvI, hvR, tIr1, tRr1, F0r1⟩ := hwr1
    replace F0r1 : ((-1 : Int) ≤ r1.toInt ∧ r1.toInt ≤ (-1 : Int)) := F0r1
    replace hvI : InvI Wm_lo Wm_hi I3 := hvI
    replace hvR : InvR Wm_rl R5 := hvR
    replace tIr1 : SmF ([] : List Nat) I_128 I3 := tIr1
    replace tRr1 : SmF ([34] : List Nat) R_128 R5 := tRr1
    have hv_I3 := hvI
    have hsI := smF_tr hsI tIr1 (by decide)
    have hsR := smF_tr hsR tRr1 (by decide)
    refine lv_if_lt (tgt := 140) hx hb dX12_on_133 (by decide) (fun c7 => ?_) (fun c7 => ?_)
    · have gc7 : r1.toInt < 0 := (tlt _ _).mp c7
      refine lv_iconst (v := 0) hx hb dX12_on_140 (by decide) ?_
      rw [hQ]
      exact q_z F hr hlk (I3, J4, R5, L6) hP hD hS ⟨hvI, hvR, hsI, hsR, (show ((0 : Int) ≤ 0 ∧ 0 ≤ (1 : Int)) from by omega)⟩ dX12_on_141 (Nat.le_of_ble_eq_true rfl) (Nat.le_of_ble_eq_true rfl) (nar01 (by decide))
    · have gc7 : ¬ (r1.toInt < 0) := fun q0 => c7 ((tlt _ _).mpr q0)
      refine lv_iconst (v := 1) hx hb dX12_on_136 (by decide) ?_
      refine lv_goto (tgt := 141) hx hb dX12_on_137 (by decide) ?_
      rw [hQ]
      exact q_z F hr hlk (I3, J4, R5, L6) hP hD hS ⟨hvI, hvR, hsI, hsR, (show ((0 : Int) ≤ 1 ∧ 1 ≤ (1 : Int)) from by omega)⟩ dX12_on_141 (Nat.le_of_ble_eq_true rfl) (Nat.le_of_ble_eq_true rfl) (nar01 (by decide))
  have lab_145 : ∀ (k_145 : Nat) (a4_145 : Int32) (I_145 : Nat → Int32) (J_145 : Nat → Int64) (R_145 : Nat → Nat → Int32) (L_145 : Nat → Nat → Int64) (H : Heap) (locs : List Loc) (ls : Array Slot), ((12 - a4_145.toInt) < (k_145 : Int)) → InvI Wm_lo Wm_hi I_145 → InvR Wm_rl R_145 → SmF ([0] : List Nat) I0 I_145 → SmF ([34, 36] : List Nat) R0 R_145 → ((0 : Int) ≤ a4_145.toInt ∧ a4_145.toInt ≤ (12 : Int)) → va_P G.1 vwCl (Wm G g q I_145 J_145 R_145 L_145) H → va_D A (Wm G g q I_145 J_145 R_145 L_145) → va_S A s.heap H locs → lv_has ls 5 [(0, .ref (g 45)), (4, .int a4_145)] → W p l e (rmD 2 0 0) s m [.ref (g 45)].toArray below meth c H locs 0 0 Q (F0 m 145 ls []) := by
    intro k_145
    induction k_145 with
    | zero =>
      intro a4_145 I_145 J_145 R_145 L_145 H locs ls hm hvI hvR hsI hsR y0_145 hP hD hS hl
      have hv_I_145 := hvI
      exact absurd hm (by omega)
    | succ k_145 ih_145 =>
      intro a4_145 I_145 J_145 R_145 L_145 H locs ls hm hvI hvR hsI hsR y0_145 hP hD hS hl
      have hv_I_145 := hvI
      refine lv_iload hx hb dX12_on_145 (lv_at hl 1 rfl) ?_
      refine lv_aload_n hx hb dX12_on_147 rfl (lv_at hl 0 rfl) ?_
      refine g_get F hK hP 0 (Wm_at0 G g q I_145 J_145 R_145 L_145) clX12 21 (by decide) flX12_77 rfl dX12_on_148 ?_
      refine lv_aload_n hx hb dX12_on_151 rfl (lv_at hl 0 rfl) ?_
      refine g_get F hK hP 0 (Wm_at0 G g q I_145 J_145 R_145 L_145) clX12 12 (by decide) flX12_48 rfl dX12_on_152 ?_
      refine cst_i (hsI 10 rfl) ?_
      have w_I0_10 := rg (hvI0 10 (by decide)) (0) (1) rfl rfl
      refine g_iald F hK hP 10 (Wm_at10 G g q I_145 J_145 R_145 L_145) (in_of (by omega)) dX12_on_155 rfl ?_
      refine lv_topi (fun x8 ex8 => ?_)
      have gx8 : x8.toInt = (R0 7 (Int32.toNatClampNeg (I0 10))).toInt := congrArg Int32.toInt ((ex8).trans (congrFun (hsR 7 rfl) _))
      have fx8 : ((0 : Int) ≤ x8.toInt ∧ x8.toInt ≤ (12 : Int)) := by rw [ex8]; exact hvR 7 (by decide) _ (clamp_lt (n := 2) (in_of (by omega)))
      refine lv_icmp_ge (tgt := 181) hx hb dX12_on_156 (by decide) (fun c9 => ?_) (fun c9 => ?_)
      · have gc9 : x8.toInt ≤ a4_145.toInt := (tle _ _).mp c9
        refine lv_iconst (v := 1) hx hb dX12_on_181 (by decide) ?_
        rw [hQ]
        exact q_z F hr hlk (I_145, J_145, R_145, L_145) hP hD hS ⟨hvI, hvR, hsI, hsR, (show ((0 : Int) ≤ 1 ∧ 1 ≤ (1 : Int)) from by omega)⟩ dX12_on_182 (Nat.le_of_ble_eq_true rfl) (Nat.le_of_ble_eq_true rfl) (nar01 (by decide))
      · have gc9 : ¬ (x8.toInt ≤ a4_145.toInt) := fun q0 => c9 ((tle _ _).mpr q0)
        refine lv_aload_n hx hb dX12_on_159 rfl (lv_at hl 0 rfl) ?_
        refine g_get F hK hP 0 (Wm_at0 G g q I_145 J_145 R_145 L_145) clX12 58 (by decide) flX12_189 rfl dX12_on_160 ?_
        refine lv_iload hx hb dX12_on_163 (lv_at hl 1 rfl) ?_
        refine lv_aload_n hx hb dX12_on_165 rfl (lv_at hl 0 rfl) ?_
        refine g_get F hK hP 0 (Wm_at0 G g q I_145 J_145 R_145 L_145) clX12 0 (by decide) flX12_7 rfl dX12_on_166 ?_
        refine lv_iconst (v := 1) hx hb dX12_on_169 (by decide) ?_
        refine lv_iload hx hb dX12_on_170 (lv_at hl 1 rfl) ?_
        refine lv_iadd hx hb dX12_on_172 ?_
        refine lv_topi (fun x10 ex10 => ?_)
        have fx10 : x10.toInt = 1 + a4_145.toInt := by rw [ex10]; exact t_add (by show (-2147483648 : Int) ≤ 1 + a4_145.toInt; omega) (by show 1 + a4_145.toInt ≤ 2147483647; omega)
        refine g_iald F hK hP 1 (Wm_at1 G g q I_145 J_145 R_145 L_145) (in_of (by omega)) dX12_on_173 rfl ?_
        refine lv_topi (fun x11 ex11 => ?_)
        have gx11 : x11.toInt = (R0 0 (Int32.toNatClampNeg x10)).toInt := congrArg Int32.toInt ((ex11).trans (congrFun (hsR 0 rfl) _))
        have fx11 : ((0 : Int) ≤ x11.toInt ∧ x11.toInt ≤ (255 : Int)) := by rw [ex11]; exact hvR 0 (by decide) _ (clamp_lt (n := 1800) (in_of (by omega)))
        refine p_row (W1 := fun y => Wm G g q I_145 J_145 y L_145) (n := 36) F hK hP hD hS 41 (Wm_at41 G g q I_145 J_145 R_145 L_145) (in_of (by omega)) dX12_on_174 (Wm_rowR36 G g q I_145 J_145 R_145 L_145) (fun R12 H locs eR12 hP hD hS => ?_)
        have hvR : InvR Wm_rl R12 := inv_upR hvR 36 eR12 (upd_in (hvR 36 (by decide)) (full _))
        have hsR := smF_up hsR eR12 (by decide)
        obtain ⟨x13, ex13⟩ : ∃ y : Int32, y = a4_145 + 1 := ⟨_, rfl⟩
        have fx13 : x13.toInt = a4_145.toInt + (1 : Int) := by rw [ex13]; exact t_add (by show (-2147483648 : Int) ≤ a4_145.toInt + (1 : Int); omega) (by show a4_145.toInt + (1 : Int) ≤ 2147483647; omega)
        refine lv_iinc (v := x13) (lv' := [(4, .int x13), (0, .ref (g 45))]) hx hb dX12_on_175 hl (k := 1) rfl (by rw [ex13]; rfl) (by decide) rfl (fun ls hl => ?_)
        refine lv_goto (tgt := 145) hx hb dX12_on_178 (by decide) ?_
        exact ih_145 x13 I_145 J_145 R12 L_145 _ _ _ (show (12 - x13.toInt) < (k_145 : Int) from by omega) hvI hvR hsI hsR (show ((0 : Int) ≤ x13.toInt ∧ x13.toInt ≤ (12 : Int)) from by omega) hP hD hS (lv_sub hl [1, 0] rfl)
  have lab_112 : ∀ (a1_112 : Int32) (a2_112 : Int32) (a3_112 : Int32) (I_112 : Nat → Int32) (J_112 : Nat → Int64) (R_112 : Nat → Nat → Int32) (L_112 : Nat → Nat → Int64) (H : Heap) (locs : List Loc) (ls : Array Slot), InvI Wm_lo Wm_hi I_112 → InvR Wm_rl R_112 → SmF ([0] : List Nat) I0 I_112 → SmF ([34, 36] : List Nat) R0 R_112 → ((0 : Int) ≤ a1_112.toInt ∧ a1_112.toInt ≤ (1800 : Int)) → ((0 : Int) ≤ a2_112.toInt ∧ a2_112.toInt ≤ (1 : Int)) → (a2_112.toInt = 1 → (2 ≤ a1_112.toInt ∧ a1_112.toInt ≤ 14)) → va_P G.1 vwCl (Wm G g q I_112 J_112 R_112 L_112) H → va_D A (Wm G g q I_112 J_112 R_112 L_112) → va_S A s.heap H locs → lv_has ls 5 [(0, .ref (g 45)), (1, .int a1_112), (2, .int a2_112), (3, .int a3_112)] → W p l e (rmD 2 0 0) s m [.ref (g 45)].toArray below meth c H locs 0 0 Q (F0 m 112 ls []) := by
    intro a1_112 a2_112 a3_112 I_112 J_112 R_112 L_112 H locs ls hvI hvR hsI hsR y0_112 y1_112 z0_112 hP hD hS hl
    have hv_I_112 := hvI
    refine lv_iload_n hx hb dX12_on_112 rfl (lv_at hl 2 rfl) ?_
    refine lv_if_eq (tgt := 128) hx hb dX12_on_113 (by decide) (fun c14 => ?_) (fun c14 => ?_)
    · have gc14 : a2_112.toInt = 0 := congrArg Int32.toInt c14
      exact lab_128  I_112 J_112 R_112 L_112 _ _ _ hvI hvR hsI hsR  hP hD hS (lv_sub hl [0] rfl)
    · have gc14 : ¬ (a2_112.toInt = 0) := fun q0 => c14 (Int32.toInt_inj.mp q0)
      refine lv_aload_n hx hb dX12_on_116 rfl (lv_at hl 0 rfl) ?_
      refine g_get F hK hP 0 (Wm_at0 G g q I_112 J_112 R_112 L_112) clX12 0 (by decide) flX12_7 rfl dX12_on_117 ?_
      refine lv_iload_n hx hb dX12_on_120 rfl (lv_at hl 1 rfl) ?_
      refine lv_iconst (v := 1) hx hb dX12_on_121 (by decide) ?_
      refine lv_isub hx hb dX12_on_122 ?_
      refine lv_topi (fun x15 ex15 => ?_)
      have fx15 : x15.toInt = a1_112.toInt - 1 := by rw [ex15]; exact t_sub (by show (-2147483648 : Int) ≤ a1_112.toInt - 1; omega) (by show a1_112.toInt - 1 ≤ 2147483647; omega)
      refine g_iald F hK hP 1 (Wm_at1 G g q I_112 J_112 R_112 L_112) (in_of (by omega)) dX12_on_123 rfl ?_
      refine lv_topi (fun x16 ex16 => ?_)
      have gx16 : x16.toInt = (R0 0 (Int32.toNatClampNeg x15)).toInt := congrArg Int32.toInt ((ex16).trans (congrFun (hsR 0 rfl) _))
      have fx16 : ((0 : Int) ≤ x16.toInt ∧ x16.toInt ≤ (255 : Int)) := by rw [ex16]; exact hvR 0 (by decide) _ (clamp_lt (n := 1800) (in_of (by omega)))
      refine lv_iload_n hx hb dX12_on_124 rfl (lv_at hl 3 rfl) ?_
      refine lv_icmp_eq (tgt := 142) hx hb dX12_on_125 (by decide) (fun c17 => ?_) (fun c17 => ?_)
      · have gc17 : x16.toInt = a3_112.toInt := congrArg Int32.toInt c17
        refine lv_iconst (v := 0) hx hb dX12_on_142 (by decide) ?_
        refine lv_istore (lv' := [(4, .int 0), (0, .ref (g 45)), (1, .int a1_112), (2, .int a2_112), (3, .int a3_112)]) hx hb dX12_on_143 hl (by decide) rfl (fun ls hl => ?_)
        exact lab_145 13 0 I_112 J_112 R_112 L_112 _ _ _ (show (12 - 0) < ((13 : Nat) : Int) from by omega) hvI hvR hsI hsR (by decide) hP hD hS (lv_sub hl [1, 0] rfl)
      · have gc17 : ¬ (x16.toInt = a3_112.toInt) := fun q0 => c17 (Int32.toInt_inj.mp q0)
        exact lab_128  I_112 J_112 R_112 L_112 _ _ _ hvI hvR hsI hsR  hP hD hS (lv_sub hl [0] rfl)
  have lab_55 : ∀ (k_55 : Nat) (a1_55 : Int32) (a2_55 : Int32) (a3_55 : Int32) (a4_55 : Int32) (I_55 : Nat → Int32) (J_55 : Nat → Int64) (R_55 : Nat → Nat → Int32) (L_55 : Nat → Nat → Int64) (H : Heap) (locs : List Loc) (ls : Array Slot), ((1800 - a4_55.toInt) < (k_55 : Int)) → InvI Wm_lo Wm_hi I_55 → InvR Wm_rl R_55 → SmF ([0] : List Nat) I0 I_55 → SmF ([34, 36] : List Nat) R0 R_55 → ((0 : Int) ≤ a1_55.toInt ∧ a1_55.toInt ≤ (1800 : Int)) → ((0 : Int) ≤ a2_55.toInt ∧ a2_55.toInt ≤ (1 : Int)) → ((0 : Int) ≤ a4_55.toInt ∧ a4_55.toInt ≤ (1800 : Int)) → (a2_55.toInt = 1 → (2 ≤ a1_55.toInt ∧ a1_55.toInt ≤ 14)) → va_P G.1 vwCl (Wm G g q I_55 J_55 R_55 L_55) H → va_D A (Wm G g q I_55 J_55 R_55 L_55) → va_S A s.heap H locs → lv_has ls 5 [(0, .ref (g 45)), (1, .int a1_55), (2, .int a2_55), (3, .int a3_55), (4, .int a4_55)] → W p l e (rmD 2 0 0) s m [.ref (g 45)].toArray below meth c H locs 0 0 Q (F0 m 55 ls []) := by
    intro k_55
    induction k_55 with
    | zero =>
      intro a1_55 a2_55 a3_55 a4_55 I_55 J_55 R_55 L_55 H locs ls hm hvI hvR hsI hsR y0_55 y1_55 y2_55 z0_55 hP hD hS hl
      have hv_I_55 := hvI
      exact absurd hm (by omega)
    | succ k_55 ih_55 =>
      intro a1_55 a2_55 a3_55 a4_55 I_55 J_55 R_55 L_55 H locs ls hm hvI hvR hsI hsR y0_55 y1_55 y2_55 z0_55 hP hD hS hl
      have hv_I_55 := hvI
      have lab_89 : ∀ (b0_89 : Int32) (I_89 : Nat → Int32) (J_89 : Nat → Int64) (R_89 : Nat → Nat → Int32) (L_89 : Nat → Nat → Int64) (H : Heap) (locs : List Loc) (ls : Array Slot), InvI Wm_lo Wm_hi I_89 → InvR Wm_rl R_89 → SmF ([0] : List Nat) I0 I_89 → SmF ([34, 36] : List Nat) R0 R_89 → ((0 : Int) ≤ a4_55.toInt ∧ a4_55.toInt ≤ (1799 : Int)) → ((0 : Int) ≤ b0_89.toInt ∧ b0_89.toInt ≤ (1 : Int)) → ((2 ≤ a1_55.toInt ∧ a1_55.toInt ≤ 14)) → va_P G.1 vwCl (Wm G g q I_89 J_89 R_89 L_89) H → va_D A (Wm G g q I_89 J_89 R_89 L_89) → va_S A s.heap H locs → lv_has ls 5 [(0, .ref (g 45)), (1, .int a1_55), (3, .int a3_55), (4, .int a4_55)] → W p l e (rmD 2 0 0) s m [.ref (g 45)].toArray below meth c H locs 0 0 Q (F0 m 89 ls [.int b0_89]) := by
        intro b0_89 I_89 J_89 R_89 L_89 H locs ls hvI hvR hsI hsR y0_89 y1_89 z0_89 hP hD hS hl
        have hv_I_89 := hvI
        refine lv_istore_n (lv' := [(2, .int b0_89), (0, .ref (g 45)), (1, .int a1_55), (3, .int a3_55), (4, .int a4_55)]) hx hb dX12_on_89 rfl hl (by decide) rfl (fun ls hl => ?_)
        refine lv_iconst (v := 5) hx hb dX12_on_90 (by decide) ?_
        refine lv_iload_n hx hb dX12_on_91 rfl (lv_at hl 3 rfl) ?_
        refine lv_imul hx hb dX12_on_92 ?_
        refine lv_topi (fun x18 ex18 => ?_)
        refine lv_aload_n hx hb dX12_on_93 rfl (lv_at hl 1 rfl) ?_
        refine g_get F hK hP 0 (Wm_at0 G g q I_89 J_89 R_89 L_89) clX12 0 (by decide) flX12_7 rfl dX12_on_94 ?_
        refine lv_iload hx hb dX12_on_97 (lv_at hl 4 rfl) ?_
        refine g_iald F hK hP 1 (Wm_at1 G g q I_89 J_89 R_89 L_89) (in_of (by omega)) dX12_on_99 rfl ?_
        refine lv_topi (fun x19 ex19 => ?_)
        have gx19 : x19.toInt = (R0 0 (Int32.toNatClampNeg a4_55)).toInt := congrArg Int32.toInt ((ex19).trans (congrFun (hsR 0 rfl) _))
        have fx19 : ((0 : Int) ≤ x19.toInt ∧ x19.toInt ≤ (255 : Int)) := by rw [ex19]; exact hvR 0 (by decide) _ (clamp_lt (n := 1800) (in_of (by omega)))
        refine lv_iadd hx hb dX12_on_100 ?_
        refine lv_topi (fun x20 ex20 => ?_)
        refine lv_sipush (v := 227) hx hb dX12_on_101 (by decide) ?_
        refine lv_irem hx hb dX12_on_104 (by decide) ?_
        refine lv_topi (fun x21 ex21 => ?_)
        refine lv_istore_n (lv' := [(3, .int x21), (2, .int b0_89), (0, .ref (g 45)), (1, .int a1_55), (4, .int a4_55)]) hx hb dX12_on_105 rfl hl (by decide) rfl (fun ls hl => ?_)
        obtain ⟨x22, ex22⟩ : ∃ y : Int32, y = a4_55 + 1 := ⟨_, rfl⟩
        have fx22 : x22.toInt = a4_55.toInt + (1 : Int) := by rw [ex22]; exact t_add (by show (-2147483648 : Int) ≤ a4_55.toInt + (1 : Int); omega) (by show a4_55.toInt + (1 : Int) ≤ 2147483647; omega)
        refine lv_iinc (v := x22) (lv' := [(4, .int x22), (3, .int x21), (2, .int b0_89), (0, .ref (g 45)), (1, .int a1_55)]) hx hb dX12_on_106 hl (k := 4) rfl (by rw [ex22]; rfl) (by decide) rfl (fun ls hl => ?_)
        refine lv_goto (tgt := 55) hx hb dX12_on_109 (by decide) ?_
        exact ih_55 a1_55 b0_89 x21 x22 I_89 J_89 R_89 L_89 _ _ _ (show (1800 - x22.toInt) < (k_55 : Int) from by omega) hvI hvR hsI hsR (show ((0 : Int) ≤ a1_55.toInt ∧ a1_55.toInt ≤ (1800 : Int)) from by omega) (show ((0 : Int) ≤ b0_89.toInt ∧ b0_89.toInt ≤ (1 : Int)) from by omega) (show ((0 : Int) ≤ x22.toInt ∧ x22.toInt ≤ (1800 : Int)) from by omega) (show (b0_89.toInt = 1 → (2 ≤ a1_55.toInt ∧ a1_55.toInt ≤ 14)) from by omega) hP hD hS (lv_sub hl [3, 4, 2, 1, 0] rfl)
      have lab_84 : ∀  (I_84 : Nat → Int32) (J_84 : Nat → Int64) (R_84 : Nat → Nat → Int32) (L_84 : Nat → Nat → Int64) (H : Heap) (locs : List Loc) (ls : Array Slot), InvI Wm_lo Wm_hi I_84 → InvR Wm_rl R_84 → SmF ([0] : List Nat) I0 I_84 → SmF ([34, 36] : List Nat) R0 R_84 → ((0 : Int) ≤ a4_55.toInt ∧ a4_55.toInt ≤ (1799 : Int)) → ((2 ≤ a1_55.toInt ∧ a1_55.toInt ≤ 14)) → va_P G.1 vwCl (Wm G g q I_84 J_84 R_84 L_84) H → va_D A (Wm G g q I_84 J_84 R_84 L_84) → va_S A s.heap H locs → lv_has ls 5 [(0, .ref (g 45)), (1, .int a1_55), (3, .int a3_55), (4, .int a4_55)] → W p l e (rmD 2 0 0) s m [.ref (g 45)].toArray below meth c H locs 0 0 Q (F0 m 84 ls []) := by
        intro I_84 J_84 R_84 L_84 H locs ls hvI hvR hsI hsR y0_84 z0_84 hP hD hS hl
        have hv_I_84 := hvI
        refine lv_iconst (v := 1) hx hb dX12_on_84 (by decide) ?_
        refine lv_goto (tgt := 89) hx hb dX12_on_85 (by decide) ?_
        exact lab_89 1 I_84 J_84 R_84 L_84 _ _ _ hvI hvR hsI hsR (show ((0 : Int) ≤ a4_55.toInt ∧ a4_55.toInt ≤ (1799 : Int)) from by omega) (by decide) (show ((2 ≤ a1_55.toInt ∧ a1_55.toInt ≤ 14)) from by omega) hP hD hS (lv_sub hl [0, 1, 2, 3] rfl)
      refine lv_iload hx hb dX12_on_55 (lv_at hl 4 rfl) ?_
      refine lv_iload_n hx hb dX12_on_57 rfl (lv_at hl 1 rfl) ?_
      refine lv_iconst (v := 1) hx hb dX12_on_58 (by decide) ?_
      refine lv_isub hx hb dX12_on_59 ?_
      refine lv_topi (fun x23 ex23 => ?_)
      have fx23 : x23.toInt = a1_55.toInt - 1 := by rw [ex23]; exact t_sub (by show (-2147483648 : Int) ≤ a1_55.toInt - 1; omega) (by show a1_55.toInt - 1 ≤ 2147483647; omega)
      refine lv_icmp_ge (tgt := 112) hx hb dX12_on_60 (by decide) (fun c24 => ?_) (fun c24 => ?_)
      · have gc24 : x23.toInt ≤ a4_55.toInt := (tle _ _).mp c24
        exact lab_112 a1_55 a2_55 a3_55 I_55 J_55 R_55 L_55 _ _ _ hvI hvR hsI hsR (show ((0 : Int) ≤ a1_55.toInt ∧ a1_55.toInt ≤ (1800 : Int)) from by omega) (show ((0 : Int) ≤ a2_55.toInt ∧ a2_55.toInt ≤ (1 : Int)) from by omega) (show (a2_55.toInt = 1 → (2 ≤ a1_55.toInt ∧ a1_55.toInt ≤ 14)) from by omega) hP hD hS (lv_sub hl [0, 1, 2, 3] rfl)
      · have gc24 : ¬ (x23.toInt ≤ a4_55.toInt) := fun q0 => c24 ((tle _ _).mpr q0)
        refine lv_iload_n hx hb dX12_on_63 rfl (lv_at hl 2 rfl) ?_
        refine lv_if_eq (tgt := 112) hx hb dX12_on_64 (by decide) (fun c25 => ?_) (fun c25 => ?_)
        · have gc25 : a2_55.toInt = 0 := congrArg Int32.toInt c25
          exact lab_112 a1_55 a2_55 a3_55 I_55 J_55 R_55 L_55 _ _ _ hvI hvR hsI hsR (show ((0 : Int) ≤ a1_55.toInt ∧ a1_55.toInt ≤ (1800 : Int)) from by omega) (show ((0 : Int) ≤ a2_55.toInt ∧ a2_55.toInt ≤ (1 : Int)) from by omega) (show (a2_55.toInt = 1 → (2 ≤ a1_55.toInt ∧ a1_55.toInt ≤ 14)) from by omega) hP hD hS (lv_sub hl [0, 1, 2, 3] rfl)
        · have gc25 : ¬ (a2_55.toInt = 0) := fun q0 => c25 (Int32.toInt_inj.mp q0)
          refine lv_iload hx hb dX12_on_67 (lv_at hl 4 rfl) ?_
          refine lv_if_eq (tgt := 84) hx hb dX12_on_69 (by decide) (fun c26 => ?_) (fun c26 => ?_)
          · have gc26 : a4_55.toInt = 0 := congrArg Int32.toInt c26
            exact lab_84  I_55 J_55 R_55 L_55 _ _ _ hvI hvR hsI hsR (show ((0 : Int) ≤ a4_55.toInt ∧ a4_55.toInt ≤ (1799 : Int)) from by omega) (show ((2 ≤ a1_55.toInt ∧ a1_55.toInt ≤ 14)) from by omega) hP hD hS (lv_sub hl [0, 1, 3, 4] rfl)
          · have gc26 : ¬ (a4_55.toInt = 0) := fun q0 => c26 (Int32.toInt_inj.mp q0)
            refine lv_aload_n hx hb dX12_on_72 rfl (lv_at hl 0 rfl) ?_
            refine g_get F hK hP 0 (Wm_at0 G g q I_55 J_55 R_55 L_55) clX12 0 (by decide) flX12_7 rfl dX12_on_73 ?_
            refine lv_iload hx hb dX12_on_76 (lv_at hl 4 rfl) ?_
            refine g_iald F hK hP 1 (Wm_at1 G g q I_55 J_55 R_55 L_55) (in_of (by omega)) dX12_on_78 rfl ?_
            refine lv_topi (fun x27 ex27 => ?_)
            have gx27 : x27.toInt = (R0 0 (Int32.toNatClampNeg a4_55)).toInt := congrArg Int32.toInt ((ex27).trans (congrFun (hsR 0 rfl) _))
            have fx27 : ((0 : Int) ≤ x27.toInt ∧ x27.toInt ≤ (255 : Int)) := by rw [ex27]; exact hvR 0 (by decide) _ (clamp_lt (n := 1800) (in_of (by omega)))
            refine lv_bipush (v := 32) hx hb dX12_on_79 (by decide) ?_
            refine lv_icmp_ge (tgt := 88) hx hb dX12_on_81 (by decide) (fun c28 => ?_) (fun c28 => ?_)
            · have gc28 : 32 ≤ x27.toInt := (tle _ _).mp c28
              refine lv_iconst (v := 0) hx hb dX12_on_88 (by decide) ?_
              exact lab_89 0 I_55 J_55 R_55 L_55 _ _ _ hvI hvR hsI hsR (show ((0 : Int) ≤ a4_55.toInt ∧ a4_55.toInt ≤ (1799 : Int)) from by omega) (by decide) (show ((2 ≤ a1_55.toInt ∧ a1_55.toInt ≤ 14)) from by omega) hP hD hS (lv_sub hl [0, 1, 3, 4] rfl)
            · have gc28 : ¬ (32 ≤ x27.toInt) := fun q0 => c28 ((tle _ _).mpr q0)
              exact lab_84  I_55 J_55 R_55 L_55 _ _ _ hvI hvR hsI hsR (show ((0 : Int) ≤ a4_55.toInt ∧ a4_55.toInt ≤ (1799 : Int)) from by omega) (show ((2 ≤ a1_55.toInt ∧ a1_55.toInt ≤ 14)) from by omega) hP hD hS (lv_sub hl [0, 1, 3, 4] rfl)
  have lab_48 : ∀ (a1_48 : Int32) (b0_48 : Int32) (I_48 : Nat → Int32) (J_48 : Nat → Int64) (R_48 : Nat → Nat → Int32) (L_48 : Nat → Nat → Int64) (H : Heap) (locs : List Loc) (ls : Array Slot), InvI Wm_lo Wm_hi I_48 → InvR Wm_rl R_48 → SmF ([0] : List Nat) I0 I_48 → SmF ([34, 36] : List Nat) R0 R_48 → ((0 : Int) ≤ a1_48.toInt ∧ a1_48.toInt ≤ (1800 : Int)) → ((0 : Int) ≤ b0_48.toInt ∧ b0_48.toInt ≤ (1 : Int)) → (b0_48.toInt = 1 → (2 ≤ a1_48.toInt ∧ a1_48.toInt ≤ 14)) → va_P G.1 vwCl (Wm G g q I_48 J_48 R_48 L_48) H → va_D A (Wm G g q I_48 J_48 R_48 L_48) → va_S A s.heap H locs → lv_has ls 5 [(0, .ref (g 45)), (1, .int a1_48)] → W p l e (rmD 2 0 0) s m [.ref (g 45)].toArray below meth c H locs 0 0 Q (F0 m 48 ls [.int b0_48]) := by
    intro a1_48 b0_48 I_48 J_48 R_48 L_48 H locs ls hvI hvR hsI hsR y0_48 y1_48 z0_48 hP hD hS hl
    have hv_I_48 := hvI
    refine lv_istore_n (lv' := [(2, .int b0_48), (0, .ref (g 45)), (1, .int a1_48)]) hx hb dX12_on_48 rfl hl (by decide) rfl (fun ls hl => ?_)
    refine lv_bipush (v := 31) hx hb dX12_on_49 (by decide) ?_
    refine lv_istore_n (lv' := [(3, .int 31), (2, .int b0_48), (0, .ref (g 45)), (1, .int a1_48)]) hx hb dX12_on_51 rfl hl (by decide) rfl (fun ls hl => ?_)
    refine lv_iconst (v := 0) hx hb dX12_on_52 (by decide) ?_
    refine lv_istore (lv' := [(4, .int 0), (3, .int 31), (2, .int b0_48), (0, .ref (g 45)), (1, .int a1_48)]) hx hb dX12_on_53 hl (by decide) rfl (fun ls hl => ?_)
    exact lab_55 1801 a1_48 b0_48 31 0 I_48 J_48 R_48 L_48 _ _ _ (show (1800 - 0) < ((1801 : Nat) : Int) from by omega) hvI hvR hsI hsR (show ((0 : Int) ≤ a1_48.toInt ∧ a1_48.toInt ≤ (1800 : Int)) from by omega) (show ((0 : Int) ≤ b0_48.toInt ∧ b0_48.toInt ≤ (1 : Int)) from by omega) (by decide) (show (b0_48.toInt = 1 → (2 ≤ a1_48.toInt ∧ a1_48.toInt ≤ 14)) from by omega) hP hD hS (lv_sub hl [3, 4, 2, 1, 0] rfl)
  have lab_47 : ∀ (a1_47 : Int32) (I_47 : Nat → Int32) (J_47 : Nat → Int64) (R_47 : Nat → Nat → Int32) (L_47 : Nat → Nat → Int64) (H : Heap) (locs : List Loc) (ls : Array Slot), InvI Wm_lo Wm_hi I_47 → InvR Wm_rl R_47 → SmF ([0] : List Nat) I0 I_47 → SmF ([34, 36] : List Nat) R0 R_47 → ((0 : Int) ≤ a1_47.toInt ∧ a1_47.toInt ≤ (1800 : Int)) → va_P G.1 vwCl (Wm G g q I_47 J_47 R_47 L_47) H → va_D A (Wm G g q I_47 J_47 R_47 L_47) → va_S A s.heap H locs → lv_has ls 5 [(0, .ref (g 45)), (1, .int a1_47)] → W p l e (rmD 2 0 0) s m [.ref (g 45)].toArray below meth c H locs 0 0 Q (F0 m 47 ls []) := by
    intro a1_47 I_47 J_47 R_47 L_47 H locs ls hvI hvR hsI hsR y0_47 hP hD hS hl
    have hv_I_47 := hvI
    refine lv_iconst (v := 0) hx hb dX12_on_47 (by decide) ?_
    exact lab_48 a1_47 0 I_47 J_47 R_47 L_47 _ _ _ hvI hvR hsI hsR (show ((0 : Int) ≤ a1_47.toInt ∧ a1_47.toInt ≤ (1800 : Int)) from by omega) (by decide) (show (0 = 1 → (2 ≤ a1_47.toInt ∧ a1_47.toInt ≤ 14)) from by omega) hP hD hS (lv_sub hl [0, 1] rfl)
  refine lv_aload_n hx hb dX12_on_0 rfl (lv_at hl 0 rfl) ?_
  refine g_get F hK hP 0 (Wm_at0 G g q I0 J0 R0 L0) clX12 1 (by decide) flX12_13 rfl dX12_on_1 ?_
  have w_I0_0 := rg (hvI0 0 (by decide)) (0) (1800) rfl rfl
  refine lv_istore_n (lv' := [(1, .int (I0 0)), (0, .ref (g 45))]) hx hb dX12_on_4 rfl hl (by decide) rfl (fun ls hl => ?_)
  refine lv_aload_n hx hb dX12_on_5 rfl (lv_at hl 1 rfl) ?_
  refine lv_iconst (v := 0) hx hb dX12_on_6 (by decide) ?_
  refine p_fld (W1 := fun y => Wm G g q y J0 R0 L0) (n := 0) (v := 0) F hK hP hD hS 0 (Wm_at0 G g q I0 J0 R0 L0) clX12 1 (by decide) flX12_13 rfl rfl rfl (Nat.le_of_ble_eq_true rfl) dX12_on_7 (Wm_setI0 G g q I0 J0 R0 L0 _) (fun I29 H locs eI29 hP hD hS => ?_)
  have hvI : InvI Wm_lo Wm_hi I29 := inv_upI hvI 0 eI29 (by decide)
  have hsI := smF_up hsI eI29 (by decide)
  have hv_I29 := hvI
  refine lv_iload_n hx hb dX12_on_10 rfl (lv_at hl 0 rfl) ?_
  refine lv_aload_n hx hb dX12_on_11 rfl (lv_at hl 1 rfl) ?_
  refine g_get F hK hP 0 (Wm_at0 G g q I29 J0 R0 L0) clX12 21 (by decide) flX12_77 rfl dX12_on_12 ?_
  refine lv_aload_n hx hb dX12_on_15 rfl (lv_at hl 1 rfl) ?_
  refine g_get F hK hP 0 (Wm_at0 G g q I29 J0 R0 L0) clX12 12 (by decide) flX12_48 rfl dX12_on_16 ?_
  refine cst_i (hsI 10 rfl) ?_
  have w_I0_10 := rg (hvI0 10 (by decide)) (0) (1) rfl rfl
  refine g_iald F hK hP 10 (Wm_at10 G g q I29 J0 R0 L0) (in_of (by omega)) dX12_on_19 rfl ?_
  refine lv_topi (fun x30 ex30 => ?_)
  have gx30 : x30.toInt = (R0 7 (Int32.toNatClampNeg (I0 10))).toInt := congrArg Int32.toInt (ex30)
  have fx30 : ((0 : Int) ≤ x30.toInt ∧ x30.toInt ≤ (12 : Int)) := by rw [ex30]; exact hvR 7 (by decide) _ (clamp_lt (n := 2) (in_of (by omega)))
  refine lv_iconst (v := 2) hx hb dX12_on_20 (by decide) ?_
  refine lv_iadd hx hb dX12_on_21 ?_
  refine lv_topi (fun x31 ex31 => ?_)
  have fx31 : x31.toInt = x30.toInt + 2 := by rw [ex31]; exact t_add (by show (-2147483648 : Int) ≤ x30.toInt + 2; omega) (by show x30.toInt + 2 ≤ 2147483647; omega)
  refine lv_icmp_ne (tgt := 47) hx hb dX12_on_22 (by decide) (fun c32 => ?_) (fun c32 => ?_)
  · have gc32 : ¬ ((I0 0).toInt = x31.toInt) := fun q0 => c32 (Int32.toInt_inj.mp q0)
    exact lab_47 ((I0 0)) I29 J0 R0 L0 _ _ _ hvI hvR hsI hsR (show ((0 : Int) ≤ (I0 0).toInt ∧ (I0 0).toInt ≤ (1800 : Int)) from by omega) hP hD hS (lv_sub hl [1, 0] rfl)
  · have gc32 : (I0 0).toInt = x31.toInt := congrArg Int32.toInt c32
    refine lv_aload_n hx hb dX12_on_25 rfl (lv_at hl 1 rfl) ?_
    refine g_get F hK hP 0 (Wm_at0 G g q I29 J0 R0 L0) clX12 0 (by decide) flX12_7 rfl dX12_on_26 ?_
    refine lv_iconst (v := 0) hx hb dX12_on_29 (by decide) ?_
    refine g_iald F hK hP 1 (Wm_at1 G g q I29 J0 R0 L0) (in_of (by decide)) dX12_on_30 rfl ?_
    refine lv_topi (fun x33 ex33 => ?_)
    have gx33 : x33.toInt = (R0 0 (Int32.toNatClampNeg 0)).toInt := congrArg Int32.toInt (ex33)
    have fx33 : ((0 : Int) ≤ x33.toInt ∧ x33.toInt ≤ (255 : Int)) := by rw [ex33]; exact hvR 0 (by decide) _ (clamp_lt (n := 1800) (in_of (by decide)))
    refine lv_aload_n hx hb dX12_on_31 rfl (lv_at hl 1 rfl) ?_
    refine g_get F hK hP 0 (Wm_at0 G g q I29 J0 R0 L0) clX12 21 (by decide) flX12_77 rfl dX12_on_32 ?_
    refine lv_aload_n hx hb dX12_on_35 rfl (lv_at hl 1 rfl) ?_
    refine g_get F hK hP 0 (Wm_at0 G g q I29 J0 R0 L0) clX12 12 (by decide) flX12_48 rfl dX12_on_36 ?_
    refine cst_i (hsI 10 rfl) ?_
    refine g_iald F hK hP 10 (Wm_at10 G g q I29 J0 R0 L0) (in_of (by omega)) dX12_on_39 rfl ?_
    refine lv_topi (fun x34 ex34 => ?_)
    have gx34 : x34.toInt = (R0 7 (Int32.toNatClampNeg (I0 10))).toInt := congrArg Int32.toInt (ex34)
    have fx34 : ((0 : Int) ≤ x34.toInt ∧ x34.toInt ≤ (12 : Int)) := by rw [ex34]; exact hvR 7 (by decide) _ (clamp_lt (n := 2) (in_of (by omega)))
    refine lv_icmp_ne (tgt := 47) hx hb dX12_on_40 (by decide) (fun c35 => ?_) (fun c35 => ?_)
    · have gc35 : ¬ (x33.toInt = x34.toInt) := fun q0 => c35 (Int32.toInt_inj.mp q0)
      exact lab_47 ((I0 0)) I29 J0 R0 L0 _ _ _ hvI hvR hsI hsR (show ((0 : Int) ≤ (I0 0).toInt ∧ (I0 0).toInt ≤ (1800 : Int)) from by omega) hP hD hS (lv_sub hl [1, 0] rfl)
    · have gc35 : x33.toInt = x34.toInt := congrArg Int32.toInt c35
      refine lv_iconst (v := 1) hx hb dX12_on_43 (by decide) ?_
      refine lv_goto (tgt := 48) hx hb dX12_on_44 (by decide) ?_
      exact lab_48 ((I0 0)) 1 I29 J0 R0 L0 _ _ _ hvI hvR hsI hsR (show ((0 : Int) ≤ (I0 0).toInt ∧ (I0 0).toInt ≤ (1800 : Int)) from by omega) (by decide) (show (1 = 1 → (2 ≤ (I0 0).toInt ∧ (I0 0).toInt ≤ 14)) from by omega) hP hD hS (lv_sub hl [1, 0] rfl)
set_option maxHeartbeats 4000000 in
set_option maxRecDepth 100000 in
theorem s_X12_over_ (l : Launch) (G : Gx) (g q : Nat → Nat) (I0 : Nat → Int32) (J0 : Nat → Int64) (R0 : Nat → Nat → Int32) (L0 : Nat → Nat → Int64) (hvI : InvI Wm_lo Wm_hi I0) (hvR : InvR Wm_rl R0)  (p1 : Int32) (p2 : Int32) (p3 : Int32)  : CtI (S := St) l yX12_over_ cX12_over_ 6 (some .int) (rmD 2 0 0) G [.ref (g 45), .int p1, .int p2, .int p3] (Wm G g q I0 J0 R0 L0) (fun r u => InvI Wm_lo Wm_hi u.1 ∧ InvR Wm_rl u.2.2.1 ∧ SmF ([] : List Nat) I0 u.1 ∧ SmF ([] : List Nat) R0 u.2.2.1 ∧ ((-1 : Int) ≤ r.toInt ∧ r.toInt ≤ (40 : Int))) (fun u => Wm G g q u.1 u.2.1 u.2.2.1 u.2.2.2) := by
  refine ctI_of (own := RX12) (by decide +kernel) rfl (Nat.le_of_ble_eq_true rfl) ?_
  intro p e s m below meth c A ls F hr hlk hnm hK hP hD hA hS hl
  have hx := F.1
  have hb := F.2.1
  have hown := F.2.2.2.1
  have hl : lv_has ls 6 [(0, .ref (g 45)), (1, .int p1), (2, .int p2), (3, .int p3)] := hl
  obtain ⟨Q, hQ⟩ : ∃ Q : State → Prop, Q = MQ below (va_Qi (S := St) (fun r u => InvI Wm_lo Wm_hi u.1 ∧ InvR Wm_rl u.2.2.1 ∧ SmF ([] : List Nat) I0 u.1 ∧ SmF ([] : List Nat) R0 u.2.2.1 ∧ ((-1 : Int) ≤ r.toInt ∧ r.toInt ≤ (40 : Int))) (BX G A (fun u => Wm G g q u.1 u.2.1 u.2.2.1 u.2.2.2)) A) [.ref (g 45), .int p1, .int p2, .int p3].toArray s 0 0 A := ⟨_, rfl⟩
  rw [show (MQ below (va_Qi (S := St) (fun r u => InvI Wm_lo Wm_hi u.1 ∧ InvR Wm_rl u.2.2.1 ∧ SmF ([] : List Nat) I0 u.1 ∧ SmF ([] : List Nat) R0 u.2.2.1 ∧ ((-1 : Int) ≤ r.toInt ∧ r.toInt ≤ (40 : Int))) (BX G A (fun u => Wm G g q u.1 u.2.1 u.2.2.1 u.2.2.2)) A) [.ref (g 45), .int p1, .int p2, .int p3].toArray s (rmD 2 0 0).cells (rmD 2 0 0).slots A) = Q from hQ.symm]
  have hsI := smF_rf ([] : List Nat) I0
  have hsR := smF_rf ([] : List Nat) R0
  have hvI0 := hvI
  have lab_42 : ∀ (k_42 : Nat) (a4_42 : Int32) (a5_42 : Int32) (I_42 : Nat → Int32) (J_42 : Nat → Int64) (R_42 : Nat → Nat → Int32) (L_42 : Nat → Nat → Int64) (H : Heap) (locs : List Loc) (ls : Array Slot), ((41 - a5_42.toInt) < (k_42 : Int)) → InvI Wm_lo Wm_hi I_42 → InvR Wm_rl R_42 → SmF ([] : List Nat) I0 I_42 → SmF ([] : List Nat) R0 R_42 → ((0 : Int) ≤ p1.toInt ∧ p1.toInt ≤ (100 : Int)) → ((0 : Int) ≤ p2.toInt ∧ p2.toInt ≤ (40 : Int)) → ((0 : Int) ≤ p3.toInt ∧ p3.toInt ≤ (100 : Int)) → ((-1 : Int) ≤ a4_42.toInt ∧ a4_42.toInt ≤ (40 : Int)) → ((0 : Int) ≤ a5_42.toInt ∧ a5_42.toInt ≤ (41 : Int)) → va_P G.1 vwCl (Wm G g q I_42 J_42 R_42 L_42) H → va_D A (Wm G g q I_42 J_42 R_42 L_42) → va_S A s.heap H locs → lv_has ls 6 [(0, .ref (g 45)), (1, .int p1), (2, .int p2), (3, .int p3), (4, .int a4_42), (5, .int a5_42)] → W p l e (rmD 2 0 0) s m [.ref (g 45), .int p1, .int p2, .int p3].toArray below meth c H locs 0 0 Q (F0 m 42 ls []) := by
    intro k_42
    induction k_42 with
    | zero =>
      intro a4_42 a5_42 I_42 J_42 R_42 L_42 H locs ls hm hvI hvR hsI hsR y0_42 y1_42 y2_42 y3_42 y4_42 hP hD hS hl
      have hv_I_42 := hvI
      exact absurd hm (by omega)
    | succ k_42 ih_42 =>
      intro a4_42 a5_42 I_42 J_42 R_42 L_42 H locs ls hm hvI hvR hsI hsR y0_42 y1_42 y2_42 y3_42 y4_42 hP hD hS hl
      have hv_I_42 := hvI
      have lab_78 : ∀ (a4_78 : Int32) (I_78 : Nat → Int32) (J_78 : Nat → Int64) (R_78 : Nat → Nat → Int32) (L_78 : Nat → Nat → Int64) (H : Heap) (locs : List Loc) (ls : Array Slot), InvI Wm_lo Wm_hi I_78 → InvR Wm_rl R_78 → SmF ([] : List Nat) I0 I_78 → SmF ([] : List Nat) R0 R_78 → ((-1 : Int) ≤ a4_78.toInt ∧ a4_78.toInt ≤ (40 : Int)) → ((0 : Int) ≤ a5_42.toInt ∧ a5_42.toInt ≤ (40 : Int)) → va_P G.1 vwCl (Wm G g q I_78 J_78 R_78 L_78) H → va_D A (Wm G g q I_78 J_78 R_78 L_78) → va_S A s.heap H locs → lv_has ls 6 [(0, .ref (g 45)), (1, .int p1), (2, .int p2), (3, .int p3), (4, .int a4_78), (5, .int a5_42)] → W p l e (rmD 2 0 0) s m [.ref (g 45), .int p1, .int p2, .int p3].toArray below meth c H locs 0 0 Q (F0 m 78 ls []) := by
        intro a4_78 I_78 J_78 R_78 L_78 H locs ls hvI hvR hsI hsR y0_78 y1_78 hP hD hS hl
        have hv_I_78 := hvI
        obtain ⟨x1, ex1⟩ : ∃ y : Int32, y = a5_42 + 1 := ⟨_, rfl⟩
        have fx1 : x1.toInt = a5_42.toInt + (1 : Int) := by rw [ex1]; exact t_add (by show (-2147483648 : Int) ≤ a5_42.toInt + (1 : Int); omega) (by show a5_42.toInt + (1 : Int) ≤ 2147483647; omega)
        refine lv_iinc (v := x1) (lv' := [(5, .int x1), (0, .ref (g 45)), (1, .int p1), (2, .int p2), (3, .int p3), (4, .int a4_78)]) hx hb dX12_over__78 hl (k := 5) rfl (by rw [ex1]; rfl) (by decide) rfl (fun ls hl => ?_)
        refine lv_goto (tgt := 42) hx hb dX12_over__81 (by decide) ?_
        exact ih_42 a4_78 x1 I_78 J_78 R_78 L_78 _ _ _ (show (41 - x1.toInt) < (k_42 : Int) from by omega) hvI hvR hsI hsR (show ((0 : Int) ≤ p1.toInt ∧ p1.toInt ≤ (100 : Int)) from by omega) (show ((0 : Int) ≤ p2.toInt ∧ p2.toInt ≤ (40 : Int)) from by omega) (show ((0 : Int) ≤ p3.toInt ∧ p3.toInt ≤ (100 : Int)) from by omega) (show ((-1 : Int) ≤ a4_78.toInt ∧ a4_78.toInt ≤ (40 : Int)) from by omega) (show ((0 : Int) ≤ x1.toInt ∧ x1.toInt ≤ (41 : Int)) from by omega) hP hD hS (lv_sub hl [1, 2, 3, 4, 5, 0] rfl)
      have lab_59 : ∀  (I_59 : Nat → Int32) (J_59 : Nat → Int64) (R_59 : Nat → Nat → Int32) (L_59 : Nat → Nat → Int64) (H : Heap) (locs : List Loc) (ls : Array Slot), InvI Wm_lo Wm_hi I_59 → InvR Wm_rl R_59 → SmF ([] : List Nat) I0 I_59 → SmF ([] : List Nat) R0 R_59 → ((0 : Int) ≤ a5_42.toInt ∧ a5_42.toInt ≤ (40 : Int)) → va_P G.1 vwCl (Wm G g q I_59 J_59 R_59 L_59) H → va_D A (Wm G g q I_59 J_59 R_59 L_59) → va_S A s.heap H locs → lv_has ls 6 [(0, .ref (g 45)), (1, .int p1), (2, .int p2), (3, .int p3), (4, .int a4_42), (5, .int a5_42)] → W p l e (rmD 2 0 0) s m [.ref (g 45), .int p1, .int p2, .int p3].toArray below meth c H locs 0 0 Q (F0 m 59 ls []) := by
        intro I_59 J_59 R_59 L_59 H locs ls hvI hvR hsI hsR y0_59 hP hD hS hl
        have hv_I_59 := hvI
        refine lv_aload_n hx hb dX12_over__59 rfl (lv_at hl 0 rfl) ?_
        refine lv_iload_n hx hb dX12_over__60 rfl (lv_at hl 2 rfl) ?_
        refine wvl (As := [.int p2]) (rest := []) (b := (g 45)) (d := 1) F hK hP hD hS hA (s_X12_above l G g q I_59 J_59 R_59 L_59 hvI hvR  p2 (show ((0 : Int) ≤ p2.toInt ∧ p2.toInt ≤ (40 : Int)) from by omega)) kmV_X12_above mlX12_560 clX12 rfl 0 (Wm_at0 G g q I_59 J_59 R_59 L_59) ⟨(Nat.le_of_ble_eq_true rfl), (Nat.le_of_ble_eq_true rfl)⟩ hl.1 rfl (Nat.le_of_ble_eq_true rfl) dX12_over__61 (fun r2 u3 H locs hwr2 hP hD hS => ?_)
        refine lv_iload_n hx hb dX12_over__64 rfl (lv_at hl 3 rfl) ?_
        obtain ⟨x4, ex4⟩ : ∃ y : Int64, (p3 : Int32).toInt64 = y := ⟨_, rfl⟩
        refine lv_i2l (v := x4) hx hb dX12_over__65 ex4 ?_
        refine lv_ldc2 hx hb hown (F.2.2.2.2 _ clX12_564) dX12_over__66 ?_
        refine lv_lmul hx hb dX12_over__69 ?_
        refine lv_topl (fun x5 ex5 => ?_)
        refine W.lcmp hx hb dX12_over__70 ?_
        refine lv_topi (fun x6 ex6 => ?_)
        refine lv_if_gt (tgt := 78) hx hb dX12_over__71 (by decide) (fun c7 => ?_) (fun c7 => ?_)
        · have gc7 : 0 < x6.toInt := (tlt _ _).mp c7
          exact lab_78 a4_42 I_59 J_59 R_59 L_59 _ _ _ hvI hvR hsI hsR (show ((-1 : Int) ≤ a4_42.toInt ∧ a4_42.toInt ≤ (40 : Int)) from by omega) (show ((0 : Int) ≤ a5_42.toInt ∧ a5_42.toInt ≤ (40 : Int)) from by omega) hP hD hS (lv_sub hl [0, 1, 2, 3, 4, 5] rfl)
        · have gc7 : ¬ (0 < x6.toInt) := fun q0 => c7 ((tlt _ _).mpr q0)
          refine lv_iload hx hb dX12_over__74 (lv_at hl 5 rfl) ?_
          refine lv_istore (lv' := [(4, .int a5_42), (0, .ref (g 45)), (1, .int p1), (2, .int p2), (3, .int p3), (5, .int a5_42)]) hx hb dX12_over__76 hl (by decide) rfl (fun ls hl => ?_)
          exact lab_78 a5_42 I_59 J_59 R_59 L_59 _ _ _ hvI hvR hsI hsR (show ((-1 : Int) ≤ a5_42.toInt ∧ a5_42.toInt ≤ (40 : Int)) from by omega) (show ((0 : Int) ≤ a5_42.toInt ∧ a5_42.toInt ≤ (40 : Int)) from by omega) hP hD hS (lv_sub hl [1, 2, 3, 4, 0, 5] rfl)
      refine lv_iload hx hb dX12_over__42 (lv_at hl 5 rfl) ?_
      refine lv_bipush (v := 40) hx hb dX12_over__44 (by decide) ?_
      refine lv_icmp_gt (tgt := 84) hx hb dX12_over__46 (by decide) (fun c8 => ?_) (fun c8 => ?_)
      · have gc8 : 40 < a5_42.toInt := (tlt _ _).mp c8
        refine lv_iload hx hb dX12_over__84 (lv_at hl 4 rfl) ?_
        rw [hQ]
        exact q_i F hr hlk (I_42, J_42, R_42, L_42) hP hD hS ⟨hvI, hvR, hsI, hsR, (show ((-1 : Int) ≤ a4_42.toInt ∧ a4_42.toInt ≤ (40 : Int)) from by omega)⟩ dX12_over__86 (Nat.le_of_ble_eq_true rfl) (Nat.le_of_ble_eq_true rfl)
      · have gc8 : ¬ (40 < a5_42.toInt) := fun q0 => c8 ((tlt _ _).mpr q0)
        refine lv_iload hx hb dX12_over__49 (lv_at hl 5 rfl) ?_
        refine lv_if_le (tgt := 59) hx hb dX12_over__51 (by decide) (fun c9 => ?_) (fun c9 => ?_)
        · have gc9 : a5_42.toInt ≤ 0 := (tle _ _).mp c9
          exact lab_59  I_42 J_42 R_42 L_42 _ _ _ hvI hvR hsI hsR (show ((0 : Int) ≤ a5_42.toInt ∧ a5_42.toInt ≤ (40 : Int)) from by omega) hP hD hS (lv_sub hl [0, 1, 2, 3, 4, 5] rfl)
        · have gc9 : ¬ (a5_42.toInt ≤ 0) := fun q0 => c9 ((tle _ _).mpr q0)
          refine lv_aload_n hx hb dX12_over__54 rfl (lv_at hl 0 rfl) ?_
          refine lv_iload_n hx hb dX12_over__55 rfl (lv_at hl 1 rfl) ?_
          refine wvv (As := [.int p1]) (rest := []) (b := (g 45)) (d := 1) F hK hP hD hS hA (s_X12_oneMore l G g q I_42 J_42 R_42 L_42 hvI hvR  p1 ) kmV_X12_oneMore mlX12_552 clX12 rfl 0 (Wm_at0 G g q I_42 J_42 R_42 L_42) ⟨(Nat.le_of_ble_eq_true rfl), (Nat.le_of_ble_eq_true rfl)⟩ hl.1 rfl (Nat.le_of_ble_eq_true rfl) dX12_over__56 (fun u11 H locs hwr10 hP hD hS => ?_)
          obtain ⟨I12, J13, R14, L15⟩ := u11
          replace hP : va_P G.1 vwCl (Wm G g q I12 J13 R14 L15) H := hP
          replace hD : va_D A (Wm G g q I12 J13 R14 L15) := hD
          obtain ⟨hvI, hvR, tIr10, tRr10⟩ := hwr10
          replace hvI : InvI Wm_lo Wm_hi I12 := hvI
          replace hvR : InvR Wm_rl R14 := hvR
          replace tIr10 : SmF ([] : List Nat) I_42 I12 := tIr10
          replace tRr10 : SmF ([] : List Nat) R_42 R14 := tRr10
          have hv_I12 := hvI
          have hsI := smF_tr hsI tIr10 (by decide)
          have hsR := smF_tr hsR tRr10 (by decide)
          exact lab_59  I12 J13 R14 L15 _ _ _ hvI hvR hsI hsR (show ((0 : Int) ≤ a5_42.toInt ∧ a5_42.toInt ≤ (40 : Int)) from by omega) hP hD hS (lv_sub hl [0, 1, 2, 3, 4, 5] rfl)
  refine lv_iload_n hx hb dX12_over__0 rfl (lv_at hl 1 rfl) ?_
  refine lv_iconst (v := 0) hx hb dX12_over__1 (by decide) ?_
  refine lv_bipush (v := 100) hx hb dX12_over__2 (by decide) ?_
  refine w0i (As := [.int p1, .int 0, .int 100]) (rest := []) (d := 1) F hK hP hD hS hA (s_X12_is l G  p1 0 100 (by decide) (by decide)) kmS_X12_is mlX12_316 ⟨(Nat.le_of_ble_eq_true rfl), (Nat.le_of_ble_eq_true rfl)⟩ hl.1 rfl (Nat.le_of_ble_eq_true rfl) dX12_over__4 (fun r16 u17 H locs hwr16 hP hD hS => ?_)
  obtain ⟨F0r16, F1r16⟩ := hwr16
  replace F0r16 : ((0 : Int) ≤ r16.toInt ∧ r16.toInt ≤ (1 : Int)) := F0r16
  replace F1r16 : (r16.toInt = 1 → ((0 : Int) ≤ p1.toInt ∧ p1.toInt ≤ (100 : Int))) := F1r16
  refine lv_if_eq (tgt := 30) hx hb dX12_over__7 (by decide) (fun c18 => ?_) (fun c18 => ?_)
  · have gc18 : r16.toInt = 0 := congrArg Int32.toInt c18
    refine lv_iconst (v := (-1)) hx hb dX12_over__30 (by decide) ?_
    rw [hQ]
    exact q_i F hr hlk (I0, J0, R0, L0) hP hD hS ⟨hvI, hvR, hsI, hsR, (show ((-1 : Int) ≤ (-1) ∧ (-1) ≤ (40 : Int)) from by omega)⟩ dX12_over__31 (Nat.le_of_ble_eq_true rfl) (Nat.le_of_ble_eq_true rfl)
  · have gc18 : ¬ (r16.toInt = 0) := fun q0 => c18 (Int32.toInt_inj.mp q0)
    refine lv_iload_n hx hb dX12_over__10 rfl (lv_at hl 2 rfl) ?_
    refine lv_iconst (v := 0) hx hb dX12_over__11 (by decide) ?_
    refine lv_bipush (v := 40) hx hb dX12_over__12 (by decide) ?_
    refine w0i (As := [.int p2, .int 0, .int 40]) (rest := []) (d := 1) F hK hP hD hS hA (s_X12_is l G  p2 0 40 (by decide) (by decide)) kmS_X12_is mlX12_316 ⟨(Nat.le_of_ble_eq_true rfl), (Nat.le_of_ble_eq_true rfl)⟩ hl.1 rfl (Nat.le_of_ble_eq_true rfl) dX12_over__14 (fun r19 u20 H locs hwr19 hP hD hS => ?_)
    obtain ⟨F0r19, F1r19⟩ := hwr19
    replace F0r19 : ((0 : Int) ≤ r19.toInt ∧ r19.toInt ≤ (1 : Int)) := F0r19
    replace F1r19 : (r19.toInt = 1 → ((0 : Int) ≤ p2.toInt ∧ p2.toInt ≤ (40 : Int))) := F1r19
    refine lv_if_eq (tgt := 30) hx hb dX12_over__17 (by decide) (fun c21 => ?_) (fun c21 => ?_)
    · have gc21 : r19.toInt = 0 := congrArg Int32.toInt c21
      refine lv_iconst (v := (-1)) hx hb dX12_over__30 (by decide) ?_
      rw [hQ]
      exact q_i F hr hlk (I0, J0, R0, L0) hP hD hS ⟨hvI, hvR, hsI, hsR, (show ((-1 : Int) ≤ (-1) ∧ (-1) ≤ (40 : Int)) from by omega)⟩ dX12_over__31 (Nat.le_of_ble_eq_true rfl) (Nat.le_of_ble_eq_true rfl)
    · have gc21 : ¬ (r19.toInt = 0) := fun q0 => c21 (Int32.toInt_inj.mp q0)
      refine lv_iload_n hx hb dX12_over__20 rfl (lv_at hl 3 rfl) ?_
      refine lv_iconst (v := 0) hx hb dX12_over__21 (by decide) ?_
      refine lv_bipush (v := 100) hx hb dX12_over__22 (by decide) ?_
      refine w0i (As := [.int p3, .int 0, .int 100]) (rest := []) (d := 1) F hK hP hD hS hA (s_X12_is l G  p3 0 100 (by decide) (by decide)) kmS_X12_is mlX12_316 ⟨(Nat.le_of_ble_eq_true rfl), (Nat.le_of_ble_eq_true rfl)⟩ hl.1 rfl (Nat.le_of_ble_eq_true rfl) dX12_over__24 (fun r22 u23 H locs hwr22 hP hD hS => ?_)
      obtain ⟨F0r22, F1r22⟩ := hwr22
      replace F0r22 : ((0 : Int) ≤ r22.toInt ∧ r22.toInt ≤ (1 : Int)) := F0r22
      replace F1r22 : (r22.toInt = 1 → ((0 : Int) ≤ p3.toInt ∧ p3.toInt ≤ (100 : Int))) := F1r22
      refine lv_if_ne (tgt := 32) hx hb dX12_over__27 (by decide) (fun c24 => ?_) (fun c24 => ?_)
      · have gc24 : ¬ (r22.toInt = 0) := fun q0 => c24 (Int32.toInt_inj.mp q0)
        refine lv_aload_n hx hb dX12_over__32 rfl (lv_at hl 0 rfl) ?_
        refine wvv (As := []) (rest := []) (b := (g 45)) (d := 1) F hK hP hD hS hA (s_X12_nobody l G g q I0 J0 R0 L0 hvI hvR   ) kmV_X12_nobody mlX12_549 clX12 rfl 0 (Wm_at0 G g q I0 J0 R0 L0) ⟨(Nat.le_of_ble_eq_true rfl), (Nat.le_of_ble_eq_true rfl)⟩ hl.1 rfl (Nat.le_of_ble_eq_true rfl) dX12_over__33 (fun u26 H locs hwr25 hP hD hS => ?_)
        obtain ⟨I27, J28, R29, L30⟩ := u26
        replace hP : va_P G.1 vwCl (Wm G g q I27 J28 R29 L30) H := hP
        replace hD : va_D A (Wm G g q I27 J28 R29 L30) := hD
        obtain ⟨hvI, hvR, tIr25, tRr25⟩ := hwr25
        replace hvI : InvI Wm_lo Wm_hi I27 := hvI
        replace hvR : InvR Wm_rl R29 := hvR
        replace tIr25 : SmF ([] : List Nat) I0 I27 := tIr25
        replace tRr25 : SmF ([] : List Nat) R0 R29 := tRr25
        have hv_I27 := hvI
        have hsI := smF_tr hsI tIr25 (by decide)
        have hsR := smF_tr hsR tRr25 (by decide)
        refine lv_iconst (v := (-1)) hx hb dX12_over__36 (by decide) ?_
        refine lv_istore (lv' := [(4, .int (-1)), (0, .ref (g 45)), (1, .int p1), (2, .int p2), (3, .int p3)]) hx hb dX12_over__37 hl (by decide) rfl (fun ls hl => ?_)
        refine lv_iconst (v := 0) hx hb dX12_over__39 (by decide) ?_
        refine lv_istore (lv' := [(5, .int 0), (4, .int (-1)), (0, .ref (g 45)), (1, .int p1), (2, .int p2), (3, .int p3)]) hx hb dX12_over__40 hl (by decide) rfl (fun ls hl => ?_)
        exact lab_42 42 ((-1)) 0 I27 J28 R29 L30 _ _ _ (show (41 - 0) < ((42 : Nat) : Int) from by omega) hvI hvR hsI hsR (show ((0 : Int) ≤ p1.toInt ∧ p1.toInt ≤ (100 : Int)) from by omega) (show ((0 : Int) ≤ p2.toInt ∧ p2.toInt ≤ (40 : Int)) from by omega) (show ((0 : Int) ≤ p3.toInt ∧ p3.toInt ≤ (100 : Int)) from by omega) (by decide) (by decide) hP hD hS (lv_sub hl [2, 3, 4, 5, 1, 0] rfl)
      · have gc24 : r22.toInt = 0 := congrArg Int32.toInt c24
        refine lv_iconst (v := (-1)) hx hb dX12_over__30 (by decide) ?_
        rw [hQ]
        exact q_i F hr hlk (I0, J0, R0, L0) hP hD hS ⟨hvI, hvR, hsI, hsR, (show ((-1 : Int) ≤ (-1) ∧ (-1) ≤ (40 : Int)) from by omega)⟩ dX12_over__31 (Nat.le_of_ble_eq_true rfl) (Nat.le_of_ble_eq_true rfl)
set_option maxHeartbeats 4000000 in
set_option maxRecDepth 100000 in
theorem s_X12_put_ (l : Launch) (G : Gx) (g q : Nat → Nat) (I0 : Nat → Int32) (J0 : Nat → Int64) (R0 : Nat → Nat → Int32) (L0 : Nat → Nat → Int64) (hvI : InvI Wm_lo Wm_hi I0) (hvR : InvR Wm_rl R0)  (p1 : Int32) (p2 : Int32)  : CtI (S := St) l yX12_put_ cX12_put_ 3 (some .boolean) (rmD 3 0 0) G [.ref (g 45), .int p1, .int p2] (Wm G g q I0 J0 R0 L0) (fun r u => InvI Wm_lo Wm_hi u.1 ∧ InvR Wm_rl u.2.2.1 ∧ SmF ([] : List Nat) I0 u.1 ∧ SmF ([34, 36] : List Nat) R0 u.2.2.1 ∧ ((0 : Int) ≤ r.toInt ∧ r.toInt ≤ (1 : Int))) (fun u => Wm G g q u.1 u.2.1 u.2.2.1 u.2.2.2) := by
  refine ctI_of (own := RX12) (by decide +kernel) rfl (Nat.le_of_ble_eq_true rfl) ?_
  intro p e s m below meth c A ls F hr hlk hnm hK hP hD hA hS hl
  have hx := F.1
  have hb := F.2.1
  have hown := F.2.2.2.1
  have hl : lv_has ls 3 [(0, .ref (g 45)), (1, .int p1), (2, .int p2)] := hl
  obtain ⟨Q, hQ⟩ : ∃ Q : State → Prop, Q = MQ below (va_Qi (S := St) (fun r u => InvI Wm_lo Wm_hi u.1 ∧ InvR Wm_rl u.2.2.1 ∧ SmF ([] : List Nat) I0 u.1 ∧ SmF ([34, 36] : List Nat) R0 u.2.2.1 ∧ ((0 : Int) ≤ r.toInt ∧ r.toInt ≤ (1 : Int))) (BX G A (fun u => Wm G g q u.1 u.2.1 u.2.2.1 u.2.2.2)) A) [.ref (g 45), .int p1, .int p2].toArray s 0 0 A := ⟨_, rfl⟩
  rw [show (MQ below (va_Qi (S := St) (fun r u => InvI Wm_lo Wm_hi u.1 ∧ InvR Wm_rl u.2.2.1 ∧ SmF ([] : List Nat) I0 u.1 ∧ SmF ([34, 36] : List Nat) R0 u.2.2.1 ∧ ((0 : Int) ≤ r.toInt ∧ r.toInt ≤ (1 : Int))) (BX G A (fun u => Wm G g q u.1 u.2.1 u.2.2.1 u.2.2.2)) A) [.ref (g 45), .int p1, .int p2].toArray s (rmD 3 0 0).cells (rmD 3 0 0).slots A) = Q from hQ.symm]
  have hsI := smF_rf ([] : List Nat) I0
  have hsR := smF_rf ([34, 36] : List Nat) R0
  have hvI0 := hvI
  have lab_18 : ∀  (I_18 : Nat → Int32) (J_18 : Nat → Int64) (R_18 : Nat → Nat → Int32) (L_18 : Nat → Nat → Int64) (H : Heap) (locs : List Loc) (ls : Array Slot), InvI Wm_lo Wm_hi I_18 → InvR Wm_rl R_18 → SmF ([] : List Nat) I0 I_18 → SmF ([34, 36] : List Nat) R0 R_18 → va_P G.1 vwCl (Wm G g q I_18 J_18 R_18 L_18) H → va_D A (Wm G g q I_18 J_18 R_18 L_18) → va_S A s.heap H locs → lv_has ls 3 [(0, .ref (g 45))] → W p l e (rmD 3 0 0) s m [.ref (g 45), .int p1, .int p2].toArray below meth c H locs 0 0 Q (F0 m 18 ls []) := by
    intro I_18 J_18 R_18 L_18 H locs ls hvI hvR hsI hsR hP hD hS hl
    have hv_I_18 := hvI
    refine lv_aload_n hx hb dX12_put__18 rfl (lv_at hl 0 rfl) ?_
    refine lv_iconst (v := 2) hx hb dX12_put__19 (by decide) ?_
    refine wvi (As := [.int 2]) (rest := []) (b := (g 45)) (d := 1) F hK hP hD hS hA (s_X12_refuses l G g q I_18 J_18 R_18 L_18 hvI hvR  2 (by decide)) kmV_X12_refuses mlX12_225 clX12 rfl 0 (Wm_at0 G g q I_18 J_18 R_18 L_18) ⟨(Nat.le_of_ble_eq_true rfl), (Nat.le_of_ble_eq_true rfl)⟩ hl.1 rfl (Nat.le_of_ble_eq_true rfl) dX12_put__20 (fun r1 u2 H locs hwr1 hP hD hS => ?_)
    obtain ⟨I3, J4, R5, L6⟩ := u2
    replace hP : va_P G.1 vwCl (Wm G g q I3 J4 R5 L6) H := hP
    replace hD : va_D A (Wm G g q I3 J4 R5 L6) := hD
    obtain ⟨hvI, hvR, tIr1, tRr1, F0r1⟩ := hwr1
    replace F0r1 : ((-1 : Int) ≤ r1.toInt ∧ r1.toInt ≤ (-1 : Int)) := F0r1
    replace hvI : InvI Wm_lo Wm_hi I3 := hvI
    replace hvR : InvR Wm_rl R5 := hvR
    replace tIr1 : SmF ([] : List Nat) I_18 I3 := tIr1
    replace tRr1 : SmF ([34] : List Nat) R_18 R5 := tRr1
    have hv_I3 := hvI
    have hsI := smF_tr hsI tIr1 (by decide)
    have hsR := smF_tr hsR tRr1 (by decide)
    refine lv_if_lt (tgt := 30) hx hb dX12_put__23 (by decide) (fun c7 => ?_) (fun c7 => ?_)
    · have gc7 : r1.toInt < 0 := (tlt _ _).mp c7
      refine lv_iconst (v := 0) hx hb dX12_put__30 (by decide) ?_
      rw [hQ]
      exact q_z F hr hlk (I3, J4, R5, L6) hP hD hS ⟨hvI, hvR, hsI, hsR, (show ((0 : Int) ≤ 0 ∧ 0 ≤ (1 : Int)) from by omega)⟩ dX12_put__31 (Nat.le_of_ble_eq_true rfl) (Nat.le_of_ble_eq_true rfl) (nar01 (by decide))
    · have gc7 : ¬ (r1.toInt < 0) := fun q0 => c7 ((tlt _ _).mpr q0)
      refine lv_iconst (v := 1) hx hb dX12_put__26 (by decide) ?_
      refine lv_goto (tgt := 31) hx hb dX12_put__27 (by decide) ?_
      rw [hQ]
      exact q_z F hr hlk (I3, J4, R5, L6) hP hD hS ⟨hvI, hvR, hsI, hsR, (show ((0 : Int) ≤ 1 ∧ 1 ≤ (1 : Int)) from by omega)⟩ dX12_put__31 (Nat.le_of_ble_eq_true rfl) (Nat.le_of_ble_eq_true rfl) (nar01 (by decide))
  refine lv_aload_n hx hb dX12_put__0 rfl (lv_at hl 0 rfl) ?_
  refine lv_iload_n hx hb dX12_put__1 rfl (lv_at hl 1 rfl) ?_
  refine wvi (As := [.int p1]) (rest := []) (b := (g 45)) (d := 2) F hK hP hD hS hA (s_X12_isPerson l G g q I0 J0 R0 L0 hvI hvR  p1 ) kmV_X12_isPerson mlX12_466 clX12 rfl 0 (Wm_at0 G g q I0 J0 R0 L0) ⟨(Nat.le_of_ble_eq_true rfl), (Nat.le_of_ble_eq_true rfl)⟩ hl.1 rfl (Nat.le_of_ble_eq_true rfl) dX12_put__2 (fun r8 u9 H locs hwr8 hP hD hS => ?_)
  obtain ⟨F0r8, F1r8⟩ := hwr8
  replace F0r8 : ((0 : Int) ≤ r8.toInt ∧ r8.toInt ≤ (1 : Int)) := F0r8
  replace F1r8 : (r8.toInt = 1 → (0 ≤ p1.toInt ∧ p1.toInt ≤ 11)) := F1r8
  refine lv_if_eq (tgt := 18) hx hb dX12_put__5 (by decide) (fun c10 => ?_) (fun c10 => ?_)
  · have gc10 : r8.toInt = 0 := congrArg Int32.toInt c10
    exact lab_18  I0 J0 R0 L0 _ _ _ hvI hvR hsI hsR  hP hD hS (lv_sub hl [0] rfl)
  · have gc10 : ¬ (r8.toInt = 0) := fun q0 => c10 (Int32.toInt_inj.mp q0)
    refine lv_iload_n hx hb dX12_put__8 rfl (lv_at hl 2 rfl) ?_
    refine lv_iconst (v := 0) hx hb dX12_put__9 (by decide) ?_
    refine lv_bipush (v := 31) hx hb dX12_put__10 (by decide) ?_
    refine w0i (As := [.int p2, .int 0, .int 31]) (rest := []) (d := 1) F hK hP hD hS hA (s_X12_is l G  p2 0 31 (by decide) (by decide)) kmS_X12_is mlX12_316 ⟨(Nat.le_of_ble_eq_true rfl), (Nat.le_of_ble_eq_true rfl)⟩ hl.1 rfl (Nat.le_of_ble_eq_true rfl) dX12_put__12 (fun r11 u12 H locs hwr11 hP hD hS => ?_)
    obtain ⟨F0r11, F1r11⟩ := hwr11
    replace F0r11 : ((0 : Int) ≤ r11.toInt ∧ r11.toInt ≤ (1 : Int)) := F0r11
    replace F1r11 : (r11.toInt = 1 → ((0 : Int) ≤ p2.toInt ∧ p2.toInt ≤ (31 : Int))) := F1r11
    refine lv_if_ne (tgt := 32) hx hb dX12_put__15 (by decide) (fun c13 => ?_) (fun c13 => ?_)
    · have gc13 : ¬ (r11.toInt = 0) := fun q0 => c13 (Int32.toInt_inj.mp q0)
      refine lv_aload_n hx hb dX12_put__32 rfl (lv_at hl 0 rfl) ?_
      refine g_get F hK hP 0 (Wm_at0 G g q I0 J0 R0 L0) clX12 58 (by decide) flX12_189 rfl dX12_put__33 ?_
      refine lv_iload_n hx hb dX12_put__36 rfl (lv_at hl 1 rfl) ?_
      refine lv_iload_n hx hb dX12_put__37 rfl (lv_at hl 2 rfl) ?_
      refine p_row (W1 := fun y => Wm G g q I0 J0 y L0) (n := 36) F hK hP hD hS 41 (Wm_at41 G g q I0 J0 R0 L0) (in_of (by omega)) dX12_put__38 (Wm_rowR36 G g q I0 J0 R0 L0) (fun R14 H locs eR14 hP hD hS => ?_)
      have hvR : InvR Wm_rl R14 := inv_upR hvR 36 eR14 (upd_in (hvR 36 (by decide)) (full _))
      have hsR := smF_up hsR eR14 (by decide)
      refine lv_iconst (v := 1) hx hb dX12_put__39 (by decide) ?_
      rw [hQ]
      exact q_z F hr hlk (I0, J0, R14, L0) hP hD hS ⟨hvI, hvR, hsI, hsR, (show ((0 : Int) ≤ 1 ∧ 1 ≤ (1 : Int)) from by omega)⟩ dX12_put__40 (Nat.le_of_ble_eq_true rfl) (Nat.le_of_ble_eq_true rfl) (nar01 (by decide))
    · have gc13 : r11.toInt = 0 := congrArg Int32.toInt c13
      exact lab_18  I0 J0 R0 L0 _ _ _ hvI hvR hsI hsR  hP hD hS (lv_sub hl [0] rfl)
set_option maxHeartbeats 4000000 in
set_option maxRecDepth 100000 in
theorem s_X12_row (l : Launch) (G : Gx) (g q : Nat → Nat) (I0 : Nat → Int32) (J0 : Nat → Int64) (R0 : Nat → Nat → Int32) (L0 : Nat → Nat → Int64) (hvI : InvI Wm_lo Wm_hi I0) (hvR : InvR Wm_rl R0)    : CtI (S := St) l yX12_row cX12_row 4 (some .boolean) (rmD 2 0 0) G [.ref (g 45)] (Wm G g q I0 J0 R0 L0) (fun r u => InvI Wm_lo Wm_hi u.1 ∧ InvR Wm_rl u.2.2.1 ∧ SmF ([0] : List Nat) I0 u.1 ∧ SmF ([34, 36] : List Nat) R0 u.2.2.1 ∧ ((0 : Int) ≤ r.toInt ∧ r.toInt ≤ (1 : Int))) (fun u => Wm G g q u.1 u.2.1 u.2.2.1 u.2.2.2) := by
  refine ctI_of (own := RX12) (by decide +kernel) rfl (Nat.le_of_ble_eq_true rfl) ?_
  intro p e s m below meth c A ls F hr hlk hnm hK hP hD hA hS hl
  have hx := F.1
  have hb := F.2.1
  have hown := F.2.2.2.1
  have hl : lv_has ls 4 [(0, .ref (g 45))] := hl
  obtain ⟨Q, hQ⟩ : ∃ Q : State → Prop, Q = MQ below (va_Qi (S := St) (fun r u => InvI Wm_lo Wm_hi u.1 ∧ InvR Wm_rl u.2.2.1 ∧ SmF ([0] : List Nat) I0 u.1 ∧ SmF ([34, 36] : List Nat) R0 u.2.2.1 ∧ ((0 : Int) ≤ r.toInt ∧ r.toInt ≤ (1 : Int))) (BX G A (fun u => Wm G g q u.1 u.2.1 u.2.2.1 u.2.2.2)) A) [.ref (g 45)].toArray s 0 0 A := ⟨_, rfl⟩
  rw [show (MQ below (va_Qi (S := St) (fun r u => InvI Wm_lo Wm_hi u.1 ∧ InvR Wm_rl u.2.2.1 ∧ SmF ([0] : List Nat) I0 u.1 ∧ SmF ([34, 36] : List Nat) R0 u.2.2.1 ∧ ((0 : Int) ≤ r.toInt ∧ r.toInt ≤ (1 : Int))) (BX G A (fun u => Wm G g q u.1 u.2.1 u.2.2.1 u.2.2.2)) A) [.ref (g 45)].toArray s (rmD 2 0 0).cells (rmD 2 0 0).slots A) = Q from hQ.symm]
  have hsI := smF_rf ([0] : List Nat) I0
  have hsR := smF_rf ([34, 36] : List Nat) R0
  have hvI0 := hvI
  have lab_83 : ∀ (k_83 : Nat) (a1_83 : Int32) (a3_83 : Int32) (I_83 : Nat → Int32) (J_83 : Nat → Int64) (R_83 : Nat → Nat → Int32) (L_83 : Nat → Nat → Int64) (H : Heap) (locs : List Loc) (ls : Array Slot), ((12 - a3_83.toInt) < (k_83 : Int)) → InvI Wm_lo Wm_hi I_83 → InvR Wm_rl R_83 → SmF ([0] : List Nat) I0 I_83 → SmF ([34, 36] : List Nat) R0 R_83 → ((0 : Int) ≤ a1_83.toInt ∧ a1_83.toInt ≤ (1800 : Int)) → ((0 : Int) ≤ a3_83.toInt ∧ a3_83.toInt ≤ (12 : Int)) → (a1_83.toInt ≤ 12) → va_P G.1 vwCl (Wm G g q I_83 J_83 R_83 L_83) H → va_D A (Wm G g q I_83 J_83 R_83 L_83) → va_S A s.heap H locs → lv_has ls 4 [(0, .ref (g 45)), (1, .int a1_83), (3, .int a3_83)] → W p l e (rmD 2 0 0) s m [.ref (g 45)].toArray below meth c H locs 0 0 Q (F0 m 83 ls []) := by
    intro k_83
    induction k_83 with
    | zero =>
      intro a1_83 a3_83 I_83 J_83 R_83 L_83 H locs ls hm hvI hvR hsI hsR y0_83 y1_83 z0_83 hP hD hS hl
      have hv_I_83 := hvI
      exact absurd hm (by omega)
    | succ k_83 ih_83 =>
      intro a1_83 a3_83 I_83 J_83 R_83 L_83 H locs ls hm hvI hvR hsI hsR y0_83 y1_83 z0_83 hP hD hS hl
      have hv_I_83 := hvI
      refine lv_iload_n hx hb dX12_row_83 rfl (lv_at hl 2 rfl) ?_
      refine lv_iload_n hx hb dX12_row_84 rfl (lv_at hl 1 rfl) ?_
      refine lv_icmp_ge (tgt := 106) hx hb dX12_row_85 (by decide) (fun c1 => ?_) (fun c1 => ?_)
      · have gc1 : a1_83.toInt ≤ a3_83.toInt := (tle _ _).mp c1
        refine lv_iconst (v := 1) hx hb dX12_row_106 (by decide) ?_
        rw [hQ]
        exact q_z F hr hlk (I_83, J_83, R_83, L_83) hP hD hS ⟨hvI, hvR, hsI, hsR, (show ((0 : Int) ≤ 1 ∧ 1 ≤ (1 : Int)) from by omega)⟩ dX12_row_107 (Nat.le_of_ble_eq_true rfl) (Nat.le_of_ble_eq_true rfl) (nar01 (by decide))
      · have gc1 : ¬ (a1_83.toInt ≤ a3_83.toInt) := fun q0 => c1 ((tle _ _).mpr q0)
        refine lv_aload_n hx hb dX12_row_88 rfl (lv_at hl 0 rfl) ?_
        refine g_get F hK hP 0 (Wm_at0 G g q I_83 J_83 R_83 L_83) clX12 58 (by decide) flX12_189 rfl dX12_row_89 ?_
        refine lv_iload_n hx hb dX12_row_92 rfl (lv_at hl 2 rfl) ?_
        refine lv_aload_n hx hb dX12_row_93 rfl (lv_at hl 0 rfl) ?_
        refine g_get F hK hP 0 (Wm_at0 G g q I_83 J_83 R_83 L_83) clX12 0 (by decide) flX12_7 rfl dX12_row_94 ?_
        refine lv_iload_n hx hb dX12_row_97 rfl (lv_at hl 2 rfl) ?_
        refine g_iald F hK hP 1 (Wm_at1 G g q I_83 J_83 R_83 L_83) (in_of (by omega)) dX12_row_98 rfl ?_
        refine lv_topi (fun x2 ex2 => ?_)
        have gx2 : x2.toInt = (R0 0 (Int32.toNatClampNeg a3_83)).toInt := congrArg Int32.toInt ((ex2).trans (congrFun (hsR 0 rfl) _))
        have fx2 : ((0 : Int) ≤ x2.toInt ∧ x2.toInt ≤ (255 : Int)) := by rw [ex2]; exact hvR 0 (by decide) _ (clamp_lt (n := 1800) (in_of (by omega)))
        refine p_row (W1 := fun y => Wm G g q I_83 J_83 y L_83) (n := 36) F hK hP hD hS 41 (Wm_at41 G g q I_83 J_83 R_83 L_83) (in_of (by omega)) dX12_row_99 (Wm_rowR36 G g q I_83 J_83 R_83 L_83) (fun R3 H locs eR3 hP hD hS => ?_)
        have hvR : InvR Wm_rl R3 := inv_upR hvR 36 eR3 (upd_in (hvR 36 (by decide)) (full _))
        have hsR := smF_up hsR eR3 (by decide)
        obtain ⟨x4, ex4⟩ : ∃ y : Int32, y = a3_83 + 1 := ⟨_, rfl⟩
        have fx4 : x4.toInt = a3_83.toInt + (1 : Int) := by rw [ex4]; exact t_add (by show (-2147483648 : Int) ≤ a3_83.toInt + (1 : Int); omega) (by show a3_83.toInt + (1 : Int) ≤ 2147483647; omega)
        refine lv_iinc (v := x4) (lv' := [(3, .int x4), (0, .ref (g 45)), (1, .int a1_83)]) hx hb dX12_row_100 hl (k := 2) rfl (by rw [ex4]; rfl) (by decide) rfl (fun ls hl => ?_)
        refine lv_goto (tgt := 83) hx hb dX12_row_103 (by decide) ?_
        exact ih_83 a1_83 x4 I_83 J_83 R3 L_83 _ _ _ (show (12 - x4.toInt) < (k_83 : Int) from by omega) hvI hvR hsI hsR (show ((0 : Int) ≤ a1_83.toInt ∧ a1_83.toInt ≤ (1800 : Int)) from by omega) (show ((0 : Int) ≤ x4.toInt ∧ x4.toInt ≤ (12 : Int)) from by omega) (show (a1_83.toInt ≤ 12) from by omega) hP hD hS (lv_sub hl [1, 2, 0] rfl)
  have lab_63 : ∀ (a1_63 : Int32) (a2_63 : Int32) (I_63 : Nat → Int32) (J_63 : Nat → Int64) (R_63 : Nat → Nat → Int32) (L_63 : Nat → Nat → Int64) (H : Heap) (locs : List Loc) (ls : Array Slot), InvI Wm_lo Wm_hi I_63 → InvR Wm_rl R_63 → SmF ([0] : List Nat) I0 I_63 → SmF ([34, 36] : List Nat) R0 R_63 → ((0 : Int) ≤ a1_63.toInt ∧ a1_63.toInt ≤ (1800 : Int)) → ((0 : Int) ≤ a2_63.toInt ∧ a2_63.toInt ≤ (1 : Int)) → (a2_63.toInt = 1 → a1_63.toInt ≤ 12) → va_P G.1 vwCl (Wm G g q I_63 J_63 R_63 L_63) H → va_D A (Wm G g q I_63 J_63 R_63 L_63) → va_S A s.heap H locs → lv_has ls 4 [(0, .ref (g 45)), (1, .int a1_63), (2, .int a2_63)] → W p l e (rmD 2 0 0) s m [.ref (g 45)].toArray below meth c H locs 0 0 Q (F0 m 63 ls []) := by
    intro a1_63 a2_63 I_63 J_63 R_63 L_63 H locs ls hvI hvR hsI hsR y0_63 y1_63 z0_63 hP hD hS hl
    have hv_I_63 := hvI
    refine lv_iload_n hx hb dX12_row_63 rfl (lv_at hl 2 rfl) ?_
    refine lv_if_ne (tgt := 81) hx hb dX12_row_64 (by decide) (fun c5 => ?_) (fun c5 => ?_)
    · have gc5 : ¬ (a2_63.toInt = 0) := fun q0 => c5 (Int32.toInt_inj.mp q0)
      refine lv_iconst (v := 0) hx hb dX12_row_81 (by decide) ?_
      refine lv_istore_n (lv' := [(3, .int 0), (0, .ref (g 45)), (1, .int a1_63), (2, .int a2_63)]) hx hb dX12_row_82 rfl hl (by decide) rfl (fun ls hl => ?_)
      exact lab_83 13 a1_63 0 I_63 J_63 R_63 L_63 _ _ _ (show (12 - 0) < ((13 : Nat) : Int) from by omega) hvI hvR hsI hsR (show ((0 : Int) ≤ a1_63.toInt ∧ a1_63.toInt ≤ (1800 : Int)) from by omega) (by decide) (show (a1_63.toInt ≤ 12) from by omega) hP hD hS (lv_sub hl [1, 2, 0] rfl)
    · have gc5 : a2_63.toInt = 0 := congrArg Int32.toInt c5
      refine lv_aload_n hx hb dX12_row_67 rfl (lv_at hl 0 rfl) ?_
      refine lv_iconst (v := 2) hx hb dX12_row_68 (by decide) ?_
      refine wvi (As := [.int 2]) (rest := []) (b := (g 45)) (d := 1) F hK hP hD hS hA (s_X12_refuses l G g q I_63 J_63 R_63 L_63 hvI hvR  2 (by decide)) kmV_X12_refuses mlX12_225 clX12 rfl 0 (Wm_at0 G g q I_63 J_63 R_63 L_63) ⟨(Nat.le_of_ble_eq_true rfl), (Nat.le_of_ble_eq_true rfl)⟩ hl.1 rfl (Nat.le_of_ble_eq_true rfl) dX12_row_69 (fun r6 u7 H locs hwr6 hP hD hS => ?_)
      obtain ⟨I8, J9, R10, L11⟩ := u7
      replace hP : va_P G.1 vwCl (Wm G g q I8 J9 R10 L11) H := hP
      replace hD : va_D A (Wm G g q I8 J9 R10 L11) := hD
      obtain ⟨hvI, hvR, tIr6, tRr6, F0r6⟩ := hwr6
      replace F0r6 : ((-1 : Int) ≤ r6.toInt ∧ r6.toInt ≤ (-1 : Int)) := F0r6
      replace hvI : InvI Wm_lo Wm_hi I8 := hvI
      replace hvR : InvR Wm_rl R10 := hvR
      replace tIr6 : SmF ([] : List Nat) I_63 I8 := tIr6
      replace tRr6 : SmF ([34] : List Nat) R_63 R10 := tRr6
      have hv_I8 := hvI
      have hsI := smF_tr hsI tIr6 (by decide)
      have hsR := smF_tr hsR tRr6 (by decide)
      refine lv_if_lt (tgt := 79) hx hb dX12_row_72 (by decide) (fun c12 => ?_) (fun c12 => ?_)
      · have gc12 : r6.toInt < 0 := (tlt _ _).mp c12
        refine lv_iconst (v := 0) hx hb dX12_row_79 (by decide) ?_
        rw [hQ]
        exact q_z F hr hlk (I8, J9, R10, L11) hP hD hS ⟨hvI, hvR, hsI, hsR, (show ((0 : Int) ≤ 0 ∧ 0 ≤ (1 : Int)) from by omega)⟩ dX12_row_80 (Nat.le_of_ble_eq_true rfl) (Nat.le_of_ble_eq_true rfl) (nar01 (by decide))
      · have gc12 : ¬ (r6.toInt < 0) := fun q0 => c12 ((tlt _ _).mpr q0)
        refine lv_iconst (v := 1) hx hb dX12_row_75 (by decide) ?_
        refine lv_goto (tgt := 80) hx hb dX12_row_76 (by decide) ?_
        rw [hQ]
        exact q_z F hr hlk (I8, J9, R10, L11) hP hD hS ⟨hvI, hvR, hsI, hsR, (show ((0 : Int) ≤ 1 ∧ 1 ≤ (1 : Int)) from by omega)⟩ dX12_row_80 (Nat.le_of_ble_eq_true rfl) (Nat.le_of_ble_eq_true rfl) (nar01 (by decide))
  have lab_31 : ∀ (k_31 : Nat) (a1_31 : Int32) (a2_31 : Int32) (a3_31 : Int32) (I_31 : Nat → Int32) (J_31 : Nat → Int64) (R_31 : Nat → Nat → Int32) (L_31 : Nat → Nat → Int64) (H : Heap) (locs : List Loc) (ls : Array Slot), ((1800 - a3_31.toInt) < (k_31 : Int)) → InvI Wm_lo Wm_hi I_31 → InvR Wm_rl R_31 → SmF ([0] : List Nat) I0 I_31 → SmF ([34, 36] : List Nat) R0 R_31 → ((0 : Int) ≤ a1_31.toInt ∧ a1_31.toInt ≤ (1800 : Int)) → ((0 : Int) ≤ a2_31.toInt ∧ a2_31.toInt ≤ (1 : Int)) → ((0 : Int) ≤ a3_31.toInt ∧ a3_31.toInt ≤ (1800 : Int)) → (a2_31.toInt = 1 → a1_31.toInt ≤ 12) → va_P G.1 vwCl (Wm G g q I_31 J_31 R_31 L_31) H → va_D A (Wm G g q I_31 J_31 R_31 L_31) → va_S A s.heap H locs → lv_has ls 4 [(0, .ref (g 45)), (1, .int a1_31), (2, .int a2_31), (3, .int a3_31)] → W p l e (rmD 2 0 0) s m [.ref (g 45)].toArray below meth c H locs 0 0 Q (F0 m 31 ls []) := by
    intro k_31
    induction k_31 with
    | zero =>
      intro a1_31 a2_31 a3_31 I_31 J_31 R_31 L_31 H locs ls hm hvI hvR hsI hsR y0_31 y1_31 y2_31 z0_31 hP hD hS hl
      have hv_I_31 := hvI
      exact absurd hm (by omega)
    | succ k_31 ih_31 =>
      intro a1_31 a2_31 a3_31 I_31 J_31 R_31 L_31 H locs ls hm hvI hvR hsI hsR y0_31 y1_31 y2_31 z0_31 hP hD hS hl
      have hv_I_31 := hvI
      have lab_56 : ∀ (b0_56 : Int32) (I_56 : Nat → Int32) (J_56 : Nat → Int64) (R_56 : Nat → Nat → Int32) (L_56 : Nat → Nat → Int64) (H : Heap) (locs : List Loc) (ls : Array Slot), InvI Wm_lo Wm_hi I_56 → InvR Wm_rl R_56 → SmF ([0] : List Nat) I0 I_56 → SmF ([34, 36] : List Nat) R0 R_56 → ((1 : Int) ≤ a1_31.toInt ∧ a1_31.toInt ≤ (1800 : Int)) → ((0 : Int) ≤ a3_31.toInt ∧ a3_31.toInt ≤ (1799 : Int)) → ((0 : Int) ≤ b0_56.toInt ∧ b0_56.toInt ≤ (1 : Int)) → (a1_31.toInt ≤ 12) → va_P G.1 vwCl (Wm G g q I_56 J_56 R_56 L_56) H → va_D A (Wm G g q I_56 J_56 R_56 L_56) → va_S A s.heap H locs → lv_has ls 4 [(0, .ref (g 45)), (1, .int a1_31), (3, .int a3_31)] → W p l e (rmD 2 0 0) s m [.ref (g 45)].toArray below meth c H locs 0 0 Q (F0 m 56 ls [.int b0_56]) := by
        intro b0_56 I_56 J_56 R_56 L_56 H locs ls hvI hvR hsI hsR y0_56 y1_56 y2_56 z0_56 hP hD hS hl
        have hv_I_56 := hvI
        refine lv_istore_n (lv' := [(2, .int b0_56), (0, .ref (g 45)), (1, .int a1_31), (3, .int a3_31)]) hx hb dX12_row_56 rfl hl (by decide) rfl (fun ls hl => ?_)
        obtain ⟨x13, ex13⟩ : ∃ y : Int32, y = a3_31 + 1 := ⟨_, rfl⟩
        have fx13 : x13.toInt = a3_31.toInt + (1 : Int) := by rw [ex13]; exact t_add (by show (-2147483648 : Int) ≤ a3_31.toInt + (1 : Int); omega) (by show a3_31.toInt + (1 : Int) ≤ 2147483647; omega)
        refine lv_iinc (v := x13) (lv' := [(3, .int x13), (2, .int b0_56), (0, .ref (g 45)), (1, .int a1_31)]) hx hb dX12_row_57 hl (k := 3) rfl (by rw [ex13]; rfl) (by decide) rfl (fun ls hl => ?_)
        refine lv_goto (tgt := 31) hx hb dX12_row_60 (by decide) ?_
        exact ih_31 a1_31 b0_56 x13 I_56 J_56 R_56 L_56 _ _ _ (show (1800 - x13.toInt) < (k_31 : Int) from by omega) hvI hvR hsI hsR (show ((0 : Int) ≤ a1_31.toInt ∧ a1_31.toInt ≤ (1800 : Int)) from by omega) (show ((0 : Int) ≤ b0_56.toInt ∧ b0_56.toInt ≤ (1 : Int)) from by omega) (show ((0 : Int) ≤ x13.toInt ∧ x13.toInt ≤ (1800 : Int)) from by omega) (show (b0_56.toInt = 1 → a1_31.toInt ≤ 12) from by omega) hP hD hS (lv_sub hl [2, 3, 1, 0] rfl)
      refine lv_iload_n hx hb dX12_row_31 rfl (lv_at hl 3 rfl) ?_
      refine lv_iload_n hx hb dX12_row_32 rfl (lv_at hl 1 rfl) ?_
      refine lv_icmp_ge (tgt := 63) hx hb dX12_row_33 (by decide) (fun c14 => ?_) (fun c14 => ?_)
      · have gc14 : a1_31.toInt ≤ a3_31.toInt := (tle _ _).mp c14
        exact lab_63 a1_31 a2_31 I_31 J_31 R_31 L_31 _ _ _ hvI hvR hsI hsR (show ((0 : Int) ≤ a1_31.toInt ∧ a1_31.toInt ≤ (1800 : Int)) from by omega) (show ((0 : Int) ≤ a2_31.toInt ∧ a2_31.toInt ≤ (1 : Int)) from by omega) (show (a2_31.toInt = 1 → a1_31.toInt ≤ 12) from by omega) hP hD hS (lv_sub hl [0, 1, 2] rfl)
      · have gc14 : ¬ (a1_31.toInt ≤ a3_31.toInt) := fun q0 => c14 ((tle _ _).mpr q0)
        refine lv_iload_n hx hb dX12_row_36 rfl (lv_at hl 2 rfl) ?_
        refine lv_if_eq (tgt := 63) hx hb dX12_row_37 (by decide) (fun c15 => ?_) (fun c15 => ?_)
        · have gc15 : a2_31.toInt = 0 := congrArg Int32.toInt c15
          exact lab_63 a1_31 a2_31 I_31 J_31 R_31 L_31 _ _ _ hvI hvR hsI hsR (show ((0 : Int) ≤ a1_31.toInt ∧ a1_31.toInt ≤ (1800 : Int)) from by omega) (show ((0 : Int) ≤ a2_31.toInt ∧ a2_31.toInt ≤ (1 : Int)) from by omega) (show (a2_31.toInt = 1 → a1_31.toInt ≤ 12) from by omega) hP hD hS (lv_sub hl [0, 1, 2] rfl)
        · have gc15 : ¬ (a2_31.toInt = 0) := fun q0 => c15 (Int32.toInt_inj.mp q0)
          refine lv_aload_n hx hb dX12_row_40 rfl (lv_at hl 0 rfl) ?_
          refine g_get F hK hP 0 (Wm_at0 G g q I_31 J_31 R_31 L_31) clX12 0 (by decide) flX12_7 rfl dX12_row_41 ?_
          refine lv_iload_n hx hb dX12_row_44 rfl (lv_at hl 3 rfl) ?_
          refine g_iald F hK hP 1 (Wm_at1 G g q I_31 J_31 R_31 L_31) (in_of (by omega)) dX12_row_45 rfl ?_
          refine lv_topi (fun x16 ex16 => ?_)
          have gx16 : x16.toInt = (R0 0 (Int32.toNatClampNeg a3_31)).toInt := congrArg Int32.toInt ((ex16).trans (congrFun (hsR 0 rfl) _))
          have fx16 : ((0 : Int) ≤ x16.toInt ∧ x16.toInt ≤ (255 : Int)) := by rw [ex16]; exact hvR 0 (by decide) _ (clamp_lt (n := 1800) (in_of (by omega)))
          refine lv_bipush (v := 32) hx hb dX12_row_46 (by decide) ?_
          refine lv_icmp_ge (tgt := 55) hx hb dX12_row_48 (by decide) (fun c17 => ?_) (fun c17 => ?_)
          · have gc17 : 32 ≤ x16.toInt := (tle _ _).mp c17
            refine lv_iconst (v := 0) hx hb dX12_row_55 (by decide) ?_
            exact lab_56 0 I_31 J_31 R_31 L_31 _ _ _ hvI hvR hsI hsR (show ((1 : Int) ≤ a1_31.toInt ∧ a1_31.toInt ≤ (1800 : Int)) from by omega) (show ((0 : Int) ≤ a3_31.toInt ∧ a3_31.toInt ≤ (1799 : Int)) from by omega) (by decide) (show (a1_31.toInt ≤ 12) from by omega) hP hD hS (lv_sub hl [0, 1, 3] rfl)
          · have gc17 : ¬ (32 ≤ x16.toInt) := fun q0 => c17 ((tle _ _).mpr q0)
            refine lv_iconst (v := 1) hx hb dX12_row_51 (by decide) ?_
            refine lv_goto (tgt := 56) hx hb dX12_row_52 (by decide) ?_
            exact lab_56 1 I_31 J_31 R_31 L_31 _ _ _ hvI hvR hsI hsR (show ((1 : Int) ≤ a1_31.toInt ∧ a1_31.toInt ≤ (1800 : Int)) from by omega) (show ((0 : Int) ≤ a3_31.toInt ∧ a3_31.toInt ≤ (1799 : Int)) from by omega) (by decide) (show (a1_31.toInt ≤ 12) from by omega) hP hD hS (lv_sub hl [0, 1, 3] rfl)
  have lab_28 : ∀ (a1_28 : Int32) (b0_28 : Int32) (I_28 : Nat → Int32) (J_28 : Nat → Int64) (R_28 : Nat → Nat → Int32) (L_28 : Nat → Nat → Int64) (H : Heap) (locs : List Loc) (ls : Array Slot), InvI Wm_lo Wm_hi I_28 → InvR Wm_rl R_28 → SmF ([0] : List Nat) I0 I_28 → SmF ([34, 36] : List Nat) R0 R_28 → ((0 : Int) ≤ a1_28.toInt ∧ a1_28.toInt ≤ (1800 : Int)) → ((0 : Int) ≤ b0_28.toInt ∧ b0_28.toInt ≤ (1 : Int)) → (b0_28.toInt = 1 → a1_28.toInt ≤ 12) → va_P G.1 vwCl (Wm G g q I_28 J_28 R_28 L_28) H → va_D A (Wm G g q I_28 J_28 R_28 L_28) → va_S A s.heap H locs → lv_has ls 4 [(0, .ref (g 45)), (1, .int a1_28)] → W p l e (rmD 2 0 0) s m [.ref (g 45)].toArray below meth c H locs 0 0 Q (F0 m 28 ls [.int b0_28]) := by
    intro a1_28 b0_28 I_28 J_28 R_28 L_28 H locs ls hvI hvR hsI hsR y0_28 y1_28 z0_28 hP hD hS hl
    have hv_I_28 := hvI
    refine lv_istore_n (lv' := [(2, .int b0_28), (0, .ref (g 45)), (1, .int a1_28)]) hx hb dX12_row_28 rfl hl (by decide) rfl (fun ls hl => ?_)
    refine lv_iconst (v := 0) hx hb dX12_row_29 (by decide) ?_
    refine lv_istore_n (lv' := [(3, .int 0), (2, .int b0_28), (0, .ref (g 45)), (1, .int a1_28)]) hx hb dX12_row_30 rfl hl (by decide) rfl (fun ls hl => ?_)
    exact lab_31 1801 a1_28 b0_28 0 I_28 J_28 R_28 L_28 _ _ _ (show (1800 - 0) < ((1801 : Nat) : Int) from by omega) hvI hvR hsI hsR (show ((0 : Int) ≤ a1_28.toInt ∧ a1_28.toInt ≤ (1800 : Int)) from by omega) (show ((0 : Int) ≤ b0_28.toInt ∧ b0_28.toInt ≤ (1 : Int)) from by omega) (by decide) (show (b0_28.toInt = 1 → a1_28.toInt ≤ 12) from by omega) hP hD hS (lv_sub hl [2, 3, 1, 0] rfl)
  refine lv_aload_n hx hb dX12_row_0 rfl (lv_at hl 0 rfl) ?_
  refine g_get F hK hP 0 (Wm_at0 G g q I0 J0 R0 L0) clX12 1 (by decide) flX12_13 rfl dX12_row_1 ?_
  have w_I0_0 := rg (hvI0 0 (by decide)) (0) (1800) rfl rfl
  refine lv_istore_n (lv' := [(1, .int (I0 0)), (0, .ref (g 45))]) hx hb dX12_row_4 rfl hl (by decide) rfl (fun ls hl => ?_)
  refine lv_aload_n hx hb dX12_row_5 rfl (lv_at hl 1 rfl) ?_
  refine lv_iconst (v := 0) hx hb dX12_row_6 (by decide) ?_
  refine p_fld (W1 := fun y => Wm G g q y J0 R0 L0) (n := 0) (v := 0) F hK hP hD hS 0 (Wm_at0 G g q I0 J0 R0 L0) clX12 1 (by decide) flX12_13 rfl rfl rfl (Nat.le_of_ble_eq_true rfl) dX12_row_7 (Wm_setI0 G g q I0 J0 R0 L0 _) (fun I18 H locs eI18 hP hD hS => ?_)
  have hvI : InvI Wm_lo Wm_hi I18 := inv_upI hvI 0 eI18 (by decide)
  have hsI := smF_up hsI eI18 (by decide)
  have hv_I18 := hvI
  refine lv_iload_n hx hb dX12_row_10 rfl (lv_at hl 0 rfl) ?_
  refine lv_aload_n hx hb dX12_row_11 rfl (lv_at hl 1 rfl) ?_
  refine g_get F hK hP 0 (Wm_at0 G g q I18 J0 R0 L0) clX12 21 (by decide) flX12_77 rfl dX12_row_12 ?_
  refine lv_aload_n hx hb dX12_row_15 rfl (lv_at hl 1 rfl) ?_
  refine g_get F hK hP 0 (Wm_at0 G g q I18 J0 R0 L0) clX12 12 (by decide) flX12_48 rfl dX12_row_16 ?_
  refine cst_i (hsI 10 rfl) ?_
  have w_I0_10 := rg (hvI0 10 (by decide)) (0) (1) rfl rfl
  refine g_iald F hK hP 10 (Wm_at10 G g q I18 J0 R0 L0) (in_of (by omega)) dX12_row_19 rfl ?_
  refine lv_topi (fun x19 ex19 => ?_)
  have gx19 : x19.toInt = (R0 7 (Int32.toNatClampNeg (I0 10))).toInt := congrArg Int32.toInt (ex19)
  have fx19 : ((0 : Int) ≤ x19.toInt ∧ x19.toInt ≤ (12 : Int)) := by rw [ex19]; exact hvR 7 (by decide) _ (clamp_lt (n := 2) (in_of (by omega)))
  refine lv_icmp_ne (tgt := 27) hx hb dX12_row_20 (by decide) (fun c20 => ?_) (fun c20 => ?_)
  · have gc20 : ¬ ((I0 0).toInt = x19.toInt) := fun q0 => c20 (Int32.toInt_inj.mp q0)
    refine lv_iconst (v := 0) hx hb dX12_row_27 (by decide) ?_
    exact lab_28 ((I0 0)) 0 I18 J0 R0 L0 _ _ _ hvI hvR hsI hsR (show ((0 : Int) ≤ (I0 0).toInt ∧ (I0 0).toInt ≤ (1800 : Int)) from by omega) (by decide) (show (0 = 1 → (I0 0).toInt ≤ 12) from by omega) hP hD hS (lv_sub hl [1, 0] rfl)
  · have gc20 : (I0 0).toInt = x19.toInt := congrArg Int32.toInt c20
    refine lv_iconst (v := 1) hx hb dX12_row_23 (by decide) ?_
    refine lv_goto (tgt := 28) hx hb dX12_row_24 (by decide) ?_
    exact lab_28 ((I0 0)) 1 I18 J0 R0 L0 _ _ _ hvI hvR hsI hsR (show ((0 : Int) ≤ (I0 0).toInt ∧ (I0 0).toInt ≤ (1800 : Int)) from by omega) (by decide) (show (1 = 1 → (I0 0).toInt ≤ 12) from by omega) hP hD hS (lv_sub hl [1, 0] rfl)
set_option maxHeartbeats 4000000 in
set_option maxRecDepth 100000 in
theorem s_X12_seat (l : Launch) (G : Gx) (g q : Nat → Nat) (I0 : Nat → Int32) (J0 : Nat → Int64) (R0 : Nat → Nat → Int32) (L0 : Nat → Nat → Int64) (hvI : InvI Wm_lo Wm_hi I0) (hvR : InvR Wm_rl R0)  (p1 : Int32) (p2 : Int32)  : CtI (S := St) l yX12_seat cX12_seat 4 (some .int) (rmD 5 0 0) G [.ref (g 45), .int p1, .int p2] (Wm G g q I0 J0 R0 L0) (fun r u => InvI Wm_lo Wm_hi u.1 ∧ InvR Wm_rl u.2.2.1 ∧ SmF ([] : List Nat) I0 u.1 ∧ SmF ([38] : List Nat) R0 u.2.2.1 ∧ ((-1 : Int) ≤ r.toInt ∧ r.toInt ≤ (4 : Int))) (fun u => Wm G g q u.1 u.2.1 u.2.2.1 u.2.2.2) := by
  refine ctI_of (own := RX12) (by decide +kernel) rfl (Nat.le_of_ble_eq_true rfl) ?_
  intro p e s m below meth c A ls F hr hlk hnm hK hP hD hA hS hl
  have hx := F.1
  have hb := F.2.1
  have hown := F.2.2.2.1
  have hl : lv_has ls 4 [(0, .ref (g 45)), (1, .int p1), (2, .int p2)] := hl
  obtain ⟨Q, hQ⟩ : ∃ Q : State → Prop, Q = MQ below (va_Qi (S := St) (fun r u => InvI Wm_lo Wm_hi u.1 ∧ InvR Wm_rl u.2.2.1 ∧ SmF ([] : List Nat) I0 u.1 ∧ SmF ([38] : List Nat) R0 u.2.2.1 ∧ ((-1 : Int) ≤ r.toInt ∧ r.toInt ≤ (4 : Int))) (BX G A (fun u => Wm G g q u.1 u.2.1 u.2.2.1 u.2.2.2)) A) [.ref (g 45), .int p1, .int p2].toArray s 0 0 A := ⟨_, rfl⟩
  rw [show (MQ below (va_Qi (S := St) (fun r u => InvI Wm_lo Wm_hi u.1 ∧ InvR Wm_rl u.2.2.1 ∧ SmF ([] : List Nat) I0 u.1 ∧ SmF ([38] : List Nat) R0 u.2.2.1 ∧ ((-1 : Int) ≤ r.toInt ∧ r.toInt ≤ (4 : Int))) (BX G A (fun u => Wm G g q u.1 u.2.1 u.2.2.1 u.2.2.2)) A) [.ref (g 45), .int p1, .int p2].toArray s (rmD 5 0 0).cells (rmD 5 0 0).slots A) = Q from hQ.symm]
  have hsI := smF_rf ([] : List Nat) I0
  have hsR := smF_rf ([38] : List Nat) R0
  have hvI0 := hvI
  refine lv_iload_n hx hb dX12_seat_0 rfl (lv_at hl 1 rfl) ?_
  refine w0i (As := [.int p1]) (rest := []) (d := 2) F hK hP hD hS hA (s_X12_isDay l G  p1 ) kmS_X12_isDay mlX12_488 ⟨(Nat.le_of_ble_eq_true rfl), (Nat.le_of_ble_eq_true rfl)⟩ hl.1 rfl (Nat.le_of_ble_eq_true rfl) dX12_seat_1 (fun r1 u2 H locs hwr1 hP hD hS => ?_)
  obtain ⟨F0r1, F1r1⟩ := hwr1
  replace F0r1 : ((0 : Int) ≤ r1.toInt ∧ r1.toInt ≤ (1 : Int)) := F0r1
  replace F1r1 : (r1.toInt = 1 → (0 ≤ p1.toInt ∧ p1.toInt ≤ 4)) := F1r1
  refine lv_if_eq (tgt := 15) hx hb dX12_seat_4 (by decide) (fun c3 => ?_) (fun c3 => ?_)
  · have gc3 : r1.toInt = 0 := congrArg Int32.toInt c3
    refine lv_iconst (v := (-1)) hx hb dX12_seat_15 (by decide) ?_
    rw [hQ]
    exact q_i F hr hlk (I0, J0, R0, L0) hP hD hS ⟨hvI, hvR, hsI, hsR, (show ((-1 : Int) ≤ (-1) ∧ (-1) ≤ (4 : Int)) from by omega)⟩ dX12_seat_16 (Nat.le_of_ble_eq_true rfl) (Nat.le_of_ble_eq_true rfl)
  · have gc3 : ¬ (r1.toInt = 0) := fun q0 => c3 (Int32.toInt_inj.mp q0)
    refine lv_aload_n hx hb dX12_seat_7 rfl (lv_at hl 0 rfl) ?_
    refine lv_iload_n hx hb dX12_seat_8 rfl (lv_at hl 2 rfl) ?_
    refine wvi (As := [.int p2]) (rest := []) (b := (g 45)) (d := 2) F hK hP hD hS hA (s_X12_isPerson l G g q I0 J0 R0 L0 hvI hvR  p2 ) kmV_X12_isPerson mlX12_466 clX12 rfl 0 (Wm_at0 G g q I0 J0 R0 L0) ⟨(Nat.le_of_ble_eq_true rfl), (Nat.le_of_ble_eq_true rfl)⟩ hl.1 rfl (Nat.le_of_ble_eq_true rfl) dX12_seat_9 (fun r4 u5 H locs hwr4 hP hD hS => ?_)
    obtain ⟨F0r4, F1r4⟩ := hwr4
    replace F0r4 : ((0 : Int) ≤ r4.toInt ∧ r4.toInt ≤ (1 : Int)) := F0r4
    replace F1r4 : (r4.toInt = 1 → (0 ≤ p2.toInt ∧ p2.toInt ≤ 11)) := F1r4
    refine lv_if_ne (tgt := 17) hx hb dX12_seat_12 (by decide) (fun c6 => ?_) (fun c6 => ?_)
    · have gc6 : ¬ (r4.toInt = 0) := fun q0 => c6 (Int32.toInt_inj.mp q0)
      refine lv_aload_n hx hb dX12_seat_17 rfl (lv_at hl 0 rfl) ?_
      refine lv_iload_n hx hb dX12_seat_18 rfl (lv_at hl 1 rfl) ?_
      refine wvv (As := [.int p1]) (rest := []) (b := (g 45)) (d := 3) F hK hP hD hS hA (s_X12_seats l G g q I0 J0 R0 L0 hvI hvR  p1 (show ((0 : Int) ≤ p1.toInt ∧ p1.toInt ≤ (4 : Int)) from by omega)) kmV_X12_seats mlX12_602 clX12 rfl 0 (Wm_at0 G g q I0 J0 R0 L0) ⟨(Nat.le_of_ble_eq_true rfl), (Nat.le_of_ble_eq_true rfl)⟩ hl.1 rfl (Nat.le_of_ble_eq_true rfl) dX12_seat_19 (fun u8 H locs hwr7 hP hD hS => ?_)
      obtain ⟨I9, J10, R11, L12⟩ := u8
      replace hP : va_P G.1 vwCl (Wm G g q I9 J10 R11 L12) H := hP
      replace hD : va_D A (Wm G g q I9 J10 R11 L12) := hD
      obtain ⟨hvI, hvR, tIr7, tRr7⟩ := hwr7
      replace hvI : InvI Wm_lo Wm_hi I9 := hvI
      replace hvR : InvR Wm_rl R11 := hvR
      replace tIr7 : SmF ([] : List Nat) I0 I9 := tIr7
      replace tRr7 : SmF ([38] : List Nat) R0 R11 := tRr7
      have hv_I9 := hvI
      have hsI := smF_tr hsI tIr7 (by decide)
      have hsR := smF_tr hsR tRr7 (by decide)
      refine lv_aload_n hx hb dX12_seat_22 rfl (lv_at hl 0 rfl) ?_
      refine wvi (As := []) (rest := []) (b := (g 45)) (d := 4) F hK hP hD hS hA (s_X12_exchanged l G g q I9 J10 R11 L12 hvI hvR   ) kmV_X12_exchanged mlX12_605 clX12 rfl 0 (Wm_at0 G g q I9 J10 R11 L12) ⟨(Nat.le_of_ble_eq_true rfl), (Nat.le_of_ble_eq_true rfl)⟩ hl.1 rfl (Nat.le_of_ble_eq_true rfl) dX12_seat_23 (fun r13 u14 H locs hwr13 hP hD hS => ?_)
      obtain ⟨I15, J16, R17, L18⟩ := u14
      replace hP : va_P G.1 vwCl (Wm G g q I15 J16 R17 L18) H := hP
      replace hD : va_D A (Wm G g q I15 J16 R17 L18) := hD
      obtain ⟨hvI, hvR, tIr13, tRr13, F0r13⟩ := hwr13
      replace F0r13 : ((0 : Int) ≤ r13.toInt ∧ r13.toInt ≤ (50 : Int)) := F0r13
      replace hvI : InvI Wm_lo Wm_hi I15 := hvI
      replace hvR : InvR Wm_rl R17 := hvR
      replace tIr13 : SmF ([] : List Nat) I9 I15 := tIr13
      replace tRr13 : SmF ([38] : List Nat) R11 R17 := tRr13
      have hv_I15 := hvI
      have hsI := smF_tr hsI tIr13 (by decide)
      have hsR := smF_tr hsR tRr13 (by decide)
      refine lv_istore_n (lv' := [(3, .int r13), (0, .ref (g 45)), (1, .int p1), (2, .int p2)]) hx hb dX12_seat_26 rfl hl (by decide) rfl (fun ls hl => ?_)
      refine lv_aload_n hx hb dX12_seat_27 rfl (lv_at hl 1 rfl) ?_
      refine g_get F hK hP 0 (Wm_at0 G g q I15 J16 R17 L18) clX12 67 (by decide) flX12_216 rfl dX12_seat_28 ?_
      refine lv_iload_n hx hb dX12_seat_31 rfl (lv_at hl 3 rfl) ?_
      refine g_iald F hK hP 44 (Wm_at44 G g q I15 J16 R17 L18) (in_of (by omega)) dX12_seat_32 rfl ?_
      refine lv_topi (fun x19 ex19 => ?_)
      have gx19 : x19.toInt = (R17 38 (Int32.toNatClampNeg p2)).toInt := congrArg Int32.toInt (ex19)
      have fx19 : ((-1 : Int) ≤ x19.toInt ∧ x19.toInt ≤ (4 : Int)) := by rw [ex19]; exact hvR 38 (by decide) _ (clamp_lt (n := 12) (in_of (by omega)))
      rw [hQ]
      exact q_i F hr hlk (I15, J16, R17, L18) hP hD hS ⟨hvI, hvR, hsI, hsR, (show ((-1 : Int) ≤ x19.toInt ∧ x19.toInt ≤ (4 : Int)) from by omega)⟩ dX12_seat_33 (Nat.le_of_ble_eq_true rfl) (Nat.le_of_ble_eq_true rfl)
    · have gc6 : r4.toInt = 0 := congrArg Int32.toInt c6
      refine lv_iconst (v := (-1)) hx hb dX12_seat_15 (by decide) ?_
      rw [hQ]
      exact q_i F hr hlk (I0, J0, R0, L0) hP hD hS ⟨hvI, hvR, hsI, hsR, (show ((-1 : Int) ≤ (-1) ∧ (-1) ≤ (4 : Int)) from by omega)⟩ dX12_seat_16 (Nat.le_of_ble_eq_true rfl) (Nat.le_of_ble_eq_true rfl)
set_option maxHeartbeats 4000000 in
set_option maxRecDepth 100000 in
theorem s_X12_seed (l : Launch) (G : Gx) (g q : Nat → Nat) (I0 : Nat → Int32) (J0 : Nat → Int64) (R0 : Nat → Nat → Int32) (L0 : Nat → Nat → Int64) (hvI : InvI Wm_lo Wm_hi I0) (hvR : InvR Wm_rl R0)  (p1 : Int32)  : CtI (S := St) l yX12_seed cX12_seed 2 (some .boolean) (rmD 2 0 0) G [.ref (g 45), .int p1] (Wm G g q I0 J0 R0 L0) (fun r u => InvI Wm_lo Wm_hi u.1 ∧ InvR Wm_rl u.2.2.1 ∧ SmF ([] : List Nat) I0 u.1 ∧ SmF ([34] : List Nat) R0 u.2.2.1 ∧ ((0 : Int) ≤ r.toInt ∧ r.toInt ≤ (1 : Int))) (fun u => Wm G g q u.1 u.2.1 u.2.2.1 u.2.2.2) := by
  refine ctI_of (own := RX12) (by decide +kernel) rfl (Nat.le_of_ble_eq_true rfl) ?_
  intro p e s m below meth c A ls F hr hlk hnm hK hP hD hA hS hl
  have hx := F.1
  have hb := F.2.1
  have hown := F.2.2.2.1
  have hl : lv_has ls 2 [(0, .ref (g 45)), (1, .int p1)] := hl
  obtain ⟨Q, hQ⟩ : ∃ Q : State → Prop, Q = MQ below (va_Qi (S := St) (fun r u => InvI Wm_lo Wm_hi u.1 ∧ InvR Wm_rl u.2.2.1 ∧ SmF ([] : List Nat) I0 u.1 ∧ SmF ([34] : List Nat) R0 u.2.2.1 ∧ ((0 : Int) ≤ r.toInt ∧ r.toInt ≤ (1 : Int))) (BX G A (fun u => Wm G g q u.1 u.2.1 u.2.2.1 u.2.2.2)) A) [.ref (g 45), .int p1].toArray s 0 0 A := ⟨_, rfl⟩
  rw [show (MQ below (va_Qi (S := St) (fun r u => InvI Wm_lo Wm_hi u.1 ∧ InvR Wm_rl u.2.2.1 ∧ SmF ([] : List Nat) I0 u.1 ∧ SmF ([34] : List Nat) R0 u.2.2.1 ∧ ((0 : Int) ≤ r.toInt ∧ r.toInt ≤ (1 : Int))) (BX G A (fun u => Wm G g q u.1 u.2.1 u.2.2.1 u.2.2.2)) A) [.ref (g 45), .int p1].toArray s (rmD 2 0 0).cells (rmD 2 0 0).slots A) = Q from hQ.symm]
  have hsI := smF_rf ([] : List Nat) I0
  have hsR := smF_rf ([34] : List Nat) R0
  have hvI0 := hvI
  refine lv_iload_n hx hb dX12_seed_0 rfl (lv_at hl 1 rfl) ?_
  refine lv_if_ge (tgt := 18) hx hb dX12_seed_1 (by decide) (fun c1 => ?_) (fun c1 => ?_)
  · have gc1 : 0 ≤ p1.toInt := (tle _ _).mp c1
    refine lv_aload_n hx hb dX12_seed_18 rfl (lv_at hl 0 rfl) ?_
    refine lv_iload_n hx hb dX12_seed_19 rfl (lv_at hl 1 rfl) ?_
    obtain ⟨x2, ex2⟩ : ∃ y : Int64, (p1 : Int32).toInt64 = y := ⟨_, rfl⟩
    refine lv_i2l (v := x2) hx hb dX12_seed_20 ex2 ?_
    refine p_fld (W1 := fun y => Wm G g q I0 y R0 L0) (n := 1) (v := x2) F hK hP hD hS 0 (Wm_at0 G g q I0 J0 R0 L0) clX12 66 (by decide) flX12_213 rfl rfl rfl (Nat.le_of_ble_eq_true rfl) dX12_seed_21 (Wm_setJ1 G g q I0 J0 R0 L0 _) (fun J3 H locs eJ3 hP hD hS => ?_)
    refine lv_iconst (v := 1) hx hb dX12_seed_24 (by decide) ?_
    rw [hQ]
    exact q_z F hr hlk (I0, J3, R0, L0) hP hD hS ⟨hvI, hvR, hsI, hsR, (show ((0 : Int) ≤ 1 ∧ 1 ≤ (1 : Int)) from by omega)⟩ dX12_seed_25 (Nat.le_of_ble_eq_true rfl) (Nat.le_of_ble_eq_true rfl) (nar01 (by decide))
  · have gc1 : ¬ (0 ≤ p1.toInt) := fun q0 => c1 ((tle _ _).mpr q0)
    refine lv_aload_n hx hb dX12_seed_4 rfl (lv_at hl 0 rfl) ?_
    refine lv_iconst (v := 4) hx hb dX12_seed_5 (by decide) ?_
    refine wvi (As := [.int 4]) (rest := []) (b := (g 45)) (d := 1) F hK hP hD hS hA (s_X12_refuses l G g q I0 J0 R0 L0 hvI hvR  4 (by decide)) kmV_X12_refuses mlX12_225 clX12 rfl 0 (Wm_at0 G g q I0 J0 R0 L0) ⟨(Nat.le_of_ble_eq_true rfl), (Nat.le_of_ble_eq_true rfl)⟩ hl.1 rfl (Nat.le_of_ble_eq_true rfl) dX12_seed_6 (fun r4 u5 H locs hwr4 hP hD hS => ?_)
    obtain ⟨I6, J7, R8, L9⟩ := u5
    replace hP : va_P G.1 vwCl (Wm G g q I6 J7 R8 L9) H := hP
    replace hD : va_D A (Wm G g q I6 J7 R8 L9) := hD
    obtain ⟨hvI, hvR, tIr4, tRr4, F0r4⟩ := hwr4
    replace F0r4 : ((-1 : Int) ≤ r4.toInt ∧ r4.toInt ≤ (-1 : Int)) := F0r4
    replace hvI : InvI Wm_lo Wm_hi I6 := hvI
    replace hvR : InvR Wm_rl R8 := hvR
    replace tIr4 : SmF ([] : List Nat) I0 I6 := tIr4
    replace tRr4 : SmF ([34] : List Nat) R0 R8 := tRr4
    have hv_I6 := hvI
    have hsI := smF_tr hsI tIr4 (by decide)
    have hsR := smF_tr hsR tRr4 (by decide)
    refine lv_if_lt (tgt := 16) hx hb dX12_seed_9 (by decide) (fun c10 => ?_) (fun c10 => ?_)
    · have gc10 : r4.toInt < 0 := (tlt _ _).mp c10
      refine lv_iconst (v := 0) hx hb dX12_seed_16 (by decide) ?_
      rw [hQ]
      exact q_z F hr hlk (I6, J7, R8, L9) hP hD hS ⟨hvI, hvR, hsI, hsR, (show ((0 : Int) ≤ 0 ∧ 0 ≤ (1 : Int)) from by omega)⟩ dX12_seed_17 (Nat.le_of_ble_eq_true rfl) (Nat.le_of_ble_eq_true rfl) (nar01 (by decide))
    · have gc10 : ¬ (r4.toInt < 0) := fun q0 => c10 ((tlt _ _).mpr q0)
      refine lv_iconst (v := 1) hx hb dX12_seed_12 (by decide) ?_
      refine lv_goto (tgt := 17) hx hb dX12_seed_13 (by decide) ?_
      rw [hQ]
      exact q_z F hr hlk (I6, J7, R8, L9) hP hD hS ⟨hvI, hvR, hsI, hsR, (show ((0 : Int) ≤ 1 ∧ 1 ≤ (1 : Int)) from by omega)⟩ dX12_seed_17 (Nat.le_of_ble_eq_true rfl) (Nat.le_of_ble_eq_true rfl) (nar01 (by decide))
set_option maxHeartbeats 4000000 in
set_option maxRecDepth 100000 in
theorem s_X12_seek (l : Launch) (G : Gx) (g q : Nat → Nat) (I0 : Nat → Int32) (J0 : Nat → Int64) (R0 : Nat → Nat → Int32) (L0 : Nat → Nat → Int64) (hvI : InvI Wm_lo Wm_hi I0) (hvR : InvR Wm_rl R0)    : CtI (S := St) l yX12_seek cX12_seek 3 (some .int) (rmD 5 0 0) G [.ref (g 45)] (Wm G g q I0 J0 R0 L0) (fun r u => InvI Wm_lo Wm_hi u.1 ∧ InvR Wm_rl u.2.2.1 ∧ SmF ([20] : List Nat) I0 u.1 ∧ SmF ([36, 37] : List Nat) R0 u.2.2.1 ∧ ((-2 : Int) ≤ r.toInt ∧ r.toInt ≤ (1 : Int))) (fun u => Wm G g q u.1 u.2.1 u.2.2.1 u.2.2.2) := by
  refine ctI_of (own := RX12) (by decide +kernel) rfl (Nat.le_of_ble_eq_true rfl) ?_
  intro p e s m below meth c A ls F hr hlk hnm hK hP hD hA hS hl
  have hx := F.1
  have hb := F.2.1
  have hown := F.2.2.2.1
  have hl : lv_has ls 3 [(0, .ref (g 45))] := hl
  obtain ⟨Q, hQ⟩ : ∃ Q : State → Prop, Q = MQ below (va_Qi (S := St) (fun r u => InvI Wm_lo Wm_hi u.1 ∧ InvR Wm_rl u.2.2.1 ∧ SmF ([20] : List Nat) I0 u.1 ∧ SmF ([36, 37] : List Nat) R0 u.2.2.1 ∧ ((-2 : Int) ≤ r.toInt ∧ r.toInt ≤ (1 : Int))) (BX G A (fun u => Wm G g q u.1 u.2.1 u.2.2.1 u.2.2.2)) A) [.ref (g 45)].toArray s 0 0 A := ⟨_, rfl⟩
  rw [show (MQ below (va_Qi (S := St) (fun r u => InvI Wm_lo Wm_hi u.1 ∧ InvR Wm_rl u.2.2.1 ∧ SmF ([20] : List Nat) I0 u.1 ∧ SmF ([36, 37] : List Nat) R0 u.2.2.1 ∧ ((-2 : Int) ≤ r.toInt ∧ r.toInt ≤ (1 : Int))) (BX G A (fun u => Wm G g q u.1 u.2.1 u.2.2.1 u.2.2.2)) A) [.ref (g 45)].toArray s (rmD 5 0 0).cells (rmD 5 0 0).slots A) = Q from hQ.symm]
  have hsI := smF_rf ([20] : List Nat) I0
  have hsR := smF_rf ([36, 37] : List Nat) R0
  have hvI0 := hvI
  have lab_11 : ∀ (k_11 : Nat) (a1_11 : Int32) (a2_11 : Int32) (I_11 : Nat → Int32) (J_11 : Nat → Int64) (R_11 : Nat → Nat → Int32) (L_11 : Nat → Nat → Int64) (H : Heap) (locs : List Loc) (ls : Array Slot), ((12 - a2_11.toInt) < (k_11 : Int)) → InvI Wm_lo Wm_hi I_11 → InvR Wm_rl R_11 → SmF ([20] : List Nat) I0 I_11 → SmF ([36, 37] : List Nat) R0 R_11 → ((-2 : Int) ≤ a1_11.toInt ∧ a1_11.toInt ≤ (1 : Int)) → ((0 : Int) ≤ a2_11.toInt ∧ a2_11.toInt ≤ (12 : Int)) → va_P G.1 vwCl (Wm G g q I_11 J_11 R_11 L_11) H → va_D A (Wm G g q I_11 J_11 R_11 L_11) → va_S A s.heap H locs → lv_has ls 3 [(0, .ref (g 45)), (1, .int a1_11), (2, .int a2_11)] → W p l e (rmD 5 0 0) s m [.ref (g 45)].toArray below meth c H locs 0 0 Q (F0 m 11 ls []) := by
    intro k_11
    induction k_11 with
    | zero =>
      intro a1_11 a2_11 I_11 J_11 R_11 L_11 H locs ls hm hvI hvR hsI hsR y0_11 y1_11 hP hD hS hl
      have hv_I_11 := hvI
      exact absurd hm (by omega)
    | succ k_11 ih_11 =>
      intro a1_11 a2_11 I_11 J_11 R_11 L_11 H locs ls hm hvI hvR hsI hsR y0_11 y1_11 hP hD hS hl
      have hv_I_11 := hvI
      refine lv_iload_n hx hb dX12_seek_11 rfl (lv_at hl 2 rfl) ?_
      refine lv_aload_n hx hb dX12_seek_12 rfl (lv_at hl 0 rfl) ?_
      refine g_get F hK hP 0 (Wm_at0 G g q I_11 J_11 R_11 L_11) clX12 21 (by decide) flX12_77 rfl dX12_seek_13 ?_
      refine lv_aload_n hx hb dX12_seek_16 rfl (lv_at hl 0 rfl) ?_
      refine g_get F hK hP 0 (Wm_at0 G g q I_11 J_11 R_11 L_11) clX12 12 (by decide) flX12_48 rfl dX12_seek_17 ?_
      refine cst_i (hsI 10 rfl) ?_
      have w_I0_10 := rg (hvI0 10 (by decide)) (0) (1) rfl rfl
      refine g_iald F hK hP 10 (Wm_at10 G g q I_11 J_11 R_11 L_11) (in_of (by omega)) dX12_seek_20 rfl ?_
      refine lv_topi (fun x1 ex1 => ?_)
      have gx1 : x1.toInt = (R0 7 (Int32.toNatClampNeg (I0 10))).toInt := congrArg Int32.toInt ((ex1).trans (congrFun (hsR 7 rfl) _))
      have fx1 : ((0 : Int) ≤ x1.toInt ∧ x1.toInt ≤ (12 : Int)) := by rw [ex1]; exact hvR 7 (by decide) _ (clamp_lt (n := 2) (in_of (by omega)))
      refine lv_icmp_ge (tgt := 47) hx hb dX12_seek_21 (by decide) (fun c2 => ?_) (fun c2 => ?_)
      · have gc2 : x1.toInt ≤ a2_11.toInt := (tle _ _).mp c2
        refine lv_iload_n hx hb dX12_seek_47 rfl (lv_at hl 1 rfl) ?_
        rw [hQ]
        exact q_i F hr hlk (I_11, J_11, R_11, L_11) hP hD hS ⟨hvI, hvR, hsI, hsR, (show ((-2 : Int) ≤ a1_11.toInt ∧ a1_11.toInt ≤ (1 : Int)) from by omega)⟩ dX12_seek_48 (Nat.le_of_ble_eq_true rfl) (Nat.le_of_ble_eq_true rfl)
      · have gc2 : ¬ (x1.toInt ≤ a2_11.toInt) := fun q0 => c2 ((tle _ _).mpr q0)
        refine lv_iload_n hx hb dX12_seek_24 rfl (lv_at hl 1 rfl) ?_
        refine lv_iconst (v := 1) hx hb dX12_seek_25 (by decide) ?_
        refine lv_icmp_ne (tgt := 47) hx hb dX12_seek_26 (by decide) (fun c3 => ?_) (fun c3 => ?_)
        · have gc3 : ¬ (a1_11.toInt = 1) := fun q0 => c3 (Int32.toInt_inj.mp q0)
          refine lv_iload_n hx hb dX12_seek_47 rfl (lv_at hl 1 rfl) ?_
          rw [hQ]
          exact q_i F hr hlk (I_11, J_11, R_11, L_11) hP hD hS ⟨hvI, hvR, hsI, hsR, (show ((-2 : Int) ≤ a1_11.toInt ∧ a1_11.toInt ≤ (1 : Int)) from by omega)⟩ dX12_seek_48 (Nat.le_of_ble_eq_true rfl) (Nat.le_of_ble_eq_true rfl)
        · have gc3 : a1_11.toInt = 1 := congrArg Int32.toInt c3
          refine lv_aload_n hx hb dX12_seek_29 rfl (lv_at hl 0 rfl) ?_
          refine g_get F hK hP 0 (Wm_at0 G g q I_11 J_11 R_11 L_11) clX12 58 (by decide) flX12_189 rfl dX12_seek_30 ?_
          refine lv_iload_n hx hb dX12_seek_33 rfl (lv_at hl 2 rfl) ?_
          refine lv_aload_n hx hb dX12_seek_34 rfl (lv_at hl 0 rfl) ?_
          refine g_get F hK hP 0 (Wm_at0 G g q I_11 J_11 R_11 L_11) clX12 63 (by decide) flX12_204 rfl dX12_seek_35 ?_
          refine lv_iload_n hx hb dX12_seek_38 rfl (lv_at hl 2 rfl) ?_
          refine g_iald F hK hP 42 (Wm_at42 G g q I_11 J_11 R_11 L_11) (in_of (by omega)) dX12_seek_39 rfl ?_
          refine lv_topi (fun x4 ex4 => ?_)
          have gx4 : x4.toInt = (R_11 37 (Int32.toNatClampNeg a2_11)).toInt := congrArg Int32.toInt (ex4)
          have fx4 : ((-1 : Int) ≤ x4.toInt ∧ x4.toInt ≤ (32 : Int)) := by rw [ex4]; exact hvR 37 (by decide) _ (clamp_lt (n := 13) (in_of (by omega)))
          refine p_row (W1 := fun y => Wm G g q I_11 J_11 y L_11) (n := 36) F hK hP hD hS 41 (Wm_at41 G g q I_11 J_11 R_11 L_11) (in_of (by omega)) dX12_seek_40 (Wm_rowR36 G g q I_11 J_11 R_11 L_11) (fun R5 H locs eR5 hP hD hS => ?_)
          have hvR : InvR Wm_rl R5 := inv_upR hvR 36 eR5 (upd_in (hvR 36 (by decide)) (full _))
          have hsR := smF_up hsR eR5 (by decide)
          obtain ⟨x6, ex6⟩ : ∃ y : Int32, y = a2_11 + 1 := ⟨_, rfl⟩
          have fx6 : x6.toInt = a2_11.toInt + (1 : Int) := by rw [ex6]; exact t_add (by show (-2147483648 : Int) ≤ a2_11.toInt + (1 : Int); omega) (by show a2_11.toInt + (1 : Int) ≤ 2147483647; omega)
          refine lv_iinc (v := x6) (lv' := [(2, .int x6), (0, .ref (g 45)), (1, .int a1_11)]) hx hb dX12_seek_41 hl (k := 2) rfl (by rw [ex6]; rfl) (by decide) rfl (fun ls hl => ?_)
          refine lv_goto (tgt := 11) hx hb dX12_seek_44 (by decide) ?_
          exact ih_11 a1_11 x6 I_11 J_11 R5 L_11 _ _ _ (show (12 - x6.toInt) < (k_11 : Int) from by omega) hvI hvR hsI hsR (show ((-2 : Int) ≤ a1_11.toInt ∧ a1_11.toInt ≤ (1 : Int)) from by omega) (show ((0 : Int) ≤ x6.toInt ∧ x6.toInt ≤ (12 : Int)) from by omega) hP hD hS (lv_sub hl [1, 2, 0] rfl)
  refine lv_aload_n hx hb dX12_seek_0 rfl (lv_at hl 0 rfl) ?_
  refine lv_aload_n hx hb dX12_seek_1 rfl (lv_at hl 0 rfl) ?_
  refine wvi (As := []) (rest := [.ref (g 45)]) (b := (g 45)) (d := 3) F hK hP hD hS hA (s_X12_spare l G g q I0 J0 R0 L0 hvI hvR   ) kmV_X12_spare mlX12_485 clX12 rfl 0 (Wm_at0 G g q I0 J0 R0 L0) ⟨(Nat.le_of_ble_eq_true rfl), (Nat.le_of_ble_eq_true rfl)⟩ hl.1 rfl (Nat.le_of_ble_eq_true rfl) dX12_seek_2 (fun r7 u8 H locs hwr7 hP hD hS => ?_)
  refine wvi (As := [.int r7]) (rest := []) (b := (g 45)) (d := 4) F hK hP hD hS hA (s_X12_sought l G g q I0 J0 R0 L0 hvI hvR  r7 ) kmV_X12_sought mlX12_529 clX12 rfl 0 (Wm_at0 G g q I0 J0 R0 L0) ⟨(Nat.le_of_ble_eq_true rfl), (Nat.le_of_ble_eq_true rfl)⟩ hl.1 rfl (Nat.le_of_ble_eq_true rfl) dX12_seek_5 (fun r9 u10 H locs hwr9 hP hD hS => ?_)
  obtain ⟨I11, J12, R13, L14⟩ := u10
  replace hP : va_P G.1 vwCl (Wm G g q I11 J12 R13 L14) H := hP
  replace hD : va_D A (Wm G g q I11 J12 R13 L14) := hD
  obtain ⟨hvI, hvR, tIr9, tRr9, F0r9⟩ := hwr9
  replace F0r9 : ((-2 : Int) ≤ r9.toInt ∧ r9.toInt ≤ (1 : Int)) := F0r9
  replace hvI : InvI Wm_lo Wm_hi I11 := hvI
  replace hvR : InvR Wm_rl R13 := hvR
  replace tIr9 : SmF ([20] : List Nat) I0 I11 := tIr9
  replace tRr9 : SmF ([37] : List Nat) R0 R13 := tRr9
  have hv_I11 := hvI
  have hsI := smF_tr hsI tIr9 (by decide)
  have hsR := smF_tr hsR tRr9 (by decide)
  refine lv_istore_n (lv' := [(1, .int r9), (0, .ref (g 45))]) hx hb dX12_seek_8 rfl hl (by decide) rfl (fun ls hl => ?_)
  refine lv_iconst (v := 0) hx hb dX12_seek_9 (by decide) ?_
  refine lv_istore_n (lv' := [(2, .int 0), (1, .int r9), (0, .ref (g 45))]) hx hb dX12_seek_10 rfl hl (by decide) rfl (fun ls hl => ?_)
  exact lab_11 13 r9 0 I11 J12 R13 L14 _ _ _ (show (12 - 0) < ((13 : Nat) : Int) from by omega) hvI hvR hsI hsR (show ((-2 : Int) ≤ r9.toInt ∧ r9.toInt ≤ (1 : Int)) from by omega) (by decide) hP hD hS (lv_sub hl [2, 1, 0] rfl)
set_option maxHeartbeats 4000000 in
set_option maxRecDepth 100000 in
theorem s_X12_stairs (l : Launch) (G : Gx) (g q : Nat → Nat) (I0 : Nat → Int32) (J0 : Nat → Int64) (R0 : Nat → Nat → Int32) (L0 : Nat → Nat → Int64) (hvI : InvI Wm_lo Wm_hi I0) (hvR : InvR Wm_rl R0)  (p1 : Int32)  : CtL (S := St) l yX12_stairs cX12_stairs 5 (some .long) (rmD 3 0 0) G [.ref (g 45), .int p1] (Wm G g q I0 J0 R0 L0) (fun r u => InvI Wm_lo Wm_hi u.1 ∧ InvR Wm_rl u.2.2.1 ∧ SmF ([] : List Nat) I0 u.1 ∧ SmF ([] : List Nat) R0 u.2.2.1) (fun u => Wm G g q u.1 u.2.1 u.2.2.1 u.2.2.2) := by
  refine ctL_of (own := RX12) (by decide +kernel) rfl (Nat.le_of_ble_eq_true rfl) ?_
  intro p e s m below meth c A ls F hr hlk hnm hK hP hD hA hS hl
  have hx := F.1
  have hb := F.2.1
  have hown := F.2.2.2.1
  have hl : lv_has ls 5 [(0, .ref (g 45)), (1, .int p1)] := hl
  obtain ⟨Q, hQ⟩ : ∃ Q : State → Prop, Q = MQ below (va_Ql (S := St) (fun r u => InvI Wm_lo Wm_hi u.1 ∧ InvR Wm_rl u.2.2.1 ∧ SmF ([] : List Nat) I0 u.1 ∧ SmF ([] : List Nat) R0 u.2.2.1) (BX G A (fun u => Wm G g q u.1 u.2.1 u.2.2.1 u.2.2.2)) A) [.ref (g 45), .int p1].toArray s 0 0 A := ⟨_, rfl⟩
  rw [show (MQ below (va_Ql (S := St) (fun r u => InvI Wm_lo Wm_hi u.1 ∧ InvR Wm_rl u.2.2.1 ∧ SmF ([] : List Nat) I0 u.1 ∧ SmF ([] : List Nat) R0 u.2.2.1) (BX G A (fun u => Wm G g q u.1 u.2.1 u.2.2.1 u.2.2.2)) A) [.ref (g 45), .int p1].toArray s (rmD 3 0 0).cells (rmD 3 0 0).slots A) = Q from hQ.symm]
  have hsI := smF_rf ([] : List Nat) I0
  have hsR := smF_rf ([] : List Nat) R0
  have hvI0 := hvI
  have lab_26 : ∀ (k_26 : Nat) (a2_26 : Int64) (a4_26 : Int32) (I_26 : Nat → Int32) (J_26 : Nat → Int64) (R_26 : Nat → Nat → Int32) (L_26 : Nat → Nat → Int64) (H : Heap) (locs : List Loc) (ls : Array Slot), ((49996 - a4_26.toInt) < (k_26 : Int)) → InvI Wm_lo Wm_hi I_26 → InvR Wm_rl R_26 → SmF ([] : List Nat) I0 I_26 → SmF ([] : List Nat) R0 R_26 → ((1 : Int) ≤ a4_26.toInt ∧ a4_26.toInt ≤ (49996 : Int)) → va_P G.1 vwCl (Wm G g q I_26 J_26 R_26 L_26) H → va_D A (Wm G g q I_26 J_26 R_26 L_26) → va_S A s.heap H locs → lv_has ls 5 [(0, .ref (g 45)), (2, .long a2_26), (4, .int a4_26)] → W p l e (rmD 3 0 0) s m [.ref (g 45), .int p1].toArray below meth c H locs 0 0 Q (F0 m 26 ls []) := by
    intro k_26
    induction k_26 with
    | zero =>
      intro a2_26 a4_26 I_26 J_26 R_26 L_26 H locs ls hm hvI hvR hsI hsR y0_26 hP hD hS hl
      have hv_I_26 := hvI
      exact absurd hm (by omega)
    | succ k_26 ih_26 =>
      intro a2_26 a4_26 I_26 J_26 R_26 L_26 H locs ls hm hvI hvR hsI hsR y0_26 hP hD hS hl
      have hv_I_26 := hvI
      refine lv_iload hx hb dX12_stairs_26 (lv_at hl 2 rfl) ?_
      refine lv_bipush (v := 64) hx hb dX12_stairs_28 (by decide) ?_
      refine lv_icmp_ge (tgt := 58) hx hb dX12_stairs_30 (by decide) (fun c1 => ?_) (fun c1 => ?_)
      · have gc1 : 64 ≤ a4_26.toInt := (tle _ _).mp c1
        refine lv_lload_n hx hb dX12_stairs_58 rfl (lv_at hl 1 rfl) ?_
        refine lv_ldc2 hx hb hown (F.2.2.2.2 _ clX12_435) dX12_stairs_59 ?_
        refine lv_ldiv hx hb dX12_stairs_62 (by decide) ?_
        refine lv_topl (fun x2 ex2 => ?_)
        rw [hQ]
        exact q_l F hr hlk (I_26, J_26, R_26, L_26) hP hD hS ⟨hvI, hvR, hsI, hsR⟩ dX12_stairs_63 (Nat.le_of_ble_eq_true rfl) (Nat.le_of_ble_eq_true rfl)
      · have gc1 : ¬ (64 ≤ a4_26.toInt) := fun q0 => c1 ((tle _ _).mpr q0)
        refine lv_lload_n hx hb dX12_stairs_33 rfl (lv_at hl 1 rfl) ?_
        refine lv_iload hx hb dX12_stairs_34 (lv_at hl 2 rfl) ?_
        refine lv_aload_n hx hb dX12_stairs_36 rfl (lv_at hl 0 rfl) ?_
        refine wvi (As := []) (rest := [.int a4_26, .long a2_26]) (b := (g 45)) (d := 1) F hK hP hD hS hA (s_X12_desksAll l G g q I_26 J_26 R_26 L_26 hvI hvR   ) kmV_X12_desksAll mlX12_454 clX12 rfl 0 (Wm_at0 G g q I_26 J_26 R_26 L_26) ⟨(Nat.le_of_ble_eq_true rfl), (Nat.le_of_ble_eq_true rfl)⟩ hl.1 rfl (Nat.le_of_ble_eq_true rfl) dX12_stairs_37 (fun r3 u4 H locs hwr3 hP hD hS => ?_)
        have F0r3 := hwr3
        replace F0r3 : ((0 : Int) ≤ r3.toInt ∧ r3.toInt ≤ (49995 : Int)) := F0r3
        refine lv_isub hx hb dX12_stairs_40 ?_
        refine lv_topi (fun x5 ex5 => ?_)
        have fx5 : x5.toInt = a4_26.toInt - r3.toInt := by rw [ex5]; exact t_sub (by show (-2147483648 : Int) ≤ a4_26.toInt - r3.toInt; omega) (by show a4_26.toInt - r3.toInt ≤ 2147483647; omega)
        obtain ⟨x6, ex6⟩ : ∃ y : Int64, (x5 : Int32).toInt64 = y := ⟨_, rfl⟩
        refine lv_i2l (v := x6) hx hb dX12_stairs_41 ex6 ?_
        refine lv_aload_n hx hb dX12_stairs_42 rfl (lv_at hl 0 rfl) ?_
        refine g_get F hK hP 0 (Wm_at0 G g q I_26 J_26 R_26 L_26) clX12 65 (by decide) flX12_210 rfl dX12_stairs_43 ?_
        refine lv_iload hx hb dX12_stairs_46 (lv_at hl 2 rfl) ?_
        refine g_lald F hK hP 43 (Wm_at43 G g q I_26 J_26 R_26 L_26) (in_of (by omega)) dX12_stairs_48 rfl ?_
        refine lv_topl (fun x7 ex7 => ?_)
        refine lv_lmul hx hb dX12_stairs_49 ?_
        refine lv_topl (fun x8 ex8 => ?_)
        refine lv_ladd hx hb dX12_stairs_50 ?_
        refine lv_topl (fun x9 ex9 => ?_)
        refine lv_lstore_n (lv' := [(2, .long x9), (0, .ref (g 45)), (4, .int a4_26)]) hx hb dX12_stairs_51 rfl hl (by decide) rfl (fun ls hl => ?_)
        obtain ⟨x10, ex10⟩ : ∃ y : Int32, y = a4_26 + 1 := ⟨_, rfl⟩
        have fx10 : x10.toInt = a4_26.toInt + (1 : Int) := by rw [ex10]; exact t_add (by show (-2147483648 : Int) ≤ a4_26.toInt + (1 : Int); omega) (by show a4_26.toInt + (1 : Int) ≤ 2147483647; omega)
        refine lv_iinc (v := x10) (lv' := [(4, .int x10), (2, .long x9), (0, .ref (g 45))]) hx hb dX12_stairs_52 hl (k := 2) rfl (by rw [ex10]; rfl) (by decide) rfl (fun ls hl => ?_)
        refine lv_goto (tgt := 26) hx hb dX12_stairs_55 (by decide) ?_
        exact ih_26 x9 x10 I_26 J_26 R_26 L_26 _ _ _ (show (49996 - x10.toInt) < (k_26 : Int) from by omega) hvI hvR hsI hsR (show ((1 : Int) ≤ x10.toInt ∧ x10.toInt ≤ (49996 : Int)) from by omega) hP hD hS (lv_sub hl [2, 1, 0] rfl)
  refine lv_iload_n hx hb dX12_stairs_0 rfl (lv_at hl 1 rfl) ?_
  refine w0i (As := [.int p1]) (rest := []) (d := 2) F hK hP hD hS hA (s_X12_isDay l G  p1 ) kmS_X12_isDay mlX12_488 ⟨(Nat.le_of_ble_eq_true rfl), (Nat.le_of_ble_eq_true rfl)⟩ hl.1 rfl (Nat.le_of_ble_eq_true rfl) dX12_stairs_1 (fun r11 u12 H locs hwr11 hP hD hS => ?_)
  obtain ⟨F0r11, F1r11⟩ := hwr11
  replace F0r11 : ((0 : Int) ≤ r11.toInt ∧ r11.toInt ≤ (1 : Int)) := F0r11
  replace F1r11 : (r11.toInt = 1 → (0 ≤ p1.toInt ∧ p1.toInt ≤ 4)) := F1r11
  refine lv_if_ne (tgt := 11) hx hb dX12_stairs_4 (by decide) (fun c13 => ?_) (fun c13 => ?_)
  · have gc13 : ¬ (r11.toInt = 0) := fun q0 => c13 (Int32.toInt_inj.mp q0)
    refine lv_aload_n hx hb dX12_stairs_11 rfl (lv_at hl 0 rfl) ?_
    refine lv_iload_n hx hb dX12_stairs_12 rfl (lv_at hl 1 rfl) ?_
    refine wvv (As := [.int p1]) (rest := []) (b := (g 45)) (d := 2) F hK hP hD hS hA (s_X12_comers l G g q I0 J0 R0 L0 hvI hvR  p1 (show ((0 : Int) ≤ p1.toInt ∧ p1.toInt ≤ (4 : Int)) from by omega)) kmV_X12_comers mlX12_557 clX12 rfl 0 (Wm_at0 G g q I0 J0 R0 L0) ⟨(Nat.le_of_ble_eq_true rfl), (Nat.le_of_ble_eq_true rfl)⟩ hl.1 rfl (Nat.le_of_ble_eq_true rfl) dX12_stairs_13 (fun u15 H locs hwr14 hP hD hS => ?_)
    obtain ⟨I16, J17, R18, L19⟩ := u15
    replace hP : va_P G.1 vwCl (Wm G g q I16 J17 R18 L19) H := hP
    replace hD : va_D A (Wm G g q I16 J17 R18 L19) := hD
    obtain ⟨hvI, hvR, tIr14, tRr14⟩ := hwr14
    replace hvI : InvI Wm_lo Wm_hi I16 := hvI
    replace hvR : InvR Wm_rl R18 := hvR
    replace tIr14 : SmF ([] : List Nat) I0 I16 := tIr14
    replace tRr14 : SmF ([] : List Nat) R0 R18 := tRr14
    have hv_I16 := hvI
    have hsI := smF_tr hsI tIr14 (by decide)
    have hsR := smF_tr hsR tRr14 (by decide)
    refine lv_lconst (v := 0) hx hb dX12_stairs_16 (by decide) ?_
    refine lv_lstore_n (lv' := [(2, .long 0), (0, .ref (g 45)), (1, .int p1)]) hx hb dX12_stairs_17 rfl hl (by decide) rfl (fun ls hl => ?_)
    refine lv_aload_n hx hb dX12_stairs_18 rfl (lv_at hl 1 rfl) ?_
    refine wvi (As := []) (rest := []) (b := (g 45)) (d := 1) F hK hP hD hS hA (s_X12_desksAll l G g q I16 J17 R18 L19 hvI hvR   ) kmV_X12_desksAll mlX12_454 clX12 rfl 0 (Wm_at0 G g q I16 J17 R18 L19) ⟨(Nat.le_of_ble_eq_true rfl), (Nat.le_of_ble_eq_true rfl)⟩ hl.1 rfl (Nat.le_of_ble_eq_true rfl) dX12_stairs_19 (fun r20 u21 H locs hwr20 hP hD hS => ?_)
    have F0r20 := hwr20
    replace F0r20 : ((0 : Int) ≤ r20.toInt ∧ r20.toInt ≤ (49995 : Int)) := F0r20
    refine lv_iconst (v := 1) hx hb dX12_stairs_22 (by decide) ?_
    refine lv_iadd hx hb dX12_stairs_23 ?_
    refine lv_topi (fun x22 ex22 => ?_)
    have fx22 : x22.toInt = r20.toInt + 1 := by rw [ex22]; exact t_add (by show (-2147483648 : Int) ≤ r20.toInt + 1; omega) (by show r20.toInt + 1 ≤ 2147483647; omega)
    refine lv_istore (lv' := [(4, .int x22), (2, .long 0), (0, .ref (g 45)), (1, .int p1)]) hx hb dX12_stairs_24 hl (by decide) rfl (fun ls hl => ?_)
    exact lab_26 49996 0 x22 I16 J17 R18 L19 _ _ _ (show (49996 - x22.toInt) < ((49996 : Nat) : Int) from by omega) hvI hvR hsI hsR (show ((1 : Int) ≤ x22.toInt ∧ x22.toInt ≤ (49996 : Int)) from by omega) hP hD hS (lv_sub hl [2, 1, 0] rfl)
  · have gc13 : r11.toInt = 0 := congrArg Int32.toInt c13
    refine lv_ldc2 hx hb hown (F.2.2.2.2 _ clX12_555) dX12_stairs_7 ?_
    rw [hQ]
    exact q_l F hr hlk (I0, J0, R0, L0) hP hD hS ⟨hvI, hvR, hsI, hsR⟩ dX12_stairs_10 (Nat.le_of_ble_eq_true rfl) (Nat.le_of_ble_eq_true rfl)
