set_option maxHeartbeats 4000000 in
set_option maxRecDepth 100000 in
theorem s_X12_others (l : Launch) (G : Gx) (g q : Nat → Nat) (I0 : Nat → Int32) (J0 : Nat → Int64) (R0 : Nat → Nat → Int32) (L0 : Nat → Nat → Int64) (hvI : InvI Wm_lo Wm_hi I0) (hvR : InvR Wm_rl R0)   (hpre0 : ((I0 3).toInt ≤ (I0 4).toInt)) (hpre1 : ((I0 4).toInt ≤ (I0 1).toInt)) (hpre2 : ((¬ (I0 2).toInt = 0) → (I0 3).toInt < (I0 4).toInt)) (hpre3 : ((I0 11).toInt ≤ (I0 3).toInt)) : CtV (S := St) l yX12_others cX12_others 1 none (rmD 7 0 0) G [.ref (g 45)] (Wm G g q I0 J0 R0 L0) (fun u => InvI Wm_lo Wm_hi u.1 ∧ InvR Wm_rl u.2.2.1 ∧ SmF ([2, 3, 4, 5, 6, 7, 11, 13, 14, 15, 16] : List Nat) I0 u.1 ∧ SmF ([6, 13, 14, 21, 22, 23, 24, 25, 26, 27, 28, 29, 30, 31, 32, 33] : List Nat) R0 u.2.2.1 ∧ (((u.1 6).toInt = 0 ∧ ¬ (I0 2).toInt = 0) → (I0 3).toInt < (u.1 3).toInt) ∧ ((u.1 3).toInt ≤ (u.1 4).toInt) ∧ ((u.1 4).toInt ≤ (I0 1).toInt) ∧ ((¬ (u.1 2).toInt = 0) → (u.1 3).toInt < (u.1 4).toInt) ∧ ((¬ (I0 6).toInt = 0) → (¬ (u.1 6).toInt = 0)) ∧ ((I0 3).toInt ≤ (u.1 3).toInt) ∧ (WK I0 R0 u.1 u.2.2.1)) (fun u => Wm G g q u.1 u.2.1 u.2.2.1 u.2.2.2) := by
  refine ctV_of (own := RX12) (by decide +kernel) rfl (Nat.le_of_ble_eq_true rfl) ?_
  intro p e s m below meth c A ls F hr hlk hnm hK hP hD hA hS hl
  have hx := F.1
  have hb := F.2.1
  have hown := F.2.2.2.1
  have hl : lv_has ls 1 [(0, .ref (g 45))] := hl
  obtain ⟨Q, hQ⟩ : ∃ Q : State → Prop, Q = MQ below (va_Qv (S := St) (fun u => InvI Wm_lo Wm_hi u.1 ∧ InvR Wm_rl u.2.2.1 ∧ SmF ([2, 3, 4, 5, 6, 7, 11, 13, 14, 15, 16] : List Nat) I0 u.1 ∧ SmF ([6, 13, 14, 21, 22, 23, 24, 25, 26, 27, 28, 29, 30, 31, 32, 33] : List Nat) R0 u.2.2.1 ∧ (((u.1 6).toInt = 0 ∧ ¬ (I0 2).toInt = 0) → (I0 3).toInt < (u.1 3).toInt) ∧ ((u.1 3).toInt ≤ (u.1 4).toInt) ∧ ((u.1 4).toInt ≤ (I0 1).toInt) ∧ ((¬ (u.1 2).toInt = 0) → (u.1 3).toInt < (u.1 4).toInt) ∧ ((¬ (I0 6).toInt = 0) → (¬ (u.1 6).toInt = 0)) ∧ ((I0 3).toInt ≤ (u.1 3).toInt) ∧ (WK I0 R0 u.1 u.2.2.1)) (BX G A (fun u => Wm G g q u.1 u.2.1 u.2.2.1 u.2.2.2)) A) [.ref (g 45)].toArray s 0 0 A := ⟨_, rfl⟩
  rw [show (MQ below (va_Qv (S := St) (fun u => InvI Wm_lo Wm_hi u.1 ∧ InvR Wm_rl u.2.2.1 ∧ SmF ([2, 3, 4, 5, 6, 7, 11, 13, 14, 15, 16] : List Nat) I0 u.1 ∧ SmF ([6, 13, 14, 21, 22, 23, 24, 25, 26, 27, 28, 29, 30, 31, 32, 33] : List Nat) R0 u.2.2.1 ∧ (((u.1 6).toInt = 0 ∧ ¬ (I0 2).toInt = 0) → (I0 3).toInt < (u.1 3).toInt) ∧ ((u.1 3).toInt ≤ (u.1 4).toInt) ∧ ((u.1 4).toInt ≤ (I0 1).toInt) ∧ ((¬ (u.1 2).toInt = 0) → (u.1 3).toInt < (u.1 4).toInt) ∧ ((¬ (I0 6).toInt = 0) → (¬ (u.1 6).toInt = 0)) ∧ ((I0 3).toInt ≤ (u.1 3).toInt) ∧ (WK I0 R0 u.1 u.2.2.1)) (BX G A (fun u => Wm G g q u.1 u.2.1 u.2.2.1 u.2.2.2)) A) [.ref (g 45)].toArray s (rmD 7 0 0).cells (rmD 7 0 0).slots A) = Q from hQ.symm]
  have hsI := smF_rf ([2, 3, 4, 5, 6, 7, 11, 13, 14, 15, 16] : List Nat) I0
  have hsR := smF_rf ([6, 13, 14, 21, 22, 23, 24, 25, 26, 27, 28, 29, 30, 31, 32, 33] : List Nat) R0
  have hvI0 := hvI
  have w_I0_1 := rg (hvI 1 (by decide)) (0) (1800) rfl rfl
  have w_I0_2 := rg (hvI 2 (by decide)) (0) (3) rfl rfl
  have w_I0_3 := rg (hvI 3 (by decide)) (0) (1800) rfl rfl
  have w_I0_4 := rg (hvI 4 (by decide)) (0) (1800) rfl rfl
  have w_I0_6 := rg (hvI 6 (by decide)) (0) (5) rfl rfl
  have w_I0_11 := rg (hvI 11 (by decide)) (0) (1800) rfl rfl
  refine lv_aload_n hx hb dX12_others_0 rfl (lv_at hl 0 rfl) ?_
  refine lv_ldc2 hx hb hown (F.2.2.2.2 _ clX12_274) dX12_others_1 ?_
  refine wvi (As := [.long 7305070]) (rest := []) (b := (g 45)) (d := 1) F hK hP hD hS hA (s_X12_isWord l G g q I0 J0 R0 L0 hvI hvR  7305070 ) kmV_X12_isWord mlX12_332 clX12 rfl 0 (Wm_at0 G g q I0 J0 R0 L0) ⟨(Nat.le_of_ble_eq_true rfl), (Nat.le_of_ble_eq_true rfl)⟩ hl.1 rfl (Nat.le_of_ble_eq_true rfl) dX12_others_4 (fun r1 u2 H locs hwr1 hP hD hS => ?_)
  have F0r1 := hwr1
  replace F0r1 : ((0 : Int) ≤ r1.toInt ∧ r1.toInt ≤ (1 : Int)) := F0r1
  refine lv_if_eq (tgt := 17) hx hb dX12_others_7 (by decide) (fun c3 => ?_) (fun c3 => ?_)
  · have gc3 : r1.toInt = 0 := congrArg Int32.toInt c3
    refine lv_aload_n hx hb dX12_others_17 rfl (lv_at hl 0 rfl) ?_
    refine lv_ldc2 hx hb hown (F.2.2.2.2 _ clX12_276) dX12_others_18 ?_
    refine wvi (As := [.long 1835361652]) (rest := []) (b := (g 45)) (d := 1) F hK hP hD hS hA (s_X12_isWord l G g q I0 J0 R0 L0 hvI hvR  1835361652 ) kmV_X12_isWord mlX12_332 clX12 rfl 0 (Wm_at0 G g q I0 J0 R0 L0) ⟨(Nat.le_of_ble_eq_true rfl), (Nat.le_of_ble_eq_true rfl)⟩ hl.1 rfl (Nat.le_of_ble_eq_true rfl) dX12_others_21 (fun r4 u5 H locs hwr4 hP hD hS => ?_)
    have F0r4 := hwr4
    replace F0r4 : ((0 : Int) ≤ r4.toInt ∧ r4.toInt ≤ (1 : Int)) := F0r4
    refine lv_if_eq (tgt := 34) hx hb dX12_others_24 (by decide) (fun c6 => ?_) (fun c6 => ?_)
    · have gc6 : r4.toInt = 0 := congrArg Int32.toInt c6
      refine lv_aload_n hx hb dX12_others_34 rfl (lv_at hl 0 rfl) ?_
      refine lv_ldc2 hx hb hown (F.2.2.2.2 _ clX12_278) dX12_others_35 ?_
      refine wvi (As := [.long 500186639987]) (rest := []) (b := (g 45)) (d := 1) F hK hP hD hS hA (s_X12_isWord l G g q I0 J0 R0 L0 hvI hvR  500186639987 ) kmV_X12_isWord mlX12_332 clX12 rfl 0 (Wm_at0 G g q I0 J0 R0 L0) ⟨(Nat.le_of_ble_eq_true rfl), (Nat.le_of_ble_eq_true rfl)⟩ hl.1 rfl (Nat.le_of_ble_eq_true rfl) dX12_others_38 (fun r7 u8 H locs hwr7 hP hD hS => ?_)
      have F0r7 := hwr7
      replace F0r7 : ((0 : Int) ≤ r7.toInt ∧ r7.toInt ≤ (1 : Int)) := F0r7
      refine lv_if_eq (tgt := 51) hx hb dX12_others_41 (by decide) (fun c9 => ?_) (fun c9 => ?_)
      · have gc9 : r7.toInt = 0 := congrArg Int32.toInt c9
        refine lv_aload_n hx hb dX12_others_51 rfl (lv_at hl 0 rfl) ?_
        refine lv_ldc2 hx hb hown (F.2.2.2.2 _ clX12_280) dX12_others_52 ?_
        refine wvi (As := [.long 495873781348]) (rest := []) (b := (g 45)) (d := 1) F hK hP hD hS hA (s_X12_isWord l G g q I0 J0 R0 L0 hvI hvR  495873781348 ) kmV_X12_isWord mlX12_332 clX12 rfl 0 (Wm_at0 G g q I0 J0 R0 L0) ⟨(Nat.le_of_ble_eq_true rfl), (Nat.le_of_ble_eq_true rfl)⟩ hl.1 rfl (Nat.le_of_ble_eq_true rfl) dX12_others_55 (fun r10 u11 H locs hwr10 hP hD hS => ?_)
        have F0r10 := hwr10
        replace F0r10 : ((0 : Int) ≤ r10.toInt ∧ r10.toInt ≤ (1 : Int)) := F0r10
        refine lv_if_eq (tgt := 68) hx hb dX12_others_58 (by decide) (fun c12 => ?_) (fun c12 => ?_)
        · have gc12 : r10.toInt = 0 := congrArg Int32.toInt c12
          refine lv_aload_n hx hb dX12_others_68 rfl (lv_at hl 0 rfl) ?_
          refine lv_ldc2 hx hb hown (F.2.2.2.2 _ clX12_282) dX12_others_69 ?_
          refine wvi (As := [.long 512970880104]) (rest := []) (b := (g 45)) (d := 1) F hK hP hD hS hA (s_X12_isWord2 l G g q I0 J0 R0 L0 hvI hvR  512970880104 ) kmV_X12_isWord mlX12_332 clX12 rfl 0 (Wm_at0 G g q I0 J0 R0 L0) ⟨(Nat.le_of_ble_eq_true rfl), (Nat.le_of_ble_eq_true rfl)⟩ hl.1 rfl (Nat.le_of_ble_eq_true rfl) dX12_others_72 (fun r13 u14 H locs hwr13 hP hD hS => ?_)
          obtain ⟨F0r13, F1r13, F2r13⟩ := hwr13
          replace F0r13 : ((0 : Int) ≤ r13.toInt ∧ r13.toInt ≤ (1 : Int)) := F0r13
          replace F1r13 : (r13.toInt = 1 → (I0 2).toInt = 1) := F1r13
          replace F2r13 : (r13.toInt = 1 → J0 0 = 512970880104) := F2r13
          refine lv_if_eq (tgt := 85) hx hb dX12_others_75 (by decide) (fun c15 => ?_) (fun c15 => ?_)
          · have gc15 : r13.toInt = 0 := congrArg Int32.toInt c15
            refine lv_aload_n hx hb dX12_others_85 rfl (lv_at hl 0 rfl) ?_
            refine lv_iconst (v := 1) hx hb dX12_others_86 (by decide) ?_
            refine lv_aload_n hx hb dX12_others_87 rfl (lv_at hl 0 rfl) ?_
            refine g_get F hK hP 0 (Wm_at0 G g q I0 J0 R0 L0) clX12 4 (by decide) flX12_23 rfl dX12_others_88 ?_
            have w_I0_3 := rg (hvI0 3 (by decide)) (0) (1800) rfl rfl
            refine wvv (As := [.int 1, .int (I0 3)]) (rest := []) (b := (g 45)) (d := 1) F hK hP hD hS hA (s_X12_blame l G g q I0 J0 R0 L0 hvI hvR  1 ((I0 3)) (by decide) (show ((0 : Int) ≤ (I0 3).toInt ∧ (I0 3).toInt ≤ (1800 : Int)) from by omega)) kmV_X12_blame mlX12_240 clX12 rfl 0 (Wm_at0 G g q I0 J0 R0 L0) ⟨(Nat.le_of_ble_eq_true rfl), (Nat.le_of_ble_eq_true rfl)⟩ hl.1 rfl (Nat.le_of_ble_eq_true rfl) dX12_others_91 (fun u17 H locs hwr16 hP hD hS => ?_)
            obtain ⟨I18, J19, R20, L21⟩ := u17
            replace hP : va_P G.1 vwCl (Wm G g q I18 J19 R20 L21) H := hP
            replace hD : va_D A (Wm G g q I18 J19 R20 L21) := hD
            obtain ⟨hvI, hvR, tIr16, tRr16, F0r16⟩ := hwr16
            replace F0r16 : (¬ (I18 6).toInt = 0) := F0r16
            replace hvI : InvI Wm_lo Wm_hi I18 := hvI
            replace hvR : InvR Wm_rl R20 := hvR
            replace tIr16 : SmF ([6, 7] : List Nat) I0 I18 := tIr16
            replace tRr16 : SmF ([] : List Nat) R0 R20 := tRr16
            have hv_I18 := hvI
            have hsI := smF_tr hsI tIr16 (by decide)
            have hsR := smF_tr hsR tRr16 (by decide)
            have u_I18_1 : (I18 1).toInt = (I0 1).toInt := congrArg Int32.toInt (tIr16 1 rfl)
            have u_I18_2 : (I18 2).toInt = (I0 2).toInt := congrArg Int32.toInt (tIr16 2 rfl)
            have u_I18_3 : (I18 3).toInt = (I0 3).toInt := congrArg Int32.toInt (tIr16 3 rfl)
            have u_I18_4 : (I18 4).toInt = (I0 4).toInt := congrArg Int32.toInt (tIr16 4 rfl)
            have w_I18_6 := rg (hvI 6 (by decide)) (0) (5) rfl rfl
            have u_I18_11 : (I18 11).toInt = (I0 11).toInt := congrArg Int32.toInt (tIr16 11 rfl)
            have wkr16 := wk_sm (wk_rf I0 R0) (congrArg Int32.toInt (tIr16 12 rfl)) (congrArg Int32.toInt (tIr16 11 rfl)) (fun h => absurd h F0r16) (Int.le_of_eq (congrArg Int32.toInt (tIr16 3 rfl).symm)) (tRr16 22 rfl) (tRr16 23 rfl) (tRr16 24 rfl) (tRr16 25 rfl) (tRr16 26 rfl)
            have nr16_0 : ((I18 3).toInt ≤ (I18 4).toInt) := by omega
            have nr16_1 : ((I18 4).toInt ≤ (I0 1).toInt) := by omega
            have nr16_2 : ((¬ (I18 2).toInt = 0) → (I18 3).toInt < (I18 4).toInt) := by omega
            have nr16_3 : ((¬ (I0 6).toInt = 0) → (¬ (I18 6).toInt = 0)) := by omega
            have nr16_4 : ((I0 3).toInt ≤ (I18 3).toInt) := by omega
            rw [hQ]
            exact q_v F hr hlk (I18, J19, R20, L21) hP hD hS ⟨hvI, hvR, hsI, hsR, (show (((I18 6).toInt = 0 ∧ ¬ (I0 2).toInt = 0) → (I0 3).toInt < (I18 3).toInt) from by omega), (show ((I18 3).toInt ≤ (I18 4).toInt) from by omega), (show ((I18 4).toInt ≤ (I0 1).toInt) from by omega), (show ((¬ (I18 2).toInt = 0) → (I18 3).toInt < (I18 4).toInt) from by omega), (show ((¬ (I0 6).toInt = 0) → (¬ (I18 6).toInt = 0)) from by omega), (show ((I0 3).toInt ≤ (I18 3).toInt) from by omega), (show (WK I0 R0 I18 R20) from wkr16)⟩ dX12_others_94 (Nat.le_of_ble_eq_true rfl) (Nat.le_of_ble_eq_true rfl)
          · have gc15 : ¬ (r13.toInt = 0) := fun q0 => c15 (Int32.toInt_inj.mp q0)
            refine lv_aload_n hx hb dX12_others_78 rfl (lv_at hl 0 rfl) ?_
            refine wvv (As := []) (rest := []) (b := (g 45)) (d := 6) F hK hP hD hS hA (s_X12_rule l G g q I0 J0 R0 L0 hvI hvR   (by omega) (by omega) (by omega) (by omega) (by omega)) kmV_X12_rule mlX12_429 clX12 rfl 0 (Wm_at0 G g q I0 J0 R0 L0) ⟨(Nat.le_of_ble_eq_true rfl), (Nat.le_of_ble_eq_true rfl)⟩ hl.1 rfl (Nat.le_of_ble_eq_true rfl) dX12_others_79 (fun u23 H locs hwr22 hP hD hS => ?_)
            obtain ⟨I24, J25, R26, L27⟩ := u23
            replace hP : va_P G.1 vwCl (Wm G g q I24 J25 R26 L27) H := hP
            replace hD : va_D A (Wm G g q I24 J25 R26 L27) := hD
            obtain ⟨hvI, hvR, tIr22, tRr22, F0r22, F1r22, F2r22, F3r22, F4r22, F5r22, F6r22⟩ := hwr22
            replace F0r22 : (((I24 6).toInt = 0 ∧ ¬ (I0 2).toInt = 0) → (I0 3).toInt < (I24 3).toInt) := F0r22
            replace F1r22 : ((I24 3).toInt ≤ (I24 4).toInt) := F1r22
            replace F2r22 : ((I24 4).toInt ≤ (I0 1).toInt) := F2r22
            replace F3r22 : ((¬ (I24 2).toInt = 0) → (I24 3).toInt < (I24 4).toInt) := F3r22
            replace F4r22 : ((¬ (I0 6).toInt = 0) → (¬ (I24 6).toInt = 0)) := F4r22
            replace F5r22 : ((I0 3).toInt ≤ (I24 3).toInt) := F5r22
            replace F6r22 : (WK I0 R0 I24 R26) := F6r22
            replace hvI : InvI Wm_lo Wm_hi I24 := hvI
            replace hvR : InvR Wm_rl R26 := hvR
            replace tIr22 : SmF ([2, 3, 4, 5, 6, 7, 11, 13, 14, 15, 16] : List Nat) I0 I24 := tIr22
            replace tRr22 : SmF ([22, 23, 24, 25, 26, 27, 28, 29, 30, 31, 32, 33] : List Nat) R0 R26 := tRr22
            have hv_I24 := hvI
            have hsI := smF_tr hsI tIr22 (by decide)
            have hsR := smF_tr hsR tRr22 (by decide)
            have u_I24_1 : (I24 1).toInt = (I0 1).toInt := congrArg Int32.toInt (tIr22 1 rfl)
            have w_I24_2 := rg (hvI 2 (by decide)) (0) (3) rfl rfl
            have w_I24_3 := rg (hvI 3 (by decide)) (0) (1800) rfl rfl
            have w_I24_4 := rg (hvI 4 (by decide)) (0) (1800) rfl rfl
            have w_I24_6 := rg (hvI 6 (by decide)) (0) (5) rfl rfl
            have w_I24_11 := rg (hvI 11 (by decide)) (0) (1800) rfl rfl
            have wkr22 := wk_tr (wk_rf I0 R0) F6r22
            have nr22_0 : ((I24 3).toInt ≤ (I24 4).toInt) := by omega
            have nr22_1 : ((I24 4).toInt ≤ (I0 1).toInt) := by omega
            have nr22_2 : ((¬ (I24 2).toInt = 0) → (I24 3).toInt < (I24 4).toInt) := by omega
            have nr22_3 : ((¬ (I0 6).toInt = 0) → (¬ (I24 6).toInt = 0)) := by omega
            have nr22_4 : ((I0 3).toInt ≤ (I24 3).toInt) := by omega
            clear F1r22 F2r22 F3r22 F4r22 F5r22
            refine lv_goto (tgt := 94) hx hb dX12_others_82 (by decide) ?_
            rw [hQ]
            exact q_v F hr hlk (I24, J25, R26, L27) hP hD hS ⟨hvI, hvR, hsI, hsR, (show (((I24 6).toInt = 0 ∧ ¬ (I0 2).toInt = 0) → (I0 3).toInt < (I24 3).toInt) from by omega), (show ((I24 3).toInt ≤ (I24 4).toInt) from by omega), (show ((I24 4).toInt ≤ (I0 1).toInt) from by omega), (show ((¬ (I24 2).toInt = 0) → (I24 3).toInt < (I24 4).toInt) from by omega), (show ((¬ (I0 6).toInt = 0) → (¬ (I24 6).toInt = 0)) from by omega), (show ((I0 3).toInt ≤ (I24 3).toInt) from by omega), (show (WK I0 R0 I24 R26) from wkr22)⟩ dX12_others_94 (Nat.le_of_ble_eq_true rfl) (Nat.le_of_ble_eq_true rfl)
        · have gc12 : ¬ (r10.toInt = 0) := fun q0 => c12 (Int32.toInt_inj.mp q0)
          refine lv_aload_n hx hb dX12_others_61 rfl (lv_at hl 0 rfl) ?_
          refine wvv (As := []) (rest := []) (b := (g 45)) (d := 4) F hK hP hD hS hA (s_X12_standing l G g q I0 J0 R0 L0 hvI hvR   (by omega) (by omega) (by omega)) kmV_X12_standing mlX12_426 clX12 rfl 0 (Wm_at0 G g q I0 J0 R0 L0) ⟨(Nat.le_of_ble_eq_true rfl), (Nat.le_of_ble_eq_true rfl)⟩ hl.1 rfl (Nat.le_of_ble_eq_true rfl) dX12_others_62 (fun u29 H locs hwr28 hP hD hS => ?_)
          obtain ⟨I30, J31, R32, L33⟩ := u29
          replace hP : va_P G.1 vwCl (Wm G g q I30 J31 R32 L33) H := hP
          replace hD : va_D A (Wm G g q I30 J31 R32 L33) := hD
          obtain ⟨hvI, hvR, tIr28, tRr28, F0r28, F1r28, F2r28, F3r28, F4r28, F5r28⟩ := hwr28
          replace F0r28 : (((I30 6).toInt = 0 ∧ ¬ (I0 2).toInt = 0) → (I0 3).toInt < (I30 3).toInt) := F0r28
          replace F1r28 : ((I30 3).toInt ≤ (I30 4).toInt) := F1r28
          replace F2r28 : ((I30 4).toInt ≤ (I0 1).toInt) := F2r28
          replace F3r28 : ((¬ (I30 2).toInt = 0) → (I30 3).toInt < (I30 4).toInt) := F3r28
          replace F4r28 : ((¬ (I0 6).toInt = 0) → (¬ (I30 6).toInt = 0)) := F4r28
          replace F5r28 : ((I0 3).toInt ≤ (I30 3).toInt) := F5r28
          replace hvI : InvI Wm_lo Wm_hi I30 := hvI
          replace hvR : InvR Wm_rl R32 := hvR
          replace tIr28 : SmF ([2, 3, 4, 5, 6, 7] : List Nat) I0 I30 := tIr28
          replace tRr28 : SmF ([21] : List Nat) R0 R32 := tRr28
          have hv_I30 := hvI
          have hsI := smF_tr hsI tIr28 (by decide)
          have hsR := smF_tr hsR tRr28 (by decide)
          have u_I30_1 : (I30 1).toInt = (I0 1).toInt := congrArg Int32.toInt (tIr28 1 rfl)
          have w_I30_2 := rg (hvI 2 (by decide)) (0) (3) rfl rfl
          have w_I30_3 := rg (hvI 3 (by decide)) (0) (1800) rfl rfl
          have w_I30_4 := rg (hvI 4 (by decide)) (0) (1800) rfl rfl
          have w_I30_6 := rg (hvI 6 (by decide)) (0) (5) rfl rfl
          have u_I30_11 : (I30 11).toInt = (I0 11).toInt := congrArg Int32.toInt (tIr28 11 rfl)
          have wkr28 := wk_sm (wk_rf I0 R0) (congrArg Int32.toInt (tIr28 12 rfl)) (congrArg Int32.toInt (tIr28 11 rfl)) (fun h => Decidable.byContradiction (fun z => F4r28 z h)) F5r28 (tRr28 22 rfl) (tRr28 23 rfl) (tRr28 24 rfl) (tRr28 25 rfl) (tRr28 26 rfl)
          have nr28_0 : ((I30 3).toInt ≤ (I30 4).toInt) := by omega
          have nr28_1 : ((I30 4).toInt ≤ (I0 1).toInt) := by omega
          have nr28_2 : ((¬ (I30 2).toInt = 0) → (I30 3).toInt < (I30 4).toInt) := by omega
          have nr28_3 : ((¬ (I0 6).toInt = 0) → (¬ (I30 6).toInt = 0)) := by omega
          have nr28_4 : ((I0 3).toInt ≤ (I30 3).toInt) := by omega
          clear F1r28 F2r28 F3r28 F4r28 F5r28
          refine lv_goto (tgt := 94) hx hb dX12_others_65 (by decide) ?_
          rw [hQ]
          exact q_v F hr hlk (I30, J31, R32, L33) hP hD hS ⟨hvI, hvR, hsI, hsR, (show (((I30 6).toInt = 0 ∧ ¬ (I0 2).toInt = 0) → (I0 3).toInt < (I30 3).toInt) from by omega), (show ((I30 3).toInt ≤ (I30 4).toInt) from by omega), (show ((I30 4).toInt ≤ (I0 1).toInt) from by omega), (show ((¬ (I30 2).toInt = 0) → (I30 3).toInt < (I30 4).toInt) from by omega), (show ((¬ (I0 6).toInt = 0) → (¬ (I30 6).toInt = 0)) from by omega), (show ((I0 3).toInt ≤ (I30 3).toInt) from by omega), (show (WK I0 R0 I30 R32) from wkr28)⟩ dX12_others_94 (Nat.le_of_ble_eq_true rfl) (Nat.le_of_ble_eq_true rfl)
      · have gc9 : ¬ (r7.toInt = 0) := fun q0 => c9 (Int32.toInt_inj.mp q0)
        refine lv_aload_n hx hb dX12_others_44 rfl (lv_at hl 0 rfl) ?_
        refine wvv (As := []) (rest := []) (b := (g 45)) (d := 4) F hK hP hD hS hA (s_X12_turning l G g q I0 J0 R0 L0 hvI hvR   (by omega) (by omega) (by omega)) kmV_X12_turning mlX12_423 clX12 rfl 0 (Wm_at0 G g q I0 J0 R0 L0) ⟨(Nat.le_of_ble_eq_true rfl), (Nat.le_of_ble_eq_true rfl)⟩ hl.1 rfl (Nat.le_of_ble_eq_true rfl) dX12_others_45 (fun u35 H locs hwr34 hP hD hS => ?_)
        obtain ⟨I36, J37, R38, L39⟩ := u35
        replace hP : va_P G.1 vwCl (Wm G g q I36 J37 R38 L39) H := hP
        replace hD : va_D A (Wm G g q I36 J37 R38 L39) := hD
        obtain ⟨hvI, hvR, tIr34, tRr34, F0r34, F1r34, F2r34, F3r34, F4r34, F5r34⟩ := hwr34
        replace F0r34 : (((I36 6).toInt = 0 ∧ ¬ (I0 2).toInt = 0) → (I0 3).toInt < (I36 3).toInt) := F0r34
        replace F1r34 : ((I36 3).toInt ≤ (I36 4).toInt) := F1r34
        replace F2r34 : ((I36 4).toInt ≤ (I0 1).toInt) := F2r34
        replace F3r34 : ((¬ (I36 2).toInt = 0) → (I36 3).toInt < (I36 4).toInt) := F3r34
        replace F4r34 : ((¬ (I0 6).toInt = 0) → (¬ (I36 6).toInt = 0)) := F4r34
        replace F5r34 : ((I0 3).toInt ≤ (I36 3).toInt) := F5r34
        replace hvI : InvI Wm_lo Wm_hi I36 := hvI
        replace hvR : InvR Wm_rl R38 := hvR
        replace tIr34 : SmF ([2, 3, 4, 5, 6, 7] : List Nat) I0 I36 := tIr34
        replace tRr34 : SmF ([14] : List Nat) R0 R38 := tRr34
        have hv_I36 := hvI
        have hsI := smF_tr hsI tIr34 (by decide)
        have hsR := smF_tr hsR tRr34 (by decide)
        have u_I36_1 : (I36 1).toInt = (I0 1).toInt := congrArg Int32.toInt (tIr34 1 rfl)
        have w_I36_2 := rg (hvI 2 (by decide)) (0) (3) rfl rfl
        have w_I36_3 := rg (hvI 3 (by decide)) (0) (1800) rfl rfl
        have w_I36_4 := rg (hvI 4 (by decide)) (0) (1800) rfl rfl
        have w_I36_6 := rg (hvI 6 (by decide)) (0) (5) rfl rfl
        have u_I36_11 : (I36 11).toInt = (I0 11).toInt := congrArg Int32.toInt (tIr34 11 rfl)
        have wkr34 := wk_sm (wk_rf I0 R0) (congrArg Int32.toInt (tIr34 12 rfl)) (congrArg Int32.toInt (tIr34 11 rfl)) (fun h => Decidable.byContradiction (fun z => F4r34 z h)) F5r34 (tRr34 22 rfl) (tRr34 23 rfl) (tRr34 24 rfl) (tRr34 25 rfl) (tRr34 26 rfl)
        have nr34_0 : ((I36 3).toInt ≤ (I36 4).toInt) := by omega
        have nr34_1 : ((I36 4).toInt ≤ (I0 1).toInt) := by omega
        have nr34_2 : ((¬ (I36 2).toInt = 0) → (I36 3).toInt < (I36 4).toInt) := by omega
        have nr34_3 : ((¬ (I0 6).toInt = 0) → (¬ (I36 6).toInt = 0)) := by omega
        have nr34_4 : ((I0 3).toInt ≤ (I36 3).toInt) := by omega
        clear F1r34 F2r34 F3r34 F4r34 F5r34
        refine lv_goto (tgt := 94) hx hb dX12_others_48 (by decide) ?_
        rw [hQ]
        exact q_v F hr hlk (I36, J37, R38, L39) hP hD hS ⟨hvI, hvR, hsI, hsR, (show (((I36 6).toInt = 0 ∧ ¬ (I0 2).toInt = 0) → (I0 3).toInt < (I36 3).toInt) from by omega), (show ((I36 3).toInt ≤ (I36 4).toInt) from by omega), (show ((I36 4).toInt ≤ (I0 1).toInt) from by omega), (show ((¬ (I36 2).toInt = 0) → (I36 3).toInt < (I36 4).toInt) from by omega), (show ((¬ (I0 6).toInt = 0) → (¬ (I36 6).toInt = 0)) from by omega), (show ((I0 3).toInt ≤ (I36 3).toInt) from by omega), (show (WK I0 R0 I36 R38) from wkr34)⟩ dX12_others_94 (Nat.le_of_ble_eq_true rfl) (Nat.le_of_ble_eq_true rfl)
    · have gc6 : ¬ (r4.toInt = 0) := fun q0 => c6 (Int32.toInt_inj.mp q0)
      refine lv_aload_n hx hb dX12_others_27 rfl (lv_at hl 0 rfl) ?_
      refine wvv (As := []) (rest := []) (b := (g 45)) (d := 4) F hK hP hD hS hA (s_X12_meeting l G g q I0 J0 R0 L0 hvI hvR   (by omega) (by omega) (by omega)) kmV_X12_meeting mlX12_420 clX12 rfl 0 (Wm_at0 G g q I0 J0 R0 L0) ⟨(Nat.le_of_ble_eq_true rfl), (Nat.le_of_ble_eq_true rfl)⟩ hl.1 rfl (Nat.le_of_ble_eq_true rfl) dX12_others_28 (fun u41 H locs hwr40 hP hD hS => ?_)
      obtain ⟨I42, J43, R44, L45⟩ := u41
      replace hP : va_P G.1 vwCl (Wm G g q I42 J43 R44 L45) H := hP
      replace hD : va_D A (Wm G g q I42 J43 R44 L45) := hD
      obtain ⟨hvI, hvR, tIr40, tRr40, F0r40, F1r40, F2r40, F3r40, F4r40, F5r40⟩ := hwr40
      replace F0r40 : (((I42 6).toInt = 0 ∧ ¬ (I0 2).toInt = 0) → (I0 3).toInt < (I42 3).toInt) := F0r40
      replace F1r40 : ((I42 3).toInt ≤ (I42 4).toInt) := F1r40
      replace F2r40 : ((I42 4).toInt ≤ (I0 1).toInt) := F2r40
      replace F3r40 : ((¬ (I42 2).toInt = 0) → (I42 3).toInt < (I42 4).toInt) := F3r40
      replace F4r40 : ((¬ (I0 6).toInt = 0) → (¬ (I42 6).toInt = 0)) := F4r40
      replace F5r40 : ((I0 3).toInt ≤ (I42 3).toInt) := F5r40
      replace hvI : InvI Wm_lo Wm_hi I42 := hvI
      replace hvR : InvR Wm_rl R44 := hvR
      replace tIr40 : SmF ([2, 3, 4, 5, 6, 7] : List Nat) I0 I42 := tIr40
      replace tRr40 : SmF ([6] : List Nat) R0 R44 := tRr40
      have hv_I42 := hvI
      have hsI := smF_tr hsI tIr40 (by decide)
      have hsR := smF_tr hsR tRr40 (by decide)
      have u_I42_1 : (I42 1).toInt = (I0 1).toInt := congrArg Int32.toInt (tIr40 1 rfl)
      have w_I42_2 := rg (hvI 2 (by decide)) (0) (3) rfl rfl
      have w_I42_3 := rg (hvI 3 (by decide)) (0) (1800) rfl rfl
      have w_I42_4 := rg (hvI 4 (by decide)) (0) (1800) rfl rfl
      have w_I42_6 := rg (hvI 6 (by decide)) (0) (5) rfl rfl
      have u_I42_11 : (I42 11).toInt = (I0 11).toInt := congrArg Int32.toInt (tIr40 11 rfl)
      have wkr40 := wk_sm (wk_rf I0 R0) (congrArg Int32.toInt (tIr40 12 rfl)) (congrArg Int32.toInt (tIr40 11 rfl)) (fun h => Decidable.byContradiction (fun z => F4r40 z h)) F5r40 (tRr40 22 rfl) (tRr40 23 rfl) (tRr40 24 rfl) (tRr40 25 rfl) (tRr40 26 rfl)
      have nr40_0 : ((I42 3).toInt ≤ (I42 4).toInt) := by omega
      have nr40_1 : ((I42 4).toInt ≤ (I0 1).toInt) := by omega
      have nr40_2 : ((¬ (I42 2).toInt = 0) → (I42 3).toInt < (I42 4).toInt) := by omega
      have nr40_3 : ((¬ (I0 6).toInt = 0) → (¬ (I42 6).toInt = 0)) := by omega
      have nr40_4 : ((I0 3).toInt ≤ (I42 3).toInt) := by omega
      clear F1r40 F2r40 F3r40 F4r40 F5r40
      refine lv_goto (tgt := 94) hx hb dX12_others_31 (by decide) ?_
      rw [hQ]
      exact q_v F hr hlk (I42, J43, R44, L45) hP hD hS ⟨hvI, hvR, hsI, hsR, (show (((I42 6).toInt = 0 ∧ ¬ (I0 2).toInt = 0) → (I0 3).toInt < (I42 3).toInt) from by omega), (show ((I42 3).toInt ≤ (I42 4).toInt) from by omega), (show ((I42 4).toInt ≤ (I0 1).toInt) from by omega), (show ((¬ (I42 2).toInt = 0) → (I42 3).toInt < (I42 4).toInt) from by omega), (show ((¬ (I0 6).toInt = 0) → (¬ (I42 6).toInt = 0)) from by omega), (show ((I0 3).toInt ≤ (I42 3).toInt) from by omega), (show (WK I0 R0 I42 R44) from wkr40)⟩ dX12_others_94 (Nat.le_of_ble_eq_true rfl) (Nat.le_of_ble_eq_true rfl)
  · have gc3 : ¬ (r1.toInt = 0) := fun q0 => c3 (Int32.toInt_inj.mp q0)
    refine lv_aload_n hx hb dX12_others_10 rfl (lv_at hl 0 rfl) ?_
    refine wvv (As := []) (rest := []) (b := (g 45)) (d := 4) F hK hP hD hS hA (s_X12_owns l G g q I0 J0 R0 L0 hvI hvR   (by omega) (by omega) (by omega)) kmV_X12_owns mlX12_417 clX12 rfl 0 (Wm_at0 G g q I0 J0 R0 L0) ⟨(Nat.le_of_ble_eq_true rfl), (Nat.le_of_ble_eq_true rfl)⟩ hl.1 rfl (Nat.le_of_ble_eq_true rfl) dX12_others_11 (fun u47 H locs hwr46 hP hD hS => ?_)
    obtain ⟨I48, J49, R50, L51⟩ := u47
    replace hP : va_P G.1 vwCl (Wm G g q I48 J49 R50 L51) H := hP
    replace hD : va_D A (Wm G g q I48 J49 R50 L51) := hD
    obtain ⟨hvI, hvR, tIr46, tRr46, F0r46, F1r46, F2r46, F3r46, F4r46, F5r46⟩ := hwr46
    replace F0r46 : (((I48 6).toInt = 0 ∧ ¬ (I0 2).toInt = 0) → (I0 3).toInt < (I48 3).toInt) := F0r46
    replace F1r46 : ((I48 3).toInt ≤ (I48 4).toInt) := F1r46
    replace F2r46 : ((I48 4).toInt ≤ (I0 1).toInt) := F2r46
    replace F3r46 : ((¬ (I48 2).toInt = 0) → (I48 3).toInt < (I48 4).toInt) := F3r46
    replace F4r46 : ((¬ (I0 6).toInt = 0) → (¬ (I48 6).toInt = 0)) := F4r46
    replace F5r46 : ((I0 3).toInt ≤ (I48 3).toInt) := F5r46
    replace hvI : InvI Wm_lo Wm_hi I48 := hvI
    replace hvR : InvR Wm_rl R50 := hvR
    replace tIr46 : SmF ([2, 3, 4, 5, 6, 7] : List Nat) I0 I48 := tIr46
    replace tRr46 : SmF ([13] : List Nat) R0 R50 := tRr46
    have hv_I48 := hvI
    have hsI := smF_tr hsI tIr46 (by decide)
    have hsR := smF_tr hsR tRr46 (by decide)
    have u_I48_1 : (I48 1).toInt = (I0 1).toInt := congrArg Int32.toInt (tIr46 1 rfl)
    have w_I48_2 := rg (hvI 2 (by decide)) (0) (3) rfl rfl
    have w_I48_3 := rg (hvI 3 (by decide)) (0) (1800) rfl rfl
    have w_I48_4 := rg (hvI 4 (by decide)) (0) (1800) rfl rfl
    have w_I48_6 := rg (hvI 6 (by decide)) (0) (5) rfl rfl
    have u_I48_11 : (I48 11).toInt = (I0 11).toInt := congrArg Int32.toInt (tIr46 11 rfl)
    have wkr46 := wk_sm (wk_rf I0 R0) (congrArg Int32.toInt (tIr46 12 rfl)) (congrArg Int32.toInt (tIr46 11 rfl)) (fun h => Decidable.byContradiction (fun z => F4r46 z h)) F5r46 (tRr46 22 rfl) (tRr46 23 rfl) (tRr46 24 rfl) (tRr46 25 rfl) (tRr46 26 rfl)
    have nr46_0 : ((I48 3).toInt ≤ (I48 4).toInt) := by omega
    have nr46_1 : ((I48 4).toInt ≤ (I0 1).toInt) := by omega
    have nr46_2 : ((¬ (I48 2).toInt = 0) → (I48 3).toInt < (I48 4).toInt) := by omega
    have nr46_3 : ((¬ (I0 6).toInt = 0) → (¬ (I48 6).toInt = 0)) := by omega
    have nr46_4 : ((I0 3).toInt ≤ (I48 3).toInt) := by omega
    clear F1r46 F2r46 F3r46 F4r46 F5r46
    refine lv_goto (tgt := 94) hx hb dX12_others_14 (by decide) ?_
    rw [hQ]
    exact q_v F hr hlk (I48, J49, R50, L51) hP hD hS ⟨hvI, hvR, hsI, hsR, (show (((I48 6).toInt = 0 ∧ ¬ (I0 2).toInt = 0) → (I0 3).toInt < (I48 3).toInt) from by omega), (show ((I48 3).toInt ≤ (I48 4).toInt) from by omega), (show ((I48 4).toInt ≤ (I0 1).toInt) from by omega), (show ((¬ (I48 2).toInt = 0) → (I48 3).toInt < (I48 4).toInt) from by omega), (show ((¬ (I0 6).toInt = 0) → (¬ (I48 6).toInt = 0)) from by omega), (show ((I0 3).toInt ≤ (I48 3).toInt) from by omega), (show (WK I0 R0 I48 R50) from wkr46)⟩ dX12_others_94 (Nat.le_of_ble_eq_true rfl) (Nat.le_of_ble_eq_true rfl)
set_option maxHeartbeats 4000000 in
set_option maxRecDepth 100000 in
theorem s_X12_statement (l : Launch) (G : Gx) (g q : Nat → Nat) (I0 : Nat → Int32) (J0 : Nat → Int64) (R0 : Nat → Nat → Int32) (L0 : Nat → Nat → Int64) (hvI : InvI Wm_lo Wm_hi I0) (hvR : InvR Wm_rl R0)   (hpre0 : ((I0 3).toInt ≤ (I0 4).toInt)) (hpre1 : ((I0 4).toInt ≤ (I0 1).toInt)) (hpre2 : ((¬ (I0 2).toInt = 0) → (I0 3).toInt < (I0 4).toInt)) (hpre3 : ((I0 11).toInt ≤ (I0 3).toInt)) : CtV (S := St) l yX12_statement cX12_statement 1 none (rmD 8 0 0) G [.ref (g 45)] (Wm G g q I0 J0 R0 L0) (fun u => InvI Wm_lo Wm_hi u.1 ∧ InvR Wm_rl u.2.2.1 ∧ SmF ([2, 3, 4, 5, 6, 7, 11, 13, 14, 15, 16] : List Nat) I0 u.1 ∧ SmF (1 :: 2 :: 3 :: 4 :: 5 :: 6 :: 7 :: 8 :: 9 :: 10 :: 11 :: 12 :: 13 :: 14 :: 15 :: 16 :: 17 :: 18 :: 19 :: 20 :: 21 :: 22 :: 23 :: 24 :: 25 :: 26 :: 27 :: 28 :: 29 :: 30 :: 31 :: 32 :: 33 :: [] : List Nat) R0 u.2.2.1 ∧ (((u.1 6).toInt = 0 ∧ ¬ (I0 2).toInt = 0) → (I0 3).toInt < (u.1 3).toInt) ∧ ((u.1 3).toInt ≤ (u.1 4).toInt) ∧ ((u.1 4).toInt ≤ (I0 1).toInt) ∧ ((¬ (u.1 2).toInt = 0) → (u.1 3).toInt < (u.1 4).toInt) ∧ ((¬ (I0 6).toInt = 0) → (¬ (u.1 6).toInt = 0)) ∧ ((I0 3).toInt ≤ (u.1 3).toInt) ∧ (WK I0 R0 u.1 u.2.2.1)) (fun u => Wm G g q u.1 u.2.1 u.2.2.1 u.2.2.2) := by
  refine ctV_of (own := RX12) (by decide +kernel) rfl (Nat.le_of_ble_eq_true rfl) ?_
  intro p e s m below meth c A ls F hr hlk hnm hK hP hD hA hS hl
  have hx := F.1
  have hb := F.2.1
  have hown := F.2.2.2.1
  have hl : lv_has ls 1 [(0, .ref (g 45))] := hl
  obtain ⟨Q, hQ⟩ : ∃ Q : State → Prop, Q = MQ below (va_Qv (S := St) (fun u => InvI Wm_lo Wm_hi u.1 ∧ InvR Wm_rl u.2.2.1 ∧ SmF ([2, 3, 4, 5, 6, 7, 11, 13, 14, 15, 16] : List Nat) I0 u.1 ∧ SmF (1 :: 2 :: 3 :: 4 :: 5 :: 6 :: 7 :: 8 :: 9 :: 10 :: 11 :: 12 :: 13 :: 14 :: 15 :: 16 :: 17 :: 18 :: 19 :: 20 :: 21 :: 22 :: 23 :: 24 :: 25 :: 26 :: 27 :: 28 :: 29 :: 30 :: 31 :: 32 :: 33 :: [] : List Nat) R0 u.2.2.1 ∧ (((u.1 6).toInt = 0 ∧ ¬ (I0 2).toInt = 0) → (I0 3).toInt < (u.1 3).toInt) ∧ ((u.1 3).toInt ≤ (u.1 4).toInt) ∧ ((u.1 4).toInt ≤ (I0 1).toInt) ∧ ((¬ (u.1 2).toInt = 0) → (u.1 3).toInt < (u.1 4).toInt) ∧ ((¬ (I0 6).toInt = 0) → (¬ (u.1 6).toInt = 0)) ∧ ((I0 3).toInt ≤ (u.1 3).toInt) ∧ (WK I0 R0 u.1 u.2.2.1)) (BX G A (fun u => Wm G g q u.1 u.2.1 u.2.2.1 u.2.2.2)) A) [.ref (g 45)].toArray s 0 0 A := ⟨_, rfl⟩
  rw [show (MQ below (va_Qv (S := St) (fun u => InvI Wm_lo Wm_hi u.1 ∧ InvR Wm_rl u.2.2.1 ∧ SmF ([2, 3, 4, 5, 6, 7, 11, 13, 14, 15, 16] : List Nat) I0 u.1 ∧ SmF (1 :: 2 :: 3 :: 4 :: 5 :: 6 :: 7 :: 8 :: 9 :: 10 :: 11 :: 12 :: 13 :: 14 :: 15 :: 16 :: 17 :: 18 :: 19 :: 20 :: 21 :: 22 :: 23 :: 24 :: 25 :: 26 :: 27 :: 28 :: 29 :: 30 :: 31 :: 32 :: 33 :: [] : List Nat) R0 u.2.2.1 ∧ (((u.1 6).toInt = 0 ∧ ¬ (I0 2).toInt = 0) → (I0 3).toInt < (u.1 3).toInt) ∧ ((u.1 3).toInt ≤ (u.1 4).toInt) ∧ ((u.1 4).toInt ≤ (I0 1).toInt) ∧ ((¬ (u.1 2).toInt = 0) → (u.1 3).toInt < (u.1 4).toInt) ∧ ((¬ (I0 6).toInt = 0) → (¬ (u.1 6).toInt = 0)) ∧ ((I0 3).toInt ≤ (u.1 3).toInt) ∧ (WK I0 R0 u.1 u.2.2.1)) (BX G A (fun u => Wm G g q u.1 u.2.1 u.2.2.1 u.2.2.2)) A) [.ref (g 45)].toArray s (rmD 8 0 0).cells (rmD 8 0 0).slots A) = Q from hQ.symm]
  have hsI := smF_rf ([2, 3, 4, 5, 6, 7, 11, 13, 14, 15, 16] : List Nat) I0
  have hsR := smF_rf (1 :: 2 :: 3 :: 4 :: 5 :: 6 :: 7 :: 8 :: 9 :: 10 :: 11 :: 12 :: 13 :: 14 :: 15 :: 16 :: 17 :: 18 :: 19 :: 20 :: 21 :: 22 :: 23 :: 24 :: 25 :: 26 :: 27 :: 28 :: 29 :: 30 :: 31 :: 32 :: 33 :: [] : List Nat) R0
  have hvI0 := hvI
  have lab_140 : ∀  (I_140 : Nat → Int32) (J_140 : Nat → Int64) (R_140 : Nat → Nat → Int32) (L_140 : Nat → Nat → Int64) (H : Heap) (locs : List Loc) (ls : Array Slot), InvI Wm_lo Wm_hi I_140 → InvR Wm_rl R_140 → SmF ([2, 3, 4, 5, 6, 7, 11, 13, 14, 15, 16] : List Nat) I0 I_140 → SmF (1 :: 2 :: 3 :: 4 :: 5 :: 6 :: 7 :: 8 :: 9 :: 10 :: 11 :: 12 :: 13 :: 14 :: 15 :: 16 :: 17 :: 18 :: 19 :: 20 :: 21 :: 22 :: 23 :: 24 :: 25 :: 26 :: 27 :: 28 :: 29 :: 30 :: 31 :: 32 :: 33 :: [] : List Nat) R0 R_140 → (((I_140 6).toInt = 0 ∧ ¬ (I0 2).toInt = 0) → (I0 3).toInt < (I_140 3).toInt) → ((I_140 3).toInt ≤ (I_140 4).toInt) → ((I_140 4).toInt ≤ (I0 1).toInt) → ((¬ (I_140 2).toInt = 0) → (I_140 3).toInt < (I_140 4).toInt) → ((¬ (I0 6).toInt = 0) → (¬ (I_140 6).toInt = 0)) → ((I0 3).toInt ≤ (I_140 3).toInt) → (WK I0 R0 I_140 R_140) → va_P G.1 vwCl (Wm G g q I_140 J_140 R_140 L_140) H → va_D A (Wm G g q I_140 J_140 R_140 L_140) → va_S A s.heap H locs → lv_has ls 1 [(0, .ref (g 45))] → W p l e (rmD 8 0 0) s m [.ref (g 45)].toArray below meth c H locs 0 0 Q (F0 m 140 ls []) := by
    intro I_140 J_140 R_140 L_140 H locs ls hvI hvR hsI hsR z0_140 z1_140 z2_140 z3_140 z4_140 z5_140 xl0_140 hP hD hS hl
    have hv_I_140 := hvI
    have w_I_140_1 := rg (hvI 1 (by decide)) (0) (1800) rfl rfl
    have v_I_140_1 : (I_140 1).toInt = (I0 1).toInt := congrArg Int32.toInt (hsI 1 rfl)
    have w_I_140_2 := rg (hvI 2 (by decide)) (0) (3) rfl rfl
    have w_I_140_3 := rg (hvI 3 (by decide)) (0) (1800) rfl rfl
    have w_I_140_4 := rg (hvI 4 (by decide)) (0) (1800) rfl rfl
    have w_I_140_6 := rg (hvI 6 (by decide)) (0) (5) rfl rfl
    have w_I_140_11 := rg (hvI 11 (by decide)) (0) (1800) rfl rfl
    refine lv_aload_n hx hb dX12_statement_140 rfl (lv_at hl 0 rfl) ?_
    refine g_get F hK hP 0 (Wm_at0 G g q I_140 J_140 R_140 L_140) clX12 8 (by decide) flX12_36 rfl dX12_statement_141 ?_
    have w_I_140_6 := rg (hv_I_140 6 (by decide)) (0) (5) rfl rfl
    refine lv_if_ne (tgt := 153) hx hb dX12_statement_144 (by decide) (fun c1 => ?_) (fun c1 => ?_)
    · have gc1 : ¬ ((I_140 6).toInt = 0) := fun q0 => c1 (Int32.toInt_inj.mp q0)
      rw [hQ]
      exact q_v F hr hlk (I_140, J_140, R_140, L_140) hP hD hS ⟨hvI, hvR, hsI, hsR, (show (((I_140 6).toInt = 0 ∧ ¬ (I0 2).toInt = 0) → (I0 3).toInt < (I_140 3).toInt) from by omega), (show ((I_140 3).toInt ≤ (I_140 4).toInt) from by omega), (show ((I_140 4).toInt ≤ (I0 1).toInt) from by omega), (show ((¬ (I_140 2).toInt = 0) → (I_140 3).toInt < (I_140 4).toInt) from by omega), (show ((¬ (I0 6).toInt = 0) → (¬ (I_140 6).toInt = 0)) from by omega), (show ((I0 3).toInt ≤ (I_140 3).toInt) from by omega), (show (WK I0 R0 I_140 R_140) from xl0_140)⟩ dX12_statement_153 (Nat.le_of_ble_eq_true rfl) (Nat.le_of_ble_eq_true rfl)
    · have gc1 : (I_140 6).toInt = 0 := congrArg Int32.toInt c1
      refine lv_aload_n hx hb dX12_statement_147 rfl (lv_at hl 0 rfl) ?_
      refine lv_bipush (v := 59) hx hb dX12_statement_148 (by decide) ?_
      refine wvv (As := [.int 59]) (rest := []) (b := (g 45)) (d := 3) F hK hP hD hS hA (s_X12_must l G g q I_140 J_140 R_140 L_140 hvI hvR  59 (by decide) (by omega) (by omega) (by omega)) kmV_X12_must mlX12_415 clX12 rfl 0 (Wm_at0 G g q I_140 J_140 R_140 L_140) ⟨(Nat.le_of_ble_eq_true rfl), (Nat.le_of_ble_eq_true rfl)⟩ hl.1 rfl (Nat.le_of_ble_eq_true rfl) dX12_statement_150 (fun u3 H locs hwr2 hP hD hS => ?_)
      obtain ⟨I4, J5, R6, L7⟩ := u3
      replace hP : va_P G.1 vwCl (Wm G g q I4 J5 R6 L7) H := hP
      replace hD : va_D A (Wm G g q I4 J5 R6 L7) := hD
      obtain ⟨hvI, hvR, tIr2, tRr2, F0r2, F1r2, F2r2, F3r2, F4r2⟩ := hwr2
      replace F0r2 : ((I4 3).toInt ≤ (I4 4).toInt) := F0r2
      replace F1r2 : ((I4 4).toInt ≤ (I_140 1).toInt) := F1r2
      replace F2r2 : ((¬ (I4 2).toInt = 0) → (I4 3).toInt < (I4 4).toInt) := F2r2
      replace F3r2 : ((¬ (I_140 6).toInt = 0) → (¬ (I4 6).toInt = 0)) := F3r2
      replace F4r2 : ((I_140 3).toInt ≤ (I4 3).toInt) := F4r2
      replace hvI : InvI Wm_lo Wm_hi I4 := hvI
      replace hvR : InvR Wm_rl R6 := hvR
      replace tIr2 : SmF ([2, 3, 4, 5, 6, 7] : List Nat) I_140 I4 := tIr2
      replace tRr2 : SmF ([] : List Nat) R_140 R6 := tRr2
      have hv_I4 := hvI
      have hsI := smF_tr hsI tIr2 (by decide)
      have hsR := smF_tr hsR tRr2 (by decide)
      have u_I4_1 : (I4 1).toInt = (I_140 1).toInt := congrArg Int32.toInt (tIr2 1 rfl)
      have w_I4_2 := rg (hvI 2 (by decide)) (0) (3) rfl rfl
      have w_I4_3 := rg (hvI 3 (by decide)) (0) (1800) rfl rfl
      have w_I4_4 := rg (hvI 4 (by decide)) (0) (1800) rfl rfl
      have w_I4_6 := rg (hvI 6 (by decide)) (0) (5) rfl rfl
      have u_I4_11 : (I4 11).toInt = (I_140 11).toInt := congrArg Int32.toInt (tIr2 11 rfl)
      have wkr2 := wk_sm xl0_140 (congrArg Int32.toInt (tIr2 12 rfl)) (congrArg Int32.toInt (tIr2 11 rfl)) (fun h => Decidable.byContradiction (fun z => F3r2 z h)) F4r2 (tRr2 22 rfl) (tRr2 23 rfl) (tRr2 24 rfl) (tRr2 25 rfl) (tRr2 26 rfl)
      have nr2_0 : ((I4 3).toInt ≤ (I4 4).toInt) := by omega
      have nr2_1 : ((I4 4).toInt ≤ (I0 1).toInt) := by omega
      have nr2_2 : ((¬ (I4 2).toInt = 0) → (I4 3).toInt < (I4 4).toInt) := by omega
      have nr2_3 : ((¬ (I0 6).toInt = 0) → (¬ (I4 6).toInt = 0)) := by omega
      have nr2_4 : ((I0 3).toInt ≤ (I4 3).toInt) := by omega
      have nr2_5 : (((I4 6).toInt = 0 ∧ ¬ (I0 2).toInt = 0) → (I0 3).toInt < (I4 3).toInt) := by omega
      clear z1_140 z2_140 z3_140 z4_140 z5_140 F0r2 F1r2 F2r2 F3r2 F4r2
      rw [hQ]
      exact q_v F hr hlk (I4, J5, R6, L7) hP hD hS ⟨hvI, hvR, hsI, hsR, (show (((I4 6).toInt = 0 ∧ ¬ (I0 2).toInt = 0) → (I0 3).toInt < (I4 3).toInt) from by omega), (show ((I4 3).toInt ≤ (I4 4).toInt) from by omega), (show ((I4 4).toInt ≤ (I0 1).toInt) from by omega), (show ((¬ (I4 2).toInt = 0) → (I4 3).toInt < (I4 4).toInt) from by omega), (show ((¬ (I0 6).toInt = 0) → (¬ (I4 6).toInt = 0)) from by omega), (show ((I0 3).toInt ≤ (I4 3).toInt) from by omega), (show (WK I0 R0 I4 R6) from wkr2)⟩ dX12_statement_153 (Nat.le_of_ble_eq_true rfl) (Nat.le_of_ble_eq_true rfl)
  have w_I0_1 := rg (hvI 1 (by decide)) (0) (1800) rfl rfl
  have w_I0_2 := rg (hvI 2 (by decide)) (0) (3) rfl rfl
  have w_I0_3 := rg (hvI 3 (by decide)) (0) (1800) rfl rfl
  have w_I0_4 := rg (hvI 4 (by decide)) (0) (1800) rfl rfl
  have w_I0_6 := rg (hvI 6 (by decide)) (0) (5) rfl rfl
  have w_I0_11 := rg (hvI 11 (by decide)) (0) (1800) rfl rfl
  refine lv_aload_n hx hb dX12_statement_0 rfl (lv_at hl 0 rfl) ?_
  refine lv_ldc2 hx hb hown (F.2.2.2.2 _ clX12_250) dX12_statement_1 ?_
  refine wvi (As := [.long 439905906546]) (rest := []) (b := (g 45)) (d := 1) F hK hP hD hS hA (s_X12_isWord l G g q I0 J0 R0 L0 hvI hvR  439905906546 ) kmV_X12_isWord mlX12_332 clX12 rfl 0 (Wm_at0 G g q I0 J0 R0 L0) ⟨(Nat.le_of_ble_eq_true rfl), (Nat.le_of_ble_eq_true rfl)⟩ hl.1 rfl (Nat.le_of_ble_eq_true rfl) dX12_statement_4 (fun r8 u9 H locs hwr8 hP hD hS => ?_)
  have F0r8 := hwr8
  replace F0r8 : ((0 : Int) ≤ r8.toInt ∧ r8.toInt ≤ (1 : Int)) := F0r8
  refine lv_if_eq (tgt := 17) hx hb dX12_statement_7 (by decide) (fun c10 => ?_) (fun c10 => ?_)
  · have gc10 : r8.toInt = 0 := congrArg Int32.toInt c10
    refine lv_aload_n hx hb dX12_statement_17 rfl (lv_at hl 0 rfl) ?_
    refine lv_ldc2 hx hb hown (F.2.2.2.2 _ clX12_258) dX12_statement_18 ?_
    refine wvi (As := [.long 1952801133]) (rest := []) (b := (g 45)) (d := 1) F hK hP hD hS hA (s_X12_isWord l G g q I0 J0 R0 L0 hvI hvR  1952801133 ) kmV_X12_isWord mlX12_332 clX12 rfl 0 (Wm_at0 G g q I0 J0 R0 L0) ⟨(Nat.le_of_ble_eq_true rfl), (Nat.le_of_ble_eq_true rfl)⟩ hl.1 rfl (Nat.le_of_ble_eq_true rfl) dX12_statement_21 (fun r11 u12 H locs hwr11 hP hD hS => ?_)
    have F0r11 := hwr11
    replace F0r11 : ((0 : Int) ≤ r11.toInt ∧ r11.toInt ≤ (1 : Int)) := F0r11
    refine lv_if_eq (tgt := 34) hx hb dX12_statement_24 (by decide) (fun c13 => ?_) (fun c13 => ?_)
    · have gc13 : r11.toInt = 0 := congrArg Int32.toInt c13
      refine lv_aload_n hx hb dX12_statement_34 rfl (lv_at hl 0 rfl) ?_
      refine lv_ldc2 hx hb hown (F.2.2.2.2 _ clX12_260) dX12_statement_35 ?_
      refine wvi (As := [.long 123581014175598]) (rest := []) (b := (g 45)) (d := 1) F hK hP hD hS hA (s_X12_isWord l G g q I0 J0 R0 L0 hvI hvR  123581014175598 ) kmV_X12_isWord mlX12_332 clX12 rfl 0 (Wm_at0 G g q I0 J0 R0 L0) ⟨(Nat.le_of_ble_eq_true rfl), (Nat.le_of_ble_eq_true rfl)⟩ hl.1 rfl (Nat.le_of_ble_eq_true rfl) dX12_statement_38 (fun r14 u15 H locs hwr14 hP hD hS => ?_)
      have F0r14 := hwr14
      replace F0r14 : ((0 : Int) ≤ r14.toInt ∧ r14.toInt ≤ (1 : Int)) := F0r14
      refine lv_if_eq (tgt := 51) hx hb dX12_statement_41 (by decide) (fun c16 => ?_) (fun c16 => ?_)
      · have gc16 : r14.toInt = 0 := congrArg Int32.toInt c16
        refine lv_aload_n hx hb dX12_statement_51 rfl (lv_at hl 0 rfl) ?_
        refine lv_ldc2 hx hb hown (F.2.2.2.2 _ clX12_264) dX12_statement_52 ?_
        refine wvi (As := [.long 109270115708788]) (rest := []) (b := (g 45)) (d := 1) F hK hP hD hS hA (s_X12_isWord l G g q I0 J0 R0 L0 hvI hvR  109270115708788 ) kmV_X12_isWord mlX12_332 clX12 rfl 0 (Wm_at0 G g q I0 J0 R0 L0) ⟨(Nat.le_of_ble_eq_true rfl), (Nat.le_of_ble_eq_true rfl)⟩ hl.1 rfl (Nat.le_of_ble_eq_true rfl) dX12_statement_55 (fun r17 u18 H locs hwr17 hP hD hS => ?_)
        have F0r17 := hwr17
        replace F0r17 : ((0 : Int) ≤ r17.toInt ∧ r17.toInt ≤ (1 : Int)) := F0r17
        refine lv_if_eq (tgt := 68) hx hb dX12_statement_58 (by decide) (fun c19 => ?_) (fun c19 => ?_)
        · have gc19 : r17.toInt = 0 := congrArg Int32.toInt c19
          refine lv_aload_n hx hb dX12_statement_68 rfl (lv_at hl 0 rfl) ?_
          refine lv_ldc2 hx hb hown (F.2.2.2.2 _ clX12_266) dX12_statement_69 ?_
          refine wvi (As := [.long 465625113971]) (rest := []) (b := (g 45)) (d := 1) F hK hP hD hS hA (s_X12_isWord l G g q I0 J0 R0 L0 hvI hvR  465625113971 ) kmV_X12_isWord mlX12_332 clX12 rfl 0 (Wm_at0 G g q I0 J0 R0 L0) ⟨(Nat.le_of_ble_eq_true rfl), (Nat.le_of_ble_eq_true rfl)⟩ hl.1 rfl (Nat.le_of_ble_eq_true rfl) dX12_statement_72 (fun r20 u21 H locs hwr20 hP hD hS => ?_)
          have F0r20 := hwr20
          replace F0r20 : ((0 : Int) ≤ r20.toInt ∧ r20.toInt ≤ (1 : Int)) := F0r20
          refine lv_if_eq (tgt := 85) hx hb dX12_statement_75 (by decide) (fun c22 => ?_) (fun c22 => ?_)
          · have gc22 : r20.toInt = 0 := congrArg Int32.toInt c22
            refine lv_aload_n hx hb dX12_statement_85 rfl (lv_at hl 0 rfl) ?_
            refine lv_ldc2 hx hb hown (F.2.2.2.2 _ clX12_268) dX12_statement_86 ?_
            refine wvi (As := [.long 7629157]) (rest := []) (b := (g 45)) (d := 1) F hK hP hD hS hA (s_X12_isWord l G g q I0 J0 R0 L0 hvI hvR  7629157 ) kmV_X12_isWord mlX12_332 clX12 rfl 0 (Wm_at0 G g q I0 J0 R0 L0) ⟨(Nat.le_of_ble_eq_true rfl), (Nat.le_of_ble_eq_true rfl)⟩ hl.1 rfl (Nat.le_of_ble_eq_true rfl) dX12_statement_89 (fun r23 u24 H locs hwr23 hP hD hS => ?_)
            have F0r23 := hwr23
            replace F0r23 : ((0 : Int) ≤ r23.toInt ∧ r23.toInt ≤ (1 : Int)) := F0r23
            refine lv_if_eq (tgt := 102) hx hb dX12_statement_92 (by decide) (fun c25 => ?_) (fun c25 => ?_)
            · have gc25 : r23.toInt = 0 := congrArg Int32.toInt c25
              refine lv_aload_n hx hb dX12_statement_102 rfl (lv_at hl 0 rfl) ?_
              refine lv_ldc2 hx hb hown (F.2.2.2.2 _ clX12_270) dX12_statement_103 ?_
              refine wvi (As := [.long 427071202675]) (rest := []) (b := (g 45)) (d := 1) F hK hP hD hS hA (s_X12_isWord l G g q I0 J0 R0 L0 hvI hvR  427071202675 ) kmV_X12_isWord mlX12_332 clX12 rfl 0 (Wm_at0 G g q I0 J0 R0 L0) ⟨(Nat.le_of_ble_eq_true rfl), (Nat.le_of_ble_eq_true rfl)⟩ hl.1 rfl (Nat.le_of_ble_eq_true rfl) dX12_statement_106 (fun r26 u27 H locs hwr26 hP hD hS => ?_)
              have F0r26 := hwr26
              replace F0r26 : ((0 : Int) ≤ r26.toInt ∧ r26.toInt ≤ (1 : Int)) := F0r26
              refine lv_if_eq (tgt := 119) hx hb dX12_statement_109 (by decide) (fun c28 => ?_) (fun c28 => ?_)
              · have gc28 : r26.toInt = 0 := congrArg Int32.toInt c28
                refine lv_aload_n hx hb dX12_statement_119 rfl (lv_at hl 0 rfl) ?_
                refine lv_ldc2 hx hb hown (F.2.2.2.2 _ clX12_272) dX12_statement_120 ?_
                refine wvi (As := [.long 508575312244]) (rest := []) (b := (g 45)) (d := 1) F hK hP hD hS hA (s_X12_isWord l G g q I0 J0 R0 L0 hvI hvR  508575312244 ) kmV_X12_isWord mlX12_332 clX12 rfl 0 (Wm_at0 G g q I0 J0 R0 L0) ⟨(Nat.le_of_ble_eq_true rfl), (Nat.le_of_ble_eq_true rfl)⟩ hl.1 rfl (Nat.le_of_ble_eq_true rfl) dX12_statement_123 (fun r29 u30 H locs hwr29 hP hD hS => ?_)
                have F0r29 := hwr29
                replace F0r29 : ((0 : Int) ≤ r29.toInt ∧ r29.toInt ≤ (1 : Int)) := F0r29
                refine lv_if_eq (tgt := 136) hx hb dX12_statement_126 (by decide) (fun c31 => ?_) (fun c31 => ?_)
                · have gc31 : r29.toInt = 0 := congrArg Int32.toInt c31
                  refine lv_aload_n hx hb dX12_statement_136 rfl (lv_at hl 0 rfl) ?_
                  refine wvv (As := []) (rest := []) (b := (g 45)) (d := 7) F hK hP hD hS hA (s_X12_others l G g q I0 J0 R0 L0 hvI hvR   (by omega) (by omega) (by omega) (by omega)) kmV_X12_others mlX12_412 clX12 rfl 0 (Wm_at0 G g q I0 J0 R0 L0) ⟨(Nat.le_of_ble_eq_true rfl), (Nat.le_of_ble_eq_true rfl)⟩ hl.1 rfl (Nat.le_of_ble_eq_true rfl) dX12_statement_137 (fun u33 H locs hwr32 hP hD hS => ?_)
                  obtain ⟨I34, J35, R36, L37⟩ := u33
                  replace hP : va_P G.1 vwCl (Wm G g q I34 J35 R36 L37) H := hP
                  replace hD : va_D A (Wm G g q I34 J35 R36 L37) := hD
                  obtain ⟨hvI, hvR, tIr32, tRr32, F0r32, F1r32, F2r32, F3r32, F4r32, F5r32, F6r32⟩ := hwr32
                  replace F0r32 : (((I34 6).toInt = 0 ∧ ¬ (I0 2).toInt = 0) → (I0 3).toInt < (I34 3).toInt) := F0r32
                  replace F1r32 : ((I34 3).toInt ≤ (I34 4).toInt) := F1r32
                  replace F2r32 : ((I34 4).toInt ≤ (I0 1).toInt) := F2r32
                  replace F3r32 : ((¬ (I34 2).toInt = 0) → (I34 3).toInt < (I34 4).toInt) := F3r32
                  replace F4r32 : ((¬ (I0 6).toInt = 0) → (¬ (I34 6).toInt = 0)) := F4r32
                  replace F5r32 : ((I0 3).toInt ≤ (I34 3).toInt) := F5r32
                  replace F6r32 : (WK I0 R0 I34 R36) := F6r32
                  replace hvI : InvI Wm_lo Wm_hi I34 := hvI
                  replace hvR : InvR Wm_rl R36 := hvR
                  replace tIr32 : SmF ([2, 3, 4, 5, 6, 7, 11, 13, 14, 15, 16] : List Nat) I0 I34 := tIr32
                  replace tRr32 : SmF ([6, 13, 14, 21, 22, 23, 24, 25, 26, 27, 28, 29, 30, 31, 32, 33] : List Nat) R0 R36 := tRr32
                  have hv_I34 := hvI
                  have hsI := smF_tr hsI tIr32 (by decide)
                  have hsR := smF_tr hsR tRr32 (by decide)
                  have u_I34_1 : (I34 1).toInt = (I0 1).toInt := congrArg Int32.toInt (tIr32 1 rfl)
                  have w_I34_2 := rg (hvI 2 (by decide)) (0) (3) rfl rfl
                  have w_I34_3 := rg (hvI 3 (by decide)) (0) (1800) rfl rfl
                  have w_I34_4 := rg (hvI 4 (by decide)) (0) (1800) rfl rfl
                  have w_I34_6 := rg (hvI 6 (by decide)) (0) (5) rfl rfl
                  have w_I34_11 := rg (hvI 11 (by decide)) (0) (1800) rfl rfl
                  have wkr32 := wk_tr (wk_rf I0 R0) F6r32
                  have nr32_0 : ((I34 3).toInt ≤ (I34 4).toInt) := by omega
                  have nr32_1 : ((I34 4).toInt ≤ (I0 1).toInt) := by omega
                  have nr32_2 : ((¬ (I34 2).toInt = 0) → (I34 3).toInt < (I34 4).toInt) := by omega
                  have nr32_3 : ((¬ (I0 6).toInt = 0) → (¬ (I34 6).toInt = 0)) := by omega
                  have nr32_4 : ((I0 3).toInt ≤ (I34 3).toInt) := by omega
                  clear F1r32 F2r32 F3r32 F4r32 F5r32
                  exact lab_140  I34 J35 R36 L37 _ _ _ hvI hvR hsI hsR (show (((I34 6).toInt = 0 ∧ ¬ (I0 2).toInt = 0) → (I0 3).toInt < (I34 3).toInt) from by omega) (show ((I34 3).toInt ≤ (I34 4).toInt) from by omega) (show ((I34 4).toInt ≤ (I0 1).toInt) from by omega) (show ((¬ (I34 2).toInt = 0) → (I34 3).toInt < (I34 4).toInt) from by omega) (show ((¬ (I0 6).toInt = 0) → (¬ (I34 6).toInt = 0)) from by omega) (show ((I0 3).toInt ≤ (I34 3).toInt) from by omega) (show (WK I0 R0 I34 R36) from wkr32) hP hD hS (lv_sub hl [0] rfl)
                · have gc31 : ¬ (r29.toInt = 0) := fun q0 => c31 (Int32.toInt_inj.mp q0)
                  refine lv_aload_n hx hb dX12_statement_129 rfl (lv_at hl 0 rfl) ?_
                  refine wvv (As := []) (rest := []) (b := (g 45)) (d := 4) F hK hP hD hS hA (s_X12_visit l G g q I0 J0 R0 L0 hvI hvR   (by omega) (by omega) (by omega)) kmV_X12_visit mlX12_409 clX12 rfl 0 (Wm_at0 G g q I0 J0 R0 L0) ⟨(Nat.le_of_ble_eq_true rfl), (Nat.le_of_ble_eq_true rfl)⟩ hl.1 rfl (Nat.le_of_ble_eq_true rfl) dX12_statement_130 (fun u39 H locs hwr38 hP hD hS => ?_)
                  obtain ⟨I40, J41, R42, L43⟩ := u39
                  replace hP : va_P G.1 vwCl (Wm G g q I40 J41 R42 L43) H := hP
                  replace hD : va_D A (Wm G g q I40 J41 R42 L43) := hD
                  obtain ⟨hvI, hvR, tIr38, tRr38, F0r38, F1r38, F2r38, F3r38, F4r38, F5r38⟩ := hwr38
                  replace F0r38 : (((I40 6).toInt = 0 ∧ ¬ (I0 2).toInt = 0) → (I0 3).toInt < (I40 3).toInt) := F0r38
                  replace F1r38 : ((I40 3).toInt ≤ (I40 4).toInt) := F1r38
                  replace F2r38 : ((I40 4).toInt ≤ (I0 1).toInt) := F2r38
                  replace F3r38 : ((¬ (I40 2).toInt = 0) → (I40 3).toInt < (I40 4).toInt) := F3r38
                  replace F4r38 : ((¬ (I0 6).toInt = 0) → (¬ (I40 6).toInt = 0)) := F4r38
                  replace F5r38 : ((I0 3).toInt ≤ (I40 3).toInt) := F5r38
                  replace hvI : InvI Wm_lo Wm_hi I40 := hvI
                  replace hvR : InvR Wm_rl R42 := hvR
                  replace tIr38 : SmF ([2, 3, 4, 5, 6, 7] : List Nat) I0 I40 := tIr38
                  replace tRr38 : SmF ([19, 20] : List Nat) R0 R42 := tRr38
                  have hv_I40 := hvI
                  have hsI := smF_tr hsI tIr38 (by decide)
                  have hsR := smF_tr hsR tRr38 (by decide)
                  have u_I40_1 : (I40 1).toInt = (I0 1).toInt := congrArg Int32.toInt (tIr38 1 rfl)
                  have w_I40_2 := rg (hvI 2 (by decide)) (0) (3) rfl rfl
                  have w_I40_3 := rg (hvI 3 (by decide)) (0) (1800) rfl rfl
                  have w_I40_4 := rg (hvI 4 (by decide)) (0) (1800) rfl rfl
                  have w_I40_6 := rg (hvI 6 (by decide)) (0) (5) rfl rfl
                  have u_I40_11 : (I40 11).toInt = (I0 11).toInt := congrArg Int32.toInt (tIr38 11 rfl)
                  have wkr38 := wk_sm (wk_rf I0 R0) (congrArg Int32.toInt (tIr38 12 rfl)) (congrArg Int32.toInt (tIr38 11 rfl)) (fun h => Decidable.byContradiction (fun z => F4r38 z h)) F5r38 (tRr38 22 rfl) (tRr38 23 rfl) (tRr38 24 rfl) (tRr38 25 rfl) (tRr38 26 rfl)
                  have nr38_0 : ((I40 3).toInt ≤ (I40 4).toInt) := by omega
                  have nr38_1 : ((I40 4).toInt ≤ (I0 1).toInt) := by omega
                  have nr38_2 : ((¬ (I40 2).toInt = 0) → (I40 3).toInt < (I40 4).toInt) := by omega
                  have nr38_3 : ((¬ (I0 6).toInt = 0) → (¬ (I40 6).toInt = 0)) := by omega
                  have nr38_4 : ((I0 3).toInt ≤ (I40 3).toInt) := by omega
                  clear F1r38 F2r38 F3r38 F4r38 F5r38
                  refine lv_goto (tgt := 140) hx hb dX12_statement_133 (by decide) ?_
                  exact lab_140  I40 J41 R42 L43 _ _ _ hvI hvR hsI hsR (show (((I40 6).toInt = 0 ∧ ¬ (I0 2).toInt = 0) → (I0 3).toInt < (I40 3).toInt) from by omega) (show ((I40 3).toInt ≤ (I40 4).toInt) from by omega) (show ((I40 4).toInt ≤ (I0 1).toInt) from by omega) (show ((¬ (I40 2).toInt = 0) → (I40 3).toInt < (I40 4).toInt) from by omega) (show ((¬ (I0 6).toInt = 0) → (¬ (I40 6).toInt = 0)) from by omega) (show ((I0 3).toInt ≤ (I40 3).toInt) from by omega) (show (WK I0 R0 I40 R42) from wkr38) hP hD hS (lv_sub hl [0] rfl)
              · have gc28 : ¬ (r26.toInt = 0) := fun q0 => c28 (Int32.toInt_inj.mp q0)
                refine lv_aload_n hx hb dX12_statement_112 rfl (lv_at hl 0 rfl) ?_
                refine wvv (As := []) (rest := []) (b := (g 45)) (d := 4) F hK hP hD hS hA (s_X12_coming l G g q I0 J0 R0 L0 hvI hvR   (by omega) (by omega) (by omega)) kmV_X12_coming mlX12_406 clX12 rfl 0 (Wm_at0 G g q I0 J0 R0 L0) ⟨(Nat.le_of_ble_eq_true rfl), (Nat.le_of_ble_eq_true rfl)⟩ hl.1 rfl (Nat.le_of_ble_eq_true rfl) dX12_statement_113 (fun u45 H locs hwr44 hP hD hS => ?_)
                obtain ⟨I46, J47, R48, L49⟩ := u45
                replace hP : va_P G.1 vwCl (Wm G g q I46 J47 R48 L49) H := hP
                replace hD : va_D A (Wm G g q I46 J47 R48 L49) := hD
                obtain ⟨hvI, hvR, tIr44, tRr44, F0r44, F1r44, F2r44, F3r44, F4r44, F5r44⟩ := hwr44
                replace F0r44 : (((I46 6).toInt = 0 ∧ ¬ (I0 2).toInt = 0) → (I0 3).toInt < (I46 3).toInt) := F0r44
                replace F1r44 : ((I46 3).toInt ≤ (I46 4).toInt) := F1r44
                replace F2r44 : ((I46 4).toInt ≤ (I0 1).toInt) := F2r44
                replace F3r44 : ((¬ (I46 2).toInt = 0) → (I46 3).toInt < (I46 4).toInt) := F3r44
                replace F4r44 : ((¬ (I0 6).toInt = 0) → (¬ (I46 6).toInt = 0)) := F4r44
                replace F5r44 : ((I0 3).toInt ≤ (I46 3).toInt) := F5r44
                replace hvI : InvI Wm_lo Wm_hi I46 := hvI
                replace hvR : InvR Wm_rl R48 := hvR
                replace tIr44 : SmF ([2, 3, 4, 5, 6, 7] : List Nat) I0 I46 := tIr44
                replace tRr44 : SmF ([12] : List Nat) R0 R48 := tRr44
                have hv_I46 := hvI
                have hsI := smF_tr hsI tIr44 (by decide)
                have hsR := smF_tr hsR tRr44 (by decide)
                have u_I46_1 : (I46 1).toInt = (I0 1).toInt := congrArg Int32.toInt (tIr44 1 rfl)
                have w_I46_2 := rg (hvI 2 (by decide)) (0) (3) rfl rfl
                have w_I46_3 := rg (hvI 3 (by decide)) (0) (1800) rfl rfl
                have w_I46_4 := rg (hvI 4 (by decide)) (0) (1800) rfl rfl
                have w_I46_6 := rg (hvI 6 (by decide)) (0) (5) rfl rfl
                have u_I46_11 : (I46 11).toInt = (I0 11).toInt := congrArg Int32.toInt (tIr44 11 rfl)
                have wkr44 := wk_sm (wk_rf I0 R0) (congrArg Int32.toInt (tIr44 12 rfl)) (congrArg Int32.toInt (tIr44 11 rfl)) (fun h => Decidable.byContradiction (fun z => F4r44 z h)) F5r44 (tRr44 22 rfl) (tRr44 23 rfl) (tRr44 24 rfl) (tRr44 25 rfl) (tRr44 26 rfl)
                have nr44_0 : ((I46 3).toInt ≤ (I46 4).toInt) := by omega
                have nr44_1 : ((I46 4).toInt ≤ (I0 1).toInt) := by omega
                have nr44_2 : ((¬ (I46 2).toInt = 0) → (I46 3).toInt < (I46 4).toInt) := by omega
                have nr44_3 : ((¬ (I0 6).toInt = 0) → (¬ (I46 6).toInt = 0)) := by omega
                have nr44_4 : ((I0 3).toInt ≤ (I46 3).toInt) := by omega
                clear F1r44 F2r44 F3r44 F4r44 F5r44
                refine lv_goto (tgt := 140) hx hb dX12_statement_116 (by decide) ?_
                exact lab_140  I46 J47 R48 L49 _ _ _ hvI hvR hsI hsR (show (((I46 6).toInt = 0 ∧ ¬ (I0 2).toInt = 0) → (I0 3).toInt < (I46 3).toInt) from by omega) (show ((I46 3).toInt ≤ (I46 4).toInt) from by omega) (show ((I46 4).toInt ≤ (I0 1).toInt) from by omega) (show ((¬ (I46 2).toInt = 0) → (I46 3).toInt < (I46 4).toInt) from by omega) (show ((¬ (I0 6).toInt = 0) → (¬ (I46 6).toInt = 0)) from by omega) (show ((I0 3).toInt ≤ (I46 3).toInt) from by omega) (show (WK I0 R0 I46 R48) from wkr44) hP hD hS (lv_sub hl [0] rfl)
            · have gc25 : ¬ (r23.toInt = 0) := fun q0 => c25 (Int32.toInt_inj.mp q0)
              refine lv_aload_n hx hb dX12_statement_95 rfl (lv_at hl 0 rfl) ?_
              refine wvv (As := []) (rest := []) (b := (g 45)) (d := 4) F hK hP hD hS hA (s_X12_tie l G g q I0 J0 R0 L0 hvI hvR   (by omega) (by omega) (by omega)) kmV_X12_tie mlX12_403 clX12 rfl 0 (Wm_at0 G g q I0 J0 R0 L0) ⟨(Nat.le_of_ble_eq_true rfl), (Nat.le_of_ble_eq_true rfl)⟩ hl.1 rfl (Nat.le_of_ble_eq_true rfl) dX12_statement_96 (fun u51 H locs hwr50 hP hD hS => ?_)
              obtain ⟨I52, J53, R54, L55⟩ := u51
              replace hP : va_P G.1 vwCl (Wm G g q I52 J53 R54 L55) H := hP
              replace hD : va_D A (Wm G g q I52 J53 R54 L55) := hD
              obtain ⟨hvI, hvR, tIr50, tRr50, F0r50, F1r50, F2r50, F3r50, F4r50, F5r50⟩ := hwr50
              replace F0r50 : (((I52 6).toInt = 0 ∧ ¬ (I0 2).toInt = 0) → (I0 3).toInt < (I52 3).toInt) := F0r50
              replace F1r50 : ((I52 3).toInt ≤ (I52 4).toInt) := F1r50
              replace F2r50 : ((I52 4).toInt ≤ (I0 1).toInt) := F2r50
              replace F3r50 : ((¬ (I52 2).toInt = 0) → (I52 3).toInt < (I52 4).toInt) := F3r50
              replace F4r50 : ((¬ (I0 6).toInt = 0) → (¬ (I52 6).toInt = 0)) := F4r50
              replace F5r50 : ((I0 3).toInt ≤ (I52 3).toInt) := F5r50
              replace hvI : InvI Wm_lo Wm_hi I52 := hvI
              replace hvR : InvR Wm_rl R54 := hvR
              replace tIr50 : SmF ([2, 3, 4, 5, 6, 7] : List Nat) I0 I52 := tIr50
              replace tRr50 : SmF ([15, 16, 17, 18] : List Nat) R0 R54 := tRr50
              have hv_I52 := hvI
              have hsI := smF_tr hsI tIr50 (by decide)
              have hsR := smF_tr hsR tRr50 (by decide)
              have u_I52_1 : (I52 1).toInt = (I0 1).toInt := congrArg Int32.toInt (tIr50 1 rfl)
              have w_I52_2 := rg (hvI 2 (by decide)) (0) (3) rfl rfl
              have w_I52_3 := rg (hvI 3 (by decide)) (0) (1800) rfl rfl
              have w_I52_4 := rg (hvI 4 (by decide)) (0) (1800) rfl rfl
              have w_I52_6 := rg (hvI 6 (by decide)) (0) (5) rfl rfl
              have u_I52_11 : (I52 11).toInt = (I0 11).toInt := congrArg Int32.toInt (tIr50 11 rfl)
              have wkr50 := wk_sm (wk_rf I0 R0) (congrArg Int32.toInt (tIr50 12 rfl)) (congrArg Int32.toInt (tIr50 11 rfl)) (fun h => Decidable.byContradiction (fun z => F4r50 z h)) F5r50 (tRr50 22 rfl) (tRr50 23 rfl) (tRr50 24 rfl) (tRr50 25 rfl) (tRr50 26 rfl)
              have nr50_0 : ((I52 3).toInt ≤ (I52 4).toInt) := by omega
              have nr50_1 : ((I52 4).toInt ≤ (I0 1).toInt) := by omega
              have nr50_2 : ((¬ (I52 2).toInt = 0) → (I52 3).toInt < (I52 4).toInt) := by omega
              have nr50_3 : ((¬ (I0 6).toInt = 0) → (¬ (I52 6).toInt = 0)) := by omega
              have nr50_4 : ((I0 3).toInt ≤ (I52 3).toInt) := by omega
              clear F1r50 F2r50 F3r50 F4r50 F5r50
              refine lv_goto (tgt := 140) hx hb dX12_statement_99 (by decide) ?_
              exact lab_140  I52 J53 R54 L55 _ _ _ hvI hvR hsI hsR (show (((I52 6).toInt = 0 ∧ ¬ (I0 2).toInt = 0) → (I0 3).toInt < (I52 3).toInt) from by omega) (show ((I52 3).toInt ≤ (I52 4).toInt) from by omega) (show ((I52 4).toInt ≤ (I0 1).toInt) from by omega) (show ((¬ (I52 2).toInt = 0) → (I52 3).toInt < (I52 4).toInt) from by omega) (show ((¬ (I0 6).toInt = 0) → (¬ (I52 6).toInt = 0)) from by omega) (show ((I0 3).toInt ≤ (I52 3).toInt) from by omega) (show (WK I0 R0 I52 R54) from wkr50) hP hD hS (lv_sub hl [0] rfl)
          · have gc22 : ¬ (r20.toInt = 0) := fun q0 => c22 (Int32.toInt_inj.mp q0)
            refine lv_aload_n hx hb dX12_statement_78 rfl (lv_at hl 0 rfl) ?_
            refine wvv (As := []) (rest := []) (b := (g 45)) (d := 4) F hK hP hD hS hA (s_X12_liking l G g q I0 J0 R0 L0 hvI hvR   (by omega) (by omega) (by omega)) kmV_X12_liking mlX12_400 clX12 rfl 0 (Wm_at0 G g q I0 J0 R0 L0) ⟨(Nat.le_of_ble_eq_true rfl), (Nat.le_of_ble_eq_true rfl)⟩ hl.1 rfl (Nat.le_of_ble_eq_true rfl) dX12_statement_79 (fun u57 H locs hwr56 hP hD hS => ?_)
            obtain ⟨I58, J59, R60, L61⟩ := u57
            replace hP : va_P G.1 vwCl (Wm G g q I58 J59 R60 L61) H := hP
            replace hD : va_D A (Wm G g q I58 J59 R60 L61) := hD
            obtain ⟨hvI, hvR, tIr56, tRr56, F0r56, F1r56, F2r56, F3r56, F4r56, F5r56⟩ := hwr56
            replace F0r56 : (((I58 6).toInt = 0 ∧ ¬ (I0 2).toInt = 0) → (I0 3).toInt < (I58 3).toInt) := F0r56
            replace F1r56 : ((I58 3).toInt ≤ (I58 4).toInt) := F1r56
            replace F2r56 : ((I58 4).toInt ≤ (I0 1).toInt) := F2r56
            replace F3r56 : ((¬ (I58 2).toInt = 0) → (I58 3).toInt < (I58 4).toInt) := F3r56
            replace F4r56 : ((¬ (I0 6).toInt = 0) → (¬ (I58 6).toInt = 0)) := F4r56
            replace F5r56 : ((I0 3).toInt ≤ (I58 3).toInt) := F5r56
            replace hvI : InvI Wm_lo Wm_hi I58 := hvI
            replace hvR : InvR Wm_rl R60 := hvR
            replace tIr56 : SmF ([2, 3, 4, 5, 6, 7] : List Nat) I0 I58 := tIr56
            replace tRr56 : SmF ([11] : List Nat) R0 R60 := tRr56
            have hv_I58 := hvI
            have hsI := smF_tr hsI tIr56 (by decide)
            have hsR := smF_tr hsR tRr56 (by decide)
            have u_I58_1 : (I58 1).toInt = (I0 1).toInt := congrArg Int32.toInt (tIr56 1 rfl)
            have w_I58_2 := rg (hvI 2 (by decide)) (0) (3) rfl rfl
            have w_I58_3 := rg (hvI 3 (by decide)) (0) (1800) rfl rfl
            have w_I58_4 := rg (hvI 4 (by decide)) (0) (1800) rfl rfl
            have w_I58_6 := rg (hvI 6 (by decide)) (0) (5) rfl rfl
            have u_I58_11 : (I58 11).toInt = (I0 11).toInt := congrArg Int32.toInt (tIr56 11 rfl)
            have wkr56 := wk_sm (wk_rf I0 R0) (congrArg Int32.toInt (tIr56 12 rfl)) (congrArg Int32.toInt (tIr56 11 rfl)) (fun h => Decidable.byContradiction (fun z => F4r56 z h)) F5r56 (tRr56 22 rfl) (tRr56 23 rfl) (tRr56 24 rfl) (tRr56 25 rfl) (tRr56 26 rfl)
            have nr56_0 : ((I58 3).toInt ≤ (I58 4).toInt) := by omega
            have nr56_1 : ((I58 4).toInt ≤ (I0 1).toInt) := by omega
            have nr56_2 : ((¬ (I58 2).toInt = 0) → (I58 3).toInt < (I58 4).toInt) := by omega
            have nr56_3 : ((¬ (I0 6).toInt = 0) → (¬ (I58 6).toInt = 0)) := by omega
            have nr56_4 : ((I0 3).toInt ≤ (I58 3).toInt) := by omega
            clear F1r56 F2r56 F3r56 F4r56 F5r56
            refine lv_goto (tgt := 140) hx hb dX12_statement_82 (by decide) ?_
            exact lab_140  I58 J59 R60 L61 _ _ _ hvI hvR hsI hsR (show (((I58 6).toInt = 0 ∧ ¬ (I0 2).toInt = 0) → (I0 3).toInt < (I58 3).toInt) from by omega) (show ((I58 3).toInt ≤ (I58 4).toInt) from by omega) (show ((I58 4).toInt ≤ (I0 1).toInt) from by omega) (show ((¬ (I58 2).toInt = 0) → (I58 3).toInt < (I58 4).toInt) from by omega) (show ((¬ (I0 6).toInt = 0) → (¬ (I58 6).toInt = 0)) from by omega) (show ((I0 3).toInt ≤ (I58 3).toInt) from by omega) (show (WK I0 R0 I58 R60) from wkr56) hP hD hS (lv_sub hl [0] rfl)
        · have gc19 : ¬ (r17.toInt = 0) := fun q0 => c19 (Int32.toInt_inj.mp q0)
          refine lv_aload_n hx hb dX12_statement_61 rfl (lv_at hl 0 rfl) ?_
          refine wvv (As := []) (rest := []) (b := (g 45)) (d := 4) F hK hP hD hS hA (s_X12_cannots l G g q I0 J0 R0 L0 hvI hvR   (by omega) (by omega) (by omega)) kmV_X12_cannots mlX12_397 clX12 rfl 0 (Wm_at0 G g q I0 J0 R0 L0) ⟨(Nat.le_of_ble_eq_true rfl), (Nat.le_of_ble_eq_true rfl)⟩ hl.1 rfl (Nat.le_of_ble_eq_true rfl) dX12_statement_62 (fun u63 H locs hwr62 hP hD hS => ?_)
          obtain ⟨I64, J65, R66, L67⟩ := u63
          replace hP : va_P G.1 vwCl (Wm G g q I64 J65 R66 L67) H := hP
          replace hD : va_D A (Wm G g q I64 J65 R66 L67) := hD
          obtain ⟨hvI, hvR, tIr62, tRr62, F0r62, F1r62, F2r62, F3r62, F4r62, F5r62⟩ := hwr62
          replace F0r62 : (((I64 6).toInt = 0 ∧ ¬ (I0 2).toInt = 0) → (I0 3).toInt < (I64 3).toInt) := F0r62
          replace F1r62 : ((I64 3).toInt ≤ (I64 4).toInt) := F1r62
          replace F2r62 : ((I64 4).toInt ≤ (I0 1).toInt) := F2r62
          replace F3r62 : ((¬ (I64 2).toInt = 0) → (I64 3).toInt < (I64 4).toInt) := F3r62
          replace F4r62 : ((¬ (I0 6).toInt = 0) → (¬ (I64 6).toInt = 0)) := F4r62
          replace F5r62 : ((I0 3).toInt ≤ (I64 3).toInt) := F5r62
          replace hvI : InvI Wm_lo Wm_hi I64 := hvI
          replace hvR : InvR Wm_rl R66 := hvR
          replace tIr62 : SmF ([2, 3, 4, 5, 6, 7] : List Nat) I0 I64 := tIr62
          replace tRr62 : SmF ([10] : List Nat) R0 R66 := tRr62
          have hv_I64 := hvI
          have hsI := smF_tr hsI tIr62 (by decide)
          have hsR := smF_tr hsR tRr62 (by decide)
          have u_I64_1 : (I64 1).toInt = (I0 1).toInt := congrArg Int32.toInt (tIr62 1 rfl)
          have w_I64_2 := rg (hvI 2 (by decide)) (0) (3) rfl rfl
          have w_I64_3 := rg (hvI 3 (by decide)) (0) (1800) rfl rfl
          have w_I64_4 := rg (hvI 4 (by decide)) (0) (1800) rfl rfl
          have w_I64_6 := rg (hvI 6 (by decide)) (0) (5) rfl rfl
          have u_I64_11 : (I64 11).toInt = (I0 11).toInt := congrArg Int32.toInt (tIr62 11 rfl)
          have wkr62 := wk_sm (wk_rf I0 R0) (congrArg Int32.toInt (tIr62 12 rfl)) (congrArg Int32.toInt (tIr62 11 rfl)) (fun h => Decidable.byContradiction (fun z => F4r62 z h)) F5r62 (tRr62 22 rfl) (tRr62 23 rfl) (tRr62 24 rfl) (tRr62 25 rfl) (tRr62 26 rfl)
          have nr62_0 : ((I64 3).toInt ≤ (I64 4).toInt) := by omega
          have nr62_1 : ((I64 4).toInt ≤ (I0 1).toInt) := by omega
          have nr62_2 : ((¬ (I64 2).toInt = 0) → (I64 3).toInt < (I64 4).toInt) := by omega
          have nr62_3 : ((¬ (I0 6).toInt = 0) → (¬ (I64 6).toInt = 0)) := by omega
          have nr62_4 : ((I0 3).toInt ≤ (I64 3).toInt) := by omega
          clear F1r62 F2r62 F3r62 F4r62 F5r62
          refine lv_goto (tgt := 140) hx hb dX12_statement_65 (by decide) ?_
          exact lab_140  I64 J65 R66 L67 _ _ _ hvI hvR hsI hsR (show (((I64 6).toInt = 0 ∧ ¬ (I0 2).toInt = 0) → (I0 3).toInt < (I64 3).toInt) from by omega) (show ((I64 3).toInt ≤ (I64 4).toInt) from by omega) (show ((I64 4).toInt ≤ (I0 1).toInt) from by omega) (show ((¬ (I64 2).toInt = 0) → (I64 3).toInt < (I64 4).toInt) from by omega) (show ((¬ (I0 6).toInt = 0) → (¬ (I64 6).toInt = 0)) from by omega) (show ((I0 3).toInt ≤ (I64 3).toInt) from by omega) (show (WK I0 R0 I64 R66) from wkr62) hP hD hS (lv_sub hl [0] rfl)
      · have gc16 : ¬ (r14.toInt = 0) := fun q0 => c16 (Int32.toInt_inj.mp q0)
        refine lv_aload_n hx hb dX12_statement_44 rfl (lv_at hl 0 rfl) ?_
        refine wvv (As := []) (rest := []) (b := (g 45)) (d := 4) F hK hP hD hS hA (s_X12_person l G g q I0 J0 R0 L0 hvI hvR   (by omega) (by omega) (by omega)) kmV_X12_person mlX12_394 clX12 rfl 0 (Wm_at0 G g q I0 J0 R0 L0) ⟨(Nat.le_of_ble_eq_true rfl), (Nat.le_of_ble_eq_true rfl)⟩ hl.1 rfl (Nat.le_of_ble_eq_true rfl) dX12_statement_45 (fun u69 H locs hwr68 hP hD hS => ?_)
        obtain ⟨I70, J71, R72, L73⟩ := u69
        replace hP : va_P G.1 vwCl (Wm G g q I70 J71 R72 L73) H := hP
        replace hD : va_D A (Wm G g q I70 J71 R72 L73) := hD
        obtain ⟨hvI, hvR, tIr68, tRr68, F0r68, F1r68, F2r68, F3r68, F4r68, F5r68⟩ := hwr68
        replace F0r68 : (((I70 6).toInt = 0 ∧ ¬ (I0 2).toInt = 0) → (I0 3).toInt < (I70 3).toInt) := F0r68
        replace F1r68 : ((I70 3).toInt ≤ (I70 4).toInt) := F1r68
        replace F2r68 : ((I70 4).toInt ≤ (I0 1).toInt) := F2r68
        replace F3r68 : ((¬ (I70 2).toInt = 0) → (I70 3).toInt < (I70 4).toInt) := F3r68
        replace F4r68 : ((¬ (I0 6).toInt = 0) → (¬ (I70 6).toInt = 0)) := F4r68
        replace F5r68 : ((I0 3).toInt ≤ (I70 3).toInt) := F5r68
        replace hvI : InvI Wm_lo Wm_hi I70 := hvI
        replace hvR : InvR Wm_rl R72 := hvR
        replace tIr68 : SmF ([2, 3, 4, 5, 6, 7] : List Nat) I0 I70 := tIr68
        replace tRr68 : SmF ([7, 8, 9, 10, 11, 12, 13, 14] : List Nat) R0 R72 := tRr68
        have hv_I70 := hvI
        have hsI := smF_tr hsI tIr68 (by decide)
        have hsR := smF_tr hsR tRr68 (by decide)
        have u_I70_1 : (I70 1).toInt = (I0 1).toInt := congrArg Int32.toInt (tIr68 1 rfl)
        have w_I70_2 := rg (hvI 2 (by decide)) (0) (3) rfl rfl
        have w_I70_3 := rg (hvI 3 (by decide)) (0) (1800) rfl rfl
        have w_I70_4 := rg (hvI 4 (by decide)) (0) (1800) rfl rfl
        have w_I70_6 := rg (hvI 6 (by decide)) (0) (5) rfl rfl
        have u_I70_11 : (I70 11).toInt = (I0 11).toInt := congrArg Int32.toInt (tIr68 11 rfl)
        have wkr68 := wk_sm (wk_rf I0 R0) (congrArg Int32.toInt (tIr68 12 rfl)) (congrArg Int32.toInt (tIr68 11 rfl)) (fun h => Decidable.byContradiction (fun z => F4r68 z h)) F5r68 (tRr68 22 rfl) (tRr68 23 rfl) (tRr68 24 rfl) (tRr68 25 rfl) (tRr68 26 rfl)
        have nr68_0 : ((I70 3).toInt ≤ (I70 4).toInt) := by omega
        have nr68_1 : ((I70 4).toInt ≤ (I0 1).toInt) := by omega
        have nr68_2 : ((¬ (I70 2).toInt = 0) → (I70 3).toInt < (I70 4).toInt) := by omega
        have nr68_3 : ((¬ (I0 6).toInt = 0) → (¬ (I70 6).toInt = 0)) := by omega
        have nr68_4 : ((I0 3).toInt ≤ (I70 3).toInt) := by omega
        clear F1r68 F2r68 F3r68 F4r68 F5r68
        refine lv_goto (tgt := 140) hx hb dX12_statement_48 (by decide) ?_
        exact lab_140  I70 J71 R72 L73 _ _ _ hvI hvR hsI hsR (show (((I70 6).toInt = 0 ∧ ¬ (I0 2).toInt = 0) → (I0 3).toInt < (I70 3).toInt) from by omega) (show ((I70 3).toInt ≤ (I70 4).toInt) from by omega) (show ((I70 4).toInt ≤ (I0 1).toInt) from by omega) (show ((¬ (I70 2).toInt = 0) → (I70 3).toInt < (I70 4).toInt) from by omega) (show ((¬ (I0 6).toInt = 0) → (¬ (I70 6).toInt = 0)) from by omega) (show ((I0 3).toInt ≤ (I70 3).toInt) from by omega) (show (WK I0 R0 I70 R72) from wkr68) hP hD hS (lv_sub hl [0] rfl)
    · have gc13 : ¬ (r11.toInt = 0) := fun q0 => c13 (Int32.toInt_inj.mp q0)
      refine lv_aload_n hx hb dX12_statement_27 rfl (lv_at hl 0 rfl) ?_
      refine wvv (As := []) (rest := []) (b := (g 45)) (d := 4) F hK hP hD hS hA (s_X12_team l G g q I0 J0 R0 L0 hvI hvR   (by omega) (by omega) (by omega)) kmV_X12_team mlX12_391 clX12 rfl 0 (Wm_at0 G g q I0 J0 R0 L0) ⟨(Nat.le_of_ble_eq_true rfl), (Nat.le_of_ble_eq_true rfl)⟩ hl.1 rfl (Nat.le_of_ble_eq_true rfl) dX12_statement_28 (fun u75 H locs hwr74 hP hD hS => ?_)
      obtain ⟨I76, J77, R78, L79⟩ := u75
      replace hP : va_P G.1 vwCl (Wm G g q I76 J77 R78 L79) H := hP
      replace hD : va_D A (Wm G g q I76 J77 R78 L79) := hD
      obtain ⟨hvI, hvR, tIr74, tRr74, F0r74, F1r74, F2r74, F3r74, F4r74, F5r74⟩ := hwr74
      replace F0r74 : (((I76 6).toInt = 0 ∧ ¬ (I0 2).toInt = 0) → (I0 3).toInt < (I76 3).toInt) := F0r74
      replace F1r74 : ((I76 3).toInt ≤ (I76 4).toInt) := F1r74
      replace F2r74 : ((I76 4).toInt ≤ (I0 1).toInt) := F2r74
      replace F3r74 : ((¬ (I76 2).toInt = 0) → (I76 3).toInt < (I76 4).toInt) := F3r74
      replace F4r74 : ((¬ (I0 6).toInt = 0) → (¬ (I76 6).toInt = 0)) := F4r74
      replace F5r74 : ((I0 3).toInt ≤ (I76 3).toInt) := F5r74
      replace hvI : InvI Wm_lo Wm_hi I76 := hvI
      replace hvR : InvR Wm_rl R78 := hvR
      replace tIr74 : SmF ([2, 3, 4, 5, 6, 7] : List Nat) I0 I76 := tIr74
      replace tRr74 : SmF ([5, 6] : List Nat) R0 R78 := tRr74
      have hv_I76 := hvI
      have hsI := smF_tr hsI tIr74 (by decide)
      have hsR := smF_tr hsR tRr74 (by decide)
      have u_I76_1 : (I76 1).toInt = (I0 1).toInt := congrArg Int32.toInt (tIr74 1 rfl)
      have w_I76_2 := rg (hvI 2 (by decide)) (0) (3) rfl rfl
      have w_I76_3 := rg (hvI 3 (by decide)) (0) (1800) rfl rfl
      have w_I76_4 := rg (hvI 4 (by decide)) (0) (1800) rfl rfl
      have w_I76_6 := rg (hvI 6 (by decide)) (0) (5) rfl rfl
      have u_I76_11 : (I76 11).toInt = (I0 11).toInt := congrArg Int32.toInt (tIr74 11 rfl)
      have wkr74 := wk_sm (wk_rf I0 R0) (congrArg Int32.toInt (tIr74 12 rfl)) (congrArg Int32.toInt (tIr74 11 rfl)) (fun h => Decidable.byContradiction (fun z => F4r74 z h)) F5r74 (tRr74 22 rfl) (tRr74 23 rfl) (tRr74 24 rfl) (tRr74 25 rfl) (tRr74 26 rfl)
      have nr74_0 : ((I76 3).toInt ≤ (I76 4).toInt) := by omega
      have nr74_1 : ((I76 4).toInt ≤ (I0 1).toInt) := by omega
      have nr74_2 : ((¬ (I76 2).toInt = 0) → (I76 3).toInt < (I76 4).toInt) := by omega
      have nr74_3 : ((¬ (I0 6).toInt = 0) → (¬ (I76 6).toInt = 0)) := by omega
      have nr74_4 : ((I0 3).toInt ≤ (I76 3).toInt) := by omega
      clear F1r74 F2r74 F3r74 F4r74 F5r74
      refine lv_goto (tgt := 140) hx hb dX12_statement_31 (by decide) ?_
      exact lab_140  I76 J77 R78 L79 _ _ _ hvI hvR hsI hsR (show (((I76 6).toInt = 0 ∧ ¬ (I0 2).toInt = 0) → (I0 3).toInt < (I76 3).toInt) from by omega) (show ((I76 3).toInt ≤ (I76 4).toInt) from by omega) (show ((I76 4).toInt ≤ (I0 1).toInt) from by omega) (show ((¬ (I76 2).toInt = 0) → (I76 3).toInt < (I76 4).toInt) from by omega) (show ((¬ (I0 6).toInt = 0) → (¬ (I76 6).toInt = 0)) from by omega) (show ((I0 3).toInt ≤ (I76 3).toInt) from by omega) (show (WK I0 R0 I76 R78) from wkr74) hP hD hS (lv_sub hl [0] rfl)
  · have gc10 : ¬ (r8.toInt = 0) := fun q0 => c10 (Int32.toInt_inj.mp q0)
    refine lv_aload_n hx hb dX12_statement_10 rfl (lv_at hl 0 rfl) ?_
    refine wvv (As := []) (rest := []) (b := (g 45)) (d := 4) F hK hP hD hS hA (s_X12_floor l G g q I0 J0 R0 L0 hvI hvR   (by omega) (by omega) (by omega)) kmV_X12_floor mlX12_388 clX12 rfl 0 (Wm_at0 G g q I0 J0 R0 L0) ⟨(Nat.le_of_ble_eq_true rfl), (Nat.le_of_ble_eq_true rfl)⟩ hl.1 rfl (Nat.le_of_ble_eq_true rfl) dX12_statement_11 (fun u81 H locs hwr80 hP hD hS => ?_)
    obtain ⟨I82, J83, R84, L85⟩ := u81
    replace hP : va_P G.1 vwCl (Wm G g q I82 J83 R84 L85) H := hP
    replace hD : va_D A (Wm G g q I82 J83 R84 L85) := hD
    obtain ⟨hvI, hvR, tIr80, tRr80, F0r80, F1r80, F2r80, F3r80, F4r80, F5r80⟩ := hwr80
    replace F0r80 : (((I82 6).toInt = 0 ∧ ¬ (I0 2).toInt = 0) → (I0 3).toInt < (I82 3).toInt) := F0r80
    replace F1r80 : ((I82 3).toInt ≤ (I82 4).toInt) := F1r80
    replace F2r80 : ((I82 4).toInt ≤ (I0 1).toInt) := F2r80
    replace F3r80 : ((¬ (I82 2).toInt = 0) → (I82 3).toInt < (I82 4).toInt) := F3r80
    replace F4r80 : ((¬ (I0 6).toInt = 0) → (¬ (I82 6).toInt = 0)) := F4r80
    replace F5r80 : ((I0 3).toInt ≤ (I82 3).toInt) := F5r80
    replace hvI : InvI Wm_lo Wm_hi I82 := hvI
    replace hvR : InvR Wm_rl R84 := hvR
    replace tIr80 : SmF ([2, 3, 4, 5, 6, 7] : List Nat) I0 I82 := tIr80
    replace tRr80 : SmF ([1, 2, 3, 4] : List Nat) R0 R84 := tRr80
    have hv_I82 := hvI
    have hsI := smF_tr hsI tIr80 (by decide)
    have hsR := smF_tr hsR tRr80 (by decide)
    have u_I82_1 : (I82 1).toInt = (I0 1).toInt := congrArg Int32.toInt (tIr80 1 rfl)
    have w_I82_2 := rg (hvI 2 (by decide)) (0) (3) rfl rfl
    have w_I82_3 := rg (hvI 3 (by decide)) (0) (1800) rfl rfl
    have w_I82_4 := rg (hvI 4 (by decide)) (0) (1800) rfl rfl
    have w_I82_6 := rg (hvI 6 (by decide)) (0) (5) rfl rfl
    have u_I82_11 : (I82 11).toInt = (I0 11).toInt := congrArg Int32.toInt (tIr80 11 rfl)
    have wkr80 := wk_sm (wk_rf I0 R0) (congrArg Int32.toInt (tIr80 12 rfl)) (congrArg Int32.toInt (tIr80 11 rfl)) (fun h => Decidable.byContradiction (fun z => F4r80 z h)) F5r80 (tRr80 22 rfl) (tRr80 23 rfl) (tRr80 24 rfl) (tRr80 25 rfl) (tRr80 26 rfl)
    have nr80_0 : ((I82 3).toInt ≤ (I82 4).toInt) := by omega
    have nr80_1 : ((I82 4).toInt ≤ (I0 1).toInt) := by omega
    have nr80_2 : ((¬ (I82 2).toInt = 0) → (I82 3).toInt < (I82 4).toInt) := by omega
    have nr80_3 : ((¬ (I0 6).toInt = 0) → (¬ (I82 6).toInt = 0)) := by omega
    have nr80_4 : ((I0 3).toInt ≤ (I82 3).toInt) := by omega
    clear F1r80 F2r80 F3r80 F4r80 F5r80
    refine lv_goto (tgt := 140) hx hb dX12_statement_14 (by decide) ?_
    exact lab_140  I82 J83 R84 L85 _ _ _ hvI hvR hsI hsR (show (((I82 6).toInt = 0 ∧ ¬ (I0 2).toInt = 0) → (I0 3).toInt < (I82 3).toInt) from by omega) (show ((I82 3).toInt ≤ (I82 4).toInt) from by omega) (show ((I82 4).toInt ≤ (I0 1).toInt) from by omega) (show ((¬ (I82 2).toInt = 0) → (I82 3).toInt < (I82 4).toInt) from by omega) (show ((¬ (I0 6).toInt = 0) → (¬ (I82 6).toInt = 0)) from by omega) (show ((I0 3).toInt ≤ (I82 3).toInt) from by omega) (show (WK I0 R0 I82 R84) from wkr80) hP hD hS (lv_sub hl [0] rfl)
set_option maxHeartbeats 4000000 in
set_option maxRecDepth 100000 in
theorem s_X12_house (l : Launch) (G : Gx) (g q : Nat → Nat) (I0 : Nat → Int32) (J0 : Nat → Int64) (R0 : Nat → Nat → Int32) (L0 : Nat → Nat → Int64) (hvI : InvI Wm_lo Wm_hi I0) (hvR : InvR Wm_rl R0)   (hWf : WfM I0 R0) : CtI (S := St) l yX12_house cX12_house 3 (some .int) (rmD 9 0 0) G [.ref (g 45)] (Wm G g q I0 J0 R0 L0) (fun r u => InvI Wm_lo Wm_hi u.1 ∧ InvR Wm_rl u.2.2.1 ∧ SmF ([0, 1, 2, 3, 4, 5, 6, 7, 8, 9, 10, 11, 12, 13, 14, 15, 16] : List Nat) I0 u.1 ∧ SmF (1 :: 2 :: 3 :: 4 :: 5 :: 6 :: 7 :: 8 :: 9 :: 10 :: 11 :: 12 :: 13 :: 14 :: 15 :: 16 :: 17 :: 18 :: 19 :: 20 :: 21 :: 22 :: 23 :: 24 :: 25 :: 26 :: 27 :: 28 :: 29 :: 30 :: 31 :: 32 :: 33 :: 34 :: 36 :: [] : List Nat) R0 u.2.2.1 ∧ (WfM u.1 u.2.2.1)) (fun u => Wm G g q u.1 u.2.1 u.2.2.1 u.2.2.2) := by
  refine ctI_of (own := RX12) (by decide +kernel) rfl (Nat.le_of_ble_eq_true rfl) ?_
  intro p e s m below meth c A ls F hr hlk hnm hK hP hD hA hS hl
  have hx := F.1
  have hb := F.2.1
  have hown := F.2.2.2.1
  have hl : lv_has ls 3 [(0, .ref (g 45))] := hl
  obtain ⟨Q, hQ⟩ : ∃ Q : State → Prop, Q = MQ below (va_Qi (S := St) (fun r u => InvI Wm_lo Wm_hi u.1 ∧ InvR Wm_rl u.2.2.1 ∧ SmF ([0, 1, 2, 3, 4, 5, 6, 7, 8, 9, 10, 11, 12, 13, 14, 15, 16] : List Nat) I0 u.1 ∧ SmF (1 :: 2 :: 3 :: 4 :: 5 :: 6 :: 7 :: 8 :: 9 :: 10 :: 11 :: 12 :: 13 :: 14 :: 15 :: 16 :: 17 :: 18 :: 19 :: 20 :: 21 :: 22 :: 23 :: 24 :: 25 :: 26 :: 27 :: 28 :: 29 :: 30 :: 31 :: 32 :: 33 :: 34 :: 36 :: [] : List Nat) R0 u.2.2.1 ∧ (WfM u.1 u.2.2.1)) (BX G A (fun u => Wm G g q u.1 u.2.1 u.2.2.1 u.2.2.2)) A) [.ref (g 45)].toArray s 0 0 A := ⟨_, rfl⟩
  rw [show (MQ below (va_Qi (S := St) (fun r u => InvI Wm_lo Wm_hi u.1 ∧ InvR Wm_rl u.2.2.1 ∧ SmF ([0, 1, 2, 3, 4, 5, 6, 7, 8, 9, 10, 11, 12, 13, 14, 15, 16] : List Nat) I0 u.1 ∧ SmF (1 :: 2 :: 3 :: 4 :: 5 :: 6 :: 7 :: 8 :: 9 :: 10 :: 11 :: 12 :: 13 :: 14 :: 15 :: 16 :: 17 :: 18 :: 19 :: 20 :: 21 :: 22 :: 23 :: 24 :: 25 :: 26 :: 27 :: 28 :: 29 :: 30 :: 31 :: 32 :: 33 :: 34 :: 36 :: [] : List Nat) R0 u.2.2.1 ∧ (WfM u.1 u.2.2.1)) (BX G A (fun u => Wm G g q u.1 u.2.1 u.2.2.1 u.2.2.2)) A) [.ref (g 45)].toArray s (rmD 9 0 0).cells (rmD 9 0 0).slots A) = Q from hQ.symm]
  have hsI := smF_rf ([0, 1, 2, 3, 4, 5, 6, 7, 8, 9, 10, 11, 12, 13, 14, 15, 16] : List Nat) I0
  have hsR := smF_rf (1 :: 2 :: 3 :: 4 :: 5 :: 6 :: 7 :: 8 :: 9 :: 10 :: 11 :: 12 :: 13 :: 14 :: 15 :: 16 :: 17 :: 18 :: 19 :: 20 :: 21 :: 22 :: 23 :: 24 :: 25 :: 26 :: 27 :: 28 :: 29 :: 30 :: 31 :: 32 :: 33 :: 34 :: 36 :: [] : List Nat) R0
  have hvI0 := hvI
  have lab_200 : ∀ (k_200 : Nat) (a1_200 : Int32) (a2_200 : Int32) (I_200 : Nat → Int32) (J_200 : Nat → Int64) (R_200 : Nat → Nat → Int32) (L_200 : Nat → Nat → Int64) (H : Heap) (locs : List Loc) (ls : Array Slot), ((12 - a2_200.toInt) < (k_200 : Int)) → InvI Wm_lo Wm_hi I_200 → InvR Wm_rl R_200 → SmF ([0, 1, 2, 3, 4, 5, 6, 7, 8, 9, 10, 11, 12, 13, 14, 15, 16] : List Nat) I0 I_200 → SmF (1 :: 2 :: 3 :: 4 :: 5 :: 6 :: 7 :: 8 :: 9 :: 10 :: 11 :: 12 :: 13 :: 14 :: 15 :: 16 :: 17 :: 18 :: 19 :: 20 :: 21 :: 22 :: 23 :: 24 :: 25 :: 26 :: 27 :: 28 :: 29 :: 30 :: 31 :: 32 :: 33 :: 34 :: 36 :: [] : List Nat) R0 R_200 → ((0 : Int) ≤ a2_200.toInt ∧ a2_200.toInt ≤ (12 : Int)) → (WfC (Int32.toNatClampNeg (I_200 10)) R_200 1800) → va_P G.1 vwCl (Wm G g q I_200 J_200 R_200 L_200) H → va_D A (Wm G g q I_200 J_200 R_200 L_200) → va_S A s.heap H locs → lv_has ls 3 [(0, .ref (g 45)), (1, .int a1_200), (2, .int a2_200)] → W p l e (rmD 9 0 0) s m [.ref (g 45)].toArray below meth c H locs 0 0 Q (F0 m 200 ls []) := by
    intro k_200
    induction k_200 with
    | zero =>
      intro a1_200 a2_200 I_200 J_200 R_200 L_200 H locs ls hm hvI hvR hsI hsR y0_200 xl0_200 hP hD hS hl
      have hv_I_200 := hvI
      have w_I_200_1 := rg (hvI 1 (by decide)) (0) (1800) rfl rfl
      have w_I_200_2 := rg (hvI 2 (by decide)) (0) (3) rfl rfl
      have w_I_200_3 := rg (hvI 3 (by decide)) (0) (1800) rfl rfl
      have w_I_200_4 := rg (hvI 4 (by decide)) (0) (1800) rfl rfl
      have w_I_200_6 := rg (hvI 6 (by decide)) (0) (5) rfl rfl
      have w_I_200_10 := rg (hvI 10 (by decide)) (0) (1) rfl rfl
      have w_I_200_11 := rg (hvI 11 (by decide)) (0) (1800) rfl rfl
      have w_I_200_12 := rg (hvI 12 (by decide)) (0) (1) rfl rfl
      exact absurd hm (by omega)
    | succ k_200 ih_200 =>
      intro a1_200 a2_200 I_200 J_200 R_200 L_200 H locs ls hm hvI hvR hsI hsR y0_200 xl0_200 hP hD hS hl
      have hv_I_200 := hvI
      have w_I_200_1 := rg (hvI 1 (by decide)) (0) (1800) rfl rfl
      have w_I_200_2 := rg (hvI 2 (by decide)) (0) (3) rfl rfl
      have w_I_200_3 := rg (hvI 3 (by decide)) (0) (1800) rfl rfl
      have w_I_200_4 := rg (hvI 4 (by decide)) (0) (1800) rfl rfl
      have w_I_200_6 := rg (hvI 6 (by decide)) (0) (5) rfl rfl
      have w_I_200_10 := rg (hvI 10 (by decide)) (0) (1) rfl rfl
      have w_I_200_11 := rg (hvI 11 (by decide)) (0) (1800) rfl rfl
      have w_I_200_12 := rg (hvI 12 (by decide)) (0) (1) rfl rfl
      refine lv_iload_n hx hb dX12_house_200 rfl (lv_at hl 2 rfl) ?_
      refine lv_bipush (v := 12) hx hb dX12_house_201 (by decide) ?_
      refine lv_icmp_ge (tgt := 219) hx hb dX12_house_203 (by decide) (fun c1 => ?_) (fun c1 => ?_)
      · have gc1 : 12 ≤ a2_200.toInt := (tle _ _).mp c1
        refine lv_iload_n hx hb dX12_house_219 rfl (lv_at hl 1 rfl) ?_
        rw [hQ]
        exact q_i F hr hlk (I_200, J_200, R_200, L_200) hP hD hS ⟨hvI, hvR, hsI, hsR, (show (WfM I_200 R_200) from xl0_200)⟩ dX12_house_220 (Nat.le_of_ble_eq_true rfl) (Nat.le_of_ble_eq_true rfl)
      · have gc1 : ¬ (12 ≤ a2_200.toInt) := fun q0 => c1 ((tle _ _).mpr q0)
        refine lv_aload_n hx hb dX12_house_206 rfl (lv_at hl 0 rfl) ?_
        refine g_get F hK hP 0 (Wm_at0 G g q I_200 J_200 R_200 L_200) clX12 58 (by decide) flX12_189 rfl dX12_house_207 ?_
        refine lv_iload_n hx hb dX12_house_210 rfl (lv_at hl 2 rfl) ?_
        refine lv_iconst (v := 0) hx hb dX12_house_211 (by decide) ?_
        refine p_row (W1 := fun y => Wm G g q I_200 J_200 y L_200) (n := 36) F hK hP hD hS 41 (Wm_at41 G g q I_200 J_200 R_200 L_200) (in_of (by omega)) dX12_house_212 (Wm_rowR36 G g q I_200 J_200 R_200 L_200) (fun R2 H locs eR2 hP hD hS => ?_)
        have hvR : InvR Wm_rl R2 := inv_upR hvR 36 eR2 (upd_in (hvR 36 (by decide)) (full _))
        have hsR := smF_up hsR eR2 (by decide)
        obtain ⟨x3, ex3⟩ : ∃ y : Int32, y = a2_200 + 1 := ⟨_, rfl⟩
        have fx3 : x3.toInt = a2_200.toInt + (1 : Int) := by rw [ex3]; exact t_add (by show (-2147483648 : Int) ≤ a2_200.toInt + (1 : Int); omega) (by show a2_200.toInt + (1 : Int) ≤ 2147483647; omega)
        refine lv_iinc (v := x3) (lv' := [(2, .int x3), (0, .ref (g 45)), (1, .int a1_200)]) hx hb dX12_house_213 hl (k := 2) rfl (by rw [ex3]; rfl) (by decide) rfl (fun ls hl => ?_)
        refine lv_goto (tgt := 200) hx hb dX12_house_216 (by decide) ?_
        exact ih_200 a1_200 x3 I_200 J_200 R2 L_200 _ _ _ (show (12 - x3.toInt) < (k_200 : Int) from by omega) hvI hvR hsI hsR (show ((0 : Int) ≤ x3.toInt ∧ x3.toInt ≤ (12 : Int)) from by omega) (show (WfC (Int32.toNatClampNeg (I_200 10)) R2 1800) from wf_sm xl0_200 ((up_ne (j := 22) eR2 (by decide))) ((up_ne (j := 23) eR2 (by decide))) ((up_ne (j := 24) eR2 (by decide))) ((up_ne (j := 25) eR2 (by decide))) ((up_ne (j := 26) eR2 (by decide)))) hP hD hS (lv_sub hl [1, 2, 0] rfl)
  have lab_161 : ∀ (a1_161 : Int32) (I_161 : Nat → Int32) (J_161 : Nat → Int64) (R_161 : Nat → Nat → Int32) (L_161 : Nat → Nat → Int64) (H : Heap) (locs : List Loc) (ls : Array Slot), InvI Wm_lo Wm_hi I_161 → InvR Wm_rl R_161 → SmF ([0, 1, 2, 3, 4, 5, 6, 7, 8, 9, 10, 11, 12, 13, 14, 15, 16] : List Nat) I0 I_161 → SmF (1 :: 2 :: 3 :: 4 :: 5 :: 6 :: 7 :: 8 :: 9 :: 10 :: 11 :: 12 :: 13 :: 14 :: 15 :: 16 :: 17 :: 18 :: 19 :: 20 :: 21 :: 22 :: 23 :: 24 :: 25 :: 26 :: 27 :: 28 :: 29 :: 30 :: 31 :: 32 :: 33 :: 34 :: 36 :: [] : List Nat) R0 R_161 → ((I_161 12).toInt = 1 - (I0 10).toInt) → ((I_161 10).toInt = (I0 10).toInt) → (WfC (Int32.toNatClampNeg (I0 10)) R_161 1800) → ((I_161 6).toInt = 0 → WfC (Int32.toNatClampNeg (I_161 12)) R_161 (I_161 11).toInt) → va_P G.1 vwCl (Wm G g q I_161 J_161 R_161 L_161) H → va_D A (Wm G g q I_161 J_161 R_161 L_161) → va_S A s.heap H locs → lv_has ls 3 [(0, .ref (g 45)), (1, .int a1_161)] → W p l e (rmD 9 0 0) s m [.ref (g 45)].toArray below meth c H locs 0 0 Q (F0 m 161 ls []) := by
    intro a1_161 I_161 J_161 R_161 L_161 H locs ls hvI hvR hsI hsR z0_161 z1_161 xl0_161 xl1_161 hP hD hS hl
    have hv_I_161 := hvI
    have w_I_161_1 := rg (hvI 1 (by decide)) (0) (1800) rfl rfl
    have w_I_161_2 := rg (hvI 2 (by decide)) (0) (3) rfl rfl
    have w_I_161_3 := rg (hvI 3 (by decide)) (0) (1800) rfl rfl
    have w_I_161_4 := rg (hvI 4 (by decide)) (0) (1800) rfl rfl
    have w_I_161_6 := rg (hvI 6 (by decide)) (0) (5) rfl rfl
    have w_I_161_10 := rg (hvI 10 (by decide)) (0) (1) rfl rfl
    have w_I_161_11 := rg (hvI 11 (by decide)) (0) (1800) rfl rfl
    have w_I_161_12 := rg (hvI 12 (by decide)) (0) (1) rfl rfl
    refine lv_aload_n hx hb dX12_house_161 rfl (lv_at hl 0 rfl) ?_
    refine lv_aload_n hx hb dX12_house_162 rfl (lv_at hl 0 rfl) ?_
    refine g_get F hK hP 0 (Wm_at0 G g q I_161 J_161 R_161 L_161) clX12 8 (by decide) flX12_36 rfl dX12_house_163 ?_
    have w_I_161_6 := rg (hv_I_161 6 (by decide)) (0) (5) rfl rfl
    refine p_fld (W1 := fun y => Wm G g q y J_161 R_161 L_161) (n := 8) (v := (I_161 6)) F hK hP hD hS 0 (Wm_at0 G g q I_161 J_161 R_161 L_161) clX12 10 (by decide) flX12_42 rfl rfl rfl (Nat.le_of_ble_eq_true rfl) dX12_house_166 (Wm_setI8 G g q I_161 J_161 R_161 L_161 _) (fun I4 H locs eI4 hP hD hS => ?_)
    have hvI : InvI Wm_lo Wm_hi I4 := inv_upI hvI 8 eI4 (full _)
    have hsI := smF_up hsI eI4 (by decide)
    have hv_I4 := hvI
    have u_I4_1 : (I4 1).toInt = (I_161 1).toInt := by rw [eI4]; rfl
    have u_I4_2 : (I4 2).toInt = (I_161 2).toInt := by rw [eI4]; rfl
    have u_I4_3 : (I4 3).toInt = (I_161 3).toInt := by rw [eI4]; rfl
    have u_I4_4 : (I4 4).toInt = (I_161 4).toInt := by rw [eI4]; rfl
    have u_I4_6 : (I4 6).toInt = (I_161 6).toInt := by rw [eI4]; rfl
    have u_I4_10 : (I4 10).toInt = (I_161 10).toInt := by rw [eI4]; rfl
    have u_I4_11 : (I4 11).toInt = (I_161 11).toInt := by rw [eI4]; rfl
    have u_I4_12 : (I4 12).toInt = (I_161 12).toInt := by rw [eI4]; rfl
    refine lv_aload_n hx hb dX12_house_169 rfl (lv_at hl 0 rfl) ?_
    refine lv_aload_n hx hb dX12_house_170 rfl (lv_at hl 0 rfl) ?_
    refine g_get F hK hP 0 (Wm_at0 G g q I4 J_161 R_161 L_161) clX12 9 (by decide) flX12_39 rfl dX12_house_171 ?_
    refine cst_i ((up_ne (j := 7) eI4 (by decide))) ?_
    refine p_fld (W1 := fun y => Wm G g q y J_161 R_161 L_161) (n := 9) (v := (I_161 7)) F hK hP hD hS 0 (Wm_at0 G g q I4 J_161 R_161 L_161) clX12 11 (by decide) flX12_45 rfl rfl rfl (Nat.le_of_ble_eq_true rfl) dX12_house_174 (Wm_setI9 G g q I4 J_161 R_161 L_161 _) (fun I5 H locs eI5 hP hD hS => ?_)
    have hvI : InvI Wm_lo Wm_hi I5 := inv_upI hvI 9 eI5 (full _)
    have hsI := smF_up hsI eI5 (by decide)
    have hv_I5 := hvI
    have u_I5_1 : (I5 1).toInt = (I4 1).toInt := by rw [eI5]; rfl
    have u_I5_2 : (I5 2).toInt = (I4 2).toInt := by rw [eI5]; rfl
    have u_I5_3 : (I5 3).toInt = (I4 3).toInt := by rw [eI5]; rfl
    have u_I5_4 : (I5 4).toInt = (I4 4).toInt := by rw [eI5]; rfl
    have u_I5_6 : (I5 6).toInt = (I4 6).toInt := by rw [eI5]; rfl
    have u_I5_10 : (I5 10).toInt = (I4 10).toInt := by rw [eI5]; rfl
    have u_I5_11 : (I5 11).toInt = (I4 11).toInt := by rw [eI5]; rfl
    have u_I5_12 : (I5 12).toInt = (I4 12).toInt := by rw [eI5]; rfl
    refine lv_aload_n hx hb dX12_house_177 rfl (lv_at hl 0 rfl) ?_
    refine g_get F hK hP 0 (Wm_at0 G g q I5 J_161 R_161 L_161) clX12 8 (by decide) flX12_36 rfl dX12_house_178 ?_
    refine cst_i (((up_ne (j := 6) eI5 (by decide)).trans (up_ne (j := 6) eI4 (by decide)))) ?_
    refine lv_if_le (tgt := 190) hx hb dX12_house_181 (by decide) (fun c6 => ?_) (fun c6 => ?_)
    · have gc6 : (I_161 6).toInt ≤ 0 := (tle _ _).mp c6
      refine lv_aload_n hx hb dX12_house_190 rfl (lv_at hl 0 rfl) ?_
      refine lv_aload_n hx hb dX12_house_191 rfl (lv_at hl 0 rfl) ?_
      refine g_get F hK hP 0 (Wm_at0 G g q I5 J_161 R_161 L_161) clX12 44 (by decide) flX12_146 rfl dX12_house_192 ?_
      refine cst_i (((up_ne (j := 12) eI5 (by decide)).trans (up_ne (j := 12) eI4 (by decide)))) ?_
      have w_I_161_12 := rg (hv_I_161 12 (by decide)) (0) (1) rfl rfl
      refine p_fld (W1 := fun y => Wm G g q y J_161 R_161 L_161) (n := 10) (v := (I_161 12)) F hK hP hD hS 0 (Wm_at0 G g q I5 J_161 R_161 L_161) clX12 12 (by decide) flX12_48 rfl rfl rfl (Nat.le_of_ble_eq_true rfl) dX12_house_195 (Wm_setI10 G g q I5 J_161 R_161 L_161 _) (fun I7 H locs eI7 hP hD hS => ?_)
      have hvI : InvI Wm_lo Wm_hi I7 := inv_upI hvI 10 eI7 (show ((0 : Int) ≤ (I_161 12).toInt ∧ (I_161 12).toInt ≤ (1 : Int)) from by omega)
      have hsI := smF_up hsI eI7 (by decide)
      have hv_I7 := hvI
      have u_I7_1 : (I7 1).toInt = (I5 1).toInt := by rw [eI7]; rfl
      have u_I7_2 : (I7 2).toInt = (I5 2).toInt := by rw [eI7]; rfl
      have u_I7_3 : (I7 3).toInt = (I5 3).toInt := by rw [eI7]; rfl
      have u_I7_4 : (I7 4).toInt = (I5 4).toInt := by rw [eI7]; rfl
      have u_I7_6 : (I7 6).toInt = (I5 6).toInt := by rw [eI7]; rfl
      have u_I7_10 : (I7 10).toInt = (I_161 12).toInt := by rw [eI7]; rfl
      have u_I7_11 : (I7 11).toInt = (I5 11).toInt := by rw [eI7]; rfl
      have u_I7_12 : (I7 12).toInt = (I5 12).toInt := by rw [eI7]; rfl
      refine lv_iconst (v := 0) hx hb dX12_house_198 (by decide) ?_
      refine lv_istore_n (lv' := [(2, .int 0), (0, .ref (g 45)), (1, .int a1_161)]) hx hb dX12_house_199 rfl hl (by decide) rfl (fun ls hl => ?_)
      exact lab_200 13 a1_161 0 I7 J_161 R_161 L_161 _ _ _ (show (12 - 0) < ((13 : Nat) : Int) from by omega) hvI hvR hsI hsR (by decide) (show (WfC (Int32.toNatClampNeg (I7 10)) R_161 1800) from by rw [cl_eq (show (I7 10).toInt = (I_161 12).toInt from by omega)]; exact wf_le (xl1_161 (by omega)) (by omega)) hP hD hS (lv_sub hl [1, 2, 0] rfl)
    · have gc6 : ¬ ((I_161 6).toInt ≤ 0) := fun q0 => c6 ((tle _ _).mpr q0)
      refine lv_aload_n hx hb dX12_house_184 rfl (lv_at hl 0 rfl) ?_
      refine lv_iconst (v := 1) hx hb dX12_house_185 (by decide) ?_
      refine wvi (As := [.int 1]) (rest := []) (b := (g 45)) (d := 1) F hK hP hD hS hA (s_X12_refuses l G g q I5 J_161 R_161 L_161 hvI hvR  1 (by decide)) kmV_X12_refuses mlX12_225 clX12 rfl 0 (Wm_at0 G g q I5 J_161 R_161 L_161) ⟨(Nat.le_of_ble_eq_true rfl), (Nat.le_of_ble_eq_true rfl)⟩ hl.1 rfl (Nat.le_of_ble_eq_true rfl) dX12_house_186 (fun r8 u9 H locs hwr8 hP hD hS => ?_)
      obtain ⟨I10, J11, R12, L13⟩ := u9
      replace hP : va_P G.1 vwCl (Wm G g q I10 J11 R12 L13) H := hP
      replace hD : va_D A (Wm G g q I10 J11 R12 L13) := hD
      obtain ⟨hvI, hvR, tIr8, tRr8, F0r8⟩ := hwr8
      replace F0r8 : ((-1 : Int) ≤ r8.toInt ∧ r8.toInt ≤ (-1 : Int)) := F0r8
      replace hvI : InvI Wm_lo Wm_hi I10 := hvI
      replace hvR : InvR Wm_rl R12 := hvR
      replace tIr8 : SmF ([] : List Nat) I5 I10 := tIr8
      replace tRr8 : SmF ([34] : List Nat) R_161 R12 := tRr8
      have hv_I10 := hvI
      have hsI := smF_tr hsI tIr8 (by decide)
      have hsR := smF_tr hsR tRr8 (by decide)
      have u_I10_1 : (I10 1).toInt = (I5 1).toInt := congrArg Int32.toInt (tIr8 1 rfl)
      have u_I10_2 : (I10 2).toInt = (I5 2).toInt := congrArg Int32.toInt (tIr8 2 rfl)
      have u_I10_3 : (I10 3).toInt = (I5 3).toInt := congrArg Int32.toInt (tIr8 3 rfl)
      have u_I10_4 : (I10 4).toInt = (I5 4).toInt := congrArg Int32.toInt (tIr8 4 rfl)
      have u_I10_6 : (I10 6).toInt = (I5 6).toInt := congrArg Int32.toInt (tIr8 6 rfl)
      have u_I10_10 : (I10 10).toInt = (I5 10).toInt := congrArg Int32.toInt (tIr8 10 rfl)
      have u_I10_11 : (I10 11).toInt = (I5 11).toInt := congrArg Int32.toInt (tIr8 11 rfl)
      have u_I10_12 : (I10 12).toInt = (I5 12).toInt := congrArg Int32.toInt (tIr8 12 rfl)
      rw [hQ]
      exact q_i F hr hlk (I10, J11, R12, L13) hP hD hS ⟨hvI, hvR, hsI, hsR, (show (WfM I10 R12) from by unfold WfM; rw [cl_eq (show (I10 10).toInt = (I0 10).toInt from by omega)]; exact wf_sm xl0_161 ((tRr8 22 rfl)) ((tRr8 23 rfl)) ((tRr8 24 rfl)) ((tRr8 25 rfl)) ((tRr8 26 rfl)))⟩ dX12_house_189 (Nat.le_of_ble_eq_true rfl) (Nat.le_of_ble_eq_true rfl)
  have lab_137 : ∀ (k_137 : Nat) (a1_137 : Int32) (I_137 : Nat → Int32) (J_137 : Nat → Int64) (R_137 : Nat → Nat → Int32) (L_137 : Nat → Nat → Int64) (H : Heap) (locs : List Loc) (ls : Array Slot), (((I_137 1).toInt - (I_137 3).toInt + 5 - (I_137 6).toInt) < (k_137 : Int)) → InvI Wm_lo Wm_hi I_137 → InvR Wm_rl R_137 → SmF ([0, 1, 2, 3, 4, 5, 6, 7, 8, 9, 10, 11, 12, 13, 14, 15, 16] : List Nat) I0 I_137 → SmF (1 :: 2 :: 3 :: 4 :: 5 :: 6 :: 7 :: 8 :: 9 :: 10 :: 11 :: 12 :: 13 :: 14 :: 15 :: 16 :: 17 :: 18 :: 19 :: 20 :: 21 :: 22 :: 23 :: 24 :: 25 :: 26 :: 27 :: 28 :: 29 :: 30 :: 31 :: 32 :: 33 :: 34 :: 36 :: [] : List Nat) R0 R_137 → ((I_137 3).toInt ≤ (I_137 4).toInt) → ((I_137 4).toInt ≤ (I_137 1).toInt) → ((¬ (I_137 2).toInt = 0) → (I_137 3).toInt < (I_137 4).toInt) → ((I_137 12).toInt = 1 - (I0 10).toInt) → ((I_137 10).toInt = (I0 10).toInt) → ((I_137 6).toInt = 0 → (I_137 11).toInt ≤ (I_137 3).toInt) → (WfC (Int32.toNatClampNeg (I0 10)) R_137 1800) → ((I_137 6).toInt = 0 → WfC (Int32.toNatClampNeg (I_137 12)) R_137 (I_137 11).toInt) → va_P G.1 vwCl (Wm G g q I_137 J_137 R_137 L_137) H → va_D A (Wm G g q I_137 J_137 R_137 L_137) → va_S A s.heap H locs → lv_has ls 3 [(0, .ref (g 45)), (1, .int a1_137)] → W p l e (rmD 9 0 0) s m [.ref (g 45)].toArray below meth c H locs 0 0 Q (F0 m 137 ls []) := by
    intro k_137
    induction k_137 with
    | zero =>
      intro a1_137 I_137 J_137 R_137 L_137 H locs ls hm hvI hvR hsI hsR z0_137 z1_137 z2_137 z3_137 z4_137 z5_137 xl0_137 xl1_137 hP hD hS hl
      have hv_I_137 := hvI
      have w_I_137_1 := rg (hvI 1 (by decide)) (0) (1800) rfl rfl
      have w_I_137_2 := rg (hvI 2 (by decide)) (0) (3) rfl rfl
      have w_I_137_3 := rg (hvI 3 (by decide)) (0) (1800) rfl rfl
      have w_I_137_4 := rg (hvI 4 (by decide)) (0) (1800) rfl rfl
      have w_I_137_6 := rg (hvI 6 (by decide)) (0) (5) rfl rfl
      have w_I_137_10 := rg (hvI 10 (by decide)) (0) (1) rfl rfl
      have w_I_137_11 := rg (hvI 11 (by decide)) (0) (1800) rfl rfl
      have w_I_137_12 := rg (hvI 12 (by decide)) (0) (1) rfl rfl
      exact absurd hm (by omega)
    | succ k_137 ih_137 =>
      intro a1_137 I_137 J_137 R_137 L_137 H locs ls hm hvI hvR hsI hsR z0_137 z1_137 z2_137 z3_137 z4_137 z5_137 xl0_137 xl1_137 hP hD hS hl
      have hv_I_137 := hvI
      have w_I_137_1 := rg (hvI 1 (by decide)) (0) (1800) rfl rfl
      have w_I_137_2 := rg (hvI 2 (by decide)) (0) (3) rfl rfl
      have w_I_137_3 := rg (hvI 3 (by decide)) (0) (1800) rfl rfl
      have w_I_137_4 := rg (hvI 4 (by decide)) (0) (1800) rfl rfl
      have w_I_137_6 := rg (hvI 6 (by decide)) (0) (5) rfl rfl
      have w_I_137_10 := rg (hvI 10 (by decide)) (0) (1) rfl rfl
      have w_I_137_11 := rg (hvI 11 (by decide)) (0) (1800) rfl rfl
      have w_I_137_12 := rg (hvI 12 (by decide)) (0) (1) rfl rfl
      refine lv_aload_n hx hb dX12_house_137 rfl (lv_at hl 0 rfl) ?_
      refine g_get F hK hP 0 (Wm_at0 G g q I_137 J_137 R_137 L_137) clX12 8 (by decide) flX12_36 rfl dX12_house_138 ?_
      have w_I_137_6 := rg (hv_I_137 6 (by decide)) (0) (5) rfl rfl
      refine lv_if_ne (tgt := 161) hx hb dX12_house_141 (by decide) (fun c14 => ?_) (fun c14 => ?_)
      · have gc14 : ¬ ((I_137 6).toInt = 0) := fun q0 => c14 (Int32.toInt_inj.mp q0)
        exact lab_161 a1_137 I_137 J_137 R_137 L_137 _ _ _ hvI hvR hsI hsR (show ((I_137 12).toInt = 1 - (I0 10).toInt) from by omega) (show ((I_137 10).toInt = (I0 10).toInt) from by omega) (show (WfC (Int32.toNatClampNeg (I0 10)) R_137 1800) from xl0_137) (show ((I_137 6).toInt = 0 → WfC (Int32.toNatClampNeg (I_137 12)) R_137 (I_137 11).toInt) from xl1_137) hP hD hS (lv_sub hl [0, 1] rfl)
      · have gc14 : (I_137 6).toInt = 0 := congrArg Int32.toInt c14
        refine lv_aload_n hx hb dX12_house_144 rfl (lv_at hl 0 rfl) ?_
        refine g_get F hK hP 0 (Wm_at0 G g q I_137 J_137 R_137 L_137) clX12 3 (by decide) flX12_20 rfl dX12_house_145 ?_
        have w_I_137_2 := rg (hv_I_137 2 (by decide)) (0) (3) rfl rfl
        refine lv_if_eq (tgt := 161) hx hb dX12_house_148 (by decide) (fun c15 => ?_) (fun c15 => ?_)
        · have gc15 : (I_137 2).toInt = 0 := congrArg Int32.toInt c15
          exact lab_161 a1_137 I_137 J_137 R_137 L_137 _ _ _ hvI hvR hsI hsR (show ((I_137 12).toInt = 1 - (I0 10).toInt) from by omega) (show ((I_137 10).toInt = (I0 10).toInt) from by omega) (show (WfC (Int32.toNatClampNeg (I0 10)) R_137 1800) from xl0_137) (show ((I_137 6).toInt = 0 → WfC (Int32.toNatClampNeg (I_137 12)) R_137 (I_137 11).toInt) from xl1_137) hP hD hS (lv_sub hl [0, 1] rfl)
        · have gc15 : ¬ ((I_137 2).toInt = 0) := fun q0 => c15 (Int32.toInt_inj.mp q0)
          refine lv_aload_n hx hb dX12_house_151 rfl (lv_at hl 0 rfl) ?_
          refine wvv (As := []) (rest := []) (b := (g 45)) (d := 8) F hK hP hD hS hA (s_X12_statement l G g q I_137 J_137 R_137 L_137 hvI hvR   (by omega) (by omega) (by omega) (by omega)) kmV_X12_statement mlX12_432 clX12 rfl 0 (Wm_at0 G g q I_137 J_137 R_137 L_137) ⟨(Nat.le_of_ble_eq_true rfl), (Nat.le_of_ble_eq_true rfl)⟩ hl.1 rfl (Nat.le_of_ble_eq_true rfl) dX12_house_152 (fun u17 H locs hwr16 hP hD hS => ?_)
          obtain ⟨I18, J19, R20, L21⟩ := u17
          replace hP : va_P G.1 vwCl (Wm G g q I18 J19 R20 L21) H := hP
          replace hD : va_D A (Wm G g q I18 J19 R20 L21) := hD
          obtain ⟨hvI, hvR, tIr16, tRr16, F0r16, F1r16, F2r16, F3r16, F4r16, F5r16, F6r16⟩ := hwr16
          replace F0r16 : (((I18 6).toInt = 0 ∧ ¬ (I_137 2).toInt = 0) → (I_137 3).toInt < (I18 3).toInt) := F0r16
          replace F1r16 : ((I18 3).toInt ≤ (I18 4).toInt) := F1r16
          replace F2r16 : ((I18 4).toInt ≤ (I_137 1).toInt) := F2r16
          replace F3r16 : ((¬ (I18 2).toInt = 0) → (I18 3).toInt < (I18 4).toInt) := F3r16
          replace F4r16 : ((¬ (I_137 6).toInt = 0) → (¬ (I18 6).toInt = 0)) := F4r16
          replace F5r16 : ((I_137 3).toInt ≤ (I18 3).toInt) := F5r16
          replace F6r16 : (WK I_137 R_137 I18 R20) := F6r16
          replace hvI : InvI Wm_lo Wm_hi I18 := hvI
          replace hvR : InvR Wm_rl R20 := hvR
          replace tIr16 : SmF ([2, 3, 4, 5, 6, 7, 11, 13, 14, 15, 16] : List Nat) I_137 I18 := tIr16
          replace tRr16 : SmF (1 :: 2 :: 3 :: 4 :: 5 :: 6 :: 7 :: 8 :: 9 :: 10 :: 11 :: 12 :: 13 :: 14 :: 15 :: 16 :: 17 :: 18 :: 19 :: 20 :: 21 :: 22 :: 23 :: 24 :: 25 :: 26 :: 27 :: 28 :: 29 :: 30 :: 31 :: 32 :: 33 :: [] : List Nat) R_137 R20 := tRr16
          have hv_I18 := hvI
          have hsI := smF_tr hsI tIr16 (by decide)
          have hsR := smF_tr hsR tRr16 (by decide)
          have u_I18_1 : (I18 1).toInt = (I_137 1).toInt := congrArg Int32.toInt (tIr16 1 rfl)
          have w_I18_2 := rg (hvI 2 (by decide)) (0) (3) rfl rfl
          have w_I18_3 := rg (hvI 3 (by decide)) (0) (1800) rfl rfl
          have w_I18_4 := rg (hvI 4 (by decide)) (0) (1800) rfl rfl
          have w_I18_6 := rg (hvI 6 (by decide)) (0) (5) rfl rfl
          have u_I18_10 : (I18 10).toInt = (I_137 10).toInt := congrArg Int32.toInt (tIr16 10 rfl)
          have w_I18_11 := rg (hvI 11 (by decide)) (0) (1800) rfl rfl
          have u_I18_12 : (I18 12).toInt = (I_137 12).toInt := congrArg Int32.toInt (tIr16 12 rfl)
          have hcsr16 : (I18 6).toInt = 0 → (I18 11).toInt ≤ (I18 3).toInt := fun hf => (wk_in F6r16 hf (by omega) (xl1_137 (by omega))).1
          obtain ⟨x22, ex22⟩ : ∃ y : Int32, y = a1_137 + 1 := ⟨_, rfl⟩
          refine lv_iinc (v := x22) (lv' := [(1, .int x22), (0, .ref (g 45))]) hx hb dX12_house_155 hl (k := 1) rfl (by rw [ex22]; rfl) (by decide) rfl (fun ls hl => ?_)
          refine lv_goto (tgt := 137) hx hb dX12_house_158 (by decide) ?_
          exact ih_137 x22 I18 J19 R20 L21 _ _ _ (show ((I18 1).toInt - (I18 3).toInt + 5 - (I18 6).toInt) < (k_137 : Int) from by omega) hvI hvR hsI hsR (show ((I18 3).toInt ≤ (I18 4).toInt) from by omega) (show ((I18 4).toInt ≤ (I18 1).toInt) from by omega) (show ((¬ (I18 2).toInt = 0) → (I18 3).toInt < (I18 4).toInt) from by omega) (show ((I18 12).toInt = 1 - (I0 10).toInt) from by omega) (show ((I18 10).toInt = (I0 10).toInt) from by omega) (show ((I18 6).toInt = 0 → (I18 11).toInt ≤ (I18 3).toInt) from by omega) (show (WfC (Int32.toNatClampNeg (I0 10)) R20 1800) from wk_other F6r16 (by have c2 := clamp_nn (x := (I0 10)) (by omega); omega) (by have c2 := clamp_nn (x := (I0 10)) (by omega); omega) xl0_137) (show ((I18 6).toInt = 0 → WfC (Int32.toNatClampNeg (I18 12)) R20 (I18 11).toInt) from fun hf => by have z := wk_in F6r16 hf (by omega) (xl1_137 (by omega)); rw [tIr16 12 rfl]; exact z.2) hP hD hS (lv_sub hl [1, 0] rfl)
  have lab_101 : ∀ (k_101 : Nat) (a1_101 : Int32) (I_101 : Nat → Int32) (J_101 : Nat → Int64) (R_101 : Nat → Nat → Int32) (L_101 : Nat → Nat → Int64) (H : Heap) (locs : List Loc) (ls : Array Slot), ((5 - a1_101.toInt) < (k_101 : Int)) → InvI Wm_lo Wm_hi I_101 → InvR Wm_rl R_101 → SmF ([0, 1, 2, 3, 4, 5, 6, 7, 8, 9, 10, 11, 12, 13, 14, 15, 16] : List Nat) I0 I_101 → SmF (1 :: 2 :: 3 :: 4 :: 5 :: 6 :: 7 :: 8 :: 9 :: 10 :: 11 :: 12 :: 13 :: 14 :: 15 :: 16 :: 17 :: 18 :: 19 :: 20 :: 21 :: 22 :: 23 :: 24 :: 25 :: 26 :: 27 :: 28 :: 29 :: 30 :: 31 :: 32 :: 33 :: 34 :: 36 :: [] : List Nat) R0 R_101 → ((0 : Int) ≤ a1_101.toInt ∧ a1_101.toInt ≤ (5 : Int)) → ((I_101 4).toInt = 0) → ((I_101 6).toInt = 0) → ((I_101 12).toInt = 1 - (I0 10).toInt) → ((I_101 10).toInt = (I0 10).toInt) → (WfC (Int32.toNatClampNeg (I0 10)) R_101 1800) → ((R_101 22 (Int32.toNatClampNeg (I_101 12))).toInt = 0) → va_P G.1 vwCl (Wm G g q I_101 J_101 R_101 L_101) H → va_D A (Wm G g q I_101 J_101 R_101 L_101) → va_S A s.heap H locs → lv_has ls 3 [(0, .ref (g 45)), (1, .int a1_101)] → W p l e (rmD 9 0 0) s m [.ref (g 45)].toArray below meth c H locs 0 0 Q (F0 m 101 ls []) := by
    intro k_101
    induction k_101 with
    | zero =>
      intro a1_101 I_101 J_101 R_101 L_101 H locs ls hm hvI hvR hsI hsR y0_101 z0_101 z1_101 z2_101 z3_101 xl0_101 xl1_101 hP hD hS hl
      have hv_I_101 := hvI
      have w_I_101_1 := rg (hvI 1 (by decide)) (0) (1800) rfl rfl
      have w_I_101_2 := rg (hvI 2 (by decide)) (0) (3) rfl rfl
      have w_I_101_3 := rg (hvI 3 (by decide)) (0) (1800) rfl rfl
      have w_I_101_4 := rg (hvI 4 (by decide)) (0) (1800) rfl rfl
      have w_I_101_6 := rg (hvI 6 (by decide)) (0) (5) rfl rfl
      have w_I_101_10 := rg (hvI 10 (by decide)) (0) (1) rfl rfl
      have w_I_101_11 := rg (hvI 11 (by decide)) (0) (1800) rfl rfl
      have w_I_101_12 := rg (hvI 12 (by decide)) (0) (1) rfl rfl
      exact absurd hm (by omega)
    | succ k_101 ih_101 =>
      intro a1_101 I_101 J_101 R_101 L_101 H locs ls hm hvI hvR hsI hsR y0_101 z0_101 z1_101 z2_101 z3_101 xl0_101 xl1_101 hP hD hS hl
      have hv_I_101 := hvI
      have w_I_101_1 := rg (hvI 1 (by decide)) (0) (1800) rfl rfl
      have w_I_101_2 := rg (hvI 2 (by decide)) (0) (3) rfl rfl
      have w_I_101_3 := rg (hvI 3 (by decide)) (0) (1800) rfl rfl
      have w_I_101_4 := rg (hvI 4 (by decide)) (0) (1800) rfl rfl
      have w_I_101_6 := rg (hvI 6 (by decide)) (0) (5) rfl rfl
      have w_I_101_10 := rg (hvI 10 (by decide)) (0) (1) rfl rfl
      have w_I_101_11 := rg (hvI 11 (by decide)) (0) (1800) rfl rfl
      have w_I_101_12 := rg (hvI 12 (by decide)) (0) (1) rfl rfl
      refine lv_iload_n hx hb dX12_house_101 rfl (lv_at hl 1 rfl) ?_
      refine lv_iconst (v := 5) hx hb dX12_house_102 (by decide) ?_
      refine lv_icmp_ge (tgt := 126) hx hb dX12_house_103 (by decide) (fun c23 => ?_) (fun c23 => ?_)
      · have gc23 : 5 ≤ a1_101.toInt := (tle _ _).mp c23
        refine lv_aload_n hx hb dX12_house_126 rfl (lv_at hl 0 rfl) ?_
        refine lv_iconst (v := 0) hx hb dX12_house_127 (by decide) ?_
        refine p_fld (W1 := fun y => Wm G g q y J_101 R_101 L_101) (n := 11) (v := 0) F hK hP hD hS 0 (Wm_at0 G g q I_101 J_101 R_101 L_101) clX12 43 (by decide) flX12_143 rfl rfl rfl (Nat.le_of_ble_eq_true rfl) dX12_house_128 (Wm_setI11 G g q I_101 J_101 R_101 L_101 _) (fun I24 H locs eI24 hP hD hS => ?_)
        have hvI : InvI Wm_lo Wm_hi I24 := inv_upI hvI 11 eI24 (by decide)
        have hsI := smF_up hsI eI24 (by decide)
        have hv_I24 := hvI
        have u_I24_1 : (I24 1).toInt = (I_101 1).toInt := by rw [eI24]; rfl
        have u_I24_2 : (I24 2).toInt = (I_101 2).toInt := by rw [eI24]; rfl
        have u_I24_3 : (I24 3).toInt = (I_101 3).toInt := by rw [eI24]; rfl
        have u_I24_4 : (I24 4).toInt = (I_101 4).toInt := by rw [eI24]; rfl
        have u_I24_6 : (I24 6).toInt = (I_101 6).toInt := by rw [eI24]; rfl
        have u_I24_10 : (I24 10).toInt = (I_101 10).toInt := by rw [eI24]; rfl
        have u_I24_11 : (I24 11).toInt = 0 := by rw [eI24]; rfl
        have u_I24_12 : (I24 12).toInt = (I_101 12).toInt := by rw [eI24]; rfl
        refine lv_iconst (v := 0) hx hb dX12_house_131 (by decide) ?_
        refine lv_istore_n (lv' := [(1, .int 0), (0, .ref (g 45))]) hx hb dX12_house_132 rfl hl (by decide) rfl (fun ls hl => ?_)
        refine lv_aload_n hx hb dX12_house_133 rfl (lv_at hl 1 rfl) ?_
        refine wvv (As := []) (rest := []) (b := (g 45)) (d := 2) F hK hP hD hS hA (s_X12_ahead0 l G g q I24 J_101 R_101 L_101 hvI hvR   (by omega)) kmV_X12_ahead mlX12_247 clX12 rfl 0 (Wm_at0 G g q I24 J_101 R_101 L_101) ⟨(Nat.le_of_ble_eq_true rfl), (Nat.le_of_ble_eq_true rfl)⟩ hl.1 rfl (Nat.le_of_ble_eq_true rfl) dX12_house_134 (fun u26 H locs hwr25 hP hD hS => ?_)
        obtain ⟨I27, J28, R29, L30⟩ := u26
        replace hP : va_P G.1 vwCl (Wm G g q I27 J28 R29 L30) H := hP
        replace hD : va_D A (Wm G g q I27 J28 R29 L30) := hD
        obtain ⟨hvI, hvR, tIr25, tRr25, F0r25, F1r25, F2r25⟩ := hwr25
        replace F0r25 : ((I27 3).toInt ≤ (I27 4).toInt) := F0r25
        replace F1r25 : ((I27 4).toInt ≤ (I24 1).toInt) := F1r25
        replace F2r25 : ((¬ (I27 2).toInt = 0) → (I27 3).toInt < (I27 4).toInt) := F2r25
        replace hvI : InvI Wm_lo Wm_hi I27 := hvI
        replace hvR : InvR Wm_rl R29 := hvR
        replace tIr25 : SmF ([2, 3, 4, 5, 6, 7] : List Nat) I24 I27 := tIr25
        replace tRr25 : SmF ([] : List Nat) R_101 R29 := tRr25
        have hv_I27 := hvI
        have hsI := smF_tr hsI tIr25 (by decide)
        have hsR := smF_tr hsR tRr25 (by decide)
        have u_I27_1 : (I27 1).toInt = (I24 1).toInt := congrArg Int32.toInt (tIr25 1 rfl)
        have w_I27_2 := rg (hvI 2 (by decide)) (0) (3) rfl rfl
        have w_I27_3 := rg (hvI 3 (by decide)) (0) (1800) rfl rfl
        have w_I27_4 := rg (hvI 4 (by decide)) (0) (1800) rfl rfl
        have w_I27_6 := rg (hvI 6 (by decide)) (0) (5) rfl rfl
        have u_I27_10 : (I27 10).toInt = (I24 10).toInt := congrArg Int32.toInt (tIr25 10 rfl)
        have u_I27_11 : (I27 11).toInt = (I24 11).toInt := congrArg Int32.toInt (tIr25 11 rfl)
        have u_I27_12 : (I27 12).toInt = (I24 12).toInt := congrArg Int32.toInt (tIr25 12 rfl)
        exact lab_137 1807 0 I27 J28 R29 L30 _ _ _ (show ((I27 1).toInt - (I27 3).toInt + 5 - (I27 6).toInt) < ((1807 : Nat) : Int) from by omega) hvI hvR hsI hsR (show ((I27 3).toInt ≤ (I27 4).toInt) from by omega) (show ((I27 4).toInt ≤ (I27 1).toInt) from by omega) (show ((¬ (I27 2).toInt = 0) → (I27 3).toInt < (I27 4).toInt) from by omega) (show ((I27 12).toInt = 1 - (I0 10).toInt) from by omega) (show ((I27 10).toInt = (I0 10).toInt) from by omega) (show ((I27 6).toInt = 0 → (I27 11).toInt ≤ (I27 3).toInt) from by omega) (show (WfC (Int32.toNatClampNeg (I0 10)) R29 1800) from wf_sm xl0_101 ((tRr25 22 rfl)) ((tRr25 23 rfl)) ((tRr25 24 rfl)) ((tRr25 25 rfl)) ((tRr25 26 rfl))) (show ((I27 6).toInt = 0 → WfC (Int32.toNatClampNeg (I27 12)) R29 (I27 11).toInt) from fun _ => wf_0 (by rw [(tRr25 22 rfl), cl_eq (show (I27 12).toInt = (I_101 12).toInt from by omega)]; exact xl1_101)) hP hD hS (lv_sub hl [1, 0] rfl)
      · have gc23 : ¬ (5 ≤ a1_101.toInt) := fun q0 => c23 ((tle _ _).mpr q0)
        refine lv_aload_n hx hb dX12_house_106 rfl (lv_at hl 0 rfl) ?_
        refine g_get F hK hP 0 (Wm_at0 G g q I_101 J_101 R_101 L_101) clX12 34 (by decide) flX12_116 rfl dX12_house_107 ?_
        refine lv_iconst (v := 5) hx hb dX12_house_110 (by decide) ?_
        refine lv_aload_n hx hb dX12_house_111 rfl (lv_at hl 0 rfl) ?_
        refine g_get F hK hP 0 (Wm_at0 G g q I_101 J_101 R_101 L_101) clX12 44 (by decide) flX12_146 rfl dX12_house_112 ?_
        have w_I_101_12 := rg (hv_I_101 12 (by decide)) (0) (1) rfl rfl
        refine lv_imul hx hb dX12_house_115 ?_
        refine lv_topi (fun x31 ex31 => ?_)
        have fx31 : x31.toInt = 5 * (I_101 12).toInt := by rw [ex31]; exact t_mul (by show (-2147483648 : Int) ≤ 5 * (I_101 12).toInt; omega) (by show 5 * (I_101 12).toInt ≤ 2147483647; omega)
        refine lv_iload_n hx hb dX12_house_116 rfl (lv_at hl 1 rfl) ?_
        refine lv_iadd hx hb dX12_house_117 ?_
        refine lv_topi (fun x32 ex32 => ?_)
        have fx32 : x32.toInt = x31.toInt + a1_101.toInt := by rw [ex32]; exact t_add (by show (-2147483648 : Int) ≤ x31.toInt + a1_101.toInt; omega) (by show x31.toInt + a1_101.toInt ≤ 2147483647; omega)
        refine lv_iconst (v := 0) hx hb dX12_house_118 (by decide) ?_
        refine p_row (W1 := fun y => Wm G g q I_101 J_101 y L_101) (n := 19) F hK hP hD hS 23 (Wm_at23 G g q I_101 J_101 R_101 L_101) (in_of (by omega)) dX12_house_119 (Wm_rowR19 G g q I_101 J_101 R_101 L_101) (fun R33 H locs eR33 hP hD hS => ?_)
        have hvR : InvR Wm_rl R33 := inv_upR hvR 19 eR33 (upd_in (hvR 19 (by decide)) (full _))
        have hsR := smF_up hsR eR33 (by decide)
        obtain ⟨x34, ex34⟩ : ∃ y : Int32, y = a1_101 + 1 := ⟨_, rfl⟩
        have fx34 : x34.toInt = a1_101.toInt + (1 : Int) := by rw [ex34]; exact t_add (by show (-2147483648 : Int) ≤ a1_101.toInt + (1 : Int); omega) (by show a1_101.toInt + (1 : Int) ≤ 2147483647; omega)
        refine lv_iinc (v := x34) (lv' := [(1, .int x34), (0, .ref (g 45))]) hx hb dX12_house_120 hl (k := 1) rfl (by rw [ex34]; rfl) (by decide) rfl (fun ls hl => ?_)
        refine lv_goto (tgt := 101) hx hb dX12_house_123 (by decide) ?_
        exact ih_101 x34 I_101 J_101 R33 L_101 _ _ _ (show (5 - x34.toInt) < (k_101 : Int) from by omega) hvI hvR hsI hsR (show ((0 : Int) ≤ x34.toInt ∧ x34.toInt ≤ (5 : Int)) from by omega) (show ((I_101 4).toInt = 0) from by omega) (show ((I_101 6).toInt = 0) from by omega) (show ((I_101 12).toInt = 1 - (I0 10).toInt) from by omega) (show ((I_101 10).toInt = (I0 10).toInt) from by omega) (show (WfC (Int32.toNatClampNeg (I0 10)) R33 1800) from wf_sm xl0_101 ((up_ne (j := 22) eR33 (by decide))) ((up_ne (j := 23) eR33 (by decide))) ((up_ne (j := 24) eR33 (by decide))) ((up_ne (j := 25) eR33 (by decide))) ((up_ne (j := 26) eR33 (by decide)))) (show ((R33 22 (Int32.toNatClampNeg (I_101 12))).toInt = 0) from by rw [(up_ne (j := 22) eR33 (by decide))]; exact xl1_101) hP hD hS (lv_sub hl [1, 0] rfl)
  have w_I0_1 := rg (hvI 1 (by decide)) (0) (1800) rfl rfl
  have w_I0_2 := rg (hvI 2 (by decide)) (0) (3) rfl rfl
  have w_I0_3 := rg (hvI 3 (by decide)) (0) (1800) rfl rfl
  have w_I0_4 := rg (hvI 4 (by decide)) (0) (1800) rfl rfl
  have w_I0_6 := rg (hvI 6 (by decide)) (0) (5) rfl rfl
  have w_I0_10 := rg (hvI 10 (by decide)) (0) (1) rfl rfl
  have w_I0_11 := rg (hvI 11 (by decide)) (0) (1800) rfl rfl
  have w_I0_12 := rg (hvI 12 (by decide)) (0) (1) rfl rfl
  refine lv_aload_n hx hb dX12_house_0 rfl (lv_at hl 0 rfl) ?_
  refine lv_aload_n hx hb dX12_house_1 rfl (lv_at hl 0 rfl) ?_
  refine g_get F hK hP 0 (Wm_at0 G g q I0 J0 R0 L0) clX12 1 (by decide) flX12_13 rfl dX12_house_2 ?_
  have w_I0_0 := rg (hvI0 0 (by decide)) (0) (1800) rfl rfl
  refine p_fld (W1 := fun y => Wm G g q y J0 R0 L0) (n := 1) (v := (I0 0)) F hK hP hD hS 0 (Wm_at0 G g q I0 J0 R0 L0) clX12 2 (by decide) flX12_17 rfl rfl rfl (Nat.le_of_ble_eq_true rfl) dX12_house_5 (Wm_setI1 G g q I0 J0 R0 L0 _) (fun I35 H locs eI35 hP hD hS => ?_)
  have hvI : InvI Wm_lo Wm_hi I35 := inv_upI hvI 1 eI35 (show ((0 : Int) ≤ (I0 0).toInt ∧ (I0 0).toInt ≤ (1800 : Int)) from by omega)
  have hsI := smF_up hsI eI35 (by decide)
  have hv_I35 := hvI
  have u_I35_1 : (I35 1).toInt = (I0 0).toInt := by rw [eI35]; rfl
  have u_I35_2 : (I35 2).toInt = (I0 2).toInt := by rw [eI35]; rfl
  have u_I35_3 : (I35 3).toInt = (I0 3).toInt := by rw [eI35]; rfl
  have u_I35_4 : (I35 4).toInt = (I0 4).toInt := by rw [eI35]; rfl
  have u_I35_6 : (I35 6).toInt = (I0 6).toInt := by rw [eI35]; rfl
  have u_I35_10 : (I35 10).toInt = (I0 10).toInt := by rw [eI35]; rfl
  have u_I35_11 : (I35 11).toInt = (I0 11).toInt := by rw [eI35]; rfl
  have u_I35_12 : (I35 12).toInt = (I0 12).toInt := by rw [eI35]; rfl
  refine lv_aload_n hx hb dX12_house_8 rfl (lv_at hl 0 rfl) ?_
  refine lv_iconst (v := 0) hx hb dX12_house_9 (by decide) ?_
  refine p_fld (W1 := fun y => Wm G g q y J0 R0 L0) (n := 0) (v := 0) F hK hP hD hS 0 (Wm_at0 G g q I35 J0 R0 L0) clX12 1 (by decide) flX12_13 rfl rfl rfl (Nat.le_of_ble_eq_true rfl) dX12_house_10 (Wm_setI0 G g q I35 J0 R0 L0 _) (fun I36 H locs eI36 hP hD hS => ?_)
  have hvI : InvI Wm_lo Wm_hi I36 := inv_upI hvI 0 eI36 (by decide)
  have hsI := smF_up hsI eI36 (by decide)
  have hv_I36 := hvI
  have u_I36_1 : (I36 1).toInt = (I35 1).toInt := by rw [eI36]; rfl
  have u_I36_2 : (I36 2).toInt = (I35 2).toInt := by rw [eI36]; rfl
  have u_I36_3 : (I36 3).toInt = (I35 3).toInt := by rw [eI36]; rfl
  have u_I36_4 : (I36 4).toInt = (I35 4).toInt := by rw [eI36]; rfl
  have u_I36_6 : (I36 6).toInt = (I35 6).toInt := by rw [eI36]; rfl
  have u_I36_10 : (I36 10).toInt = (I35 10).toInt := by rw [eI36]; rfl
  have u_I36_11 : (I36 11).toInt = (I35 11).toInt := by rw [eI36]; rfl
  have u_I36_12 : (I36 12).toInt = (I35 12).toInt := by rw [eI36]; rfl
  refine lv_aload_n hx hb dX12_house_13 rfl (lv_at hl 0 rfl) ?_
  refine lv_iconst (v := 0) hx hb dX12_house_14 (by decide) ?_
  refine p_fld (W1 := fun y => Wm G g q y J0 R0 L0) (n := 4) (v := 0) F hK hP hD hS 0 (Wm_at0 G g q I36 J0 R0 L0) clX12 5 (by decide) flX12_26 rfl rfl rfl (Nat.le_of_ble_eq_true rfl) dX12_house_15 (Wm_setI4 G g q I36 J0 R0 L0 _) (fun I37 H locs eI37 hP hD hS => ?_)
  have hvI : InvI Wm_lo Wm_hi I37 := inv_upI hvI 4 eI37 (by decide)
  have hsI := smF_up hsI eI37 (by decide)
  have hv_I37 := hvI
  have u_I37_1 : (I37 1).toInt = (I36 1).toInt := by rw [eI37]; rfl
  have u_I37_2 : (I37 2).toInt = (I36 2).toInt := by rw [eI37]; rfl
  have u_I37_3 : (I37 3).toInt = (I36 3).toInt := by rw [eI37]; rfl
  have u_I37_4 : (I37 4).toInt = 0 := by rw [eI37]; rfl
  have u_I37_6 : (I37 6).toInt = (I36 6).toInt := by rw [eI37]; rfl
  have u_I37_10 : (I37 10).toInt = (I36 10).toInt := by rw [eI37]; rfl
  have u_I37_11 : (I37 11).toInt = (I36 11).toInt := by rw [eI37]; rfl
  have u_I37_12 : (I37 12).toInt = (I36 12).toInt := by rw [eI37]; rfl
  refine lv_aload_n hx hb dX12_house_18 rfl (lv_at hl 0 rfl) ?_
  refine lv_iconst (v := 0) hx hb dX12_house_19 (by decide) ?_
  refine p_fld (W1 := fun y => Wm G g q y J0 R0 L0) (n := 6) (v := 0) F hK hP hD hS 0 (Wm_at0 G g q I37 J0 R0 L0) clX12 8 (by decide) flX12_36 rfl rfl rfl (Nat.le_of_ble_eq_true rfl) dX12_house_20 (Wm_setI6 G g q I37 J0 R0 L0 _) (fun I38 H locs eI38 hP hD hS => ?_)
  have hvI : InvI Wm_lo Wm_hi I38 := inv_upI hvI 6 eI38 (by decide)
  have hsI := smF_up hsI eI38 (by decide)
  have hv_I38 := hvI
  have u_I38_1 : (I38 1).toInt = (I37 1).toInt := by rw [eI38]; rfl
  have u_I38_2 : (I38 2).toInt = (I37 2).toInt := by rw [eI38]; rfl
  have u_I38_3 : (I38 3).toInt = (I37 3).toInt := by rw [eI38]; rfl
  have u_I38_4 : (I38 4).toInt = (I37 4).toInt := by rw [eI38]; rfl
  have u_I38_6 : (I38 6).toInt = 0 := by rw [eI38]; rfl
  have u_I38_10 : (I38 10).toInt = (I37 10).toInt := by rw [eI38]; rfl
  have u_I38_11 : (I38 11).toInt = (I37 11).toInt := by rw [eI38]; rfl
  have u_I38_12 : (I38 12).toInt = (I37 12).toInt := by rw [eI38]; rfl
  refine lv_aload_n hx hb dX12_house_23 rfl (lv_at hl 0 rfl) ?_
  refine lv_iconst (v := (-1)) hx hb dX12_house_24 (by decide) ?_
  refine p_fld (W1 := fun y => Wm G g q y J0 R0 L0) (n := 7) (v := (-1)) F hK hP hD hS 0 (Wm_at0 G g q I38 J0 R0 L0) clX12 9 (by decide) flX12_39 rfl rfl rfl (Nat.le_of_ble_eq_true rfl) dX12_house_25 (Wm_setI7 G g q I38 J0 R0 L0 _) (fun I39 H locs eI39 hP hD hS => ?_)
  have hvI : InvI Wm_lo Wm_hi I39 := inv_upI hvI 7 eI39 (full _)
  have hsI := smF_up hsI eI39 (by decide)
  have hv_I39 := hvI
  have u_I39_1 : (I39 1).toInt = (I38 1).toInt := by rw [eI39]; rfl
  have u_I39_2 : (I39 2).toInt = (I38 2).toInt := by rw [eI39]; rfl
  have u_I39_3 : (I39 3).toInt = (I38 3).toInt := by rw [eI39]; rfl
  have u_I39_4 : (I39 4).toInt = (I38 4).toInt := by rw [eI39]; rfl
  have u_I39_6 : (I39 6).toInt = (I38 6).toInt := by rw [eI39]; rfl
  have u_I39_10 : (I39 10).toInt = (I38 10).toInt := by rw [eI39]; rfl
  have u_I39_11 : (I39 11).toInt = (I38 11).toInt := by rw [eI39]; rfl
  have u_I39_12 : (I39 12).toInt = (I38 12).toInt := by rw [eI39]; rfl
  refine lv_aload_n hx hb dX12_house_28 rfl (lv_at hl 0 rfl) ?_
  refine lv_iconst (v := 1) hx hb dX12_house_29 (by decide) ?_
  refine lv_aload_n hx hb dX12_house_30 rfl (lv_at hl 0 rfl) ?_
  refine g_get F hK hP 0 (Wm_at0 G g q I39 J0 R0 L0) clX12 12 (by decide) flX12_48 rfl dX12_house_31 ?_
  refine cst_i ((((((up_ne (j := 10) eI39 (by decide)).trans (up_ne (j := 10) eI38 (by decide))).trans (up_ne (j := 10) eI37 (by decide))).trans (up_ne (j := 10) eI36 (by decide))).trans (up_ne (j := 10) eI35 (by decide)))) ?_
  have w_I0_10 := rg (hvI0 10 (by decide)) (0) (1) rfl rfl
  refine lv_isub hx hb dX12_house_34 ?_
  refine lv_topi (fun x40 ex40 => ?_)
  have fx40 : x40.toInt = 1 - (I0 10).toInt := by rw [ex40]; exact t_sub (by show (-2147483648 : Int) ≤ 1 - (I0 10).toInt; omega) (by show 1 - (I0 10).toInt ≤ 2147483647; omega)
  refine p_fld (W1 := fun y => Wm G g q y J0 R0 L0) (n := 12) (v := x40) F hK hP hD hS 0 (Wm_at0 G g q I39 J0 R0 L0) clX12 44 (by decide) flX12_146 rfl rfl rfl (Nat.le_of_ble_eq_true rfl) dX12_house_35 (Wm_setI12 G g q I39 J0 R0 L0 _) (fun I41 H locs eI41 hP hD hS => ?_)
  have hvI : InvI Wm_lo Wm_hi I41 := inv_upI hvI 12 eI41 (show ((0 : Int) ≤ x40.toInt ∧ x40.toInt ≤ (1 : Int)) from by omega)
  have hsI := smF_up hsI eI41 (by decide)
  have hv_I41 := hvI
  have u_I41_1 : (I41 1).toInt = (I39 1).toInt := by rw [eI41]; rfl
  have u_I41_2 : (I41 2).toInt = (I39 2).toInt := by rw [eI41]; rfl
  have u_I41_3 : (I41 3).toInt = (I39 3).toInt := by rw [eI41]; rfl
  have u_I41_4 : (I41 4).toInt = (I39 4).toInt := by rw [eI41]; rfl
  have u_I41_6 : (I41 6).toInt = (I39 6).toInt := by rw [eI41]; rfl
  have u_I41_10 : (I41 10).toInt = (I39 10).toInt := by rw [eI41]; rfl
  have u_I41_11 : (I41 11).toInt = (I39 11).toInt := by rw [eI41]; rfl
  have u_I41_12 : (I41 12).toInt = x40.toInt := by rw [eI41]; rfl
  refine lv_aload_n hx hb dX12_house_38 rfl (lv_at hl 0 rfl) ?_
  refine g_get F hK hP 0 (Wm_at0 G g q I41 J0 R0 L0) clX12 13 (by decide) flX12_51 rfl dX12_house_39 ?_
  refine lv_aload_n hx hb dX12_house_42 rfl (lv_at hl 0 rfl) ?_
  refine g_get F hK hP 0 (Wm_at0 G g q I41 J0 R0 L0) clX12 44 (by decide) flX12_146 rfl dX12_house_43 ?_
  have w_I41_12 := rg (hv_I41 12 (by decide)) (0) (1) rfl rfl
  refine lv_iconst (v := 0) hx hb dX12_house_46 (by decide) ?_
  refine p_row (W1 := fun y => Wm G g q I41 J0 y L0) (n := 1) F hK hP hD hS 2 (Wm_at2 G g q I41 J0 R0 L0) (in_of (by omega)) dX12_house_47 (Wm_rowR1 G g q I41 J0 R0 L0) (fun R42 H locs eR42 hP hD hS => ?_)
  have hvR : InvR Wm_rl R42 := inv_upR hvR 1 eR42 (upd_in (hvR 1 (by decide)) (by decide))
  have hsR := smF_up hsR eR42 (by decide)
  refine lv_aload_n hx hb dX12_house_48 rfl (lv_at hl 0 rfl) ?_
  refine g_get F hK hP 0 (Wm_at0 G g q I41 J0 R42 L0) clX12 18 (by decide) flX12_67 rfl dX12_house_49 ?_
  refine lv_aload_n hx hb dX12_house_52 rfl (lv_at hl 0 rfl) ?_
  refine g_get F hK hP 0 (Wm_at0 G g q I41 J0 R42 L0) clX12 44 (by decide) flX12_146 rfl dX12_house_53 ?_
  refine lv_iconst (v := 0) hx hb dX12_house_56 (by decide) ?_
  refine p_row (W1 := fun y => Wm G g q I41 J0 y L0) (n := 5) F hK hP hD hS 7 (Wm_at7 G g q I41 J0 R42 L0) (in_of (by omega)) dX12_house_57 (Wm_rowR5 G g q I41 J0 R42 L0) (fun R43 H locs eR43 hP hD hS => ?_)
  have hvR : InvR Wm_rl R43 := inv_upR hvR 5 eR43 (upd_in (hvR 5 (by decide)) (by decide))
  have hsR := smF_up hsR eR43 (by decide)
  refine lv_aload_n hx hb dX12_house_58 rfl (lv_at hl 0 rfl) ?_
  refine g_get F hK hP 0 (Wm_at0 G g q I41 J0 R43 L0) clX12 21 (by decide) flX12_77 rfl dX12_house_59 ?_
  refine lv_aload_n hx hb dX12_house_62 rfl (lv_at hl 0 rfl) ?_
  refine g_get F hK hP 0 (Wm_at0 G g q I41 J0 R43 L0) clX12 44 (by decide) flX12_146 rfl dX12_house_63 ?_
  refine lv_iconst (v := 0) hx hb dX12_house_66 (by decide) ?_
  refine p_row (W1 := fun y => Wm G g q I41 J0 y L0) (n := 7) F hK hP hD hS 10 (Wm_at10 G g q I41 J0 R43 L0) (in_of (by omega)) dX12_house_67 (Wm_rowR7 G g q I41 J0 R43 L0) (fun R44 H locs eR44 hP hD hS => ?_)
  have hvR : InvR Wm_rl R44 := inv_upR hvR 7 eR44 (upd_in (hvR 7 (by decide)) (by decide))
  have hsR := smF_up hsR eR44 (by decide)
  refine lv_aload_n hx hb dX12_house_68 rfl (lv_at hl 0 rfl) ?_
  refine g_get F hK hP 0 (Wm_at0 G g q I41 J0 R44 L0) clX12 30 (by decide) flX12_104 rfl dX12_house_69 ?_
  refine lv_aload_n hx hb dX12_house_72 rfl (lv_at hl 0 rfl) ?_
  refine g_get F hK hP 0 (Wm_at0 G g q I41 J0 R44 L0) clX12 44 (by decide) flX12_146 rfl dX12_house_73 ?_
  refine lv_iconst (v := 0) hx hb dX12_house_76 (by decide) ?_
  refine p_row (W1 := fun y => Wm G g q I41 J0 y L0) (n := 15) F hK hP hD hS 19 (Wm_at19 G g q I41 J0 R44 L0) (in_of (by omega)) dX12_house_77 (Wm_rowR15 G g q I41 J0 R44 L0) (fun R45 H locs eR45 hP hD hS => ?_)
  have hvR : InvR Wm_rl R45 := inv_upR hvR 15 eR45 (upd_in (hvR 15 (by decide)) (by decide))
  have hsR := smF_up hsR eR45 (by decide)
  refine lv_aload_n hx hb dX12_house_78 rfl (lv_at hl 0 rfl) ?_
  refine g_get F hK hP 0 (Wm_at0 G g q I41 J0 R45 L0) clX12 37 (by decide) flX12_125 rfl dX12_house_79 ?_
  refine lv_aload_n hx hb dX12_house_82 rfl (lv_at hl 0 rfl) ?_
  refine g_get F hK hP 0 (Wm_at0 G g q I41 J0 R45 L0) clX12 44 (by decide) flX12_146 rfl dX12_house_83 ?_
  refine lv_iconst (v := 0) hx hb dX12_house_86 (by decide) ?_
  refine p_row (W1 := fun y => Wm G g q I41 J0 y L0) (n := 22) F hK hP hD hS 26 (Wm_at26 G g q I41 J0 R45 L0) (in_of (by omega)) dX12_house_87 (Wm_rowR22 G g q I41 J0 R45 L0) (fun R46 H locs eR46 hP hD hS => ?_)
  have hvR : InvR Wm_rl R46 := inv_upR hvR 22 eR46 (upd_in (hvR 22 (by decide)) (by decide))
  have hsR := smF_up hsR eR46 (by decide)
  refine lv_aload_n hx hb dX12_house_88 rfl (lv_at hl 0 rfl) ?_
  refine g_get F hK hP 0 (Wm_at0 G g q I41 J0 R46 L0) clX12 36 (by decide) flX12_122 rfl dX12_house_89 ?_
  refine lv_aload_n hx hb dX12_house_92 rfl (lv_at hl 0 rfl) ?_
  refine g_get F hK hP 0 (Wm_at0 G g q I41 J0 R46 L0) clX12 44 (by decide) flX12_146 rfl dX12_house_93 ?_
  refine lv_bipush (v := 50) hx hb dX12_house_96 (by decide) ?_
  refine p_row (W1 := fun y => Wm G g q I41 J0 y L0) (n := 21) F hK hP hD hS 25 (Wm_at25 G g q I41 J0 R46 L0) (in_of (by omega)) dX12_house_98 (Wm_rowR21 G g q I41 J0 R46 L0) (fun R47 H locs eR47 hP hD hS => ?_)
  have hvR : InvR Wm_rl R47 := inv_upR hvR 21 eR47 (upd_in (hvR 21 (by decide)) (full _))
  have hsR := smF_up hsR eR47 (by decide)
  refine lv_iconst (v := 0) hx hb dX12_house_99 (by decide) ?_
  refine lv_istore_n (lv' := [(1, .int 0), (0, .ref (g 45))]) hx hb dX12_house_100 rfl hl (by decide) rfl (fun ls hl => ?_)
  exact lab_101 6 0 I41 J0 R47 L0 _ _ _ (show (5 - 0) < ((6 : Nat) : Int) from by omega) hvI hvR hsI hsR (by decide) (show ((I41 4).toInt = 0) from by omega) (show ((I41 6).toInt = 0) from by omega) (show ((I41 12).toInt = 1 - (I0 10).toInt) from by omega) (show ((I41 10).toInt = (I0 10).toInt) from by omega) (show (WfC (Int32.toNatClampNeg (I0 10)) R47 1800) from wf_row hWf (by rw [up_ne (j := 22) eR47 (by decide), eR46, va_up_self, up_off _ _ (by have c1 := clamp_nn (x := (I41 12)) (by omega); have c2 := clamp_nn (x := (I0 10)) (by omega); omega), up_ne (j := 22) eR45 (by decide), up_ne (j := 22) eR44 (by decide), up_ne (j := 22) eR43 (by decide), up_ne (j := 22) eR42 (by decide)]) (((((((up_ne (j := 23) eR47 (by decide)).trans (up_ne (j := 23) eR46 (by decide))).trans (up_ne (j := 23) eR45 (by decide))).trans (up_ne (j := 23) eR44 (by decide))).trans (up_ne (j := 23) eR43 (by decide))).trans (up_ne (j := 23) eR42 (by decide)))) (((((((up_ne (j := 24) eR47 (by decide)).trans (up_ne (j := 24) eR46 (by decide))).trans (up_ne (j := 24) eR45 (by decide))).trans (up_ne (j := 24) eR44 (by decide))).trans (up_ne (j := 24) eR43 (by decide))).trans (up_ne (j := 24) eR42 (by decide)))) (((((((up_ne (j := 25) eR47 (by decide)).trans (up_ne (j := 25) eR46 (by decide))).trans (up_ne (j := 25) eR45 (by decide))).trans (up_ne (j := 25) eR44 (by decide))).trans (up_ne (j := 25) eR43 (by decide))).trans (up_ne (j := 25) eR42 (by decide)))) (((((((up_ne (j := 26) eR47 (by decide)).trans (up_ne (j := 26) eR46 (by decide))).trans (up_ne (j := 26) eR45 (by decide))).trans (up_ne (j := 26) eR44 (by decide))).trans (up_ne (j := 26) eR43 (by decide))).trans (up_ne (j := 26) eR42 (by decide))))) (show ((R47 22 (Int32.toNatClampNeg (I41 12))).toInt = 0) from by rw [up_ne (j := 22) eR47 (by decide), eR46, va_up_self, up_at]; rfl) hP hD hS (lv_sub hl [1, 0] rfl)
