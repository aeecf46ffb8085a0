def HSum (l : Launch) (G : Gx) (D n : Nat) : Prop := ∀ (g q : Nat → Nat) (I0 : Nat → Int32) (J0 : Nat → Int64) (R0 : Nat → Nat → Int32) (L0 : Nat → Nat → Int64) (hvI : InvI Wd_lo Wd_hi I0) (hvR : InvR Wd_rl R0) (hq2 : q 2 = (g 35)) (p1 : Int32) (hp1 : ((0 : Int) ≤ p1.toInt ∧ p1.toInt ≤ (8 : Int))), 8 - p1.toInt < (n : Int) → CtV (S := St) l yX6_readSum cX6_readSum 4 none (rmD D 0 0) G [.ref (g 76), .int p1] (Wd G g q I0 J0 R0 L0) (fun u => InvI Wd_lo Wd_hi u.1 ∧ InvR Wd_rl u.2.2.1 ∧ SmF ([17, 24, 25, 26, 27, 28, 29, 30] : List Nat) I0 u.1 ∧ SmF ([44] : List Nat) R0 u.2.2.1) (fun u => Wd G g q u.1 u.2.1 u.2.2.1 u.2.2.2)
set_option maxHeartbeats 4000000 in
set_option maxRecDepth 100000 in
theorem sr_X6_readPair (l : Launch) (G : Gx) (D n : Nat) (hDD : 16 ≤ D) (hIH : HSum l G D n) (g q : Nat → Nat) (I0 : Nat → Int32) (J0 : Nat → Int64) (R0 : Nat → Nat → Int32) (L0 : Nat → Nat → Int64) (hvI : InvI Wd_lo Wd_hi I0) (hvR : InvR Wd_rl R0) (hq2 : q 2 = (g 35)) (p1 : Int32) (p2 : Int32) (hp1 : ((0 : Int) ≤ p1.toInt ∧ p1.toInt ≤ (8 : Int))) (hp2 : ((13 : Int) ≤ p2.toInt ∧ p2.toInt ≤ (14 : Int))) (hlev : 8 - p1.toInt < (n : Int) + 1) : CtV (S := St) l yX6_readPair cX6_readPair 3 none (rmD (D + 1) 0 0) G [.ref (g 76), .int p1, .int p2] (Wd G g q I0 J0 R0 L0) (fun u => InvI Wd_lo Wd_hi u.1 ∧ InvR Wd_rl u.2.2.1 ∧ SmF ([17, 24, 25, 26, 27, 28, 29, 30] : List Nat) I0 u.1 ∧ SmF ([44] : List Nat) R0 u.2.2.1) (fun u => Wd G g q u.1 u.2.1 u.2.2.1 u.2.2.2) := by
  refine ctV_of (own := RX6) (by decide +kernel) rfl (Nat.le_of_ble_eq_true rfl) ?_
  intro p e s m below meth c A ls F hr hlk hnm hK hP hD hA hS hl
  have hx := F.1
  have hb := F.2.1
  have hown := F.2.2.2.1
  have hl : lv_has ls 3 [(0, .ref (g 76)), (1, .int p1), (2, .int p2)] := hl
  obtain ⟨Q, hQ⟩ : ∃ Q : State → Prop, Q = MQ below (va_Qv (S := St) (fun u => InvI Wd_lo Wd_hi u.1 ∧ InvR Wd_rl u.2.2.1 ∧ SmF ([17, 24, 25, 26, 27, 28, 29, 30] : List Nat) I0 u.1 ∧ SmF ([44] : List Nat) R0 u.2.2.1) (BX G A (fun u => Wd G g q u.1 u.2.1 u.2.2.1 u.2.2.2)) A) [.ref (g 76), .int p1, .int p2].toArray s 0 0 A := ⟨_, rfl⟩
  rw [show (MQ below (va_Qv (S := St) (fun u => InvI Wd_lo Wd_hi u.1 ∧ InvR Wd_rl u.2.2.1 ∧ SmF ([17, 24, 25, 26, 27, 28, 29, 30] : List Nat) I0 u.1 ∧ SmF ([44] : List Nat) R0 u.2.2.1) (BX G A (fun u => Wd G g q u.1 u.2.1 u.2.2.1 u.2.2.2)) A) [.ref (g 76), .int p1, .int p2].toArray s (rmD (D + 1) 0 0).cells (rmD (D + 1) 0 0).slots A) = Q from hQ.symm]
  have hsI := smF_rf ([17, 24, 25, 26, 27, 28, 29, 30] : List Nat) I0
  have hsR := smF_rf ([44] : List Nat) R0
  refine lv_aload_n hx hb dX6_readPair_0 rfl (lv_at hl 0 rfl) ?_
  refine g_get F hK hP 69 (Wd_at69 G g q I0 J0 R0 L0) clX6 0 (by decide) flX6_9 rfl dX6_readPair_1 ?_
  refine wvv (As := []) (rest := []) (b := (g 75)) (d := 3) F hK hP hD hS hA (s_X5_take l G g q I0 J0 R0 L0 hvI hvR   ) kmV_X5_take mlX6_49 clX5 rfl 68 (Wd_at68 G g q I0 J0 R0 L0) ⟨(by show 3 + 1 ≤ D + 1; omega), (by show 8 + (4 + 11) + 60 * (3) ≤ 60 * (D + 1); omega)⟩ hl.1 rfl (Nat.le_of_ble_eq_true rfl) dX6_readPair_4 (fun u2 H locs hwr1 hP hD hS => ?_)
  obtain ⟨I3, J4, R5, L6⟩ := u2
  replace hP : va_P G.1 vwCl (Wd G g q I3 J4 R5 L6) H := hP
  replace hD : va_D A (Wd G g q I3 J4 R5 L6) := hD
  obtain ⟨hvI, hvR, tIr1, tRr1, F0r1⟩ := hwr1
  replace F0r1 : ((¬ (I0 29).toInt = 0) → (¬ (I3 29).toInt = 0)) := F0r1
  replace hvI : InvI Wd_lo Wd_hi I3 := hvI
  replace hvR : InvR Wd_rl R5 := hvR
  replace tIr1 : SmF ([24, 25, 26, 27, 28, 29, 30] : List Nat) I0 I3 := tIr1
  replace tRr1 : SmF ([] : List Nat) R0 R5 := tRr1
  have hsI := smF_tr hsI tIr1 (by decide)
  have hsR := smF_tr hsR tRr1 (by decide)
  refine lv_aload_n hx hb dX6_readPair_7 rfl (lv_at hl 0 rfl) ?_
  refine lv_bipush (v := 40) hx hb dX6_readPair_8 (by decide) ?_
  refine lv_iload_n hx hb dX6_readPair_10 rfl (lv_at hl 1 rfl) ?_
  refine wvi (As := [.int 40, .int p1]) (rest := []) (b := (g 76)) (d := 4) F hK hP hD hS hA (s_X6_takeOpening l G g q I3 J4 R5 L6 hvI hvR hq2 40 p1 (by decide) (show ((0 : Int) ≤ p1.toInt ∧ p1.toInt ≤ (8 : Int)) from by omega)) kmV_X6_takeOpening mlX6_63 clX6 rfl 69 (Wd_at69 G g q I3 J4 R5 L6) ⟨(by show 4 + 1 ≤ D + 1; omega), (by show 8 + (3 + 11) + 60 * (4) ≤ 60 * (D + 1); omega)⟩ hl.1 rfl (Nat.le_of_ble_eq_true rfl) dX6_readPair_11 (fun r7 u8 H locs hwr7 hP hD hS => ?_)
  obtain ⟨I9, J10, R11, L12⟩ := u8
  replace hP : va_P G.1 vwCl (Wd G g q I9 J10 R11 L12) H := hP
  replace hD : va_D A (Wd G g q I9 J10 R11 L12) := hD
  obtain ⟨hvI, hvR, tIr7, tRr7, F0r7, F1r7, F2r7⟩ := hwr7
  replace F0r7 : ((0 : Int) ≤ r7.toInt ∧ r7.toInt ≤ (1 : Int)) := F0r7
  replace F1r7 : (r7.toInt = 1 → p1.toInt ≤ 7) := F1r7
  replace F2r7 : ((¬ (I3 29).toInt = 0) → (¬ (I9 29).toInt = 0)) := F2r7
  replace hvI : InvI Wd_lo Wd_hi I9 := hvI
  replace hvR : InvR Wd_rl R11 := hvR
  replace tIr7 : SmF ([24, 25, 26, 27, 28, 29, 30] : List Nat) I3 I9 := tIr7
  replace tRr7 : SmF ([] : List Nat) R5 R11 := tRr7
  have hsI := smF_tr hsI tIr7 (by decide)
  have hsR := smF_tr hsR tRr7 (by decide)
  refine lv_if_eq (tgt := 58) hx hb dX6_readPair_14 (by decide) (fun c13 => ?_) (fun c13 => ?_)
  · have gc13 : r7.toInt = 0 := congrArg Int32.toInt c13
    rw [hQ]
    exact q_v F hr hlk (I9, J10, R11, L12) hP hD hS ⟨hvI, hvR, hsI, hsR⟩ dX6_readPair_58 (Nat.le_of_ble_eq_true rfl) (Nat.le_of_ble_eq_true rfl)
  · have gc13 : ¬ (r7.toInt = 0) := fun q0 => c13 (Int32.toInt_inj.mp q0)
    refine lv_aload_n hx hb dX6_readPair_17 rfl (lv_at hl 0 rfl) ?_
    refine lv_iload_n hx hb dX6_readPair_18 rfl (lv_at hl 1 rfl) ?_
    refine lv_iconst (v := 1) hx hb dX6_readPair_19 (by decide) ?_
    refine lv_iadd hx hb dX6_readPair_20 ?_
    refine lv_topi (fun x14 ex14 => ?_)
    have fx14 : x14.toInt = p1.toInt + 1 := by rw [ex14]; exact t_add (by show (-2147483648 : Int) ≤ p1.toInt + 1; omega) (by show p1.toInt + 1 ≤ 2147483647; omega)
    refine wvv (As := [.int x14]) (rest := []) (b := (g 76)) (d := D) F hK hP hD hS hA (hIH g q I9 J10 R11 L12 hvI hvR hq2 x14 (show ((0 : Int) ≤ x14.toInt ∧ x14.toInt ≤ (8 : Int)) from by omega) (show 8 - x14.toInt < (n : Int) from by omega)) kmV_X6_readSum mlX6_24 clX6 rfl 69 (Wd_at69 G g q I9 J10 R11 L12) ⟨(by show D + 1 ≤ D + 1; omega), (by show 8 + (4 + 11) + 60 * (D) ≤ 60 * (D + 1); omega)⟩ hl.1 rfl (Nat.le_of_ble_eq_true rfl) dX6_readPair_21 (fun u16 H locs hwr15 hP hD hS => ?_)
    obtain ⟨I17, J18, R19, L20⟩ := u16
    replace hP : va_P G.1 vwCl (Wd G g q I17 J18 R19 L20) H := hP
    replace hD : va_D A (Wd G g q I17 J18 R19 L20) := hD
    obtain ⟨hvI, hvR, tIr15, tRr15⟩ := hwr15
    replace hvI : InvI Wd_lo Wd_hi I17 := hvI
    replace hvR : InvR Wd_rl R19 := hvR
    replace tIr15 : SmF ([17, 24, 25, 26, 27, 28, 29, 30] : List Nat) I9 I17 := tIr15
    replace tRr15 : SmF ([44] : List Nat) R11 R19 := tRr15
    have hsI := smF_tr hsI tIr15 (by decide)
    have hsR := smF_tr hsR tRr15 (by decide)
    refine lv_aload_n hx hb dX6_readPair_24 rfl (lv_at hl 0 rfl) ?_
    refine g_get F hK hP 69 (Wd_at69 G g q I17 J18 R19 L20) clX6 0 (by decide) flX6_9 rfl dX6_readPair_25 ?_
    refine lv_bipush (v := 44) hx hb dX6_readPair_28 (by decide) ?_
    refine wvv (As := [.int 44]) (rest := []) (b := (g 75)) (d := 4) F hK hP hD hS hA (s_X5_takeSign l G g q I17 J18 R19 L20 hvI hvR  44 (by decide)) kmV_X5_takeSign mlX6_67 clX5 rfl 68 (Wd_at68 G g q I17 J18 R19 L20) ⟨(by show 4 + 1 ≤ D + 1; omega), (by show 8 + (2 + 11) + 60 * (4) ≤ 60 * (D + 1); omega)⟩ hl.1 rfl (Nat.le_of_ble_eq_true rfl) dX6_readPair_30 (fun u22 H locs hwr21 hP hD hS => ?_)
    obtain ⟨I23, J24, R25, L26⟩ := u22
    replace hP : va_P G.1 vwCl (Wd G g q I23 J24 R25 L26) H := hP
    replace hD : va_D A (Wd G g q I23 J24 R25 L26) := hD
    obtain ⟨hvI, hvR, tIr21, tRr21, F0r21⟩ := hwr21
    replace F0r21 : ((¬ (I17 29).toInt = 0) → (¬ (I23 29).toInt = 0)) := F0r21
    replace hvI : InvI Wd_lo Wd_hi I23 := hvI
    replace hvR : InvR Wd_rl R25 := hvR
    replace tIr21 : SmF ([24, 25, 26, 27, 28, 29, 30] : List Nat) I17 I23 := tIr21
    replace tRr21 : SmF ([] : List Nat) R19 R25 := tRr21
    have hsI := smF_tr hsI tIr21 (by decide)
    have hsR := smF_tr hsR tRr21 (by decide)
    refine lv_aload_n hx hb dX6_readPair_33 rfl (lv_at hl 0 rfl) ?_
    refine lv_iload_n hx hb dX6_readPair_34 rfl (lv_at hl 1 rfl) ?_
    refine lv_iconst (v := 1) hx hb dX6_readPair_35 (by decide) ?_
    refine lv_iadd hx hb dX6_readPair_36 ?_
    refine lv_topi (fun x27 ex27 => ?_)
    have fx27 : x27.toInt = p1.toInt + 1 := by rw [ex27]; exact t_add (by show (-2147483648 : Int) ≤ p1.toInt + 1; omega) (by show p1.toInt + 1 ≤ 2147483647; omega)
    refine wvv (As := [.int x27]) (rest := []) (b := (g 76)) (d := D) F hK hP hD hS hA (hIH g q I23 J24 R25 L26 hvI hvR hq2 x27 (show ((0 : Int) ≤ x27.toInt ∧ x27.toInt ≤ (8 : Int)) from by omega) (show 8 - x27.toInt < (n : Int) from by omega)) kmV_X6_readSum mlX6_24 clX6 rfl 69 (Wd_at69 G g q I23 J24 R25 L26) ⟨(by show D + 1 ≤ D + 1; omega), (by show 8 + (4 + 11) + 60 * (D) ≤ 60 * (D + 1); omega)⟩ hl.1 rfl (Nat.le_of_ble_eq_true rfl) dX6_readPair_37 (fun u29 H locs hwr28 hP hD hS => ?_)
    obtain ⟨I30, J31, R32, L33⟩ := u29
    replace hP : va_P G.1 vwCl (Wd G g q I30 J31 R32 L33) H := hP
    replace hD : va_D A (Wd G g q I30 J31 R32 L33) := hD
    obtain ⟨hvI, hvR, tIr28, tRr28⟩ := hwr28
    replace hvI : InvI Wd_lo Wd_hi I30 := hvI
    replace hvR : InvR Wd_rl R32 := hvR
    replace tIr28 : SmF ([17, 24, 25, 26, 27, 28, 29, 30] : List Nat) I23 I30 := tIr28
    replace tRr28 : SmF ([44] : List Nat) R25 R32 := tRr28
    have hsI := smF_tr hsI tIr28 (by decide)
    have hsR := smF_tr hsR tRr28 (by decide)
    refine lv_aload_n hx hb dX6_readPair_40 rfl (lv_at hl 0 rfl) ?_
    refine g_get F hK hP 69 (Wd_at69 G g q I30 J31 R32 L33) clX6 0 (by decide) flX6_9 rfl dX6_readPair_41 ?_
    refine lv_bipush (v := 41) hx hb dX6_readPair_44 (by decide) ?_
    refine wvv (As := [.int 41]) (rest := []) (b := (g 75)) (d := 4) F hK hP hD hS hA (s_X5_takeSign l G g q I30 J31 R32 L33 hvI hvR  41 (by decide)) kmV_X5_takeSign mlX6_67 clX5 rfl 68 (Wd_at68 G g q I30 J31 R32 L33) ⟨(by show 4 + 1 ≤ D + 1; omega), (by show 8 + (2 + 11) + 60 * (4) ≤ 60 * (D + 1); omega)⟩ hl.1 rfl (Nat.le_of_ble_eq_true rfl) dX6_readPair_46 (fun u35 H locs hwr34 hP hD hS => ?_)
    obtain ⟨I36, J37, R38, L39⟩ := u35
    replace hP : va_P G.1 vwCl (Wd G g q I36 J37 R38 L39) H := hP
    replace hD : va_D A (Wd G g q I36 J37 R38 L39) := hD
    obtain ⟨hvI, hvR, tIr34, tRr34, F0r34⟩ := hwr34
    replace F0r34 : ((¬ (I30 29).toInt = 0) → (¬ (I36 29).toInt = 0)) := F0r34
    replace hvI : InvI Wd_lo Wd_hi I36 := hvI
    replace hvR : InvR Wd_rl R38 := hvR
    replace tIr34 : SmF ([24, 25, 26, 27, 28, 29, 30] : List Nat) I30 I36 := tIr34
    replace tRr34 : SmF ([] : List Nat) R32 R38 := tRr34
    have hsI := smF_tr hsI tIr34 (by decide)
    have hsR := smF_tr hsR tRr34 (by decide)
    refine lv_aload_n hx hb dX6_readPair_49 rfl (lv_at hl 0 rfl) ?_
    refine g_get F hK hP 69 (Wd_at69 G g q I36 J37 R38 L39) clX6 1 (by decide) flX6_15 rfl dX6_readPair_50 ?_
    refine cst_r hq2 ?_
    refine lv_iload_n hx hb dX6_readPair_53 rfl (lv_at hl 2 rfl) ?_
    refine lv_iconst (v := 0) hx hb dX6_readPair_54 (by decide) ?_
    refine wvv (As := [.int p2, .int 0]) (rest := []) (b := (g 35)) (d := 1) F hK hP hD hS hA (s_X7_addStep l G g q I36 J37 R38 L39 hvI hvR  p2 0 (show ((-1 : Int) ≤ p2.toInt ∧ p2.toInt ≤ (19 : Int)) from by omega)) kmV_X7_addStep mlX6_52 clX7 rfl 36 (Wd_at36 G g q I36 J37 R38 L39) ⟨(by show 1 + 1 ≤ D + 1; omega), (by show 8 + (3 + 11) + 60 * (1) ≤ 60 * (D + 1); omega)⟩ hl.1 rfl (Nat.le_of_ble_eq_true rfl) dX6_readPair_55 (fun u41 H locs hwr40 hP hD hS => ?_)
    obtain ⟨I42, J43, R44, L45⟩ := u41
    replace hP : va_P G.1 vwCl (Wd G g q I42 J43 R44 L45) H := hP
    replace hD : va_D A (Wd G g q I42 J43 R44 L45) := hD
    obtain ⟨hvI, hvR, tIr40, tRr40⟩ := hwr40
    replace hvI : InvI Wd_lo Wd_hi I42 := hvI
    replace hvR : InvR Wd_rl R44 := hvR
    replace tIr40 : SmF ([17] : List Nat) I36 I42 := tIr40
    replace tRr40 : SmF ([44] : List Nat) R38 R44 := tRr40
    have hsI := smF_tr hsI tIr40 (by decide)
    have hsR := smF_tr hsR tRr40 (by decide)
    rw [hQ]
    exact q_v F hr hlk (I42, J43, R44, L45) hP hD hS ⟨hvI, hvR, hsI, hsR⟩ dX6_readPair_58 (Nat.le_of_ble_eq_true rfl) (Nat.le_of_ble_eq_true rfl)
set_option maxHeartbeats 4000000 in
set_option maxRecDepth 100000 in
theorem sr_X6_readPart (l : Launch) (G : Gx) (D n : Nat) (hDD : 16 ≤ D) (hIH : HSum l G D n) (g q : Nat → Nat) (I0 : Nat → Int32) (J0 : Nat → Int64) (R0 : Nat → Nat → Int32) (L0 : Nat → Nat → Int64) (hvI : InvI Wd_lo Wd_hi I0) (hvR : InvR Wd_rl R0) (hq2 : q 2 = (g 35)) (p1 : Int32) (hp1 : ((0 : Int) ≤ p1.toInt ∧ p1.toInt ≤ (8 : Int))) (hlev : 8 - p1.toInt < (n : Int) + 1) : CtV (S := St) l yX6_readPart cX6_readPart 2 none (rmD (D + 2) 0 0) G [.ref (g 76), .int p1] (Wd G g q I0 J0 R0 L0) (fun u => InvI Wd_lo Wd_hi u.1 ∧ InvR Wd_rl u.2.2.1 ∧ SmF ([17, 24, 25, 26, 27, 28, 29, 30] : List Nat) I0 u.1 ∧ SmF ([44] : List Nat) R0 u.2.2.1) (fun u => Wd G g q u.1 u.2.1 u.2.2.1 u.2.2.2) := by
  refine ctV_of (own := RX6) (by decide +kernel) rfl (Nat.le_of_ble_eq_true rfl) ?_
  intro p e s m below meth c A ls F hr hlk hnm hK hP hD hA hS hl
  have hx := F.1
  have hb := F.2.1
  have hown := F.2.2.2.1
  have hl : lv_has ls 2 [(0, .ref (g 76)), (1, .int p1)] := hl
  obtain ⟨Q, hQ⟩ : ∃ Q : State → Prop, Q = MQ below (va_Qv (S := St) (fun u => InvI Wd_lo Wd_hi u.1 ∧ InvR Wd_rl u.2.2.1 ∧ SmF ([17, 24, 25, 26, 27, 28, 29, 30] : List Nat) I0 u.1 ∧ SmF ([44] : List Nat) R0 u.2.2.1) (BX G A (fun u => Wd G g q u.1 u.2.1 u.2.2.1 u.2.2.2)) A) [.ref (g 76), .int p1].toArray s 0 0 A := ⟨_, rfl⟩
  rw [show (MQ below (va_Qv (S := St) (fun u => InvI Wd_lo Wd_hi u.1 ∧ InvR Wd_rl u.2.2.1 ∧ SmF ([17, 24, 25, 26, 27, 28, 29, 30] : List Nat) I0 u.1 ∧ SmF ([44] : List Nat) R0 u.2.2.1) (BX G A (fun u => Wd G g q u.1 u.2.1 u.2.2.1 u.2.2.2)) A) [.ref (g 76), .int p1].toArray s (rmD (D + 2) 0 0).cells (rmD (D + 2) 0 0).slots A) = Q from hQ.symm]
  have hsI := smF_rf ([17, 24, 25, 26, 27, 28, 29, 30] : List Nat) I0
  have hsR := smF_rf ([44] : List Nat) R0
  have w_I0_28 := rg (hvI 28 (by decide)) (-1) (32) rfl rfl
  refine lv_aload_n hx hb dX6_readPart_0 rfl (lv_at hl 0 rfl) ?_
  refine g_get F hK hP 69 (Wd_at69 G g q I0 J0 R0 L0) clX6 0 (by decide) flX6_9 rfl dX6_readPart_1 ?_
  refine wvi (As := []) (rest := []) (b := (g 75)) (d := 1) F hK hP hD hS hA (s_X5_isNumber l G g q I0 J0 R0 L0 hvI hvR   ) kmV_X5_isNumber mlX6_89 clX5 rfl 68 (Wd_at68 G g q I0 J0 R0 L0) ⟨(by show 1 + 1 ≤ D + 2; omega), (by show 8 + (1 + 11) + 60 * (1) ≤ 60 * (D + 2); omega)⟩ hl.1 rfl (Nat.le_of_ble_eq_true rfl) dX6_readPart_4 (fun r1 u2 H locs hwr1 hP hD hS => ?_)
  have F0r1 := hwr1
  replace F0r1 : ((0 : Int) ≤ r1.toInt ∧ r1.toInt ≤ (1 : Int)) := F0r1
  refine lv_if_eq (tgt := 23) hx hb dX6_readPart_7 (by decide) (fun c3 => ?_) (fun c3 => ?_)
  · have gc3 : r1.toInt = 0 := congrArg Int32.toInt c3
    refine lv_aload_n hx hb dX6_readPart_23 rfl (lv_at hl 0 rfl) ?_
    refine g_get F hK hP 69 (Wd_at69 G g q I0 J0 R0 L0) clX6 0 (by decide) flX6_9 rfl dX6_readPart_24 ?_
    refine g_get F hK hP 68 (Wd_at68 G g q I0 J0 R0 L0) clX5 6 (by decide) flX6_45 rfl dX6_readPart_27 ?_
    have w_I0_28 := rg (hvI 28 (by decide)) (-1) (32) rfl rfl
    by_cases h4 : (I0 28) = 5
    · have gh4 : (I0 28).toInt = 5 := congrArg Int32.toInt h4
      refine cst_i h4 ?_
      refine lv_lookup (off := 75) (tgt := 105) hx hb dX6_readPart_30 (by decide) (by decide) (by decide) ?_
      refine lv_aload_n hx hb dX6_readPart_105 rfl (lv_at hl 0 rfl) ?_
      refine lv_iconst (v := 2) hx hb dX6_readPart_106 (by decide) ?_
      refine lv_iconst (v := 0) hx hb dX6_readPart_107 (by decide) ?_
      refine wvv (As := [.int 2, .int 0]) (rest := []) (b := (g 76)) (d := 4) F hK hP hD hS hA (s_X6_addTaken l G g q I0 J0 R0 L0 hvI hvR hq2 2 0 (by decide)) kmV_X6_addTaken mlX6_70 clX6 rfl 69 (Wd_at69 G g q I0 J0 R0 L0) ⟨(by show 4 + 1 ≤ D + 2; omega), (by show 8 + (3 + 11) + 60 * (4) ≤ 60 * (D + 2); omega)⟩ hl.1 rfl (Nat.le_of_ble_eq_true rfl) dX6_readPart_108 (fun u6 H locs hwr5 hP hD hS => ?_)
      obtain ⟨I7, J8, R9, L10⟩ := u6
      replace hP : va_P G.1 vwCl (Wd G g q I7 J8 R9 L10) H := hP
      replace hD : va_D A (Wd G g q I7 J8 R9 L10) := hD
      obtain ⟨hvI, hvR, tIr5, tRr5⟩ := hwr5
      replace hvI : InvI Wd_lo Wd_hi I7 := hvI
      replace hvR : InvR Wd_rl R9 := hvR
      replace tIr5 : SmF ([17, 24, 25, 26, 27, 28, 29, 30] : List Nat) I0 I7 := tIr5
      replace tRr5 : SmF ([44] : List Nat) R0 R9 := tRr5
      have hsI := smF_tr hsI tIr5 (by decide)
      have hsR := smF_tr hsR tRr5 (by decide)
      have w_I7_28 := rg (hvI 28 (by decide)) (-1) (32) rfl rfl
      refine lv_goto (tgt := 187) hx hb dX6_readPart_111 (by decide) ?_
      rw [hQ]
      exact q_v F hr hlk (I7, J8, R9, L10) hP hD hS ⟨hvI, hvR, hsI, hsR⟩ dX6_readPart_187 (Nat.le_of_ble_eq_true rfl) (Nat.le_of_ble_eq_true rfl)
    by_cases h11 : (I0 28) = 27
    · have gh11 : (I0 28).toInt = 27 := congrArg Int32.toInt h11
      refine cst_i h11 ?_
      refine lv_lookup (off := 66) (tgt := 96) hx hb dX6_readPart_30 (by decide) (by decide) (by decide) ?_
      refine lv_aload_n hx hb dX6_readPart_96 rfl (lv_at hl 0 rfl) ?_
      refine lv_iconst (v := 1) hx hb dX6_readPart_97 (by decide) ?_
      refine lv_iconst (v := 0) hx hb dX6_readPart_98 (by decide) ?_
      refine wvv (As := [.int 1, .int 0]) (rest := []) (b := (g 76)) (d := 4) F hK hP hD hS hA (s_X6_addTaken l G g q I0 J0 R0 L0 hvI hvR hq2 1 0 (by decide)) kmV_X6_addTaken mlX6_70 clX6 rfl 69 (Wd_at69 G g q I0 J0 R0 L0) ⟨(by show 4 + 1 ≤ D + 2; omega), (by show 8 + (3 + 11) + 60 * (4) ≤ 60 * (D + 2); omega)⟩ hl.1 rfl (Nat.le_of_ble_eq_true rfl) dX6_readPart_99 (fun u13 H locs hwr12 hP hD hS => ?_)
      obtain ⟨I14, J15, R16, L17⟩ := u13
      replace hP : va_P G.1 vwCl (Wd G g q I14 J15 R16 L17) H := hP
      replace hD : va_D A (Wd G g q I14 J15 R16 L17) := hD
      obtain ⟨hvI, hvR, tIr12, tRr12⟩ := hwr12
      replace hvI : InvI Wd_lo Wd_hi I14 := hvI
      replace hvR : InvR Wd_rl R16 := hvR
      replace tIr12 : SmF ([17, 24, 25, 26, 27, 28, 29, 30] : List Nat) I0 I14 := tIr12
      replace tRr12 : SmF ([44] : List Nat) R0 R16 := tRr12
      have hsI := smF_tr hsI tIr12 (by decide)
      have hsR := smF_tr hsR tRr12 (by decide)
      have w_I14_28 := rg (hvI 28 (by decide)) (-1) (32) rfl rfl
      refine lv_goto (tgt := 187) hx hb dX6_readPart_102 (by decide) ?_
      rw [hQ]
      exact q_v F hr hlk (I14, J15, R16, L17) hP hD hS ⟨hvI, hvR, hsI, hsR⟩ dX6_readPart_187 (Nat.le_of_ble_eq_true rfl) (Nat.le_of_ble_eq_true rfl)
    by_cases h18 : (I0 28) = 28
    · have gh18 : (I0 28).toInt = 28 := congrArg Int32.toInt h18
      refine cst_i h18 ?_
      refine lv_lookup (off := 84) (tgt := 114) hx hb dX6_readPart_30 (by decide) (by decide) (by decide) ?_
      refine lv_aload_n hx hb dX6_readPart_114 rfl (lv_at hl 0 rfl) ?_
      refine lv_iconst (v := 3) hx hb dX6_readPart_115 (by decide) ?_
      refine lv_iconst (v := 0) hx hb dX6_readPart_116 (by decide) ?_
      refine wvv (As := [.int 3, .int 0]) (rest := []) (b := (g 76)) (d := 4) F hK hP hD hS hA (s_X6_addTaken l G g q I0 J0 R0 L0 hvI hvR hq2 3 0 (by decide)) kmV_X6_addTaken mlX6_70 clX6 rfl 69 (Wd_at69 G g q I0 J0 R0 L0) ⟨(by show 4 + 1 ≤ D + 2; omega), (by show 8 + (3 + 11) + 60 * (4) ≤ 60 * (D + 2); omega)⟩ hl.1 rfl (Nat.le_of_ble_eq_true rfl) dX6_readPart_117 (fun u20 H locs hwr19 hP hD hS => ?_)
      obtain ⟨I21, J22, R23, L24⟩ := u20
      replace hP : va_P G.1 vwCl (Wd G g q I21 J22 R23 L24) H := hP
      replace hD : va_D A (Wd G g q I21 J22 R23 L24) := hD
      obtain ⟨hvI, hvR, tIr19, tRr19⟩ := hwr19
      replace hvI : InvI Wd_lo Wd_hi I21 := hvI
      replace hvR : InvR Wd_rl R23 := hvR
      replace tIr19 : SmF ([17, 24, 25, 26, 27, 28, 29, 30] : List Nat) I0 I21 := tIr19
      replace tRr19 : SmF ([44] : List Nat) R0 R23 := tRr19
      have hsI := smF_tr hsI tIr19 (by decide)
      have hsR := smF_tr hsR tRr19 (by decide)
      have w_I21_28 := rg (hvI 28 (by decide)) (-1) (32) rfl rfl
      refine lv_goto (tgt := 187) hx hb dX6_readPart_120 (by decide) ?_
      rw [hQ]
      exact q_v F hr hlk (I21, J22, R23, L24) hP hD hS ⟨hvI, hvR, hsI, hsR⟩ dX6_readPart_187 (Nat.le_of_ble_eq_true rfl) (Nat.le_of_ble_eq_true rfl)
    by_cases h25 : (I0 28) = 29
    · have gh25 : (I0 28).toInt = 29 := congrArg Int32.toInt h25
      refine cst_i h25 ?_
      refine lv_lookup (off := 93) (tgt := 123) hx hb dX6_readPart_30 (by decide) (by decide) (by decide) ?_
      refine lv_aload_n hx hb dX6_readPart_123 rfl (lv_at hl 0 rfl) ?_
      refine lv_iconst (v := 4) hx hb dX6_readPart_124 (by decide) ?_
      refine lv_iconst (v := 0) hx hb dX6_readPart_125 (by decide) ?_
      refine wvv (As := [.int 4, .int 0]) (rest := []) (b := (g 76)) (d := 4) F hK hP hD hS hA (s_X6_addTaken l G g q I0 J0 R0 L0 hvI hvR hq2 4 0 (by decide)) kmV_X6_addTaken mlX6_70 clX6 rfl 69 (Wd_at69 G g q I0 J0 R0 L0) ⟨(by show 4 + 1 ≤ D + 2; omega), (by show 8 + (3 + 11) + 60 * (4) ≤ 60 * (D + 2); omega)⟩ hl.1 rfl (Nat.le_of_ble_eq_true rfl) dX6_readPart_126 (fun u27 H locs hwr26 hP hD hS => ?_)
      obtain ⟨I28, J29, R30, L31⟩ := u27
      replace hP : va_P G.1 vwCl (Wd G g q I28 J29 R30 L31) H := hP
      replace hD : va_D A (Wd G g q I28 J29 R30 L31) := hD
      obtain ⟨hvI, hvR, tIr26, tRr26⟩ := hwr26
      replace hvI : InvI Wd_lo Wd_hi I28 := hvI
      replace hvR : InvR Wd_rl R30 := hvR
      replace tIr26 : SmF ([17, 24, 25, 26, 27, 28, 29, 30] : List Nat) I0 I28 := tIr26
      replace tRr26 : SmF ([44] : List Nat) R0 R30 := tRr26
      have hsI := smF_tr hsI tIr26 (by decide)
      have hsR := smF_tr hsR tRr26 (by decide)
      have w_I28_28 := rg (hvI 28 (by decide)) (-1) (32) rfl rfl
      refine lv_goto (tgt := 187) hx hb dX6_readPart_129 (by decide) ?_
      rw [hQ]
      exact q_v F hr hlk (I28, J29, R30, L31) hP hD hS ⟨hvI, hvR, hsI, hsR⟩ dX6_readPart_187 (Nat.le_of_ble_eq_true rfl) (Nat.le_of_ble_eq_true rfl)
    by_cases h32 : (I0 28) = 30
    · have gh32 : (I0 28).toInt = 30 := congrArg Int32.toInt h32
      refine cst_i h32 ?_
      refine lv_lookup (off := 102) (tgt := 132) hx hb dX6_readPart_30 (by decide) (by decide) (by decide) ?_
      refine lv_aload_n hx hb dX6_readPart_132 rfl (lv_at hl 0 rfl) ?_
      refine lv_iconst (v := 5) hx hb dX6_readPart_133 (by decide) ?_
      refine lv_iconst (v := 0) hx hb dX6_readPart_134 (by decide) ?_
      refine wvv (As := [.int 5, .int 0]) (rest := []) (b := (g 76)) (d := 4) F hK hP hD hS hA (s_X6_addTaken l G g q I0 J0 R0 L0 hvI hvR hq2 5 0 (by decide)) kmV_X6_addTaken mlX6_70 clX6 rfl 69 (Wd_at69 G g q I0 J0 R0 L0) ⟨(by show 4 + 1 ≤ D + 2; omega), (by show 8 + (3 + 11) + 60 * (4) ≤ 60 * (D + 2); omega)⟩ hl.1 rfl (Nat.le_of_ble_eq_true rfl) dX6_readPart_135 (fun u34 H locs hwr33 hP hD hS => ?_)
      obtain ⟨I35, J36, R37, L38⟩ := u34
      replace hP : va_P G.1 vwCl (Wd G g q I35 J36 R37 L38) H := hP
      replace hD : va_D A (Wd G g q I35 J36 R37 L38) := hD
      obtain ⟨hvI, hvR, tIr33, tRr33⟩ := hwr33
      replace hvI : InvI Wd_lo Wd_hi I35 := hvI
      replace hvR : InvR Wd_rl R37 := hvR
      replace tIr33 : SmF ([17, 24, 25, 26, 27, 28, 29, 30] : List Nat) I0 I35 := tIr33
      replace tRr33 : SmF ([44] : List Nat) R0 R37 := tRr33
      have hsI := smF_tr hsI tIr33 (by decide)
      have hsR := smF_tr hsR tRr33 (by decide)
      have w_I35_28 := rg (hvI 28 (by decide)) (-1) (32) rfl rfl
      refine lv_goto (tgt := 187) hx hb dX6_readPart_138 (by decide) ?_
      rw [hQ]
      exact q_v F hr hlk (I35, J36, R37, L38) hP hD hS ⟨hvI, hvR, hsI, hsR⟩ dX6_readPart_187 (Nat.le_of_ble_eq_true rfl) (Nat.le_of_ble_eq_true rfl)
    by_cases h39 : (I0 28) = 31
    · have gh39 : (I0 28).toInt = 31 := congrArg Int32.toInt h39
      refine cst_i h39 ?_
      refine lv_lookup (off := 111) (tgt := 141) hx hb dX6_readPart_30 (by decide) (by decide) (by decide) ?_
      refine lv_aload_n hx hb dX6_readPart_141 rfl (lv_at hl 0 rfl) ?_
      refine lv_iload_n hx hb dX6_readPart_142 rfl (lv_at hl 1 rfl) ?_
      refine lv_bipush (v := 13) hx hb dX6_readPart_143 (by decide) ?_
      refine wvv (As := [.int p1, .int 13]) (rest := []) (b := (g 76)) (d := (D + 1)) F hK hP hD hS hA (sr_X6_readPair l G D n hDD hIH g q I0 J0 R0 L0 hvI hvR hq2 p1 13 (show ((0 : Int) ≤ p1.toInt ∧ p1.toInt ≤ (8 : Int)) from by omega) (by decide) (show 8 - p1.toInt < (n : Int) + 1 from by omega)) kmV_X6_readPair mlX6_96 clX6 rfl 69 (Wd_at69 G g q I0 J0 R0 L0) ⟨(by show (D + 1) + 1 ≤ D + 2; omega), (by show 8 + (3 + 11) + 60 * ((D + 1)) ≤ 60 * (D + 2); omega)⟩ hl.1 rfl (Nat.le_of_ble_eq_true rfl) dX6_readPart_145 (fun u41 H locs hwr40 hP hD hS => ?_)
      obtain ⟨I42, J43, R44, L45⟩ := u41
      replace hP : va_P G.1 vwCl (Wd G g q I42 J43 R44 L45) H := hP
      replace hD : va_D A (Wd G g q I42 J43 R44 L45) := hD
      obtain ⟨hvI, hvR, tIr40, tRr40⟩ := hwr40
      replace hvI : InvI Wd_lo Wd_hi I42 := hvI
      replace hvR : InvR Wd_rl R44 := hvR
      replace tIr40 : SmF ([17, 24, 25, 26, 27, 28, 29, 30] : List Nat) I0 I42 := tIr40
      replace tRr40 : SmF ([44] : List Nat) R0 R44 := tRr40
      have hsI := smF_tr hsI tIr40 (by decide)
      have hsR := smF_tr hsR tRr40 (by decide)
      have w_I42_28 := rg (hvI 28 (by decide)) (-1) (32) rfl rfl
      refine lv_goto (tgt := 187) hx hb dX6_readPart_148 (by decide) ?_
      rw [hQ]
      exact q_v F hr hlk (I42, J43, R44, L45) hP hD hS ⟨hvI, hvR, hsI, hsR⟩ dX6_readPart_187 (Nat.le_of_ble_eq_true rfl) (Nat.le_of_ble_eq_true rfl)
    by_cases h46 : (I0 28) = 32
    · have gh46 : (I0 28).toInt = 32 := congrArg Int32.toInt h46
      refine cst_i h46 ?_
      refine lv_lookup (off := 121) (tgt := 151) hx hb dX6_readPart_30 (by decide) (by decide) (by decide) ?_
      refine lv_aload_n hx hb dX6_readPart_151 rfl (lv_at hl 0 rfl) ?_
      refine lv_iload_n hx hb dX6_readPart_152 rfl (lv_at hl 1 rfl) ?_
      refine lv_bipush (v := 14) hx hb dX6_readPart_153 (by decide) ?_
      refine wvv (As := [.int p1, .int 14]) (rest := []) (b := (g 76)) (d := (D + 1)) F hK hP hD hS hA (sr_X6_readPair l G D n hDD hIH g q I0 J0 R0 L0 hvI hvR hq2 p1 14 (show ((0 : Int) ≤ p1.toInt ∧ p1.toInt ≤ (8 : Int)) from by omega) (by decide) (show 8 - p1.toInt < (n : Int) + 1 from by omega)) kmV_X6_readPair mlX6_96 clX6 rfl 69 (Wd_at69 G g q I0 J0 R0 L0) ⟨(by show (D + 1) + 1 ≤ D + 2; omega), (by show 8 + (3 + 11) + 60 * ((D + 1)) ≤ 60 * (D + 2); omega)⟩ hl.1 rfl (Nat.le_of_ble_eq_true rfl) dX6_readPart_155 (fun u48 H locs hwr47 hP hD hS => ?_)
      obtain ⟨I49, J50, R51, L52⟩ := u48
      replace hP : va_P G.1 vwCl (Wd G g q I49 J50 R51 L52) H := hP
      replace hD : va_D A (Wd G g q I49 J50 R51 L52) := hD
      obtain ⟨hvI, hvR, tIr47, tRr47⟩ := hwr47
      replace hvI : InvI Wd_lo Wd_hi I49 := hvI
      replace hvR : InvR Wd_rl R51 := hvR
      replace tIr47 : SmF ([17, 24, 25, 26, 27, 28, 29, 30] : List Nat) I0 I49 := tIr47
      replace tRr47 : SmF ([44] : List Nat) R0 R51 := tRr47
      have hsI := smF_tr hsI tIr47 (by decide)
      have hsR := smF_tr hsR tRr47 (by decide)
      have w_I49_28 := rg (hvI 28 (by decide)) (-1) (32) rfl rfl
      refine lv_goto (tgt := 187) hx hb dX6_readPart_158 (by decide) ?_
      rw [hQ]
      exact q_v F hr hlk (I49, J50, R51, L52) hP hD hS ⟨hvI, hvR, hsI, hsR⟩ dX6_readPart_187 (Nat.le_of_ble_eq_true rfl) (Nat.le_of_ble_eq_true rfl)
    refine lv_lookup (off := 131) (tgt := 161) hx hb dX6_readPart_30 (by decide) ((lv_osw h4 rfl).trans ((lv_osw h11 rfl).trans ((lv_osw h18 rfl).trans ((lv_osw h25 rfl).trans ((lv_osw h32 rfl).trans ((lv_osw h39 rfl).trans ((lv_osw h46 rfl).trans rfl))))))) (by decide) ?_
    refine lv_aload_n hx hb dX6_readPart_161 rfl (lv_at hl 0 rfl) ?_
    refine lv_bipush (v := 40) hx hb dX6_readPart_162 (by decide) ?_
    refine lv_iload_n hx hb dX6_readPart_164 rfl (lv_at hl 1 rfl) ?_
    refine wvi (As := [.int 40, .int p1]) (rest := []) (b := (g 76)) (d := 4) F hK hP hD hS hA (s_X6_takeOpening l G g q I0 J0 R0 L0 hvI hvR hq2 40 p1 (by decide) (show ((0 : Int) ≤ p1.toInt ∧ p1.toInt ≤ (8 : Int)) from by omega)) kmV_X6_takeOpening mlX6_63 clX6 rfl 69 (Wd_at69 G g q I0 J0 R0 L0) ⟨(by show 4 + 1 ≤ D + 2; omega), (by show 8 + (3 + 11) + 60 * (4) ≤ 60 * (D + 2); omega)⟩ hl.1 rfl (Nat.le_of_ble_eq_true rfl) dX6_readPart_165 (fun r53 u54 H locs hwr53 hP hD hS => ?_)
    obtain ⟨I55, J56, R57, L58⟩ := u54
    replace hP : va_P G.1 vwCl (Wd G g q I55 J56 R57 L58) H := hP
    replace hD : va_D A (Wd G g q I55 J56 R57 L58) := hD
    obtain ⟨hvI, hvR, tIr53, tRr53, F0r53, F1r53, F2r53⟩ := hwr53
    replace F0r53 : ((0 : Int) ≤ r53.toInt ∧ r53.toInt ≤ (1 : Int)) := F0r53
    replace F1r53 : (r53.toInt = 1 → p1.toInt ≤ 7) := F1r53
    replace F2r53 : ((¬ (I0 29).toInt = 0) → (¬ (I55 29).toInt = 0)) := F2r53
    replace hvI : InvI Wd_lo Wd_hi I55 := hvI
    replace hvR : InvR Wd_rl R57 := hvR
    replace tIr53 : SmF ([24, 25, 26, 27, 28, 29, 30] : List Nat) I0 I55 := tIr53
    replace tRr53 : SmF ([] : List Nat) R0 R57 := tRr53
    have hsI := smF_tr hsI tIr53 (by decide)
    have hsR := smF_tr hsR tRr53 (by decide)
    have w_I55_28 := rg (hvI 28 (by decide)) (-1) (32) rfl rfl
    refine lv_if_eq (tgt := 187) hx hb dX6_readPart_168 (by decide) (fun c59 => ?_) (fun c59 => ?_)
    · have gc59 : r53.toInt = 0 := congrArg Int32.toInt c59
      rw [hQ]
      exact q_v F hr hlk (I55, J56, R57, L58) hP hD hS ⟨hvI, hvR, hsI, hsR⟩ dX6_readPart_187 (Nat.le_of_ble_eq_true rfl) (Nat.le_of_ble_eq_true rfl)
    · have gc59 : ¬ (r53.toInt = 0) := fun q0 => c59 (Int32.toInt_inj.mp q0)
      refine lv_aload_n hx hb dX6_readPart_171 rfl (lv_at hl 0 rfl) ?_
      refine lv_iload_n hx hb dX6_readPart_172 rfl (lv_at hl 1 rfl) ?_
      refine lv_iconst (v := 1) hx hb dX6_readPart_173 (by decide) ?_
      refine lv_iadd hx hb dX6_readPart_174 ?_
      refine lv_topi (fun x60 ex60 => ?_)
      have fx60 : x60.toInt = p1.toInt + 1 := by rw [ex60]; exact t_add (by show (-2147483648 : Int) ≤ p1.toInt + 1; omega) (by show p1.toInt + 1 ≤ 2147483647; omega)
      refine wvv (As := [.int x60]) (rest := []) (b := (g 76)) (d := D) F hK hP hD hS hA (hIH g q I55 J56 R57 L58 hvI hvR hq2 x60 (show ((0 : Int) ≤ x60.toInt ∧ x60.toInt ≤ (8 : Int)) from by omega) (show 8 - x60.toInt < (n : Int) from by omega)) kmV_X6_readSum mlX6_24 clX6 rfl 69 (Wd_at69 G g q I55 J56 R57 L58) ⟨(by show D + 1 ≤ D + 2; omega), (by show 8 + (4 + 11) + 60 * (D) ≤ 60 * (D + 2); omega)⟩ hl.1 rfl (Nat.le_of_ble_eq_true rfl) dX6_readPart_175 (fun u62 H locs hwr61 hP hD hS => ?_)
      obtain ⟨I63, J64, R65, L66⟩ := u62
      replace hP : va_P G.1 vwCl (Wd G g q I63 J64 R65 L66) H := hP
      replace hD : va_D A (Wd G g q I63 J64 R65 L66) := hD
      obtain ⟨hvI, hvR, tIr61, tRr61⟩ := hwr61
      replace hvI : InvI Wd_lo Wd_hi I63 := hvI
      replace hvR : InvR Wd_rl R65 := hvR
      replace tIr61 : SmF ([17, 24, 25, 26, 27, 28, 29, 30] : List Nat) I55 I63 := tIr61
      replace tRr61 : SmF ([44] : List Nat) R57 R65 := tRr61
      have hsI := smF_tr hsI tIr61 (by decide)
      have hsR := smF_tr hsR tRr61 (by decide)
      have w_I63_28 := rg (hvI 28 (by decide)) (-1) (32) rfl rfl
      refine lv_aload_n hx hb dX6_readPart_178 rfl (lv_at hl 0 rfl) ?_
      refine g_get F hK hP 69 (Wd_at69 G g q I63 J64 R65 L66) clX6 0 (by decide) flX6_9 rfl dX6_readPart_179 ?_
      refine lv_bipush (v := 41) hx hb dX6_readPart_182 (by decide) ?_
      refine wvv (As := [.int 41]) (rest := []) (b := (g 75)) (d := 4) F hK hP hD hS hA (s_X5_takeSign l G g q I63 J64 R65 L66 hvI hvR  41 (by decide)) kmV_X5_takeSign mlX6_67 clX5 rfl 68 (Wd_at68 G g q I63 J64 R65 L66) ⟨(by show 4 + 1 ≤ D + 2; omega), (by show 8 + (2 + 11) + 60 * (4) ≤ 60 * (D + 2); omega)⟩ hl.1 rfl (Nat.le_of_ble_eq_true rfl) dX6_readPart_184 (fun u68 H locs hwr67 hP hD hS => ?_)
      obtain ⟨I69, J70, R71, L72⟩ := u68
      replace hP : va_P G.1 vwCl (Wd G g q I69 J70 R71 L72) H := hP
      replace hD : va_D A (Wd G g q I69 J70 R71 L72) := hD
      obtain ⟨hvI, hvR, tIr67, tRr67, F0r67⟩ := hwr67
      replace F0r67 : ((¬ (I63 29).toInt = 0) → (¬ (I69 29).toInt = 0)) := F0r67
      replace hvI : InvI Wd_lo Wd_hi I69 := hvI
      replace hvR : InvR Wd_rl R71 := hvR
      replace tIr67 : SmF ([24, 25, 26, 27, 28, 29, 30] : List Nat) I63 I69 := tIr67
      replace tRr67 : SmF ([] : List Nat) R65 R71 := tRr67
      have hsI := smF_tr hsI tIr67 (by decide)
      have hsR := smF_tr hsR tRr67 (by decide)
      have w_I69_28 := rg (hvI 28 (by decide)) (-1) (32) rfl rfl
      rw [hQ]
      exact q_v F hr hlk (I69, J70, R71, L72) hP hD hS ⟨hvI, hvR, hsI, hsR⟩ dX6_readPart_187 (Nat.le_of_ble_eq_true rfl) (Nat.le_of_ble_eq_true rfl)
  · have gc3 : ¬ (r1.toInt = 0) := fun q0 => c3 (Int32.toInt_inj.mp q0)
    refine lv_aload_n hx hb dX6_readPart_10 rfl (lv_at hl 0 rfl) ?_
    refine lv_iconst (v := 0) hx hb dX6_readPart_11 (by decide) ?_
    refine lv_aload_n hx hb dX6_readPart_12 rfl (lv_at hl 0 rfl) ?_
    refine g_get F hK hP 69 (Wd_at69 G g q I0 J0 R0 L0) clX6 0 (by decide) flX6_9 rfl dX6_readPart_13 ?_
    refine g_get F hK hP 68 (Wd_at68 G g q I0 J0 R0 L0) clX5 5 (by decide) flX6_93 rfl dX6_readPart_16 ?_
    refine wvv (As := [.int 0, .int (I0 27)]) (rest := []) (b := (g 76)) (d := 4) F hK hP hD hS hA (s_X6_addTaken l G g q I0 J0 R0 L0 hvI hvR hq2 0 ((I0 27)) (by decide)) kmV_X6_addTaken mlX6_70 clX6 rfl 69 (Wd_at69 G g q I0 J0 R0 L0) ⟨(by show 4 + 1 ≤ D + 2; omega), (by show 8 + (3 + 11) + 60 * (4) ≤ 60 * (D + 2); omega)⟩ hl.1 rfl (Nat.le_of_ble_eq_true rfl) dX6_readPart_19 (fun u74 H locs hwr73 hP hD hS => ?_)
    obtain ⟨I75, J76, R77, L78⟩ := u74
    replace hP : va_P G.1 vwCl (Wd G g q I75 J76 R77 L78) H := hP
    replace hD : va_D A (Wd G g q I75 J76 R77 L78) := hD
    obtain ⟨hvI, hvR, tIr73, tRr73⟩ := hwr73
    replace hvI : InvI Wd_lo Wd_hi I75 := hvI
    replace hvR : InvR Wd_rl R77 := hvR
    replace tIr73 : SmF ([17, 24, 25, 26, 27, 28, 29, 30] : List Nat) I0 I75 := tIr73
    replace tRr73 : SmF ([44] : List Nat) R0 R77 := tRr73
    have hsI := smF_tr hsI tIr73 (by decide)
    have hsR := smF_tr hsR tRr73 (by decide)
    have w_I75_28 := rg (hvI 28 (by decide)) (-1) (32) rfl rfl
    rw [hQ]
    exact q_v F hr hlk (I75, J76, R77, L78) hP hD hS ⟨hvI, hvR, hsI, hsR⟩ dX6_readPart_22 (Nat.le_of_ble_eq_true rfl) (Nat.le_of_ble_eq_true rfl)
set_option maxHeartbeats 4000000 in
set_option maxRecDepth 100000 in
theorem sr_X6_readProduct (l : Launch) (G : Gx) (D n : Nat) (hDD : 16 ≤ D) (hIH : HSum l G D n) (g q : Nat → Nat) (I0 : Nat → Int32) (J0 : Nat → Int64) (R0 : Nat → Nat → Int32) (L0 : Nat → Nat → Int64) (hvI : InvI Wd_lo Wd_hi I0) (hvR : InvR Wd_rl R0) (hq2 : q 2 = (g 35)) (p1 : Int32) (hp1 : ((0 : Int) ≤ p1.toInt ∧ p1.toInt ≤ (8 : Int))) (hlev : 8 - p1.toInt < (n : Int) + 1) : CtV (S := St) l yX6_readProduct cX6_readProduct 4 none (rmD (D + 3) 0 0) G [.ref (g 76), .int p1] (Wd G g q I0 J0 R0 L0) (fun u => InvI Wd_lo Wd_hi u.1 ∧ InvR Wd_rl u.2.2.1 ∧ SmF ([17, 24, 25, 26, 27, 28, 29, 30] : List Nat) I0 u.1 ∧ SmF ([44] : List Nat) R0 u.2.2.1) (fun u => Wd G g q u.1 u.2.1 u.2.2.1 u.2.2.2) := by
  refine ctV_of (own := RX6) (by decide +kernel) rfl (Nat.le_of_ble_eq_true rfl) ?_
  intro p e s m below meth c A ls F hr hlk hnm hK hP hD hA hS hl
  have hx := F.1
  have hb := F.2.1
  have hown := F.2.2.2.1
  have hl : lv_has ls 4 [(0, .ref (g 76)), (1, .int p1)] := hl
  obtain ⟨Q, hQ⟩ : ∃ Q : State → Prop, Q = MQ below (va_Qv (S := St) (fun u => InvI Wd_lo Wd_hi u.1 ∧ InvR Wd_rl u.2.2.1 ∧ SmF ([17, 24, 25, 26, 27, 28, 29, 30] : List Nat) I0 u.1 ∧ SmF ([44] : List Nat) R0 u.2.2.1) (BX G A (fun u => Wd G g q u.1 u.2.1 u.2.2.1 u.2.2.2)) A) [.ref (g 76), .int p1].toArray s 0 0 A := ⟨_, rfl⟩
  rw [show (MQ below (va_Qv (S := St) (fun u => InvI Wd_lo Wd_hi u.1 ∧ InvR Wd_rl u.2.2.1 ∧ SmF ([17, 24, 25, 26, 27, 28, 29, 30] : List Nat) I0 u.1 ∧ SmF ([44] : List Nat) R0 u.2.2.1) (BX G A (fun u => Wd G g q u.1 u.2.1 u.2.2.1 u.2.2.2)) A) [.ref (g 76), .int p1].toArray s (rmD (D + 3) 0 0).cells (rmD (D + 3) 0 0).slots A) = Q from hQ.symm]
  have hsI := smF_rf ([17, 24, 25, 26, 27, 28, 29, 30] : List Nat) I0
  have hsR := smF_rf ([44] : List Nat) R0
  have lab_7 : ∀ (k_7 : Nat) (a2_7 : Int32) (I_7 : Nat → Int32) (J_7 : Nat → Int64) (R_7 : Nat → Nat → Int32) (L_7 : Nat → Nat → Int64) (H : Heap) (locs : List Loc) (ls : Array Slot), ((1800 - a2_7.toInt) < (k_7 : Int)) → InvI Wd_lo Wd_hi I_7 → InvR Wd_rl R_7 → SmF ([17, 24, 25, 26, 27, 28, 29, 30] : List Nat) I0 I_7 → SmF ([44] : List Nat) R0 R_7 → ((0 : Int) ≤ a2_7.toInt ∧ a2_7.toInt ≤ (1800 : Int)) → va_P G.1 vwCl (Wd G g q I_7 J_7 R_7 L_7) H → va_D A (Wd G g q I_7 J_7 R_7 L_7) → va_S A s.heap H locs → lv_has ls 4 [(0, .ref (g 76)), (1, .int p1), (2, .int a2_7)] → W p l e (rmD (D + 3) 0 0) s m [.ref (g 76), .int p1].toArray below meth c H locs 0 0 Q (F0 m 7 ls []) := by
    intro k_7
    induction k_7 with
    | zero =>
      intro a2_7 I_7 J_7 R_7 L_7 H locs ls hm hvI hvR hsI hsR y0_7 hP hD hS hl
      exact absurd hm (by omega)
    | succ k_7 ih_7 =>
      intro a2_7 I_7 J_7 R_7 L_7 H locs ls hm hvI hvR hsI hsR y0_7 hP hD hS hl
      refine lv_iload_n hx hb dX6_readProduct_7 rfl (lv_at hl 2 rfl) ?_
      refine lv_sipush (v := 1800) hx hb dX6_readProduct_8 (by decide) ?_
      refine lv_icmp_ge (tgt := 54) hx hb dX6_readProduct_11 (by decide) (fun c1 => ?_) (fun c1 => ?_)
      · have gc1 : 1800 ≤ a2_7.toInt := (tle _ _).mp c1
        rw [hQ]
        exact q_v F hr hlk (I_7, J_7, R_7, L_7) hP hD hS ⟨hvI, hvR, hsI, hsR⟩ dX6_readProduct_54 (Nat.le_of_ble_eq_true rfl) (Nat.le_of_ble_eq_true rfl)
      · have gc1 : ¬ (1800 ≤ a2_7.toInt) := fun q0 => c1 ((tle _ _).mpr q0)
        refine lv_aload_n hx hb dX6_readProduct_14 rfl (lv_at hl 0 rfl) ?_
        refine wvi (As := []) (rest := []) (b := (g 76)) (d := 2) F hK hP hD hS hA (s_X6_productKind l G g q I_7 J_7 R_7 L_7 hvI hvR hq2  ) kmV_X6_productKind mlX6_86 clX6 rfl 69 (Wd_at69 G g q I_7 J_7 R_7 L_7) ⟨(by show 2 + 1 ≤ D + 3; omega), (by show 8 + (1 + 11) + 60 * (2) ≤ 60 * (D + 3); omega)⟩ hl.1 rfl (Nat.le_of_ble_eq_true rfl) dX6_readProduct_15 (fun r2 u3 H locs hwr2 hP hD hS => ?_)
        have F0r2 := hwr2
        replace F0r2 : ((-1 : Int) ≤ r2.toInt ∧ r2.toInt ≤ (12 : Int)) := F0r2
        refine lv_iconst (v := (-1)) hx hb dX6_readProduct_18 (by decide) ?_
        refine lv_icmp_eq (tgt := 54) hx hb dX6_readProduct_19 (by decide) (fun c4 => ?_) (fun c4 => ?_)
        · have gc4 : r2.toInt = (-1) := congrArg Int32.toInt c4
          rw [hQ]
          exact q_v F hr hlk (I_7, J_7, R_7, L_7) hP hD hS ⟨hvI, hvR, hsI, hsR⟩ dX6_readProduct_54 (Nat.le_of_ble_eq_true rfl) (Nat.le_of_ble_eq_true rfl)
        · have gc4 : ¬ (r2.toInt = (-1)) := fun q0 => c4 (Int32.toInt_inj.mp q0)
          refine lv_aload_n hx hb dX6_readProduct_22 rfl (lv_at hl 0 rfl) ?_
          refine wvi (As := []) (rest := []) (b := (g 76)) (d := 2) F hK hP hD hS hA (s_X6_productKind l G g q I_7 J_7 R_7 L_7 hvI hvR hq2  ) kmV_X6_productKind mlX6_86 clX6 rfl 69 (Wd_at69 G g q I_7 J_7 R_7 L_7) ⟨(by show 2 + 1 ≤ D + 3; omega), (by show 8 + (1 + 11) + 60 * (2) ≤ 60 * (D + 3); omega)⟩ hl.1 rfl (Nat.le_of_ble_eq_true rfl) dX6_readProduct_23 (fun r5 u6 H locs hwr5 hP hD hS => ?_)
          have F0r5 := hwr5
          replace F0r5 : ((-1 : Int) ≤ r5.toInt ∧ r5.toInt ≤ (12 : Int)) := F0r5
          refine lv_istore_n (lv' := [(3, .int r5), (0, .ref (g 76)), (1, .int p1), (2, .int a2_7)]) hx hb dX6_readProduct_26 rfl hl (by decide) rfl (fun ls hl => ?_)
          refine lv_aload_n hx hb dX6_readProduct_27 rfl (lv_at hl 1 rfl) ?_
          refine g_get F hK hP 69 (Wd_at69 G g q I_7 J_7 R_7 L_7) clX6 0 (by decide) flX6_9 rfl dX6_readProduct_28 ?_
          refine wvv (As := []) (rest := []) (b := (g 75)) (d := 3) F hK hP hD hS hA (s_X5_take l G g q I_7 J_7 R_7 L_7 hvI hvR   ) kmV_X5_take mlX6_49 clX5 rfl 68 (Wd_at68 G g q I_7 J_7 R_7 L_7) ⟨(by show 3 + 1 ≤ D + 3; omega), (by show 8 + (4 + 11) + 60 * (3) ≤ 60 * (D + 3); omega)⟩ hl.1 rfl (Nat.le_of_ble_eq_true rfl) dX6_readProduct_31 (fun u8 H locs hwr7 hP hD hS => ?_)
          obtain ⟨I9, J10, R11, L12⟩ := u8
          replace hP : va_P G.1 vwCl (Wd G g q I9 J10 R11 L12) H := hP
          replace hD : va_D A (Wd G g q I9 J10 R11 L12) := hD
          obtain ⟨hvI, hvR, tIr7, tRr7, F0r7⟩ := hwr7
          replace F0r7 : ((¬ (I_7 29).toInt = 0) → (¬ (I9 29).toInt = 0)) := F0r7
          replace hvI : InvI Wd_lo Wd_hi I9 := hvI
          replace hvR : InvR Wd_rl R11 := hvR
          replace tIr7 : SmF ([24, 25, 26, 27, 28, 29, 30] : List Nat) I_7 I9 := tIr7
          replace tRr7 : SmF ([] : List Nat) R_7 R11 := tRr7
          have hsI := smF_tr hsI tIr7 (by decide)
          have hsR := smF_tr hsR tRr7 (by decide)
          refine lv_aload_n hx hb dX6_readProduct_34 rfl (lv_at hl 1 rfl) ?_
          refine lv_iload_n hx hb dX6_readProduct_35 rfl (lv_at hl 2 rfl) ?_
          refine wvv (As := [.int p1]) (rest := []) (b := (g 76)) (d := (D + 2)) F hK hP hD hS hA (sr_X6_readPart l G D n hDD hIH g q I9 J10 R11 L12 hvI hvR hq2 p1 (show ((0 : Int) ≤ p1.toInt ∧ p1.toInt ≤ (8 : Int)) from by omega) (show 8 - p1.toInt < (n : Int) + 1 from by omega)) kmV_X6_readPart mlX6_83 clX6 rfl 69 (Wd_at69 G g q I9 J10 R11 L12) ⟨(by show (D + 2) + 1 ≤ D + 3; omega), (by show 8 + (2 + 11) + 60 * ((D + 2)) ≤ 60 * (D + 3); omega)⟩ hl.1 rfl (Nat.le_of_ble_eq_true rfl) dX6_readProduct_36 (fun u14 H locs hwr13 hP hD hS => ?_)
          obtain ⟨I15, J16, R17, L18⟩ := u14
          replace hP : va_P G.1 vwCl (Wd G g q I15 J16 R17 L18) H := hP
          replace hD : va_D A (Wd G g q I15 J16 R17 L18) := hD
          obtain ⟨hvI, hvR, tIr13, tRr13⟩ := hwr13
          replace hvI : InvI Wd_lo Wd_hi I15 := hvI
          replace hvR : InvR Wd_rl R17 := hvR
          replace tIr13 : SmF ([17, 24, 25, 26, 27, 28, 29, 30] : List Nat) I9 I15 := tIr13
          replace tRr13 : SmF ([44] : List Nat) R11 R17 := tRr13
          have hsI := smF_tr hsI tIr13 (by decide)
          have hsR := smF_tr hsR tRr13 (by decide)
          refine lv_aload_n hx hb dX6_readProduct_39 rfl (lv_at hl 1 rfl) ?_
          refine g_get F hK hP 69 (Wd_at69 G g q I15 J16 R17 L18) clX6 1 (by decide) flX6_15 rfl dX6_readProduct_40 ?_
          refine cst_r hq2 ?_
          refine lv_iload_n hx hb dX6_readProduct_43 rfl (lv_at hl 0 rfl) ?_
          refine lv_iconst (v := 0) hx hb dX6_readProduct_44 (by decide) ?_
          refine wvv (As := [.int r5, .int 0]) (rest := []) (b := (g 35)) (d := 1) F hK hP hD hS hA (s_X7_addStep l G g q I15 J16 R17 L18 hvI hvR  r5 0 (show ((-1 : Int) ≤ r5.toInt ∧ r5.toInt ≤ (19 : Int)) from by omega)) kmV_X7_addStep mlX6_52 clX7 rfl 36 (Wd_at36 G g q I15 J16 R17 L18) ⟨(by show 1 + 1 ≤ D + 3; omega), (by show 8 + (3 + 11) + 60 * (1) ≤ 60 * (D + 3); omega)⟩ hl.1 rfl (Nat.le_of_ble_eq_true rfl) dX6_readProduct_45 (fun u20 H locs hwr19 hP hD hS => ?_)
          obtain ⟨I21, J22, R23, L24⟩ := u20
          replace hP : va_P G.1 vwCl (Wd G g q I21 J22 R23 L24) H := hP
          replace hD : va_D A (Wd G g q I21 J22 R23 L24) := hD
          obtain ⟨hvI, hvR, tIr19, tRr19⟩ := hwr19
          replace hvI : InvI Wd_lo Wd_hi I21 := hvI
          replace hvR : InvR Wd_rl R23 := hvR
          replace tIr19 : SmF ([17] : List Nat) I15 I21 := tIr19
          replace tRr19 : SmF ([44] : List Nat) R17 R23 := tRr19
          have hsI := smF_tr hsI tIr19 (by decide)
          have hsR := smF_tr hsR tRr19 (by decide)
          obtain ⟨x25, ex25⟩ : ∃ y : Int32, y = a2_7 + 1 := ⟨_, rfl⟩
          have fx25 : x25.toInt = a2_7.toInt + (1 : Int) := by rw [ex25]; exact t_add (by show (-2147483648 : Int) ≤ a2_7.toInt + (1 : Int); omega) (by show a2_7.toInt + (1 : Int) ≤ 2147483647; omega)
          refine lv_iinc (v := x25) (lv' := [(2, .int x25), (3, .int r5), (0, .ref (g 76)), (1, .int p1)]) hx hb dX6_readProduct_48 hl (k := 3) rfl (by rw [ex25]; rfl) (by decide) rfl (fun ls hl => ?_)
          refine lv_goto (tgt := 7) hx hb dX6_readProduct_51 (by decide) ?_
          exact ih_7 x25 I21 J22 R23 L24 _ _ _ (show (1800 - x25.toInt) < (k_7 : Int) from by omega) hvI hvR hsI hsR (show ((0 : Int) ≤ x25.toInt ∧ x25.toInt ≤ (1800 : Int)) from by omega) hP hD hS (lv_sub hl [2, 3, 0] rfl)
  refine lv_aload_n hx hb dX6_readProduct_0 rfl (lv_at hl 0 rfl) ?_
  refine lv_iload_n hx hb dX6_readProduct_1 rfl (lv_at hl 1 rfl) ?_
  refine wvv (As := [.int p1]) (rest := []) (b := (g 76)) (d := (D + 2)) F hK hP hD hS hA (sr_X6_readPart l G D n hDD hIH g q I0 J0 R0 L0 hvI hvR hq2 p1 (show ((0 : Int) ≤ p1.toInt ∧ p1.toInt ≤ (8 : Int)) from by omega) (show 8 - p1.toInt < (n : Int) + 1 from by omega)) kmV_X6_readPart mlX6_83 clX6 rfl 69 (Wd_at69 G g q I0 J0 R0 L0) ⟨(by show (D + 2) + 1 ≤ D + 3; omega), (by show 8 + (2 + 11) + 60 * ((D + 2)) ≤ 60 * (D + 3); omega)⟩ hl.1 rfl (Nat.le_of_ble_eq_true rfl) dX6_readProduct_2 (fun u27 H locs hwr26 hP hD hS => ?_)
  obtain ⟨I28, J29, R30, L31⟩ := u27
  replace hP : va_P G.1 vwCl (Wd G g q I28 J29 R30 L31) H := hP
  replace hD : va_D A (Wd G g q I28 J29 R30 L31) := hD
  obtain ⟨hvI, hvR, tIr26, tRr26⟩ := hwr26
  replace hvI : InvI Wd_lo Wd_hi I28 := hvI
  replace hvR : InvR Wd_rl R30 := hvR
  replace tIr26 : SmF ([17, 24, 25, 26, 27, 28, 29, 30] : List Nat) I0 I28 := tIr26
  replace tRr26 : SmF ([44] : List Nat) R0 R30 := tRr26
  have hsI := smF_tr hsI tIr26 (by decide)
  have hsR := smF_tr hsR tRr26 (by decide)
  refine lv_iconst (v := 0) hx hb dX6_readProduct_5 (by decide) ?_
  refine lv_istore_n (lv' := [(2, .int 0), (0, .ref (g 76)), (1, .int p1)]) hx hb dX6_readProduct_6 rfl hl (by decide) rfl (fun ls hl => ?_)
  exact lab_7 1801 0 I28 J29 R30 L31 _ _ _ (show (1800 - 0) < ((1801 : Nat) : Int) from by omega) hvI hvR hsI hsR (by decide) hP hD hS (lv_sub hl [1, 2, 0] rfl)
set_option maxHeartbeats 4000000 in
set_option maxRecDepth 100000 in
theorem sr_X6_readSum (l : Launch) (G : Gx) (D n : Nat) (hDD : 16 ≤ D) (hIH : HSum l G D n) (g q : Nat → Nat) (I0 : Nat → Int32) (J0 : Nat → Int64) (R0 : Nat → Nat → Int32) (L0 : Nat → Nat → Int64) (hvI : InvI Wd_lo Wd_hi I0) (hvR : InvR Wd_rl R0) (hq2 : q 2 = (g 35)) (p1 : Int32) (hp1 : ((0 : Int) ≤ p1.toInt ∧ p1.toInt ≤ (8 : Int))) (hlev : 8 - p1.toInt < (n : Int) + 1) : CtV (S := St) l yX6_readSum cX6_readSum 4 none (rmD (D + 4) 0 0) G [.ref (g 76), .int p1] (Wd G g q I0 J0 R0 L0) (fun u => InvI Wd_lo Wd_hi u.1 ∧ InvR Wd_rl u.2.2.1 ∧ SmF ([17, 24, 25, 26, 27, 28, 29, 30] : List Nat) I0 u.1 ∧ SmF ([44] : List Nat) R0 u.2.2.1) (fun u => Wd G g q u.1 u.2.1 u.2.2.1 u.2.2.2) := by
  refine ctV_of (own := RX6) (by decide +kernel) rfl (Nat.le_of_ble_eq_true rfl) ?_
  intro p e s m below meth c A ls F hr hlk hnm hK hP hD hA hS hl
  have hx := F.1
  have hb := F.2.1
  have hown := F.2.2.2.1
  have hl : lv_has ls 4 [(0, .ref (g 76)), (1, .int p1)] := hl
  obtain ⟨Q, hQ⟩ : ∃ Q : State → Prop, Q = MQ below (va_Qv (S := St) (fun u => InvI Wd_lo Wd_hi u.1 ∧ InvR Wd_rl u.2.2.1 ∧ SmF ([17, 24, 25, 26, 27, 28, 29, 30] : List Nat) I0 u.1 ∧ SmF ([44] : List Nat) R0 u.2.2.1) (BX G A (fun u => Wd G g q u.1 u.2.1 u.2.2.1 u.2.2.2)) A) [.ref (g 76), .int p1].toArray s 0 0 A := ⟨_, rfl⟩
  rw [show (MQ below (va_Qv (S := St) (fun u => InvI Wd_lo Wd_hi u.1 ∧ InvR Wd_rl u.2.2.1 ∧ SmF ([17, 24, 25, 26, 27, 28, 29, 30] : List Nat) I0 u.1 ∧ SmF ([44] : List Nat) R0 u.2.2.1) (BX G A (fun u => Wd G g q u.1 u.2.1 u.2.2.1 u.2.2.2)) A) [.ref (g 76), .int p1].toArray s (rmD (D + 4) 0 0).cells (rmD (D + 4) 0 0).slots A) = Q from hQ.symm]
  have hsI := smF_rf ([17, 24, 25, 26, 27, 28, 29, 30] : List Nat) I0
  have hsR := smF_rf ([44] : List Nat) R0
  have lab_7 : ∀ (k_7 : Nat) (a2_7 : Int32) (I_7 : Nat → Int32) (J_7 : Nat → Int64) (R_7 : Nat → Nat → Int32) (L_7 : Nat → Nat → Int64) (H : Heap) (locs : List Loc) (ls : Array Slot), ((1800 - a2_7.toInt) < (k_7 : Int)) → InvI Wd_lo Wd_hi I_7 → InvR Wd_rl R_7 → SmF ([17, 24, 25, 26, 27, 28, 29, 30] : List Nat) I0 I_7 → SmF ([44] : List Nat) R0 R_7 → ((0 : Int) ≤ a2_7.toInt ∧ a2_7.toInt ≤ (1800 : Int)) → va_P G.1 vwCl (Wd G g q I_7 J_7 R_7 L_7) H → va_D A (Wd G g q I_7 J_7 R_7 L_7) → va_S A s.heap H locs → lv_has ls 4 [(0, .ref (g 76)), (1, .int p1), (2, .int a2_7)] → W p l e (rmD (D + 4) 0 0) s m [.ref (g 76), .int p1].toArray below meth c H locs 0 0 Q (F0 m 7 ls []) := by
    intro k_7
    induction k_7 with
    | zero =>
      intro a2_7 I_7 J_7 R_7 L_7 H locs ls hm hvI hvR hsI hsR y0_7 hP hD hS hl
      exact absurd hm (by omega)
    | succ k_7 ih_7 =>
      intro a2_7 I_7 J_7 R_7 L_7 H locs ls hm hvI hvR hsI hsR y0_7 hP hD hS hl
      have lab_57 : ∀ (b0_57 : Int32) (I_57 : Nat → Int32) (J_57 : Nat → Int64) (R_57 : Nat → Nat → Int32) (L_57 : Nat → Nat → Int64) (H : Heap) (locs : List Loc) (ls : Array Slot), InvI Wd_lo Wd_hi I_57 → InvR Wd_rl R_57 → SmF ([17, 24, 25, 26, 27, 28, 29, 30] : List Nat) I0 I_57 → SmF ([44] : List Nat) R0 R_57 → ((0 : Int) ≤ a2_7.toInt ∧ a2_7.toInt ≤ (1799 : Int)) → ((8 : Int) ≤ b0_57.toInt ∧ b0_57.toInt ≤ (9 : Int)) → va_P G.1 vwCl (Wd G g q I_57 J_57 R_57 L_57) H → va_D A (Wd G g q I_57 J_57 R_57 L_57) → va_S A s.heap H locs → lv_has ls 4 [(0, .ref (g 76)), (1, .int p1), (2, .int a2_7)] → W p l e (rmD (D + 4) 0 0) s m [.ref (g 76), .int p1].toArray below meth c H locs 0 0 Q (F0 m 57 ls [.int b0_57]) := by
        intro b0_57 I_57 J_57 R_57 L_57 H locs ls hvI hvR hsI hsR y0_57 y1_57 hP hD hS hl
        refine lv_istore_n (lv' := [(3, .int b0_57), (0, .ref (g 76)), (1, .int p1), (2, .int a2_7)]) hx hb dX6_readSum_57 rfl hl (by decide) rfl (fun ls hl => ?_)
        refine lv_aload_n hx hb dX6_readSum_58 rfl (lv_at hl 1 rfl) ?_
        refine g_get F hK hP 69 (Wd_at69 G g q I_57 J_57 R_57 L_57) clX6 0 (by decide) flX6_9 rfl dX6_readSum_59 ?_
        refine wvv (As := []) (rest := []) (b := (g 75)) (d := 3) F hK hP hD hS hA (s_X5_take l G g q I_57 J_57 R_57 L_57 hvI hvR   ) kmV_X5_take mlX6_49 clX5 rfl 68 (Wd_at68 G g q I_57 J_57 R_57 L_57) ⟨(by show 3 + 1 ≤ D + 4; omega), (by show 8 + (4 + 11) + 60 * (3) ≤ 60 * (D + 4); omega)⟩ hl.1 rfl (Nat.le_of_ble_eq_true rfl) dX6_readSum_62 (fun u2 H locs hwr1 hP hD hS => ?_)
        obtain ⟨I3, J4, R5, L6⟩ := u2
        replace hP : va_P G.1 vwCl (Wd G g q I3 J4 R5 L6) H := hP
        replace hD : va_D A (Wd G g q I3 J4 R5 L6) := hD
        obtain ⟨hvI, hvR, tIr1, tRr1, F0r1⟩ := hwr1
        replace F0r1 : ((¬ (I_57 29).toInt = 0) → (¬ (I3 29).toInt = 0)) := F0r1
        replace hvI : InvI Wd_lo Wd_hi I3 := hvI
        replace hvR : InvR Wd_rl R5 := hvR
        replace tIr1 : SmF ([24, 25, 26, 27, 28, 29, 30] : List Nat) I_57 I3 := tIr1
        replace tRr1 : SmF ([] : List Nat) R_57 R5 := tRr1
        have hsI := smF_tr hsI tIr1 (by decide)
        have hsR := smF_tr hsR tRr1 (by decide)
        refine lv_aload_n hx hb dX6_readSum_65 rfl (lv_at hl 1 rfl) ?_
        refine lv_iload_n hx hb dX6_readSum_66 rfl (lv_at hl 2 rfl) ?_
        refine wvv (As := [.int p1]) (rest := []) (b := (g 76)) (d := (D + 3)) F hK hP hD hS hA (sr_X6_readProduct l G D n hDD hIH g q I3 J4 R5 L6 hvI hvR hq2 p1 (show ((0 : Int) ≤ p1.toInt ∧ p1.toInt ≤ (8 : Int)) from by omega) (show 8 - p1.toInt < (n : Int) + 1 from by omega)) kmV_X6_readProduct mlX6_80 clX6 rfl 69 (Wd_at69 G g q I3 J4 R5 L6) ⟨(by show (D + 3) + 1 ≤ D + 4; omega), (by show 8 + (4 + 11) + 60 * ((D + 3)) ≤ 60 * (D + 4); omega)⟩ hl.1 rfl (Nat.le_of_ble_eq_true rfl) dX6_readSum_67 (fun u8 H locs hwr7 hP hD hS => ?_)
        obtain ⟨I9, J10, R11, L12⟩ := u8
        replace hP : va_P G.1 vwCl (Wd G g q I9 J10 R11 L12) H := hP
        replace hD : va_D A (Wd G g q I9 J10 R11 L12) := hD
        obtain ⟨hvI, hvR, tIr7, tRr7⟩ := hwr7
        replace hvI : InvI Wd_lo Wd_hi I9 := hvI
        replace hvR : InvR Wd_rl R11 := hvR
        replace tIr7 : SmF ([17, 24, 25, 26, 27, 28, 29, 30] : List Nat) I3 I9 := tIr7
        replace tRr7 : SmF ([44] : List Nat) R5 R11 := tRr7
        have hsI := smF_tr hsI tIr7 (by decide)
        have hsR := smF_tr hsR tRr7 (by decide)
        refine lv_aload_n hx hb dX6_readSum_70 rfl (lv_at hl 1 rfl) ?_
        refine g_get F hK hP 69 (Wd_at69 G g q I9 J10 R11 L12) clX6 1 (by decide) flX6_15 rfl dX6_readSum_71 ?_
        refine cst_r hq2 ?_
        refine lv_iload_n hx hb dX6_readSum_74 rfl (lv_at hl 0 rfl) ?_
        refine lv_iconst (v := 0) hx hb dX6_readSum_75 (by decide) ?_
        refine wvv (As := [.int b0_57, .int 0]) (rest := []) (b := (g 35)) (d := 1) F hK hP hD hS hA (s_X7_addStep l G g q I9 J10 R11 L12 hvI hvR  b0_57 0 (show ((-1 : Int) ≤ b0_57.toInt ∧ b0_57.toInt ≤ (19 : Int)) from by omega)) kmV_X7_addStep mlX6_52 clX7 rfl 36 (Wd_at36 G g q I9 J10 R11 L12) ⟨(by show 1 + 1 ≤ D + 4; omega), (by show 8 + (3 + 11) + 60 * (1) ≤ 60 * (D + 4); omega)⟩ hl.1 rfl (Nat.le_of_ble_eq_true rfl) dX6_readSum_76 (fun u14 H locs hwr13 hP hD hS => ?_)
        obtain ⟨I15, J16, R17, L18⟩ := u14
        replace hP : va_P G.1 vwCl (Wd G g q I15 J16 R17 L18) H := hP
        replace hD : va_D A (Wd G g q I15 J16 R17 L18) := hD
        obtain ⟨hvI, hvR, tIr13, tRr13⟩ := hwr13
        replace hvI : InvI Wd_lo Wd_hi I15 := hvI
        replace hvR : InvR Wd_rl R17 := hvR
        replace tIr13 : SmF ([17] : List Nat) I9 I15 := tIr13
        replace tRr13 : SmF ([44] : List Nat) R11 R17 := tRr13
        have hsI := smF_tr hsI tIr13 (by decide)
        have hsR := smF_tr hsR tRr13 (by decide)
        obtain ⟨x19, ex19⟩ : ∃ y : Int32, y = a2_7 + 1 := ⟨_, rfl⟩
        have fx19 : x19.toInt = a2_7.toInt + (1 : Int) := by rw [ex19]; exact t_add (by show (-2147483648 : Int) ≤ a2_7.toInt + (1 : Int); omega) (by show a2_7.toInt + (1 : Int) ≤ 2147483647; omega)
        refine lv_iinc (v := x19) (lv' := [(2, .int x19), (3, .int b0_57), (0, .ref (g 76)), (1, .int p1)]) hx hb dX6_readSum_79 hl (k := 3) rfl (by rw [ex19]; rfl) (by decide) rfl (fun ls hl => ?_)
        refine lv_goto (tgt := 7) hx hb dX6_readSum_82 (by decide) ?_
        exact ih_7 x19 I15 J16 R17 L18 _ _ _ (show (1800 - x19.toInt) < (k_7 : Int) from by omega) hvI hvR hsI hsR (show ((0 : Int) ≤ x19.toInt ∧ x19.toInt ≤ (1800 : Int)) from by omega) hP hD hS (lv_sub hl [2, 3, 0] rfl)
      have lab_38 : ∀  (I_38 : Nat → Int32) (J_38 : Nat → Int64) (R_38 : Nat → Nat → Int32) (L_38 : Nat → Nat → Int64) (H : Heap) (locs : List Loc) (ls : Array Slot), InvI Wd_lo Wd_hi I_38 → InvR Wd_rl R_38 → SmF ([17, 24, 25, 26, 27, 28, 29, 30] : List Nat) I0 I_38 → SmF ([44] : List Nat) R0 R_38 → ((0 : Int) ≤ a2_7.toInt ∧ a2_7.toInt ≤ (1799 : Int)) → va_P G.1 vwCl (Wd G g q I_38 J_38 R_38 L_38) H → va_D A (Wd G g q I_38 J_38 R_38 L_38) → va_S A s.heap H locs → lv_has ls 4 [(0, .ref (g 76)), (1, .int p1), (2, .int a2_7)] → W p l e (rmD (D + 4) 0 0) s m [.ref (g 76), .int p1].toArray below meth c H locs 0 0 Q (F0 m 38 ls []) := by
        intro I_38 J_38 R_38 L_38 H locs ls hvI hvR hsI hsR y0_38 hP hD hS hl
        refine lv_aload_n hx hb dX6_readSum_38 rfl (lv_at hl 0 rfl) ?_
        refine g_get F hK hP 69 (Wd_at69 G g q I_38 J_38 R_38 L_38) clX6 0 (by decide) flX6_9 rfl dX6_readSum_39 ?_
        refine lv_bipush (v := 43) hx hb dX6_readSum_42 (by decide) ?_
        refine wvi (As := [.int 43]) (rest := []) (b := (g 75)) (d := 1) F hK hP hD hS hA (s_X5_isSign l G g q I_38 J_38 R_38 L_38 hvI hvR  43 (by decide)) kmV_X5_isSign mlX6_59 clX5 rfl 68 (Wd_at68 G g q I_38 J_38 R_38 L_38) ⟨(by show 1 + 1 ≤ D + 4; omega), (by show 8 + (2 + 11) + 60 * (1) ≤ 60 * (D + 4); omega)⟩ hl.1 rfl (Nat.le_of_ble_eq_true rfl) dX6_readSum_44 (fun r20 u21 H locs hwr20 hP hD hS => ?_)
        have F0r20 := hwr20
        replace F0r20 : ((0 : Int) ≤ r20.toInt ∧ r20.toInt ≤ (1 : Int)) := F0r20
        refine lv_if_eq (tgt := 55) hx hb dX6_readSum_47 (by decide) (fun c22 => ?_) (fun c22 => ?_)
        · have gc22 : r20.toInt = 0 := congrArg Int32.toInt c22
          refine lv_bipush (v := 9) hx hb dX6_readSum_55 (by decide) ?_
          exact lab_57 9 I_38 J_38 R_38 L_38 _ _ _ hvI hvR hsI hsR (show ((0 : Int) ≤ a2_7.toInt ∧ a2_7.toInt ≤ (1799 : Int)) from by omega) (by decide) hP hD hS (lv_sub hl [0, 1, 2] rfl)
        · have gc22 : ¬ (r20.toInt = 0) := fun q0 => c22 (Int32.toInt_inj.mp q0)
          refine lv_bipush (v := 8) hx hb dX6_readSum_50 (by decide) ?_
          refine lv_goto (tgt := 57) hx hb dX6_readSum_52 (by decide) ?_
          exact lab_57 8 I_38 J_38 R_38 L_38 _ _ _ hvI hvR hsI hsR (show ((0 : Int) ≤ a2_7.toInt ∧ a2_7.toInt ≤ (1799 : Int)) from by omega) (by decide) hP hD hS (lv_sub hl [0, 1, 2] rfl)
      refine lv_iload_n hx hb dX6_readSum_7 rfl (lv_at hl 2 rfl) ?_
      refine lv_sipush (v := 1800) hx hb dX6_readSum_8 (by decide) ?_
      refine lv_icmp_ge (tgt := 85) hx hb dX6_readSum_11 (by decide) (fun c23 => ?_) (fun c23 => ?_)
      · have gc23 : 1800 ≤ a2_7.toInt := (tle _ _).mp c23
        rw [hQ]
        exact q_v F hr hlk (I_7, J_7, R_7, L_7) hP hD hS ⟨hvI, hvR, hsI, hsR⟩ dX6_readSum_85 (Nat.le_of_ble_eq_true rfl) (Nat.le_of_ble_eq_true rfl)
      · have gc23 : ¬ (1800 ≤ a2_7.toInt) := fun q0 => c23 ((tle _ _).mpr q0)
        refine lv_aload_n hx hb dX6_readSum_14 rfl (lv_at hl 0 rfl) ?_
        refine g_get F hK hP 69 (Wd_at69 G g q I_7 J_7 R_7 L_7) clX6 0 (by decide) flX6_9 rfl dX6_readSum_15 ?_
        refine lv_bipush (v := 43) hx hb dX6_readSum_18 (by decide) ?_
        refine wvi (As := [.int 43]) (rest := []) (b := (g 75)) (d := 1) F hK hP hD hS hA (s_X5_isSign l G g q I_7 J_7 R_7 L_7 hvI hvR  43 (by decide)) kmV_X5_isSign mlX6_59 clX5 rfl 68 (Wd_at68 G g q I_7 J_7 R_7 L_7) ⟨(by show 1 + 1 ≤ D + 4; omega), (by show 8 + (2 + 11) + 60 * (1) ≤ 60 * (D + 4); omega)⟩ hl.1 rfl (Nat.le_of_ble_eq_true rfl) dX6_readSum_20 (fun r24 u25 H locs hwr24 hP hD hS => ?_)
        have F0r24 := hwr24
        replace F0r24 : ((0 : Int) ≤ r24.toInt ∧ r24.toInt ≤ (1 : Int)) := F0r24
        refine lv_if_ne (tgt := 38) hx hb dX6_readSum_23 (by decide) (fun c26 => ?_) (fun c26 => ?_)
        · have gc26 : ¬ (r24.toInt = 0) := fun q0 => c26 (Int32.toInt_inj.mp q0)
          exact lab_38  I_7 J_7 R_7 L_7 _ _ _ hvI hvR hsI hsR (show ((0 : Int) ≤ a2_7.toInt ∧ a2_7.toInt ≤ (1799 : Int)) from by omega) hP hD hS (lv_sub hl [0, 1, 2] rfl)
        · have gc26 : r24.toInt = 0 := congrArg Int32.toInt c26
          refine lv_aload_n hx hb dX6_readSum_26 rfl (lv_at hl 0 rfl) ?_
          refine g_get F hK hP 69 (Wd_at69 G g q I_7 J_7 R_7 L_7) clX6 0 (by decide) flX6_9 rfl dX6_readSum_27 ?_
          refine lv_bipush (v := 45) hx hb dX6_readSum_30 (by decide) ?_
          refine wvi (As := [.int 45]) (rest := []) (b := (g 75)) (d := 1) F hK hP hD hS hA (s_X5_isSign l G g q I_7 J_7 R_7 L_7 hvI hvR  45 (by decide)) kmV_X5_isSign mlX6_59 clX5 rfl 68 (Wd_at68 G g q I_7 J_7 R_7 L_7) ⟨(by show 1 + 1 ≤ D + 4; omega), (by show 8 + (2 + 11) + 60 * (1) ≤ 60 * (D + 4); omega)⟩ hl.1 rfl (Nat.le_of_ble_eq_true rfl) dX6_readSum_32 (fun r27 u28 H locs hwr27 hP hD hS => ?_)
          have F0r27 := hwr27
          replace F0r27 : ((0 : Int) ≤ r27.toInt ∧ r27.toInt ≤ (1 : Int)) := F0r27
          refine lv_if_eq (tgt := 85) hx hb dX6_readSum_35 (by decide) (fun c29 => ?_) (fun c29 => ?_)
          · have gc29 : r27.toInt = 0 := congrArg Int32.toInt c29
            rw [hQ]
            exact q_v F hr hlk (I_7, J_7, R_7, L_7) hP hD hS ⟨hvI, hvR, hsI, hsR⟩ dX6_readSum_85 (Nat.le_of_ble_eq_true rfl) (Nat.le_of_ble_eq_true rfl)
          · have gc29 : ¬ (r27.toInt = 0) := fun q0 => c29 (Int32.toInt_inj.mp q0)
            exact lab_38  I_7 J_7 R_7 L_7 _ _ _ hvI hvR hsI hsR (show ((0 : Int) ≤ a2_7.toInt ∧ a2_7.toInt ≤ (1799 : Int)) from by omega) hP hD hS (lv_sub hl [0, 1, 2] rfl)
  refine lv_aload_n hx hb dX6_readSum_0 rfl (lv_at hl 0 rfl) ?_
  refine lv_iload_n hx hb dX6_readSum_1 rfl (lv_at hl 1 rfl) ?_
  refine wvv (As := [.int p1]) (rest := []) (b := (g 76)) (d := (D + 3)) F hK hP hD hS hA (sr_X6_readProduct l G D n hDD hIH g q I0 J0 R0 L0 hvI hvR hq2 p1 (show ((0 : Int) ≤ p1.toInt ∧ p1.toInt ≤ (8 : Int)) from by omega) (show 8 - p1.toInt < (n : Int) + 1 from by omega)) kmV_X6_readProduct mlX6_80 clX6 rfl 69 (Wd_at69 G g q I0 J0 R0 L0) ⟨(by show (D + 3) + 1 ≤ D + 4; omega), (by show 8 + (4 + 11) + 60 * ((D + 3)) ≤ 60 * (D + 4); omega)⟩ hl.1 rfl (Nat.le_of_ble_eq_true rfl) dX6_readSum_2 (fun u31 H locs hwr30 hP hD hS => ?_)
  obtain ⟨I32, J33, R34, L35⟩ := u31
  replace hP : va_P G.1 vwCl (Wd G g q I32 J33 R34 L35) H := hP
  replace hD : va_D A (Wd G g q I32 J33 R34 L35) := hD
  obtain ⟨hvI, hvR, tIr30, tRr30⟩ := hwr30
  replace hvI : InvI Wd_lo Wd_hi I32 := hvI
  replace hvR : InvR Wd_rl R34 := hvR
  replace tIr30 : SmF ([17, 24, 25, 26, 27, 28, 29, 30] : List Nat) I0 I32 := tIr30
  replace tRr30 : SmF ([44] : List Nat) R0 R34 := tRr30
  have hsI := smF_tr hsI tIr30 (by decide)
  have hsR := smF_tr hsR tRr30 (by decide)
  refine lv_iconst (v := 0) hx hb dX6_readSum_5 (by decide) ?_
  refine lv_istore_n (lv' := [(2, .int 0), (0, .ref (g 76)), (1, .int p1)]) hx hb dX6_readSum_6 rfl hl (by decide) rfl (fun ls hl => ?_)
  exact lab_7 1801 0 I32 J33 R34 L35 _ _ _ (show (1800 - 0) < ((1801 : Nat) : Int) from by omega) hvI hvR hsI hsR (by decide) hP hD hS (lv_sub hl [1, 2, 0] rfl)
theorem HSum_all (l : Launch) (G : Gx) : ∀ n : Nat, HSum l G (16 + 4 * n) n := by
  intro n
  induction n with
  | zero =>
    intro g q I0 J0 R0 L0 hvI hvR hq2 p1 hp1 hlev
    exact absurd hlev (by omega)
  | succ n ih =>
    intro g q I0 J0 R0 L0 hvI hvR hq2 p1 hp1 hlev
    have e : 16 + 4 * (n + 1) = 16 + 4 * n + 4 := by omega
    rw [e]
    exact sr_X6_readSum l G (16 + 4 * n) n (by omega) ih g q I0 J0 R0 L0 hvI hvR hq2 p1 hp1 (by omega)
theorem s_X6_readSum (l : Launch) (G : Gx) (g q : Nat → Nat) (I0 : Nat → Int32) (J0 : Nat → Int64) (R0 : Nat → Nat → Int32) (L0 : Nat → Nat → Int64) (hvI : InvI Wd_lo Wd_hi I0) (hvR : InvR Wd_rl R0) (hq2 : q 2 = (g 35)) (p1 : Int32) (hp1 : ((0 : Int) ≤ p1.toInt ∧ p1.toInt ≤ (8 : Int))) : CtV (S := St) l yX6_readSum cX6_readSum 4 none (rmD 52 0 0) G [.ref (g 76), .int p1] (Wd G g q I0 J0 R0 L0) (fun u => InvI Wd_lo Wd_hi u.1 ∧ InvR Wd_rl u.2.2.1 ∧ SmF ([17, 24, 25, 26, 27, 28, 29, 30] : List Nat) I0 u.1 ∧ SmF ([44] : List Nat) R0 u.2.2.1) (fun u => Wd G g q u.1 u.2.1 u.2.2.1 u.2.2.2) := HSum_all l G 9 g q I0 J0 R0 L0 hvI hvR hq2 p1 hp1 (by omega)
def HTest (l : Launch) (G : Gx) (D n : Nat) : Prop := ∀ (g q : Nat → Nat) (I0 : Nat → Int32) (J0 : Nat → Int64) (R0 : Nat → Nat → Int32) (L0 : Nat → Nat → Int64) (hvI : InvI Wd_lo Wd_hi I0) (hvR : InvR Wd_rl R0) (hq2 : q 2 = (g 35)) (p1 : Int32) (hp1 : ((0 : Int) ≤ p1.toInt ∧ p1.toInt ≤ (8 : Int))), 8 - p1.toInt < (n : Int) → CtV (S := St) l yX6_readTest cX6_readTest 3 none (rmD D 0 0) G [.ref (g 76), .int p1] (Wd G g q I0 J0 R0 L0) (fun u => InvI Wd_lo Wd_hi u.1 ∧ InvR Wd_rl u.2.2.1 ∧ SmF ([17, 24, 25, 26, 27, 28, 29, 30] : List Nat) I0 u.1 ∧ SmF ([44] : List Nat) R0 u.2.2.1) (fun u => Wd G g q u.1 u.2.1 u.2.2.1 u.2.2.2)
set_option maxHeartbeats 4000000 in
set_option maxRecDepth 100000 in
theorem sr_X6_readFact (l : Launch) (G : Gx) (D n : Nat) (hDD : 54 ≤ D) (hIH : HTest l G D n) (g q : Nat → Nat) (I0 : Nat → Int32) (J0 : Nat → Int64) (R0 : Nat → Nat → Int32) (L0 : Nat → Nat → Int64) (hvI : InvI Wd_lo Wd_hi I0) (hvR : InvR Wd_rl R0) (hq2 : q 2 = (g 35)) (p1 : Int32) (hp1 : ((0 : Int) ≤ p1.toInt ∧ p1.toInt ≤ (8 : Int))) (hlev : 8 - p1.toInt < (n : Int) + 1) : CtV (S := St) l yX6_readFact cX6_readFact 4 none (rmD (D + 1) 0 0) G [.ref (g 76), .int p1] (Wd G g q I0 J0 R0 L0) (fun u => InvI Wd_lo Wd_hi u.1 ∧ InvR Wd_rl u.2.2.1 ∧ SmF ([17, 24, 25, 26, 27, 28, 29, 30] : List Nat) I0 u.1 ∧ SmF ([44] : List Nat) R0 u.2.2.1) (fun u => Wd G g q u.1 u.2.1 u.2.2.1 u.2.2.2) := by
  refine ctV_of (own := RX6) (by decide +kernel) rfl (Nat.le_of_ble_eq_true rfl) ?_
  intro p e s m below meth c A ls F hr hlk hnm hK hP hD hA hS hl
  have hx := F.1
  have hb := F.2.1
  have hown := F.2.2.2.1
  have hl : lv_has ls 4 [(0, .ref (g 76)), (1, .int p1)] := hl
  obtain ⟨Q, hQ⟩ : ∃ Q : State → Prop, Q = MQ below (va_Qv (S := St) (fun u => InvI Wd_lo Wd_hi u.1 ∧ InvR Wd_rl u.2.2.1 ∧ SmF ([17, 24, 25, 26, 27, 28, 29, 30] : List Nat) I0 u.1 ∧ SmF ([44] : List Nat) R0 u.2.2.1) (BX G A (fun u => Wd G g q u.1 u.2.1 u.2.2.1 u.2.2.2)) A) [.ref (g 76), .int p1].toArray s 0 0 A := ⟨_, rfl⟩
  rw [show (MQ below (va_Qv (S := St) (fun u => InvI Wd_lo Wd_hi u.1 ∧ InvR Wd_rl u.2.2.1 ∧ SmF ([17, 24, 25, 26, 27, 28, 29, 30] : List Nat) I0 u.1 ∧ SmF ([44] : List Nat) R0 u.2.2.1) (BX G A (fun u => Wd G g q u.1 u.2.1 u.2.2.1 u.2.2.2)) A) [.ref (g 76), .int p1].toArray s (rmD (D + 1) 0 0).cells (rmD (D + 1) 0 0).slots A) = Q from hQ.symm]
  have hsI := smF_rf ([17, 24, 25, 26, 27, 28, 29, 30] : List Nat) I0
  have hsR := smF_rf ([44] : List Nat) R0
  have lab_133 : ∀ (a2_133 : Int32) (I_133 : Nat → Int32) (J_133 : Nat → Int64) (R_133 : Nat → Nat → Int32) (L_133 : Nat → Nat → Int64) (H : Heap) (locs : List Loc) (ls : Array Slot), InvI Wd_lo Wd_hi I_133 → InvR Wd_rl R_133 → SmF ([17, 24, 25, 26, 27, 28, 29, 30] : List Nat) I0 I_133 → SmF ([44] : List Nat) R0 R_133 → ((0 : Int) ≤ a2_133.toInt ∧ a2_133.toInt ≤ (1 : Int)) → va_P G.1 vwCl (Wd G g q I_133 J_133 R_133 L_133) H → va_D A (Wd G g q I_133 J_133 R_133 L_133) → va_S A s.heap H locs → lv_has ls 4 [(0, .ref (g 76)), (2, .int a2_133)] → W p l e (rmD (D + 1) 0 0) s m [.ref (g 76), .int p1].toArray below meth c H locs 0 0 Q (F0 m 133 ls []) := by
    intro a2_133 I_133 J_133 R_133 L_133 H locs ls hvI hvR hsI hsR y0_133 hP hD hS hl
    have w_I_133_28 := rg (hvI 28 (by decide)) (-1) (32) rfl rfl
    refine lv_iload_n hx hb dX6_readFact_133 rfl (lv_at hl 1 rfl) ?_
    refine lv_if_eq (tgt := 147) hx hb dX6_readFact_134 (by decide) (fun c1 => ?_) (fun c1 => ?_)
    · have gc1 : a2_133.toInt = 0 := congrArg Int32.toInt c1
      rw [hQ]
      exact q_v F hr hlk (I_133, J_133, R_133, L_133) hP hD hS ⟨hvI, hvR, hsI, hsR⟩ dX6_readFact_147 (Nat.le_of_ble_eq_true rfl) (Nat.le_of_ble_eq_true rfl)
    · have gc1 : ¬ (a2_133.toInt = 0) := fun q0 => c1 (Int32.toInt_inj.mp q0)
      refine lv_aload_n hx hb dX6_readFact_137 rfl (lv_at hl 0 rfl) ?_
      refine g_get F hK hP 69 (Wd_at69 G g q I_133 J_133 R_133 L_133) clX6 1 (by decide) flX6_15 rfl dX6_readFact_138 ?_
      refine cst_r hq2 ?_
      refine lv_bipush (v := 7) hx hb dX6_readFact_141 (by decide) ?_
      refine lv_iconst (v := 0) hx hb dX6_readFact_143 (by decide) ?_
      refine wvv (As := [.int 7, .int 0]) (rest := []) (b := (g 35)) (d := 1) F hK hP hD hS hA (s_X7_addStep l G g q I_133 J_133 R_133 L_133 hvI hvR  7 0 (by decide)) kmV_X7_addStep mlX6_52 clX7 rfl 36 (Wd_at36 G g q I_133 J_133 R_133 L_133) ⟨(by show 1 + 1 ≤ D + 1; omega), (by show 8 + (3 + 11) + 60 * (1) ≤ 60 * (D + 1); omega)⟩ hl.1 rfl (Nat.le_of_ble_eq_true rfl) dX6_readFact_144 (fun u3 H locs hwr2 hP hD hS => ?_)
      obtain ⟨I4, J5, R6, L7⟩ := u3
      replace hP : va_P G.1 vwCl (Wd G g q I4 J5 R6 L7) H := hP
      replace hD : va_D A (Wd G g q I4 J5 R6 L7) := hD
      obtain ⟨hvI, hvR, tIr2, tRr2⟩ := hwr2
      replace hvI : InvI Wd_lo Wd_hi I4 := hvI
      replace hvR : InvR Wd_rl R6 := hvR
      replace tIr2 : SmF ([17] : List Nat) I_133 I4 := tIr2
      replace tRr2 : SmF ([44] : List Nat) R_133 R6 := tRr2
      have hsI := smF_tr hsI tIr2 (by decide)
      have hsR := smF_tr hsR tRr2 (by decide)
      have u_I4_28 : (I4 28).toInt = (I_133 28).toInt := congrArg Int32.toInt (tIr2 28 rfl)
      rw [hQ]
      exact q_v F hr hlk (I4, J5, R6, L7) hP hD hS ⟨hvI, hvR, hsI, hsR⟩ dX6_readFact_147 (Nat.le_of_ble_eq_true rfl) (Nat.le_of_ble_eq_true rfl)
  have lab_46 : ∀ (a2_46 : Int32) (I_46 : Nat → Int32) (J_46 : Nat → Int64) (R_46 : Nat → Nat → Int32) (L_46 : Nat → Nat → Int64) (H : Heap) (locs : List Loc) (ls : Array Slot), InvI Wd_lo Wd_hi I_46 → InvR Wd_rl R_46 → SmF ([17, 24, 25, 26, 27, 28, 29, 30] : List Nat) I0 I_46 → SmF ([44] : List Nat) R0 R_46 → ((0 : Int) ≤ a2_46.toInt ∧ a2_46.toInt ≤ (1 : Int)) → va_P G.1 vwCl (Wd G g q I_46 J_46 R_46 L_46) H → va_D A (Wd G g q I_46 J_46 R_46 L_46) → va_S A s.heap H locs → lv_has ls 4 [(0, .ref (g 76)), (1, .int p1), (2, .int a2_46)] → W p l e (rmD (D + 1) 0 0) s m [.ref (g 76), .int p1].toArray below meth c H locs 0 0 Q (F0 m 46 ls []) := by
    intro a2_46 I_46 J_46 R_46 L_46 H locs ls hvI hvR hsI hsR y0_46 hP hD hS hl
    have w_I_46_28 := rg (hvI 28 (by decide)) (-1) (32) rfl rfl
    refine lv_aload_n hx hb dX6_readFact_46 rfl (lv_at hl 0 rfl) ?_
    refine g_get F hK hP 69 (Wd_at69 G g q I_46 J_46 R_46 L_46) clX6 0 (by decide) flX6_9 rfl dX6_readFact_47 ?_
    refine lv_bipush (v := 91) hx hb dX6_readFact_50 (by decide) ?_
    refine wvi (As := [.int 91]) (rest := []) (b := (g 75)) (d := 1) F hK hP hD hS hA (s_X5_isSign l G g q I_46 J_46 R_46 L_46 hvI hvR  91 (by decide)) kmV_X5_isSign mlX6_59 clX5 rfl 68 (Wd_at68 G g q I_46 J_46 R_46 L_46) ⟨(by show 1 + 1 ≤ D + 1; omega), (by show 8 + (2 + 11) + 60 * (1) ≤ 60 * (D + 1); omega)⟩ hl.1 rfl (Nat.le_of_ble_eq_true rfl) dX6_readFact_52 (fun r8 u9 H locs hwr8 hP hD hS => ?_)
    have F0r8 := hwr8
    replace F0r8 : ((0 : Int) ≤ r8.toInt ∧ r8.toInt ≤ (1 : Int)) := F0r8
    refine lv_if_eq (tgt := 87) hx hb dX6_readFact_55 (by decide) (fun c10 => ?_) (fun c10 => ?_)
    · have gc10 : r8.toInt = 0 := congrArg Int32.toInt c10
      refine lv_aload_n hx hb dX6_readFact_87 rfl (lv_at hl 0 rfl) ?_
      refine g_get F hK hP 69 (Wd_at69 G g q I_46 J_46 R_46 L_46) clX6 0 (by decide) flX6_9 rfl dX6_readFact_88 ?_
      refine g_get F hK hP 68 (Wd_at68 G g q I_46 J_46 R_46 L_46) clX5 6 (by decide) flX6_45 rfl dX6_readFact_91 ?_
      have w_I_46_28 := rg (hvI 28 (by decide)) (-1) (32) rfl rfl
      refine lv_bipush (v := 26) hx hb dX6_readFact_94 (by decide) ?_
      refine lv_icmp_ne (tgt := 109) hx hb dX6_readFact_96 (by decide) (fun c11 => ?_) (fun c11 => ?_)
      · have gc11 : ¬ ((I_46 28).toInt = 26) := fun q0 => c11 (Int32.toInt_inj.mp q0)
        refine lv_aload_n hx hb dX6_readFact_109 rfl (lv_at hl 0 rfl) ?_
        refine lv_iload_n hx hb dX6_readFact_110 rfl (lv_at hl 1 rfl) ?_
        refine wvv (As := [.int p1]) (rest := []) (b := (g 76)) (d := 52) F hK hP hD hS hA (s_X6_readSum l G g q I_46 J_46 R_46 L_46 hvI hvR hq2 p1 (show ((0 : Int) ≤ p1.toInt ∧ p1.toInt ≤ (8 : Int)) from by omega)) kmV_X6_readSum mlX6_24 clX6 rfl 69 (Wd_at69 G g q I_46 J_46 R_46 L_46) ⟨(by show 52 + 1 ≤ D + 1; omega), (by show 8 + (4 + 11) + 60 * (52) ≤ 60 * (D + 1); omega)⟩ hl.1 rfl (Nat.le_of_ble_eq_true rfl) dX6_readFact_111 (fun u13 H locs hwr12 hP hD hS => ?_)
        obtain ⟨I14, J15, R16, L17⟩ := u13
        replace hP : va_P G.1 vwCl (Wd G g q I14 J15 R16 L17) H := hP
        replace hD : va_D A (Wd G g q I14 J15 R16 L17) := hD
        obtain ⟨hvI, hvR, tIr12, tRr12⟩ := hwr12
        replace hvI : InvI Wd_lo Wd_hi I14 := hvI
        replace hvR : InvR Wd_rl R16 := hvR
        replace tIr12 : SmF ([17, 24, 25, 26, 27, 28, 29, 30] : List Nat) I_46 I14 := tIr12
        replace tRr12 : SmF ([44] : List Nat) R_46 R16 := tRr12
        have hsI := smF_tr hsI tIr12 (by decide)
        have hsR := smF_tr hsR tRr12 (by decide)
        have w_I14_28 := rg (hvI 28 (by decide)) (-1) (32) rfl rfl
        refine lv_aload_n hx hb dX6_readFact_114 rfl (lv_at hl 0 rfl) ?_
        refine wvi (As := []) (rest := []) (b := (g 76)) (d := 4) F hK hP hD hS hA (s_X6_takeComparison l G g q I14 J15 R16 L17 hvI hvR hq2  ) kmV_X6_takeComparison mlX6_73 clX6 rfl 69 (Wd_at69 G g q I14 J15 R16 L17) ⟨(by show 4 + 1 ≤ D + 1; omega), (by show 8 + (2 + 11) + 60 * (4) ≤ 60 * (D + 1); omega)⟩ hl.1 rfl (Nat.le_of_ble_eq_true rfl) dX6_readFact_115 (fun r18 u19 H locs hwr18 hP hD hS => ?_)
        obtain ⟨I20, J21, R22, L23⟩ := u19
        replace hP : va_P G.1 vwCl (Wd G g q I20 J21 R22 L23) H := hP
        replace hD : va_D A (Wd G g q I20 J21 R22 L23) := hD
        obtain ⟨hvI, hvR, tIr18, tRr18, F0r18⟩ := hwr18
        replace F0r18 : ((15 : Int) ≤ r18.toInt ∧ r18.toInt ≤ (17 : Int)) := F0r18
        replace hvI : InvI Wd_lo Wd_hi I20 := hvI
        replace hvR : InvR Wd_rl R22 := hvR
        replace tIr18 : SmF ([24, 25, 26, 27, 28, 29, 30] : List Nat) I14 I20 := tIr18
        replace tRr18 : SmF ([] : List Nat) R16 R22 := tRr18
        have hsI := smF_tr hsI tIr18 (by decide)
        have hsR := smF_tr hsR tRr18 (by decide)
        have w_I20_28 := rg (hvI 28 (by decide)) (-1) (32) rfl rfl
        refine lv_istore_n (lv' := [(3, .int r18), (0, .ref (g 76)), (1, .int p1), (2, .int a2_46)]) hx hb dX6_readFact_118 rfl hl (by decide) rfl (fun ls hl => ?_)
        refine lv_aload_n hx hb dX6_readFact_119 rfl (lv_at hl 1 rfl) ?_
        refine lv_iload_n hx hb dX6_readFact_120 rfl (lv_at hl 2 rfl) ?_
        refine wvv (As := [.int p1]) (rest := []) (b := (g 76)) (d := 52) F hK hP hD hS hA (s_X6_readSum l G g q I20 J21 R22 L23 hvI hvR hq2 p1 (show ((0 : Int) ≤ p1.toInt ∧ p1.toInt ≤ (8 : Int)) from by omega)) kmV_X6_readSum mlX6_24 clX6 rfl 69 (Wd_at69 G g q I20 J21 R22 L23) ⟨(by show 52 + 1 ≤ D + 1; omega), (by show 8 + (4 + 11) + 60 * (52) ≤ 60 * (D + 1); omega)⟩ hl.1 rfl (Nat.le_of_ble_eq_true rfl) dX6_readFact_121 (fun u25 H locs hwr24 hP hD hS => ?_)
        obtain ⟨I26, J27, R28, L29⟩ := u25
        replace hP : va_P G.1 vwCl (Wd G g q I26 J27 R28 L29) H := hP
        replace hD : va_D A (Wd G g q I26 J27 R28 L29) := hD
        obtain ⟨hvI, hvR, tIr24, tRr24⟩ := hwr24
        replace hvI : InvI Wd_lo Wd_hi I26 := hvI
        replace hvR : InvR Wd_rl R28 := hvR
        replace tIr24 : SmF ([17, 24, 25, 26, 27, 28, 29, 30] : List Nat) I20 I26 := tIr24
        replace tRr24 : SmF ([44] : List Nat) R22 R28 := tRr24
        have hsI := smF_tr hsI tIr24 (by decide)
        have hsR := smF_tr hsR tRr24 (by decide)
        have w_I26_28 := rg (hvI 28 (by decide)) (-1) (32) rfl rfl
        refine lv_aload_n hx hb dX6_readFact_124 rfl (lv_at hl 1 rfl) ?_
        refine g_get F hK hP 69 (Wd_at69 G g q I26 J27 R28 L29) clX6 1 (by decide) flX6_15 rfl dX6_readFact_125 ?_
        refine cst_r hq2 ?_
        refine lv_iload_n hx hb dX6_readFact_128 rfl (lv_at hl 0 rfl) ?_
        refine lv_iconst (v := 0) hx hb dX6_readFact_129 (by decide) ?_
        refine wvv (As := [.int r18, .int 0]) (rest := []) (b := (g 35)) (d := 1) F hK hP hD hS hA (s_X7_addStep l G g q I26 J27 R28 L29 hvI hvR  r18 0 (show ((-1 : Int) ≤ r18.toInt ∧ r18.toInt ≤ (19 : Int)) from by omega)) kmV_X7_addStep mlX6_52 clX7 rfl 36 (Wd_at36 G g q I26 J27 R28 L29) ⟨(by show 1 + 1 ≤ D + 1; omega), (by show 8 + (3 + 11) + 60 * (1) ≤ 60 * (D + 1); omega)⟩ hl.1 rfl (Nat.le_of_ble_eq_true rfl) dX6_readFact_130 (fun u31 H locs hwr30 hP hD hS => ?_)
        obtain ⟨I32, J33, R34, L35⟩ := u31
        replace hP : va_P G.1 vwCl (Wd G g q I32 J33 R34 L35) H := hP
        replace hD : va_D A (Wd G g q I32 J33 R34 L35) := hD
        obtain ⟨hvI, hvR, tIr30, tRr30⟩ := hwr30
        replace hvI : InvI Wd_lo Wd_hi I32 := hvI
        replace hvR : InvR Wd_rl R34 := hvR
        replace tIr30 : SmF ([17] : List Nat) I26 I32 := tIr30
        replace tRr30 : SmF ([44] : List Nat) R28 R34 := tRr30
        have hsI := smF_tr hsI tIr30 (by decide)
        have hsR := smF_tr hsR tRr30 (by decide)
        have u_I32_28 : (I32 28).toInt = (I26 28).toInt := congrArg Int32.toInt (tIr30 28 rfl)
        exact lab_133 a2_46 I32 J33 R34 L35 _ _ _ hvI hvR hsI hsR (show ((0 : Int) ≤ a2_46.toInt ∧ a2_46.toInt ≤ (1 : Int)) from by omega) hP hD hS (lv_sub hl [1, 3] rfl)
      · have gc11 : (I_46 28).toInt = 26 := congrArg Int32.toInt c11
        refine lv_aload_n hx hb dX6_readFact_99 rfl (lv_at hl 0 rfl) ?_
        refine lv_bipush (v := 6) hx hb dX6_readFact_100 (by decide) ?_
        refine lv_iconst (v := 0) hx hb dX6_readFact_102 (by decide) ?_
        refine wvv (As := [.int 6, .int 0]) (rest := []) (b := (g 76)) (d := 4) F hK hP hD hS hA (s_X6_addTaken l G g q I_46 J_46 R_46 L_46 hvI hvR hq2 6 0 (by decide)) kmV_X6_addTaken mlX6_70 clX6 rfl 69 (Wd_at69 G g q I_46 J_46 R_46 L_46) ⟨(by show 4 + 1 ≤ D + 1; omega), (by show 8 + (3 + 11) + 60 * (4) ≤ 60 * (D + 1); omega)⟩ hl.1 rfl (Nat.le_of_ble_eq_true rfl) dX6_readFact_103 (fun u37 H locs hwr36 hP hD hS => ?_)
        obtain ⟨I38, J39, R40, L41⟩ := u37
        replace hP : va_P G.1 vwCl (Wd G g q I38 J39 R40 L41) H := hP
        replace hD : va_D A (Wd G g q I38 J39 R40 L41) := hD
        obtain ⟨hvI, hvR, tIr36, tRr36⟩ := hwr36
        replace hvI : InvI Wd_lo Wd_hi I38 := hvI
        replace hvR : InvR Wd_rl R40 := hvR
        replace tIr36 : SmF ([17, 24, 25, 26, 27, 28, 29, 30] : List Nat) I_46 I38 := tIr36
        replace tRr36 : SmF ([44] : List Nat) R_46 R40 := tRr36
        have hsI := smF_tr hsI tIr36 (by decide)
        have hsR := smF_tr hsR tRr36 (by decide)
        have w_I38_28 := rg (hvI 28 (by decide)) (-1) (32) rfl rfl
        refine lv_goto (tgt := 133) hx hb dX6_readFact_106 (by decide) ?_
        exact lab_133 a2_46 I38 J39 R40 L41 _ _ _ hvI hvR hsI hsR (show ((0 : Int) ≤ a2_46.toInt ∧ a2_46.toInt ≤ (1 : Int)) from by omega) hP hD hS (lv_sub hl [0, 2] rfl)
    · have gc10 : ¬ (r8.toInt = 0) := fun q0 => c10 (Int32.toInt_inj.mp q0)
      refine lv_aload_n hx hb dX6_readFact_58 rfl (lv_at hl 0 rfl) ?_
      refine lv_bipush (v := 91) hx hb dX6_readFact_59 (by decide) ?_
      refine lv_iload_n hx hb dX6_readFact_61 rfl (lv_at hl 1 rfl) ?_
      refine wvi (As := [.int 91, .int p1]) (rest := []) (b := (g 76)) (d := 4) F hK hP hD hS hA (s_X6_takeOpening l G g q I_46 J_46 R_46 L_46 hvI hvR hq2 91 p1 (by decide) (show ((0 : Int) ≤ p1.toInt ∧ p1.toInt ≤ (8 : Int)) from by omega)) kmV_X6_takeOpening mlX6_63 clX6 rfl 69 (Wd_at69 G g q I_46 J_46 R_46 L_46) ⟨(by show 4 + 1 ≤ D + 1; omega), (by show 8 + (3 + 11) + 60 * (4) ≤ 60 * (D + 1); omega)⟩ hl.1 rfl (Nat.le_of_ble_eq_true rfl) dX6_readFact_62 (fun r42 u43 H locs hwr42 hP hD hS => ?_)
      obtain ⟨I44, J45, R46, L47⟩ := u43
      replace hP : va_P G.1 vwCl (Wd G g q I44 J45 R46 L47) H := hP
      replace hD : va_D A (Wd G g q I44 J45 R46 L47) := hD
      obtain ⟨hvI, hvR, tIr42, tRr42, F0r42, F1r42, F2r42⟩ := hwr42
      replace F0r42 : ((0 : Int) ≤ r42.toInt ∧ r42.toInt ≤ (1 : Int)) := F0r42
      replace F1r42 : (r42.toInt = 1 → p1.toInt ≤ 7) := F1r42
      replace F2r42 : ((¬ (I_46 29).toInt = 0) → (¬ (I44 29).toInt = 0)) := F2r42
      replace hvI : InvI Wd_lo Wd_hi I44 := hvI
      replace hvR : InvR Wd_rl R46 := hvR
      replace tIr42 : SmF ([24, 25, 26, 27, 28, 29, 30] : List Nat) I_46 I44 := tIr42
      replace tRr42 : SmF ([] : List Nat) R_46 R46 := tRr42
      have hsI := smF_tr hsI tIr42 (by decide)
      have hsR := smF_tr hsR tRr42 (by decide)
      have w_I44_28 := rg (hvI 28 (by decide)) (-1) (32) rfl rfl
      refine lv_if_eq (tgt := 133) hx hb dX6_readFact_65 (by decide) (fun c48 => ?_) (fun c48 => ?_)
      · have gc48 : r42.toInt = 0 := congrArg Int32.toInt c48
        exact lab_133 a2_46 I44 J45 R46 L47 _ _ _ hvI hvR hsI hsR (show ((0 : Int) ≤ a2_46.toInt ∧ a2_46.toInt ≤ (1 : Int)) from by omega) hP hD hS (lv_sub hl [0, 2] rfl)
      · have gc48 : ¬ (r42.toInt = 0) := fun q0 => c48 (Int32.toInt_inj.mp q0)
        refine lv_aload_n hx hb dX6_readFact_68 rfl (lv_at hl 0 rfl) ?_
        refine lv_iload_n hx hb dX6_readFact_69 rfl (lv_at hl 1 rfl) ?_
        refine lv_iconst (v := 1) hx hb dX6_readFact_70 (by decide) ?_
        refine lv_iadd hx hb dX6_readFact_71 ?_
        refine lv_topi (fun x49 ex49 => ?_)
        have fx49 : x49.toInt = p1.toInt + 1 := by rw [ex49]; exact t_add (by show (-2147483648 : Int) ≤ p1.toInt + 1; omega) (by show p1.toInt + 1 ≤ 2147483647; omega)
        refine wvv (As := [.int x49]) (rest := []) (b := (g 76)) (d := D) F hK hP hD hS hA (hIH g q I44 J45 R46 L47 hvI hvR hq2 x49 (show ((0 : Int) ≤ x49.toInt ∧ x49.toInt ≤ (8 : Int)) from by omega) (show 8 - x49.toInt < (n : Int) from by omega)) kmV_X6_readTest mlX6_36 clX6 rfl 69 (Wd_at69 G g q I44 J45 R46 L47) ⟨(by show D + 1 ≤ D + 1; omega), (by show 8 + (3 + 11) + 60 * (D) ≤ 60 * (D + 1); omega)⟩ hl.1 rfl (Nat.le_of_ble_eq_true rfl) dX6_readFact_72 (fun u51 H locs hwr50 hP hD hS => ?_)
        obtain ⟨I52, J53, R54, L55⟩ := u51
        replace hP : va_P G.1 vwCl (Wd G g q I52 J53 R54 L55) H := hP
        replace hD : va_D A (Wd G g q I52 J53 R54 L55) := hD
        obtain ⟨hvI, hvR, tIr50, tRr50⟩ := hwr50
        replace hvI : InvI Wd_lo Wd_hi I52 := hvI
        replace hvR : InvR Wd_rl R54 := hvR
        replace tIr50 : SmF ([17, 24, 25, 26, 27, 28, 29, 30] : List Nat) I44 I52 := tIr50
        replace tRr50 : SmF ([44] : List Nat) R46 R54 := tRr50
        have hsI := smF_tr hsI tIr50 (by decide)
        have hsR := smF_tr hsR tRr50 (by decide)
        have w_I52_28 := rg (hvI 28 (by decide)) (-1) (32) rfl rfl
        refine lv_aload_n hx hb dX6_readFact_75 rfl (lv_at hl 0 rfl) ?_
        refine g_get F hK hP 69 (Wd_at69 G g q I52 J53 R54 L55) clX6 0 (by decide) flX6_9 rfl dX6_readFact_76 ?_
        refine lv_bipush (v := 93) hx hb dX6_readFact_79 (by decide) ?_
        refine wvv (As := [.int 93]) (rest := []) (b := (g 75)) (d := 4) F hK hP hD hS hA (s_X5_takeSign l G g q I52 J53 R54 L55 hvI hvR  93 (by decide)) kmV_X5_takeSign mlX6_67 clX5 rfl 68 (Wd_at68 G g q I52 J53 R54 L55) ⟨(by show 4 + 1 ≤ D + 1; omega), (by show 8 + (2 + 11) + 60 * (4) ≤ 60 * (D + 1); omega)⟩ hl.1 rfl (Nat.le_of_ble_eq_true rfl) dX6_readFact_81 (fun u57 H locs hwr56 hP hD hS => ?_)
        obtain ⟨I58, J59, R60, L61⟩ := u57
        replace hP : va_P G.1 vwCl (Wd G g q I58 J59 R60 L61) H := hP
        replace hD : va_D A (Wd G g q I58 J59 R60 L61) := hD
        obtain ⟨hvI, hvR, tIr56, tRr56, F0r56⟩ := hwr56
        replace F0r56 : ((¬ (I52 29).toInt = 0) → (¬ (I58 29).toInt = 0)) := F0r56
        replace hvI : InvI Wd_lo Wd_hi I58 := hvI
        replace hvR : InvR Wd_rl R60 := hvR
        replace tIr56 : SmF ([24, 25, 26, 27, 28, 29, 30] : List Nat) I52 I58 := tIr56
        replace tRr56 : SmF ([] : List Nat) R54 R60 := tRr56
        have hsI := smF_tr hsI tIr56 (by decide)
        have hsR := smF_tr hsR tRr56 (by decide)
        have w_I58_28 := rg (hvI 28 (by decide)) (-1) (32) rfl rfl
        refine lv_goto (tgt := 133) hx hb dX6_readFact_84 (by decide) ?_
        exact lab_133 a2_46 I58 J59 R60 L61 _ _ _ hvI hvR hsI hsR (show ((0 : Int) ≤ a2_46.toInt ∧ a2_46.toInt ≤ (1 : Int)) from by omega) hP hD hS (lv_sub hl [0, 2] rfl)
  have lab_4 : ∀ (k_4 : Nat) (a2_4 : Int32) (a3_4 : Int32) (I_4 : Nat → Int32) (J_4 : Nat → Int64) (R_4 : Nat → Nat → Int32) (L_4 : Nat → Nat → Int64) (H : Heap) (locs : List Loc) (ls : Array Slot), ((1800 - a3_4.toInt) < (k_4 : Int)) → InvI Wd_lo Wd_hi I_4 → InvR Wd_rl R_4 → SmF ([17, 24, 25, 26, 27, 28, 29, 30] : List Nat) I0 I_4 → SmF ([44] : List Nat) R0 R_4 → ((0 : Int) ≤ a2_4.toInt ∧ a2_4.toInt ≤ (1 : Int)) → ((0 : Int) ≤ a3_4.toInt ∧ a3_4.toInt ≤ (1800 : Int)) → va_P G.1 vwCl (Wd G g q I_4 J_4 R_4 L_4) H → va_D A (Wd G g q I_4 J_4 R_4 L_4) → va_S A s.heap H locs → lv_has ls 4 [(0, .ref (g 76)), (1, .int p1), (2, .int a2_4), (3, .int a3_4)] → W p l e (rmD (D + 1) 0 0) s m [.ref (g 76), .int p1].toArray below meth c H locs 0 0 Q (F0 m 4 ls []) := by
    intro k_4
    induction k_4 with
    | zero =>
      intro a2_4 a3_4 I_4 J_4 R_4 L_4 H locs ls hm hvI hvR hsI hsR y0_4 y1_4 hP hD hS hl
      have w_I_4_28 := rg (hvI 28 (by decide)) (-1) (32) rfl rfl
      exact absurd hm (by omega)
    | succ k_4 ih_4 =>
      intro a2_4 a3_4 I_4 J_4 R_4 L_4 H locs ls hm hvI hvR hsI hsR y0_4 y1_4 hP hD hS hl
      have w_I_4_28 := rg (hvI 28 (by decide)) (-1) (32) rfl rfl
      have lab_39 : ∀ (b0_39 : Int32) (I_39 : Nat → Int32) (J_39 : Nat → Int64) (R_39 : Nat → Nat → Int32) (L_39 : Nat → Nat → Int64) (H : Heap) (locs : List Loc) (ls : Array Slot), InvI Wd_lo Wd_hi I_39 → InvR Wd_rl R_39 → SmF ([17, 24, 25, 26, 27, 28, 29, 30] : List Nat) I0 I_39 → SmF ([44] : List Nat) R0 R_39 → ((0 : Int) ≤ a3_4.toInt ∧ a3_4.toInt ≤ (1799 : Int)) → ((0 : Int) ≤ b0_39.toInt ∧ b0_39.toInt ≤ (1 : Int)) → va_P G.1 vwCl (Wd G g q I_39 J_39 R_39 L_39) H → va_D A (Wd G g q I_39 J_39 R_39 L_39) → va_S A s.heap H locs → lv_has ls 4 [(0, .ref (g 76)), (1, .int p1), (3, .int a3_4)] → W p l e (rmD (D + 1) 0 0) s m [.ref (g 76), .int p1].toArray below meth c H locs 0 0 Q (F0 m 39 ls [.int b0_39]) := by
        intro b0_39 I_39 J_39 R_39 L_39 H locs ls hvI hvR hsI hsR y0_39 y1_39 hP hD hS hl
        have w_I_39_28 := rg (hvI 28 (by decide)) (-1) (32) rfl rfl
        refine lv_istore_n (lv' := [(2, .int b0_39), (0, .ref (g 76)), (1, .int p1), (3, .int a3_4)]) hx hb dX6_readFact_39 rfl hl (by decide) rfl (fun ls hl => ?_)
        obtain ⟨x62, ex62⟩ : ∃ y : Int32, y = a3_4 + 1 := ⟨_, rfl⟩
        have fx62 : x62.toInt = a3_4.toInt + (1 : Int) := by rw [ex62]; exact t_add (by show (-2147483648 : Int) ≤ a3_4.toInt + (1 : Int); omega) (by show a3_4.toInt + (1 : Int) ≤ 2147483647; omega)
        refine lv_iinc (v := x62) (lv' := [(3, .int x62), (2, .int b0_39), (0, .ref (g 76)), (1, .int p1)]) hx hb dX6_readFact_40 hl (k := 3) rfl (by rw [ex62]; rfl) (by decide) rfl (fun ls hl => ?_)
        refine lv_goto (tgt := 4) hx hb dX6_readFact_43 (by decide) ?_
        exact ih_4 b0_39 x62 I_39 J_39 R_39 L_39 _ _ _ (show (1800 - x62.toInt) < (k_4 : Int) from by omega) hvI hvR hsI hsR (show ((0 : Int) ≤ b0_39.toInt ∧ b0_39.toInt ≤ (1 : Int)) from by omega) (show ((0 : Int) ≤ x62.toInt ∧ x62.toInt ≤ (1800 : Int)) from by omega) hP hD hS (lv_sub hl [2, 3, 1, 0] rfl)
      refine lv_iload_n hx hb dX6_readFact_4 rfl (lv_at hl 3 rfl) ?_
      refine lv_sipush (v := 1800) hx hb dX6_readFact_5 (by decide) ?_
      refine lv_icmp_ge (tgt := 46) hx hb dX6_readFact_8 (by decide) (fun c63 => ?_) (fun c63 => ?_)
      · have gc63 : 1800 ≤ a3_4.toInt := (tle _ _).mp c63
        exact lab_46 a2_4 I_4 J_4 R_4 L_4 _ _ _ hvI hvR hsI hsR (show ((0 : Int) ≤ a2_4.toInt ∧ a2_4.toInt ≤ (1 : Int)) from by omega) hP hD hS (lv_sub hl [0, 1, 2] rfl)
      · have gc63 : ¬ (1800 ≤ a3_4.toInt) := fun q0 => c63 ((tle _ _).mpr q0)
        refine lv_aload_n hx hb dX6_readFact_11 rfl (lv_at hl 0 rfl) ?_
        refine g_get F hK hP 69 (Wd_at69 G g q I_4 J_4 R_4 L_4) clX6 0 (by decide) flX6_9 rfl dX6_readFact_12 ?_
        refine g_get F hK hP 68 (Wd_at68 G g q I_4 J_4 R_4 L_4) clX5 6 (by decide) flX6_45 rfl dX6_readFact_15 ?_
        have w_I_4_28 := rg (hvI 28 (by decide)) (-1) (32) rfl rfl
        refine lv_bipush (v := 25) hx hb dX6_readFact_18 (by decide) ?_
        refine lv_icmp_ne (tgt := 46) hx hb dX6_readFact_20 (by decide) (fun c64 => ?_) (fun c64 => ?_)
        · have gc64 : ¬ ((I_4 28).toInt = 25) := fun q0 => c64 (Int32.toInt_inj.mp q0)
          exact lab_46 a2_4 I_4 J_4 R_4 L_4 _ _ _ hvI hvR hsI hsR (show ((0 : Int) ≤ a2_4.toInt ∧ a2_4.toInt ≤ (1 : Int)) from by omega) hP hD hS (lv_sub hl [0, 1, 2] rfl)
        · have gc64 : (I_4 28).toInt = 25 := congrArg Int32.toInt c64
          refine lv_aload_n hx hb dX6_readFact_23 rfl (lv_at hl 0 rfl) ?_
          refine g_get F hK hP 69 (Wd_at69 G g q I_4 J_4 R_4 L_4) clX6 0 (by decide) flX6_9 rfl dX6_readFact_24 ?_
          refine wvv (As := []) (rest := []) (b := (g 75)) (d := 3) F hK hP hD hS hA (s_X5_take l G g q I_4 J_4 R_4 L_4 hvI hvR   ) kmV_X5_take mlX6_49 clX5 rfl 68 (Wd_at68 G g q I_4 J_4 R_4 L_4) ⟨(by show 3 + 1 ≤ D + 1; omega), (by show 8 + (4 + 11) + 60 * (3) ≤ 60 * (D + 1); omega)⟩ hl.1 rfl (Nat.le_of_ble_eq_true rfl) dX6_readFact_27 (fun u66 H locs hwr65 hP hD hS => ?_)
          obtain ⟨I67, J68, R69, L70⟩ := u66
          replace hP : va_P G.1 vwCl (Wd G g q I67 J68 R69 L70) H := hP
          replace hD : va_D A (Wd G g q I67 J68 R69 L70) := hD
          obtain ⟨hvI, hvR, tIr65, tRr65, F0r65⟩ := hwr65
          replace F0r65 : ((¬ (I_4 29).toInt = 0) → (¬ (I67 29).toInt = 0)) := F0r65
          replace hvI : InvI Wd_lo Wd_hi I67 := hvI
          replace hvR : InvR Wd_rl R69 := hvR
          replace tIr65 : SmF ([24, 25, 26, 27, 28, 29, 30] : List Nat) I_4 I67 := tIr65
          replace tRr65 : SmF ([] : List Nat) R_4 R69 := tRr65
          have hsI := smF_tr hsI tIr65 (by decide)
          have hsR := smF_tr hsR tRr65 (by decide)
          have w_I67_28 := rg (hvI 28 (by decide)) (-1) (32) rfl rfl
          refine lv_iload_n hx hb dX6_readFact_30 rfl (lv_at hl 2 rfl) ?_
          refine lv_if_ne (tgt := 38) hx hb dX6_readFact_31 (by decide) (fun c71 => ?_) (fun c71 => ?_)
          · have gc71 : ¬ (a2_4.toInt = 0) := fun q0 => c71 (Int32.toInt_inj.mp q0)
            refine lv_iconst (v := 0) hx hb dX6_readFact_38 (by decide) ?_
            exact lab_39 0 I67 J68 R69 L70 _ _ _ hvI hvR hsI hsR (show ((0 : Int) ≤ a3_4.toInt ∧ a3_4.toInt ≤ (1799 : Int)) from by omega) (by decide) hP hD hS (lv_sub hl [0, 1, 3] rfl)
          · have gc71 : a2_4.toInt = 0 := congrArg Int32.toInt c71
            refine lv_iconst (v := 1) hx hb dX6_readFact_34 (by decide) ?_
            refine lv_goto (tgt := 39) hx hb dX6_readFact_35 (by decide) ?_
            exact lab_39 1 I67 J68 R69 L70 _ _ _ hvI hvR hsI hsR (show ((0 : Int) ≤ a3_4.toInt ∧ a3_4.toInt ≤ (1799 : Int)) from by omega) (by decide) hP hD hS (lv_sub hl [0, 1, 3] rfl)
  have w_I0_28 := rg (hvI 28 (by decide)) (-1) (32) rfl rfl
  refine lv_iconst (v := 0) hx hb dX6_readFact_0 (by decide) ?_
  refine lv_istore_n (lv' := [(2, .int 0), (0, .ref (g 76)), (1, .int p1)]) hx hb dX6_readFact_1 rfl hl (by decide) rfl (fun ls hl => ?_)
  refine lv_iconst (v := 0) hx hb dX6_readFact_2 (by decide) ?_
  refine lv_istore_n (lv' := [(3, .int 0), (2, .int 0), (0, .ref (g 76)), (1, .int p1)]) hx hb dX6_readFact_3 rfl hl (by decide) rfl (fun ls hl => ?_)
  exact lab_4 1801 0 0 I0 J0 R0 L0 _ _ _ (show (1800 - 0) < ((1801 : Nat) : Int) from by omega) hvI hvR hsI hsR (by decide) (by decide) hP hD hS (lv_sub hl [2, 3, 1, 0] rfl)
set_option maxHeartbeats 4000000 in
set_option maxRecDepth 100000 in
theorem sr_X6_readBoth (l : Launch) (G : Gx) (D n : Nat) (hDD : 54 ≤ D) (hIH : HTest l G D n) (g q : Nat → Nat) (I0 : Nat → Int32) (J0 : Nat → Int64) (R0 : Nat → Nat → Int32) (L0 : Nat → Nat → Int64) (hvI : InvI Wd_lo Wd_hi I0) (hvR : InvR Wd_rl R0) (hq2 : q 2 = (g 35)) (p1 : Int32) (hp1 : ((0 : Int) ≤ p1.toInt ∧ p1.toInt ≤ (8 : Int))) (hlev : 8 - p1.toInt < (n : Int) + 1) : CtV (S := St) l yX6_readBoth cX6_readBoth 3 none (rmD (D + 2) 0 0) G [.ref (g 76), .int p1] (Wd G g q I0 J0 R0 L0) (fun u => InvI Wd_lo Wd_hi u.1 ∧ InvR Wd_rl u.2.2.1 ∧ SmF ([17, 24, 25, 26, 27, 28, 29, 30] : List Nat) I0 u.1 ∧ SmF ([44] : List Nat) R0 u.2.2.1) (fun u => Wd G g q u.1 u.2.1 u.2.2.1 u.2.2.2) := by
  refine ctV_of (own := RX6) (by decide +kernel) rfl (Nat.le_of_ble_eq_true rfl) ?_
  intro p e s m below meth c A ls F hr hlk hnm hK hP hD hA hS hl
  have hx := F.1
  have hb := F.2.1
  have hown := F.2.2.2.1
  have hl : lv_has ls 3 [(0, .ref (g 76)), (1, .int p1)] := hl
  obtain ⟨Q, hQ⟩ : ∃ Q : State → Prop, Q = MQ below (va_Qv (S := St) (fun u => InvI Wd_lo Wd_hi u.1 ∧ InvR Wd_rl u.2.2.1 ∧ SmF ([17, 24, 25, 26, 27, 28, 29, 30] : List Nat) I0 u.1 ∧ SmF ([44] : List Nat) R0 u.2.2.1) (BX G A (fun u => Wd G g q u.1 u.2.1 u.2.2.1 u.2.2.2)) A) [.ref (g 76), .int p1].toArray s 0 0 A := ⟨_, rfl⟩
  rw [show (MQ below (va_Qv (S := St) (fun u => InvI Wd_lo Wd_hi u.1 ∧ InvR Wd_rl u.2.2.1 ∧ SmF ([17, 24, 25, 26, 27, 28, 29, 30] : List Nat) I0 u.1 ∧ SmF ([44] : List Nat) R0 u.2.2.1) (BX G A (fun u => Wd G g q u.1 u.2.1 u.2.2.1 u.2.2.2)) A) [.ref (g 76), .int p1].toArray s (rmD (D + 2) 0 0).cells (rmD (D + 2) 0 0).slots A) = Q from hQ.symm]
  have hsI := smF_rf ([17, 24, 25, 26, 27, 28, 29, 30] : List Nat) I0
  have hsR := smF_rf ([44] : List Nat) R0
  have lab_7 : ∀ (k_7 : Nat) (a2_7 : Int32) (I_7 : Nat → Int32) (J_7 : Nat → Int64) (R_7 : Nat → Nat → Int32) (L_7 : Nat → Nat → Int64) (H : Heap) (locs : List Loc) (ls : Array Slot), ((1800 - a2_7.toInt) < (k_7 : Int)) → InvI Wd_lo Wd_hi I_7 → InvR Wd_rl R_7 → SmF ([17, 24, 25, 26, 27, 28, 29, 30] : List Nat) I0 I_7 → SmF ([44] : List Nat) R0 R_7 → ((0 : Int) ≤ a2_7.toInt ∧ a2_7.toInt ≤ (1800 : Int)) → va_P G.1 vwCl (Wd G g q I_7 J_7 R_7 L_7) H → va_D A (Wd G g q I_7 J_7 R_7 L_7) → va_S A s.heap H locs → lv_has ls 3 [(0, .ref (g 76)), (1, .int p1), (2, .int a2_7)] → W p l e (rmD (D + 2) 0 0) s m [.ref (g 76), .int p1].toArray below meth c H locs 0 0 Q (F0 m 7 ls []) := by
    intro k_7
    induction k_7 with
    | zero =>
      intro a2_7 I_7 J_7 R_7 L_7 H locs ls hm hvI hvR hsI hsR y0_7 hP hD hS hl
      have w_I_7_28 := rg (hvI 28 (by decide)) (-1) (32) rfl rfl
      exact absurd hm (by omega)
    | succ k_7 ih_7 =>
      intro a2_7 I_7 J_7 R_7 L_7 H locs ls hm hvI hvR hsI hsR y0_7 hP hD hS hl
      have w_I_7_28 := rg (hvI 28 (by decide)) (-1) (32) rfl rfl
      refine lv_iload_n hx hb dX6_readBoth_7 rfl (lv_at hl 2 rfl) ?_
      refine lv_sipush (v := 1800) hx hb dX6_readBoth_8 (by decide) ?_
      refine lv_icmp_ge (tgt := 54) hx hb dX6_readBoth_11 (by decide) (fun c1 => ?_) (fun c1 => ?_)
      · have gc1 : 1800 ≤ a2_7.toInt := (tle _ _).mp c1
        rw [hQ]
        exact q_v F hr hlk (I_7, J_7, R_7, L_7) hP hD hS ⟨hvI, hvR, hsI, hsR⟩ dX6_readBoth_54 (Nat.le_of_ble_eq_true rfl) (Nat.le_of_ble_eq_true rfl)
      · have gc1 : ¬ (1800 ≤ a2_7.toInt) := fun q0 => c1 ((tle _ _).mpr q0)
        refine lv_aload_n hx hb dX6_readBoth_14 rfl (lv_at hl 0 rfl) ?_
        refine g_get F hK hP 69 (Wd_at69 G g q I_7 J_7 R_7 L_7) clX6 0 (by decide) flX6_9 rfl dX6_readBoth_15 ?_
        refine g_get F hK hP 68 (Wd_at68 G g q I_7 J_7 R_7 L_7) clX5 6 (by decide) flX6_45 rfl dX6_readBoth_18 ?_
        have w_I_7_28 := rg (hvI 28 (by decide)) (-1) (32) rfl rfl
        refine lv_bipush (v := 24) hx hb dX6_readBoth_21 (by decide) ?_
        refine lv_icmp_ne (tgt := 54) hx hb dX6_readBoth_23 (by decide) (fun c2 => ?_) (fun c2 => ?_)
        · have gc2 : ¬ ((I_7 28).toInt = 24) := fun q0 => c2 (Int32.toInt_inj.mp q0)
          rw [hQ]
          exact q_v F hr hlk (I_7, J_7, R_7, L_7) hP hD hS ⟨hvI, hvR, hsI, hsR⟩ dX6_readBoth_54 (Nat.le_of_ble_eq_true rfl) (Nat.le_of_ble_eq_true rfl)
        · have gc2 : (I_7 28).toInt = 24 := congrArg Int32.toInt c2
          refine lv_aload_n hx hb dX6_readBoth_26 rfl (lv_at hl 0 rfl) ?_
          refine g_get F hK hP 69 (Wd_at69 G g q I_7 J_7 R_7 L_7) clX6 0 (by decide) flX6_9 rfl dX6_readBoth_27 ?_
          refine wvv (As := []) (rest := []) (b := (g 75)) (d := 3) F hK hP hD hS hA (s_X5_take l G g q I_7 J_7 R_7 L_7 hvI hvR   ) kmV_X5_take mlX6_49 clX5 rfl 68 (Wd_at68 G g q I_7 J_7 R_7 L_7) ⟨(by show 3 + 1 ≤ D + 2; omega), (by show 8 + (4 + 11) + 60 * (3) ≤ 60 * (D + 2); omega)⟩ hl.1 rfl (Nat.le_of_ble_eq_true rfl) dX6_readBoth_30 (fun u4 H locs hwr3 hP hD hS => ?_)
          obtain ⟨I5, J6, R7, L8⟩ := u4
          replace hP : va_P G.1 vwCl (Wd G g q I5 J6 R7 L8) H := hP
          replace hD : va_D A (Wd G g q I5 J6 R7 L8) := hD
          obtain ⟨hvI, hvR, tIr3, tRr3, F0r3⟩ := hwr3
          replace F0r3 : ((¬ (I_7 29).toInt = 0) → (¬ (I5 29).toInt = 0)) := F0r3
          replace hvI : InvI Wd_lo Wd_hi I5 := hvI
          replace hvR : InvR Wd_rl R7 := hvR
          replace tIr3 : SmF ([24, 25, 26, 27, 28, 29, 30] : List Nat) I_7 I5 := tIr3
          replace tRr3 : SmF ([] : List Nat) R_7 R7 := tRr3
          have hsI := smF_tr hsI tIr3 (by decide)
          have hsR := smF_tr hsR tRr3 (by decide)
          have w_I5_28 := rg (hvI 28 (by decide)) (-1) (32) rfl rfl
          refine lv_aload_n hx hb dX6_readBoth_33 rfl (lv_at hl 0 rfl) ?_
          refine lv_iload_n hx hb dX6_readBoth_34 rfl (lv_at hl 1 rfl) ?_
          refine wvv (As := [.int p1]) (rest := []) (b := (g 76)) (d := (D + 1)) F hK hP hD hS hA (sr_X6_readFact l G D n hDD hIH g q I5 J6 R7 L8 hvI hvR hq2 p1 (show ((0 : Int) ≤ p1.toInt ∧ p1.toInt ≤ (8 : Int)) from by omega) (show 8 - p1.toInt < (n : Int) + 1 from by omega)) kmV_X6_readFact mlX6_56 clX6 rfl 69 (Wd_at69 G g q I5 J6 R7 L8) ⟨(by show (D + 1) + 1 ≤ D + 2; omega), (by show 8 + (4 + 11) + 60 * ((D + 1)) ≤ 60 * (D + 2); omega)⟩ hl.1 rfl (Nat.le_of_ble_eq_true rfl) dX6_readBoth_35 (fun u10 H locs hwr9 hP hD hS => ?_)
          obtain ⟨I11, J12, R13, L14⟩ := u10
          replace hP : va_P G.1 vwCl (Wd G g q I11 J12 R13 L14) H := hP
          replace hD : va_D A (Wd G g q I11 J12 R13 L14) := hD
          obtain ⟨hvI, hvR, tIr9, tRr9⟩ := hwr9
          replace hvI : InvI Wd_lo Wd_hi I11 := hvI
          replace hvR : InvR Wd_rl R13 := hvR
          replace tIr9 : SmF ([17, 24, 25, 26, 27, 28, 29, 30] : List Nat) I5 I11 := tIr9
          replace tRr9 : SmF ([44] : List Nat) R7 R13 := tRr9
          have hsI := smF_tr hsI tIr9 (by decide)
          have hsR := smF_tr hsR tRr9 (by decide)
          have w_I11_28 := rg (hvI 28 (by decide)) (-1) (32) rfl rfl
          refine lv_aload_n hx hb dX6_readBoth_38 rfl (lv_at hl 0 rfl) ?_
          refine g_get F hK hP 69 (Wd_at69 G g q I11 J12 R13 L14) clX6 1 (by decide) flX6_15 rfl dX6_readBoth_39 ?_
          refine cst_r hq2 ?_
          refine lv_bipush (v := 18) hx hb dX6_readBoth_42 (by decide) ?_
          refine lv_iconst (v := 0) hx hb dX6_readBoth_44 (by decide) ?_
          refine wvv (As := [.int 18, .int 0]) (rest := []) (b := (g 35)) (d := 1) F hK hP hD hS hA (s_X7_addStep l G g q I11 J12 R13 L14 hvI hvR  18 0 (by decide)) kmV_X7_addStep mlX6_52 clX7 rfl 36 (Wd_at36 G g q I11 J12 R13 L14) ⟨(by show 1 + 1 ≤ D + 2; omega), (by show 8 + (3 + 11) + 60 * (1) ≤ 60 * (D + 2); omega)⟩ hl.1 rfl (Nat.le_of_ble_eq_true rfl) dX6_readBoth_45 (fun u16 H locs hwr15 hP hD hS => ?_)
          obtain ⟨I17, J18, R19, L20⟩ := u16
          replace hP : va_P G.1 vwCl (Wd G g q I17 J18 R19 L20) H := hP
          replace hD : va_D A (Wd G g q I17 J18 R19 L20) := hD
          obtain ⟨hvI, hvR, tIr15, tRr15⟩ := hwr15
          replace hvI : InvI Wd_lo Wd_hi I17 := hvI
          replace hvR : InvR Wd_rl R19 := hvR
          replace tIr15 : SmF ([17] : List Nat) I11 I17 := tIr15
          replace tRr15 : SmF ([44] : List Nat) R13 R19 := tRr15
          have hsI := smF_tr hsI tIr15 (by decide)
          have hsR := smF_tr hsR tRr15 (by decide)
          have u_I17_28 : (I17 28).toInt = (I11 28).toInt := congrArg Int32.toInt (tIr15 28 rfl)
          obtain ⟨x21, ex21⟩ : ∃ y : Int32, y = a2_7 + 1 := ⟨_, rfl⟩
          have fx21 : x21.toInt = a2_7.toInt + (1 : Int) := by rw [ex21]; exact t_add (by show (-2147483648 : Int) ≤ a2_7.toInt + (1 : Int); omega) (by show a2_7.toInt + (1 : Int) ≤ 2147483647; omega)
          refine lv_iinc (v := x21) (lv' := [(2, .int x21), (0, .ref (g 76)), (1, .int p1)]) hx hb dX6_readBoth_48 hl (k := 2) rfl (by rw [ex21]; rfl) (by decide) rfl (fun ls hl => ?_)
          refine lv_goto (tgt := 7) hx hb dX6_readBoth_51 (by decide) ?_
          exact ih_7 x21 I17 J18 R19 L20 _ _ _ (show (1800 - x21.toInt) < (k_7 : Int) from by omega) hvI hvR hsI hsR (show ((0 : Int) ≤ x21.toInt ∧ x21.toInt ≤ (1800 : Int)) from by omega) hP hD hS (lv_sub hl [1, 2, 0] rfl)
  have w_I0_28 := rg (hvI 28 (by decide)) (-1) (32) rfl rfl
  refine lv_aload_n hx hb dX6_readBoth_0 rfl (lv_at hl 0 rfl) ?_
  refine lv_iload_n hx hb dX6_readBoth_1 rfl (lv_at hl 1 rfl) ?_
  refine wvv (As := [.int p1]) (rest := []) (b := (g 76)) (d := (D + 1)) F hK hP hD hS hA (sr_X6_readFact l G D n hDD hIH g q I0 J0 R0 L0 hvI hvR hq2 p1 (show ((0 : Int) ≤ p1.toInt ∧ p1.toInt ≤ (8 : Int)) from by omega) (show 8 - p1.toInt < (n : Int) + 1 from by omega)) kmV_X6_readFact mlX6_56 clX6 rfl 69 (Wd_at69 G g q I0 J0 R0 L0) ⟨(by show (D + 1) + 1 ≤ D + 2; omega), (by show 8 + (4 + 11) + 60 * ((D + 1)) ≤ 60 * (D + 2); omega)⟩ hl.1 rfl (Nat.le_of_ble_eq_true rfl) dX6_readBoth_2 (fun u23 H locs hwr22 hP hD hS => ?_)
  obtain ⟨I24, J25, R26, L27⟩ := u23
  replace hP : va_P G.1 vwCl (Wd G g q I24 J25 R26 L27) H := hP
  replace hD : va_D A (Wd G g q I24 J25 R26 L27) := hD
  obtain ⟨hvI, hvR, tIr22, tRr22⟩ := hwr22
  replace hvI : InvI Wd_lo Wd_hi I24 := hvI
  replace hvR : InvR Wd_rl R26 := hvR
  replace tIr22 : SmF ([17, 24, 25, 26, 27, 28, 29, 30] : List Nat) I0 I24 := tIr22
  replace tRr22 : SmF ([44] : List Nat) R0 R26 := tRr22
  have hsI := smF_tr hsI tIr22 (by decide)
  have hsR := smF_tr hsR tRr22 (by decide)
  have w_I24_28 := rg (hvI 28 (by decide)) (-1) (32) rfl rfl
  refine lv_iconst (v := 0) hx hb dX6_readBoth_5 (by decide) ?_
  refine lv_istore_n (lv' := [(2, .int 0), (0, .ref (g 76)), (1, .int p1)]) hx hb dX6_readBoth_6 rfl hl (by decide) rfl (fun ls hl => ?_)
  exact lab_7 1801 0 I24 J25 R26 L27 _ _ _ (show (1800 - 0) < ((1801 : Nat) : Int) from by omega) hvI hvR hsI hsR (by decide) hP hD hS (lv_sub hl [1, 2, 0] rfl)
set_option maxHeartbeats 4000000 in
set_option maxRecDepth 100000 in
theorem sr_X6_readTest (l : Launch) (G : Gx) (D n : Nat) (hDD : 54 ≤ D) (hIH : HTest l G D n) (g q : Nat → Nat) (I0 : Nat → Int32) (J0 : Nat → Int64) (R0 : Nat → Nat → Int32) (L0 : Nat → Nat → Int64) (hvI : InvI Wd_lo Wd_hi I0) (hvR : InvR Wd_rl R0) (hq2 : q 2 = (g 35)) (p1 : Int32) (hp1 : ((0 : Int) ≤ p1.toInt ∧ p1.toInt ≤ (8 : Int))) (hlev : 8 - p1.toInt < (n : Int) + 1) : CtV (S := St) l yX6_readTest cX6_readTest 3 none (rmD (D + 3) 0 0) G [.ref (g 76), .int p1] (Wd G g q I0 J0 R0 L0) (fun u => InvI Wd_lo Wd_hi u.1 ∧ InvR Wd_rl u.2.2.1 ∧ SmF ([17, 24, 25, 26, 27, 28, 29, 30] : List Nat) I0 u.1 ∧ SmF ([44] : List Nat) R0 u.2.2.1) (fun u => Wd G g q u.1 u.2.1 u.2.2.1 u.2.2.2) := by
  refine ctV_of (own := RX6) (by decide +kernel) rfl (Nat.le_of_ble_eq_true rfl) ?_
  intro p e s m below meth c A ls F hr hlk hnm hK hP hD hA hS hl
  have hx := F.1
  have hb := F.2.1
  have hown := F.2.2.2.1
  have hl : lv_has ls 3 [(0, .ref (g 76)), (1, .int p1)] := hl
  obtain ⟨Q, hQ⟩ : ∃ Q : State → Prop, Q = MQ below (va_Qv (S := St) (fun u => InvI Wd_lo Wd_hi u.1 ∧ InvR Wd_rl u.2.2.1 ∧ SmF ([17, 24, 25, 26, 27, 28, 29, 30] : List Nat) I0 u.1 ∧ SmF ([44] : List Nat) R0 u.2.2.1) (BX G A (fun u => Wd G g q u.1 u.2.1 u.2.2.1 u.2.2.2)) A) [.ref (g 76), .int p1].toArray s 0 0 A := ⟨_, rfl⟩
  rw [show (MQ below (va_Qv (S := St) (fun u => InvI Wd_lo Wd_hi u.1 ∧ InvR Wd_rl u.2.2.1 ∧ SmF ([17, 24, 25, 26, 27, 28, 29, 30] : List Nat) I0 u.1 ∧ SmF ([44] : List Nat) R0 u.2.2.1) (BX G A (fun u => Wd G g q u.1 u.2.1 u.2.2.1 u.2.2.2)) A) [.ref (g 76), .int p1].toArray s (rmD (D + 3) 0 0).cells (rmD (D + 3) 0 0).slots A) = Q from hQ.symm]
  have hsI := smF_rf ([17, 24, 25, 26, 27, 28, 29, 30] : List Nat) I0
  have hsR := smF_rf ([44] : List Nat) R0
  have lab_7 : ∀ (k_7 : Nat) (a2_7 : Int32) (I_7 : Nat → Int32) (J_7 : Nat → Int64) (R_7 : Nat → Nat → Int32) (L_7 : Nat → Nat → Int64) (H : Heap) (locs : List Loc) (ls : Array Slot), ((1800 - a2_7.toInt) < (k_7 : Int)) → InvI Wd_lo Wd_hi I_7 → InvR Wd_rl R_7 → SmF ([17, 24, 25, 26, 27, 28, 29, 30] : List Nat) I0 I_7 → SmF ([44] : List Nat) R0 R_7 → ((0 : Int) ≤ a2_7.toInt ∧ a2_7.toInt ≤ (1800 : Int)) → va_P G.1 vwCl (Wd G g q I_7 J_7 R_7 L_7) H → va_D A (Wd G g q I_7 J_7 R_7 L_7) → va_S A s.heap H locs → lv_has ls 3 [(0, .ref (g 76)), (1, .int p1), (2, .int a2_7)] → W p l e (rmD (D + 3) 0 0) s m [.ref (g 76), .int p1].toArray below meth c H locs 0 0 Q (F0 m 7 ls []) := by
    intro k_7
    induction k_7 with
    | zero =>
      intro a2_7 I_7 J_7 R_7 L_7 H locs ls hm hvI hvR hsI hsR y0_7 hP hD hS hl
      have w_I_7_28 := rg (hvI 28 (by decide)) (-1) (32) rfl rfl
      exact absurd hm (by omega)
    | succ k_7 ih_7 =>
      intro a2_7 I_7 J_7 R_7 L_7 H locs ls hm hvI hvR hsI hsR y0_7 hP hD hS hl
      have w_I_7_28 := rg (hvI 28 (by decide)) (-1) (32) rfl rfl
      refine lv_iload_n hx hb dX6_readTest_7 rfl (lv_at hl 2 rfl) ?_
      refine lv_sipush (v := 1800) hx hb dX6_readTest_8 (by decide) ?_
      refine lv_icmp_ge (tgt := 54) hx hb dX6_readTest_11 (by decide) (fun c1 => ?_) (fun c1 => ?_)
      · have gc1 : 1800 ≤ a2_7.toInt := (tle _ _).mp c1
        rw [hQ]
        exact q_v F hr hlk (I_7, J_7, R_7, L_7) hP hD hS ⟨hvI, hvR, hsI, hsR⟩ dX6_readTest_54 (Nat.le_of_ble_eq_true rfl) (Nat.le_of_ble_eq_true rfl)
      · have gc1 : ¬ (1800 ≤ a2_7.toInt) := fun q0 => c1 ((tle _ _).mpr q0)
        refine lv_aload_n hx hb dX6_readTest_14 rfl (lv_at hl 0 rfl) ?_
        refine g_get F hK hP 69 (Wd_at69 G g q I_7 J_7 R_7 L_7) clX6 0 (by decide) flX6_9 rfl dX6_readTest_15 ?_
        refine g_get F hK hP 68 (Wd_at68 G g q I_7 J_7 R_7 L_7) clX5 6 (by decide) flX6_45 rfl dX6_readTest_18 ?_
        have w_I_7_28 := rg (hvI 28 (by decide)) (-1) (32) rfl rfl
        refine lv_bipush (v := 23) hx hb dX6_readTest_21 (by decide) ?_
        refine lv_icmp_ne (tgt := 54) hx hb dX6_readTest_23 (by decide) (fun c2 => ?_) (fun c2 => ?_)
        · have gc2 : ¬ ((I_7 28).toInt = 23) := fun q0 => c2 (Int32.toInt_inj.mp q0)
          rw [hQ]
          exact q_v F hr hlk (I_7, J_7, R_7, L_7) hP hD hS ⟨hvI, hvR, hsI, hsR⟩ dX6_readTest_54 (Nat.le_of_ble_eq_true rfl) (Nat.le_of_ble_eq_true rfl)
        · have gc2 : (I_7 28).toInt = 23 := congrArg Int32.toInt c2
          refine lv_aload_n hx hb dX6_readTest_26 rfl (lv_at hl 0 rfl) ?_
          refine g_get F hK hP 69 (Wd_at69 G g q I_7 J_7 R_7 L_7) clX6 0 (by decide) flX6_9 rfl dX6_readTest_27 ?_
          refine wvv (As := []) (rest := []) (b := (g 75)) (d := 3) F hK hP hD hS hA (s_X5_take l G g q I_7 J_7 R_7 L_7 hvI hvR   ) kmV_X5_take mlX6_49 clX5 rfl 68 (Wd_at68 G g q I_7 J_7 R_7 L_7) ⟨(by show 3 + 1 ≤ D + 3; omega), (by show 8 + (4 + 11) + 60 * (3) ≤ 60 * (D + 3); omega)⟩ hl.1 rfl (Nat.le_of_ble_eq_true rfl) dX6_readTest_30 (fun u4 H locs hwr3 hP hD hS => ?_)
          obtain ⟨I5, J6, R7, L8⟩ := u4
          replace hP : va_P G.1 vwCl (Wd G g q I5 J6 R7 L8) H := hP
          replace hD : va_D A (Wd G g q I5 J6 R7 L8) := hD
          obtain ⟨hvI, hvR, tIr3, tRr3, F0r3⟩ := hwr3
          replace F0r3 : ((¬ (I_7 29).toInt = 0) → (¬ (I5 29).toInt = 0)) := F0r3
          replace hvI : InvI Wd_lo Wd_hi I5 := hvI
          replace hvR : InvR Wd_rl R7 := hvR
          replace tIr3 : SmF ([24, 25, 26, 27, 28, 29, 30] : List Nat) I_7 I5 := tIr3
          replace tRr3 : SmF ([] : List Nat) R_7 R7 := tRr3
          have hsI := smF_tr hsI tIr3 (by decide)
          have hsR := smF_tr hsR tRr3 (by decide)
          have w_I5_28 := rg (hvI 28 (by decide)) (-1) (32) rfl rfl
          refine lv_aload_n hx hb dX6_readTest_33 rfl (lv_at hl 0 rfl) ?_
          refine lv_iload_n hx hb dX6_readTest_34 rfl (lv_at hl 1 rfl) ?_
          refine wvv (As := [.int p1]) (rest := []) (b := (g 76)) (d := (D + 2)) F hK hP hD hS hA (sr_X6_readBoth l G D n hDD hIH g q I5 J6 R7 L8 hvI hvR hq2 p1 (show ((0 : Int) ≤ p1.toInt ∧ p1.toInt ≤ (8 : Int)) from by omega) (show 8 - p1.toInt < (n : Int) + 1 from by omega)) kmV_X6_readBoth mlX6_42 clX6 rfl 69 (Wd_at69 G g q I5 J6 R7 L8) ⟨(by show (D + 2) + 1 ≤ D + 3; omega), (by show 8 + (3 + 11) + 60 * ((D + 2)) ≤ 60 * (D + 3); omega)⟩ hl.1 rfl (Nat.le_of_ble_eq_true rfl) dX6_readTest_35 (fun u10 H locs hwr9 hP hD hS => ?_)
          obtain ⟨I11, J12, R13, L14⟩ := u10
          replace hP : va_P G.1 vwCl (Wd G g q I11 J12 R13 L14) H := hP
          replace hD : va_D A (Wd G g q I11 J12 R13 L14) := hD
          obtain ⟨hvI, hvR, tIr9, tRr9⟩ := hwr9
          replace hvI : InvI Wd_lo Wd_hi I11 := hvI
          replace hvR : InvR Wd_rl R13 := hvR
          replace tIr9 : SmF ([17, 24, 25, 26, 27, 28, 29, 30] : List Nat) I5 I11 := tIr9
          replace tRr9 : SmF ([44] : List Nat) R7 R13 := tRr9
          have hsI := smF_tr hsI tIr9 (by decide)
          have hsR := smF_tr hsR tRr9 (by decide)
          have w_I11_28 := rg (hvI 28 (by decide)) (-1) (32) rfl rfl
          refine lv_aload_n hx hb dX6_readTest_38 rfl (lv_at hl 0 rfl) ?_
          refine g_get F hK hP 69 (Wd_at69 G g q I11 J12 R13 L14) clX6 1 (by decide) flX6_15 rfl dX6_readTest_39 ?_
          refine cst_r hq2 ?_
          refine lv_bipush (v := 19) hx hb dX6_readTest_42 (by decide) ?_
          refine lv_iconst (v := 0) hx hb dX6_readTest_44 (by decide) ?_
          refine wvv (As := [.int 19, .int 0]) (rest := []) (b := (g 35)) (d := 1) F hK hP hD hS hA (s_X7_addStep l G g q I11 J12 R13 L14 hvI hvR  19 0 (by decide)) kmV_X7_addStep mlX6_52 clX7 rfl 36 (Wd_at36 G g q I11 J12 R13 L14) ⟨(by show 1 + 1 ≤ D + 3; omega), (by show 8 + (3 + 11) + 60 * (1) ≤ 60 * (D + 3); omega)⟩ hl.1 rfl (Nat.le_of_ble_eq_true rfl) dX6_readTest_45 (fun u16 H locs hwr15 hP hD hS => ?_)
          obtain ⟨I17, J18, R19, L20⟩ := u16
          replace hP : va_P G.1 vwCl (Wd G g q I17 J18 R19 L20) H := hP
          replace hD : va_D A (Wd G g q I17 J18 R19 L20) := hD
          obtain ⟨hvI, hvR, tIr15, tRr15⟩ := hwr15
          replace hvI : InvI Wd_lo Wd_hi I17 := hvI
          replace hvR : InvR Wd_rl R19 := hvR
          replace tIr15 : SmF ([17] : List Nat) I11 I17 := tIr15
          replace tRr15 : SmF ([44] : List Nat) R13 R19 := tRr15
          have hsI := smF_tr hsI tIr15 (by decide)
          have hsR := smF_tr hsR tRr15 (by decide)
          have u_I17_28 : (I17 28).toInt = (I11 28).toInt := congrArg Int32.toInt (tIr15 28 rfl)
          obtain ⟨x21, ex21⟩ : ∃ y : Int32, y = a2_7 + 1 := ⟨_, rfl⟩
          have fx21 : x21.toInt = a2_7.toInt + (1 : Int) := by rw [ex21]; exact t_add (by show (-2147483648 : Int) ≤ a2_7.toInt + (1 : Int); omega) (by show a2_7.toInt + (1 : Int) ≤ 2147483647; omega)
          refine lv_iinc (v := x21) (lv' := [(2, .int x21), (0, .ref (g 76)), (1, .int p1)]) hx hb dX6_readTest_48 hl (k := 2) rfl (by rw [ex21]; rfl) (by decide) rfl (fun ls hl => ?_)
          refine lv_goto (tgt := 7) hx hb dX6_readTest_51 (by decide) ?_
          exact ih_7 x21 I17 J18 R19 L20 _ _ _ (show (1800 - x21.toInt) < (k_7 : Int) from by omega) hvI hvR hsI hsR (show ((0 : Int) ≤ x21.toInt ∧ x21.toInt ≤ (1800 : Int)) from by omega) hP hD hS (lv_sub hl [1, 2, 0] rfl)
  have w_I0_28 := rg (hvI 28 (by decide)) (-1) (32) rfl rfl
  refine lv_aload_n hx hb dX6_readTest_0 rfl (lv_at hl 0 rfl) ?_
  refine lv_iload_n hx hb dX6_readTest_1 rfl (lv_at hl 1 rfl) ?_
  refine wvv (As := [.int p1]) (rest := []) (b := (g 76)) (d := (D + 2)) F hK hP hD hS hA (sr_X6_readBoth l G D n hDD hIH g q I0 J0 R0 L0 hvI hvR hq2 p1 (show ((0 : Int) ≤ p1.toInt ∧ p1.toInt ≤ (8 : Int)) from by omega) (show 8 - p1.toInt < (n : Int) + 1 from by omega)) kmV_X6_readBoth mlX6_42 clX6 rfl 69 (Wd_at69 G g q I0 J0 R0 L0) ⟨(by show (D + 2) + 1 ≤ D + 3; omega), (by show 8 + (3 + 11) + 60 * ((D + 2)) ≤ 60 * (D + 3); omega)⟩ hl.1 rfl (Nat.le_of_ble_eq_true rfl) dX6_readTest_2 (fun u23 H locs hwr22 hP hD hS => ?_)
  obtain ⟨I24, J25, R26, L27⟩ := u23
  replace hP : va_P G.1 vwCl (Wd G g q I24 J25 R26 L27) H := hP
  replace hD : va_D A (Wd G g q I24 J25 R26 L27) := hD
  obtain ⟨hvI, hvR, tIr22, tRr22⟩ := hwr22
  replace hvI : InvI Wd_lo Wd_hi I24 := hvI
  replace hvR : InvR Wd_rl R26 := hvR
  replace tIr22 : SmF ([17, 24, 25, 26, 27, 28, 29, 30] : List Nat) I0 I24 := tIr22
  replace tRr22 : SmF ([44] : List Nat) R0 R26 := tRr22
  have hsI := smF_tr hsI tIr22 (by decide)
  have hsR := smF_tr hsR tRr22 (by decide)
  have w_I24_28 := rg (hvI 28 (by decide)) (-1) (32) rfl rfl
  refine lv_iconst (v := 0) hx hb dX6_readTest_5 (by decide) ?_
  refine lv_istore_n (lv' := [(2, .int 0), (0, .ref (g 76)), (1, .int p1)]) hx hb dX6_readTest_6 rfl hl (by decide) rfl (fun ls hl => ?_)
  exact lab_7 1801 0 I24 J25 R26 L27 _ _ _ (show (1800 - 0) < ((1801 : Nat) : Int) from by omega) hvI hvR hsI hsR (by decide) hP hD hS (lv_sub hl [1, 2, 0] rfl)
theorem HTest_all (l : Launch) (G : Gx) : ∀ n : Nat, HTest l G (54 + 3 * n) n := by
  intro n
  induction n with
  | zero =>
    intro g q I0 J0 R0 L0 hvI hvR hq2 p1 hp1 hlev
    exact absurd hlev (by omega)
  | succ n ih =>
    intro g q I0 J0 R0 L0 hvI hvR hq2 p1 hp1 hlev
    have e : 54 + 3 * (n + 1) = 54 + 3 * n + 3 := by omega
    rw [e]
    exact sr_X6_readTest l G (54 + 3 * n) n (by omega) ih g q I0 J0 R0 L0 hvI hvR hq2 p1 hp1 (by omega)
theorem s_X6_readTest (l : Launch) (G : Gx) (g q : Nat → Nat) (I0 : Nat → Int32) (J0 : Nat → Int64) (R0 : Nat → Nat → Int32) (L0 : Nat → Nat → Int64) (hvI : InvI Wd_lo Wd_hi I0) (hvR : InvR Wd_rl R0) (hq2 : q 2 = (g 35)) (p1 : Int32) (hp1 : ((0 : Int) ≤ p1.toInt ∧ p1.toInt ≤ (8 : Int))) : CtV (S := St) l yX6_readTest cX6_readTest 3 none (rmD 81 0 0) G [.ref (g 76), .int p1] (Wd G g q I0 J0 R0 L0) (fun u => InvI Wd_lo Wd_hi u.1 ∧ InvR Wd_rl u.2.2.1 ∧ SmF ([17, 24, 25, 26, 27, 28, 29, 30] : List Nat) I0 u.1 ∧ SmF ([44] : List Nat) R0 u.2.2.1) (fun u => Wd G g q u.1 u.2.1 u.2.2.1 u.2.2.2) := HTest_all l G 9 g q I0 J0 R0 L0 hvI hvR hq2 p1 hp1 (by omega)
set_option maxHeartbeats 4000000 in
set_option maxRecDepth 100000 in
theorem s_X6_read (l : Launch) (G : Gx) (g q : Nat → Nat) (I0 : Nat → Int32) (J0 : Nat → Int64) (R0 : Nat → Nat → Int32) (L0 : Nat → Nat → Int64) (hvI : InvI Wd_lo Wd_hi I0) (hvR : InvR Wd_rl R0)    : CtV (S := (St × (Nat → Nat))) l yX6_read cX6_read 2 none (rmD 82 0 0) G [.ref (g 76), .ref (g 35)] (Wd G g q I0 J0 R0 L0) (fun u => InvI Wd_lo Wd_hi u.1.1 ∧ InvR Wd_rl u.1.2.2.1 ∧ SmF ([16, 17, 24, 25, 26, 27, 28, 29, 30] : List Nat) I0 u.1.1 ∧ SmF ([44, 45, 46, 47] : List Nat) R0 u.1.2.2.1 ∧ SmF ([2] : List Nat) q u.2) (fun u => Wd G g u.2 u.1.1 u.1.2.1 u.1.2.2.1 u.1.2.2.2) := by
  refine ctV_of (own := RX6) (by decide +kernel) rfl (Nat.le_of_ble_eq_true rfl) ?_
  intro p e s m below meth c A ls F hr hlk hnm hK hP hD hA hS hl
  have hx := F.1
  have hb := F.2.1
  have hown := F.2.2.2.1
  have hl : lv_has ls 2 [(0, .ref (g 76)), (1, .ref (g 35))] := hl
  obtain ⟨Q, hQ⟩ : ∃ Q : State → Prop, Q = MQ below (va_Qv (S := (St × (Nat → Nat))) (fun u => InvI Wd_lo Wd_hi u.1.1 ∧ InvR Wd_rl u.1.2.2.1 ∧ SmF ([16, 17, 24, 25, 26, 27, 28, 29, 30] : List Nat) I0 u.1.1 ∧ SmF ([44, 45, 46, 47] : List Nat) R0 u.1.2.2.1 ∧ SmF ([2] : List Nat) q u.2) (BX G A (fun u => Wd G g u.2 u.1.1 u.1.2.1 u.1.2.2.1 u.1.2.2.2)) A) [.ref (g 76), .ref (g 35)].toArray s 0 0 A := ⟨_, rfl⟩
  rw [show (MQ below (va_Qv (S := (St × (Nat → Nat))) (fun u => InvI Wd_lo Wd_hi u.1.1 ∧ InvR Wd_rl u.1.2.2.1 ∧ SmF ([16, 17, 24, 25, 26, 27, 28, 29, 30] : List Nat) I0 u.1.1 ∧ SmF ([44, 45, 46, 47] : List Nat) R0 u.1.2.2.1 ∧ SmF ([2] : List Nat) q u.2) (BX G A (fun u => Wd G g u.2 u.1.1 u.1.2.1 u.1.2.2.1 u.1.2.2.2)) A) [.ref (g 76), .ref (g 35)].toArray s (rmD 82 0 0).cells (rmD 82 0 0).slots A) = Q from hQ.symm]
  have hsI := smF_rf ([16, 17, 24, 25, 26, 27, 28, 29, 30] : List Nat) I0
  have hsR := smF_rf ([44, 45, 46, 47] : List Nat) R0
  have hsQ := smF_rf ([2] : List Nat) q
  refine lv_aload_n hx hb dX6_read_0 rfl (lv_at hl 0 rfl) ?_
  refine lv_aload_n hx hb dX6_read_1 rfl (lv_at hl 1 rfl) ?_
  refine p_fld (W1 := fun y => Wd G g y I0 J0 R0 L0) (n := 2) (v := (g 35)) F hK hP hD hS 69 (Wd_at69 G g q I0 J0 R0 L0) clX6 1 (by decide) flX6_15 rfl rfl rfl (Nat.le_of_ble_eq_true rfl) dX6_read_2 (Wd_setQ2 G g q I0 J0 R0 L0 _) (fun q1 H locs eq1 hP hD hS => ?_)
  have hsQ := smF_up hsQ eq1 (by decide)
  have hq2 : q1 2 = (g 35) := by rw [eq1]; rfl
  refine lv_aload_n hx hb dX6_read_5 rfl (lv_at hl 0 rfl) ?_
  refine g_get F hK hP 69 (Wd_at69 G g q1 I0 J0 R0 L0) clX6 1 (by decide) flX6_15 rfl dX6_read_6 ?_
  refine cst_r hq2 ?_
  refine wvv (As := []) (rest := []) (b := (g 35)) (d := 1) F hK hP hD hS hA (s_X7_beginSum l G g q1 I0 J0 R0 L0 hvI hvR   ) kmV_X7_beginSum mlX6_19 clX7 rfl 36 (Wd_at36 G g q1 I0 J0 R0 L0) ⟨(Nat.le_of_ble_eq_true rfl), (Nat.le_of_ble_eq_true rfl)⟩ hl.1 rfl (Nat.le_of_ble_eq_true rfl) dX6_read_9 (fun u3 H locs hwr2 hP hD hS => ?_)
  obtain ⟨I4, J5, R6, L7⟩ := u3
  replace hP : va_P G.1 vwCl (Wd G g q1 I4 J5 R6 L7) H := hP
  replace hD : va_D A (Wd G g q1 I4 J5 R6 L7) := hD
  obtain ⟨hvI, hvR, tIr2, tRr2⟩ := hwr2
  replace hvI : InvI Wd_lo Wd_hi I4 := hvI
  replace hvR : InvR Wd_rl R6 := hvR
  replace tIr2 : SmF ([] : List Nat) I0 I4 := tIr2
  replace tRr2 : SmF ([45] : List Nat) R0 R6 := tRr2
  have hsI := smF_tr hsI tIr2 (by decide)
  have hsR := smF_tr hsR tRr2 (by decide)
  refine lv_aload_n hx hb dX6_read_12 rfl (lv_at hl 0 rfl) ?_
  refine lv_iconst (v := 0) hx hb dX6_read_13 (by decide) ?_
  refine wvv (As := [.int 0]) (rest := []) (b := (g 76)) (d := 52) F hK hP hD hS hA (s_X6_readSum l G g q1 I4 J5 R6 L7 hvI hvR hq2 0 (by decide)) kmV_X6_readSum mlX6_24 clX6 rfl 69 (Wd_at69 G g q1 I4 J5 R6 L7) ⟨(Nat.le_of_ble_eq_true rfl), (Nat.le_of_ble_eq_true rfl)⟩ hl.1 rfl (Nat.le_of_ble_eq_true rfl) dX6_read_14 (fun u9 H locs hwr8 hP hD hS => ?_)
  obtain ⟨I10, J11, R12, L13⟩ := u9
  replace hP : va_P G.1 vwCl (Wd G g q1 I10 J11 R12 L13) H := hP
  replace hD : va_D A (Wd G g q1 I10 J11 R12 L13) := hD
  obtain ⟨hvI, hvR, tIr8, tRr8⟩ := hwr8
  replace hvI : InvI Wd_lo Wd_hi I10 := hvI
  replace hvR : InvR Wd_rl R12 := hvR
  replace tIr8 : SmF ([17, 24, 25, 26, 27, 28, 29, 30] : List Nat) I4 I10 := tIr8
  replace tRr8 : SmF ([44] : List Nat) R6 R12 := tRr8
  have hsI := smF_tr hsI tIr8 (by decide)
  have hsR := smF_tr hsR tRr8 (by decide)
  refine lv_aload_n hx hb dX6_read_17 rfl (lv_at hl 0 rfl) ?_
  refine g_get F hK hP 69 (Wd_at69 G g q1 I10 J11 R12 L13) clX6 0 (by decide) flX6_9 rfl dX6_read_18 ?_
  refine lv_bipush (v := 22) hx hb dX6_read_21 (by decide) ?_
  refine wvv (As := [.int 22]) (rest := []) (b := (g 75)) (d := 4) F hK hP hD hS hA (s_X5_takeOwnWord l G g q1 I10 J11 R12 L13 hvI hvR  22 (by decide)) kmV_X5_takeOwnWord mlX6_30 clX5 rfl 68 (Wd_at68 G g q1 I10 J11 R12 L13) ⟨(Nat.le_of_ble_eq_true rfl), (Nat.le_of_ble_eq_true rfl)⟩ hl.1 rfl (Nat.le_of_ble_eq_true rfl) dX6_read_23 (fun u15 H locs hwr14 hP hD hS => ?_)
  obtain ⟨I16, J17, R18, L19⟩ := u15
  replace hP : va_P G.1 vwCl (Wd G g q1 I16 J17 R18 L19) H := hP
  replace hD : va_D A (Wd G g q1 I16 J17 R18 L19) := hD
  obtain ⟨hvI, hvR, tIr14, tRr14, F0r14⟩ := hwr14
  replace F0r14 : ((¬ (I10 29).toInt = 0) → (¬ (I16 29).toInt = 0)) := F0r14
  replace hvI : InvI Wd_lo Wd_hi I16 := hvI
  replace hvR : InvR Wd_rl R18 := hvR
  replace tIr14 : SmF ([24, 25, 26, 27, 28, 29, 30] : List Nat) I10 I16 := tIr14
  replace tRr14 : SmF ([] : List Nat) R12 R18 := tRr14
  have hsI := smF_tr hsI tIr14 (by decide)
  have hsR := smF_tr hsR tRr14 (by decide)
  refine lv_aload_n hx hb dX6_read_26 rfl (lv_at hl 0 rfl) ?_
  refine g_get F hK hP 69 (Wd_at69 G g q1 I16 J17 R18 L19) clX6 1 (by decide) flX6_15 rfl dX6_read_27 ?_
  refine cst_r hq2 ?_
  refine wvv (As := []) (rest := []) (b := (g 35)) (d := 1) F hK hP hD hS hA (s_X7_beginTest l G g q1 I16 J17 R18 L19 hvI hvR   ) kmV_X7_beginTest mlX6_33 clX7 rfl 36 (Wd_at36 G g q1 I16 J17 R18 L19) ⟨(Nat.le_of_ble_eq_true rfl), (Nat.le_of_ble_eq_true rfl)⟩ hl.1 rfl (Nat.le_of_ble_eq_true rfl) dX6_read_30 (fun u21 H locs hwr20 hP hD hS => ?_)
  obtain ⟨I22, J23, R24, L25⟩ := u21
  replace hP : va_P G.1 vwCl (Wd G g q1 I22 J23 R24 L25) H := hP
  replace hD : va_D A (Wd G g q1 I22 J23 R24 L25) := hD
  obtain ⟨hvI, hvR, tIr20, tRr20⟩ := hwr20
  replace hvI : InvI Wd_lo Wd_hi I22 := hvI
  replace hvR : InvR Wd_rl R24 := hvR
  replace tIr20 : SmF ([] : List Nat) I16 I22 := tIr20
  replace tRr20 : SmF ([46] : List Nat) R18 R24 := tRr20
  have hsI := smF_tr hsI tIr20 (by decide)
  have hsR := smF_tr hsR tRr20 (by decide)
  refine lv_aload_n hx hb dX6_read_33 rfl (lv_at hl 0 rfl) ?_
  refine lv_iconst (v := 0) hx hb dX6_read_34 (by decide) ?_
  refine wvv (As := [.int 0]) (rest := []) (b := (g 76)) (d := 81) F hK hP hD hS hA (s_X6_readTest l G g q1 I22 J23 R24 L25 hvI hvR hq2 0 (by decide)) kmV_X6_readTest mlX6_36 clX6 rfl 69 (Wd_at69 G g q1 I22 J23 R24 L25) ⟨(Nat.le_of_ble_eq_true rfl), (Nat.le_of_ble_eq_true rfl)⟩ hl.1 rfl (Nat.le_of_ble_eq_true rfl) dX6_read_35 (fun u27 H locs hwr26 hP hD hS => ?_)
  obtain ⟨I28, J29, R30, L31⟩ := u27
  replace hP : va_P G.1 vwCl (Wd G g q1 I28 J29 R30 L31) H := hP
  replace hD : va_D A (Wd G g q1 I28 J29 R30 L31) := hD
  obtain ⟨hvI, hvR, tIr26, tRr26⟩ := hwr26
  replace hvI : InvI Wd_lo Wd_hi I28 := hvI
  replace hvR : InvR Wd_rl R30 := hvR
  replace tIr26 : SmF ([17, 24, 25, 26, 27, 28, 29, 30] : List Nat) I22 I28 := tIr26
  replace tRr26 : SmF ([44] : List Nat) R24 R30 := tRr26
  have hsI := smF_tr hsI tIr26 (by decide)
  have hsR := smF_tr hsR tRr26 (by decide)
  refine lv_aload_n hx hb dX6_read_38 rfl (lv_at hl 0 rfl) ?_
  refine g_get F hK hP 69 (Wd_at69 G g q1 I28 J29 R30 L31) clX6 1 (by decide) flX6_15 rfl dX6_read_39 ?_
  refine cst_r hq2 ?_
  refine wvv (As := []) (rest := []) (b := (g 35)) (d := 1) F hK hP hD hS hA (s_X7_close l G g q1 I28 J29 R30 L31 hvI hvR   ) kmV_X7_close mlX6_39 clX7 rfl 36 (Wd_at36 G g q1 I28 J29 R30 L31) ⟨(Nat.le_of_ble_eq_true rfl), (Nat.le_of_ble_eq_true rfl)⟩ hl.1 rfl (Nat.le_of_ble_eq_true rfl) dX6_read_42 (fun u33 H locs hwr32 hP hD hS => ?_)
  obtain ⟨I34, J35, R36, L37⟩ := u33
  replace hP : va_P G.1 vwCl (Wd G g q1 I34 J35 R36 L37) H := hP
  replace hD : va_D A (Wd G g q1 I34 J35 R36 L37) := hD
  obtain ⟨hvI, hvR, tIr32, tRr32⟩ := hwr32
  replace hvI : InvI Wd_lo Wd_hi I34 := hvI
  replace hvR : InvR Wd_rl R36 := hvR
  replace tIr32 : SmF ([16] : List Nat) I28 I34 := tIr32
  replace tRr32 : SmF ([47] : List Nat) R30 R36 := tRr32
  have hsI := smF_tr hsI tIr32 (by decide)
  have hsR := smF_tr hsR tRr32 (by decide)
  rw [hQ]
  exact q_v F hr hlk ((I34, J35, R36, L37), q1) hP hD hS ⟨hvI, hvR, hsI, hsR, hsQ⟩ dX6_read_45 (Nat.le_of_ble_eq_true rfl) (Nat.le_of_ble_eq_true rfl)
set_option maxHeartbeats 4000000 in
set_option maxRecDepth 100000 in
theorem s_X10_readNext (l : Launch) (G : Gx) (g q : Nat → Nat) (I0 : Nat → Int32) (J0 : Nat → Int64) (R0 : Nat → Nat → Int32) (L0 : Nat → Nat → Int64) (hvI : InvI Wd_lo Wd_hi I0) (hvR : InvR Wd_rl R0) (hq1 : q 1 = (g 44))   : CtV (S := (St × (Nat → Nat))) l yX10_readNext cX10_readNext 1 none (rmD 83 0 0) G [.ref (g 67)] (Wd G g q I0 J0 R0 L0) (fun u => InvI Wd_lo Wd_hi u.1.1 ∧ InvR Wd_rl u.1.2.2.1 ∧ SmF ([9, 10, 11, 12, 13, 14, 15, 16, 17, 22, 24, 25, 26, 27, 28, 29, 30] : List Nat) I0 u.1.1 ∧ SmF ([29, 30, 31, 32, 33, 34, 35, 36, 37, 38, 39, 40, 41, 44, 45, 46, 47, 50, 51, 53, 54, 55, 56, 57] : List Nat) R0 u.1.2.2.1 ∧ SmF ([2] : List Nat) q u.2) (fun u => Wd G g u.2 u.1.1 u.1.2.1 u.1.2.2.1 u.1.2.2.2) := by
  refine ctV_of (own := RX10) (by decide +kernel) rfl (Nat.le_of_ble_eq_true rfl) ?_
  intro p e s m below meth c A ls F hr hlk hnm hK hP hD hA hS hl
  have hx := F.1
  have hb := F.2.1
  have hown := F.2.2.2.1
  have hl : lv_has ls 1 [(0, .ref (g 67))] := hl
  obtain ⟨Q, hQ⟩ : ∃ Q : State → Prop, Q = MQ below (va_Qv (S := (St × (Nat → Nat))) (fun u => InvI Wd_lo Wd_hi u.1.1 ∧ InvR Wd_rl u.1.2.2.1 ∧ SmF ([9, 10, 11, 12, 13, 14, 15, 16, 17, 22, 24, 25, 26, 27, 28, 29, 30] : List Nat) I0 u.1.1 ∧ SmF ([29, 30, 31, 32, 33, 34, 35, 36, 37, 38, 39, 40, 41, 44, 45, 46, 47, 50, 51, 53, 54, 55, 56, 57] : List Nat) R0 u.1.2.2.1 ∧ SmF ([2] : List Nat) q u.2) (BX G A (fun u => Wd G g u.2 u.1.1 u.1.2.1 u.1.2.2.1 u.1.2.2.2)) A) [.ref (g 67)].toArray s 0 0 A := ⟨_, rfl⟩
  rw [show (MQ below (va_Qv (S := (St × (Nat → Nat))) (fun u => InvI Wd_lo Wd_hi u.1.1 ∧ InvR Wd_rl u.1.2.2.1 ∧ SmF ([9, 10, 11, 12, 13, 14, 15, 16, 17, 22, 24, 25, 26, 27, 28, 29, 30] : List Nat) I0 u.1.1 ∧ SmF ([29, 30, 31, 32, 33, 34, 35, 36, 37, 38, 39, 40, 41, 44, 45, 46, 47, 50, 51, 53, 54, 55, 56, 57] : List Nat) R0 u.1.2.2.1 ∧ SmF ([2] : List Nat) q u.2) (BX G A (fun u => Wd G g u.2 u.1.1 u.1.2.1 u.1.2.2.1 u.1.2.2.2)) A) [.ref (g 67)].toArray s (rmD 83 0 0).cells (rmD 83 0 0).slots A) = Q from hQ.symm]
  have hsI := smF_rf ([9, 10, 11, 12, 13, 14, 15, 16, 17, 22, 24, 25, 26, 27, 28, 29, 30] : List Nat) I0
  have hsR := smF_rf ([29, 30, 31, 32, 33, 34, 35, 36, 37, 38, 39, 40, 41, 44, 45, 46, 47, 50, 51, 53, 54, 55, 56, 57] : List Nat) R0
  have hsQ := smF_rf ([2] : List Nat) q
  have hqe1 := hq1
  have lab_213 : ∀  (I_213 : Nat → Int32) (J_213 : Nat → Int64) (R_213 : Nat → Nat → Int32) (L_213 : Nat → Nat → Int64) (q_213 : Nat → Nat) (H : Heap) (locs : List Loc) (ls : Array Slot), InvI Wd_lo Wd_hi I_213 → InvR Wd_rl R_213 → SmF ([9, 10, 11, 12, 13, 14, 15, 16, 17, 22, 24, 25, 26, 27, 28, 29, 30] : List Nat) I0 I_213 → SmF ([29, 30, 31, 32, 33, 34, 35, 36, 37, 38, 39, 40, 41, 44, 45, 46, 47, 50, 51, 53, 54, 55, 56, 57] : List Nat) R0 R_213 → SmF ([2] : List Nat) q q_213 → q_213 1 = (g 44) → va_P G.1 vwCl (Wd G g q_213 I_213 J_213 R_213 L_213) H → va_D A (Wd G g q_213 I_213 J_213 R_213 L_213) → va_S A s.heap H locs → lv_has ls 1 [(0, .ref (g 67))] → W p l e (rmD 83 0 0) s m [.ref (g 67)].toArray below meth c H locs 0 0 Q (F0 m 213 ls []) := by
    intro I_213 J_213 R_213 L_213 q_213 H locs ls hvI hvR hsI hsR hsQ hq1 hP hD hS hl
    have w_I_213_16 := rg (hvI 16 (by decide)) (0) (12) rfl rfl
    have w_I_213_28 := rg (hvI 28 (by decide)) (-1) (32) rfl rfl
    refine lv_aload_n hx hb dX10_readNext_213 rfl (lv_at hl 0 rfl) ?_
    refine g_get F hK hP 67 (Wd_at67 G g q_213 I_213 J_213 R_213 L_213) clX10 0 (by decide) flX10_15 rfl dX10_readNext_214 ?_
    refine lv_bipush (v := 59) hx hb dX10_readNext_217 (by decide) ?_
    refine wvv (As := [.int 59]) (rest := []) (b := (g 75)) (d := 4) F hK hP hD hS hA (s_X5_takeSign l G g q_213 I_213 J_213 R_213 L_213 hvI hvR  59 (by decide)) kmV_X5_takeSign mlX10_100 clX5 rfl 68 (Wd_at68 G g q_213 I_213 J_213 R_213 L_213) ⟨(Nat.le_of_ble_eq_true rfl), (Nat.le_of_ble_eq_true rfl)⟩ hl.1 rfl (Nat.le_of_ble_eq_true rfl) dX10_readNext_219 (fun u2 H locs hwr1 hP hD hS => ?_)
    obtain ⟨I3, J4, R5, L6⟩ := u2
    replace hP : va_P G.1 vwCl (Wd G g q_213 I3 J4 R5 L6) H := hP
    replace hD : va_D A (Wd G g q_213 I3 J4 R5 L6) := hD
    obtain ⟨hvI, hvR, tIr1, tRr1, F0r1⟩ := hwr1
    replace F0r1 : ((¬ (I_213 29).toInt = 0) → (¬ (I3 29).toInt = 0)) := F0r1
    replace hvI : InvI Wd_lo Wd_hi I3 := hvI
    replace hvR : InvR Wd_rl R5 := hvR
    replace tIr1 : SmF ([24, 25, 26, 27, 28, 29, 30] : List Nat) I_213 I3 := tIr1
    replace tRr1 : SmF ([] : List Nat) R_213 R5 := tRr1
    have hsI := smF_tr hsI tIr1 (by decide)
    have hsR := smF_tr hsR tRr1 (by decide)
    have u_I3_16 : (I3 16).toInt = (I_213 16).toInt := congrArg Int32.toInt (tIr1 16 rfl)
    have u_I3_22 : (I3 22).toInt = (I_213 22).toInt := congrArg Int32.toInt (tIr1 22 rfl)
    have w_I3_28 := rg (hvI 28 (by decide)) (-1) (32) rfl rfl
    refine lv_aload_n hx hb dX10_readNext_222 rfl (lv_at hl 0 rfl) ?_
    refine lv_dup hx hb dX10_readNext_223 rfl ?_
    refine g_get F hK hP 67 (Wd_at67 G g q_213 I3 J4 R5 L6) clX10 3 (by decide) flX10_9 rfl dX10_readNext_224 ?_
    refine lv_iconst (v := 1) hx hb dX10_readNext_227 (by decide) ?_
    refine lv_iadd hx hb dX10_readNext_228 ?_
    refine lv_topi (fun x7 ex7 => ?_)
    refine p_fld (W1 := fun y => Wd G g q_213 y J4 R5 L6) (n := 22) (v := x7) F hK hP hD hS 67 (Wd_at67 G g q_213 I3 J4 R5 L6) clX10 3 (by decide) flX10_9 rfl rfl rfl (Nat.le_of_ble_eq_true rfl) dX10_readNext_229 (Wd_setI22 G g q_213 I3 J4 R5 L6 _) (fun I8 H locs eI8 hP hD hS => ?_)
    have hvI : InvI Wd_lo Wd_hi I8 := inv_upI hvI 22 eI8 (full _)
    have hsI := smF_up hsI eI8 (by decide)
    have u_I8_16 : (I8 16).toInt = (I3 16).toInt := by rw [eI8]; rfl
    have u_I8_22 : (I8 22).toInt = x7.toInt := by rw [eI8]; rfl
    have u_I8_28 : (I8 28).toInt = (I3 28).toInt := by rw [eI8]; rfl
    rw [hQ]
    exact q_v F hr hlk ((I8, J4, R5, L6), q_213) hP hD hS ⟨hvI, hvR, hsI, hsR, hsQ⟩ dX10_readNext_232 (Nat.le_of_ble_eq_true rfl) (Nat.le_of_ble_eq_true rfl)
  have w_I0_16 := rg (hvI 16 (by decide)) (0) (12) rfl rfl
  have w_I0_28 := rg (hvI 28 (by decide)) (-1) (32) rfl rfl
  refine lv_aload_n hx hb dX10_readNext_0 rfl (lv_at hl 0 rfl) ?_
  refine g_get F hK hP 67 (Wd_at67 G g q I0 J0 R0 L0) clX10 0 (by decide) flX10_15 rfl dX10_readNext_1 ?_
  refine g_get F hK hP 68 (Wd_at68 G g q I0 J0 R0 L0) clX5 6 (by decide) flX10_47 rfl dX10_readNext_4 ?_
  have w_I0_28 := rg (hvI 28 (by decide)) (-1) (32) rfl rfl
  by_cases h9 : (I0 28) = 0
  · have gh9 : (I0 28).toInt = 0 := congrArg Int32.toInt h9
    refine cst_i h9 ?_
    refine lv_tableIn (off := 81) (tgt := 88) hx hb dX10_readNext_7 (by decide) (by decide) rfl (by decide) ?_
    refine lv_aload_n hx hb dX10_readNext_88 rfl (lv_at hl 0 rfl) ?_
    refine wvv (As := []) (rest := []) (b := (g 67)) (d := 5) F hK hP hD hS hA (s_X10_readFloor l G g q I0 J0 R0 L0 hvI hvR hq1  ) kmV_X10_readFloor mlX10_50 clX10 rfl 67 (Wd_at67 G g q I0 J0 R0 L0) ⟨(Nat.le_of_ble_eq_true rfl), (Nat.le_of_ble_eq_true rfl)⟩ hl.1 rfl (Nat.le_of_ble_eq_true rfl) dX10_readNext_89 (fun u11 H locs hwr10 hP hD hS => ?_)
    obtain ⟨I12, J13, R14, L15⟩ := u11
    replace hP : va_P G.1 vwCl (Wd G g q I12 J13 R14 L15) H := hP
    replace hD : va_D A (Wd G g q I12 J13 R14 L15) := hD
    obtain ⟨hvI, hvR, tIr10, tRr10⟩ := hwr10
    replace hvI : InvI Wd_lo Wd_hi I12 := hvI
    replace hvR : InvR Wd_rl R14 := hvR
    replace tIr10 : SmF ([12, 13, 24, 25, 26, 27, 28, 29, 30] : List Nat) I0 I12 := tIr10
    replace tRr10 : SmF ([29, 30, 31, 32, 33] : List Nat) R0 R14 := tRr10
    have hsI := smF_tr hsI tIr10 (by decide)
    have hsR := smF_tr hsR tRr10 (by decide)
    have u_I12_16 : (I12 16).toInt = (I0 16).toInt := congrArg Int32.toInt (tIr10 16 rfl)
    have u_I12_22 : (I12 22).toInt = (I0 22).toInt := congrArg Int32.toInt (tIr10 22 rfl)
    have w_I12_28 := rg (hvI 28 (by decide)) (-1) (32) rfl rfl
    refine lv_goto (tgt := 213) hx hb dX10_readNext_92 (by decide) ?_
    exact lab_213  I12 J13 R14 L15 q _ _ _ hvI hvR hsI hsR hsQ hq1  hP hD hS (lv_sub hl [0] rfl)
  by_cases h16 : (I0 28) = 1
  · have gh16 : (I0 28).toInt = 1 := congrArg Int32.toInt h16
    refine cst_i h16 ?_
    refine lv_tableIn (off := 198) (tgt := 205) hx hb dX10_readNext_7 (by decide) (by decide) rfl (by decide) ?_
    refine lv_aload_n hx hb dX10_readNext_205 rfl (lv_at hl 0 rfl) ?_
    refine g_get F hK hP 67 (Wd_at67 G g q I0 J0 R0 L0) clX10 0 (by decide) flX10_15 rfl dX10_readNext_206 ?_
    refine lv_iconst (v := 1) hx hb dX10_readNext_209 (by decide) ?_
    refine wvv (As := [.int 1]) (rest := []) (b := (g 75)) (d := 2) F hK hP hD hS hA (s_X5_fail l G g q I0 J0 R0 L0 hvI hvR  1 (by decide)) kmV_X5_fail mlX10_97 clX5 rfl 68 (Wd_at68 G g q I0 J0 R0 L0) ⟨(Nat.le_of_ble_eq_true rfl), (Nat.le_of_ble_eq_true rfl)⟩ hl.1 rfl (Nat.le_of_ble_eq_true rfl) dX10_readNext_210 (fun u18 H locs hwr17 hP hD hS => ?_)
    obtain ⟨I19, J20, R21, L22⟩ := u18
    replace hP : va_P G.1 vwCl (Wd G g q I19 J20 R21 L22) H := hP
    replace hD : va_D A (Wd G g q I19 J20 R21 L22) := hD
    obtain ⟨hvI, hvR, tIr17, tRr17, F0r17, F1r17⟩ := hwr17
    replace F0r17 : (¬ (I19 29).toInt = 0) := F0r17
    replace F1r17 : ((¬ (I0 29).toInt = 0) → (¬ (I19 29).toInt = 0)) := F1r17
    replace hvI : InvI Wd_lo Wd_hi I19 := hvI
    replace hvR : InvR Wd_rl R21 := hvR
    replace tIr17 : SmF ([26, 28, 29, 30] : List Nat) I0 I19 := tIr17
    replace tRr17 : SmF ([] : List Nat) R0 R21 := tRr17
    have hsI := smF_tr hsI tIr17 (by decide)
    have hsR := smF_tr hsR tRr17 (by decide)
    have u_I19_16 : (I19 16).toInt = (I0 16).toInt := congrArg Int32.toInt (tIr17 16 rfl)
    have u_I19_22 : (I19 22).toInt = (I0 22).toInt := congrArg Int32.toInt (tIr17 22 rfl)
    have w_I19_28 := rg (hvI 28 (by decide)) (-1) (32) rfl rfl
    exact lab_213  I19 J20 R21 L22 q _ _ _ hvI hvR hsI hsR hsQ hq1  hP hD hS (lv_sub hl [0] rfl)
  by_cases h23 : (I0 28) = 2
  · have gh23 : (I0 28).toInt = 2 := congrArg Int32.toInt h23
    refine cst_i h23 ?_
    refine lv_tableIn (off := 198) (tgt := 205) hx hb dX10_readNext_7 (by decide) (by decide) rfl (by decide) ?_
    refine lv_aload_n hx hb dX10_readNext_205 rfl (lv_at hl 0 rfl) ?_
    refine g_get F hK hP 67 (Wd_at67 G g q I0 J0 R0 L0) clX10 0 (by decide) flX10_15 rfl dX10_readNext_206 ?_
    refine lv_iconst (v := 1) hx hb dX10_readNext_209 (by decide) ?_
    refine wvv (As := [.int 1]) (rest := []) (b := (g 75)) (d := 2) F hK hP hD hS hA (s_X5_fail l G g q I0 J0 R0 L0 hvI hvR  1 (by decide)) kmV_X5_fail mlX10_97 clX5 rfl 68 (Wd_at68 G g q I0 J0 R0 L0) ⟨(Nat.le_of_ble_eq_true rfl), (Nat.le_of_ble_eq_true rfl)⟩ hl.1 rfl (Nat.le_of_ble_eq_true rfl) dX10_readNext_210 (fun u25 H locs hwr24 hP hD hS => ?_)
    obtain ⟨I26, J27, R28, L29⟩ := u25
    replace hP : va_P G.1 vwCl (Wd G g q I26 J27 R28 L29) H := hP
    replace hD : va_D A (Wd G g q I26 J27 R28 L29) := hD
    obtain ⟨hvI, hvR, tIr24, tRr24, F0r24, F1r24⟩ := hwr24
    replace F0r24 : (¬ (I26 29).toInt = 0) := F0r24
    replace F1r24 : ((¬ (I0 29).toInt = 0) → (¬ (I26 29).toInt = 0)) := F1r24
    replace hvI : InvI Wd_lo Wd_hi I26 := hvI
    replace hvR : InvR Wd_rl R28 := hvR
    replace tIr24 : SmF ([26, 28, 29, 30] : List Nat) I0 I26 := tIr24
    replace tRr24 : SmF ([] : List Nat) R0 R28 := tRr24
    have hsI := smF_tr hsI tIr24 (by decide)
    have hsR := smF_tr hsR tRr24 (by decide)
    have u_I26_16 : (I26 16).toInt = (I0 16).toInt := congrArg Int32.toInt (tIr24 16 rfl)
    have u_I26_22 : (I26 22).toInt = (I0 22).toInt := congrArg Int32.toInt (tIr24 22 rfl)
    have w_I26_28 := rg (hvI 28 (by decide)) (-1) (32) rfl rfl
    exact lab_213  I26 J27 R28 L29 q _ _ _ hvI hvR hsI hsR hsQ hq1  hP hD hS (lv_sub hl [0] rfl)
  by_cases h30 : (I0 28) = 3
  · have gh30 : (I0 28).toInt = 3 := congrArg Int32.toInt h30
    refine cst_i h30 ?_
    refine lv_tableIn (off := 198) (tgt := 205) hx hb dX10_readNext_7 (by decide) (by decide) rfl (by decide) ?_
    refine lv_aload_n hx hb dX10_readNext_205 rfl (lv_at hl 0 rfl) ?_
    refine g_get F hK hP 67 (Wd_at67 G g q I0 J0 R0 L0) clX10 0 (by decide) flX10_15 rfl dX10_readNext_206 ?_
    refine lv_iconst (v := 1) hx hb dX10_readNext_209 (by decide) ?_
    refine wvv (As := [.int 1]) (rest := []) (b := (g 75)) (d := 2) F hK hP hD hS hA (s_X5_fail l G g q I0 J0 R0 L0 hvI hvR  1 (by decide)) kmV_X5_fail mlX10_97 clX5 rfl 68 (Wd_at68 G g q I0 J0 R0 L0) ⟨(Nat.le_of_ble_eq_true rfl), (Nat.le_of_ble_eq_true rfl)⟩ hl.1 rfl (Nat.le_of_ble_eq_true rfl) dX10_readNext_210 (fun u32 H locs hwr31 hP hD hS => ?_)
    obtain ⟨I33, J34, R35, L36⟩ := u32
    replace hP : va_P G.1 vwCl (Wd G g q I33 J34 R35 L36) H := hP
    replace hD : va_D A (Wd G g q I33 J34 R35 L36) := hD
    obtain ⟨hvI, hvR, tIr31, tRr31, F0r31, F1r31⟩ := hwr31
    replace F0r31 : (¬ (I33 29).toInt = 0) := F0r31
    replace F1r31 : ((¬ (I0 29).toInt = 0) → (¬ (I33 29).toInt = 0)) := F1r31
    replace hvI : InvI Wd_lo Wd_hi I33 := hvI
    replace hvR : InvR Wd_rl R35 := hvR
    replace tIr31 : SmF ([26, 28, 29, 30] : List Nat) I0 I33 := tIr31
    replace tRr31 : SmF ([] : List Nat) R0 R35 := tRr31
    have hsI := smF_tr hsI tIr31 (by decide)
    have hsR := smF_tr hsR tRr31 (by decide)
    have u_I33_16 : (I33 16).toInt = (I0 16).toInt := congrArg Int32.toInt (tIr31 16 rfl)
    have u_I33_22 : (I33 22).toInt = (I0 22).toInt := congrArg Int32.toInt (tIr31 22 rfl)
    have w_I33_28 := rg (hvI 28 (by decide)) (-1) (32) rfl rfl
    exact lab_213  I33 J34 R35 L36 q _ _ _ hvI hvR hsI hsR hsQ hq1  hP hD hS (lv_sub hl [0] rfl)
  by_cases h37 : (I0 28) = 4
  · have gh37 : (I0 28).toInt = 4 := congrArg Int32.toInt h37
    refine cst_i h37 ?_
    refine lv_tableIn (off := 88) (tgt := 95) hx hb dX10_readNext_7 (by decide) (by decide) rfl (by decide) ?_
    refine lv_aload_n hx hb dX10_readNext_95 rfl (lv_at hl 0 rfl) ?_
    refine wvv (As := []) (rest := []) (b := (g 67)) (d := 5) F hK hP hD hS hA (s_X10_readTeam l G g q I0 J0 R0 L0 hvI hvR hq1  ) kmV_X10_readTeam mlX10_53 clX10 rfl 67 (Wd_at67 G g q I0 J0 R0 L0) ⟨(Nat.le_of_ble_eq_true rfl), (Nat.le_of_ble_eq_true rfl)⟩ hl.1 rfl (Nat.le_of_ble_eq_true rfl) dX10_readNext_96 (fun u39 H locs hwr38 hP hD hS => ?_)
    obtain ⟨I40, J41, R42, L43⟩ := u39
    replace hP : va_P G.1 vwCl (Wd G g q I40 J41 R42 L43) H := hP
    replace hD : va_D A (Wd G g q I40 J41 R42 L43) := hD
    obtain ⟨hvI, hvR, tIr38, tRr38⟩ := hwr38
    replace hvI : InvI Wd_lo Wd_hi I40 := hvI
    replace hvR : InvR Wd_rl R42 := hvR
    replace tIr38 : SmF ([9, 24, 25, 26, 27, 28, 29, 30] : List Nat) I0 I40 := tIr38
    replace tRr38 : SmF ([50, 51] : List Nat) R0 R42 := tRr38
    have hsI := smF_tr hsI tIr38 (by decide)
    have hsR := smF_tr hsR tRr38 (by decide)
    have u_I40_16 : (I40 16).toInt = (I0 16).toInt := congrArg Int32.toInt (tIr38 16 rfl)
    have u_I40_22 : (I40 22).toInt = (I0 22).toInt := congrArg Int32.toInt (tIr38 22 rfl)
    have w_I40_28 := rg (hvI 28 (by decide)) (-1) (32) rfl rfl
    refine lv_goto (tgt := 213) hx hb dX10_readNext_99 (by decide) ?_
    exact lab_213  I40 J41 R42 L43 q _ _ _ hvI hvR hsI hsR hsQ hq1  hP hD hS (lv_sub hl [0] rfl)
  by_cases h44 : (I0 28) = 5
  · have gh44 : (I0 28).toInt = 5 := congrArg Int32.toInt h44
    refine cst_i h44 ?_
    refine lv_tableIn (off := 95) (tgt := 102) hx hb dX10_readNext_7 (by decide) (by decide) rfl (by decide) ?_
    refine lv_aload_n hx hb dX10_readNext_102 rfl (lv_at hl 0 rfl) ?_
    refine wvv (As := []) (rest := []) (b := (g 67)) (d := 5) F hK hP hD hS hA (s_X10_readPerson l G g q I0 J0 R0 L0 hvI hvR hq1  ) kmV_X10_readPerson mlX10_56 clX10 rfl 67 (Wd_at67 G g q I0 J0 R0 L0) ⟨(Nat.le_of_ble_eq_true rfl), (Nat.le_of_ble_eq_true rfl)⟩ hl.1 rfl (Nat.le_of_ble_eq_true rfl) dX10_readNext_103 (fun u46 H locs hwr45 hP hD hS => ?_)
    obtain ⟨I47, J48, R49, L50⟩ := u46
    replace hP : va_P G.1 vwCl (Wd G g q I47 J48 R49 L50) H := hP
    replace hD : va_D A (Wd G g q I47 J48 R49 L50) := hD
    obtain ⟨hvI, hvR, tIr45, tRr45⟩ := hwr45
    replace hvI : InvI Wd_lo Wd_hi I47 := hvI
    replace hvR : InvR Wd_rl R49 := hvR
    replace tIr45 : SmF ([15, 24, 25, 26, 27, 28, 29, 30] : List Nat) I0 I47 := tIr45
    replace tRr45 : SmF ([34, 35, 36, 37, 38, 39, 40, 41] : List Nat) R0 R49 := tRr45
    have hsI := smF_tr hsI tIr45 (by decide)
    have hsR := smF_tr hsR tRr45 (by decide)
    have u_I47_16 : (I47 16).toInt = (I0 16).toInt := congrArg Int32.toInt (tIr45 16 rfl)
    have u_I47_22 : (I47 22).toInt = (I0 22).toInt := congrArg Int32.toInt (tIr45 22 rfl)
    have w_I47_28 := rg (hvI 28 (by decide)) (-1) (32) rfl rfl
    refine lv_goto (tgt := 213) hx hb dX10_readNext_106 (by decide) ?_
    exact lab_213  I47 J48 R49 L50 q _ _ _ hvI hvR hsI hsR hsQ hq1  hP hD hS (lv_sub hl [0] rfl)
  by_cases h51 : (I0 28) = 6
  · have gh51 : (I0 28).toInt = 6 := congrArg Int32.toInt h51
    refine cst_i h51 ?_
    refine lv_tableIn (off := 198) (tgt := 205) hx hb dX10_readNext_7 (by decide) (by decide) rfl (by decide) ?_
    refine lv_aload_n hx hb dX10_readNext_205 rfl (lv_at hl 0 rfl) ?_
    refine g_get F hK hP 67 (Wd_at67 G g q I0 J0 R0 L0) clX10 0 (by decide) flX10_15 rfl dX10_readNext_206 ?_
    refine lv_iconst (v := 1) hx hb dX10_readNext_209 (by decide) ?_
    refine wvv (As := [.int 1]) (rest := []) (b := (g 75)) (d := 2) F hK hP hD hS hA (s_X5_fail l G g q I0 J0 R0 L0 hvI hvR  1 (by decide)) kmV_X5_fail mlX10_97 clX5 rfl 68 (Wd_at68 G g q I0 J0 R0 L0) ⟨(Nat.le_of_ble_eq_true rfl), (Nat.le_of_ble_eq_true rfl)⟩ hl.1 rfl (Nat.le_of_ble_eq_true rfl) dX10_readNext_210 (fun u53 H locs hwr52 hP hD hS => ?_)
    obtain ⟨I54, J55, R56, L57⟩ := u53
    replace hP : va_P G.1 vwCl (Wd G g q I54 J55 R56 L57) H := hP
    replace hD : va_D A (Wd G g q I54 J55 R56 L57) := hD
    obtain ⟨hvI, hvR, tIr52, tRr52, F0r52, F1r52⟩ := hwr52
    replace F0r52 : (¬ (I54 29).toInt = 0) := F0r52
    replace F1r52 : ((¬ (I0 29).toInt = 0) → (¬ (I54 29).toInt = 0)) := F1r52
    replace hvI : InvI Wd_lo Wd_hi I54 := hvI
    replace hvR : InvR Wd_rl R56 := hvR
    replace tIr52 : SmF ([26, 28, 29, 30] : List Nat) I0 I54 := tIr52
    replace tRr52 : SmF ([] : List Nat) R0 R56 := tRr52
    have hsI := smF_tr hsI tIr52 (by decide)
    have hsR := smF_tr hsR tRr52 (by decide)
    have u_I54_16 : (I54 16).toInt = (I0 16).toInt := congrArg Int32.toInt (tIr52 16 rfl)
    have u_I54_22 : (I54 22).toInt = (I0 22).toInt := congrArg Int32.toInt (tIr52 22 rfl)
    have w_I54_28 := rg (hvI 28 (by decide)) (-1) (32) rfl rfl
    exact lab_213  I54 J55 R56 L57 q _ _ _ hvI hvR hsI hsR hsQ hq1  hP hD hS (lv_sub hl [0] rfl)
  by_cases h58 : (I0 28) = 7
  · have gh58 : (I0 28).toInt = 7 := congrArg Int32.toInt h58
    refine cst_i h58 ?_
    refine lv_tableIn (off := 102) (tgt := 109) hx hb dX10_readNext_7 (by decide) (by decide) rfl (by decide) ?_
    refine lv_aload_n hx hb dX10_readNext_109 rfl (lv_at hl 0 rfl) ?_
    refine wvv (As := []) (rest := []) (b := (g 67)) (d := 6) F hK hP hD hS hA (s_X10_readCannot l G g q I0 J0 R0 L0 hvI hvR hq1  ) kmV_X10_readCannot mlX10_59 clX10 rfl 67 (Wd_at67 G g q I0 J0 R0 L0) ⟨(Nat.le_of_ble_eq_true rfl), (Nat.le_of_ble_eq_true rfl)⟩ hl.1 rfl (Nat.le_of_ble_eq_true rfl) dX10_readNext_110 (fun u60 H locs hwr59 hP hD hS => ?_)
    obtain ⟨I61, J62, R63, L64⟩ := u60
    replace hP : va_P G.1 vwCl (Wd G g q I61 J62 R63 L64) H := hP
    replace hD : va_D A (Wd G g q I61 J62 R63 L64) := hD
    obtain ⟨hvI, hvR, tIr59, tRr59⟩ := hwr59
    replace hvI : InvI Wd_lo Wd_hi I61 := hvI
    replace hvR : InvR Wd_rl R63 := hvR
    replace tIr59 : SmF ([24, 25, 26, 27, 28, 29, 30] : List Nat) I0 I61 := tIr59
    replace tRr59 : SmF ([37] : List Nat) R0 R63 := tRr59
    have hsI := smF_tr hsI tIr59 (by decide)
    have hsR := smF_tr hsR tRr59 (by decide)
    have u_I61_16 : (I61 16).toInt = (I0 16).toInt := congrArg Int32.toInt (tIr59 16 rfl)
    have u_I61_22 : (I61 22).toInt = (I0 22).toInt := congrArg Int32.toInt (tIr59 22 rfl)
    have w_I61_28 := rg (hvI 28 (by decide)) (-1) (32) rfl rfl
    refine lv_goto (tgt := 213) hx hb dX10_readNext_113 (by decide) ?_
    exact lab_213  I61 J62 R63 L64 q _ _ _ hvI hvR hsI hsR hsQ hq1  hP hD hS (lv_sub hl [0] rfl)
  by_cases h65 : (I0 28) = 8
  · have gh65 : (I0 28).toInt = 8 := congrArg Int32.toInt h65
    refine cst_i h65 ?_
    refine lv_tableIn (off := 109) (tgt := 116) hx hb dX10_readNext_7 (by decide) (by decide) rfl (by decide) ?_
    refine lv_aload_n hx hb dX10_readNext_116 rfl (lv_at hl 0 rfl) ?_
    refine wvv (As := []) (rest := []) (b := (g 67)) (d := 6) F hK hP hD hS hA (s_X10_readLikes l G g q I0 J0 R0 L0 hvI hvR hq1  ) kmV_X10_readLikes mlX10_62 clX10 rfl 67 (Wd_at67 G g q I0 J0 R0 L0) ⟨(Nat.le_of_ble_eq_true rfl), (Nat.le_of_ble_eq_true rfl)⟩ hl.1 rfl (Nat.le_of_ble_eq_true rfl) dX10_readNext_117 (fun u67 H locs hwr66 hP hD hS => ?_)
    obtain ⟨I68, J69, R70, L71⟩ := u67
    replace hP : va_P G.1 vwCl (Wd G g q I68 J69 R70 L71) H := hP
    replace hD : va_D A (Wd G g q I68 J69 R70 L71) := hD
    obtain ⟨hvI, hvR, tIr66, tRr66⟩ := hwr66
    replace hvI : InvI Wd_lo Wd_hi I68 := hvI
    replace hvR : InvR Wd_rl R70 := hvR
    replace tIr66 : SmF ([24, 25, 26, 27, 28, 29, 30] : List Nat) I0 I68 := tIr66
    replace tRr66 : SmF ([41] : List Nat) R0 R70 := tRr66
    have hsI := smF_tr hsI tIr66 (by decide)
    have hsR := smF_tr hsR tRr66 (by decide)
    have u_I68_16 : (I68 16).toInt = (I0 16).toInt := congrArg Int32.toInt (tIr66 16 rfl)
    have u_I68_22 : (I68 22).toInt = (I0 22).toInt := congrArg Int32.toInt (tIr66 22 rfl)
    have w_I68_28 := rg (hvI 28 (by decide)) (-1) (32) rfl rfl
    refine lv_goto (tgt := 213) hx hb dX10_readNext_120 (by decide) ?_
    exact lab_213  I68 J69 R70 L71 q _ _ _ hvI hvR hsI hsR hsQ hq1  hP hD hS (lv_sub hl [0] rfl)
  by_cases h72 : (I0 28) = 9
  · have gh72 : (I0 28).toInt = 9 := congrArg Int32.toInt h72
    refine cst_i h72 ?_
    refine lv_tableIn (off := 116) (tgt := 123) hx hb dX10_readNext_7 (by decide) (by decide) rfl (by decide) ?_
    refine lv_aload_n hx hb dX10_readNext_123 rfl (lv_at hl 0 rfl) ?_
    refine wvv (As := []) (rest := []) (b := (g 67)) (d := 6) F hK hP hD hS hA (s_X10_readTie l G g q I0 J0 R0 L0 hvI hvR hq1  ) kmV_X10_readTie mlX10_65 clX10 rfl 67 (Wd_at67 G g q I0 J0 R0 L0) ⟨(Nat.le_of_ble_eq_true rfl), (Nat.le_of_ble_eq_true rfl)⟩ hl.1 rfl (Nat.le_of_ble_eq_true rfl) dX10_readNext_124 (fun u74 H locs hwr73 hP hD hS => ?_)
    obtain ⟨I75, J76, R77, L78⟩ := u74
    replace hP : va_P G.1 vwCl (Wd G g q I75 J76 R77 L78) H := hP
    replace hD : va_D A (Wd G g q I75 J76 R77 L78) := hD
    obtain ⟨hvI, hvR, tIr73, tRr73, F0r73⟩ := hwr73
    replace F0r73 : ((¬ (I0 29).toInt = 0) → (¬ (I75 29).toInt = 0)) := F0r73
    replace hvI : InvI Wd_lo Wd_hi I75 := hvI
    replace hvR : InvR Wd_rl R77 := hvR
    replace tIr73 : SmF ([10, 24, 25, 26, 27, 28, 29, 30] : List Nat) I0 I75 := tIr73
    replace tRr73 : SmF ([53, 54, 55] : List Nat) R0 R77 := tRr73
    have hsI := smF_tr hsI tIr73 (by decide)
    have hsR := smF_tr hsR tRr73 (by decide)
    have u_I75_16 : (I75 16).toInt = (I0 16).toInt := congrArg Int32.toInt (tIr73 16 rfl)
    have u_I75_22 : (I75 22).toInt = (I0 22).toInt := congrArg Int32.toInt (tIr73 22 rfl)
    have w_I75_28 := rg (hvI 28 (by decide)) (-1) (32) rfl rfl
    refine lv_goto (tgt := 213) hx hb dX10_readNext_127 (by decide) ?_
    exact lab_213  I75 J76 R77 L78 q _ _ _ hvI hvR hsI hsR hsQ hq1  hP hD hS (lv_sub hl [0] rfl)
  by_cases h79 : (I0 28) = 10
  · have gh79 : (I0 28).toInt = 10 := congrArg Int32.toInt h79
    refine cst_i h79 ?_
    refine lv_tableIn (off := 123) (tgt := 130) hx hb dX10_readNext_7 (by decide) (by decide) rfl (by decide) ?_
    refine lv_aload_n hx hb dX10_readNext_130 rfl (lv_at hl 0 rfl) ?_
    refine wvv (As := []) (rest := []) (b := (g 67)) (d := 6) F hK hP hD hS hA (s_X10_readComes l G g q I0 J0 R0 L0 hvI hvR hq1  ) kmV_X10_readComes mlX10_68 clX10 rfl 67 (Wd_at67 G g q I0 J0 R0 L0) ⟨(Nat.le_of_ble_eq_true rfl), (Nat.le_of_ble_eq_true rfl)⟩ hl.1 rfl (Nat.le_of_ble_eq_true rfl) dX10_readNext_131 (fun u81 H locs hwr80 hP hD hS => ?_)
    obtain ⟨I82, J83, R84, L85⟩ := u81
    replace hP : va_P G.1 vwCl (Wd G g q I82 J83 R84 L85) H := hP
    replace hD : va_D A (Wd G g q I82 J83 R84 L85) := hD
    obtain ⟨hvI, hvR, tIr80, tRr80⟩ := hwr80
    replace hvI : InvI Wd_lo Wd_hi I82 := hvI
    replace hvR : InvR Wd_rl R84 := hvR
    replace tIr80 : SmF ([24, 25, 26, 27, 28, 29, 30] : List Nat) I0 I82 := tIr80
    replace tRr80 : SmF ([38] : List Nat) R0 R84 := tRr80
    have hsI := smF_tr hsI tIr80 (by decide)
    have hsR := smF_tr hsR tRr80 (by decide)
    have u_I82_16 : (I82 16).toInt = (I0 16).toInt := congrArg Int32.toInt (tIr80 16 rfl)
    have u_I82_22 : (I82 22).toInt = (I0 22).toInt := congrArg Int32.toInt (tIr80 22 rfl)
    have w_I82_28 := rg (hvI 28 (by decide)) (-1) (32) rfl rfl
    refine lv_goto (tgt := 213) hx hb dX10_readNext_134 (by decide) ?_
    exact lab_213  I82 J83 R84 L85 q _ _ _ hvI hvR hsI hsR hsQ hq1  hP hD hS (lv_sub hl [0] rfl)
  by_cases h86 : (I0 28) = 11
  · have gh86 : (I0 28).toInt = 11 := congrArg Int32.toInt h86
    refine cst_i h86 ?_
    refine lv_tableIn (off := 130) (tgt := 137) hx hb dX10_readNext_7 (by decide) (by decide) rfl (by decide) ?_
    refine lv_aload_n hx hb dX10_readNext_137 rfl (lv_at hl 0 rfl) ?_
    refine wvv (As := []) (rest := []) (b := (g 67)) (d := 5) F hK hP hD hS hA (s_X10_readVisit l G g q I0 J0 R0 L0 hvI hvR hq1  ) kmV_X10_readVisit mlX10_71 clX10 rfl 67 (Wd_at67 G g q I0 J0 R0 L0) ⟨(Nat.le_of_ble_eq_true rfl), (Nat.le_of_ble_eq_true rfl)⟩ hl.1 rfl (Nat.le_of_ble_eq_true rfl) dX10_readNext_138 (fun u88 H locs hwr87 hP hD hS => ?_)
    obtain ⟨I89, J90, R91, L92⟩ := u88
    replace hP : va_P G.1 vwCl (Wd G g q I89 J90 R91 L92) H := hP
    replace hD : va_D A (Wd G g q I89 J90 R91 L92) := hD
    obtain ⟨hvI, hvR, tIr87, tRr87⟩ := hwr87
    replace hvI : InvI Wd_lo Wd_hi I89 := hvI
    replace hvR : InvR Wd_rl R91 := hvR
    replace tIr87 : SmF ([24, 25, 26, 27, 28, 29, 30] : List Nat) I0 I89 := tIr87
    replace tRr87 : SmF ([56, 57] : List Nat) R0 R91 := tRr87
    have hsI := smF_tr hsI tIr87 (by decide)
    have hsR := smF_tr hsR tRr87 (by decide)
    have u_I89_16 : (I89 16).toInt = (I0 16).toInt := congrArg Int32.toInt (tIr87 16 rfl)
    have u_I89_22 : (I89 22).toInt = (I0 22).toInt := congrArg Int32.toInt (tIr87 22 rfl)
    have w_I89_28 := rg (hvI 28 (by decide)) (-1) (32) rfl rfl
    refine lv_goto (tgt := 213) hx hb dX10_readNext_141 (by decide) ?_
    exact lab_213  I89 J90 R91 L92 q _ _ _ hvI hvR hsI hsR hsQ hq1  hP hD hS (lv_sub hl [0] rfl)
  by_cases h93 : (I0 28) = 12
  · have gh93 : (I0 28).toInt = 12 := congrArg Int32.toInt h93
    refine cst_i h93 ?_
    refine lv_tableIn (off := 137) (tgt := 144) hx hb dX10_readNext_7 (by decide) (by decide) rfl (by decide) ?_
    refine lv_aload_n hx hb dX10_readNext_144 rfl (lv_at hl 0 rfl) ?_
    refine wvv (As := []) (rest := []) (b := (g 67)) (d := 5) F hK hP hD hS hA (s_X10_readOwn l G g q I0 J0 R0 L0 hvI hvR hq1  ) kmV_X10_readOwn mlX10_74 clX10 rfl 67 (Wd_at67 G g q I0 J0 R0 L0) ⟨(Nat.le_of_ble_eq_true rfl), (Nat.le_of_ble_eq_true rfl)⟩ hl.1 rfl (Nat.le_of_ble_eq_true rfl) dX10_readNext_145 (fun u95 H locs hwr94 hP hD hS => ?_)
    obtain ⟨I96, J97, R98, L99⟩ := u95
    replace hP : va_P G.1 vwCl (Wd G g q I96 J97 R98 L99) H := hP
    replace hD : va_D A (Wd G g q I96 J97 R98 L99) := hD
    obtain ⟨hvI, hvR, tIr94, tRr94, F0r94⟩ := hwr94
    replace F0r94 : ((¬ (I0 29).toInt = 0) → (¬ (I96 29).toInt = 0)) := F0r94
    replace hvI : InvI Wd_lo Wd_hi I96 := hvI
    replace hvR : InvR Wd_rl R98 := hvR
    replace tIr94 : SmF ([14, 24, 25, 26, 27, 28, 29, 30] : List Nat) I0 I96 := tIr94
    replace tRr94 : SmF ([33, 39] : List Nat) R0 R98 := tRr94
    have hsI := smF_tr hsI tIr94 (by decide)
    have hsR := smF_tr hsR tRr94 (by decide)
    have u_I96_16 : (I96 16).toInt = (I0 16).toInt := congrArg Int32.toInt (tIr94 16 rfl)
    have u_I96_22 : (I96 22).toInt = (I0 22).toInt := congrArg Int32.toInt (tIr94 22 rfl)
    have w_I96_28 := rg (hvI 28 (by decide)) (-1) (32) rfl rfl
    refine lv_goto (tgt := 213) hx hb dX10_readNext_148 (by decide) ?_
    exact lab_213  I96 J97 R98 L99 q _ _ _ hvI hvR hsI hsR hsQ hq1  hP hD hS (lv_sub hl [0] rfl)
  by_cases h100 : (I0 28) = 13
  · have gh100 : (I0 28).toInt = 13 := congrArg Int32.toInt h100
    refine cst_i h100 ?_
    refine lv_tableIn (off := 144) (tgt := 151) hx hb dX10_readNext_7 (by decide) (by decide) rfl (by decide) ?_
    refine lv_aload_n hx hb dX10_readNext_151 rfl (lv_at hl 0 rfl) ?_
    refine wvv (As := []) (rest := []) (b := (g 67)) (d := 5) F hK hP hD hS hA (s_X10_readMeet l G g q I0 J0 R0 L0 hvI hvR hq1  ) kmV_X10_readMeet mlX10_77 clX10 rfl 67 (Wd_at67 G g q I0 J0 R0 L0) ⟨(Nat.le_of_ble_eq_true rfl), (Nat.le_of_ble_eq_true rfl)⟩ hl.1 rfl (Nat.le_of_ble_eq_true rfl) dX10_readNext_152 (fun u102 H locs hwr101 hP hD hS => ?_)
    obtain ⟨I103, J104, R105, L106⟩ := u102
    replace hP : va_P G.1 vwCl (Wd G g q I103 J104 R105 L106) H := hP
    replace hD : va_D A (Wd G g q I103 J104 R105 L106) := hD
    obtain ⟨hvI, hvR, tIr101, tRr101⟩ := hwr101
    replace hvI : InvI Wd_lo Wd_hi I103 := hvI
    replace hvR : InvR Wd_rl R105 := hvR
    replace tIr101 : SmF ([24, 25, 26, 27, 28, 29, 30] : List Nat) I0 I103 := tIr101
    replace tRr101 : SmF ([51] : List Nat) R0 R105 := tRr101
    have hsI := smF_tr hsI tIr101 (by decide)
    have hsR := smF_tr hsR tRr101 (by decide)
    have u_I103_16 : (I103 16).toInt = (I0 16).toInt := congrArg Int32.toInt (tIr101 16 rfl)
    have u_I103_22 : (I103 22).toInt = (I0 22).toInt := congrArg Int32.toInt (tIr101 22 rfl)
    have w_I103_28 := rg (hvI 28 (by decide)) (-1) (32) rfl rfl
    refine lv_goto (tgt := 213) hx hb dX10_readNext_155 (by decide) ?_
    exact lab_213  I103 J104 R105 L106 q _ _ _ hvI hvR hsI hsR hsQ hq1  hP hD hS (lv_sub hl [0] rfl)
  by_cases h107 : (I0 28) = 14
  · have gh107 : (I0 28).toInt = 14 := congrArg Int32.toInt h107
    refine cst_i h107 ?_
    refine lv_tableIn (off := 151) (tgt := 158) hx hb dX10_readNext_7 (by decide) (by decide) rfl (by decide) ?_
    refine lv_aload_n hx hb dX10_readNext_158 rfl (lv_at hl 0 rfl) ?_
    refine wvv (As := []) (rest := []) (b := (g 67)) (d := 6) F hK hP hD hS hA (s_X10_readTurns l G g q I0 J0 R0 L0 hvI hvR hq1  ) kmV_X10_readTurns mlX10_80 clX10 rfl 67 (Wd_at67 G g q I0 J0 R0 L0) ⟨(Nat.le_of_ble_eq_true rfl), (Nat.le_of_ble_eq_true rfl)⟩ hl.1 rfl (Nat.le_of_ble_eq_true rfl) dX10_readNext_159 (fun u109 H locs hwr108 hP hD hS => ?_)
    obtain ⟨I110, J111, R112, L113⟩ := u109
    replace hP : va_P G.1 vwCl (Wd G g q I110 J111 R112 L113) H := hP
    replace hD : va_D A (Wd G g q I110 J111 R112 L113) := hD
    obtain ⟨hvI, hvR, tIr108, tRr108⟩ := hwr108
    replace hvI : InvI Wd_lo Wd_hi I110 := hvI
    replace hvR : InvR Wd_rl R112 := hvR
    replace tIr108 : SmF ([24, 25, 26, 27, 28, 29, 30] : List Nat) I0 I110 := tIr108
    replace tRr108 : SmF ([40] : List Nat) R0 R112 := tRr108
    have hsI := smF_tr hsI tIr108 (by decide)
    have hsR := smF_tr hsR tRr108 (by decide)
    have u_I110_16 : (I110 16).toInt = (I0 16).toInt := congrArg Int32.toInt (tIr108 16 rfl)
    have u_I110_22 : (I110 22).toInt = (I0 22).toInt := congrArg Int32.toInt (tIr108 22 rfl)
    have w_I110_28 := rg (hvI 28 (by decide)) (-1) (32) rfl rfl
    refine lv_goto (tgt := 213) hx hb dX10_readNext_162 (by decide) ?_
    exact lab_213  I110 J111 R112 L113 q _ _ _ hvI hvR hsI hsR hsQ hq1  hP hD hS (lv_sub hl [0] rfl)
  by_cases h114 : (I0 28) = 15
  · have gh114 : (I0 28).toInt = 15 := congrArg Int32.toInt h114
    refine cst_i h114 ?_
    refine lv_tableIn (off := 158) (tgt := 165) hx hb dX10_readNext_7 (by decide) (by decide) rfl (by decide) ?_
    refine lv_aload_n hx hb dX10_readNext_165 rfl (lv_at hl 0 rfl) ?_
    refine wvv (As := []) (rest := []) (b := (g 67)) (d := 5) F hK hP hD hS hA (s_X10_readStand l G g q I0 J0 R0 L0 hvI hvR hq1  ) kmV_X10_readStand mlX10_83 clX10 rfl 67 (Wd_at67 G g q I0 J0 R0 L0) ⟨(Nat.le_of_ble_eq_true rfl), (Nat.le_of_ble_eq_true rfl)⟩ hl.1 rfl (Nat.le_of_ble_eq_true rfl) dX10_readNext_166 (fun u116 H locs hwr115 hP hD hS => ?_)
    obtain ⟨I117, J118, R119, L120⟩ := u116
    replace hP : va_P G.1 vwCl (Wd G g q I117 J118 R119 L120) H := hP
    replace hD : va_D A (Wd G g q I117 J118 R119 L120) := hD
    obtain ⟨hvI, hvR, tIr115, tRr115⟩ := hwr115
    replace hvI : InvI Wd_lo Wd_hi I117 := hvI
    replace hvR : InvR Wd_rl R119 := hvR
    replace tIr115 : SmF ([11, 24, 25, 26, 27, 28, 29, 30] : List Nat) I0 I117 := tIr115
    replace tRr115 : SmF ([] : List Nat) R0 R119 := tRr115
    have hsI := smF_tr hsI tIr115 (by decide)
    have hsR := smF_tr hsR tRr115 (by decide)
    have u_I117_16 : (I117 16).toInt = (I0 16).toInt := congrArg Int32.toInt (tIr115 16 rfl)
    have u_I117_22 : (I117 22).toInt = (I0 22).toInt := congrArg Int32.toInt (tIr115 22 rfl)
    have w_I117_28 := rg (hvI 28 (by decide)) (-1) (32) rfl rfl
    refine lv_goto (tgt := 213) hx hb dX10_readNext_169 (by decide) ?_
    exact lab_213  I117 J118 R119 L120 q _ _ _ hvI hvR hsI hsR hsQ hq1  hP hD hS (lv_sub hl [0] rfl)
  by_cases h121 : (I0 28) = 16
  · have gh121 : (I0 28).toInt = 16 := congrArg Int32.toInt h121
    refine cst_i h121 ?_
    refine lv_tableIn (off := 165) (tgt := 172) hx hb dX10_readNext_7 (by decide) (by decide) rfl (by decide) ?_
    refine lv_aload_n hx hb dX10_readNext_172 rfl (lv_at hl 0 rfl) ?_
    refine lv_aload_n hx hb dX10_readNext_173 rfl (lv_at hl 0 rfl) ?_
    refine g_get F hK hP 67 (Wd_at67 G g q I0 J0 R0 L0) clX10 2 (by decide) flX10_19 rfl dX10_readNext_174 ?_
    refine cst_r hq1 ?_
    refine g_get F hK hP 33 (Wd_at33 G g q I0 J0 R0 L0) clX2 2 (by decide) flX10_25 rfl dX10_readNext_177 ?_
    refine g_get F hK hP 36 (Wd_at36 G g q I0 J0 R0 L0) clX7 0 (by decide) flX10_86 rfl dX10_readNext_180 ?_
    have w_I0_16 := rg (hvI 16 (by decide)) (0) (12) rfl rfl
    refine lv_bipush (v := 12) hx hb dX10_readNext_183 (by decide) ?_
    refine wvv (As := [.int (I0 16), .int 12]) (rest := []) (b := (g 67)) (d := 4) F hK hP hD hS hA (s_X10_beginOneOf l G g q I0 J0 R0 L0 hvI hvR hq1 ((I0 16)) 12 (show ((0 : Int) ≤ (I0 16).toInt ∧ (I0 16).toInt ≤ (30 : Int)) from by omega) (by decide)) kmV_X10_beginOneOf mlX10_89 clX10 rfl 67 (Wd_at67 G g q I0 J0 R0 L0) ⟨(Nat.le_of_ble_eq_true rfl), (Nat.le_of_ble_eq_true rfl)⟩ hl.1 rfl (Nat.le_of_ble_eq_true rfl) dX10_readNext_185 (fun u123 H locs hwr122 hP hD hS => ?_)
    obtain ⟨I124, J125, R126, L127⟩ := u123
    replace hP : va_P G.1 vwCl (Wd G g q I124 J125 R126 L127) H := hP
    replace hD : va_D A (Wd G g q I124 J125 R126 L127) := hD
    obtain ⟨hvI, hvR, tIr122, tRr122, F0r122⟩ := hwr122
    replace F0r122 : ((¬ (I0 29).toInt = 0) → (¬ (I124 29).toInt = 0)) := F0r122
    replace hvI : InvI Wd_lo Wd_hi I124 := hvI
    replace hvR : InvR Wd_rl R126 := hvR
    replace tIr122 : SmF ([24, 25, 26, 27, 28, 29, 30] : List Nat) I0 I124 := tIr122
    replace tRr122 : SmF ([] : List Nat) R0 R126 := tRr122
    have hsI := smF_tr hsI tIr122 (by decide)
    have hsR := smF_tr hsR tRr122 (by decide)
    have u_I124_16 : (I124 16).toInt = (I0 16).toInt := congrArg Int32.toInt (tIr122 16 rfl)
    have u_I124_22 : (I124 22).toInt = (I0 22).toInt := congrArg Int32.toInt (tIr122 22 rfl)
    have w_I124_28 := rg (hvI 28 (by decide)) (-1) (32) rfl rfl
    refine lv_aload_n hx hb dX10_readNext_188 rfl (lv_at hl 0 rfl) ?_
    refine g_get F hK hP 67 (Wd_at67 G g q I124 J125 R126 L127) clX10 1 (by decide) flX10_34 rfl dX10_readNext_189 ?_
    refine lv_aload_n hx hb dX10_readNext_192 rfl (lv_at hl 0 rfl) ?_
    refine g_get F hK hP 67 (Wd_at67 G g q I124 J125 R126 L127) clX10 2 (by decide) flX10_19 rfl dX10_readNext_193 ?_
    refine cst_r hq1 ?_
    refine g_get F hK hP 33 (Wd_at33 G g q I124 J125 R126 L127) clX2 2 (by decide) flX10_25 rfl dX10_readNext_196 ?_
    refine wvv (As := [.ref (g 35)]) (rest := []) (b := (g 76)) (d := 82) F hK hP hD hS hA (s_X6_read l G g q I124 J125 R126 L127 hvI hvR   ) kmV_X6_read mlX10_93 clX6 rfl 69 (Wd_at69 G g q I124 J125 R126 L127) ⟨(Nat.le_of_ble_eq_true rfl), (Nat.le_of_ble_eq_true rfl)⟩ hl.1 rfl (Nat.le_of_ble_eq_true rfl) dX10_readNext_199 (fun u129 H locs hwr128 hP hD hS => ?_)
    obtain ⟨⟨I130, J131, R132, L133⟩, q134⟩ := u129
    replace hP : va_P G.1 vwCl (Wd G g q134 I130 J131 R132 L133) H := hP
    replace hD : va_D A (Wd G g q134 I130 J131 R132 L133) := hD
    obtain ⟨hvI, hvR, tIr128, tRr128, tQr128⟩ := hwr128
    replace hvI : InvI Wd_lo Wd_hi I130 := hvI
    replace hvR : InvR Wd_rl R132 := hvR
    replace tIr128 : SmF ([16, 17, 24, 25, 26, 27, 28, 29, 30] : List Nat) I124 I130 := tIr128
    replace tRr128 : SmF ([44, 45, 46, 47] : List Nat) R126 R132 := tRr128
    have hsI := smF_tr hsI tIr128 (by decide)
    have hsR := smF_tr hsR tRr128 (by decide)
    have w_I130_16 := rg (hvI 16 (by decide)) (0) (12) rfl rfl
    have u_I130_22 : (I130 22).toInt = (I124 22).toInt := congrArg Int32.toInt (tIr128 22 rfl)
    have w_I130_28 := rg (hvI 28 (by decide)) (-1) (32) rfl rfl
    replace tQr128 : SmF ([2] : List Nat) q q134 := tQr128
    have hsQ := smF_tr hsQ tQr128 (by decide)
    have hq1 := (tQr128 1 rfl).trans hq1
    refine lv_goto (tgt := 213) hx hb dX10_readNext_202 (by decide) ?_
    exact lab_213  I130 J131 R132 L133 q134 _ _ _ hvI hvR hsI hsR hsQ hq1  hP hD hS (lv_sub hl [0] rfl)
  refine lv_tableOut (tgt := 205) hx hb dX10_readNext_7 (by have gh9 := lv_neT h9 (a := 0) rfl; have gh16 := lv_neT h16 (a := 1) rfl; have gh23 := lv_neT h23 (a := 2) rfl; have gh30 := lv_neT h30 (a := 3) rfl; have gh37 := lv_neT h37 (a := 4) rfl; have gh44 := lv_neT h44 (a := 5) rfl; have gh51 := lv_neT h51 (a := 6) rfl; have gh58 := lv_neT h58 (a := 7) rfl; have gh65 := lv_neT h65 (a := 8) rfl; have gh72 := lv_neT h72 (a := 9) rfl; have gh79 := lv_neT h79 (a := 10) rfl; have gh86 := lv_neT h86 (a := 11) rfl; have gh93 := lv_neT h93 (a := 12) rfl; have gh100 := lv_neT h100 (a := 13) rfl; have gh107 := lv_neT h107 (a := 14) rfl; have gh114 := lv_neT h114 (a := 15) rfl; have gh121 := lv_neT h121 (a := 16) rfl; omega) (by decide) ?_
  refine lv_aload_n hx hb dX10_readNext_205 rfl (lv_at hl 0 rfl) ?_
  refine g_get F hK hP 67 (Wd_at67 G g q I0 J0 R0 L0) clX10 0 (by decide) flX10_15 rfl dX10_readNext_206 ?_
  refine lv_iconst (v := 1) hx hb dX10_readNext_209 (by decide) ?_
  refine wvv (As := [.int 1]) (rest := []) (b := (g 75)) (d := 2) F hK hP hD hS hA (s_X5_fail l G g q I0 J0 R0 L0 hvI hvR  1 (by decide)) kmV_X5_fail mlX10_97 clX5 rfl 68 (Wd_at68 G g q I0 J0 R0 L0) ⟨(Nat.le_of_ble_eq_true rfl), (Nat.le_of_ble_eq_true rfl)⟩ hl.1 rfl (Nat.le_of_ble_eq_true rfl) dX10_readNext_210 (fun u136 H locs hwr135 hP hD hS => ?_)
  obtain ⟨I137, J138, R139, L140⟩ := u136
  replace hP : va_P G.1 vwCl (Wd G g q I137 J138 R139 L140) H := hP
  replace hD : va_D A (Wd G g q I137 J138 R139 L140) := hD
  obtain ⟨hvI, hvR, tIr135, tRr135, F0r135, F1r135⟩ := hwr135
  replace F0r135 : (¬ (I137 29).toInt = 0) := F0r135
  replace F1r135 : ((¬ (I0 29).toInt = 0) → (¬ (I137 29).toInt = 0)) := F1r135
  replace hvI : InvI Wd_lo Wd_hi I137 := hvI
  replace hvR : InvR Wd_rl R139 := hvR
  replace tIr135 : SmF ([26, 28, 29, 30] : List Nat) I0 I137 := tIr135
  replace tRr135 : SmF ([] : List Nat) R0 R139 := tRr135
  have hsI := smF_tr hsI tIr135 (by decide)
  have hsR := smF_tr hsR tRr135 (by decide)
  have u_I137_16 : (I137 16).toInt = (I0 16).toInt := congrArg Int32.toInt (tIr135 16 rfl)
  have u_I137_22 : (I137 22).toInt = (I0 22).toInt := congrArg Int32.toInt (tIr135 22 rfl)
  have w_I137_28 := rg (hvI 28 (by decide)) (-1) (32) rfl rfl
  exact lab_213  I137 J138 R139 L140 q _ _ _ hvI hvR hsI hsR hsQ hq1  hP hD hS (lv_sub hl [0] rfl)
set_option maxHeartbeats 4000000 in
set_option maxRecDepth 100000 in
theorem s_X11_house (l : Launch) (G : Gx) (g q : Nat → Nat) (I0 : Nat → Int32) (J0 : Nat → Int64) (R0 : Nat → Nat → Int32) (L0 : Nat → Nat → Int64) (hvI : InvI Wd_lo Wd_hi I0) (hvR : InvR Wd_rl R0) (hq0 : q 0 = (g 44)) (hq3 : q 3 = (g 11))   : CtI (S := (St × (Nat → Nat))) l yX11_house cX11_house 2 (some .int) (rmD 84 0 0) G [.ref (g 74)] (Wd G g q I0 J0 R0 L0) (fun r u => InvI Wd_lo Wd_hi u.1.1 ∧ InvR Wd_rl u.1.2.2.1 ∧ SmF ([9, 10, 11, 12, 13, 14, 15, 16, 17, 18, 19, 20, 22, 23, 24, 25, 26, 27, 28, 29, 30] : List Nat) I0 u.1.1 ∧ SmF (29 :: 30 :: 31 :: 32 :: 33 :: 34 :: 35 :: 36 :: 37 :: 38 :: 39 :: 40 :: 41 :: 42 :: 43 :: 44 :: 45 :: 46 :: 47 :: 50 :: 51 :: 52 :: 53 :: 54 :: 55 :: 56 :: 57 :: 60 :: 62 :: 63 :: [] : List Nat) R0 u.1.2.2.1 ∧ SmF ([0, 1, 2, 3] : List Nat) q u.2 ∧ ((u.2 0 = q 0 ∧ u.2 3 = q 3) ∨ (u.2 0 = q 3 ∧ u.2 3 = q 0))) (fun u => Wd G g u.2 u.1.1 u.1.2.1 u.1.2.2.1 u.1.2.2.2) := by
  refine ctI_of (own := RX11) (by decide +kernel) rfl (Nat.le_of_ble_eq_true rfl) ?_
  intro p e s m below meth c A ls F hr hlk hnm hK hP hD hA hS hl
  have hx := F.1
  have hb := F.2.1
  have hown := F.2.2.2.1
  have hl : lv_has ls 2 [(0, .ref (g 74))] := hl
  obtain ⟨Q, hQ⟩ : ∃ Q : State → Prop, Q = MQ below (va_Qi (S := (St × (Nat → Nat))) (fun r u => InvI Wd_lo Wd_hi u.1.1 ∧ InvR Wd_rl u.1.2.2.1 ∧ SmF ([9, 10, 11, 12, 13, 14, 15, 16, 17, 18, 19, 20, 22, 23, 24, 25, 26, 27, 28, 29, 30] : List Nat) I0 u.1.1 ∧ SmF (29 :: 30 :: 31 :: 32 :: 33 :: 34 :: 35 :: 36 :: 37 :: 38 :: 39 :: 40 :: 41 :: 42 :: 43 :: 44 :: 45 :: 46 :: 47 :: 50 :: 51 :: 52 :: 53 :: 54 :: 55 :: 56 :: 57 :: 60 :: 62 :: 63 :: [] : List Nat) R0 u.1.2.2.1 ∧ SmF ([0, 1, 2, 3] : List Nat) q u.2 ∧ ((u.2 0 = q 0 ∧ u.2 3 = q 3) ∨ (u.2 0 = q 3 ∧ u.2 3 = q 0))) (BX G A (fun u => Wd G g u.2 u.1.1 u.1.2.1 u.1.2.2.1 u.1.2.2.2)) A) [.ref (g 74)].toArray s 0 0 A := ⟨_, rfl⟩
  rw [show (MQ below (va_Qi (S := (St × (Nat → Nat))) (fun r u => InvI Wd_lo Wd_hi u.1.1 ∧ InvR Wd_rl u.1.2.2.1 ∧ SmF ([9, 10, 11, 12, 13, 14, 15, 16, 17, 18, 19, 20, 22, 23, 24, 25, 26, 27, 28, 29, 30] : List Nat) I0 u.1.1 ∧ SmF (29 :: 30 :: 31 :: 32 :: 33 :: 34 :: 35 :: 36 :: 37 :: 38 :: 39 :: 40 :: 41 :: 42 :: 43 :: 44 :: 45 :: 46 :: 47 :: 50 :: 51 :: 52 :: 53 :: 54 :: 55 :: 56 :: 57 :: 60 :: 62 :: 63 :: [] : List Nat) R0 u.1.2.2.1 ∧ SmF ([0, 1, 2, 3] : List Nat) q u.2 ∧ ((u.2 0 = q 0 ∧ u.2 3 = q 3) ∨ (u.2 0 = q 3 ∧ u.2 3 = q 0))) (BX G A (fun u => Wd G g u.2 u.1.1 u.1.2.1 u.1.2.2.1 u.1.2.2.2)) A) [.ref (g 74)].toArray s (rmD 84 0 0).cells (rmD 84 0 0).slots A) = Q from hQ.symm]
  have hsI := smF_rf ([9, 10, 11, 12, 13, 14, 15, 16, 17, 18, 19, 20, 22, 23, 24, 25, 26, 27, 28, 29, 30] : List Nat) I0
  have hsR := smF_rf (29 :: 30 :: 31 :: 32 :: 33 :: 34 :: 35 :: 36 :: 37 :: 38 :: 39 :: 40 :: 41 :: 42 :: 43 :: 44 :: 45 :: 46 :: 47 :: 50 :: 51 :: 52 :: 53 :: 54 :: 55 :: 56 :: 57 :: 60 :: 62 :: 63 :: [] : List Nat) R0
  have hsQ := smF_rf ([0, 1, 2, 3] : List Nat) q
  have hqe0 := hq0
  have hqe3 := hq3
  have lab_55 : ∀  (I_55 : Nat → Int32) (J_55 : Nat → Int64) (R_55 : Nat → Nat → Int32) (L_55 : Nat → Nat → Int64) (q_55 : Nat → Nat) (H : Heap) (locs : List Loc) (ls : Array Slot), InvI Wd_lo Wd_hi I_55 → InvR Wd_rl R_55 → SmF ([9, 10, 11, 12, 13, 14, 15, 16, 17, 18, 19, 20, 22, 23, 24, 25, 26, 27, 28, 29, 30] : List Nat) I0 I_55 → SmF (29 :: 30 :: 31 :: 32 :: 33 :: 34 :: 35 :: 36 :: 37 :: 38 :: 39 :: 40 :: 41 :: 42 :: 43 :: 44 :: 45 :: 46 :: 47 :: 50 :: 51 :: 52 :: 53 :: 54 :: 55 :: 56 :: 57 :: 60 :: 62 :: 63 :: [] : List Nat) R0 R_55 → SmF ([0, 1, 2, 3] : List Nat) q q_55 → q_55 0 = (g 44) → q_55 3 = (g 11) → va_P G.1 vwCl (Wd G g q_55 I_55 J_55 R_55 L_55) H → va_D A (Wd G g q_55 I_55 J_55 R_55 L_55) → va_S A s.heap H locs → lv_has ls 2 [(0, .ref (g 74))] → W p l e (rmD 84 0 0) s m [.ref (g 74)].toArray below meth c H locs 0 0 Q (F0 m 55 ls []) := by
    intro I_55 J_55 R_55 L_55 q_55 H locs ls hvI hvR hsI hsR hsQ hq0 hq3 hP hD hS hl
    have w_I_55_18 := rg (hvI 18 (by decide)) (0) (1800) rfl rfl
    refine lv_aload_n hx hb dX11_house_55 rfl (lv_at hl 0 rfl) ?_
    refine lv_aload_n hx hb dX11_house_56 rfl (lv_at hl 0 rfl) ?_
    refine g_get F hK hP 66 (Wd_at66 G g q_55 I_55 J_55 R_55 L_55) clX11 3 (by decide) flX11_34 rfl dX11_house_57 ?_
    refine g_get F hK hP 67 (Wd_at67 G g q_55 I_55 J_55 R_55 L_55) clX10 0 (by decide) flX11_101 rfl dX11_house_60 ?_
    refine g_get F hK hP 68 (Wd_at68 G g q_55 I_55 J_55 R_55 L_55) clX5 7 (by decide) flX11_112 rfl dX11_house_63 ?_
    refine p_fld (W1 := fun y => Wd G g q_55 y J_55 R_55 L_55) (n := 19) (v := (I_55 29)) F hK hP hD hS 66 (Wd_at66 G g q_55 I_55 J_55 R_55 L_55) clX11 8 (by decide) flX11_70 rfl rfl rfl (Nat.le_of_ble_eq_true rfl) dX11_house_66 (Wd_setI19 G g q_55 I_55 J_55 R_55 L_55 _) (fun I1 H locs eI1 hP hD hS => ?_)
    have hvI : InvI Wd_lo Wd_hi I1 := inv_upI hvI 19 eI1 (full _)
    have hsI := smF_up hsI eI1 (by decide)
    have u_I1_18 : (I1 18).toInt = (I_55 18).toInt := by rw [eI1]; rfl
    have u_I1_19 : (I1 19).toInt = (I_55 29).toInt := by rw [eI1]; rfl
    have u_I1_22 : (I1 22).toInt = (I_55 22).toInt := by rw [eI1]; rfl
    have u_I1_29 : (I1 29).toInt = (I_55 29).toInt := by rw [eI1]; rfl
    have u_I1_30 : (I1 30).toInt = (I_55 30).toInt := by rw [eI1]; rfl
    refine lv_aload_n hx hb dX11_house_69 rfl (lv_at hl 0 rfl) ?_
    refine lv_aload_n hx hb dX11_house_70 rfl (lv_at hl 0 rfl) ?_
    refine g_get F hK hP 66 (Wd_at66 G g q_55 I1 J_55 R_55 L_55) clX11 3 (by decide) flX11_34 rfl dX11_house_71 ?_
    refine g_get F hK hP 67 (Wd_at67 G g q_55 I1 J_55 R_55 L_55) clX10 0 (by decide) flX11_101 rfl dX11_house_74 ?_
    refine g_get F hK hP 68 (Wd_at68 G g q_55 I1 J_55 R_55 L_55) clX5 8 (by decide) flX11_115 rfl dX11_house_77 ?_
    refine p_fld (W1 := fun y => Wd G g q_55 y J_55 R_55 L_55) (n := 20) (v := (I1 30)) F hK hP hD hS 66 (Wd_at66 G g q_55 I1 J_55 R_55 L_55) clX11 9 (by decide) flX11_73 rfl rfl rfl (Nat.le_of_ble_eq_true rfl) dX11_house_80 (Wd_setI20 G g q_55 I1 J_55 R_55 L_55 _) (fun I2 H locs eI2 hP hD hS => ?_)
    have hvI : InvI Wd_lo Wd_hi I2 := inv_upI hvI 20 eI2 (full _)
    have hsI := smF_up hsI eI2 (by decide)
    have u_I2_18 : (I2 18).toInt = (I1 18).toInt := by rw [eI2]; rfl
    have u_I2_19 : (I2 19).toInt = (I1 19).toInt := by rw [eI2]; rfl
    have u_I2_22 : (I2 22).toInt = (I1 22).toInt := by rw [eI2]; rfl
    have u_I2_29 : (I2 29).toInt = (I1 29).toInt := by rw [eI2]; rfl
    have u_I2_30 : (I2 30).toInt = (I1 30).toInt := by rw [eI2]; rfl
    refine lv_aload_n hx hb dX11_house_83 rfl (lv_at hl 0 rfl) ?_
    refine g_get F hK hP 66 (Wd_at66 G g q_55 I2 J_55 R_55 L_55) clX11 8 (by decide) flX11_70 rfl dX11_house_84 ?_
    refine lv_if_eq (tgt := 96) hx hb dX11_house_87 (by decide) (fun c3 => ?_) (fun c3 => ?_)
    · have gc3 : (I2 19).toInt = 0 := congrArg Int32.toInt c3
      refine lv_aload_n hx hb dX11_house_96 rfl (lv_at hl 0 rfl) ?_
      refine g_get F hK hP 66 (Wd_at66 G g q_55 I2 J_55 R_55 L_55) clX11 2 (by decide) flX11_20 rfl dX11_house_97 ?_
      refine cst_r hq0 ?_
      refine wvv (As := []) (rest := []) (b := (g 44)) (d := 4) F hK hP hD hS hA (s_X2_finish l G g q_55 I2 J_55 R_55 L_55 hvI hvR   ) kmV_X2_finish mlX11_118 clX2 rfl 33 (Wd_at33 G g q_55 I2 J_55 R_55 L_55) ⟨(Nat.le_of_ble_eq_true rfl), (Nat.le_of_ble_eq_true rfl)⟩ hl.1 rfl (Nat.le_of_ble_eq_true rfl) dX11_house_100 (fun u5 H locs hwr4 hP hD hS => ?_)
      obtain ⟨I6, J7, R8, L9⟩ := u5
      replace hP : va_P G.1 vwCl (Wd G g q_55 I6 J7 R8 L9) H := hP
      replace hD : va_D A (Wd G g q_55 I6 J7 R8 L9) := hD
      obtain ⟨hvI, hvR, tIr4, tRr4⟩ := hwr4
      replace hvI : InvI Wd_lo Wd_hi I6 := hvI
      replace hvR : InvR Wd_rl R8 := hvR
      replace tIr4 : SmF ([] : List Nat) I2 I6 := tIr4
      replace tRr4 : SmF ([42, 43, 52] : List Nat) R_55 R8 := tRr4
      have hsI := smF_tr hsI tIr4 (by decide)
      have hsR := smF_tr hsR tRr4 (by decide)
      have u_I6_18 : (I6 18).toInt = (I2 18).toInt := congrArg Int32.toInt (tIr4 18 rfl)
      have u_I6_19 : (I6 19).toInt = (I2 19).toInt := congrArg Int32.toInt (tIr4 19 rfl)
      have u_I6_22 : (I6 22).toInt = (I2 22).toInt := congrArg Int32.toInt (tIr4 22 rfl)
      have u_I6_29 : (I6 29).toInt = (I2 29).toInt := congrArg Int32.toInt (tIr4 29 rfl)
      have u_I6_30 : (I6 30).toInt = (I2 30).toInt := congrArg Int32.toInt (tIr4 30 rfl)
      refine lv_aload_n hx hb dX11_house_103 rfl (lv_at hl 0 rfl) ?_
      refine g_get F hK hP 66 (Wd_at66 G g q_55 I6 J7 R8 L9) clX11 2 (by decide) flX11_20 rfl dX11_house_104 ?_
      refine cst_r hq0 ?_
      refine lv_astore_n (lv' := [(1, .ref (g 44)), (0, .ref (g 74))]) hx hb dX11_house_107 rfl hl (by decide) rfl (fun ls hl => ?_)
      refine lv_aload_n hx hb dX11_house_108 rfl (lv_at hl 1 rfl) ?_
      refine lv_aload_n hx hb dX11_house_109 rfl (lv_at hl 1 rfl) ?_
      refine g_get F hK hP 66 (Wd_at66 G g q_55 I6 J7 R8 L9) clX11 4 (by decide) flX11_43 rfl dX11_house_110 ?_
      refine g_get F hK hP 70 (Wd_at70 G g q_55 I6 J7 R8 L9) clX4 0 (by decide) flX11_121 rfl dX11_house_113 ?_
      refine cst_r hq3 ?_
      refine p_fld (W1 := fun y => Wd G g y I6 J7 R8 L9) (n := 0) (v := (g 11)) F hK hP hD hS 66 (Wd_at66 G g q_55 I6 J7 R8 L9) clX11 2 (by decide) flX11_20 rfl rfl rfl (Nat.le_of_ble_eq_true rfl) dX11_house_116 (Wd_setQ0 G g q_55 I6 J7 R8 L9 _) (fun q10 H locs eq10 hP hD hS => ?_)
      have hsQ := smF_up hsQ eq10 (by decide)
      have hq3 := (up_ne eq10 (show 3 ≠ 0 by decide)).trans hq3
      have hq0 : q10 0 = (g 11) := by rw [eq10]; rfl
      refine lv_aload_n hx hb dX11_house_119 rfl (lv_at hl 1 rfl) ?_
      refine g_get F hK hP 66 (Wd_at66 G g q10 I6 J7 R8 L9) clX11 4 (by decide) flX11_43 rfl dX11_house_120 ?_
      refine lv_aload_n hx hb dX11_house_123 rfl (lv_at hl 0 rfl) ?_
      refine wvv (As := [.ref (g 44)]) (rest := []) (b := (g 68)) (d := 5) F hK hP hD hS hA (s_X4_begin l G g q10 I6 J7 R8 L9 hvI hvR   ) kmV_X4_begin mlX11_124 clX4 rfl 70 (Wd_at70 G g q10 I6 J7 R8 L9) ⟨(Nat.le_of_ble_eq_true rfl), (Nat.le_of_ble_eq_true rfl)⟩ hl.1 rfl (Nat.le_of_ble_eq_true rfl) dX11_house_124 (fun u12 H locs hwr11 hP hD hS => ?_)
      obtain ⟨⟨I13, J14, R15, L16⟩, q17⟩ := u12
      replace hP : va_P G.1 vwCl (Wd G g q17 I13 J14 R15 L16) H := hP
      replace hD : va_D A (Wd G g q17 I13 J14 R15 L16) := hD
      obtain ⟨hvI, hvR, tIr11, tRr11, tQr11, Q0r11⟩ := hwr11
      replace hvI : InvI Wd_lo Wd_hi I13 := hvI
      replace hvR : InvR Wd_rl R15 := hvR
      replace tIr11 : SmF ([] : List Nat) I6 I13 := tIr11
      replace tRr11 : SmF ([62, 63] : List Nat) R8 R15 := tRr11
      have hsI := smF_tr hsI tIr11 (by decide)
      have hsR := smF_tr hsR tRr11 (by decide)
      have u_I13_18 : (I13 18).toInt = (I6 18).toInt := congrArg Int32.toInt (tIr11 18 rfl)
      have u_I13_19 : (I13 19).toInt = (I6 19).toInt := congrArg Int32.toInt (tIr11 19 rfl)
      have u_I13_22 : (I13 22).toInt = (I6 22).toInt := congrArg Int32.toInt (tIr11 22 rfl)
      have u_I13_29 : (I13 29).toInt = (I6 29).toInt := congrArg Int32.toInt (tIr11 29 rfl)
      have u_I13_30 : (I13 30).toInt = (I6 30).toInt := congrArg Int32.toInt (tIr11 30 rfl)
      replace tQr11 : SmF ([3] : List Nat) q10 q17 := tQr11
      have hsQ := smF_tr hsQ tQr11 (by decide)
      replace Q0r11 : q17 3 = (g 44) := Q0r11
      have hq0 := (tQr11 0 rfl).trans hq0
      have hq3 := Q0r11
      refine lv_aload_n hx hb dX11_house_127 rfl (lv_at hl 1 rfl) ?_
      refine g_get F hK hP 66 (Wd_at66 G g q17 I13 J14 R15 L16) clX11 3 (by decide) flX11_34 rfl dX11_house_128 ?_
      refine g_get F hK hP 67 (Wd_at67 G g q17 I13 J14 R15 L16) clX10 3 (by decide) flX11_126 rfl dX11_house_131 ?_
      rw [hQ]
      exact q_i F hr hlk ((I13, J14, R15, L16), q17) hP hD hS ⟨hvI, hvR, hsI, hsR, hsQ, (by first | exact Or.inl ⟨hq0.trans hqe0.symm, hq3.trans hqe3.symm⟩ | exact Or.inr ⟨hq0.trans hqe3.symm, hq3.trans hqe0.symm⟩)⟩ dX11_house_134 (Nat.le_of_ble_eq_true rfl) (Nat.le_of_ble_eq_true rfl)
    · have gc3 : ¬ ((I2 19).toInt = 0) := fun q0 => c3 (Int32.toInt_inj.mp q0)
      refine lv_aload_n hx hb dX11_house_90 rfl (lv_at hl 0 rfl) ?_
      refine lv_iconst (v := 1) hx hb dX11_house_91 (by decide) ?_
      refine wvi (As := [.int 1]) (rest := []) (b := (g 74)) (d := 1) F hK hP hD hS hA (s_X11_refuse l G g q_55 I2 J_55 R_55 L_55 hvI hvR hq3 1 (by decide)) kmV_X11_refuse mlX11_89 clX11 rfl 66 (Wd_at66 G g q_55 I2 J_55 R_55 L_55) ⟨(Nat.le_of_ble_eq_true rfl), (Nat.le_of_ble_eq_true rfl)⟩ hl.1 rfl (Nat.le_of_ble_eq_true rfl) dX11_house_92 (fun r18 u19 H locs hwr18 hP hD hS => ?_)
      obtain ⟨I20, J21, R22, L23⟩ := u19
      replace hP : va_P G.1 vwCl (Wd G g q_55 I20 J21 R22 L23) H := hP
      replace hD : va_D A (Wd G g q_55 I20 J21 R22 L23) := hD
      obtain ⟨hvI, hvR, tIr18, tRr18, F0r18⟩ := hwr18
      replace F0r18 : ((-1 : Int) ≤ r18.toInt ∧ r18.toInt ≤ (-1 : Int)) := F0r18
      replace hvI : InvI Wd_lo Wd_hi I20 := hvI
      replace hvR : InvR Wd_rl R22 := hvR
      replace tIr18 : SmF ([] : List Nat) I2 I20 := tIr18
      replace tRr18 : SmF ([60] : List Nat) R_55 R22 := tRr18
      have hsI := smF_tr hsI tIr18 (by decide)
      have hsR := smF_tr hsR tRr18 (by decide)
      have u_I20_18 : (I20 18).toInt = (I2 18).toInt := congrArg Int32.toInt (tIr18 18 rfl)
      have u_I20_19 : (I20 19).toInt = (I2 19).toInt := congrArg Int32.toInt (tIr18 19 rfl)
      have u_I20_22 : (I20 22).toInt = (I2 22).toInt := congrArg Int32.toInt (tIr18 22 rfl)
      have u_I20_29 : (I20 29).toInt = (I2 29).toInt := congrArg Int32.toInt (tIr18 29 rfl)
      have u_I20_30 : (I20 30).toInt = (I2 30).toInt := congrArg Int32.toInt (tIr18 30 rfl)
      rw [hQ]
      exact q_i F hr hlk ((I20, J21, R22, L23), q_55) hP hD hS ⟨hvI, hvR, hsI, hsR, hsQ, (by first | exact Or.inl ⟨hq0.trans hqe0.symm, hq3.trans hqe3.symm⟩ | exact Or.inr ⟨hq0.trans hqe3.symm, hq3.trans hqe0.symm⟩)⟩ dX11_house_95 (Nat.le_of_ble_eq_true rfl) (Nat.le_of_ble_eq_true rfl)
  have lab_22 : ∀ (k_22 : Nat) (a1_22 : Int32) (I_22 : Nat → Int32) (J_22 : Nat → Int64) (R_22 : Nat → Nat → Int32) (L_22 : Nat → Nat → Int64) (q_22 : Nat → Nat) (H : Heap) (locs : List Loc) (ls : Array Slot), ((1800 - a1_22.toInt) < (k_22 : Int)) → InvI Wd_lo Wd_hi I_22 → InvR Wd_rl R_22 → SmF ([9, 10, 11, 12, 13, 14, 15, 16, 17, 18, 19, 20, 22, 23, 24, 25, 26, 27, 28, 29, 30] : List Nat) I0 I_22 → SmF (29 :: 30 :: 31 :: 32 :: 33 :: 34 :: 35 :: 36 :: 37 :: 38 :: 39 :: 40 :: 41 :: 42 :: 43 :: 44 :: 45 :: 46 :: 47 :: 50 :: 51 :: 52 :: 53 :: 54 :: 55 :: 56 :: 57 :: 60 :: 62 :: 63 :: [] : List Nat) R0 R_22 → SmF ([0, 1, 2, 3] : List Nat) q q_22 → q_22 0 = (g 44) → q_22 1 = (g 44) → q_22 3 = (g 11) → ((0 : Int) ≤ a1_22.toInt ∧ a1_22.toInt ≤ (1800 : Int)) → va_P G.1 vwCl (Wd G g q_22 I_22 J_22 R_22 L_22) H → va_D A (Wd G g q_22 I_22 J_22 R_22 L_22) → va_S A s.heap H locs → lv_has ls 2 [(0, .ref (g 74)), (1, .int a1_22)] → W p l e (rmD 84 0 0) s m [.ref (g 74)].toArray below meth c H locs 0 0 Q (F0 m 22 ls []) := by
    intro k_22
    induction k_22 with
    | zero =>
      intro a1_22 I_22 J_22 R_22 L_22 q_22 H locs ls hm hvI hvR hsI hsR hsQ hq0 hq1 hq3 y0_22 hP hD hS hl
      have w_I_22_18 := rg (hvI 18 (by decide)) (0) (1800) rfl rfl
      exact absurd hm (by omega)
    | succ k_22 ih_22 =>
      intro a1_22 I_22 J_22 R_22 L_22 q_22 H locs ls hm hvI hvR hsI hsR hsQ hq0 hq1 hq3 y0_22 hP hD hS hl
      have w_I_22_18 := rg (hvI 18 (by decide)) (0) (1800) rfl rfl
      refine lv_iload_n hx hb dX11_house_22 rfl (lv_at hl 1 rfl) ?_
      refine lv_sipush (v := 1800) hx hb dX11_house_23 (by decide) ?_
      refine lv_icmp_ge (tgt := 55) hx hb dX11_house_26 (by decide) (fun c24 => ?_) (fun c24 => ?_)
      · have gc24 : 1800 ≤ a1_22.toInt := (tle _ _).mp c24
        exact lab_55  I_22 J_22 R_22 L_22 q_22 _ _ _ hvI hvR hsI hsR hsQ hq0 hq3  hP hD hS (lv_sub hl [0] rfl)
      · have gc24 : ¬ (1800 ≤ a1_22.toInt) := fun q0 => c24 ((tle _ _).mpr q0)
        refine lv_aload_n hx hb dX11_house_29 rfl (lv_at hl 0 rfl) ?_
        refine g_get F hK hP 66 (Wd_at66 G g q_22 I_22 J_22 R_22 L_22) clX11 3 (by decide) flX11_34 rfl dX11_house_30 ?_
        refine g_get F hK hP 67 (Wd_at67 G g q_22 I_22 J_22 R_22 L_22) clX10 0 (by decide) flX11_101 rfl dX11_house_33 ?_
        refine wvi (As := []) (rest := []) (b := (g 75)) (d := 1) F hK hP hD hS hA (s_X5_isOver l G g q_22 I_22 J_22 R_22 L_22 hvI hvR   ) kmV_X5_isOver mlX11_105 clX5 rfl 68 (Wd_at68 G g q_22 I_22 J_22 R_22 L_22) ⟨(Nat.le_of_ble_eq_true rfl), (Nat.le_of_ble_eq_true rfl)⟩ hl.1 rfl (Nat.le_of_ble_eq_true rfl) dX11_house_36 (fun r25 u26 H locs hwr25 hP hD hS => ?_)
        have F0r25 := hwr25
        replace F0r25 : ((0 : Int) ≤ r25.toInt ∧ r25.toInt ≤ (1 : Int)) := F0r25
        refine lv_if_ne (tgt := 55) hx hb dX11_house_39 (by decide) (fun c27 => ?_) (fun c27 => ?_)
        · have gc27 : ¬ (r25.toInt = 0) := fun q0 => c27 (Int32.toInt_inj.mp q0)
          exact lab_55  I_22 J_22 R_22 L_22 q_22 _ _ _ hvI hvR hsI hsR hsQ hq0 hq3  hP hD hS (lv_sub hl [0] rfl)
        · have gc27 : r25.toInt = 0 := congrArg Int32.toInt c27
          refine lv_aload_n hx hb dX11_house_42 rfl (lv_at hl 0 rfl) ?_
          refine g_get F hK hP 66 (Wd_at66 G g q_22 I_22 J_22 R_22 L_22) clX11 3 (by decide) flX11_34 rfl dX11_house_43 ?_
          refine wvv (As := []) (rest := []) (b := (g 67)) (d := 83) F hK hP hD hS hA (s_X10_readNext l G g q_22 I_22 J_22 R_22 L_22 hvI hvR hq1  ) kmV_X10_readNext mlX11_109 clX10 rfl 67 (Wd_at67 G g q_22 I_22 J_22 R_22 L_22) ⟨(Nat.le_of_ble_eq_true rfl), (Nat.le_of_ble_eq_true rfl)⟩ hl.1 rfl (Nat.le_of_ble_eq_true rfl) dX11_house_46 (fun u29 H locs hwr28 hP hD hS => ?_)
          obtain ⟨⟨I30, J31, R32, L33⟩, q34⟩ := u29
          replace hP : va_P G.1 vwCl (Wd G g q34 I30 J31 R32 L33) H := hP
          replace hD : va_D A (Wd G g q34 I30 J31 R32 L33) := hD
          obtain ⟨hvI, hvR, tIr28, tRr28, tQr28⟩ := hwr28
          replace hvI : InvI Wd_lo Wd_hi I30 := hvI
          replace hvR : InvR Wd_rl R32 := hvR
          replace tIr28 : SmF ([9, 10, 11, 12, 13, 14, 15, 16, 17, 22, 24, 25, 26, 27, 28, 29, 30] : List Nat) I_22 I30 := tIr28
          replace tRr28 : SmF ([29, 30, 31, 32, 33, 34, 35, 36, 37, 38, 39, 40, 41, 44, 45, 46, 47, 50, 51, 53, 54, 55, 56, 57] : List Nat) R_22 R32 := tRr28
          have hsI := smF_tr hsI tIr28 (by decide)
          have hsR := smF_tr hsR tRr28 (by decide)
          have u_I30_18 : (I30 18).toInt = (I_22 18).toInt := congrArg Int32.toInt (tIr28 18 rfl)
          have u_I30_19 : (I30 19).toInt = (I_22 19).toInt := congrArg Int32.toInt (tIr28 19 rfl)
          replace tQr28 : SmF ([2] : List Nat) q_22 q34 := tQr28
          have hsQ := smF_tr hsQ tQr28 (by decide)
          have hq0 := (tQr28 0 rfl).trans hq0
          have hq1 := (tQr28 1 rfl).trans hq1
          have hq3 := (tQr28 3 rfl).trans hq3
          obtain ⟨x35, ex35⟩ : ∃ y : Int32, y = a1_22 + 1 := ⟨_, rfl⟩
          have fx35 : x35.toInt = a1_22.toInt + (1 : Int) := by rw [ex35]; exact t_add (by show (-2147483648 : Int) ≤ a1_22.toInt + (1 : Int); omega) (by show a1_22.toInt + (1 : Int) ≤ 2147483647; omega)
          refine lv_iinc (v := x35) (lv' := [(1, .int x35), (0, .ref (g 74))]) hx hb dX11_house_49 hl (k := 1) rfl (by rw [ex35]; rfl) (by decide) rfl (fun ls hl => ?_)
          refine lv_goto (tgt := 22) hx hb dX11_house_52 (by decide) ?_
          exact ih_22 x35 I30 J31 R32 L33 q34 _ _ _ (show (1800 - x35.toInt) < (k_22 : Int) from by omega) hvI hvR hsI hsR hsQ hq0 hq1 hq3 (show ((0 : Int) ≤ x35.toInt ∧ x35.toInt ≤ (1800 : Int)) from by omega) hP hD hS (lv_sub hl [1, 0] rfl)
  have w_I0_18 := rg (hvI 18 (by decide)) (0) (1800) rfl rfl
  refine lv_aload_n hx hb dX11_house_0 rfl (lv_at hl 0 rfl) ?_
  refine g_get F hK hP 66 (Wd_at66 G g q I0 J0 R0 L0) clX11 3 (by decide) flX11_34 rfl dX11_house_1 ?_
  refine lv_aload_n hx hb dX11_house_4 rfl (lv_at hl 0 rfl) ?_
  refine g_get F hK hP 66 (Wd_at66 G g q I0 J0 R0 L0) clX11 2 (by decide) flX11_20 rfl dX11_house_5 ?_
  refine cst_r hq0 ?_
  refine lv_aload_n hx hb dX11_house_8 rfl (lv_at hl 0 rfl) ?_
  refine g_get F hK hP 66 (Wd_at66 G g q I0 J0 R0 L0) clX11 1 (by decide) flX11_13 rfl dX11_house_9 ?_
  have w_I0_18 := rg (hvI 18 (by decide)) (0) (1800) rfl rfl
  refine wvv (As := [.ref (g 44), .int (I0 18)]) (rest := []) (b := (g 67)) (d := 5) F hK hP hD hS hA (s_X10_begin l G g q I0 J0 R0 L0 hvI hvR  ((I0 18)) (show ((0 : Int) ≤ (I0 18).toInt ∧ (I0 18).toInt ≤ (1800 : Int)) from by omega)) kmV_X10_begin mlX11_97 clX10 rfl 67 (Wd_at67 G g q I0 J0 R0 L0) ⟨(Nat.le_of_ble_eq_true rfl), (Nat.le_of_ble_eq_true rfl)⟩ hl.1 rfl (Nat.le_of_ble_eq_true rfl) dX11_house_12 (fun u37 H locs hwr36 hP hD hS => ?_)
  obtain ⟨⟨I38, J39, R40, L41⟩, q42⟩ := u37
  replace hP : va_P G.1 vwCl (Wd G g q42 I38 J39 R40 L41) H := hP
  replace hD : va_D A (Wd G g q42 I38 J39 R40 L41) := hD
  obtain ⟨hvI, hvR, tIr36, tRr36, tQr36, Q0r36⟩ := hwr36
  replace hvI : InvI Wd_lo Wd_hi I38 := hvI
  replace hvR : InvR Wd_rl R40 := hvR
  replace tIr36 : SmF ([9, 10, 11, 12, 13, 14, 15, 16, 17, 22, 23, 24, 25, 26, 27, 28, 29, 30] : List Nat) I0 I38 := tIr36
  replace tRr36 : SmF ([56, 57] : List Nat) R0 R40 := tRr36
  have hsI := smF_tr hsI tIr36 (by decide)
  have hsR := smF_tr hsR tRr36 (by decide)
  have u_I38_18 : (I38 18).toInt = (I0 18).toInt := congrArg Int32.toInt (tIr36 18 rfl)
  have u_I38_19 : (I38 19).toInt = (I0 19).toInt := congrArg Int32.toInt (tIr36 19 rfl)
  replace tQr36 : SmF ([1] : List Nat) q q42 := tQr36
  have hsQ := smF_tr hsQ tQr36 (by decide)
  replace Q0r36 : q42 1 = (g 44) := Q0r36
  have hq0 := (tQr36 0 rfl).trans hq0
  have hq3 := (tQr36 3 rfl).trans hq3
  have hq1 := Q0r36
  refine lv_aload_n hx hb dX11_house_15 rfl (lv_at hl 0 rfl) ?_
  refine lv_iconst (v := 0) hx hb dX11_house_16 (by decide) ?_
  refine p_fld (W1 := fun y => Wd G g q42 y J39 R40 L41) (n := 18) (v := 0) F hK hP hD hS 66 (Wd_at66 G g q42 I38 J39 R40 L41) clX11 1 (by decide) flX11_13 rfl rfl rfl (Nat.le_of_ble_eq_true rfl) dX11_house_17 (Wd_setI18 G g q42 I38 J39 R40 L41 _) (fun I43 H locs eI43 hP hD hS => ?_)
  have hvI : InvI Wd_lo Wd_hi I43 := inv_upI hvI 18 eI43 (by decide)
  have hsI := smF_up hsI eI43 (by decide)
  have u_I43_18 : (I43 18).toInt = 0 := by rw [eI43]; rfl
  have u_I43_19 : (I43 19).toInt = (I38 19).toInt := by rw [eI43]; rfl
  have u_I43_22 : (I43 22).toInt = (I38 22).toInt := by rw [eI43]; rfl
  have u_I43_29 : (I43 29).toInt = (I38 29).toInt := by rw [eI43]; rfl
  have u_I43_30 : (I43 30).toInt = (I38 30).toInt := by rw [eI43]; rfl
  refine lv_iconst (v := 0) hx hb dX11_house_20 (by decide) ?_
  refine lv_istore_n (lv' := [(1, .int 0), (0, .ref (g 74))]) hx hb dX11_house_21 rfl hl (by decide) rfl (fun ls hl => ?_)
  exact lab_22 1801 0 I43 J39 R40 L41 q42 _ _ _ (show (1800 - 0) < ((1801 : Nat) : Int) from by omega) hvI hvR hsI hsR hsQ hq0 hq1 hq3 (by decide) hP hD hS (lv_sub hl [1, 0] rfl)
