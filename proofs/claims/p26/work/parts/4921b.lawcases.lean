set_option maxHeartbeats 4000000 in
set_option maxRecDepth 100000 in
theorem lc_14 {p : Program} {l : Launch} {e : Env} {s : State} {m : MethodId} {below : List Frame} {meth : Method} {c : Code} {b N : Nat} {xs : Nat → Int32} {A : Nat → Prop} {cells slots : Nat} {Q : State → Prop} (G : Gx) (hN : N ≤ 3072) (F : CallFix p m c cL_law 4 s #[Value.ref b] tb RL) (hK : KX G s) (hA : HA G s A) (hbA : ¬ A b) (hX : va_X b N xs s s.heap) (hbl : b < s.heap.size) (hce : cells ≤ room_1.cells ∧ slots ≤ room_1.slots) (g q : Nat → Nat) (I : Nat → Int32) (J : Nat → Int64) (R : Nat → Nat → Int32) (L : Nat → Nat → Int64) (gm qm : Nat → Nat) (Im : Nat → Int32) (Jm : Nat → Int64) (Rm : Nat → Nat → Int32) (Lm : Nat → Nat → Int64) (hst : LI g q I R Im Rm) {H : Heap} {locs : List Loc} {ls : Array Slot} {i : Int32} (hi : 0 ≤ i.toInt ∧ i.toInt + 6 ≤ (N : Int)) (hP : va_P G.1 vwCl (Wd G g q I J R L ++ Wm G gm qm Im Jm Rm Lm) H) (hD : va_D A (Wd G g q I J R L ++ Wm G gm qm Im Jm Rm Lm)) (hS : va_S A s.heap H locs) (hl : lv_has ls 4 [(3, .int i), (2, .ref (gm 45)), (1, .ref (g 74)), (0, .ref b)]) (kk : ∀ (g1 q1 : Nat → Nat) (I1 : Nat → Int32) (J1 : Nat → Int64) (R1 : Nat → Nat → Int32) (L1 : Nat → Nat → Int64) (I2 : Nat → Int32) (J2 : Nat → Int64) (R2 : Nat → Nat → Int32) (L2 : Nat → Nat → Int64) (H : Heap) (locs : List Loc) (ls : Array Slot), g1 74 = g 74 → LI g1 q1 I1 R1 I2 R2 → va_P G.1 vwCl (Wd G g1 q1 I1 J1 R1 L1 ++ Wm G gm qm I2 J2 R2 L2) H → va_D A (Wd G g1 q1 I1 J1 R1 L1 ++ Wm G gm qm I2 J2 R2 L2) → va_S A s.heap H locs → lv_has ls 4 [(3, .int i), (2, .ref (gm 45)), (1, .ref (g 74)), (0, .ref b)] → W p l e room_1 s m #[Value.ref b] below meth c H locs cells slots Q (F0 m 1261 ls [])) : W p l e room_1 s m #[Value.ref b] below meth c H locs cells slots Q (F0 m 604 ls []) := by
  have hx := F.1
  have hb := F.2.1
  have hown := F.2.2.2.1
  obtain ⟨⟨hvI, hvR, hq0, hq3⟩, mvI, mvR, hWf⟩ := hst
  refine lv_aload_n hx hb dL_law_604 rfl (lv_at hl 2 rfl) ?_
  refine xvi (X := (Wd G g q I J R L)) (Y := (Wm G gm qm Im Jm Rm Lm)) (As := []) (rest := []) (b := (g 74)) (d := 6) F hK hP hD hS hA (s_X11_seek l G g q I J R L hvI hvR hq3  ) kmV_X11_seek mlL_77 clX11 rfl 66 (Wd_at66 G g q I J R L) ⟨(Nat.le_of_ble_eq_true rfl), (Nat.le_of_ble_eq_true rfl)⟩ hl.1 rfl (Nat.le_of_ble_eq_true rfl) dL_law_605 hce (fun r1 u2 H locs hw hP hD hS => ?_)
  obtain ⟨I3, J4, R5, L6⟩ := u2
  replace hP : va_P G.1 vwCl ((Wd G g q I3 J4 R5 L6) ++ (Wm G gm qm Im Jm Rm Lm)) H := hP
  replace hD : va_D A ((Wd G g q I3 J4 R5 L6) ++ (Wm G gm qm Im Jm Rm Lm)) := hD
  obtain ⟨hvI, hvR, tIr1, tRr1, f0_r1⟩ := hw
  replace f0_r1 : ((-2 : Int) ≤ r1.toInt ∧ r1.toInt ≤ (1 : Int)) := f0_r1
  replace hvI : InvI Wd_lo Wd_hi I3 := hvI
  replace hvR : InvR Wd_rl R5 := hvR
  refine lv_pop hx hb dL_law_608 rfl ?_
  refine lv_aload_n hx hb dL_law_609 rfl (lv_at hl 1 rfl) ?_
  have hP := sw_P hP
  have hD := sw_D hD
  refine xvi (X := (Wm G gm qm Im Jm Rm Lm)) (Y := (Wd G g q I3 J4 R5 L6)) (As := []) (rest := []) (b := (gm 45)) (d := 5) F hK hP hD hS hA (s_X12_seek l G gm qm Im Jm Rm Lm mvI mvR  ) kmV_X12_seek mlL_80 clX12 rfl 0 (Wm_at0 G gm qm Im Jm Rm Lm) ⟨(Nat.le_of_ble_eq_true rfl), (Nat.le_of_ble_eq_true rfl)⟩ hl.1 rfl (Nat.le_of_ble_eq_true rfl) dL_law_610 hce (fun r7 u8 H locs hw hP hD hS => ?_)
  obtain ⟨I9, J10, R11, L12⟩ := u8
  replace hP : va_P G.1 vwCl ((Wm G gm qm I9 J10 R11 L12) ++ (Wd G g q I3 J4 R5 L6)) H := hP
  replace hD : va_D A ((Wm G gm qm I9 J10 R11 L12) ++ (Wd G g q I3 J4 R5 L6)) := hD
  obtain ⟨mvI, mvR, tIr7, tRr7, f0_r7⟩ := hw
  replace f0_r7 : ((-2 : Int) ≤ r7.toInt ∧ r7.toInt ≤ (1 : Int)) := f0_r7
  replace mvI : InvI Wm_lo Wm_hi I9 := mvI
  replace mvR : InvR Wm_rl R11 := mvR
  have hWf : WfM I9 R11 := wm_sm hWf (tIr7 10 rfl) (tRr7 22 rfl) (tRr7 23 rfl) (tRr7 24 rfl) (tRr7 25 rfl) (tRr7 26 rfl)
  have hP := sw_P hP
  have hD := sw_D hD
  refine lv_pop hx hb dL_law_613 rfl ?_
  refine lv_goto (tgt := 1261) hx hb dL_law_614 (by decide) ?_
  exact kk g q I3 J4 R5 L6 I9 J10 R11 L12 _ _ _ rfl ⟨⟨hvI, hvR, hq0, hq3⟩, mvI, mvR, hWf⟩ hP hD hS hl
set_option maxHeartbeats 4000000 in
set_option maxRecDepth 100000 in
theorem lc_15 {p : Program} {l : Launch} {e : Env} {s : State} {m : MethodId} {below : List Frame} {meth : Method} {c : Code} {b N : Nat} {xs : Nat → Int32} {A : Nat → Prop} {cells slots : Nat} {Q : State → Prop} (G : Gx) (hN : N ≤ 3072) (F : CallFix p m c cL_law 4 s #[Value.ref b] tb RL) (hK : KX G s) (hA : HA G s A) (hbA : ¬ A b) (hX : va_X b N xs s s.heap) (hbl : b < s.heap.size) (hce : cells ≤ room_1.cells ∧ slots ≤ room_1.slots) (g q : Nat → Nat) (I : Nat → Int32) (J : Nat → Int64) (R : Nat → Nat → Int32) (L : Nat → Nat → Int64) (gm qm : Nat → Nat) (Im : Nat → Int32) (Jm : Nat → Int64) (Rm : Nat → Nat → Int32) (Lm : Nat → Nat → Int64) (hst : LI g q I R Im Rm) {H : Heap} {locs : List Loc} {ls : Array Slot} {i : Int32} (hi : 0 ≤ i.toInt ∧ i.toInt + 6 ≤ (N : Int)) (hP : va_P G.1 vwCl (Wd G g q I J R L ++ Wm G gm qm Im Jm Rm Lm) H) (hD : va_D A (Wd G g q I J R L ++ Wm G gm qm Im Jm Rm Lm)) (hS : va_S A s.heap H locs) (hl : lv_has ls 4 [(3, .int i), (2, .ref (gm 45)), (1, .ref (g 74)), (0, .ref b)]) (kk : ∀ (g1 q1 : Nat → Nat) (I1 : Nat → Int32) (J1 : Nat → Int64) (R1 : Nat → Nat → Int32) (L1 : Nat → Nat → Int64) (I2 : Nat → Int32) (J2 : Nat → Int64) (R2 : Nat → Nat → Int32) (L2 : Nat → Nat → Int64) (H : Heap) (locs : List Loc) (ls : Array Slot), g1 74 = g 74 → LI g1 q1 I1 R1 I2 R2 → va_P G.1 vwCl (Wd G g1 q1 I1 J1 R1 L1 ++ Wm G gm qm I2 J2 R2 L2) H → va_D A (Wd G g1 q1 I1 J1 R1 L1 ++ Wm G gm qm I2 J2 R2 L2) → va_S A s.heap H locs → lv_has ls 4 [(3, .int i), (2, .ref (gm 45)), (1, .ref (g 74)), (0, .ref b)] → W p l e room_1 s m #[Value.ref b] below meth c H locs cells slots Q (F0 m 1261 ls [])) : W p l e room_1 s m #[Value.ref b] below meth c H locs cells slots Q (F0 m 617 ls []) := by
  have hx := F.1
  have hb := F.2.1
  have hown := F.2.2.2.1
  obtain ⟨⟨hvI, hvR, hq0, hq3⟩, mvI, mvR, hWf⟩ := hst
  refine lv_aload_n hx hb dL_law_617 rfl (lv_at hl 2 rfl) ?_
  refine xvi (X := (Wd G g q I J R L)) (Y := (Wm G gm qm Im Jm Rm Lm)) (As := []) (rest := []) (b := (g 74)) (d := 1) F hK hP hD hS hA (s_X11_spent l G g q I J R L hvI hvR hq3  ) kmV_X11_spent mlL_81 clX11 rfl 66 (Wd_at66 G g q I J R L) ⟨(Nat.le_of_ble_eq_true rfl), (Nat.le_of_ble_eq_true rfl)⟩ hl.1 rfl (Nat.le_of_ble_eq_true rfl) dL_law_618 hce (fun r1 u2 H locs hw hP hD hS => ?_)
  replace hP : va_P G.1 vwCl ((Wd G g q I J R L) ++ (Wm G gm qm Im Jm Rm Lm)) H := hP
  replace hD : va_D A ((Wd G g q I J R L) ++ (Wm G gm qm Im Jm Rm Lm)) := hD
  have f0_r1 := hw
  replace f0_r1 : ((0 : Int) ≤ r1.toInt ∧ r1.toInt ≤ (20000 : Int)) := f0_r1
  refine lv_pop hx hb dL_law_621 rfl ?_
  refine lv_aload_n hx hb dL_law_622 rfl (lv_at hl 1 rfl) ?_
  have hP := sw_P hP
  have hD := sw_D hD
  refine xvi (X := (Wm G gm qm Im Jm Rm Lm)) (Y := (Wd G g q I J R L)) (As := []) (rest := []) (b := (gm 45)) (d := 1) F hK hP hD hS hA (s_X12_spent l G gm qm Im Jm Rm Lm mvI mvR  ) kmV_X12_spent mlL_84 clX12 rfl 0 (Wm_at0 G gm qm Im Jm Rm Lm) ⟨(Nat.le_of_ble_eq_true rfl), (Nat.le_of_ble_eq_true rfl)⟩ hl.1 rfl (Nat.le_of_ble_eq_true rfl) dL_law_623 hce (fun r3 u4 H locs hw hP hD hS => ?_)
  replace hP : va_P G.1 vwCl ((Wm G gm qm Im Jm Rm Lm) ++ (Wd G g q I J R L)) H := hP
  replace hD : va_D A ((Wm G gm qm Im Jm Rm Lm) ++ (Wd G g q I J R L)) := hD
  have f0_r3 := hw
  replace f0_r3 : ((0 : Int) ≤ r3.toInt ∧ r3.toInt ≤ (20000 : Int)) := f0_r3
  have hP := sw_P hP
  have hD := sw_D hD
  refine lv_pop hx hb dL_law_626 rfl ?_
  refine lv_goto (tgt := 1261) hx hb dL_law_627 (by decide) ?_
  exact kk g q I J R L Im Jm Rm Lm _ _ _ rfl ⟨⟨hvI, hvR, hq0, hq3⟩, mvI, mvR, hWf⟩ hP hD hS hl
set_option maxHeartbeats 4000000 in
set_option maxRecDepth 100000 in
theorem lc_16 {p : Program} {l : Launch} {e : Env} {s : State} {m : MethodId} {below : List Frame} {meth : Method} {c : Code} {b N : Nat} {xs : Nat → Int32} {A : Nat → Prop} {cells slots : Nat} {Q : State → Prop} (G : Gx) (hN : N ≤ 3072) (F : CallFix p m c cL_law 4 s #[Value.ref b] tb RL) (hK : KX G s) (hA : HA G s A) (hbA : ¬ A b) (hX : va_X b N xs s s.heap) (hbl : b < s.heap.size) (hce : cells ≤ room_1.cells ∧ slots ≤ room_1.slots) (g q : Nat → Nat) (I : Nat → Int32) (J : Nat → Int64) (R : Nat → Nat → Int32) (L : Nat → Nat → Int64) (gm qm : Nat → Nat) (Im : Nat → Int32) (Jm : Nat → Int64) (Rm : Nat → Nat → Int32) (Lm : Nat → Nat → Int64) (hst : LI g q I R Im Rm) {H : Heap} {locs : List Loc} {ls : Array Slot} {i : Int32} (hi : 0 ≤ i.toInt ∧ i.toInt + 6 ≤ (N : Int)) (hP : va_P G.1 vwCl (Wd G g q I J R L ++ Wm G gm qm Im Jm Rm Lm) H) (hD : va_D A (Wd G g q I J R L ++ Wm G gm qm Im Jm Rm Lm)) (hS : va_S A s.heap H locs) (hl : lv_has ls 4 [(3, .int i), (2, .ref (gm 45)), (1, .ref (g 74)), (0, .ref b)]) (kk : ∀ (g1 q1 : Nat → Nat) (I1 : Nat → Int32) (J1 : Nat → Int64) (R1 : Nat → Nat → Int32) (L1 : Nat → Nat → Int64) (I2 : Nat → Int32) (J2 : Nat → Int64) (R2 : Nat → Nat → Int32) (L2 : Nat → Nat → Int64) (H : Heap) (locs : List Loc) (ls : Array Slot), g1 74 = g 74 → LI g1 q1 I1 R1 I2 R2 → va_P G.1 vwCl (Wd G g1 q1 I1 J1 R1 L1 ++ Wm G gm qm I2 J2 R2 L2) H → va_D A (Wd G g1 q1 I1 J1 R1 L1 ++ Wm G gm qm I2 J2 R2 L2) → va_S A s.heap H locs → lv_has ls 4 [(3, .int i), (2, .ref (gm 45)), (1, .ref (g 74)), (0, .ref b)] → W p l e room_1 s m #[Value.ref b] below meth c H locs cells slots Q (F0 m 1261 ls [])) : W p l e room_1 s m #[Value.ref b] below meth c H locs cells slots Q (F0 m 630 ls []) := by
  have hx := F.1
  have hb := F.2.1
  have hown := F.2.2.2.1
  obtain ⟨⟨hvI, hvR, hq0, hq3⟩, mvI, mvR, hWf⟩ := hst
  refine lv_aload_n hx hb dL_law_630 rfl (lv_at hl 2 rfl) ?_
  refine xvi (X := (Wd G g q I J R L)) (Y := (Wm G gm qm Im Jm Rm Lm)) (As := []) (rest := []) (b := (g 74)) (d := 7) F hK hP hD hS hA (s_X11_fewest l G g q I J R L hvI hvR hq3  ) kmV_X11_fewest mlL_85 clX11 rfl 66 (Wd_at66 G g q I J R L) ⟨(Nat.le_of_ble_eq_true rfl), (Nat.le_of_ble_eq_true rfl)⟩ hl.1 rfl (Nat.le_of_ble_eq_true rfl) dL_law_631 hce (fun r1 u2 H locs hw hP hD hS => ?_)
  obtain ⟨I3, J4, R5, L6⟩ := u2
  replace hP : va_P G.1 vwCl ((Wd G g q I3 J4 R5 L6) ++ (Wm G gm qm Im Jm Rm Lm)) H := hP
  replace hD : va_D A ((Wd G g q I3 J4 R5 L6) ++ (Wm G gm qm Im Jm Rm Lm)) := hD
  obtain ⟨hvI, hvR, tIr1, tRr1, f0_r1⟩ := hw
  replace f0_r1 : ((-2 : Int) ≤ r1.toInt ∧ r1.toInt ≤ (12 : Int)) := f0_r1
  replace hvI : InvI Wd_lo Wd_hi I3 := hvI
  replace hvR : InvR Wd_rl R5 := hvR
  refine lv_pop hx hb dL_law_634 rfl ?_
  refine lv_aload_n hx hb dL_law_635 rfl (lv_at hl 1 rfl) ?_
  have hP := sw_P hP
  have hD := sw_D hD
  refine xvi (X := (Wm G gm qm Im Jm Rm Lm)) (Y := (Wd G g q I3 J4 R5 L6)) (As := []) (rest := []) (b := (gm 45)) (d := 5) F hK hP hD hS hA (s_X12_fewest l G gm qm Im Jm Rm Lm mvI mvR  ) kmV_X12_fewest mlL_88 clX12 rfl 0 (Wm_at0 G gm qm Im Jm Rm Lm) ⟨(Nat.le_of_ble_eq_true rfl), (Nat.le_of_ble_eq_true rfl)⟩ hl.1 rfl (Nat.le_of_ble_eq_true rfl) dL_law_636 hce (fun r7 u8 H locs hw hP hD hS => ?_)
  obtain ⟨I9, J10, R11, L12⟩ := u8
  replace hP : va_P G.1 vwCl ((Wm G gm qm I9 J10 R11 L12) ++ (Wd G g q I3 J4 R5 L6)) H := hP
  replace hD : va_D A ((Wm G gm qm I9 J10 R11 L12) ++ (Wd G g q I3 J4 R5 L6)) := hD
  obtain ⟨mvI, mvR, tIr7, tRr7, f0_r7⟩ := hw
  replace f0_r7 : ((-2 : Int) ≤ r7.toInt ∧ r7.toInt ≤ (20 : Int)) := f0_r7
  replace mvI : InvI Wm_lo Wm_hi I9 := mvI
  replace mvR : InvR Wm_rl R11 := mvR
  have hWf : WfM I9 R11 := wm_sm hWf (tIr7 10 rfl) (tRr7 22 rfl) (tRr7 23 rfl) (tRr7 24 rfl) (tRr7 25 rfl) (tRr7 26 rfl)
  have hP := sw_P hP
  have hD := sw_D hD
  refine lv_pop hx hb dL_law_639 rfl ?_
  refine lv_goto (tgt := 1261) hx hb dL_law_640 (by decide) ?_
  exact kk g q I3 J4 R5 L6 I9 J10 R11 L12 _ _ _ rfl ⟨⟨hvI, hvR, hq0, hq3⟩, mvI, mvR, hWf⟩ hP hD hS hl
set_option maxHeartbeats 4000000 in
set_option maxRecDepth 100000 in
theorem lc_17 {p : Program} {l : Launch} {e : Env} {s : State} {m : MethodId} {below : List Frame} {meth : Method} {c : Code} {b N : Nat} {xs : Nat → Int32} {A : Nat → Prop} {cells slots : Nat} {Q : State → Prop} (G : Gx) (hN : N ≤ 3072) (F : CallFix p m c cL_law 4 s #[Value.ref b] tb RL) (hK : KX G s) (hA : HA G s A) (hbA : ¬ A b) (hX : va_X b N xs s s.heap) (hbl : b < s.heap.size) (hce : cells ≤ room_1.cells ∧ slots ≤ room_1.slots) (g q : Nat → Nat) (I : Nat → Int32) (J : Nat → Int64) (R : Nat → Nat → Int32) (L : Nat → Nat → Int64) (gm qm : Nat → Nat) (Im : Nat → Int32) (Jm : Nat → Int64) (Rm : Nat → Nat → Int32) (Lm : Nat → Nat → Int64) (hst : LI g q I R Im Rm) {H : Heap} {locs : List Loc} {ls : Array Slot} {i : Int32} (hi : 0 ≤ i.toInt ∧ i.toInt + 6 ≤ (N : Int)) (hP : va_P G.1 vwCl (Wd G g q I J R L ++ Wm G gm qm Im Jm Rm Lm) H) (hD : va_D A (Wd G g q I J R L ++ Wm G gm qm Im Jm Rm Lm)) (hS : va_S A s.heap H locs) (hl : lv_has ls 4 [(3, .int i), (2, .ref (gm 45)), (1, .ref (g 74)), (0, .ref b)]) (kk : ∀ (g1 q1 : Nat → Nat) (I1 : Nat → Int32) (J1 : Nat → Int64) (R1 : Nat → Nat → Int32) (L1 : Nat → Nat → Int64) (I2 : Nat → Int32) (J2 : Nat → Int64) (R2 : Nat → Nat → Int32) (L2 : Nat → Nat → Int64) (H : Heap) (locs : List Loc) (ls : Array Slot), g1 74 = g 74 → LI g1 q1 I1 R1 I2 R2 → va_P G.1 vwCl (Wd G g1 q1 I1 J1 R1 L1 ++ Wm G gm qm I2 J2 R2 L2) H → va_D A (Wd G g1 q1 I1 J1 R1 L1 ++ Wm G gm qm I2 J2 R2 L2) → va_S A s.heap H locs → lv_has ls 4 [(3, .int i), (2, .ref (gm 45)), (1, .ref (g 74)), (0, .ref b)] → W p l e room_1 s m #[Value.ref b] below meth c H locs cells slots Q (F0 m 1261 ls [])) : W p l e room_1 s m #[Value.ref b] below meth c H locs cells slots Q (F0 m 643 ls []) := by
  have hx := F.1
  have hb := F.2.1
  have hown := F.2.2.2.1
  obtain ⟨⟨hvI, hvR, hq0, hq3⟩, mvI, mvR, hWf⟩ := hst
  refine lv_aload_n hx hb dL_law_643 rfl (lv_at hl 2 rfl) ?_
  refine lv_aload_n hx hb dL_law_644 rfl (lv_at hl 3 rfl) ?_
  refine lv_iload_n hx hb dL_law_645 rfl (lv_at hl 0 rfl) ?_
  refine lv_iconst (v := 1) hx hb dL_law_646 (by decide) ?_
  refine lv_iadd hx hb dL_law_647 ?_
  refine lv_topi (fun x1 ex1 => ?_)
  have fx1 : x1.toInt = i.toInt + (1 : Int) := by rw [ex1]; exact t_add (by show (-2147483648 : Int) ≤ i.toInt + (1 : Int); omega) (by show i.toInt + (1 : Int) ≤ 2147483647; omega)
  refine va_sld hx hb hX hbl hbA hS (in_of (by omega)) dL_law_648 ?_
  refine lv_topi (fun v2 ev2 => ?_)
  refine xvi (X := (Wd G g q I J R L)) (Y := (Wm G gm qm Im Jm Rm Lm)) (As := [.int v2]) (rest := []) (b := (g 74)) (d := 8) F hK hP hD hS hA (s_X11_better l G g q I J R L hvI hvR hq3 v2 ) kmV_X11_better mlL_89 clX11 rfl 66 (Wd_at66 G g q I J R L) ⟨(Nat.le_of_ble_eq_true rfl), (Nat.le_of_ble_eq_true rfl)⟩ hl.1 rfl (Nat.le_of_ble_eq_true rfl) dL_law_649 hce (fun r3 u4 H locs hw hP hD hS => ?_)
  obtain ⟨I5, J6, R7, L8⟩ := u4
  replace hP : va_P G.1 vwCl ((Wd G g q I5 J6 R7 L8) ++ (Wm G gm qm Im Jm Rm Lm)) H := hP
  replace hD : va_D A ((Wd G g q I5 J6 R7 L8) ++ (Wm G gm qm Im Jm Rm Lm)) := hD
  obtain ⟨hvI, hvR, tIr3, tRr3⟩ := hw
  replace hvI : InvI Wd_lo Wd_hi I5 := hvI
  replace hvR : InvR Wd_rl R7 := hvR
  refine lv_pop hx hb dL_law_652 rfl ?_
  refine lv_aload_n hx hb dL_law_653 rfl (lv_at hl 1 rfl) ?_
  refine lv_aload_n hx hb dL_law_654 rfl (lv_at hl 3 rfl) ?_
  refine lv_iload_n hx hb dL_law_655 rfl (lv_at hl 0 rfl) ?_
  refine lv_iconst (v := 1) hx hb dL_law_656 (by decide) ?_
  refine lv_iadd hx hb dL_law_657 ?_
  refine lv_topi (fun x9 ex9 => ?_)
  have fx9 : x9.toInt = i.toInt + (1 : Int) := by rw [ex9]; exact t_add (by show (-2147483648 : Int) ≤ i.toInt + (1 : Int); omega) (by show i.toInt + (1 : Int) ≤ 2147483647; omega)
  refine va_sld hx hb hX hbl hbA hS (in_of (by omega)) dL_law_658 ?_
  refine lv_topi (fun v10 ev10 => ?_)
  have hP := sw_P hP
  have hD := sw_D hD
  refine xvi (X := (Wm G gm qm Im Jm Rm Lm)) (Y := (Wd G g q I5 J6 R7 L8)) (As := [.int v10]) (rest := []) (b := (gm 45)) (d := 7) F hK hP hD hS hA (s_X12_better l G gm qm Im Jm Rm Lm mvI mvR v10 hWf) kmV_X12_better mlL_92 clX12 rfl 0 (Wm_at0 G gm qm Im Jm Rm Lm) ⟨(Nat.le_of_ble_eq_true rfl), (Nat.le_of_ble_eq_true rfl)⟩ hl.1 rfl (Nat.le_of_ble_eq_true rfl) dL_law_659 hce (fun r11 u12 H locs hw hP hD hS => ?_)
  obtain ⟨I13, J14, R15, L16⟩ := u12
  replace hP : va_P G.1 vwCl ((Wm G gm qm I13 J14 R15 L16) ++ (Wd G g q I5 J6 R7 L8)) H := hP
  replace hD : va_D A ((Wm G gm qm I13 J14 R15 L16) ++ (Wd G g q I5 J6 R7 L8)) := hD
  obtain ⟨mvI, mvR, tIr11, tRr11⟩ := hw
  replace mvI : InvI Wm_lo Wm_hi I13 := mvI
  replace mvR : InvR Wm_rl R15 := mvR
  have hWf : WfM I13 R15 := wm_sm hWf (tIr11 10 rfl) (tRr11 22 rfl) (tRr11 23 rfl) (tRr11 24 rfl) (tRr11 25 rfl) (tRr11 26 rfl)
  have hP := sw_P hP
  have hD := sw_D hD
  refine lv_pop hx hb dL_law_662 rfl ?_
  refine lv_goto (tgt := 1261) hx hb dL_law_663 (by decide) ?_
  exact kk g q I5 J6 R7 L8 I13 J14 R15 L16 _ _ _ rfl ⟨⟨hvI, hvR, hq0, hq3⟩, mvI, mvR, hWf⟩ hP hD hS hl
set_option maxHeartbeats 4000000 in
set_option maxRecDepth 100000 in
theorem lc_18 {p : Program} {l : Launch} {e : Env} {s : State} {m : MethodId} {below : List Frame} {meth : Method} {c : Code} {b N : Nat} {xs : Nat → Int32} {A : Nat → Prop} {cells slots : Nat} {Q : State → Prop} (G : Gx) (hN : N ≤ 3072) (F : CallFix p m c cL_law 4 s #[Value.ref b] tb RL) (hK : KX G s) (hA : HA G s A) (hbA : ¬ A b) (hX : va_X b N xs s s.heap) (hbl : b < s.heap.size) (hce : cells ≤ room_1.cells ∧ slots ≤ room_1.slots) (g q : Nat → Nat) (I : Nat → Int32) (J : Nat → Int64) (R : Nat → Nat → Int32) (L : Nat → Nat → Int64) (gm qm : Nat → Nat) (Im : Nat → Int32) (Jm : Nat → Int64) (Rm : Nat → Nat → Int32) (Lm : Nat → Nat → Int64) (hst : LI g q I R Im Rm) {H : Heap} {locs : List Loc} {ls : Array Slot} {i : Int32} (hi : 0 ≤ i.toInt ∧ i.toInt + 6 ≤ (N : Int)) (hP : va_P G.1 vwCl (Wd G g q I J R L ++ Wm G gm qm Im Jm Rm Lm) H) (hD : va_D A (Wd G g q I J R L ++ Wm G gm qm Im Jm Rm Lm)) (hS : va_S A s.heap H locs) (hl : lv_has ls 4 [(3, .int i), (2, .ref (gm 45)), (1, .ref (g 74)), (0, .ref b)]) (kk : ∀ (g1 q1 : Nat → Nat) (I1 : Nat → Int32) (J1 : Nat → Int64) (R1 : Nat → Nat → Int32) (L1 : Nat → Nat → Int64) (I2 : Nat → Int32) (J2 : Nat → Int64) (R2 : Nat → Nat → Int32) (L2 : Nat → Nat → Int64) (H : Heap) (locs : List Loc) (ls : Array Slot), g1 74 = g 74 → LI g1 q1 I1 R1 I2 R2 → va_P G.1 vwCl (Wd G g1 q1 I1 J1 R1 L1 ++ Wm G gm qm I2 J2 R2 L2) H → va_D A (Wd G g1 q1 I1 J1 R1 L1 ++ Wm G gm qm I2 J2 R2 L2) → va_S A s.heap H locs → lv_has ls 4 [(3, .int i), (2, .ref (gm 45)), (1, .ref (g 74)), (0, .ref b)] → W p l e room_1 s m #[Value.ref b] below meth c H locs cells slots Q (F0 m 1261 ls [])) : W p l e room_1 s m #[Value.ref b] below meth c H locs cells slots Q (F0 m 666 ls []) := by
  have hx := F.1
  have hb := F.2.1
  have hown := F.2.2.2.1
  obtain ⟨⟨hvI, hvR, hq0, hq3⟩, mvI, mvR, hWf⟩ := hst
  refine lv_aload_n hx hb dL_law_666 rfl (lv_at hl 2 rfl) ?_
  refine lv_aload_n hx hb dL_law_667 rfl (lv_at hl 3 rfl) ?_
  refine lv_iload_n hx hb dL_law_668 rfl (lv_at hl 0 rfl) ?_
  refine lv_iconst (v := 1) hx hb dL_law_669 (by decide) ?_
  refine lv_iadd hx hb dL_law_670 ?_
  refine lv_topi (fun x1 ex1 => ?_)
  have fx1 : x1.toInt = i.toInt + (1 : Int) := by rw [ex1]; exact t_add (by show (-2147483648 : Int) ≤ i.toInt + (1 : Int); omega) (by show i.toInt + (1 : Int) ≤ 2147483647; omega)
  refine va_sld hx hb hX hbl hbA hS (in_of (by omega)) dL_law_671 ?_
  refine lv_topi (fun v2 ev2 => ?_)
  refine lv_aload_n hx hb dL_law_672 rfl (lv_at hl 3 rfl) ?_
  refine lv_iload_n hx hb dL_law_673 rfl (lv_at hl 0 rfl) ?_
  refine lv_iconst (v := 2) hx hb dL_law_674 (by decide) ?_
  refine lv_iadd hx hb dL_law_675 ?_
  refine lv_topi (fun x3 ex3 => ?_)
  have fx3 : x3.toInt = i.toInt + (2 : Int) := by rw [ex3]; exact t_add (by show (-2147483648 : Int) ≤ i.toInt + (2 : Int); omega) (by show i.toInt + (2 : Int) ≤ 2147483647; omega)
  refine va_sld hx hb hX hbl hbA hS (in_of (by omega)) dL_law_676 ?_
  refine lv_topi (fun v4 ev4 => ?_)
  refine xvi (X := (Wd G g q I J R L)) (Y := (Wm G gm qm Im Jm Rm Lm)) (As := [.int v2, .int v4]) (rest := []) (b := (g 74)) (d := 8) F hK hP hD hS hA (s_X11_both l G g q I J R L hvI hvR hq3 v2 v4 ) kmV_X11_both mlL_93 clX11 rfl 66 (Wd_at66 G g q I J R L) ⟨(Nat.le_of_ble_eq_true rfl), (Nat.le_of_ble_eq_true rfl)⟩ hl.1 rfl (Nat.le_of_ble_eq_true rfl) dL_law_677 hce (fun r5 u6 H locs hw hP hD hS => ?_)
  obtain ⟨I7, J8, R9, L10⟩ := u6
  replace hP : va_P G.1 vwCl ((Wd G g q I7 J8 R9 L10) ++ (Wm G gm qm Im Jm Rm Lm)) H := hP
  replace hD : va_D A ((Wd G g q I7 J8 R9 L10) ++ (Wm G gm qm Im Jm Rm Lm)) := hD
  obtain ⟨hvI, hvR, tIr5, tRr5, f0_r5⟩ := hw
  replace f0_r5 : ((-1000000000 : Int) ≤ r5.toInt) := f0_r5
  replace hvI : InvI Wd_lo Wd_hi I7 := hvI
  replace hvR : InvR Wd_rl R9 := hvR
  refine lv_pop hx hb dL_law_680 rfl ?_
  refine lv_aload_n hx hb dL_law_681 rfl (lv_at hl 1 rfl) ?_
  refine lv_aload_n hx hb dL_law_682 rfl (lv_at hl 3 rfl) ?_
  refine lv_iload_n hx hb dL_law_683 rfl (lv_at hl 0 rfl) ?_
  refine lv_iconst (v := 1) hx hb dL_law_684 (by decide) ?_
  refine lv_iadd hx hb dL_law_685 ?_
  refine lv_topi (fun x11 ex11 => ?_)
  have fx11 : x11.toInt = i.toInt + (1 : Int) := by rw [ex11]; exact t_add (by show (-2147483648 : Int) ≤ i.toInt + (1 : Int); omega) (by show i.toInt + (1 : Int) ≤ 2147483647; omega)
  refine va_sld hx hb hX hbl hbA hS (in_of (by omega)) dL_law_686 ?_
  refine lv_topi (fun v12 ev12 => ?_)
  refine lv_aload_n hx hb dL_law_687 rfl (lv_at hl 3 rfl) ?_
  refine lv_iload_n hx hb dL_law_688 rfl (lv_at hl 0 rfl) ?_
  refine lv_iconst (v := 2) hx hb dL_law_689 (by decide) ?_
  refine lv_iadd hx hb dL_law_690 ?_
  refine lv_topi (fun x13 ex13 => ?_)
  have fx13 : x13.toInt = i.toInt + (2 : Int) := by rw [ex13]; exact t_add (by show (-2147483648 : Int) ≤ i.toInt + (2 : Int); omega) (by show i.toInt + (2 : Int) ≤ 2147483647; omega)
  refine va_sld hx hb hX hbl hbA hS (in_of (by omega)) dL_law_691 ?_
  refine lv_topi (fun v14 ev14 => ?_)
  have hP := sw_P hP
  have hD := sw_D hD
  refine xvi (X := (Wm G gm qm Im Jm Rm Lm)) (Y := (Wd G g q I7 J8 R9 L10)) (As := [.int v12, .int v14]) (rest := []) (b := (gm 45)) (d := 6) F hK hP hD hS hA (s_X12_both l G gm qm Im Jm Rm Lm mvI mvR v12 v14 hWf) kmV_X12_both mlL_96 clX12 rfl 0 (Wm_at0 G gm qm Im Jm Rm Lm) ⟨(Nat.le_of_ble_eq_true rfl), (Nat.le_of_ble_eq_true rfl)⟩ hl.1 rfl (Nat.le_of_ble_eq_true rfl) dL_law_692 hce (fun r15 u16 H locs hw hP hD hS => ?_)
  obtain ⟨I17, J18, R19, L20⟩ := u16
  replace hP : va_P G.1 vwCl ((Wm G gm qm I17 J18 R19 L20) ++ (Wd G g q I7 J8 R9 L10)) H := hP
  replace hD : va_D A ((Wm G gm qm I17 J18 R19 L20) ++ (Wd G g q I7 J8 R9 L10)) := hD
  obtain ⟨mvI, mvR, tIr15, tRr15⟩ := hw
  replace mvI : InvI Wm_lo Wm_hi I17 := mvI
  replace mvR : InvR Wm_rl R19 := mvR
  have hWf : WfM I17 R19 := wm_sm hWf (tIr15 10 rfl) (tRr15 22 rfl) (tRr15 23 rfl) (tRr15 24 rfl) (tRr15 25 rfl) (tRr15 26 rfl)
  have hP := sw_P hP
  have hD := sw_D hD
  refine lv_pop hx hb dL_law_695 rfl ?_
  refine lv_goto (tgt := 1261) hx hb dL_law_696 (by decide) ?_
  exact kk g q I7 J8 R9 L10 I17 J18 R19 L20 _ _ _ rfl ⟨⟨hvI, hvR, hq0, hq3⟩, mvI, mvR, hWf⟩ hP hD hS hl
set_option maxHeartbeats 4000000 in
set_option maxRecDepth 100000 in
theorem lc_19 {p : Program} {l : Launch} {e : Env} {s : State} {m : MethodId} {below : List Frame} {meth : Method} {c : Code} {b N : Nat} {xs : Nat → Int32} {A : Nat → Prop} {cells slots : Nat} {Q : State → Prop} (G : Gx) (hN : N ≤ 3072) (F : CallFix p m c cL_law 4 s #[Value.ref b] tb RL) (hK : KX G s) (hA : HA G s A) (hbA : ¬ A b) (hX : va_X b N xs s s.heap) (hbl : b < s.heap.size) (hce : cells ≤ room_1.cells ∧ slots ≤ room_1.slots) (g q : Nat → Nat) (I : Nat → Int32) (J : Nat → Int64) (R : Nat → Nat → Int32) (L : Nat → Nat → Int64) (gm qm : Nat → Nat) (Im : Nat → Int32) (Jm : Nat → Int64) (Rm : Nat → Nat → Int32) (Lm : Nat → Nat → Int64) (hst : LI g q I R Im Rm) {H : Heap} {locs : List Loc} {ls : Array Slot} {i : Int32} (hi : 0 ≤ i.toInt ∧ i.toInt + 6 ≤ (N : Int)) (hP : va_P G.1 vwCl (Wd G g q I J R L ++ Wm G gm qm Im Jm Rm Lm) H) (hD : va_D A (Wd G g q I J R L ++ Wm G gm qm Im Jm Rm Lm)) (hS : va_S A s.heap H locs) (hl : lv_has ls 4 [(3, .int i), (2, .ref (gm 45)), (1, .ref (g 74)), (0, .ref b)]) (kk : ∀ (g1 q1 : Nat → Nat) (I1 : Nat → Int32) (J1 : Nat → Int64) (R1 : Nat → Nat → Int32) (L1 : Nat → Nat → Int64) (I2 : Nat → Int32) (J2 : Nat → Int64) (R2 : Nat → Nat → Int32) (L2 : Nat → Nat → Int64) (H : Heap) (locs : List Loc) (ls : Array Slot), g1 74 = g 74 → LI g1 q1 I1 R1 I2 R2 → va_P G.1 vwCl (Wd G g1 q1 I1 J1 R1 L1 ++ Wm G gm qm I2 J2 R2 L2) H → va_D A (Wd G g1 q1 I1 J1 R1 L1 ++ Wm G gm qm I2 J2 R2 L2) → va_S A s.heap H locs → lv_has ls 4 [(3, .int i), (2, .ref (gm 45)), (1, .ref (g 74)), (0, .ref b)] → W p l e room_1 s m #[Value.ref b] below meth c H locs cells slots Q (F0 m 1261 ls [])) : W p l e room_1 s m #[Value.ref b] below meth c H locs cells slots Q (F0 m 699 ls []) := by
  have hx := F.1
  have hb := F.2.1
  have hown := F.2.2.2.1
  obtain ⟨⟨hvI, hvR, hq0, hq3⟩, mvI, mvR, hWf⟩ := hst
  refine lv_aload_n hx hb dL_law_699 rfl (lv_at hl 2 rfl) ?_
  refine lv_aload_n hx hb dL_law_700 rfl (lv_at hl 3 rfl) ?_
  refine lv_iload_n hx hb dL_law_701 rfl (lv_at hl 0 rfl) ?_
  refine lv_iconst (v := 1) hx hb dL_law_702 (by decide) ?_
  refine lv_iadd hx hb dL_law_703 ?_
  refine lv_topi (fun x1 ex1 => ?_)
  have fx1 : x1.toInt = i.toInt + (1 : Int) := by rw [ex1]; exact t_add (by show (-2147483648 : Int) ≤ i.toInt + (1 : Int); omega) (by show i.toInt + (1 : Int) ≤ 2147483647; omega)
  refine va_sld hx hb hX hbl hbA hS (in_of (by omega)) dL_law_704 ?_
  refine lv_topi (fun v2 ev2 => ?_)
  refine lv_aload_n hx hb dL_law_705 rfl (lv_at hl 3 rfl) ?_
  refine lv_iload_n hx hb dL_law_706 rfl (lv_at hl 0 rfl) ?_
  refine lv_iconst (v := 2) hx hb dL_law_707 (by decide) ?_
  refine lv_iadd hx hb dL_law_708 ?_
  refine lv_topi (fun x3 ex3 => ?_)
  have fx3 : x3.toInt = i.toInt + (2 : Int) := by rw [ex3]; exact t_add (by show (-2147483648 : Int) ≤ i.toInt + (2 : Int); omega) (by show i.toInt + (2 : Int) ≤ 2147483647; omega)
  refine va_sld hx hb hX hbl hbA hS (in_of (by omega)) dL_law_709 ?_
  refine lv_topi (fun v4 ev4 => ?_)
  refine xvi (X := (Wd G g q I J R L)) (Y := (Wm G gm qm Im Jm Rm Lm)) (As := [.int v2, .int v4]) (rest := []) (b := (g 74)) (d := 8) F hK hP hD hS hA (s_X11_trade l G g q I J R L hvI hvR hq3 v2 v4 ) kmV_X11_trade mlL_97 clX11 rfl 66 (Wd_at66 G g q I J R L) ⟨(Nat.le_of_ble_eq_true rfl), (Nat.le_of_ble_eq_true rfl)⟩ hl.1 rfl (Nat.le_of_ble_eq_true rfl) dL_law_710 hce (fun r5 u6 H locs hw hP hD hS => ?_)
  obtain ⟨I7, J8, R9, L10⟩ := u6
  replace hP : va_P G.1 vwCl ((Wd G g q I7 J8 R9 L10) ++ (Wm G gm qm Im Jm Rm Lm)) H := hP
  replace hD : va_D A ((Wd G g q I7 J8 R9 L10) ++ (Wm G gm qm Im Jm Rm Lm)) := hD
  obtain ⟨hvI, hvR, tIr5, tRr5⟩ := hw
  replace hvI : InvI Wd_lo Wd_hi I7 := hvI
  replace hvR : InvR Wd_rl R9 := hvR
  refine lv_pop hx hb dL_law_713 rfl ?_
  refine lv_aload_n hx hb dL_law_714 rfl (lv_at hl 1 rfl) ?_
  refine lv_aload_n hx hb dL_law_715 rfl (lv_at hl 3 rfl) ?_
  refine lv_iload_n hx hb dL_law_716 rfl (lv_at hl 0 rfl) ?_
  refine lv_iconst (v := 1) hx hb dL_law_717 (by decide) ?_
  refine lv_iadd hx hb dL_law_718 ?_
  refine lv_topi (fun x11 ex11 => ?_)
  have fx11 : x11.toInt = i.toInt + (1 : Int) := by rw [ex11]; exact t_add (by show (-2147483648 : Int) ≤ i.toInt + (1 : Int); omega) (by show i.toInt + (1 : Int) ≤ 2147483647; omega)
  refine va_sld hx hb hX hbl hbA hS (in_of (by omega)) dL_law_719 ?_
  refine lv_topi (fun v12 ev12 => ?_)
  refine lv_aload_n hx hb dL_law_720 rfl (lv_at hl 3 rfl) ?_
  refine lv_iload_n hx hb dL_law_721 rfl (lv_at hl 0 rfl) ?_
  refine lv_iconst (v := 2) hx hb dL_law_722 (by decide) ?_
  refine lv_iadd hx hb dL_law_723 ?_
  refine lv_topi (fun x13 ex13 => ?_)
  have fx13 : x13.toInt = i.toInt + (2 : Int) := by rw [ex13]; exact t_add (by show (-2147483648 : Int) ≤ i.toInt + (2 : Int); omega) (by show i.toInt + (2 : Int) ≤ 2147483647; omega)
  refine va_sld hx hb hX hbl hbA hS (in_of (by omega)) dL_law_724 ?_
  refine lv_topi (fun v14 ev14 => ?_)
  have hP := sw_P hP
  have hD := sw_D hD
  refine xvi (X := (Wm G gm qm Im Jm Rm Lm)) (Y := (Wd G g q I7 J8 R9 L10)) (As := [.int v12, .int v14]) (rest := []) (b := (gm 45)) (d := 6) F hK hP hD hS hA (s_X12_trade l G gm qm Im Jm Rm Lm mvI mvR v12 v14 hWf) kmV_X12_trade mlL_100 clX12 rfl 0 (Wm_at0 G gm qm Im Jm Rm Lm) ⟨(Nat.le_of_ble_eq_true rfl), (Nat.le_of_ble_eq_true rfl)⟩ hl.1 rfl (Nat.le_of_ble_eq_true rfl) dL_law_725 hce (fun r15 u16 H locs hw hP hD hS => ?_)
  obtain ⟨I17, J18, R19, L20⟩ := u16
  replace hP : va_P G.1 vwCl ((Wm G gm qm I17 J18 R19 L20) ++ (Wd G g q I7 J8 R9 L10)) H := hP
  replace hD : va_D A ((Wm G gm qm I17 J18 R19 L20) ++ (Wd G g q I7 J8 R9 L10)) := hD
  obtain ⟨mvI, mvR, tIr15, tRr15⟩ := hw
  replace mvI : InvI Wm_lo Wm_hi I17 := mvI
  replace mvR : InvR Wm_rl R19 := mvR
  have hWf : WfM I17 R19 := wm_sm hWf (tIr15 10 rfl) (tRr15 22 rfl) (tRr15 23 rfl) (tRr15 24 rfl) (tRr15 25 rfl) (tRr15 26 rfl)
  have hP := sw_P hP
  have hD := sw_D hD
  refine lv_pop hx hb dL_law_728 rfl ?_
  refine lv_goto (tgt := 1261) hx hb dL_law_729 (by decide) ?_
  exact kk g q I7 J8 R9 L10 I17 J18 R19 L20 _ _ _ rfl ⟨⟨hvI, hvR, hq0, hq3⟩, mvI, mvR, hWf⟩ hP hD hS hl
set_option maxHeartbeats 4000000 in
set_option maxRecDepth 100000 in
theorem lc_20 {p : Program} {l : Launch} {e : Env} {s : State} {m : MethodId} {below : List Frame} {meth : Method} {c : Code} {b N : Nat} {xs : Nat → Int32} {A : Nat → Prop} {cells slots : Nat} {Q : State → Prop} (G : Gx) (hN : N ≤ 3072) (F : CallFix p m c cL_law 4 s #[Value.ref b] tb RL) (hK : KX G s) (hA : HA G s A) (hbA : ¬ A b) (hX : va_X b N xs s s.heap) (hbl : b < s.heap.size) (hce : cells ≤ room_1.cells ∧ slots ≤ room_1.slots) (g q : Nat → Nat) (I : Nat → Int32) (J : Nat → Int64) (R : Nat → Nat → Int32) (L : Nat → Nat → Int64) (gm qm : Nat → Nat) (Im : Nat → Int32) (Jm : Nat → Int64) (Rm : Nat → Nat → Int32) (Lm : Nat → Nat → Int64) (hst : LI g q I R Im Rm) {H : Heap} {locs : List Loc} {ls : Array Slot} {i : Int32} (hi : 0 ≤ i.toInt ∧ i.toInt + 6 ≤ (N : Int)) (hP : va_P G.1 vwCl (Wd G g q I J R L ++ Wm G gm qm Im Jm Rm Lm) H) (hD : va_D A (Wd G g q I J R L ++ Wm G gm qm Im Jm Rm Lm)) (hS : va_S A s.heap H locs) (hl : lv_has ls 4 [(3, .int i), (2, .ref (gm 45)), (1, .ref (g 74)), (0, .ref b)]) (kk : ∀ (g1 q1 : Nat → Nat) (I1 : Nat → Int32) (J1 : Nat → Int64) (R1 : Nat → Nat → Int32) (L1 : Nat → Nat → Int64) (I2 : Nat → Int32) (J2 : Nat → Int64) (R2 : Nat → Nat → Int32) (L2 : Nat → Nat → Int64) (H : Heap) (locs : List Loc) (ls : Array Slot), g1 74 = g 74 → LI g1 q1 I1 R1 I2 R2 → va_P G.1 vwCl (Wd G g1 q1 I1 J1 R1 L1 ++ Wm G gm qm I2 J2 R2 L2) H → va_D A (Wd G g1 q1 I1 J1 R1 L1 ++ Wm G gm qm I2 J2 R2 L2) → va_S A s.heap H locs → lv_has ls 4 [(3, .int i), (2, .ref (gm 45)), (1, .ref (g 74)), (0, .ref b)] → W p l e room_1 s m #[Value.ref b] below meth c H locs cells slots Q (F0 m 1261 ls [])) : W p l e room_1 s m #[Value.ref b] below meth c H locs cells slots Q (F0 m 732 ls []) := by
  have hx := F.1
  have hb := F.2.1
  have hown := F.2.2.2.1
  obtain ⟨⟨hvI, hvR, hq0, hq3⟩, mvI, mvR, hWf⟩ := hst
  refine lv_aload_n hx hb dL_law_732 rfl (lv_at hl 2 rfl) ?_
  refine lv_aload_n hx hb dL_law_733 rfl (lv_at hl 3 rfl) ?_
  refine lv_iload_n hx hb dL_law_734 rfl (lv_at hl 0 rfl) ?_
  refine lv_iconst (v := 1) hx hb dL_law_735 (by decide) ?_
  refine lv_iadd hx hb dL_law_736 ?_
  refine lv_topi (fun x1 ex1 => ?_)
  have fx1 : x1.toInt = i.toInt + (1 : Int) := by rw [ex1]; exact t_add (by show (-2147483648 : Int) ≤ i.toInt + (1 : Int); omega) (by show i.toInt + (1 : Int) ≤ 2147483647; omega)
  refine va_sld hx hb hX hbl hbA hS (in_of (by omega)) dL_law_737 ?_
  refine lv_topi (fun v2 ev2 => ?_)
  refine xvi (X := (Wd G g q I J R L)) (Y := (Wm G gm qm Im Jm Rm Lm)) (As := [.int v2]) (rest := []) (b := (g 74)) (d := 5) F hK hP hD hS hA (s_X11_should l G g q I J R L hvI hvR hq3 v2 ) kmV_X11_should mlL_101 clX11 rfl 66 (Wd_at66 G g q I J R L) ⟨(Nat.le_of_ble_eq_true rfl), (Nat.le_of_ble_eq_true rfl)⟩ hl.1 rfl (Nat.le_of_ble_eq_true rfl) dL_law_738 hce (fun r3 u4 H locs hw hP hD hS => ?_)
  replace hP : va_P G.1 vwCl ((Wd G g q I J R L) ++ (Wm G gm qm Im Jm Rm Lm)) H := hP
  replace hD : va_D A ((Wd G g q I J R L) ++ (Wm G gm qm Im Jm Rm Lm)) := hD
  refine lv_pop hx hb dL_law_741 rfl ?_
  refine lv_aload_n hx hb dL_law_742 rfl (lv_at hl 1 rfl) ?_
  refine lv_aload_n hx hb dL_law_743 rfl (lv_at hl 3 rfl) ?_
  refine lv_iload_n hx hb dL_law_744 rfl (lv_at hl 0 rfl) ?_
  refine lv_iconst (v := 1) hx hb dL_law_745 (by decide) ?_
  refine lv_iadd hx hb dL_law_746 ?_
  refine lv_topi (fun x5 ex5 => ?_)
  have fx5 : x5.toInt = i.toInt + (1 : Int) := by rw [ex5]; exact t_add (by show (-2147483648 : Int) ≤ i.toInt + (1 : Int); omega) (by show i.toInt + (1 : Int) ≤ 2147483647; omega)
  refine va_sld hx hb hX hbl hbA hS (in_of (by omega)) dL_law_747 ?_
  refine lv_topi (fun v6 ev6 => ?_)
  have hP := sw_P hP
  have hD := sw_D hD
  refine xvi (X := (Wm G gm qm Im Jm Rm Lm)) (Y := (Wd G g q I J R L)) (As := [.int v6]) (rest := []) (b := (gm 45)) (d := 4) F hK hP hD hS hA (s_X12_should l G gm qm Im Jm Rm Lm mvI mvR v6 ) kmV_X12_should mlL_104 clX12 rfl 0 (Wm_at0 G gm qm Im Jm Rm Lm) ⟨(Nat.le_of_ble_eq_true rfl), (Nat.le_of_ble_eq_true rfl)⟩ hl.1 rfl (Nat.le_of_ble_eq_true rfl) dL_law_748 hce (fun r7 u8 H locs hw hP hD hS => ?_)
  replace hP : va_P G.1 vwCl ((Wm G gm qm Im Jm Rm Lm) ++ (Wd G g q I J R L)) H := hP
  replace hD : va_D A ((Wm G gm qm Im Jm Rm Lm) ++ (Wd G g q I J R L)) := hD
  have hP := sw_P hP
  have hD := sw_D hD
  refine lv_pop hx hb dL_law_751 rfl ?_
  refine lv_goto (tgt := 1261) hx hb dL_law_752 (by decide) ?_
  exact kk g q I J R L Im Jm Rm Lm _ _ _ rfl ⟨⟨hvI, hvR, hq0, hq3⟩, mvI, mvR, hWf⟩ hP hD hS hl
set_option maxHeartbeats 4000000 in
set_option maxRecDepth 100000 in
theorem lc_21 {p : Program} {l : Launch} {e : Env} {s : State} {m : MethodId} {below : List Frame} {meth : Method} {c : Code} {b N : Nat} {xs : Nat → Int32} {A : Nat → Prop} {cells slots : Nat} {Q : State → Prop} (G : Gx) (hN : N ≤ 3072) (F : CallFix p m c cL_law 4 s #[Value.ref b] tb RL) (hK : KX G s) (hA : HA G s A) (hbA : ¬ A b) (hX : va_X b N xs s s.heap) (hbl : b < s.heap.size) (hce : cells ≤ room_1.cells ∧ slots ≤ room_1.slots) (g q : Nat → Nat) (I : Nat → Int32) (J : Nat → Int64) (R : Nat → Nat → Int32) (L : Nat → Nat → Int64) (gm qm : Nat → Nat) (Im : Nat → Int32) (Jm : Nat → Int64) (Rm : Nat → Nat → Int32) (Lm : Nat → Nat → Int64) (hst : LI g q I R Im Rm) {H : Heap} {locs : List Loc} {ls : Array Slot} {i : Int32} (hi : 0 ≤ i.toInt ∧ i.toInt + 6 ≤ (N : Int)) (hP : va_P G.1 vwCl (Wd G g q I J R L ++ Wm G gm qm Im Jm Rm Lm) H) (hD : va_D A (Wd G g q I J R L ++ Wm G gm qm Im Jm Rm Lm)) (hS : va_S A s.heap H locs) (hl : lv_has ls 4 [(3, .int i), (2, .ref (gm 45)), (1, .ref (g 74)), (0, .ref b)]) (kk : ∀ (g1 q1 : Nat → Nat) (I1 : Nat → Int32) (J1 : Nat → Int64) (R1 : Nat → Nat → Int32) (L1 : Nat → Nat → Int64) (I2 : Nat → Int32) (J2 : Nat → Int64) (R2 : Nat → Nat → Int32) (L2 : Nat → Nat → Int64) (H : Heap) (locs : List Loc) (ls : Array Slot), g1 74 = g 74 → LI g1 q1 I1 R1 I2 R2 → va_P G.1 vwCl (Wd G g1 q1 I1 J1 R1 L1 ++ Wm G gm qm I2 J2 R2 L2) H → va_D A (Wd G g1 q1 I1 J1 R1 L1 ++ Wm G gm qm I2 J2 R2 L2) → va_S A s.heap H locs → lv_has ls 4 [(3, .int i), (2, .ref (gm 45)), (1, .ref (g 74)), (0, .ref b)] → W p l e room_1 s m #[Value.ref b] below meth c H locs cells slots Q (F0 m 1261 ls [])) : W p l e room_1 s m #[Value.ref b] below meth c H locs cells slots Q (F0 m 755 ls []) := by
  have hx := F.1
  have hb := F.2.1
  have hown := F.2.2.2.1
  obtain ⟨⟨hvI, hvR, hq0, hq3⟩, mvI, mvR, hWf⟩ := hst
  refine lv_aload_n hx hb dL_law_755 rfl (lv_at hl 2 rfl) ?_
  refine lv_aload_n hx hb dL_law_756 rfl (lv_at hl 3 rfl) ?_
  refine lv_iload_n hx hb dL_law_757 rfl (lv_at hl 0 rfl) ?_
  refine lv_iconst (v := 1) hx hb dL_law_758 (by decide) ?_
  refine lv_iadd hx hb dL_law_759 ?_
  refine lv_topi (fun x1 ex1 => ?_)
  have fx1 : x1.toInt = i.toInt + (1 : Int) := by rw [ex1]; exact t_add (by show (-2147483648 : Int) ≤ i.toInt + (1 : Int); omega) (by show i.toInt + (1 : Int) ≤ 2147483647; omega)
  refine va_sld hx hb hX hbl hbA hS (in_of (by omega)) dL_law_760 ?_
  refine lv_topi (fun v2 ev2 => ?_)
  refine lv_if_eq (tgt := 768) hx hb dL_law_761 (by decide) (fun c3 => ?_) (fun c3 => ?_)
  · refine lv_iconst (v := 0) hx hb dL_law_768 (by decide) ?_
    refine xvi (X := (Wd G g q I J R L)) (Y := (Wm G gm qm Im Jm Rm Lm)) (As := [.int 0]) (rest := []) (b := (g 74)) (d := 4) F hK hP hD hS hA (s_X11_bound l G g q I J R L hvI hvR hq3 0 (by decide)) kmV_X11_bound mlL_105 clX11 rfl 66 (Wd_at66 G g q I J R L) ⟨(Nat.le_of_ble_eq_true rfl), (Nat.le_of_ble_eq_true rfl)⟩ hl.1 rfl (Nat.le_of_ble_eq_true rfl) dL_law_769 hce (fun r4 u5 H locs hw hP hD hS => ?_)
    replace hP : va_P G.1 vwCl ((Wd G g q I J R L) ++ (Wm G gm qm Im Jm Rm Lm)) H := hP
    replace hD : va_D A ((Wd G g q I J R L) ++ (Wm G gm qm Im Jm Rm Lm)) := hD
    refine lv_pop hx hb dL_law_772 rfl ?_
    refine lv_aload_n hx hb dL_law_773 rfl (lv_at hl 1 rfl) ?_
    refine lv_aload_n hx hb dL_law_774 rfl (lv_at hl 3 rfl) ?_
    refine lv_iload_n hx hb dL_law_775 rfl (lv_at hl 0 rfl) ?_
    refine lv_iconst (v := 1) hx hb dL_law_776 (by decide) ?_
    refine lv_iadd hx hb dL_law_777 ?_
    refine lv_topi (fun x6 ex6 => ?_)
    have fx6 : x6.toInt = i.toInt + (1 : Int) := by rw [ex6]; exact t_add (by show (-2147483648 : Int) ≤ i.toInt + (1 : Int); omega) (by show i.toInt + (1 : Int) ≤ 2147483647; omega)
    refine va_sld hx hb hX hbl hbA hS (in_of (by omega)) dL_law_778 ?_
    refine lv_topi (fun v7 ev7 => ?_)
    refine lv_if_eq (tgt := 786) hx hb dL_law_779 (by decide) (fun c8 => ?_) (fun c8 => ?_)
    · refine lv_iconst (v := 0) hx hb dL_law_786 (by decide) ?_
      have hP := sw_P hP
      have hD := sw_D hD
      refine xvi (X := (Wm G gm qm Im Jm Rm Lm)) (Y := (Wd G g q I J R L)) (As := [.int 0]) (rest := []) (b := (gm 45)) (d := 4) F hK hP hD hS hA (s_X12_bound l G gm qm Im Jm Rm Lm mvI mvR 0 (by decide)) kmV_X12_bound mlL_109 clX12 rfl 0 (Wm_at0 G gm qm Im Jm Rm Lm) ⟨(Nat.le_of_ble_eq_true rfl), (Nat.le_of_ble_eq_true rfl)⟩ hl.1 rfl (Nat.le_of_ble_eq_true rfl) dL_law_787 hce (fun r9 u10 H locs hw hP hD hS => ?_)
      replace hP : va_P G.1 vwCl ((Wm G gm qm Im Jm Rm Lm) ++ (Wd G g q I J R L)) H := hP
      replace hD : va_D A ((Wm G gm qm Im Jm Rm Lm) ++ (Wd G g q I J R L)) := hD
      have hP := sw_P hP
      have hD := sw_D hD
      refine lv_pop hx hb dL_law_790 rfl ?_
      refine lv_goto (tgt := 1261) hx hb dL_law_791 (by decide) ?_
      exact kk g q I J R L Im Jm Rm Lm _ _ _ rfl ⟨⟨hvI, hvR, hq0, hq3⟩, mvI, mvR, hWf⟩ hP hD hS hl
    · refine lv_iconst (v := 1) hx hb dL_law_782 (by decide) ?_
      refine lv_goto (tgt := 787) hx hb dL_law_783 (by decide) ?_
      have hP := sw_P hP
      have hD := sw_D hD
      refine xvi (X := (Wm G gm qm Im Jm Rm Lm)) (Y := (Wd G g q I J R L)) (As := [.int 1]) (rest := []) (b := (gm 45)) (d := 4) F hK hP hD hS hA (s_X12_bound l G gm qm Im Jm Rm Lm mvI mvR 1 (by decide)) kmV_X12_bound mlL_109 clX12 rfl 0 (Wm_at0 G gm qm Im Jm Rm Lm) ⟨(Nat.le_of_ble_eq_true rfl), (Nat.le_of_ble_eq_true rfl)⟩ hl.1 rfl (Nat.le_of_ble_eq_true rfl) dL_law_787 hce (fun r11 u12 H locs hw hP hD hS => ?_)
      replace hP : va_P G.1 vwCl ((Wm G gm qm Im Jm Rm Lm) ++ (Wd G g q I J R L)) H := hP
      replace hD : va_D A ((Wm G gm qm Im Jm Rm Lm) ++ (Wd G g q I J R L)) := hD
      have hP := sw_P hP
      have hD := sw_D hD
      refine lv_pop hx hb dL_law_790 rfl ?_
      refine lv_goto (tgt := 1261) hx hb dL_law_791 (by decide) ?_
      exact kk g q I J R L Im Jm Rm Lm _ _ _ rfl ⟨⟨hvI, hvR, hq0, hq3⟩, mvI, mvR, hWf⟩ hP hD hS hl
  · refine lv_iconst (v := 1) hx hb dL_law_764 (by decide) ?_
    refine lv_goto (tgt := 769) hx hb dL_law_765 (by decide) ?_
    refine xvi (X := (Wd G g q I J R L)) (Y := (Wm G gm qm Im Jm Rm Lm)) (As := [.int 1]) (rest := []) (b := (g 74)) (d := 4) F hK hP hD hS hA (s_X11_bound l G g q I J R L hvI hvR hq3 1 (by decide)) kmV_X11_bound mlL_105 clX11 rfl 66 (Wd_at66 G g q I J R L) ⟨(Nat.le_of_ble_eq_true rfl), (Nat.le_of_ble_eq_true rfl)⟩ hl.1 rfl (Nat.le_of_ble_eq_true rfl) dL_law_769 hce (fun r13 u14 H locs hw hP hD hS => ?_)
    replace hP : va_P G.1 vwCl ((Wd G g q I J R L) ++ (Wm G gm qm Im Jm Rm Lm)) H := hP
    replace hD : va_D A ((Wd G g q I J R L) ++ (Wm G gm qm Im Jm Rm Lm)) := hD
    refine lv_pop hx hb dL_law_772 rfl ?_
    refine lv_aload_n hx hb dL_law_773 rfl (lv_at hl 1 rfl) ?_
    refine lv_aload_n hx hb dL_law_774 rfl (lv_at hl 3 rfl) ?_
    refine lv_iload_n hx hb dL_law_775 rfl (lv_at hl 0 rfl) ?_
    refine lv_iconst (v := 1) hx hb dL_law_776 (by decide) ?_
    refine lv_iadd hx hb dL_law_777 ?_
    refine lv_topi (fun x15 ex15 => ?_)
    have fx15 : x15.toInt = i.toInt + (1 : Int) := by rw [ex15]; exact t_add (by show (-2147483648 : Int) ≤ i.toInt + (1 : Int); omega) (by show i.toInt + (1 : Int) ≤ 2147483647; omega)
    refine va_sld hx hb hX hbl hbA hS (in_of (by omega)) dL_law_778 ?_
    refine lv_topi (fun v16 ev16 => ?_)
    refine lv_if_eq (tgt := 786) hx hb dL_law_779 (by decide) (fun c17 => ?_) (fun c17 => ?_)
    · refine lv_iconst (v := 0) hx hb dL_law_786 (by decide) ?_
      have hP := sw_P hP
      have hD := sw_D hD
      refine xvi (X := (Wm G gm qm Im Jm Rm Lm)) (Y := (Wd G g q I J R L)) (As := [.int 0]) (rest := []) (b := (gm 45)) (d := 4) F hK hP hD hS hA (s_X12_bound l G gm qm Im Jm Rm Lm mvI mvR 0 (by decide)) kmV_X12_bound mlL_109 clX12 rfl 0 (Wm_at0 G gm qm Im Jm Rm Lm) ⟨(Nat.le_of_ble_eq_true rfl), (Nat.le_of_ble_eq_true rfl)⟩ hl.1 rfl (Nat.le_of_ble_eq_true rfl) dL_law_787 hce (fun r18 u19 H locs hw hP hD hS => ?_)
      replace hP : va_P G.1 vwCl ((Wm G gm qm Im Jm Rm Lm) ++ (Wd G g q I J R L)) H := hP
      replace hD : va_D A ((Wm G gm qm Im Jm Rm Lm) ++ (Wd G g q I J R L)) := hD
      have hP := sw_P hP
      have hD := sw_D hD
      refine lv_pop hx hb dL_law_790 rfl ?_
      refine lv_goto (tgt := 1261) hx hb dL_law_791 (by decide) ?_
      exact kk g q I J R L Im Jm Rm Lm _ _ _ rfl ⟨⟨hvI, hvR, hq0, hq3⟩, mvI, mvR, hWf⟩ hP hD hS hl
    · refine lv_iconst (v := 1) hx hb dL_law_782 (by decide) ?_
      refine lv_goto (tgt := 787) hx hb dL_law_783 (by decide) ?_
      have hP := sw_P hP
      have hD := sw_D hD
      refine xvi (X := (Wm G gm qm Im Jm Rm Lm)) (Y := (Wd G g q I J R L)) (As := [.int 1]) (rest := []) (b := (gm 45)) (d := 4) F hK hP hD hS hA (s_X12_bound l G gm qm Im Jm Rm Lm mvI mvR 1 (by decide)) kmV_X12_bound mlL_109 clX12 rfl 0 (Wm_at0 G gm qm Im Jm Rm Lm) ⟨(Nat.le_of_ble_eq_true rfl), (Nat.le_of_ble_eq_true rfl)⟩ hl.1 rfl (Nat.le_of_ble_eq_true rfl) dL_law_787 hce (fun r20 u21 H locs hw hP hD hS => ?_)
      replace hP : va_P G.1 vwCl ((Wm G gm qm Im Jm Rm Lm) ++ (Wd G g q I J R L)) H := hP
      replace hD : va_D A ((Wm G gm qm Im Jm Rm Lm) ++ (Wd G g q I J R L)) := hD
      have hP := sw_P hP
      have hD := sw_D hD
      refine lv_pop hx hb dL_law_790 rfl ?_
      refine lv_goto (tgt := 1261) hx hb dL_law_791 (by decide) ?_
      exact kk g q I J R L Im Jm Rm Lm _ _ _ rfl ⟨⟨hvI, hvR, hq0, hq3⟩, mvI, mvR, hWf⟩ hP hD hS hl
set_option maxHeartbeats 4000000 in
set_option maxRecDepth 100000 in
theorem lc_22 {p : Program} {l : Launch} {e : Env} {s : State} {m : MethodId} {below : List Frame} {meth : Method} {c : Code} {b N : Nat} {xs : Nat → Int32} {A : Nat → Prop} {cells slots : Nat} {Q : State → Prop} (G : Gx) (hN : N ≤ 3072) (F : CallFix p m c cL_law 4 s #[Value.ref b] tb RL) (hK : KX G s) (hA : HA G s A) (hbA : ¬ A b) (hX : va_X b N xs s s.heap) (hbl : b < s.heap.size) (hce : cells ≤ room_1.cells ∧ slots ≤ room_1.slots) (g q : Nat → Nat) (I : Nat → Int32) (J : Nat → Int64) (R : Nat → Nat → Int32) (L : Nat → Nat → Int64) (gm qm : Nat → Nat) (Im : Nat → Int32) (Jm : Nat → Int64) (Rm : Nat → Nat → Int32) (Lm : Nat → Nat → Int64) (hst : LI g q I R Im Rm) {H : Heap} {locs : List Loc} {ls : Array Slot} {i : Int32} (hi : 0 ≤ i.toInt ∧ i.toInt + 6 ≤ (N : Int)) (hP : va_P G.1 vwCl (Wd G g q I J R L ++ Wm G gm qm Im Jm Rm Lm) H) (hD : va_D A (Wd G g q I J R L ++ Wm G gm qm Im Jm Rm Lm)) (hS : va_S A s.heap H locs) (hl : lv_has ls 4 [(3, .int i), (2, .ref (gm 45)), (1, .ref (g 74)), (0, .ref b)]) (kk : ∀ (g1 q1 : Nat → Nat) (I1 : Nat → Int32) (J1 : Nat → Int64) (R1 : Nat → Nat → Int32) (L1 : Nat → Nat → Int64) (I2 : Nat → Int32) (J2 : Nat → Int64) (R2 : Nat → Nat → Int32) (L2 : Nat → Nat → Int64) (H : Heap) (locs : List Loc) (ls : Array Slot), g1 74 = g 74 → LI g1 q1 I1 R1 I2 R2 → va_P G.1 vwCl (Wd G g1 q1 I1 J1 R1 L1 ++ Wm G gm qm I2 J2 R2 L2) H → va_D A (Wd G g1 q1 I1 J1 R1 L1 ++ Wm G gm qm I2 J2 R2 L2) → va_S A s.heap H locs → lv_has ls 4 [(3, .int i), (2, .ref (gm 45)), (1, .ref (g 74)), (0, .ref b)] → W p l e room_1 s m #[Value.ref b] below meth c H locs cells slots Q (F0 m 1261 ls [])) : W p l e room_1 s m #[Value.ref b] below meth c H locs cells slots Q (F0 m 794 ls []) := by
  have hx := F.1
  have hb := F.2.1
  have hown := F.2.2.2.1
  obtain ⟨⟨hvI, hvR, hq0, hq3⟩, mvI, mvR, hWf⟩ := hst
  refine lv_aload_n hx hb dL_law_794 rfl (lv_at hl 2 rfl) ?_
  refine lv_aload_n hx hb dL_law_795 rfl (lv_at hl 3 rfl) ?_
  refine lv_iload_n hx hb dL_law_796 rfl (lv_at hl 0 rfl) ?_
  refine lv_iconst (v := 1) hx hb dL_law_797 (by decide) ?_
  refine lv_iadd hx hb dL_law_798 ?_
  refine lv_topi (fun x1 ex1 => ?_)
  have fx1 : x1.toInt = i.toInt + (1 : Int) := by rw [ex1]; exact t_add (by show (-2147483648 : Int) ≤ i.toInt + (1 : Int); omega) (by show i.toInt + (1 : Int) ≤ 2147483647; omega)
  refine va_sld hx hb hX hbl hbA hS (in_of (by omega)) dL_law_799 ?_
  refine lv_topi (fun v2 ev2 => ?_)
  refine lv_aload_n hx hb dL_law_800 rfl (lv_at hl 3 rfl) ?_
  refine lv_iload_n hx hb dL_law_801 rfl (lv_at hl 0 rfl) ?_
  refine lv_iconst (v := 2) hx hb dL_law_802 (by decide) ?_
  refine lv_iadd hx hb dL_law_803 ?_
  refine lv_topi (fun x3 ex3 => ?_)
  have fx3 : x3.toInt = i.toInt + (2 : Int) := by rw [ex3]; exact t_add (by show (-2147483648 : Int) ≤ i.toInt + (2 : Int); omega) (by show i.toInt + (2 : Int) ≤ 2147483647; omega)
  refine va_sld hx hb hX hbl hbA hS (in_of (by omega)) dL_law_804 ?_
  refine lv_topi (fun v4 ev4 => ?_)
  refine xvl (X := (Wd G g q I J R L)) (Y := (Wm G gm qm Im Jm Rm Lm)) (As := [.int v2, .int v4]) (rest := []) (b := (g 74)) (d := 7) F hK hP hD hS hA (s_X11_likely l G g q I J R L hvI hvR hq3 v2 v4 ) kmV_X11_likely mlL_110 clX11 rfl 66 (Wd_at66 G g q I J R L) ⟨(Nat.le_of_ble_eq_true rfl), (Nat.le_of_ble_eq_true rfl)⟩ hl.1 rfl (Nat.le_of_ble_eq_true rfl) dL_law_805 hce (fun r5 u6 H locs hw hP hD hS => ?_)
  obtain ⟨I7, J8, R9, L10⟩ := u6
  replace hP : va_P G.1 vwCl ((Wd G g q I7 J8 R9 L10) ++ (Wm G gm qm Im Jm Rm Lm)) H := hP
  replace hD : va_D A ((Wd G g q I7 J8 R9 L10) ++ (Wm G gm qm Im Jm Rm Lm)) := hD
  obtain ⟨hvI, hvR, tIr5, tRr5⟩ := hw
  replace hvI : InvI Wd_lo Wd_hi I7 := hvI
  replace hvR : InvR Wd_rl R9 := hvR
  refine lv_pop2_2 hx hb dL_law_808 rfl ?_
  refine lv_aload_n hx hb dL_law_809 rfl (lv_at hl 1 rfl) ?_
  refine lv_aload_n hx hb dL_law_810 rfl (lv_at hl 3 rfl) ?_
  refine lv_iload_n hx hb dL_law_811 rfl (lv_at hl 0 rfl) ?_
  refine lv_iconst (v := 1) hx hb dL_law_812 (by decide) ?_
  refine lv_iadd hx hb dL_law_813 ?_
  refine lv_topi (fun x11 ex11 => ?_)
  have fx11 : x11.toInt = i.toInt + (1 : Int) := by rw [ex11]; exact t_add (by show (-2147483648 : Int) ≤ i.toInt + (1 : Int); omega) (by show i.toInt + (1 : Int) ≤ 2147483647; omega)
  refine va_sld hx hb hX hbl hbA hS (in_of (by omega)) dL_law_814 ?_
  refine lv_topi (fun v12 ev12 => ?_)
  refine lv_aload_n hx hb dL_law_815 rfl (lv_at hl 3 rfl) ?_
  refine lv_iload_n hx hb dL_law_816 rfl (lv_at hl 0 rfl) ?_
  refine lv_iconst (v := 2) hx hb dL_law_817 (by decide) ?_
  refine lv_iadd hx hb dL_law_818 ?_
  refine lv_topi (fun x13 ex13 => ?_)
  have fx13 : x13.toInt = i.toInt + (2 : Int) := by rw [ex13]; exact t_add (by show (-2147483648 : Int) ≤ i.toInt + (2 : Int); omega) (by show i.toInt + (2 : Int) ≤ 2147483647; omega)
  refine va_sld hx hb hX hbl hbA hS (in_of (by omega)) dL_law_819 ?_
  refine lv_topi (fun v14 ev14 => ?_)
  have hP := sw_P hP
  have hD := sw_D hD
  refine xvl (X := (Wm G gm qm Im Jm Rm Lm)) (Y := (Wd G g q I7 J8 R9 L10)) (As := [.int v12, .int v14]) (rest := []) (b := (gm 45)) (d := 3) F hK hP hD hS hA (s_X12_likely l G gm qm Im Jm Rm Lm mvI mvR v12 v14 ) kmV_X12_likely mlL_114 clX12 rfl 0 (Wm_at0 G gm qm Im Jm Rm Lm) ⟨(Nat.le_of_ble_eq_true rfl), (Nat.le_of_ble_eq_true rfl)⟩ hl.1 rfl (Nat.le_of_ble_eq_true rfl) dL_law_820 hce (fun r15 u16 H locs hw hP hD hS => ?_)
  obtain ⟨I17, J18, R19, L20⟩ := u16
  replace hP : va_P G.1 vwCl ((Wm G gm qm I17 J18 R19 L20) ++ (Wd G g q I7 J8 R9 L10)) H := hP
  replace hD : va_D A ((Wm G gm qm I17 J18 R19 L20) ++ (Wd G g q I7 J8 R9 L10)) := hD
  obtain ⟨mvI, mvR, tIr15, tRr15⟩ := hw
  replace mvI : InvI Wm_lo Wm_hi I17 := mvI
  replace mvR : InvR Wm_rl R19 := mvR
  have hWf : WfM I17 R19 := wm_sm hWf (tIr15 10 rfl) (tRr15 22 rfl) (tRr15 23 rfl) (tRr15 24 rfl) (tRr15 25 rfl) (tRr15 26 rfl)
  have hP := sw_P hP
  have hD := sw_D hD
  refine lv_pop2_2 hx hb dL_law_823 rfl ?_
  refine lv_goto (tgt := 1261) hx hb dL_law_824 (by decide) ?_
  exact kk g q I7 J8 R9 L10 I17 J18 R19 L20 _ _ _ rfl ⟨⟨hvI, hvR, hq0, hq3⟩, mvI, mvR, hWf⟩ hP hD hS hl
set_option maxHeartbeats 4000000 in
set_option maxRecDepth 100000 in
theorem lc_23 {p : Program} {l : Launch} {e : Env} {s : State} {m : MethodId} {below : List Frame} {meth : Method} {c : Code} {b N : Nat} {xs : Nat → Int32} {A : Nat → Prop} {cells slots : Nat} {Q : State → Prop} (G : Gx) (hN : N ≤ 3072) (F : CallFix p m c cL_law 4 s #[Value.ref b] tb RL) (hK : KX G s) (hA : HA G s A) (hbA : ¬ A b) (hX : va_X b N xs s s.heap) (hbl : b < s.heap.size) (hce : cells ≤ room_1.cells ∧ slots ≤ room_1.slots) (g q : Nat → Nat) (I : Nat → Int32) (J : Nat → Int64) (R : Nat → Nat → Int32) (L : Nat → Nat → Int64) (gm qm : Nat → Nat) (Im : Nat → Int32) (Jm : Nat → Int64) (Rm : Nat → Nat → Int32) (Lm : Nat → Nat → Int64) (hst : LI g q I R Im Rm) {H : Heap} {locs : List Loc} {ls : Array Slot} {i : Int32} (hi : 0 ≤ i.toInt ∧ i.toInt + 6 ≤ (N : Int)) (hP : va_P G.1 vwCl (Wd G g q I J R L ++ Wm G gm qm Im Jm Rm Lm) H) (hD : va_D A (Wd G g q I J R L ++ Wm G gm qm Im Jm Rm Lm)) (hS : va_S A s.heap H locs) (hl : lv_has ls 4 [(3, .int i), (2, .ref (gm 45)), (1, .ref (g 74)), (0, .ref b)]) (kk : ∀ (g1 q1 : Nat → Nat) (I1 : Nat → Int32) (J1 : Nat → Int64) (R1 : Nat → Nat → Int32) (L1 : Nat → Nat → Int64) (I2 : Nat → Int32) (J2 : Nat → Int64) (R2 : Nat → Nat → Int32) (L2 : Nat → Nat → Int64) (H : Heap) (locs : List Loc) (ls : Array Slot), g1 74 = g 74 → LI g1 q1 I1 R1 I2 R2 → va_P G.1 vwCl (Wd G g1 q1 I1 J1 R1 L1 ++ Wm G gm qm I2 J2 R2 L2) H → va_D A (Wd G g1 q1 I1 J1 R1 L1 ++ Wm G gm qm I2 J2 R2 L2) → va_S A s.heap H locs → lv_has ls 4 [(3, .int i), (2, .ref (gm 45)), (1, .ref (g 74)), (0, .ref b)] → W p l e room_1 s m #[Value.ref b] below meth c H locs cells slots Q (F0 m 1261 ls [])) : W p l e room_1 s m #[Value.ref b] below meth c H locs cells slots Q (F0 m 827 ls []) := by
  have hx := F.1
  have hb := F.2.1
  have hown := F.2.2.2.1
  obtain ⟨⟨hvI, hvR, hq0, hq3⟩, mvI, mvR, hWf⟩ := hst
  refine lv_aload_n hx hb dL_law_827 rfl (lv_at hl 2 rfl) ?_
  refine lv_aload_n hx hb dL_law_828 rfl (lv_at hl 3 rfl) ?_
  refine lv_iload_n hx hb dL_law_829 rfl (lv_at hl 0 rfl) ?_
  refine lv_iconst (v := 1) hx hb dL_law_830 (by decide) ?_
  refine lv_iadd hx hb dL_law_831 ?_
  refine lv_topi (fun x1 ex1 => ?_)
  have fx1 : x1.toInt = i.toInt + (1 : Int) := by rw [ex1]; exact t_add (by show (-2147483648 : Int) ≤ i.toInt + (1 : Int); omega) (by show i.toInt + (1 : Int) ≤ 2147483647; omega)
  refine va_sld hx hb hX hbl hbA hS (in_of (by omega)) dL_law_832 ?_
  refine lv_topi (fun v2 ev2 => ?_)
  refine lv_aload_n hx hb dL_law_833 rfl (lv_at hl 3 rfl) ?_
  refine lv_iload_n hx hb dL_law_834 rfl (lv_at hl 0 rfl) ?_
  refine lv_iconst (v := 2) hx hb dL_law_835 (by decide) ?_
  refine lv_iadd hx hb dL_law_836 ?_
  refine lv_topi (fun x3 ex3 => ?_)
  have fx3 : x3.toInt = i.toInt + (2 : Int) := by rw [ex3]; exact t_add (by show (-2147483648 : Int) ≤ i.toInt + (2 : Int); omega) (by show i.toInt + (2 : Int) ≤ 2147483647; omega)
  refine va_sld hx hb hX hbl hbA hS (in_of (by omega)) dL_law_837 ?_
  refine lv_topi (fun v4 ev4 => ?_)
  refine xvi (X := (Wd G g q I J R L)) (Y := (Wm G gm qm Im Jm Rm Lm)) (As := [.int v2, .int v4]) (rest := []) (b := (g 74)) (d := 7) F hK hP hD hS hA (s_X11_enough l G g q I J R L hvI hvR hq3 v2 v4 ) kmV_X11_enough mlL_115 clX11 rfl 66 (Wd_at66 G g q I J R L) ⟨(Nat.le_of_ble_eq_true rfl), (Nat.le_of_ble_eq_true rfl)⟩ hl.1 rfl (Nat.le_of_ble_eq_true rfl) dL_law_838 hce (fun r5 u6 H locs hw hP hD hS => ?_)
  obtain ⟨I7, J8, R9, L10⟩ := u6
  replace hP : va_P G.1 vwCl ((Wd G g q I7 J8 R9 L10) ++ (Wm G gm qm Im Jm Rm Lm)) H := hP
  replace hD : va_D A ((Wd G g q I7 J8 R9 L10) ++ (Wm G gm qm Im Jm Rm Lm)) := hD
  obtain ⟨hvI, hvR, tIr5, tRr5, f0_r5⟩ := hw
  replace f0_r5 : ((-1 : Int) ≤ r5.toInt ∧ r5.toInt ≤ (30 : Int)) := f0_r5
  replace hvI : InvI Wd_lo Wd_hi I7 := hvI
  replace hvR : InvR Wd_rl R9 := hvR
  refine lv_pop hx hb dL_law_841 rfl ?_
  refine lv_aload_n hx hb dL_law_842 rfl (lv_at hl 1 rfl) ?_
  refine lv_aload_n hx hb dL_law_843 rfl (lv_at hl 3 rfl) ?_
  refine lv_iload_n hx hb dL_law_844 rfl (lv_at hl 0 rfl) ?_
  refine lv_iconst (v := 1) hx hb dL_law_845 (by decide) ?_
  refine lv_iadd hx hb dL_law_846 ?_
  refine lv_topi (fun x11 ex11 => ?_)
  have fx11 : x11.toInt = i.toInt + (1 : Int) := by rw [ex11]; exact t_add (by show (-2147483648 : Int) ≤ i.toInt + (1 : Int); omega) (by show i.toInt + (1 : Int) ≤ 2147483647; omega)
  refine va_sld hx hb hX hbl hbA hS (in_of (by omega)) dL_law_847 ?_
  refine lv_topi (fun v12 ev12 => ?_)
  refine lv_aload_n hx hb dL_law_848 rfl (lv_at hl 3 rfl) ?_
  refine lv_iload_n hx hb dL_law_849 rfl (lv_at hl 0 rfl) ?_
  refine lv_iconst (v := 2) hx hb dL_law_850 (by decide) ?_
  refine lv_iadd hx hb dL_law_851 ?_
  refine lv_topi (fun x13 ex13 => ?_)
  have fx13 : x13.toInt = i.toInt + (2 : Int) := by rw [ex13]; exact t_add (by show (-2147483648 : Int) ≤ i.toInt + (2 : Int); omega) (by show i.toInt + (2 : Int) ≤ 2147483647; omega)
  refine va_sld hx hb hX hbl hbA hS (in_of (by omega)) dL_law_852 ?_
  refine lv_topi (fun v14 ev14 => ?_)
  have hP := sw_P hP
  have hD := sw_D hD
  refine xvi (X := (Wm G gm qm Im Jm Rm Lm)) (Y := (Wd G g q I7 J8 R9 L10)) (As := [.int v12, .int v14]) (rest := []) (b := (gm 45)) (d := 3) F hK hP hD hS hA (s_X12_enough l G gm qm Im Jm Rm Lm mvI mvR v12 v14 ) kmV_X12_enough mlL_118 clX12 rfl 0 (Wm_at0 G gm qm Im Jm Rm Lm) ⟨(Nat.le_of_ble_eq_true rfl), (Nat.le_of_ble_eq_true rfl)⟩ hl.1 rfl (Nat.le_of_ble_eq_true rfl) dL_law_853 hce (fun r15 u16 H locs hw hP hD hS => ?_)
  obtain ⟨I17, J18, R19, L20⟩ := u16
  replace hP : va_P G.1 vwCl ((Wm G gm qm I17 J18 R19 L20) ++ (Wd G g q I7 J8 R9 L10)) H := hP
  replace hD : va_D A ((Wm G gm qm I17 J18 R19 L20) ++ (Wd G g q I7 J8 R9 L10)) := hD
  obtain ⟨mvI, mvR, tIr15, tRr15, f0_r15⟩ := hw
  replace f0_r15 : ((-1 : Int) ≤ r15.toInt ∧ r15.toInt ≤ (30 : Int)) := f0_r15
  replace mvI : InvI Wm_lo Wm_hi I17 := mvI
  replace mvR : InvR Wm_rl R19 := mvR
  have hWf : WfM I17 R19 := wm_sm hWf (tIr15 10 rfl) (tRr15 22 rfl) (tRr15 23 rfl) (tRr15 24 rfl) (tRr15 25 rfl) (tRr15 26 rfl)
  have hP := sw_P hP
  have hD := sw_D hD
  refine lv_pop hx hb dL_law_856 rfl ?_
  refine lv_goto (tgt := 1261) hx hb dL_law_857 (by decide) ?_
  exact kk g q I7 J8 R9 L10 I17 J18 R19 L20 _ _ _ rfl ⟨⟨hvI, hvR, hq0, hq3⟩, mvI, mvR, hWf⟩ hP hD hS hl
set_option maxHeartbeats 4000000 in
set_option maxRecDepth 100000 in
theorem lc_24 {p : Program} {l : Launch} {e : Env} {s : State} {m : MethodId} {below : List Frame} {meth : Method} {c : Code} {b N : Nat} {xs : Nat → Int32} {A : Nat → Prop} {cells slots : Nat} {Q : State → Prop} (G : Gx) (hN : N ≤ 3072) (F : CallFix p m c cL_law 4 s #[Value.ref b] tb RL) (hK : KX G s) (hA : HA G s A) (hbA : ¬ A b) (hX : va_X b N xs s s.heap) (hbl : b < s.heap.size) (hce : cells ≤ room_1.cells ∧ slots ≤ room_1.slots) (g q : Nat → Nat) (I : Nat → Int32) (J : Nat → Int64) (R : Nat → Nat → Int32) (L : Nat → Nat → Int64) (gm qm : Nat → Nat) (Im : Nat → Int32) (Jm : Nat → Int64) (Rm : Nat → Nat → Int32) (Lm : Nat → Nat → Int64) (hst : LI g q I R Im Rm) {H : Heap} {locs : List Loc} {ls : Array Slot} {i : Int32} (hi : 0 ≤ i.toInt ∧ i.toInt + 6 ≤ (N : Int)) (hP : va_P G.1 vwCl (Wd G g q I J R L ++ Wm G gm qm Im Jm Rm Lm) H) (hD : va_D A (Wd G g q I J R L ++ Wm G gm qm Im Jm Rm Lm)) (hS : va_S A s.heap H locs) (hl : lv_has ls 4 [(3, .int i), (2, .ref (gm 45)), (1, .ref (g 74)), (0, .ref b)]) (kk : ∀ (g1 q1 : Nat → Nat) (I1 : Nat → Int32) (J1 : Nat → Int64) (R1 : Nat → Nat → Int32) (L1 : Nat → Nat → Int64) (I2 : Nat → Int32) (J2 : Nat → Int64) (R2 : Nat → Nat → Int32) (L2 : Nat → Nat → Int64) (H : Heap) (locs : List Loc) (ls : Array Slot), g1 74 = g 74 → LI g1 q1 I1 R1 I2 R2 → va_P G.1 vwCl (Wd G g1 q1 I1 J1 R1 L1 ++ Wm G gm qm I2 J2 R2 L2) H → va_D A (Wd G g1 q1 I1 J1 R1 L1 ++ Wm G gm qm I2 J2 R2 L2) → va_S A s.heap H locs → lv_has ls 4 [(3, .int i), (2, .ref (gm 45)), (1, .ref (g 74)), (0, .ref b)] → W p l e room_1 s m #[Value.ref b] below meth c H locs cells slots Q (F0 m 1261 ls [])) : W p l e room_1 s m #[Value.ref b] below meth c H locs cells slots Q (F0 m 860 ls []) := by
  have hx := F.1
  have hb := F.2.1
  have hown := F.2.2.2.1
  obtain ⟨⟨hvI, hvR, hq0, hq3⟩, mvI, mvR, hWf⟩ := hst
  refine lv_aload_n hx hb dL_law_860 rfl (lv_at hl 2 rfl) ?_
  refine lv_aload_n hx hb dL_law_861 rfl (lv_at hl 3 rfl) ?_
  refine lv_iload_n hx hb dL_law_862 rfl (lv_at hl 0 rfl) ?_
  refine lv_iconst (v := 1) hx hb dL_law_863 (by decide) ?_
  refine lv_iadd hx hb dL_law_864 ?_
  refine lv_topi (fun x1 ex1 => ?_)
  have fx1 : x1.toInt = i.toInt + (1 : Int) := by rw [ex1]; exact t_add (by show (-2147483648 : Int) ≤ i.toInt + (1 : Int); omega) (by show i.toInt + (1 : Int) ≤ 2147483647; omega)
  refine va_sld hx hb hX hbl hbA hS (in_of (by omega)) dL_law_865 ?_
  refine lv_topi (fun v2 ev2 => ?_)
  refine lv_aload_n hx hb dL_law_866 rfl (lv_at hl 3 rfl) ?_
  refine lv_iload_n hx hb dL_law_867 rfl (lv_at hl 0 rfl) ?_
  refine lv_iconst (v := 2) hx hb dL_law_868 (by decide) ?_
  refine lv_iadd hx hb dL_law_869 ?_
  refine lv_topi (fun x3 ex3 => ?_)
  have fx3 : x3.toInt = i.toInt + (2 : Int) := by rw [ex3]; exact t_add (by show (-2147483648 : Int) ≤ i.toInt + (2 : Int); omega) (by show i.toInt + (2 : Int) ≤ 2147483647; omega)
  refine va_sld hx hb hX hbl hbA hS (in_of (by omega)) dL_law_870 ?_
  refine lv_topi (fun v4 ev4 => ?_)
  refine lv_aload_n hx hb dL_law_871 rfl (lv_at hl 3 rfl) ?_
  refine lv_iload_n hx hb dL_law_872 rfl (lv_at hl 0 rfl) ?_
  refine lv_iconst (v := 3) hx hb dL_law_873 (by decide) ?_
  refine lv_iadd hx hb dL_law_874 ?_
  refine lv_topi (fun x5 ex5 => ?_)
  have fx5 : x5.toInt = i.toInt + (3 : Int) := by rw [ex5]; exact t_add (by show (-2147483648 : Int) ≤ i.toInt + (3 : Int); omega) (by show i.toInt + (3 : Int) ≤ 2147483647; omega)
  refine va_sld hx hb hX hbl hbA hS (in_of (by omega)) dL_law_875 ?_
  refine lv_topi (fun v6 ev6 => ?_)
  refine cvi (ws := (Wd G g q I J R L ++ Wm G gm qm Im Jm Rm Lm)) (wr := WrD G g q I J R L gm qm Im Jm Rm Lm) (w0 := WcD G g q I J R L gm qm Im Jm Rm Lm) (As := [.int v2, .int v4, .int v6]) (rest := []) (b := (g 74)) (k1 := cells) (s1 := slots) (rm := rmD 8 0 0) F hK hP hD hS hA (k26_over l G ((g 74)) v2 v4 v6 ((g 66)) ((I 18)) ((q 0)) ((g 67)) ((g 68)) ((g 69)) ((g 70)) ((g 71)) ((I 19)) ((I 20)) ((J 0)) ((g 72)) ((I 21)) ((g 73)) ((g 85)) ((I 35)) ((L 0)) (rg (hvI 35 (by decide)) 0 40 rfl rfl)) kmV_X11_over mlL_119 clX11 rfl 0 rfl ⟨(Nat.le_of_ble_eq_true rfl), (Nat.le_of_ble_eq_true rfl)⟩ [66, 73, 85] (0 :: 1 :: 2 :: 3 :: 4 :: 5 :: 6 :: 7 :: 8 :: 9 :: 10 :: 11 :: 12 :: 13 :: 14 :: 15 :: 16 :: 17 :: 18 :: 19 :: 20 :: 21 :: 22 :: 23 :: 24 :: 25 :: 26 :: 27 :: 28 :: 29 :: 30 :: 31 :: 32 :: 33 :: 34 :: 35 :: 36 :: 37 :: 38 :: 39 :: 40 :: 41 :: 42 :: 43 :: 44 :: 45 :: 46 :: 47 :: 48 :: 49 :: 50 :: 51 :: 52 :: 53 :: 54 :: 55 :: 56 :: 57 :: 58 :: 59 :: 60 :: 61 :: 62 :: 63 :: 64 :: 65 :: 67 :: 68 :: 69 :: 70 :: 71 :: 72 :: 74 :: 75 :: 76 :: 77 :: 78 :: 79 :: 80 :: 81 :: 82 :: 83 :: 84 :: 86 :: 87 :: 88 :: 89 :: 90 :: 91 :: 92 :: 93 :: 94 :: 95 :: 96 :: 97 :: 98 :: 99 :: 100 :: 101 :: 102 :: 103 :: 104 :: 105 :: 106 :: 107 :: 108 :: 109 :: 110 :: 111 :: 112 :: 113 :: 114 :: 115 :: 116 :: 117 :: 118 :: 119 :: 120 :: 121 :: 122 :: 123 :: 124 :: 125 :: 126 :: 127 :: 128 :: 129 :: 130 :: 131 :: []) rfl (wrD_C G g q I J R L gm qm Im Jm Rm Lm) (wrD_R G g q I J R L gm qm Im Jm Rm Lm) rfl (by decide) hl.1 rfl (Nat.le_of_ble_eq_true rfl) dL_law_876 hce rfl rfl (fun r7 u8 H locs hw hP hD hS => ?_)
  obtain ⟨c9, h10⟩ := u8
  obtain ⟨fe_r7, fc_r7⟩ := hw
  replace fe_r7 : r7 = fOver v2 v4 v6 := fe_r7
  replace hP : va_P G.1 vwCl (Wd G g q (va_up I 35 c9) J R (va_up L 0 h10) ++ Wm G gm qm Im Jm Rm Lm) H := wrD_P G g q I J R L gm qm Im Jm Rm Lm c9 h10 hP
  replace hD : va_D A (Wd G g q (va_up I 35 c9) J R (va_up L 0 h10) ++ Wm G gm qm Im Jm Rm Lm) := wrD_D G g q I J R L gm qm Im Jm Rm Lm c9 h10 hD
  have hvI : InvI Wd_lo Wd_hi (va_up I 35 c9) := inv_upI hvI 35 rfl fc_r7
  generalize (va_up I 35 c9) = I11 at hP hD hvI
  generalize (va_up L 0 h10) = L12 at hP hD
  refine lv_aload_n hx hb dL_law_879 rfl (lv_at hl 1 rfl) ?_
  refine lv_aload_n hx hb dL_law_880 rfl (lv_at hl 3 rfl) ?_
  refine lv_iload_n hx hb dL_law_881 rfl (lv_at hl 0 rfl) ?_
  refine lv_iconst (v := 1) hx hb dL_law_882 (by decide) ?_
  refine lv_iadd hx hb dL_law_883 ?_
  refine lv_topi (fun x13 ex13 => ?_)
  have fx13 : x13.toInt = i.toInt + (1 : Int) := by rw [ex13]; exact t_add (by show (-2147483648 : Int) ≤ i.toInt + (1 : Int); omega) (by show i.toInt + (1 : Int) ≤ 2147483647; omega)
  refine va_sld hx hb hX hbl hbA hS (in_of (by omega)) dL_law_884 ?_
  refine lv_topi (fun v14 ev14 => ?_)
  refine lv_aload_n hx hb dL_law_885 rfl (lv_at hl 3 rfl) ?_
  refine lv_iload_n hx hb dL_law_886 rfl (lv_at hl 0 rfl) ?_
  refine lv_iconst (v := 2) hx hb dL_law_887 (by decide) ?_
  refine lv_iadd hx hb dL_law_888 ?_
  refine lv_topi (fun x15 ex15 => ?_)
  have fx15 : x15.toInt = i.toInt + (2 : Int) := by rw [ex15]; exact t_add (by show (-2147483648 : Int) ≤ i.toInt + (2 : Int); omega) (by show i.toInt + (2 : Int) ≤ 2147483647; omega)
  refine va_sld hx hb hX hbl hbA hS (in_of (by omega)) dL_law_889 ?_
  refine lv_topi (fun v16 ev16 => ?_)
  refine lv_aload_n hx hb dL_law_890 rfl (lv_at hl 3 rfl) ?_
  refine lv_iload_n hx hb dL_law_891 rfl (lv_at hl 0 rfl) ?_
  refine lv_iconst (v := 3) hx hb dL_law_892 (by decide) ?_
  refine lv_iadd hx hb dL_law_893 ?_
  refine lv_topi (fun x17 ex17 => ?_)
  have fx17 : x17.toInt = i.toInt + (3 : Int) := by rw [ex17]; exact t_add (by show (-2147483648 : Int) ≤ i.toInt + (3 : Int); omega) (by show i.toInt + (3 : Int) ≤ 2147483647; omega)
  refine va_sld hx hb hX hbl hbA hS (in_of (by omega)) dL_law_894 ?_
  refine lv_topi (fun v18 ev18 => ?_)
  refine cvi (ws := (Wd G g q I11 J R L12 ++ Wm G gm qm Im Jm Rm Lm)) (wr := WrM G g q I11 J R L12 gm qm Im Jm Rm Lm) (w0 := WcM G g q I11 J R L12 gm qm Im Jm Rm Lm) (As := [.int v14, .int v16, .int v18]) (rest := [.int r7]) (b := (gm 45)) (k1 := cells) (s1 := slots) (rm := rmD 7 0 0) F hK hP hD hS hA (k26_overm l G ((gm 45)) v14 v16 v18 ((fun k => gm ((0 :: 0 :: 0 :: 0 :: 0 :: 0 :: 0 :: 0 :: 0 :: 0 :: 0 :: 0 :: 0 :: 1 :: 2 :: 3 :: 4 :: 5 :: 6 :: 7 :: 8 :: 9 :: 10 :: 11 :: 12 :: 13 :: 14 :: 15 :: 16 :: 17 :: 18 :: 19 :: 20 :: 21 :: 22 :: 23 :: 24 :: 25 :: 26 :: 27 :: 28 :: 29 :: 30 :: 0 :: 0 :: 31 :: 32 :: 33 :: 34 :: 35 :: 0 :: 0 :: 36 :: 0 :: 0 :: 37 :: 38 :: 39 :: 40 :: 0 :: 0 :: 0 :: 0 :: 41 :: 0 :: 42 :: 0 :: 43 :: 44 :: 0 :: [] : List Nat).getD k 0))) ((Im 0)) ((Im 1)) ((Im 2)) ((Im 3)) ((Im 4)) ((Im 5)) ((Jm 0)) ((Im 6)) ((Im 7)) ((Im 8)) ((Im 9)) ((Im 10)) ((Im 11)) ((Im 12)) ((Im 13)) ((Im 14)) ((Im 15)) ((Im 16)) ((Im 17)) ((Im 18)) ((Im 19)) ((Im 20)) ((Im 21)) ((Jm 1)) ((Im 22)) ((Lm 4))) kmV_X12_over_ mlL_122 clX12 rfl 0 rfl ⟨(Nat.le_of_ble_eq_true rfl), (Nat.le_of_ble_eq_true rfl)⟩ [86, 129] (0 :: 1 :: 2 :: 3 :: 4 :: 5 :: 6 :: 7 :: 8 :: 9 :: 10 :: 11 :: 12 :: 13 :: 14 :: 15 :: 16 :: 17 :: 18 :: 19 :: 20 :: 21 :: 22 :: 23 :: 24 :: 25 :: 26 :: 27 :: 28 :: 29 :: 30 :: 31 :: 32 :: 33 :: 34 :: 35 :: 36 :: 37 :: 38 :: 39 :: 40 :: 41 :: 42 :: 43 :: 44 :: 45 :: 46 :: 47 :: 48 :: 49 :: 50 :: 51 :: 52 :: 53 :: 54 :: 55 :: 56 :: 57 :: 58 :: 59 :: 60 :: 61 :: 62 :: 63 :: 64 :: 65 :: 66 :: 67 :: 68 :: 69 :: 70 :: 71 :: 72 :: 73 :: 74 :: 75 :: 76 :: 77 :: 78 :: 79 :: 80 :: 81 :: 82 :: 83 :: 84 :: 85 :: 87 :: 88 :: 89 :: 90 :: 91 :: 92 :: 93 :: 94 :: 95 :: 96 :: 97 :: 98 :: 99 :: 100 :: 101 :: 102 :: 103 :: 104 :: 105 :: 106 :: 107 :: 108 :: 109 :: 110 :: 111 :: 112 :: 113 :: 114 :: 115 :: 116 :: 117 :: 118 :: 119 :: 120 :: 121 :: 122 :: 123 :: 124 :: 125 :: 126 :: 127 :: 128 :: 130 :: 131 :: []) rfl (wrM_C G g q I11 J R L12 gm qm Im Jm Rm Lm) (wrM_R G g q I11 J R L12 gm qm Im Jm Rm Lm) rfl (by decide) hl.1 rfl (Nat.le_of_ble_eq_true rfl) dL_law_895 hce rfl rfl (fun r19 u20 H locs hw hP hD hS => ?_)
  have fe_r19 := hw
  replace fe_r19 : r19 = fOver v14 v16 v18 := fe_r19
  replace hP : va_P G.1 vwCl (Wd G g q I11 J R L12 ++ Wm G gm qm Im Jm Rm (va_up Lm 4 u20)) H := wrM_P G g q I11 J R L12 gm qm Im Jm Rm Lm u20 hP
  replace hD : va_D A (Wd G g q I11 J R L12 ++ Wm G gm qm Im Jm Rm (va_up Lm 4 u20)) := wrM_D G g q I11 J R L12 gm qm Im Jm Rm Lm u20 hD
  generalize (va_up Lm 4 u20) = L21 at hP hD
  have qv14 : v14 = v2 := by rw [ev14, ev2, ex13, ex1]
  have wv14 := congrArg Int32.toInt qv14
  have qv16 : v16 = v4 := by rw [ev16, ev4, ex15, ex3]
  have wv16 := congrArg Int32.toInt qv16
  have qv18 : v18 = v6 := by rw [ev18, ev6, ex17, ex5]
  have wv18 := congrArg Int32.toInt qv18
  refine lv_icmp_eq (tgt := 1261) hx hb dL_law_898 (by decide) (fun _ => ?_) (fun c22 => absurd (show r7 = r19 from by rw [fe_r7, fe_r19, qv14, qv16, qv18]) c22)
  exact kk g q I11 J R L12 Im Jm Rm L21 _ _ _ rfl ⟨⟨hvI, hvR, hq0, hq3⟩, mvI, mvR, hWf⟩ hP hD hS hl
set_option maxHeartbeats 4000000 in
set_option maxRecDepth 100000 in
theorem lc_25 {p : Program} {l : Launch} {e : Env} {s : State} {m : MethodId} {below : List Frame} {meth : Method} {c : Code} {b N : Nat} {xs : Nat → Int32} {A : Nat → Prop} {cells slots : Nat} {Q : State → Prop} (G : Gx) (hN : N ≤ 3072) (F : CallFix p m c cL_law 4 s #[Value.ref b] tb RL) (hK : KX G s) (hA : HA G s A) (hbA : ¬ A b) (hX : va_X b N xs s s.heap) (hbl : b < s.heap.size) (hce : cells ≤ room_1.cells ∧ slots ≤ room_1.slots) (g q : Nat → Nat) (I : Nat → Int32) (J : Nat → Int64) (R : Nat → Nat → Int32) (L : Nat → Nat → Int64) (gm qm : Nat → Nat) (Im : Nat → Int32) (Jm : Nat → Int64) (Rm : Nat → Nat → Int32) (Lm : Nat → Nat → Int64) (hst : LI g q I R Im Rm) {H : Heap} {locs : List Loc} {ls : Array Slot} {i : Int32} (hi : 0 ≤ i.toInt ∧ i.toInt + 6 ≤ (N : Int)) (hP : va_P G.1 vwCl (Wd G g q I J R L ++ Wm G gm qm Im Jm Rm Lm) H) (hD : va_D A (Wd G g q I J R L ++ Wm G gm qm Im Jm Rm Lm)) (hS : va_S A s.heap H locs) (hl : lv_has ls 4 [(3, .int i), (2, .ref (gm 45)), (1, .ref (g 74)), (0, .ref b)]) (kk : ∀ (g1 q1 : Nat → Nat) (I1 : Nat → Int32) (J1 : Nat → Int64) (R1 : Nat → Nat → Int32) (L1 : Nat → Nat → Int64) (I2 : Nat → Int32) (J2 : Nat → Int64) (R2 : Nat → Nat → Int32) (L2 : Nat → Nat → Int64) (H : Heap) (locs : List Loc) (ls : Array Slot), g1 74 = g 74 → LI g1 q1 I1 R1 I2 R2 → va_P G.1 vwCl (Wd G g1 q1 I1 J1 R1 L1 ++ Wm G gm qm I2 J2 R2 L2) H → va_D A (Wd G g1 q1 I1 J1 R1 L1 ++ Wm G gm qm I2 J2 R2 L2) → va_S A s.heap H locs → lv_has ls 4 [(3, .int i), (2, .ref (gm 45)), (1, .ref (g 74)), (0, .ref b)] → W p l e room_1 s m #[Value.ref b] below meth c H locs cells slots Q (F0 m 1261 ls [])) : W p l e room_1 s m #[Value.ref b] below meth c H locs cells slots Q (F0 m 903 ls []) := by
  have hx := F.1
  have hb := F.2.1
  have hown := F.2.2.2.1
  obtain ⟨⟨hvI, hvR, hq0, hq3⟩, mvI, mvR, hWf⟩ := hst
  refine lv_aload_n hx hb dL_law_903 rfl (lv_at hl 2 rfl) ?_
  refine lv_aload_n hx hb dL_law_904 rfl (lv_at hl 3 rfl) ?_
  refine lv_iload_n hx hb dL_law_905 rfl (lv_at hl 0 rfl) ?_
  refine lv_iconst (v := 1) hx hb dL_law_906 (by decide) ?_
  refine lv_iadd hx hb dL_law_907 ?_
  refine lv_topi (fun x1 ex1 => ?_)
  have fx1 : x1.toInt = i.toInt + (1 : Int) := by rw [ex1]; exact t_add (by show (-2147483648 : Int) ≤ i.toInt + (1 : Int); omega) (by show i.toInt + (1 : Int) ≤ 2147483647; omega)
  refine va_sld hx hb hX hbl hbA hS (in_of (by omega)) dL_law_908 ?_
  refine lv_topi (fun v2 ev2 => ?_)
  refine xvl (X := (Wd G g q I J R L)) (Y := (Wm G gm qm Im Jm Rm Lm)) (As := [.int v2]) (rest := []) (b := (g 74)) (d := 7) F hK hP hD hS hA (s_X11_stairs l G g q I J R L hvI hvR hq3 v2 ) kmV_X11_stairs mlL_123 clX11 rfl 66 (Wd_at66 G g q I J R L) ⟨(Nat.le_of_ble_eq_true rfl), (Nat.le_of_ble_eq_true rfl)⟩ hl.1 rfl (Nat.le_of_ble_eq_true rfl) dL_law_909 hce (fun r3 u4 H locs hw hP hD hS => ?_)
  obtain ⟨I5, J6, R7, L8⟩ := u4
  replace hP : va_P G.1 vwCl ((Wd G g q I5 J6 R7 L8) ++ (Wm G gm qm Im Jm Rm Lm)) H := hP
  replace hD : va_D A ((Wd G g q I5 J6 R7 L8) ++ (Wm G gm qm Im Jm Rm Lm)) := hD
  obtain ⟨hvI, hvR, tIr3, tRr3⟩ := hw
  replace hvI : InvI Wd_lo Wd_hi I5 := hvI
  replace hvR : InvR Wd_rl R7 := hvR
  refine lv_pop2_2 hx hb dL_law_912 rfl ?_
  refine lv_aload_n hx hb dL_law_913 rfl (lv_at hl 1 rfl) ?_
  refine lv_aload_n hx hb dL_law_914 rfl (lv_at hl 3 rfl) ?_
  refine lv_iload_n hx hb dL_law_915 rfl (lv_at hl 0 rfl) ?_
  refine lv_iconst (v := 1) hx hb dL_law_916 (by decide) ?_
  refine lv_iadd hx hb dL_law_917 ?_
  refine lv_topi (fun x9 ex9 => ?_)
  have fx9 : x9.toInt = i.toInt + (1 : Int) := by rw [ex9]; exact t_add (by show (-2147483648 : Int) ≤ i.toInt + (1 : Int); omega) (by show i.toInt + (1 : Int) ≤ 2147483647; omega)
  refine va_sld hx hb hX hbl hbA hS (in_of (by omega)) dL_law_918 ?_
  refine lv_topi (fun v10 ev10 => ?_)
  have hP := sw_P hP
  have hD := sw_D hD
  refine xvl (X := (Wm G gm qm Im Jm Rm Lm)) (Y := (Wd G g q I5 J6 R7 L8)) (As := [.int v10]) (rest := []) (b := (gm 45)) (d := 3) F hK hP hD hS hA (s_X12_stairs l G gm qm Im Jm Rm Lm mvI mvR v10 ) kmV_X12_stairs mlL_127 clX12 rfl 0 (Wm_at0 G gm qm Im Jm Rm Lm) ⟨(Nat.le_of_ble_eq_true rfl), (Nat.le_of_ble_eq_true rfl)⟩ hl.1 rfl (Nat.le_of_ble_eq_true rfl) dL_law_919 hce (fun r11 u12 H locs hw hP hD hS => ?_)
  obtain ⟨I13, J14, R15, L16⟩ := u12
  replace hP : va_P G.1 vwCl ((Wm G gm qm I13 J14 R15 L16) ++ (Wd G g q I5 J6 R7 L8)) H := hP
  replace hD : va_D A ((Wm G gm qm I13 J14 R15 L16) ++ (Wd G g q I5 J6 R7 L8)) := hD
  obtain ⟨mvI, mvR, tIr11, tRr11⟩ := hw
  replace mvI : InvI Wm_lo Wm_hi I13 := mvI
  replace mvR : InvR Wm_rl R15 := mvR
  have hWf : WfM I13 R15 := wm_sm hWf (tIr11 10 rfl) (tRr11 22 rfl) (tRr11 23 rfl) (tRr11 24 rfl) (tRr11 25 rfl) (tRr11 26 rfl)
  have hP := sw_P hP
  have hD := sw_D hD
  refine lv_pop2_2 hx hb dL_law_922 rfl ?_
  refine lv_goto (tgt := 1261) hx hb dL_law_923 (by decide) ?_
  exact kk g q I5 J6 R7 L8 I13 J14 R15 L16 _ _ _ rfl ⟨⟨hvI, hvR, hq0, hq3⟩, mvI, mvR, hWf⟩ hP hD hS hl
set_option maxHeartbeats 4000000 in
set_option maxRecDepth 100000 in
theorem lc_26 {p : Program} {l : Launch} {e : Env} {s : State} {m : MethodId} {below : List Frame} {meth : Method} {c : Code} {b N : Nat} {xs : Nat → Int32} {A : Nat → Prop} {cells slots : Nat} {Q : State → Prop} (G : Gx) (hN : N ≤ 3072) (F : CallFix p m c cL_law 4 s #[Value.ref b] tb RL) (hK : KX G s) (hA : HA G s A) (hbA : ¬ A b) (hX : va_X b N xs s s.heap) (hbl : b < s.heap.size) (hce : cells ≤ room_1.cells ∧ slots ≤ room_1.slots) (g q : Nat → Nat) (I : Nat → Int32) (J : Nat → Int64) (R : Nat → Nat → Int32) (L : Nat → Nat → Int64) (gm qm : Nat → Nat) (Im : Nat → Int32) (Jm : Nat → Int64) (Rm : Nat → Nat → Int32) (Lm : Nat → Nat → Int64) (hst : LI g q I R Im Rm) {H : Heap} {locs : List Loc} {ls : Array Slot} {i : Int32} (hi : 0 ≤ i.toInt ∧ i.toInt + 6 ≤ (N : Int)) (hP : va_P G.1 vwCl (Wd G g q I J R L ++ Wm G gm qm Im Jm Rm Lm) H) (hD : va_D A (Wd G g q I J R L ++ Wm G gm qm Im Jm Rm Lm)) (hS : va_S A s.heap H locs) (hl : lv_has ls 4 [(3, .int i), (2, .ref (gm 45)), (1, .ref (g 74)), (0, .ref b)]) (kk : ∀ (g1 q1 : Nat → Nat) (I1 : Nat → Int32) (J1 : Nat → Int64) (R1 : Nat → Nat → Int32) (L1 : Nat → Nat → Int64) (I2 : Nat → Int32) (J2 : Nat → Int64) (R2 : Nat → Nat → Int32) (L2 : Nat → Nat → Int64) (H : Heap) (locs : List Loc) (ls : Array Slot), g1 74 = g 74 → LI g1 q1 I1 R1 I2 R2 → va_P G.1 vwCl (Wd G g1 q1 I1 J1 R1 L1 ++ Wm G gm qm I2 J2 R2 L2) H → va_D A (Wd G g1 q1 I1 J1 R1 L1 ++ Wm G gm qm I2 J2 R2 L2) → va_S A s.heap H locs → lv_has ls 4 [(3, .int i), (2, .ref (gm 45)), (1, .ref (g 74)), (0, .ref b)] → W p l e room_1 s m #[Value.ref b] below meth c H locs cells slots Q (F0 m 1261 ls [])) : W p l e room_1 s m #[Value.ref b] below meth c H locs cells slots Q (F0 m 926 ls []) := by
  have hx := F.1
  have hb := F.2.1
  have hown := F.2.2.2.1
  obtain ⟨⟨hvI, hvR, hq0, hq3⟩, mvI, mvR, hWf⟩ := hst
  refine lv_aload_n hx hb dL_law_926 rfl (lv_at hl 2 rfl) ?_
  refine lv_aload_n hx hb dL_law_927 rfl (lv_at hl 3 rfl) ?_
  refine lv_iload_n hx hb dL_law_928 rfl (lv_at hl 0 rfl) ?_
  refine lv_iconst (v := 1) hx hb dL_law_929 (by decide) ?_
  refine lv_iadd hx hb dL_law_930 ?_
  refine lv_topi (fun x1 ex1 => ?_)
  have fx1 : x1.toInt = i.toInt + (1 : Int) := by rw [ex1]; exact t_add (by show (-2147483648 : Int) ≤ i.toInt + (1 : Int); omega) (by show i.toInt + (1 : Int) ≤ 2147483647; omega)
  refine va_sld hx hb hX hbl hbA hS (in_of (by omega)) dL_law_931 ?_
  refine lv_topi (fun v2 ev2 => ?_)
  refine xvi (X := (Wd G g q I J R L)) (Y := (Wm G gm qm Im Jm Rm Lm)) (As := [.int v2]) (rest := []) (b := (g 74)) (d := 3) F hK hP hD hS hA (s_X11_draw l G g q I J R L hvI hvR hq3 v2 ) kmV_X11_draw mlL_128 clX11 rfl 66 (Wd_at66 G g q I J R L) ⟨(Nat.le_of_ble_eq_true rfl), (Nat.le_of_ble_eq_true rfl)⟩ hl.1 rfl (Nat.le_of_ble_eq_true rfl) dL_law_932 hce (fun r3 u4 H locs hw hP hD hS => ?_)
  obtain ⟨I5, J6, R7, L8⟩ := u4
  replace hP : va_P G.1 vwCl ((Wd G g q I5 J6 R7 L8) ++ (Wm G gm qm Im Jm Rm Lm)) H := hP
  replace hD : va_D A ((Wd G g q I5 J6 R7 L8) ++ (Wm G gm qm Im Jm Rm Lm)) := hD
  obtain ⟨hvI, hvR, tIr3, tRr3⟩ := hw
  replace hvI : InvI Wd_lo Wd_hi I5 := hvI
  replace hvR : InvR Wd_rl R7 := hvR
  refine lv_pop hx hb dL_law_935 rfl ?_
  refine lv_aload_n hx hb dL_law_936 rfl (lv_at hl 1 rfl) ?_
  refine lv_aload_n hx hb dL_law_937 rfl (lv_at hl 3 rfl) ?_
  refine lv_iload_n hx hb dL_law_938 rfl (lv_at hl 0 rfl) ?_
  refine lv_iconst (v := 1) hx hb dL_law_939 (by decide) ?_
  refine lv_iadd hx hb dL_law_940 ?_
  refine lv_topi (fun x9 ex9 => ?_)
  have fx9 : x9.toInt = i.toInt + (1 : Int) := by rw [ex9]; exact t_add (by show (-2147483648 : Int) ≤ i.toInt + (1 : Int); omega) (by show i.toInt + (1 : Int) ≤ 2147483647; omega)
  refine va_sld hx hb hX hbl hbA hS (in_of (by omega)) dL_law_941 ?_
  refine lv_topi (fun v10 ev10 => ?_)
  have hP := sw_P hP
  have hD := sw_D hD
  refine xvi (X := (Wm G gm qm Im Jm Rm Lm)) (Y := (Wd G g q I5 J6 R7 L8)) (As := [.int v10]) (rest := []) (b := (gm 45)) (d := 3) F hK hP hD hS hA (s_X12_draw l G gm qm Im Jm Rm Lm mvI mvR v10 ) kmV_X12_draw mlL_131 clX12 rfl 0 (Wm_at0 G gm qm Im Jm Rm Lm) ⟨(Nat.le_of_ble_eq_true rfl), (Nat.le_of_ble_eq_true rfl)⟩ hl.1 rfl (Nat.le_of_ble_eq_true rfl) dL_law_942 hce (fun r11 u12 H locs hw hP hD hS => ?_)
  obtain ⟨I13, J14, R15, L16⟩ := u12
  replace hP : va_P G.1 vwCl ((Wm G gm qm I13 J14 R15 L16) ++ (Wd G g q I5 J6 R7 L8)) H := hP
  replace hD : va_D A ((Wm G gm qm I13 J14 R15 L16) ++ (Wd G g q I5 J6 R7 L8)) := hD
  obtain ⟨mvI, mvR, tIr11, tRr11⟩ := hw
  replace mvI : InvI Wm_lo Wm_hi I13 := mvI
  replace mvR : InvR Wm_rl R15 := mvR
  have hWf : WfM I13 R15 := wm_sm hWf (tIr11 10 rfl) (tRr11 22 rfl) (tRr11 23 rfl) (tRr11 24 rfl) (tRr11 25 rfl) (tRr11 26 rfl)
  have hP := sw_P hP
  have hD := sw_D hD
  refine lv_pop hx hb dL_law_945 rfl ?_
  refine lv_goto (tgt := 1261) hx hb dL_law_946 (by decide) ?_
  exact kk g q I5 J6 R7 L8 I13 J14 R15 L16 _ _ _ rfl ⟨⟨hvI, hvR, hq0, hq3⟩, mvI, mvR, hWf⟩ hP hD hS hl
set_option maxHeartbeats 4000000 in
set_option maxRecDepth 100000 in
theorem lc_27 {p : Program} {l : Launch} {e : Env} {s : State} {m : MethodId} {below : List Frame} {meth : Method} {c : Code} {b N : Nat} {xs : Nat → Int32} {A : Nat → Prop} {cells slots : Nat} {Q : State → Prop} (G : Gx) (hN : N ≤ 3072) (F : CallFix p m c cL_law 4 s #[Value.ref b] tb RL) (hK : KX G s) (hA : HA G s A) (hbA : ¬ A b) (hX : va_X b N xs s s.heap) (hbl : b < s.heap.size) (hce : cells ≤ room_1.cells ∧ slots ≤ room_1.slots) (g q : Nat → Nat) (I : Nat → Int32) (J : Nat → Int64) (R : Nat → Nat → Int32) (L : Nat → Nat → Int64) (gm qm : Nat → Nat) (Im : Nat → Int32) (Jm : Nat → Int64) (Rm : Nat → Nat → Int32) (Lm : Nat → Nat → Int64) (hst : LI g q I R Im Rm) {H : Heap} {locs : List Loc} {ls : Array Slot} {i : Int32} (hi : 0 ≤ i.toInt ∧ i.toInt + 6 ≤ (N : Int)) (hP : va_P G.1 vwCl (Wd G g q I J R L ++ Wm G gm qm Im Jm Rm Lm) H) (hD : va_D A (Wd G g q I J R L ++ Wm G gm qm Im Jm Rm Lm)) (hS : va_S A s.heap H locs) (hl : lv_has ls 4 [(3, .int i), (2, .ref (gm 45)), (1, .ref (g 74)), (0, .ref b)]) (kk : ∀ (g1 q1 : Nat → Nat) (I1 : Nat → Int32) (J1 : Nat → Int64) (R1 : Nat → Nat → Int32) (L1 : Nat → Nat → Int64) (I2 : Nat → Int32) (J2 : Nat → Int64) (R2 : Nat → Nat → Int32) (L2 : Nat → Nat → Int64) (H : Heap) (locs : List Loc) (ls : Array Slot), g1 74 = g 74 → LI g1 q1 I1 R1 I2 R2 → va_P G.1 vwCl (Wd G g1 q1 I1 J1 R1 L1 ++ Wm G gm qm I2 J2 R2 L2) H → va_D A (Wd G g1 q1 I1 J1 R1 L1 ++ Wm G gm qm I2 J2 R2 L2) → va_S A s.heap H locs → lv_has ls 4 [(3, .int i), (2, .ref (gm 45)), (1, .ref (g 74)), (0, .ref b)] → W p l e room_1 s m #[Value.ref b] below meth c H locs cells slots Q (F0 m 1261 ls [])) : W p l e room_1 s m #[Value.ref b] below meth c H locs cells slots Q (F0 m 949 ls []) := by
  have hx := F.1
  have hb := F.2.1
  have hown := F.2.2.2.1
  obtain ⟨⟨hvI, hvR, hq0, hq3⟩, mvI, mvR, hWf⟩ := hst
  refine lv_aload_n hx hb dL_law_949 rfl (lv_at hl 2 rfl) ?_
  refine lv_aload_n hx hb dL_law_950 rfl (lv_at hl 3 rfl) ?_
  refine lv_iload_n hx hb dL_law_951 rfl (lv_at hl 0 rfl) ?_
  refine lv_iconst (v := 1) hx hb dL_law_952 (by decide) ?_
  refine lv_iadd hx hb dL_law_953 ?_
  refine lv_topi (fun x1 ex1 => ?_)
  have fx1 : x1.toInt = i.toInt + (1 : Int) := by rw [ex1]; exact t_add (by show (-2147483648 : Int) ≤ i.toInt + (1 : Int); omega) (by show i.toInt + (1 : Int) ≤ 2147483647; omega)
  refine va_sld hx hb hX hbl hbA hS (in_of (by omega)) dL_law_954 ?_
  refine lv_topi (fun v2 ev2 => ?_)
  refine xvi (X := (Wd G g q I J R L)) (Y := (Wm G gm qm Im Jm Rm Lm)) (As := [.int v2]) (rest := []) (b := (g 74)) (d := 2) F hK hP hD hS hA (s_X11_seed l G g q I J R L hvI hvR hq3 v2 ) kmV_X11_seed mlL_132 clX11 rfl 66 (Wd_at66 G g q I J R L) ⟨(Nat.le_of_ble_eq_true rfl), (Nat.le_of_ble_eq_true rfl)⟩ hl.1 rfl (Nat.le_of_ble_eq_true rfl) dL_law_955 hce (fun r3 u4 H locs hw hP hD hS => ?_)
  obtain ⟨I5, J6, R7, L8⟩ := u4
  replace hP : va_P G.1 vwCl ((Wd G g q I5 J6 R7 L8) ++ (Wm G gm qm Im Jm Rm Lm)) H := hP
  replace hD : va_D A ((Wd G g q I5 J6 R7 L8) ++ (Wm G gm qm Im Jm Rm Lm)) := hD
  obtain ⟨hvI, hvR, tIr3, tRr3, f0_r3⟩ := hw
  replace f0_r3 : ((0 : Int) ≤ r3.toInt ∧ r3.toInt ≤ (1 : Int)) := f0_r3
  replace hvI : InvI Wd_lo Wd_hi I5 := hvI
  replace hvR : InvR Wd_rl R7 := hvR
  refine lv_pop hx hb dL_law_958 rfl ?_
  refine lv_aload_n hx hb dL_law_959 rfl (lv_at hl 1 rfl) ?_
  refine lv_aload_n hx hb dL_law_960 rfl (lv_at hl 3 rfl) ?_
  refine lv_iload_n hx hb dL_law_961 rfl (lv_at hl 0 rfl) ?_
  refine lv_iconst (v := 1) hx hb dL_law_962 (by decide) ?_
  refine lv_iadd hx hb dL_law_963 ?_
  refine lv_topi (fun x9 ex9 => ?_)
  have fx9 : x9.toInt = i.toInt + (1 : Int) := by rw [ex9]; exact t_add (by show (-2147483648 : Int) ≤ i.toInt + (1 : Int); omega) (by show i.toInt + (1 : Int) ≤ 2147483647; omega)
  refine va_sld hx hb hX hbl hbA hS (in_of (by omega)) dL_law_964 ?_
  refine lv_topi (fun v10 ev10 => ?_)
  have hP := sw_P hP
  have hD := sw_D hD
  refine xvi (X := (Wm G gm qm Im Jm Rm Lm)) (Y := (Wd G g q I5 J6 R7 L8)) (As := [.int v10]) (rest := []) (b := (gm 45)) (d := 2) F hK hP hD hS hA (s_X12_seed l G gm qm Im Jm Rm Lm mvI mvR v10 ) kmV_X12_seed mlL_135 clX12 rfl 0 (Wm_at0 G gm qm Im Jm Rm Lm) ⟨(Nat.le_of_ble_eq_true rfl), (Nat.le_of_ble_eq_true rfl)⟩ hl.1 rfl (Nat.le_of_ble_eq_true rfl) dL_law_965 hce (fun r11 u12 H locs hw hP hD hS => ?_)
  obtain ⟨I13, J14, R15, L16⟩ := u12
  replace hP : va_P G.1 vwCl ((Wm G gm qm I13 J14 R15 L16) ++ (Wd G g q I5 J6 R7 L8)) H := hP
  replace hD : va_D A ((Wm G gm qm I13 J14 R15 L16) ++ (Wd G g q I5 J6 R7 L8)) := hD
  obtain ⟨mvI, mvR, tIr11, tRr11, f0_r11⟩ := hw
  replace f0_r11 : ((0 : Int) ≤ r11.toInt ∧ r11.toInt ≤ (1 : Int)) := f0_r11
  replace mvI : InvI Wm_lo Wm_hi I13 := mvI
  replace mvR : InvR Wm_rl R15 := mvR
  have hWf : WfM I13 R15 := wm_sm hWf (tIr11 10 rfl) (tRr11 22 rfl) (tRr11 23 rfl) (tRr11 24 rfl) (tRr11 25 rfl) (tRr11 26 rfl)
  have hP := sw_P hP
  have hD := sw_D hD
  refine lv_pop hx hb dL_law_968 rfl ?_
  refine lv_goto (tgt := 1261) hx hb dL_law_969 (by decide) ?_
  exact kk g q I5 J6 R7 L8 I13 J14 R15 L16 _ _ _ rfl ⟨⟨hvI, hvR, hq0, hq3⟩, mvI, mvR, hWf⟩ hP hD hS hl
