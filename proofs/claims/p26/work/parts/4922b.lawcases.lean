set_option maxHeartbeats 4000000 in
set_option maxRecDepth 100000 in
theorem lc_28 {p : Program} {l : Launch} {e : Env} {s : State} {m : MethodId} {below : List Frame} {meth : Method} {c : Code} {b N : Nat} {xs : Nat → Int32} {A : Nat → Prop} {cells slots : Nat} {Q : State → Prop} (G : Gx) (hN : N ≤ 3072) (F : CallFix p m c cL_law 4 s #[Value.ref b] tb RL) (hK : KX G s) (hA : HA G s A) (hbA : ¬ A b) (hX : va_X b N xs s s.heap) (hbl : b < s.heap.size) (hce : cells ≤ room_1.cells ∧ slots ≤ room_1.slots) (g q : Nat → Nat) (I : Nat → Int32) (J : Nat → Int64) (R : Nat → Nat → Int32) (L : Nat → Nat → Int64) (gm qm : Nat → Nat) (Im : Nat → Int32) (Jm : Nat → Int64) (Rm : Nat → Nat → Int32) (Lm : Nat → Nat → Int64) (hst : LI g q I R Im Rm) {H : Heap} {locs : List Loc} {ls : Array Slot} {i : Int32} (hi : 0 ≤ i.toInt ∧ i.toInt + 6 ≤ (N : Int)) (hP : va_P G.1 vwCl (Wd G g q I J R L ++ Wm G gm qm Im Jm Rm Lm) H) (hD : va_D A (Wd G g q I J R L ++ Wm G gm qm Im Jm Rm Lm)) (hS : va_S A s.heap H locs) (hl : lv_has ls 4 [(3, .int i), (2, .ref (gm 45)), (1, .ref (g 74)), (0, .ref b)]) (kk : ∀ (g1 q1 : Nat → Nat) (I1 : Nat → Int32) (J1 : Nat → Int64) (R1 : Nat → Nat → Int32) (L1 : Nat → Nat → Int64) (I2 : Nat → Int32) (J2 : Nat → Int64) (R2 : Nat → Nat → Int32) (L2 : Nat → Nat → Int64) (H : Heap) (locs : List Loc) (ls : Array Slot), g1 74 = g 74 → LI g1 q1 I1 R1 I2 R2 → va_P G.1 vwCl (Wd G g1 q1 I1 J1 R1 L1 ++ Wm G gm qm I2 J2 R2 L2) H → va_D A (Wd G g1 q1 I1 J1 R1 L1 ++ Wm G gm qm I2 J2 R2 L2) → va_S A s.heap H locs → lv_has ls 4 [(3, .int i), (2, .ref (gm 45)), (1, .ref (g 74)), (0, .ref b)] → W p l e room_1 s m #[Value.ref b] below meth c H locs cells slots Q (F0 m 1261 ls [])) : W p l e room_1 s m #[Value.ref b] below meth c H locs cells slots Q (F0 m 972 ls []) := by
  have hx := F.1
  have hb := F.2.1
  have hown := F.2.2.2.1
  obtain ⟨⟨hvI, hvR, hq0, hq3⟩, mvI, mvR, hWf⟩ := hst
  refine lv_aload_n hx hb dL_law_972 rfl (lv_at hl 2 rfl) ?_
  refine lv_aload_n hx hb dL_law_973 rfl (lv_at hl 3 rfl) ?_
  refine lv_iload_n hx hb dL_law_974 rfl (lv_at hl 0 rfl) ?_
  refine lv_iconst (v := 1) hx hb dL_law_975 (by decide) ?_
  refine lv_iadd hx hb dL_law_976 ?_
  refine lv_topi (fun x1 ex1 => ?_)
  have fx1 : x1.toInt = i.toInt + (1 : Int) := by rw [ex1]; exact t_add (by show (-2147483648 : Int) ≤ i.toInt + (1 : Int); omega) (by show i.toInt + (1 : Int) ≤ 2147483647; omega)
  refine va_sld hx hb hX hbl hbA hS (in_of (by omega)) dL_law_977 ?_
  refine lv_topi (fun v2 ev2 => ?_)
  refine xvi (X := (Wd G g q I J R L)) (Y := (Wm G gm qm Im Jm Rm Lm)) (As := [.int v2]) (rest := []) (b := (g 74)) (d := 4) F hK hP hD hS hA (s_X11_alone l G g q I J R L hvI hvR hq3 v2 ) kmV_X11_alone mlL_136 clX11 rfl 66 (Wd_at66 G g q I J R L) ⟨(Nat.le_of_ble_eq_true rfl), (Nat.le_of_ble_eq_true rfl)⟩ hl.1 rfl (Nat.le_of_ble_eq_true rfl) dL_law_978 hce (fun r3 u4 H locs hw hP hD hS => ?_)
  obtain ⟨I5, J6, R7, L8⟩ := u4
  replace hP : va_P G.1 vwCl ((Wd G g q I5 J6 R7 L8) ++ (Wm G gm qm Im Jm Rm Lm)) H := hP
  replace hD : va_D A ((Wd G g q I5 J6 R7 L8) ++ (Wm G gm qm Im Jm Rm Lm)) := hD
  obtain ⟨hvI, hvR, tIr3, tRr3⟩ := hw
  replace hvI : InvI Wd_lo Wd_hi I5 := hvI
  replace hvR : InvR Wd_rl R7 := hvR
  refine lv_pop hx hb dL_law_981 rfl ?_
  refine lv_aload_n hx hb dL_law_982 rfl (lv_at hl 1 rfl) ?_
  refine lv_aload_n hx hb dL_law_983 rfl (lv_at hl 3 rfl) ?_
  refine lv_iload_n hx hb dL_law_984 rfl (lv_at hl 0 rfl) ?_
  refine lv_iconst (v := 1) hx hb dL_law_985 (by decide) ?_
  refine lv_iadd hx hb dL_law_986 ?_
  refine lv_topi (fun x9 ex9 => ?_)
  have fx9 : x9.toInt = i.toInt + (1 : Int) := by rw [ex9]; exact t_add (by show (-2147483648 : Int) ≤ i.toInt + (1 : Int); omega) (by show i.toInt + (1 : Int) ≤ 2147483647; omega)
  refine va_sld hx hb hX hbl hbA hS (in_of (by omega)) dL_law_987 ?_
  refine lv_topi (fun v10 ev10 => ?_)
  have hP := sw_P hP
  have hD := sw_D hD
  refine xvi (X := (Wm G gm qm Im Jm Rm Lm)) (Y := (Wd G g q I5 J6 R7 L8)) (As := [.int v10]) (rest := []) (b := (gm 45)) (d := 6) F hK hP hD hS hA (s_X12_alone l G gm qm Im Jm Rm Lm mvI mvR v10 ) kmV_X12_alone mlL_139 clX12 rfl 0 (Wm_at0 G gm qm Im Jm Rm Lm) ⟨(Nat.le_of_ble_eq_true rfl), (Nat.le_of_ble_eq_true rfl)⟩ hl.1 rfl (Nat.le_of_ble_eq_true rfl) dL_law_988 hce (fun r11 u12 H locs hw hP hD hS => ?_)
  obtain ⟨I13, J14, R15, L16⟩ := u12
  replace hP : va_P G.1 vwCl ((Wm G gm qm I13 J14 R15 L16) ++ (Wd G g q I5 J6 R7 L8)) H := hP
  replace hD : va_D A ((Wm G gm qm I13 J14 R15 L16) ++ (Wd G g q I5 J6 R7 L8)) := hD
  obtain ⟨mvI, mvR, tIr11, tRr11⟩ := hw
  replace mvI : InvI Wm_lo Wm_hi I13 := mvI
  replace mvR : InvR Wm_rl R15 := mvR
  have hWf : WfM I13 R15 := wm_sm hWf (tIr11 10 rfl) (tRr11 22 rfl) (tRr11 23 rfl) (tRr11 24 rfl) (tRr11 25 rfl) (tRr11 26 rfl)
  have hP := sw_P hP
  have hD := sw_D hD
  refine lv_pop hx hb dL_law_991 rfl ?_
  refine lv_goto (tgt := 1261) hx hb dL_law_992 (by decide) ?_
  exact kk g q I5 J6 R7 L8 I13 J14 R15 L16 _ _ _ rfl ⟨⟨hvI, hvR, hq0, hq3⟩, mvI, mvR, hWf⟩ hP hD hS hl
set_option maxHeartbeats 4000000 in
set_option maxRecDepth 100000 in
theorem lc_29 {p : Program} {l : Launch} {e : Env} {s : State} {m : MethodId} {below : List Frame} {meth : Method} {c : Code} {b N : Nat} {xs : Nat → Int32} {A : Nat → Prop} {cells slots : Nat} {Q : State → Prop} (G : Gx) (hN : N ≤ 3072) (F : CallFix p m c cL_law 4 s #[Value.ref b] tb RL) (hK : KX G s) (hA : HA G s A) (hbA : ¬ A b) (hX : va_X b N xs s s.heap) (hbl : b < s.heap.size) (hce : cells ≤ room_1.cells ∧ slots ≤ room_1.slots) (g q : Nat → Nat) (I : Nat → Int32) (J : Nat → Int64) (R : Nat → Nat → Int32) (L : Nat → Nat → Int64) (gm qm : Nat → Nat) (Im : Nat → Int32) (Jm : Nat → Int64) (Rm : Nat → Nat → Int32) (Lm : Nat → Nat → Int64) (hst : LI g q I R Im Rm) {H : Heap} {locs : List Loc} {ls : Array Slot} {i : Int32} (hi : 0 ≤ i.toInt ∧ i.toInt + 6 ≤ (N : Int)) (hP : va_P G.1 vwCl (Wd G g q I J R L ++ Wm G gm qm Im Jm Rm Lm) H) (hD : va_D A (Wd G g q I J R L ++ Wm G gm qm Im Jm Rm Lm)) (hS : va_S A s.heap H locs) (hl : lv_has ls 4 [(3, .int i), (2, .ref (gm 45)), (1, .ref (g 74)), (0, .ref b)]) (kk : ∀ (g1 q1 : Nat → Nat) (I1 : Nat → Int32) (J1 : Nat → Int64) (R1 : Nat → Nat → Int32) (L1 : Nat → Nat → Int64) (I2 : Nat → Int32) (J2 : Nat → Int64) (R2 : Nat → Nat → Int32) (L2 : Nat → Nat → Int64) (H : Heap) (locs : List Loc) (ls : Array Slot), g1 74 = g 74 → LI g1 q1 I1 R1 I2 R2 → va_P G.1 vwCl (Wd G g1 q1 I1 J1 R1 L1 ++ Wm G gm qm I2 J2 R2 L2) H → va_D A (Wd G g1 q1 I1 J1 R1 L1 ++ Wm G gm qm I2 J2 R2 L2) → va_S A s.heap H locs → lv_has ls 4 [(3, .int i), (2, .ref (gm 45)), (1, .ref (g 74)), (0, .ref b)] → W p l e room_1 s m #[Value.ref b] below meth c H locs cells slots Q (F0 m 1261 ls [])) : W p l e room_1 s m #[Value.ref b] below meth c H locs cells slots Q (F0 m 995 ls []) := by
  have hx := F.1
  have hb := F.2.1
  have hown := F.2.2.2.1
  obtain ⟨⟨hvI, hvR, hq0, hq3⟩, mvI, mvR, hWf⟩ := hst
  refine lv_aload_n hx hb dL_law_995 rfl (lv_at hl 2 rfl) ?_
  refine lv_aload_n hx hb dL_law_996 rfl (lv_at hl 3 rfl) ?_
  refine lv_iload_n hx hb dL_law_997 rfl (lv_at hl 0 rfl) ?_
  refine lv_iconst (v := 1) hx hb dL_law_998 (by decide) ?_
  refine lv_iadd hx hb dL_law_999 ?_
  refine lv_topi (fun x1 ex1 => ?_)
  have fx1 : x1.toInt = i.toInt + (1 : Int) := by rw [ex1]; exact t_add (by show (-2147483648 : Int) ≤ i.toInt + (1 : Int); omega) (by show i.toInt + (1 : Int) ≤ 2147483647; omega)
  refine va_sld hx hb hX hbl hbA hS (in_of (by omega)) dL_law_1000 ?_
  refine lv_topi (fun v2 ev2 => ?_)
  refine xvi (X := (Wd G g q I J R L)) (Y := (Wm G gm qm Im Jm Rm Lm)) (As := [.int v2]) (rest := []) (b := (g 74)) (d := 7) F hK hP hD hS hA (s_X11_free l G g q I J R L hvI hvR hq3 v2 ) kmV_X11_free mlL_140 clX11 rfl 66 (Wd_at66 G g q I J R L) ⟨(Nat.le_of_ble_eq_true rfl), (Nat.le_of_ble_eq_true rfl)⟩ hl.1 rfl (Nat.le_of_ble_eq_true rfl) dL_law_1001 hce (fun r3 u4 H locs hw hP hD hS => ?_)
  obtain ⟨I5, J6, R7, L8⟩ := u4
  replace hP : va_P G.1 vwCl ((Wd G g q I5 J6 R7 L8) ++ (Wm G gm qm Im Jm Rm Lm)) H := hP
  replace hD : va_D A ((Wd G g q I5 J6 R7 L8) ++ (Wm G gm qm Im Jm Rm Lm)) := hD
  obtain ⟨hvI, hvR, tIr3, tRr3, f0_r3⟩ := hw
  replace f0_r3 : ((-2 : Int) ≤ r3.toInt ∧ r3.toInt ≤ (171 : Int)) := f0_r3
  replace hvI : InvI Wd_lo Wd_hi I5 := hvI
  replace hvR : InvR Wd_rl R7 := hvR
  refine lv_pop hx hb dL_law_1004 rfl ?_
  refine lv_aload_n hx hb dL_law_1005 rfl (lv_at hl 1 rfl) ?_
  refine lv_aload_n hx hb dL_law_1006 rfl (lv_at hl 3 rfl) ?_
  refine lv_iload_n hx hb dL_law_1007 rfl (lv_at hl 0 rfl) ?_
  refine lv_iconst (v := 1) hx hb dL_law_1008 (by decide) ?_
  refine lv_iadd hx hb dL_law_1009 ?_
  refine lv_topi (fun x9 ex9 => ?_)
  have fx9 : x9.toInt = i.toInt + (1 : Int) := by rw [ex9]; exact t_add (by show (-2147483648 : Int) ≤ i.toInt + (1 : Int); omega) (by show i.toInt + (1 : Int) ≤ 2147483647; omega)
  refine va_sld hx hb hX hbl hbA hS (in_of (by omega)) dL_law_1010 ?_
  refine lv_topi (fun v10 ev10 => ?_)
  have hP := sw_P hP
  have hD := sw_D hD
  refine xvi (X := (Wm G gm qm Im Jm Rm Lm)) (Y := (Wd G g q I5 J6 R7 L8)) (As := [.int v10]) (rest := []) (b := (gm 45)) (d := 7) F hK hP hD hS hA (s_X12_free l G gm qm Im Jm Rm Lm mvI mvR v10 ) kmV_X12_free mlL_143 clX12 rfl 0 (Wm_at0 G gm qm Im Jm Rm Lm) ⟨(Nat.le_of_ble_eq_true rfl), (Nat.le_of_ble_eq_true rfl)⟩ hl.1 rfl (Nat.le_of_ble_eq_true rfl) dL_law_1011 hce (fun r11 u12 H locs hw hP hD hS => ?_)
  obtain ⟨I13, J14, R15, L16⟩ := u12
  replace hP : va_P G.1 vwCl ((Wm G gm qm I13 J14 R15 L16) ++ (Wd G g q I5 J6 R7 L8)) H := hP
  replace hD : va_D A ((Wm G gm qm I13 J14 R15 L16) ++ (Wd G g q I5 J6 R7 L8)) := hD
  obtain ⟨mvI, mvR, tIr11, tRr11, f0_r11⟩ := hw
  replace f0_r11 : ((-2 : Int) ≤ r11.toInt ∧ r11.toInt ≤ (60 : Int)) := f0_r11
  replace mvI : InvI Wm_lo Wm_hi I13 := mvI
  replace mvR : InvR Wm_rl R15 := mvR
  have hWf : WfM I13 R15 := wm_sm hWf (tIr11 10 rfl) (tRr11 22 rfl) (tRr11 23 rfl) (tRr11 24 rfl) (tRr11 25 rfl) (tRr11 26 rfl)
  have hP := sw_P hP
  have hD := sw_D hD
  refine lv_pop hx hb dL_law_1014 rfl ?_
  refine lv_goto (tgt := 1261) hx hb dL_law_1015 (by decide) ?_
  exact kk g q I5 J6 R7 L8 I13 J14 R15 L16 _ _ _ rfl ⟨⟨hvI, hvR, hq0, hq3⟩, mvI, mvR, hWf⟩ hP hD hS hl
set_option maxHeartbeats 4000000 in
set_option maxRecDepth 100000 in
theorem lc_30 {p : Program} {l : Launch} {e : Env} {s : State} {m : MethodId} {below : List Frame} {meth : Method} {c : Code} {b N : Nat} {xs : Nat → Int32} {A : Nat → Prop} {cells slots : Nat} {Q : State → Prop} (G : Gx) (hN : N ≤ 3072) (F : CallFix p m c cL_law 4 s #[Value.ref b] tb RL) (hK : KX G s) (hA : HA G s A) (hbA : ¬ A b) (hX : va_X b N xs s s.heap) (hbl : b < s.heap.size) (hce : cells ≤ room_1.cells ∧ slots ≤ room_1.slots) (g q : Nat → Nat) (I : Nat → Int32) (J : Nat → Int64) (R : Nat → Nat → Int32) (L : Nat → Nat → Int64) (gm qm : Nat → Nat) (Im : Nat → Int32) (Jm : Nat → Int64) (Rm : Nat → Nat → Int32) (Lm : Nat → Nat → Int64) (hst : LI g q I R Im Rm) {H : Heap} {locs : List Loc} {ls : Array Slot} {i : Int32} (hi : 0 ≤ i.toInt ∧ i.toInt + 6 ≤ (N : Int)) (hP : va_P G.1 vwCl (Wd G g q I J R L ++ Wm G gm qm Im Jm Rm Lm) H) (hD : va_D A (Wd G g q I J R L ++ Wm G gm qm Im Jm Rm Lm)) (hS : va_S A s.heap H locs) (hl : lv_has ls 4 [(3, .int i), (2, .ref (gm 45)), (1, .ref (g 74)), (0, .ref b)]) (kk : ∀ (g1 q1 : Nat → Nat) (I1 : Nat → Int32) (J1 : Nat → Int64) (R1 : Nat → Nat → Int32) (L1 : Nat → Nat → Int64) (I2 : Nat → Int32) (J2 : Nat → Int64) (R2 : Nat → Nat → Int32) (L2 : Nat → Nat → Int64) (H : Heap) (locs : List Loc) (ls : Array Slot), g1 74 = g 74 → LI g1 q1 I1 R1 I2 R2 → va_P G.1 vwCl (Wd G g1 q1 I1 J1 R1 L1 ++ Wm G gm qm I2 J2 R2 L2) H → va_D A (Wd G g1 q1 I1 J1 R1 L1 ++ Wm G gm qm I2 J2 R2 L2) → va_S A s.heap H locs → lv_has ls 4 [(3, .int i), (2, .ref (gm 45)), (1, .ref (g 74)), (0, .ref b)] → W p l e room_1 s m #[Value.ref b] below meth c H locs cells slots Q (F0 m 1261 ls [])) : W p l e room_1 s m #[Value.ref b] below meth c H locs cells slots Q (F0 m 1018 ls []) := by
  have hx := F.1
  have hb := F.2.1
  have hown := F.2.2.2.1
  obtain ⟨⟨hvI, hvR, hq0, hq3⟩, mvI, mvR, hWf⟩ := hst
  refine lv_aload_n hx hb dL_law_1018 rfl (lv_at hl 2 rfl) ?_
  refine lv_aload_n hx hb dL_law_1019 rfl (lv_at hl 3 rfl) ?_
  refine lv_iload_n hx hb dL_law_1020 rfl (lv_at hl 0 rfl) ?_
  refine lv_iconst (v := 1) hx hb dL_law_1021 (by decide) ?_
  refine lv_iadd hx hb dL_law_1022 ?_
  refine lv_topi (fun x1 ex1 => ?_)
  have fx1 : x1.toInt = i.toInt + (1 : Int) := by rw [ex1]; exact t_add (by show (-2147483648 : Int) ≤ i.toInt + (1 : Int); omega) (by show i.toInt + (1 : Int) ≤ 2147483647; omega)
  refine va_sld hx hb hX hbl hbA hS (in_of (by omega)) dL_law_1023 ?_
  refine lv_topi (fun v2 ev2 => ?_)
  refine lv_aload_n hx hb dL_law_1024 rfl (lv_at hl 3 rfl) ?_
  refine lv_iload_n hx hb dL_law_1025 rfl (lv_at hl 0 rfl) ?_
  refine lv_iconst (v := 2) hx hb dL_law_1026 (by decide) ?_
  refine lv_iadd hx hb dL_law_1027 ?_
  refine lv_topi (fun x3 ex3 => ?_)
  have fx3 : x3.toInt = i.toInt + (2 : Int) := by rw [ex3]; exact t_add (by show (-2147483648 : Int) ≤ i.toInt + (2 : Int); omega) (by show i.toInt + (2 : Int) ≤ 2147483647; omega)
  refine va_sld hx hb hX hbl hbA hS (in_of (by omega)) dL_law_1028 ?_
  refine lv_topi (fun v4 ev4 => ?_)
  refine xvi (X := (Wd G g q I J R L)) (Y := (Wm G gm qm Im Jm Rm Lm)) (As := [.int v2, .int v4]) (rest := []) (b := (g 74)) (d := 4) F hK hP hD hS hA (s_X11_seat l G g q I J R L hvI hvR hq3 v2 v4 ) kmV_X11_seat mlL_144 clX11 rfl 66 (Wd_at66 G g q I J R L) ⟨(Nat.le_of_ble_eq_true rfl), (Nat.le_of_ble_eq_true rfl)⟩ hl.1 rfl (Nat.le_of_ble_eq_true rfl) dL_law_1029 hce (fun r5 u6 H locs hw hP hD hS => ?_)
  obtain ⟨I7, J8, R9, L10⟩ := u6
  replace hP : va_P G.1 vwCl ((Wd G g q I7 J8 R9 L10) ++ (Wm G gm qm Im Jm Rm Lm)) H := hP
  replace hD : va_D A ((Wd G g q I7 J8 R9 L10) ++ (Wm G gm qm Im Jm Rm Lm)) := hD
  obtain ⟨hvI, hvR, tIr5, tRr5, f0_r5⟩ := hw
  replace f0_r5 : ((-1 : Int) ≤ r5.toInt ∧ r5.toInt ≤ (4 : Int)) := f0_r5
  replace hvI : InvI Wd_lo Wd_hi I7 := hvI
  replace hvR : InvR Wd_rl R9 := hvR
  refine lv_pop hx hb dL_law_1032 rfl ?_
  refine lv_aload_n hx hb dL_law_1033 rfl (lv_at hl 1 rfl) ?_
  refine lv_aload_n hx hb dL_law_1034 rfl (lv_at hl 3 rfl) ?_
  refine lv_iload_n hx hb dL_law_1035 rfl (lv_at hl 0 rfl) ?_
  refine lv_iconst (v := 1) hx hb dL_law_1036 (by decide) ?_
  refine lv_iadd hx hb dL_law_1037 ?_
  refine lv_topi (fun x11 ex11 => ?_)
  have fx11 : x11.toInt = i.toInt + (1 : Int) := by rw [ex11]; exact t_add (by show (-2147483648 : Int) ≤ i.toInt + (1 : Int); omega) (by show i.toInt + (1 : Int) ≤ 2147483647; omega)
  refine va_sld hx hb hX hbl hbA hS (in_of (by omega)) dL_law_1038 ?_
  refine lv_topi (fun v12 ev12 => ?_)
  refine lv_aload_n hx hb dL_law_1039 rfl (lv_at hl 3 rfl) ?_
  refine lv_iload_n hx hb dL_law_1040 rfl (lv_at hl 0 rfl) ?_
  refine lv_iconst (v := 2) hx hb dL_law_1041 (by decide) ?_
  refine lv_iadd hx hb dL_law_1042 ?_
  refine lv_topi (fun x13 ex13 => ?_)
  have fx13 : x13.toInt = i.toInt + (2 : Int) := by rw [ex13]; exact t_add (by show (-2147483648 : Int) ≤ i.toInt + (2 : Int); omega) (by show i.toInt + (2 : Int) ≤ 2147483647; omega)
  refine va_sld hx hb hX hbl hbA hS (in_of (by omega)) dL_law_1043 ?_
  refine lv_topi (fun v14 ev14 => ?_)
  have hP := sw_P hP
  have hD := sw_D hD
  refine xvi (X := (Wm G gm qm Im Jm Rm Lm)) (Y := (Wd G g q I7 J8 R9 L10)) (As := [.int v12, .int v14]) (rest := []) (b := (gm 45)) (d := 5) F hK hP hD hS hA (s_X12_seat l G gm qm Im Jm Rm Lm mvI mvR v12 v14 ) kmV_X12_seat mlL_147 clX12 rfl 0 (Wm_at0 G gm qm Im Jm Rm Lm) ⟨(Nat.le_of_ble_eq_true rfl), (Nat.le_of_ble_eq_true rfl)⟩ hl.1 rfl (Nat.le_of_ble_eq_true rfl) dL_law_1044 hce (fun r15 u16 H locs hw hP hD hS => ?_)
  obtain ⟨I17, J18, R19, L20⟩ := u16
  replace hP : va_P G.1 vwCl ((Wm G gm qm I17 J18 R19 L20) ++ (Wd G g q I7 J8 R9 L10)) H := hP
  replace hD : va_D A ((Wm G gm qm I17 J18 R19 L20) ++ (Wd G g q I7 J8 R9 L10)) := hD
  obtain ⟨mvI, mvR, tIr15, tRr15, f0_r15⟩ := hw
  replace f0_r15 : ((-1 : Int) ≤ r15.toInt ∧ r15.toInt ≤ (4 : Int)) := f0_r15
  replace mvI : InvI Wm_lo Wm_hi I17 := mvI
  replace mvR : InvR Wm_rl R19 := mvR
  have hWf : WfM I17 R19 := wm_sm hWf (tIr15 10 rfl) (tRr15 22 rfl) (tRr15 23 rfl) (tRr15 24 rfl) (tRr15 25 rfl) (tRr15 26 rfl)
  have hP := sw_P hP
  have hD := sw_D hD
  refine lv_pop hx hb dL_law_1047 rfl ?_
  refine lv_goto (tgt := 1261) hx hb dL_law_1048 (by decide) ?_
  exact kk g q I7 J8 R9 L10 I17 J18 R19 L20 _ _ _ rfl ⟨⟨hvI, hvR, hq0, hq3⟩, mvI, mvR, hWf⟩ hP hD hS hl
set_option maxHeartbeats 4000000 in
set_option maxRecDepth 100000 in
theorem lc_31 {p : Program} {l : Launch} {e : Env} {s : State} {m : MethodId} {below : List Frame} {meth : Method} {c : Code} {b N : Nat} {xs : Nat → Int32} {A : Nat → Prop} {cells slots : Nat} {Q : State → Prop} (G : Gx) (hN : N ≤ 3072) (F : CallFix p m c cL_law 4 s #[Value.ref b] tb RL) (hK : KX G s) (hA : HA G s A) (hbA : ¬ A b) (hX : va_X b N xs s s.heap) (hbl : b < s.heap.size) (hce : cells ≤ room_1.cells ∧ slots ≤ room_1.slots) (g q : Nat → Nat) (I : Nat → Int32) (J : Nat → Int64) (R : Nat → Nat → Int32) (L : Nat → Nat → Int64) (gm qm : Nat → Nat) (Im : Nat → Int32) (Jm : Nat → Int64) (Rm : Nat → Nat → Int32) (Lm : Nat → Nat → Int64) (hst : LI g q I R Im Rm) {H : Heap} {locs : List Loc} {ls : Array Slot} {i : Int32} (hi : 0 ≤ i.toInt ∧ i.toInt + 6 ≤ (N : Int)) (hP : va_P G.1 vwCl (Wd G g q I J R L ++ Wm G gm qm Im Jm Rm Lm) H) (hD : va_D A (Wd G g q I J R L ++ Wm G gm qm Im Jm Rm Lm)) (hS : va_S A s.heap H locs) (hl : lv_has ls 4 [(3, .int i), (2, .ref (gm 45)), (1, .ref (g 74)), (0, .ref b)]) (kk : ∀ (g1 q1 : Nat → Nat) (I1 : Nat → Int32) (J1 : Nat → Int64) (R1 : Nat → Nat → Int32) (L1 : Nat → Nat → Int64) (I2 : Nat → Int32) (J2 : Nat → Int64) (R2 : Nat → Nat → Int32) (L2 : Nat → Nat → Int64) (H : Heap) (locs : List Loc) (ls : Array Slot), g1 74 = g 74 → LI g1 q1 I1 R1 I2 R2 → va_P G.1 vwCl (Wd G g1 q1 I1 J1 R1 L1 ++ Wm G gm qm I2 J2 R2 L2) H → va_D A (Wd G g1 q1 I1 J1 R1 L1 ++ Wm G gm qm I2 J2 R2 L2) → va_S A s.heap H locs → lv_has ls 4 [(3, .int i), (2, .ref (gm 45)), (1, .ref (g 74)), (0, .ref b)] → W p l e room_1 s m #[Value.ref b] below meth c H locs cells slots Q (F0 m 1261 ls [])) : W p l e room_1 s m #[Value.ref b] below meth c H locs cells slots Q (F0 m 1051 ls []) := by
  have hx := F.1
  have hb := F.2.1
  have hown := F.2.2.2.1
  obtain ⟨⟨hvI, hvR, hq0, hq3⟩, mvI, mvR, hWf⟩ := hst
  refine lv_aload_n hx hb dL_law_1051 rfl (lv_at hl 2 rfl) ?_
  refine lv_aload_n hx hb dL_law_1052 rfl (lv_at hl 3 rfl) ?_
  refine lv_iload_n hx hb dL_law_1053 rfl (lv_at hl 0 rfl) ?_
  refine lv_iconst (v := 1) hx hb dL_law_1054 (by decide) ?_
  refine lv_iadd hx hb dL_law_1055 ?_
  refine lv_topi (fun x1 ex1 => ?_)
  have fx1 : x1.toInt = i.toInt + (1 : Int) := by rw [ex1]; exact t_add (by show (-2147483648 : Int) ≤ i.toInt + (1 : Int); omega) (by show i.toInt + (1 : Int) ≤ 2147483647; omega)
  refine va_sld hx hb hX hbl hbA hS (in_of (by omega)) dL_law_1056 ?_
  refine lv_topi (fun v2 ev2 => ?_)
  refine lv_aload_n hx hb dL_law_1057 rfl (lv_at hl 3 rfl) ?_
  refine lv_iload_n hx hb dL_law_1058 rfl (lv_at hl 0 rfl) ?_
  refine lv_iconst (v := 2) hx hb dL_law_1059 (by decide) ?_
  refine lv_iadd hx hb dL_law_1060 ?_
  refine lv_topi (fun x3 ex3 => ?_)
  have fx3 : x3.toInt = i.toInt + (2 : Int) := by rw [ex3]; exact t_add (by show (-2147483648 : Int) ≤ i.toInt + (2 : Int); omega) (by show i.toInt + (2 : Int) ≤ 2147483647; omega)
  refine va_sld hx hb hX hbl hbA hS (in_of (by omega)) dL_law_1061 ?_
  refine lv_topi (fun v4 ev4 => ?_)
  refine xvi (X := (Wd G g q I J R L)) (Y := (Wm G gm qm Im Jm Rm Lm)) (As := [.int v2, .int v4]) (rest := []) (b := (g 74)) (d := 4) F hK hP hD hS hA (s_X11_fit l G g q I J R L hvI hvR hq3 v2 v4 ) kmV_X11_fit mlL_148 clX11 rfl 66 (Wd_at66 G g q I J R L) ⟨(Nat.le_of_ble_eq_true rfl), (Nat.le_of_ble_eq_true rfl)⟩ hl.1 rfl (Nat.le_of_ble_eq_true rfl) dL_law_1062 hce (fun r5 u6 H locs hw hP hD hS => ?_)
  obtain ⟨I7, J8, R9, L10⟩ := u6
  replace hP : va_P G.1 vwCl ((Wd G g q I7 J8 R9 L10) ++ (Wm G gm qm Im Jm Rm Lm)) H := hP
  replace hD : va_D A ((Wd G g q I7 J8 R9 L10) ++ (Wm G gm qm Im Jm Rm Lm)) := hD
  obtain ⟨hvI, hvR, tIr5, tRr5⟩ := hw
  replace hvI : InvI Wd_lo Wd_hi I7 := hvI
  replace hvR : InvR Wd_rl R9 := hvR
  refine lv_pop hx hb dL_law_1065 rfl ?_
  refine lv_aload_n hx hb dL_law_1066 rfl (lv_at hl 1 rfl) ?_
  refine lv_aload_n hx hb dL_law_1067 rfl (lv_at hl 3 rfl) ?_
  refine lv_iload_n hx hb dL_law_1068 rfl (lv_at hl 0 rfl) ?_
  refine lv_iconst (v := 1) hx hb dL_law_1069 (by decide) ?_
  refine lv_iadd hx hb dL_law_1070 ?_
  refine lv_topi (fun x11 ex11 => ?_)
  have fx11 : x11.toInt = i.toInt + (1 : Int) := by rw [ex11]; exact t_add (by show (-2147483648 : Int) ≤ i.toInt + (1 : Int); omega) (by show i.toInt + (1 : Int) ≤ 2147483647; omega)
  refine va_sld hx hb hX hbl hbA hS (in_of (by omega)) dL_law_1071 ?_
  refine lv_topi (fun v12 ev12 => ?_)
  refine lv_aload_n hx hb dL_law_1072 rfl (lv_at hl 3 rfl) ?_
  refine lv_iload_n hx hb dL_law_1073 rfl (lv_at hl 0 rfl) ?_
  refine lv_iconst (v := 2) hx hb dL_law_1074 (by decide) ?_
  refine lv_iadd hx hb dL_law_1075 ?_
  refine lv_topi (fun x13 ex13 => ?_)
  have fx13 : x13.toInt = i.toInt + (2 : Int) := by rw [ex13]; exact t_add (by show (-2147483648 : Int) ≤ i.toInt + (2 : Int); omega) (by show i.toInt + (2 : Int) ≤ 2147483647; omega)
  refine va_sld hx hb hX hbl hbA hS (in_of (by omega)) dL_law_1076 ?_
  refine lv_topi (fun v14 ev14 => ?_)
  have hP := sw_P hP
  have hD := sw_D hD
  refine xvi (X := (Wm G gm qm Im Jm Rm Lm)) (Y := (Wd G g q I7 J8 R9 L10)) (As := [.int v12, .int v14]) (rest := []) (b := (gm 45)) (d := 5) F hK hP hD hS hA (s_X12_fit l G gm qm Im Jm Rm Lm mvI mvR v12 v14 ) kmV_X12_fit mlL_151 clX12 rfl 0 (Wm_at0 G gm qm Im Jm Rm Lm) ⟨(Nat.le_of_ble_eq_true rfl), (Nat.le_of_ble_eq_true rfl)⟩ hl.1 rfl (Nat.le_of_ble_eq_true rfl) dL_law_1077 hce (fun r15 u16 H locs hw hP hD hS => ?_)
  obtain ⟨I17, J18, R19, L20⟩ := u16
  replace hP : va_P G.1 vwCl ((Wm G gm qm I17 J18 R19 L20) ++ (Wd G g q I7 J8 R9 L10)) H := hP
  replace hD : va_D A ((Wm G gm qm I17 J18 R19 L20) ++ (Wd G g q I7 J8 R9 L10)) := hD
  obtain ⟨mvI, mvR, tIr15, tRr15⟩ := hw
  replace mvI : InvI Wm_lo Wm_hi I17 := mvI
  replace mvR : InvR Wm_rl R19 := mvR
  have hWf : WfM I17 R19 := wm_sm hWf (tIr15 10 rfl) (tRr15 22 rfl) (tRr15 23 rfl) (tRr15 24 rfl) (tRr15 25 rfl) (tRr15 26 rfl)
  have hP := sw_P hP
  have hD := sw_D hD
  refine lv_pop hx hb dL_law_1080 rfl ?_
  refine lv_goto (tgt := 1261) hx hb dL_law_1081 (by decide) ?_
  exact kk g q I7 J8 R9 L10 I17 J18 R19 L20 _ _ _ rfl ⟨⟨hvI, hvR, hq0, hq3⟩, mvI, mvR, hWf⟩ hP hD hS hl
set_option maxHeartbeats 4000000 in
set_option maxRecDepth 100000 in
theorem lc_32 {p : Program} {l : Launch} {e : Env} {s : State} {m : MethodId} {below : List Frame} {meth : Method} {c : Code} {b N : Nat} {xs : Nat → Int32} {A : Nat → Prop} {cells slots : Nat} {Q : State → Prop} (G : Gx) (hN : N ≤ 3072) (F : CallFix p m c cL_law 4 s #[Value.ref b] tb RL) (hK : KX G s) (hA : HA G s A) (hbA : ¬ A b) (hX : va_X b N xs s s.heap) (hbl : b < s.heap.size) (hce : cells ≤ room_1.cells ∧ slots ≤ room_1.slots) (g q : Nat → Nat) (I : Nat → Int32) (J : Nat → Int64) (R : Nat → Nat → Int32) (L : Nat → Nat → Int64) (gm qm : Nat → Nat) (Im : Nat → Int32) (Jm : Nat → Int64) (Rm : Nat → Nat → Int32) (Lm : Nat → Nat → Int64) (hst : LI g q I R Im Rm) {H : Heap} {locs : List Loc} {ls : Array Slot} {i : Int32} (hi : 0 ≤ i.toInt ∧ i.toInt + 6 ≤ (N : Int)) (hP : va_P G.1 vwCl (Wd G g q I J R L ++ Wm G gm qm Im Jm Rm Lm) H) (hD : va_D A (Wd G g q I J R L ++ Wm G gm qm Im Jm Rm Lm)) (hS : va_S A s.heap H locs) (hl : lv_has ls 4 [(3, .int i), (2, .ref (gm 45)), (1, .ref (g 74)), (0, .ref b)]) (kk : ∀ (g1 q1 : Nat → Nat) (I1 : Nat → Int32) (J1 : Nat → Int64) (R1 : Nat → Nat → Int32) (L1 : Nat → Nat → Int64) (I2 : Nat → Int32) (J2 : Nat → Int64) (R2 : Nat → Nat → Int32) (L2 : Nat → Nat → Int64) (H : Heap) (locs : List Loc) (ls : Array Slot), g1 74 = g 74 → LI g1 q1 I1 R1 I2 R2 → va_P G.1 vwCl (Wd G g1 q1 I1 J1 R1 L1 ++ Wm G gm qm I2 J2 R2 L2) H → va_D A (Wd G g1 q1 I1 J1 R1 L1 ++ Wm G gm qm I2 J2 R2 L2) → va_S A s.heap H locs → lv_has ls 4 [(3, .int i), (2, .ref (gm 45)), (1, .ref (g 74)), (0, .ref b)] → W p l e room_1 s m #[Value.ref b] below meth c H locs cells slots Q (F0 m 1261 ls [])) : W p l e room_1 s m #[Value.ref b] below meth c H locs cells slots Q (F0 m 1084 ls []) := by
  have hx := F.1
  have hb := F.2.1
  have hown := F.2.2.2.1
  obtain ⟨⟨hvI, hvR, hq0, hq3⟩, mvI, mvR, hWf⟩ := hst
  refine lv_aload_n hx hb dL_law_1084 rfl (lv_at hl 2 rfl) ?_
  refine lv_aload_n hx hb dL_law_1085 rfl (lv_at hl 3 rfl) ?_
  refine lv_iload_n hx hb dL_law_1086 rfl (lv_at hl 0 rfl) ?_
  refine lv_iconst (v := 1) hx hb dL_law_1087 (by decide) ?_
  refine lv_iadd hx hb dL_law_1088 ?_
  refine lv_topi (fun x1 ex1 => ?_)
  have fx1 : x1.toInt = i.toInt + (1 : Int) := by rw [ex1]; exact t_add (by show (-2147483648 : Int) ≤ i.toInt + (1 : Int); omega) (by show i.toInt + (1 : Int) ≤ 2147483647; omega)
  refine va_sld hx hb hX hbl hbA hS (in_of (by omega)) dL_law_1089 ?_
  refine lv_topi (fun v2 ev2 => ?_)
  refine xvi (X := (Wd G g q I J R L)) (Y := (Wm G gm qm Im Jm Rm Lm)) (As := [.int v2]) (rest := []) (b := (g 74)) (d := 4) F hK hP hD hS hA (s_X11_shut l G g q I J R L hvI hvR hq3 v2 ) kmV_X11_shut mlL_152 clX11 rfl 66 (Wd_at66 G g q I J R L) ⟨(Nat.le_of_ble_eq_true rfl), (Nat.le_of_ble_eq_true rfl)⟩ hl.1 rfl (Nat.le_of_ble_eq_true rfl) dL_law_1090 hce (fun r3 u4 H locs hw hP hD hS => ?_)
  replace hP : va_P G.1 vwCl ((Wd G g q I J R L) ++ (Wm G gm qm Im Jm Rm Lm)) H := hP
  replace hD : va_D A ((Wd G g q I J R L) ++ (Wm G gm qm Im Jm Rm Lm)) := hD
  have f0_r3 := hw
  replace f0_r3 : ((-1 : Int) ≤ r3.toInt ∧ r3.toInt ≤ (4 : Int)) := f0_r3
  refine lv_pop hx hb dL_law_1093 rfl ?_
  refine lv_aload_n hx hb dL_law_1094 rfl (lv_at hl 1 rfl) ?_
  refine lv_aload_n hx hb dL_law_1095 rfl (lv_at hl 3 rfl) ?_
  refine lv_iload_n hx hb dL_law_1096 rfl (lv_at hl 0 rfl) ?_
  refine lv_iconst (v := 1) hx hb dL_law_1097 (by decide) ?_
  refine lv_iadd hx hb dL_law_1098 ?_
  refine lv_topi (fun x5 ex5 => ?_)
  have fx5 : x5.toInt = i.toInt + (1 : Int) := by rw [ex5]; exact t_add (by show (-2147483648 : Int) ≤ i.toInt + (1 : Int); omega) (by show i.toInt + (1 : Int) ≤ 2147483647; omega)
  refine va_sld hx hb hX hbl hbA hS (in_of (by omega)) dL_law_1099 ?_
  refine lv_topi (fun v6 ev6 => ?_)
  have hP := sw_P hP
  have hD := sw_D hD
  refine xvi (X := (Wm G gm qm Im Jm Rm Lm)) (Y := (Wd G g q I J R L)) (As := [.int v6]) (rest := []) (b := (gm 45)) (d := 4) F hK hP hD hS hA (s_X12_shut l G gm qm Im Jm Rm Lm mvI mvR v6 ) kmV_X12_shut mlL_155 clX12 rfl 0 (Wm_at0 G gm qm Im Jm Rm Lm) ⟨(Nat.le_of_ble_eq_true rfl), (Nat.le_of_ble_eq_true rfl)⟩ hl.1 rfl (Nat.le_of_ble_eq_true rfl) dL_law_1100 hce (fun r7 u8 H locs hw hP hD hS => ?_)
  replace hP : va_P G.1 vwCl ((Wm G gm qm Im Jm Rm Lm) ++ (Wd G g q I J R L)) H := hP
  replace hD : va_D A ((Wm G gm qm Im Jm Rm Lm) ++ (Wd G g q I J R L)) := hD
  have f0_r7 := hw
  replace f0_r7 : ((-1 : Int) ≤ r7.toInt ∧ r7.toInt ≤ (4 : Int)) := f0_r7
  have hP := sw_P hP
  have hD := sw_D hD
  refine lv_pop hx hb dL_law_1103 rfl ?_
  refine lv_goto (tgt := 1261) hx hb dL_law_1104 (by decide) ?_
  exact kk g q I J R L Im Jm Rm Lm _ _ _ rfl ⟨⟨hvI, hvR, hq0, hq3⟩, mvI, mvR, hWf⟩ hP hD hS hl
set_option maxHeartbeats 4000000 in
set_option maxRecDepth 100000 in
theorem lc_33 {p : Program} {l : Launch} {e : Env} {s : State} {m : MethodId} {below : List Frame} {meth : Method} {c : Code} {b N : Nat} {xs : Nat → Int32} {A : Nat → Prop} {cells slots : Nat} {Q : State → Prop} (G : Gx) (hN : N ≤ 3072) (F : CallFix p m c cL_law 4 s #[Value.ref b] tb RL) (hK : KX G s) (hA : HA G s A) (hbA : ¬ A b) (hX : va_X b N xs s s.heap) (hbl : b < s.heap.size) (hce : cells ≤ room_1.cells ∧ slots ≤ room_1.slots) (g q : Nat → Nat) (I : Nat → Int32) (J : Nat → Int64) (R : Nat → Nat → Int32) (L : Nat → Nat → Int64) (gm qm : Nat → Nat) (Im : Nat → Int32) (Jm : Nat → Int64) (Rm : Nat → Nat → Int32) (Lm : Nat → Nat → Int64) (hst : LI g q I R Im Rm) {H : Heap} {locs : List Loc} {ls : Array Slot} {i : Int32} (hi : 0 ≤ i.toInt ∧ i.toInt + 6 ≤ (N : Int)) (hP : va_P G.1 vwCl (Wd G g q I J R L ++ Wm G gm qm Im Jm Rm Lm) H) (hD : va_D A (Wd G g q I J R L ++ Wm G gm qm Im Jm Rm Lm)) (hS : va_S A s.heap H locs) (hl : lv_has ls 4 [(3, .int i), (2, .ref (gm 45)), (1, .ref (g 74)), (0, .ref b)]) (kk : ∀ (g1 q1 : Nat → Nat) (I1 : Nat → Int32) (J1 : Nat → Int64) (R1 : Nat → Nat → Int32) (L1 : Nat → Nat → Int64) (I2 : Nat → Int32) (J2 : Nat → Int64) (R2 : Nat → Nat → Int32) (L2 : Nat → Nat → Int64) (H : Heap) (locs : List Loc) (ls : Array Slot), g1 74 = g 74 → LI g1 q1 I1 R1 I2 R2 → va_P G.1 vwCl (Wd G g1 q1 I1 J1 R1 L1 ++ Wm G gm qm I2 J2 R2 L2) H → va_D A (Wd G g1 q1 I1 J1 R1 L1 ++ Wm G gm qm I2 J2 R2 L2) → va_S A s.heap H locs → lv_has ls 4 [(3, .int i), (2, .ref (gm 45)), (1, .ref (g 74)), (0, .ref b)] → W p l e room_1 s m #[Value.ref b] below meth c H locs cells slots Q (F0 m 1261 ls [])) : W p l e room_1 s m #[Value.ref b] below meth c H locs cells slots Q (F0 m 1107 ls []) := by
  have hx := F.1
  have hb := F.2.1
  have hown := F.2.2.2.1
  obtain ⟨⟨hvI, hvR, hq0, hq3⟩, mvI, mvR, hWf⟩ := hst
  refine lv_aload_n hx hb dL_law_1107 rfl (lv_at hl 2 rfl) ?_
  refine lv_aload_n hx hb dL_law_1108 rfl (lv_at hl 3 rfl) ?_
  refine lv_iload_n hx hb dL_law_1109 rfl (lv_at hl 0 rfl) ?_
  refine lv_iconst (v := 1) hx hb dL_law_1110 (by decide) ?_
  refine lv_iadd hx hb dL_law_1111 ?_
  refine lv_topi (fun x1 ex1 => ?_)
  have fx1 : x1.toInt = i.toInt + (1 : Int) := by rw [ex1]; exact t_add (by show (-2147483648 : Int) ≤ i.toInt + (1 : Int); omega) (by show i.toInt + (1 : Int) ≤ 2147483647; omega)
  refine va_sld hx hb hX hbl hbA hS (in_of (by omega)) dL_law_1112 ?_
  refine lv_topi (fun v2 ev2 => ?_)
  refine xvi (X := (Wd G g q I J R L)) (Y := (Wm G gm qm Im Jm Rm Lm)) (As := [.int v2]) (rest := []) (b := (g 74)) (d := 3) F hK hP hD hS hA (s_X11_never l G g q I J R L hvI hvR hq3 v2 ) kmV_X11_never mlL_156 clX11 rfl 66 (Wd_at66 G g q I J R L) ⟨(Nat.le_of_ble_eq_true rfl), (Nat.le_of_ble_eq_true rfl)⟩ hl.1 rfl (Nat.le_of_ble_eq_true rfl) dL_law_1113 hce (fun r3 u4 H locs hw hP hD hS => ?_)
  replace hP : va_P G.1 vwCl ((Wd G g q I J R L) ++ (Wm G gm qm Im Jm Rm Lm)) H := hP
  replace hD : va_D A ((Wd G g q I J R L) ++ (Wm G gm qm Im Jm Rm Lm)) := hD
  refine lv_pop hx hb dL_law_1116 rfl ?_
  refine lv_aload_n hx hb dL_law_1117 rfl (lv_at hl 1 rfl) ?_
  refine lv_aload_n hx hb dL_law_1118 rfl (lv_at hl 3 rfl) ?_
  refine lv_iload_n hx hb dL_law_1119 rfl (lv_at hl 0 rfl) ?_
  refine lv_iconst (v := 1) hx hb dL_law_1120 (by decide) ?_
  refine lv_iadd hx hb dL_law_1121 ?_
  refine lv_topi (fun x5 ex5 => ?_)
  have fx5 : x5.toInt = i.toInt + (1 : Int) := by rw [ex5]; exact t_add (by show (-2147483648 : Int) ≤ i.toInt + (1 : Int); omega) (by show i.toInt + (1 : Int) ≤ 2147483647; omega)
  refine va_sld hx hb hX hbl hbA hS (in_of (by omega)) dL_law_1122 ?_
  refine lv_topi (fun v6 ev6 => ?_)
  have hP := sw_P hP
  have hD := sw_D hD
  refine xvi (X := (Wm G gm qm Im Jm Rm Lm)) (Y := (Wd G g q I J R L)) (As := [.int v6]) (rest := []) (b := (gm 45)) (d := 4) F hK hP hD hS hA (s_X12_never l G gm qm Im Jm Rm Lm mvI mvR v6 ) kmV_X12_never mlL_159 clX12 rfl 0 (Wm_at0 G gm qm Im Jm Rm Lm) ⟨(Nat.le_of_ble_eq_true rfl), (Nat.le_of_ble_eq_true rfl)⟩ hl.1 rfl (Nat.le_of_ble_eq_true rfl) dL_law_1123 hce (fun r7 u8 H locs hw hP hD hS => ?_)
  replace hP : va_P G.1 vwCl ((Wm G gm qm Im Jm Rm Lm) ++ (Wd G g q I J R L)) H := hP
  replace hD : va_D A ((Wm G gm qm Im Jm Rm Lm) ++ (Wd G g q I J R L)) := hD
  have hP := sw_P hP
  have hD := sw_D hD
  refine lv_pop hx hb dL_law_1126 rfl ?_
  refine lv_goto (tgt := 1261) hx hb dL_law_1127 (by decide) ?_
  exact kk g q I J R L Im Jm Rm Lm _ _ _ rfl ⟨⟨hvI, hvR, hq0, hq3⟩, mvI, mvR, hWf⟩ hP hD hS hl
set_option maxHeartbeats 4000000 in
set_option maxRecDepth 100000 in
theorem lc_34 {p : Program} {l : Launch} {e : Env} {s : State} {m : MethodId} {below : List Frame} {meth : Method} {c : Code} {b N : Nat} {xs : Nat → Int32} {A : Nat → Prop} {cells slots : Nat} {Q : State → Prop} (G : Gx) (hN : N ≤ 3072) (F : CallFix p m c cL_law 4 s #[Value.ref b] tb RL) (hK : KX G s) (hA : HA G s A) (hbA : ¬ A b) (hX : va_X b N xs s s.heap) (hbl : b < s.heap.size) (hce : cells ≤ room_1.cells ∧ slots ≤ room_1.slots) (g q : Nat → Nat) (I : Nat → Int32) (J : Nat → Int64) (R : Nat → Nat → Int32) (L : Nat → Nat → Int64) (gm qm : Nat → Nat) (Im : Nat → Int32) (Jm : Nat → Int64) (Rm : Nat → Nat → Int32) (Lm : Nat → Nat → Int64) (hst : LI g q I R Im Rm) {H : Heap} {locs : List Loc} {ls : Array Slot} {i : Int32} (hi : 0 ≤ i.toInt ∧ i.toInt + 6 ≤ (N : Int)) (hP : va_P G.1 vwCl (Wd G g q I J R L ++ Wm G gm qm Im Jm Rm Lm) H) (hD : va_D A (Wd G g q I J R L ++ Wm G gm qm Im Jm Rm Lm)) (hS : va_S A s.heap H locs) (hl : lv_has ls 4 [(3, .int i), (2, .ref (gm 45)), (1, .ref (g 74)), (0, .ref b)]) (kk : ∀ (g1 q1 : Nat → Nat) (I1 : Nat → Int32) (J1 : Nat → Int64) (R1 : Nat → Nat → Int32) (L1 : Nat → Nat → Int64) (I2 : Nat → Int32) (J2 : Nat → Int64) (R2 : Nat → Nat → Int32) (L2 : Nat → Nat → Int64) (H : Heap) (locs : List Loc) (ls : Array Slot), g1 74 = g 74 → LI g1 q1 I1 R1 I2 R2 → va_P G.1 vwCl (Wd G g1 q1 I1 J1 R1 L1 ++ Wm G gm qm I2 J2 R2 L2) H → va_D A (Wd G g1 q1 I1 J1 R1 L1 ++ Wm G gm qm I2 J2 R2 L2) → va_S A s.heap H locs → lv_has ls 4 [(3, .int i), (2, .ref (gm 45)), (1, .ref (g 74)), (0, .ref b)] → W p l e room_1 s m #[Value.ref b] below meth c H locs cells slots Q (F0 m 1261 ls [])) : W p l e room_1 s m #[Value.ref b] below meth c H locs cells slots Q (F0 m 1130 ls []) := by
  have hx := F.1
  have hb := F.2.1
  have hown := F.2.2.2.1
  obtain ⟨⟨hvI, hvR, hq0, hq3⟩, mvI, mvR, hWf⟩ := hst
  refine lv_aload_n hx hb dL_law_1130 rfl (lv_at hl 2 rfl) ?_
  refine xvi (X := (Wd G g q I J R L)) (Y := (Wm G gm qm Im Jm Rm Lm)) (As := []) (rest := []) (b := (g 74)) (d := 3) F hK hP hD hS hA (s_X11_weeks l G g q I J R L hvI hvR hq3  ) kmV_X11_weeks mlL_160 clX11 rfl 66 (Wd_at66 G g q I J R L) ⟨(Nat.le_of_ble_eq_true rfl), (Nat.le_of_ble_eq_true rfl)⟩ hl.1 rfl (Nat.le_of_ble_eq_true rfl) dL_law_1131 hce (fun r1 u2 H locs hw hP hD hS => ?_)
  replace hP : va_P G.1 vwCl ((Wd G g q I J R L) ++ (Wm G gm qm Im Jm Rm Lm)) H := hP
  replace hD : va_D A ((Wd G g q I J R L) ++ (Wm G gm qm Im Jm Rm Lm)) := hD
  have f0_r1 := hw
  replace f0_r1 : ((-1 : Int) ≤ r1.toInt ∧ r1.toInt ≤ (9 : Int)) := f0_r1
  refine lv_pop hx hb dL_law_1134 rfl ?_
  refine lv_aload_n hx hb dL_law_1135 rfl (lv_at hl 1 rfl) ?_
  have hP := sw_P hP
  have hD := sw_D hD
  refine xvi (X := (Wm G gm qm Im Jm Rm Lm)) (Y := (Wd G g q I J R L)) (As := []) (rest := []) (b := (gm 45)) (d := 4) F hK hP hD hS hA (s_X12_weeks l G gm qm Im Jm Rm Lm mvI mvR  ) kmV_X12_weeks mlL_163 clX12 rfl 0 (Wm_at0 G gm qm Im Jm Rm Lm) ⟨(Nat.le_of_ble_eq_true rfl), (Nat.le_of_ble_eq_true rfl)⟩ hl.1 rfl (Nat.le_of_ble_eq_true rfl) dL_law_1136 hce (fun r3 u4 H locs hw hP hD hS => ?_)
  replace hP : va_P G.1 vwCl ((Wm G gm qm Im Jm Rm Lm) ++ (Wd G g q I J R L)) H := hP
  replace hD : va_D A ((Wm G gm qm Im Jm Rm Lm) ++ (Wd G g q I J R L)) := hD
  have f0_r3 := hw
  replace f0_r3 : ((-1 : Int) ≤ r3.toInt ∧ r3.toInt ≤ (9 : Int)) := f0_r3
  have hP := sw_P hP
  have hD := sw_D hD
  refine lv_pop hx hb dL_law_1139 rfl ?_
  refine lv_goto (tgt := 1261) hx hb dL_law_1140 (by decide) ?_
  exact kk g q I J R L Im Jm Rm Lm _ _ _ rfl ⟨⟨hvI, hvR, hq0, hq3⟩, mvI, mvR, hWf⟩ hP hD hS hl
set_option maxHeartbeats 4000000 in
set_option maxRecDepth 100000 in
theorem lc_35 {p : Program} {l : Launch} {e : Env} {s : State} {m : MethodId} {below : List Frame} {meth : Method} {c : Code} {b N : Nat} {xs : Nat → Int32} {A : Nat → Prop} {cells slots : Nat} {Q : State → Prop} (G : Gx) (hN : N ≤ 3072) (F : CallFix p m c cL_law 4 s #[Value.ref b] tb RL) (hK : KX G s) (hA : HA G s A) (hbA : ¬ A b) (hX : va_X b N xs s s.heap) (hbl : b < s.heap.size) (hce : cells ≤ room_1.cells ∧ slots ≤ room_1.slots) (g q : Nat → Nat) (I : Nat → Int32) (J : Nat → Int64) (R : Nat → Nat → Int32) (L : Nat → Nat → Int64) (gm qm : Nat → Nat) (Im : Nat → Int32) (Jm : Nat → Int64) (Rm : Nat → Nat → Int32) (Lm : Nat → Nat → Int64) (hst : LI g q I R Im Rm) {H : Heap} {locs : List Loc} {ls : Array Slot} {i : Int32} (hi : 0 ≤ i.toInt ∧ i.toInt + 6 ≤ (N : Int)) (hP : va_P G.1 vwCl (Wd G g q I J R L ++ Wm G gm qm Im Jm Rm Lm) H) (hD : va_D A (Wd G g q I J R L ++ Wm G gm qm Im Jm Rm Lm)) (hS : va_S A s.heap H locs) (hl : lv_has ls 4 [(3, .int i), (2, .ref (gm 45)), (1, .ref (g 74)), (0, .ref b)]) (kk : ∀ (g1 q1 : Nat → Nat) (I1 : Nat → Int32) (J1 : Nat → Int64) (R1 : Nat → Nat → Int32) (L1 : Nat → Nat → Int64) (I2 : Nat → Int32) (J2 : Nat → Int64) (R2 : Nat → Nat → Int32) (L2 : Nat → Nat → Int64) (H : Heap) (locs : List Loc) (ls : Array Slot), g1 74 = g 74 → LI g1 q1 I1 R1 I2 R2 → va_P G.1 vwCl (Wd G g1 q1 I1 J1 R1 L1 ++ Wm G gm qm I2 J2 R2 L2) H → va_D A (Wd G g1 q1 I1 J1 R1 L1 ++ Wm G gm qm I2 J2 R2 L2) → va_S A s.heap H locs → lv_has ls 4 [(3, .int i), (2, .ref (gm 45)), (1, .ref (g 74)), (0, .ref b)] → W p l e room_1 s m #[Value.ref b] below meth c H locs cells slots Q (F0 m 1261 ls [])) : W p l e room_1 s m #[Value.ref b] below meth c H locs cells slots Q (F0 m 1143 ls []) := by
  have hx := F.1
  have hb := F.2.1
  have hown := F.2.2.2.1
  obtain ⟨⟨hvI, hvR, hq0, hq3⟩, mvI, mvR, hWf⟩ := hst
  refine lv_aload_n hx hb dL_law_1143 rfl (lv_at hl 2 rfl) ?_
  refine lv_aload_n hx hb dL_law_1144 rfl (lv_at hl 3 rfl) ?_
  refine lv_iload_n hx hb dL_law_1145 rfl (lv_at hl 0 rfl) ?_
  refine lv_iconst (v := 1) hx hb dL_law_1146 (by decide) ?_
  refine lv_iadd hx hb dL_law_1147 ?_
  refine lv_topi (fun x1 ex1 => ?_)
  have fx1 : x1.toInt = i.toInt + (1 : Int) := by rw [ex1]; exact t_add (by show (-2147483648 : Int) ≤ i.toInt + (1 : Int); omega) (by show i.toInt + (1 : Int) ≤ 2147483647; omega)
  refine va_sld hx hb hX hbl hbA hS (in_of (by omega)) dL_law_1148 ?_
  refine lv_topi (fun v2 ev2 => ?_)
  refine xvi (X := (Wd G g q I J R L)) (Y := (Wm G gm qm Im Jm Rm Lm)) (As := [.int v2]) (rest := []) (b := (g 74)) (d := 3) F hK hP hD hS hA (s_X11_grow l G g q I J R L hvI hvR hq3 v2 ) kmV_X11_grow mlL_164 clX11 rfl 66 (Wd_at66 G g q I J R L) ⟨(Nat.le_of_ble_eq_true rfl), (Nat.le_of_ble_eq_true rfl)⟩ hl.1 rfl (Nat.le_of_ble_eq_true rfl) dL_law_1149 hce (fun r3 u4 H locs hw hP hD hS => ?_)
  replace hP : va_P G.1 vwCl ((Wd G g q I J R L) ++ (Wm G gm qm Im Jm Rm Lm)) H := hP
  replace hD : va_D A ((Wd G g q I J R L) ++ (Wm G gm qm Im Jm Rm Lm)) := hD
  refine lv_pop hx hb dL_law_1152 rfl ?_
  refine lv_aload_n hx hb dL_law_1153 rfl (lv_at hl 1 rfl) ?_
  refine lv_aload_n hx hb dL_law_1154 rfl (lv_at hl 3 rfl) ?_
  refine lv_iload_n hx hb dL_law_1155 rfl (lv_at hl 0 rfl) ?_
  refine lv_iconst (v := 1) hx hb dL_law_1156 (by decide) ?_
  refine lv_iadd hx hb dL_law_1157 ?_
  refine lv_topi (fun x5 ex5 => ?_)
  have fx5 : x5.toInt = i.toInt + (1 : Int) := by rw [ex5]; exact t_add (by show (-2147483648 : Int) ≤ i.toInt + (1 : Int); omega) (by show i.toInt + (1 : Int) ≤ 2147483647; omega)
  refine va_sld hx hb hX hbl hbA hS (in_of (by omega)) dL_law_1158 ?_
  refine lv_topi (fun v6 ev6 => ?_)
  have hP := sw_P hP
  have hD := sw_D hD
  refine xvi (X := (Wm G gm qm Im Jm Rm Lm)) (Y := (Wd G g q I J R L)) (As := [.int v6]) (rest := []) (b := (gm 45)) (d := 4) F hK hP hD hS hA (s_X12_grow l G gm qm Im Jm Rm Lm mvI mvR v6 ) kmV_X12_grow mlL_167 clX12 rfl 0 (Wm_at0 G gm qm Im Jm Rm Lm) ⟨(Nat.le_of_ble_eq_true rfl), (Nat.le_of_ble_eq_true rfl)⟩ hl.1 rfl (Nat.le_of_ble_eq_true rfl) dL_law_1159 hce (fun r7 u8 H locs hw hP hD hS => ?_)
  replace hP : va_P G.1 vwCl ((Wm G gm qm Im Jm Rm Lm) ++ (Wd G g q I J R L)) H := hP
  replace hD : va_D A ((Wm G gm qm Im Jm Rm Lm) ++ (Wd G g q I J R L)) := hD
  have hP := sw_P hP
  have hD := sw_D hD
  refine lv_pop hx hb dL_law_1162 rfl ?_
  refine lv_goto (tgt := 1261) hx hb dL_law_1163 (by decide) ?_
  exact kk g q I J R L Im Jm Rm Lm _ _ _ rfl ⟨⟨hvI, hvR, hq0, hq3⟩, mvI, mvR, hWf⟩ hP hD hS hl
set_option maxHeartbeats 4000000 in
set_option maxRecDepth 100000 in
theorem lc_36 {p : Program} {l : Launch} {e : Env} {s : State} {m : MethodId} {below : List Frame} {meth : Method} {c : Code} {b N : Nat} {xs : Nat → Int32} {A : Nat → Prop} {cells slots : Nat} {Q : State → Prop} (G : Gx) (hN : N ≤ 3072) (F : CallFix p m c cL_law 4 s #[Value.ref b] tb RL) (hK : KX G s) (hA : HA G s A) (hbA : ¬ A b) (hX : va_X b N xs s s.heap) (hbl : b < s.heap.size) (hce : cells ≤ room_1.cells ∧ slots ≤ room_1.slots) (g q : Nat → Nat) (I : Nat → Int32) (J : Nat → Int64) (R : Nat → Nat → Int32) (L : Nat → Nat → Int64) (gm qm : Nat → Nat) (Im : Nat → Int32) (Jm : Nat → Int64) (Rm : Nat → Nat → Int32) (Lm : Nat → Nat → Int64) (hst : LI g q I R Im Rm) {H : Heap} {locs : List Loc} {ls : Array Slot} {i : Int32} (hi : 0 ≤ i.toInt ∧ i.toInt + 6 ≤ (N : Int)) (hP : va_P G.1 vwCl (Wd G g q I J R L ++ Wm G gm qm Im Jm Rm Lm) H) (hD : va_D A (Wd G g q I J R L ++ Wm G gm qm Im Jm Rm Lm)) (hS : va_S A s.heap H locs) (hl : lv_has ls 4 [(3, .int i), (2, .ref (gm 45)), (1, .ref (g 74)), (0, .ref b)]) (kk : ∀ (g1 q1 : Nat → Nat) (I1 : Nat → Int32) (J1 : Nat → Int64) (R1 : Nat → Nat → Int32) (L1 : Nat → Nat → Int64) (I2 : Nat → Int32) (J2 : Nat → Int64) (R2 : Nat → Nat → Int32) (L2 : Nat → Nat → Int64) (H : Heap) (locs : List Loc) (ls : Array Slot), g1 74 = g 74 → LI g1 q1 I1 R1 I2 R2 → va_P G.1 vwCl (Wd G g1 q1 I1 J1 R1 L1 ++ Wm G gm qm I2 J2 R2 L2) H → va_D A (Wd G g1 q1 I1 J1 R1 L1 ++ Wm G gm qm I2 J2 R2 L2) → va_S A s.heap H locs → lv_has ls 4 [(3, .int i), (2, .ref (gm 45)), (1, .ref (g 74)), (0, .ref b)] → W p l e room_1 s m #[Value.ref b] below meth c H locs cells slots Q (F0 m 1261 ls [])) : W p l e room_1 s m #[Value.ref b] below meth c H locs cells slots Q (F0 m 1166 ls []) := by
  have hx := F.1
  have hb := F.2.1
  have hown := F.2.2.2.1
  obtain ⟨⟨hvI, hvR, hq0, hq3⟩, mvI, mvR, hWf⟩ := hst
  refine lv_aload_n hx hb dL_law_1166 rfl (lv_at hl 2 rfl) ?_
  refine lv_aload_n hx hb dL_law_1167 rfl (lv_at hl 3 rfl) ?_
  refine lv_iload_n hx hb dL_law_1168 rfl (lv_at hl 0 rfl) ?_
  refine lv_iconst (v := 1) hx hb dL_law_1169 (by decide) ?_
  refine lv_iadd hx hb dL_law_1170 ?_
  refine lv_topi (fun x1 ex1 => ?_)
  have fx1 : x1.toInt = i.toInt + (1 : Int) := by rw [ex1]; exact t_add (by show (-2147483648 : Int) ≤ i.toInt + (1 : Int); omega) (by show i.toInt + (1 : Int) ≤ 2147483647; omega)
  refine va_sld hx hb hX hbl hbA hS (in_of (by omega)) dL_law_1171 ?_
  refine lv_topi (fun v2 ev2 => ?_)
  refine xvi (X := (Wd G g q I J R L)) (Y := (Wm G gm qm Im Jm Rm Lm)) (As := [.int v2]) (rest := []) (b := (g 74)) (d := 7) F hK hP hD hS hA (s_X11_move l G g q I J R L hvI hvR hq3 v2 ) kmV_X11_move mlL_168 clX11 rfl 66 (Wd_at66 G g q I J R L) ⟨(Nat.le_of_ble_eq_true rfl), (Nat.le_of_ble_eq_true rfl)⟩ hl.1 rfl (Nat.le_of_ble_eq_true rfl) dL_law_1172 hce (fun r3 u4 H locs hw hP hD hS => ?_)
  obtain ⟨I5, J6, R7, L8⟩ := u4
  replace hP : va_P G.1 vwCl ((Wd G g q I5 J6 R7 L8) ++ (Wm G gm qm Im Jm Rm Lm)) H := hP
  replace hD : va_D A ((Wd G g q I5 J6 R7 L8) ++ (Wm G gm qm Im Jm Rm Lm)) := hD
  obtain ⟨hvI, hvR, tIr3, tRr3⟩ := hw
  replace hvI : InvI Wd_lo Wd_hi I5 := hvI
  replace hvR : InvR Wd_rl R7 := hvR
  refine lv_pop hx hb dL_law_1175 rfl ?_
  refine lv_aload_n hx hb dL_law_1176 rfl (lv_at hl 1 rfl) ?_
  refine lv_aload_n hx hb dL_law_1177 rfl (lv_at hl 3 rfl) ?_
  refine lv_iload_n hx hb dL_law_1178 rfl (lv_at hl 0 rfl) ?_
  refine lv_iconst (v := 1) hx hb dL_law_1179 (by decide) ?_
  refine lv_iadd hx hb dL_law_1180 ?_
  refine lv_topi (fun x9 ex9 => ?_)
  have fx9 : x9.toInt = i.toInt + (1 : Int) := by rw [ex9]; exact t_add (by show (-2147483648 : Int) ≤ i.toInt + (1 : Int); omega) (by show i.toInt + (1 : Int) ≤ 2147483647; omega)
  refine va_sld hx hb hX hbl hbA hS (in_of (by omega)) dL_law_1181 ?_
  refine lv_topi (fun v10 ev10 => ?_)
  have hP := sw_P hP
  have hD := sw_D hD
  refine xvi (X := (Wm G gm qm Im Jm Rm Lm)) (Y := (Wd G g q I5 J6 R7 L8)) (As := [.int v10]) (rest := []) (b := (gm 45)) (d := 6) F hK hP hD hS hA (s_X12_move l G gm qm Im Jm Rm Lm mvI mvR v10 ) kmV_X12_move mlL_171 clX12 rfl 0 (Wm_at0 G gm qm Im Jm Rm Lm) ⟨(Nat.le_of_ble_eq_true rfl), (Nat.le_of_ble_eq_true rfl)⟩ hl.1 rfl (Nat.le_of_ble_eq_true rfl) dL_law_1182 hce (fun r11 u12 H locs hw hP hD hS => ?_)
  obtain ⟨I13, J14, R15, L16⟩ := u12
  replace hP : va_P G.1 vwCl ((Wm G gm qm I13 J14 R15 L16) ++ (Wd G g q I5 J6 R7 L8)) H := hP
  replace hD : va_D A ((Wm G gm qm I13 J14 R15 L16) ++ (Wd G g q I5 J6 R7 L8)) := hD
  obtain ⟨mvI, mvR, tIr11, tRr11⟩ := hw
  replace mvI : InvI Wm_lo Wm_hi I13 := mvI
  replace mvR : InvR Wm_rl R15 := mvR
  have hWf : WfM I13 R15 := wm_sm hWf (tIr11 10 rfl) (tRr11 22 rfl) (tRr11 23 rfl) (tRr11 24 rfl) (tRr11 25 rfl) (tRr11 26 rfl)
  have hP := sw_P hP
  have hD := sw_D hD
  refine lv_pop hx hb dL_law_1185 rfl ?_
  refine lv_goto (tgt := 1261) hx hb dL_law_1186 (by decide) ?_
  exact kk g q I5 J6 R7 L8 I13 J14 R15 L16 _ _ _ rfl ⟨⟨hvI, hvR, hq0, hq3⟩, mvI, mvR, hWf⟩ hP hD hS hl
set_option maxHeartbeats 4000000 in
set_option maxRecDepth 100000 in
theorem lc_37 {p : Program} {l : Launch} {e : Env} {s : State} {m : MethodId} {below : List Frame} {meth : Method} {c : Code} {b N : Nat} {xs : Nat → Int32} {A : Nat → Prop} {cells slots : Nat} {Q : State → Prop} (G : Gx) (hN : N ≤ 3072) (F : CallFix p m c cL_law 4 s #[Value.ref b] tb RL) (hK : KX G s) (hA : HA G s A) (hbA : ¬ A b) (hX : va_X b N xs s s.heap) (hbl : b < s.heap.size) (hce : cells ≤ room_1.cells ∧ slots ≤ room_1.slots) (g q : Nat → Nat) (I : Nat → Int32) (J : Nat → Int64) (R : Nat → Nat → Int32) (L : Nat → Nat → Int64) (gm qm : Nat → Nat) (Im : Nat → Int32) (Jm : Nat → Int64) (Rm : Nat → Nat → Int32) (Lm : Nat → Nat → Int64) (hst : LI g q I R Im Rm) {H : Heap} {locs : List Loc} {ls : Array Slot} {i : Int32} (hi : 0 ≤ i.toInt ∧ i.toInt + 6 ≤ (N : Int)) (hP : va_P G.1 vwCl (Wd G g q I J R L ++ Wm G gm qm Im Jm Rm Lm) H) (hD : va_D A (Wd G g q I J R L ++ Wm G gm qm Im Jm Rm Lm)) (hS : va_S A s.heap H locs) (hl : lv_has ls 4 [(3, .int i), (2, .ref (gm 45)), (1, .ref (g 74)), (0, .ref b)]) (kk : ∀ (g1 q1 : Nat → Nat) (I1 : Nat → Int32) (J1 : Nat → Int64) (R1 : Nat → Nat → Int32) (L1 : Nat → Nat → Int64) (I2 : Nat → Int32) (J2 : Nat → Int64) (R2 : Nat → Nat → Int32) (L2 : Nat → Nat → Int64) (H : Heap) (locs : List Loc) (ls : Array Slot), g1 74 = g 74 → LI g1 q1 I1 R1 I2 R2 → va_P G.1 vwCl (Wd G g1 q1 I1 J1 R1 L1 ++ Wm G gm qm I2 J2 R2 L2) H → va_D A (Wd G g1 q1 I1 J1 R1 L1 ++ Wm G gm qm I2 J2 R2 L2) → va_S A s.heap H locs → lv_has ls 4 [(3, .int i), (2, .ref (gm 45)), (1, .ref (g 74)), (0, .ref b)] → W p l e room_1 s m #[Value.ref b] below meth c H locs cells slots Q (F0 m 1261 ls [])) : W p l e room_1 s m #[Value.ref b] below meth c H locs cells slots Q (F0 m 1189 ls []) := by
  have hx := F.1
  have hb := F.2.1
  have hown := F.2.2.2.1
  obtain ⟨⟨hvI, hvR, hq0, hq3⟩, mvI, mvR, hWf⟩ := hst
  refine lv_aload_n hx hb dL_law_1189 rfl (lv_at hl 2 rfl) ?_
  refine xvi (X := (Wd G g q I J R L)) (Y := (Wm G gm qm Im Jm Rm Lm)) (As := []) (rest := []) (b := (g 74)) (d := 2) F hK hP hD hS hA (s_X11_image l G g q I J R L hvI hvR hq3  ) kmV_X11_image mlL_172 clX11 rfl 66 (Wd_at66 G g q I J R L) ⟨(Nat.le_of_ble_eq_true rfl), (Nat.le_of_ble_eq_true rfl)⟩ hl.1 rfl (Nat.le_of_ble_eq_true rfl) dL_law_1190 hce (fun r1 u2 H locs hw hP hD hS => ?_)
  obtain ⟨I3, J4, R5, L6⟩ := u2
  replace hP : va_P G.1 vwCl ((Wd G g q I3 J4 R5 L6) ++ (Wm G gm qm Im Jm Rm Lm)) H := hP
  replace hD : va_D A ((Wd G g q I3 J4 R5 L6) ++ (Wm G gm qm Im Jm Rm Lm)) := hD
  obtain ⟨hvI, hvR, tIr1, tRr1, f0_r1⟩ := hw
  replace f0_r1 : ((0 : Int) ≤ r1.toInt ∧ r1.toInt ≤ (14 : Int)) := f0_r1
  replace hvI : InvI Wd_lo Wd_hi I3 := hvI
  replace hvR : InvR Wd_rl R5 := hvR
  refine lv_pop hx hb dL_law_1193 rfl ?_
  refine lv_aload_n hx hb dL_law_1194 rfl (lv_at hl 1 rfl) ?_
  have hP := sw_P hP
  have hD := sw_D hD
  refine xvi (X := (Wm G gm qm Im Jm Rm Lm)) (Y := (Wd G g q I3 J4 R5 L6)) (As := []) (rest := []) (b := (gm 45)) (d := 2) F hK hP hD hS hA (s_X12_image l G gm qm Im Jm Rm Lm mvI mvR  ) kmV_X12_image mlL_175 clX12 rfl 0 (Wm_at0 G gm qm Im Jm Rm Lm) ⟨(Nat.le_of_ble_eq_true rfl), (Nat.le_of_ble_eq_true rfl)⟩ hl.1 rfl (Nat.le_of_ble_eq_true rfl) dL_law_1195 hce (fun r7 u8 H locs hw hP hD hS => ?_)
  obtain ⟨I9, J10, R11, L12⟩ := u8
  replace hP : va_P G.1 vwCl ((Wm G gm qm I9 J10 R11 L12) ++ (Wd G g q I3 J4 R5 L6)) H := hP
  replace hD : va_D A ((Wm G gm qm I9 J10 R11 L12) ++ (Wd G g q I3 J4 R5 L6)) := hD
  obtain ⟨mvI, mvR, tIr7, tRr7, f0_r7⟩ := hw
  replace f0_r7 : ((0 : Int) ≤ r7.toInt ∧ r7.toInt ≤ (16 : Int)) := f0_r7
  replace mvI : InvI Wm_lo Wm_hi I9 := mvI
  replace mvR : InvR Wm_rl R11 := mvR
  have hWf : WfM I9 R11 := wm_sm hWf (tIr7 10 rfl) (tRr7 22 rfl) (tRr7 23 rfl) (tRr7 24 rfl) (tRr7 25 rfl) (tRr7 26 rfl)
  have hP := sw_P hP
  have hD := sw_D hD
  refine lv_pop hx hb dL_law_1198 rfl ?_
  refine lv_goto (tgt := 1261) hx hb dL_law_1199 (by decide) ?_
  exact kk g q I3 J4 R5 L6 I9 J10 R11 L12 _ _ _ rfl ⟨⟨hvI, hvR, hq0, hq3⟩, mvI, mvR, hWf⟩ hP hD hS hl
set_option maxHeartbeats 4000000 in
set_option maxRecDepth 100000 in
theorem lc_38 {p : Program} {l : Launch} {e : Env} {s : State} {m : MethodId} {below : List Frame} {meth : Method} {c : Code} {b N : Nat} {xs : Nat → Int32} {A : Nat → Prop} {cells slots : Nat} {Q : State → Prop} (G : Gx) (hN : N ≤ 3072) (F : CallFix p m c cL_law 4 s #[Value.ref b] tb RL) (hK : KX G s) (hA : HA G s A) (hbA : ¬ A b) (hX : va_X b N xs s s.heap) (hbl : b < s.heap.size) (hce : cells ≤ room_1.cells ∧ slots ≤ room_1.slots) (g q : Nat → Nat) (I : Nat → Int32) (J : Nat → Int64) (R : Nat → Nat → Int32) (L : Nat → Nat → Int64) (gm qm : Nat → Nat) (Im : Nat → Int32) (Jm : Nat → Int64) (Rm : Nat → Nat → Int32) (Lm : Nat → Nat → Int64) (hst : LI g q I R Im Rm) {H : Heap} {locs : List Loc} {ls : Array Slot} {i : Int32} (hi : 0 ≤ i.toInt ∧ i.toInt + 6 ≤ (N : Int)) (hP : va_P G.1 vwCl (Wd G g q I J R L ++ Wm G gm qm Im Jm Rm Lm) H) (hD : va_D A (Wd G g q I J R L ++ Wm G gm qm Im Jm Rm Lm)) (hS : va_S A s.heap H locs) (hl : lv_has ls 4 [(3, .int i), (2, .ref (gm 45)), (1, .ref (g 74)), (0, .ref b)]) (kk : ∀ (g1 q1 : Nat → Nat) (I1 : Nat → Int32) (J1 : Nat → Int64) (R1 : Nat → Nat → Int32) (L1 : Nat → Nat → Int64) (I2 : Nat → Int32) (J2 : Nat → Int64) (R2 : Nat → Nat → Int32) (L2 : Nat → Nat → Int64) (H : Heap) (locs : List Loc) (ls : Array Slot), g1 74 = g 74 → LI g1 q1 I1 R1 I2 R2 → va_P G.1 vwCl (Wd G g1 q1 I1 J1 R1 L1 ++ Wm G gm qm I2 J2 R2 L2) H → va_D A (Wd G g1 q1 I1 J1 R1 L1 ++ Wm G gm qm I2 J2 R2 L2) → va_S A s.heap H locs → lv_has ls 4 [(3, .int i), (2, .ref (gm 45)), (1, .ref (g 74)), (0, .ref b)] → W p l e room_1 s m #[Value.ref b] below meth c H locs cells slots Q (F0 m 1261 ls [])) : W p l e room_1 s m #[Value.ref b] below meth c H locs cells slots Q (F0 m 1202 ls []) := by
  have hx := F.1
  have hb := F.2.1
  have hown := F.2.2.2.1
  obtain ⟨⟨hvI, hvR, hq0, hq3⟩, mvI, mvR, hWf⟩ := hst
  refine lv_aload_n hx hb dL_law_1202 rfl (lv_at hl 2 rfl) ?_
  refine lv_aload_n hx hb dL_law_1203 rfl (lv_at hl 3 rfl) ?_
  refine lv_iload_n hx hb dL_law_1204 rfl (lv_at hl 0 rfl) ?_
  refine lv_iconst (v := 1) hx hb dL_law_1205 (by decide) ?_
  refine lv_iadd hx hb dL_law_1206 ?_
  refine lv_topi (fun x1 ex1 => ?_)
  have fx1 : x1.toInt = i.toInt + (1 : Int) := by rw [ex1]; exact t_add (by show (-2147483648 : Int) ≤ i.toInt + (1 : Int); omega) (by show i.toInt + (1 : Int) ≤ 2147483647; omega)
  refine va_sld hx hb hX hbl hbA hS (in_of (by omega)) dL_law_1207 ?_
  refine lv_topi (fun v2 ev2 => ?_)
  refine xvi (X := (Wd G g q I J R L)) (Y := (Wm G gm qm Im Jm Rm Lm)) (As := [.int v2]) (rest := []) (b := (g 74)) (d := 2) F hK hP hD hS hA (s_X11_octet l G g q I J R L hvI hvR hq3 v2 ) kmV_X11_octet mlL_176 clX11 rfl 66 (Wd_at66 G g q I J R L) ⟨(Nat.le_of_ble_eq_true rfl), (Nat.le_of_ble_eq_true rfl)⟩ hl.1 rfl (Nat.le_of_ble_eq_true rfl) dL_law_1208 hce (fun r3 u4 H locs hw hP hD hS => ?_)
  replace hP : va_P G.1 vwCl ((Wd G g q I J R L) ++ (Wm G gm qm Im Jm Rm Lm)) H := hP
  replace hD : va_D A ((Wd G g q I J R L) ++ (Wm G gm qm Im Jm Rm Lm)) := hD
  refine lv_pop hx hb dL_law_1211 rfl ?_
  refine lv_aload_n hx hb dL_law_1212 rfl (lv_at hl 1 rfl) ?_
  refine lv_aload_n hx hb dL_law_1213 rfl (lv_at hl 3 rfl) ?_
  refine lv_iload_n hx hb dL_law_1214 rfl (lv_at hl 0 rfl) ?_
  refine lv_iconst (v := 1) hx hb dL_law_1215 (by decide) ?_
  refine lv_iadd hx hb dL_law_1216 ?_
  refine lv_topi (fun x5 ex5 => ?_)
  have fx5 : x5.toInt = i.toInt + (1 : Int) := by rw [ex5]; exact t_add (by show (-2147483648 : Int) ≤ i.toInt + (1 : Int); omega) (by show i.toInt + (1 : Int) ≤ 2147483647; omega)
  refine va_sld hx hb hX hbl hbA hS (in_of (by omega)) dL_law_1217 ?_
  refine lv_topi (fun v6 ev6 => ?_)
  have hP := sw_P hP
  have hD := sw_D hD
  refine xvi (X := (Wm G gm qm Im Jm Rm Lm)) (Y := (Wd G g q I J R L)) (As := [.int v6]) (rest := []) (b := (gm 45)) (d := 1) F hK hP hD hS hA (s_X12_octet l G gm qm Im Jm Rm Lm mvI mvR v6 ) kmV_X12_octet mlL_179 clX12 rfl 0 (Wm_at0 G gm qm Im Jm Rm Lm) ⟨(Nat.le_of_ble_eq_true rfl), (Nat.le_of_ble_eq_true rfl)⟩ hl.1 rfl (Nat.le_of_ble_eq_true rfl) dL_law_1218 hce (fun r7 u8 H locs hw hP hD hS => ?_)
  replace hP : va_P G.1 vwCl ((Wm G gm qm Im Jm Rm Lm) ++ (Wd G g q I J R L)) H := hP
  replace hD : va_D A ((Wm G gm qm Im Jm Rm Lm) ++ (Wd G g q I J R L)) := hD
  have hP := sw_P hP
  have hD := sw_D hD
  refine lv_pop hx hb dL_law_1221 rfl ?_
  refine lv_goto (tgt := 1261) hx hb dL_law_1222 (by decide) ?_
  exact kk g q I J R L Im Jm Rm Lm _ _ _ rfl ⟨⟨hvI, hvR, hq0, hq3⟩, mvI, mvR, hWf⟩ hP hD hS hl
set_option maxHeartbeats 4000000 in
set_option maxRecDepth 100000 in
theorem lc_39 {p : Program} {l : Launch} {e : Env} {s : State} {m : MethodId} {below : List Frame} {meth : Method} {c : Code} {b N : Nat} {xs : Nat → Int32} {A : Nat → Prop} {cells slots : Nat} {Q : State → Prop} (G : Gx) (hN : N ≤ 3072) (F : CallFix p m c cL_law 4 s #[Value.ref b] tb RL) (hK : KX G s) (hA : HA G s A) (hbA : ¬ A b) (hX : va_X b N xs s s.heap) (hbl : b < s.heap.size) (hce : cells ≤ room_1.cells ∧ slots ≤ room_1.slots) (g q : Nat → Nat) (I : Nat → Int32) (J : Nat → Int64) (R : Nat → Nat → Int32) (L : Nat → Nat → Int64) (gm qm : Nat → Nat) (Im : Nat → Int32) (Jm : Nat → Int64) (Rm : Nat → Nat → Int32) (Lm : Nat → Nat → Int64) (hst : LI g q I R Im Rm) {H : Heap} {locs : List Loc} {ls : Array Slot} {i : Int32} (hi : 0 ≤ i.toInt ∧ i.toInt + 6 ≤ (N : Int)) (hP : va_P G.1 vwCl (Wd G g q I J R L ++ Wm G gm qm Im Jm Rm Lm) H) (hD : va_D A (Wd G g q I J R L ++ Wm G gm qm Im Jm Rm Lm)) (hS : va_S A s.heap H locs) (hl : lv_has ls 4 [(3, .int i), (2, .ref (gm 45)), (1, .ref (g 74)), (0, .ref b)]) (kk : ∀ (g1 q1 : Nat → Nat) (I1 : Nat → Int32) (J1 : Nat → Int64) (R1 : Nat → Nat → Int32) (L1 : Nat → Nat → Int64) (I2 : Nat → Int32) (J2 : Nat → Int64) (R2 : Nat → Nat → Int32) (L2 : Nat → Nat → Int64) (H : Heap) (locs : List Loc) (ls : Array Slot), g1 74 = g 74 → LI g1 q1 I1 R1 I2 R2 → va_P G.1 vwCl (Wd G g1 q1 I1 J1 R1 L1 ++ Wm G gm qm I2 J2 R2 L2) H → va_D A (Wd G g1 q1 I1 J1 R1 L1 ++ Wm G gm qm I2 J2 R2 L2) → va_S A s.heap H locs → lv_has ls 4 [(3, .int i), (2, .ref (gm 45)), (1, .ref (g 74)), (0, .ref b)] → W p l e room_1 s m #[Value.ref b] below meth c H locs cells slots Q (F0 m 1261 ls [])) : W p l e room_1 s m #[Value.ref b] below meth c H locs cells slots Q (F0 m 1225 ls []) := by
  have hx := F.1
  have hb := F.2.1
  have hown := F.2.2.2.1
  obtain ⟨⟨hvI, hvR, hq0, hq3⟩, mvI, mvR, hWf⟩ := hst
  refine lv_aload_n hx hb dL_law_1225 rfl (lv_at hl 2 rfl) ?_
  refine xvi (X := (Wd G g q I J R L)) (Y := (Wm G gm qm Im Jm Rm Lm)) (As := []) (rest := []) (b := (g 74)) (d := 3) F hK hP hD hS hA (s_X11_on l G g q I J R L hvI hvR hq3  ) kmV_X11_on mlL_180 clX11 rfl 66 (Wd_at66 G g q I J R L) ⟨(Nat.le_of_ble_eq_true rfl), (Nat.le_of_ble_eq_true rfl)⟩ hl.1 rfl (Nat.le_of_ble_eq_true rfl) dL_law_1226 hce (fun r1 u2 H locs hw hP hD hS => ?_)
  obtain ⟨I3, J4, R5, L6⟩ := u2
  replace hP : va_P G.1 vwCl ((Wd G g q I3 J4 R5 L6) ++ (Wm G gm qm Im Jm Rm Lm)) H := hP
  replace hD : va_D A ((Wd G g q I3 J4 R5 L6) ++ (Wm G gm qm Im Jm Rm Lm)) := hD
  obtain ⟨hvI, hvR, tIr1, tRr1, f0_r1⟩ := hw
  replace f0_r1 : ((0 : Int) ≤ r1.toInt ∧ r1.toInt ≤ (1 : Int)) := f0_r1
  replace hvI : InvI Wd_lo Wd_hi I3 := hvI
  replace hvR : InvR Wd_rl R5 := hvR
  refine lv_pop hx hb dL_law_1229 rfl ?_
  refine lv_aload_n hx hb dL_law_1230 rfl (lv_at hl 1 rfl) ?_
  have hP := sw_P hP
  have hD := sw_D hD
  refine xvi (X := (Wm G gm qm Im Jm Rm Lm)) (Y := (Wd G g q I3 J4 R5 L6)) (As := []) (rest := []) (b := (gm 45)) (d := 2) F hK hP hD hS hA (s_X12_on l G gm qm Im Jm Rm Lm mvI mvR  ) kmV_X12_on mlL_183 clX12 rfl 0 (Wm_at0 G gm qm Im Jm Rm Lm) ⟨(Nat.le_of_ble_eq_true rfl), (Nat.le_of_ble_eq_true rfl)⟩ hl.1 rfl (Nat.le_of_ble_eq_true rfl) dL_law_1231 hce (fun r7 u8 H locs hw hP hD hS => ?_)
  obtain ⟨I9, J10, R11, L12⟩ := u8
  replace hP : va_P G.1 vwCl ((Wm G gm qm I9 J10 R11 L12) ++ (Wd G g q I3 J4 R5 L6)) H := hP
  replace hD : va_D A ((Wm G gm qm I9 J10 R11 L12) ++ (Wd G g q I3 J4 R5 L6)) := hD
  obtain ⟨mvI, mvR, tIr7, tRr7, f0_r7⟩ := hw
  replace f0_r7 : ((0 : Int) ≤ r7.toInt ∧ r7.toInt ≤ (1 : Int)) := f0_r7
  replace mvI : InvI Wm_lo Wm_hi I9 := mvI
  replace mvR : InvR Wm_rl R11 := mvR
  have hWf : WfM I9 R11 := wm_sm hWf (tIr7 10 rfl) (tRr7 22 rfl) (tRr7 23 rfl) (tRr7 24 rfl) (tRr7 25 rfl) (tRr7 26 rfl)
  have hP := sw_P hP
  have hD := sw_D hD
  refine lv_pop hx hb dL_law_1234 rfl ?_
  refine lv_goto (tgt := 1261) hx hb dL_law_1235 (by decide) ?_
  exact kk g q I3 J4 R5 L6 I9 J10 R11 L12 _ _ _ rfl ⟨⟨hvI, hvR, hq0, hq3⟩, mvI, mvR, hWf⟩ hP hD hS hl
set_option maxHeartbeats 4000000 in
set_option maxRecDepth 100000 in
theorem lc_40 {p : Program} {l : Launch} {e : Env} {s : State} {m : MethodId} {below : List Frame} {meth : Method} {c : Code} {b N : Nat} {xs : Nat → Int32} {A : Nat → Prop} {cells slots : Nat} {Q : State → Prop} (G : Gx) (hN : N ≤ 3072) (F : CallFix p m c cL_law 4 s #[Value.ref b] tb RL) (hK : KX G s) (hA : HA G s A) (hbA : ¬ A b) (hX : va_X b N xs s s.heap) (hbl : b < s.heap.size) (hce : cells ≤ room_1.cells ∧ slots ≤ room_1.slots) (g q : Nat → Nat) (I : Nat → Int32) (J : Nat → Int64) (R : Nat → Nat → Int32) (L : Nat → Nat → Int64) (gm qm : Nat → Nat) (Im : Nat → Int32) (Jm : Nat → Int64) (Rm : Nat → Nat → Int32) (Lm : Nat → Nat → Int64) (hst : LI g q I R Im Rm) {H : Heap} {locs : List Loc} {ls : Array Slot} {i : Int32} (hi : 0 ≤ i.toInt ∧ i.toInt + 6 ≤ (N : Int)) (hP : va_P G.1 vwCl (Wd G g q I J R L ++ Wm G gm qm Im Jm Rm Lm) H) (hD : va_D A (Wd G g q I J R L ++ Wm G gm qm Im Jm Rm Lm)) (hS : va_S A s.heap H locs) (hl : lv_has ls 4 [(3, .int i), (2, .ref (gm 45)), (1, .ref (g 74)), (0, .ref b)]) (kk : ∀ (g1 q1 : Nat → Nat) (I1 : Nat → Int32) (J1 : Nat → Int64) (R1 : Nat → Nat → Int32) (L1 : Nat → Nat → Int64) (I2 : Nat → Int32) (J2 : Nat → Int64) (R2 : Nat → Nat → Int32) (L2 : Nat → Nat → Int64) (H : Heap) (locs : List Loc) (ls : Array Slot), g1 74 = g 74 → LI g1 q1 I1 R1 I2 R2 → va_P G.1 vwCl (Wd G g1 q1 I1 J1 R1 L1 ++ Wm G gm qm I2 J2 R2 L2) H → va_D A (Wd G g1 q1 I1 J1 R1 L1 ++ Wm G gm qm I2 J2 R2 L2) → va_S A s.heap H locs → lv_has ls 4 [(3, .int i), (2, .ref (gm 45)), (1, .ref (g 74)), (0, .ref b)] → W p l e room_1 s m #[Value.ref b] below meth c H locs cells slots Q (F0 m 1261 ls [])) : W p l e room_1 s m #[Value.ref b] below meth c H locs cells slots Q (F0 m 1238 ls []) := by
  have hx := F.1
  have hb := F.2.1
  have hown := F.2.2.2.1
  obtain ⟨⟨hvI, hvR, hq0, hq3⟩, mvI, mvR, hWf⟩ := hst
  refine lv_aload_n hx hb dL_law_1238 rfl (lv_at hl 2 rfl) ?_
  refine lv_aload_n hx hb dL_law_1239 rfl (lv_at hl 3 rfl) ?_
  refine lv_iload_n hx hb dL_law_1240 rfl (lv_at hl 0 rfl) ?_
  refine lv_iconst (v := 1) hx hb dL_law_1241 (by decide) ?_
  refine lv_iadd hx hb dL_law_1242 ?_
  refine lv_topi (fun x1 ex1 => ?_)
  have fx1 : x1.toInt = i.toInt + (1 : Int) := by rw [ex1]; exact t_add (by show (-2147483648 : Int) ≤ i.toInt + (1 : Int); omega) (by show i.toInt + (1 : Int) ≤ 2147483647; omega)
  refine va_sld hx hb hX hbl hbA hS (in_of (by omega)) dL_law_1243 ?_
  refine lv_topi (fun v2 ev2 => ?_)
  refine xvi (X := (Wd G g q I J R L)) (Y := (Wm G gm qm Im Jm Rm Lm)) (As := [.int v2]) (rest := []) (b := (g 74)) (d := 2) F hK hP hD hS hA (s_X11_status l G g q I J R L hvI hvR hq3 v2 ) kmV_X11_status mlL_184 clX11 rfl 66 (Wd_at66 G g q I J R L) ⟨(Nat.le_of_ble_eq_true rfl), (Nat.le_of_ble_eq_true rfl)⟩ hl.1 rfl (Nat.le_of_ble_eq_true rfl) dL_law_1244 hce (fun r3 u4 H locs hw hP hD hS => ?_)
  replace hP : va_P G.1 vwCl ((Wd G g q I J R L) ++ (Wm G gm qm Im Jm Rm Lm)) H := hP
  replace hD : va_D A ((Wd G g q I J R L) ++ (Wm G gm qm Im Jm Rm Lm)) := hD
  refine lv_pop hx hb dL_law_1247 rfl ?_
  refine lv_aload_n hx hb dL_law_1248 rfl (lv_at hl 1 rfl) ?_
  refine lv_aload_n hx hb dL_law_1249 rfl (lv_at hl 3 rfl) ?_
  refine lv_iload_n hx hb dL_law_1250 rfl (lv_at hl 0 rfl) ?_
  refine lv_iconst (v := 1) hx hb dL_law_1251 (by decide) ?_
  refine lv_iadd hx hb dL_law_1252 ?_
  refine lv_topi (fun x5 ex5 => ?_)
  have fx5 : x5.toInt = i.toInt + (1 : Int) := by rw [ex5]; exact t_add (by show (-2147483648 : Int) ≤ i.toInt + (1 : Int); omega) (by show i.toInt + (1 : Int) ≤ 2147483647; omega)
  refine va_sld hx hb hX hbl hbA hS (in_of (by omega)) dL_law_1253 ?_
  refine lv_topi (fun v6 ev6 => ?_)
  have hP := sw_P hP
  have hD := sw_D hD
  refine xvi (X := (Wm G gm qm Im Jm Rm Lm)) (Y := (Wd G g q I J R L)) (As := [.int v6]) (rest := []) (b := (gm 45)) (d := 2) F hK hP hD hS hA (s_X12_status l G gm qm Im Jm Rm Lm mvI mvR v6 ) kmV_X12_status mlL_187 clX12 rfl 0 (Wm_at0 G gm qm Im Jm Rm Lm) ⟨(Nat.le_of_ble_eq_true rfl), (Nat.le_of_ble_eq_true rfl)⟩ hl.1 rfl (Nat.le_of_ble_eq_true rfl) dL_law_1254 hce (fun r7 u8 H locs hw hP hD hS => ?_)
  replace hP : va_P G.1 vwCl ((Wm G gm qm Im Jm Rm Lm) ++ (Wd G g q I J R L)) H := hP
  replace hD : va_D A ((Wm G gm qm Im Jm Rm Lm) ++ (Wd G g q I J R L)) := hD
  have hP := sw_P hP
  have hD := sw_D hD
  refine lv_pop hx hb dL_law_1257 rfl ?_
  refine lv_goto (tgt := 1261) hx hb dL_law_1258 (by decide) ?_
  exact kk g q I J R L Im Jm Rm Lm _ _ _ rfl ⟨⟨hvI, hvR, hq0, hq3⟩, mvI, mvR, hWf⟩ hP hD hS hl
