set_option maxHeartbeats 4000000 in
set_option maxRecDepth 100000 in
theorem law_loop {p : Program} {l : Launch} {e : Env} {s : State} {m : MethodId} {below : List Frame} {meth : Method} {c : Code} {b N : Nat} {xs : Nat → Int32} {A : Nat → Prop} {cells slots : Nat} {Q : State → Prop} (G : Gx) (hN : N ≤ 3072) (F : CallFix p m c cL_law 4 s #[Value.ref b] tb RL) (hK : KX G s) (hA : HA G s A) (hbA : ¬ A b) (hX : va_X b N xs s s.heap) (hbl : b < s.heap.size) (hce : cells ≤ room_1.cells ∧ slots ≤ room_1.slots) (gm qm : Nat → Nat) (x : Nat) (kf : ∀ (H : Heap) (locs : List Loc) (ls : Array Slot), va_S A s.heap H locs → W p l e room_1 s m #[Value.ref b] below meth c H locs cells slots Q (F0 m 1267 ls [])) : ∀ (n : Nat) (g q : Nat → Nat) (I : Nat → Int32) (J : Nat → Int64) (R : Nat → Nat → Int32) (L : Nat → Nat → Int64) (Im : Nat → Int32) (Jm : Nat → Int64) (Rm : Nat → Nat → Int32) (Lm : Nat → Nat → Int64) (H : Heap) (locs : List Loc) (ls : Array Slot) (i : Int32), (N : Int) - i.toInt < (n : Int) → 0 ≤ i.toInt → i.toInt ≤ (N : Int) → g 74 = x → LI g q I R Im Rm → va_P G.1 vwCl (Wd G g q I J R L ++ Wm G gm qm Im Jm Rm Lm) H → va_D A (Wd G g q I J R L ++ Wm G gm qm Im Jm Rm Lm) → va_S A s.heap H locs → lv_has ls 4 [(3, .int i), (2, .ref (gm 45)), (1, .ref x), (0, .ref b)] → W p l e room_1 s m #[Value.ref b] below meth c H locs cells slots Q (F0 m 18 ls []) := by
  have hx := F.1
  have hb := F.2.1
  have hown := F.2.2.2.1
  intro n
  induction n with
  | zero =>
    intro g q I J R L Im Jm Rm Lm H locs ls i hn h0 h1
    exact absurd hn (by omega)
  | succ n ih =>
    intro g q I J R L Im Jm Rm Lm H locs ls i hn h0 h1 hgx hst hP hD hS hl
    subst hgx
    refine lv_iload_n hx hb dL_law_18 rfl (lv_at hl 0 rfl) ?_
    refine lv_aload_n hx hb dL_law_19 rfl (lv_at hl 3 rfl) ?_
    refine va_slen hx hb hX hbl hbA hS dL_law_20 ?_
    refine lv_topi (fun y ey => ?_)
    have fy : y.toInt = (N : Int) := by rw [ey]; exact nI_toInt (by omega)
    refine lv_bipush (v := 6) hx hb dL_law_21 (by decide) ?_
    refine lv_isub hx hb dL_law_23 ?_
    refine lv_topi (fun z ez => ?_)
    have fz : z.toInt = (N : Int) - 6 := by rw [ez]; rw [t_sub (by show (-2147483648 : Int) ≤ y.toInt - 6; omega) (by show y.toInt - 6 ≤ 2147483647; omega)]; show y.toInt - 6 = (N : Int) - 6; omega
    refine lv_icmp_gt (tgt := 1267) hx hb dL_law_24 (by decide) (fun _ => kf _ _ _ hS) (fun hc => ?_)
    have hi : 0 ≤ i.toInt ∧ i.toInt + 6 ≤ (N : Int) := by have : ¬ z.toInt < i.toInt := fun q0 => hc ((tlt _ _).mpr q0); omega
    have kk : ∀ (g1 q1 : Nat → Nat) (I1 : Nat → Int32) (J1 : Nat → Int64) (R1 : Nat → Nat → Int32) (L1 : Nat → Nat → Int64) (I2 : Nat → Int32) (J2 : Nat → Int64) (R2 : Nat → Nat → Int32) (L2 : Nat → Nat → Int64) (H : Heap) (locs : List Loc) (ls : Array Slot), g1 74 = g 74 → LI g1 q1 I1 R1 I2 R2 → va_P G.1 vwCl (Wd G g1 q1 I1 J1 R1 L1 ++ Wm G gm qm I2 J2 R2 L2) H → va_D A (Wd G g1 q1 I1 J1 R1 L1 ++ Wm G gm qm I2 J2 R2 L2) → va_S A s.heap H locs → lv_has ls 4 [(3, .int i), (2, .ref (gm 45)), (1, .ref (g 74)), (0, .ref b)] → W p l e room_1 s m #[Value.ref b] below meth c H locs cells slots Q (F0 m 1261 ls []) := by
      intro g1 q1 I1 J1 R1 L1 I2 J2 R2 L2 H locs ls hg hst hP hD hS hl
      obtain ⟨j, ej⟩ : ∃ y : Int32, y = i + 6 := ⟨_, rfl⟩
      have fj : j.toInt = i.toInt + 6 := by rw [ej]; exact t_add (by show (-2147483648 : Int) ≤ i.toInt + 6; omega) (by show i.toInt + 6 ≤ 2147483647; omega)
      refine lv_iinc (v := j) (lv' := [(3, .int j), (2, .ref (gm 45)), (1, .ref (g 74)), (0, .ref b)]) hx hb dL_law_1261 hl (k := 0) rfl (by rw [ej]; rfl) (by decide) rfl (fun ls hl => ?_)
      refine lv_goto (tgt := 18) hx hb dL_law_1264 (by decide) ?_
      exact ih g1 q1 I1 J1 R1 L1 I2 J2 R2 L2 _ _ _ j (by omega) (by omega) (by omega) hg hst hP hD hS hl
    refine lv_aload_n hx hb dL_law_27 rfl (lv_at hl 3 rfl) ?_
    refine lv_iload_n hx hb dL_law_28 rfl (lv_at hl 0 rfl) ?_
    refine va_sld hx hb hX hbl hbA hS (in_of (by omega)) dL_law_29 ?_
    refine lv_bipush (v := 63) hx hb dL_law_30 (by decide) ?_
    refine lv_iand hx hb dL_law_32 ?_
    refine lv_topi (fun o eo => ?_)
    by_cases h0 : o = 0
    · refine cst_i h0 ?_
      refine lv_tableIn (off := 179) (tgt := 212) hx hb dL_law_33 (by decide) (by decide) rfl (by decide) ?_
      exact lc_0 G hN F hK hA hbA hX hbl hce g q I J R L gm qm Im Jm Rm Lm hst hi hP hD hS hl kk
    by_cases h1 : o = 1
    · refine cst_i h1 ?_
      refine lv_tableIn (off := 242) (tgt := 275) hx hb dL_law_33 (by decide) (by decide) rfl (by decide) ?_
      exact lc_1 G hN F hK hA hbA hX hbl hce g q I J R L gm qm Im Jm Rm Lm hst hi hP hD hS hl kk
    by_cases h2 : o = 2
    · refine cst_i h2 ?_
      refine lv_tableIn (off := 265) (tgt := 298) hx hb dL_law_33 (by decide) (by decide) rfl (by decide) ?_
      exact lc_2 G hN F hK hA hbA hX hbl hce g q I J R L gm qm Im Jm Rm Lm hst hi hP hD hS hl kk
    by_cases h3 : o = 3
    · refine cst_i h3 ?_
      refine lv_tableIn (off := 278) (tgt := 311) hx hb dL_law_33 (by decide) (by decide) rfl (by decide) ?_
      exact lc_3 G hN F hK hA hbA hX hbl hce g q I J R L gm qm Im Jm Rm Lm hst hi hP hD hS hl kk
    by_cases h4 : o = 4
    · refine cst_i h4 ?_
      refine lv_tableIn (off := 301) (tgt := 334) hx hb dL_law_33 (by decide) (by decide) rfl (by decide) ?_
      exact lc_4 G hN F hK hA hbA hX hbl hce g q I J R L gm qm Im Jm Rm Lm hst hi hP hD hS hl kk
    by_cases h5 : o = 5
    · refine cst_i h5 ?_
      refine lv_tableIn (off := 324) (tgt := 357) hx hb dL_law_33 (by decide) (by decide) rfl (by decide) ?_
      exact lc_5 G hN F hK hA hbA hX hbl hce g q I J R L gm qm Im Jm Rm Lm hst hi hP hD hS hl kk
    by_cases h6 : o = 6
    · refine cst_i h6 ?_
      refine lv_tableIn (off := 367) (tgt := 400) hx hb dL_law_33 (by decide) (by decide) rfl (by decide) ?_
      exact lc_6 G hN F hK hA hbA hX hbl hce g q I J R L gm qm Im Jm Rm Lm hst hi hP hD hS hl kk
    by_cases h7 : o = 7
    · refine cst_i h7 ?_
      refine lv_tableIn (off := 400) (tgt := 433) hx hb dL_law_33 (by decide) (by decide) rfl (by decide) ?_
      exact lc_7 G hN F hK hA hbA hX hbl hce g q I J R L gm qm Im Jm Rm Lm hst hi hP hD hS hl kk
    by_cases h8 : o = 8
    · refine cst_i h8 ?_
      refine lv_tableIn (off := 433) (tgt := 466) hx hb dL_law_33 (by decide) (by decide) rfl (by decide) ?_
      exact lc_8 G hN F hK hA hbA hX hbl hce g q I J R L gm qm Im Jm Rm Lm hst hi hP hD hS hl kk
    by_cases h9 : o = 9
    · refine cst_i h9 ?_
      refine lv_tableIn (off := 466) (tgt := 499) hx hb dL_law_33 (by decide) (by decide) rfl (by decide) ?_
      exact lc_9 G hN F hK hA hbA hX hbl hce g q I J R L gm qm Im Jm Rm Lm hst hi hP hD hS hl kk
    by_cases h10 : o = 10
    · refine cst_i h10 ?_
      refine lv_tableIn (off := 479) (tgt := 512) hx hb dL_law_33 (by decide) (by decide) rfl (by decide) ?_
      exact lc_10 G hN F hK hA hbA hX hbl hce g q I J R L gm qm Im Jm Rm Lm hst hi hP hD hS hl kk
    by_cases h11 : o = 11
    · refine cst_i h11 ?_
      refine lv_tableIn (off := 512) (tgt := 545) hx hb dL_law_33 (by decide) (by decide) rfl (by decide) ?_
      exact lc_11 G hN F hK hA hbA hX hbl hce g q I J R L gm qm Im Jm Rm Lm hst hi hP hD hS hl kk
    by_cases h12 : o = 12
    · refine cst_i h12 ?_
      refine lv_tableIn (off := 535) (tgt := 568) hx hb dL_law_33 (by decide) (by decide) rfl (by decide) ?_
      exact lc_12 G hN F hK hA hbA hX hbl hce g q I J R L gm qm Im Jm Rm Lm hst hi hP hD hS hl kk
    by_cases h13 : o = 13
    · refine cst_i h13 ?_
      refine lv_tableIn (off := 558) (tgt := 591) hx hb dL_law_33 (by decide) (by decide) rfl (by decide) ?_
      exact lc_13 G hN F hK hA hbA hX hbl hce g q I J R L gm qm Im Jm Rm Lm hst hi hP hD hS hl kk
    by_cases h14 : o = 14
    · refine cst_i h14 ?_
      refine lv_tableIn (off := 571) (tgt := 604) hx hb dL_law_33 (by decide) (by decide) rfl (by decide) ?_
      exact lc_14 G hN F hK hA hbA hX hbl hce g q I J R L gm qm Im Jm Rm Lm hst hi hP hD hS hl kk
    by_cases h15 : o = 15
    · refine cst_i h15 ?_
      refine lv_tableIn (off := 584) (tgt := 617) hx hb dL_law_33 (by decide) (by decide) rfl (by decide) ?_
      exact lc_15 G hN F hK hA hbA hX hbl hce g q I J R L gm qm Im Jm Rm Lm hst hi hP hD hS hl kk
    by_cases h16 : o = 16
    · refine cst_i h16 ?_
      refine lv_tableIn (off := 597) (tgt := 630) hx hb dL_law_33 (by decide) (by decide) rfl (by decide) ?_
      exact lc_16 G hN F hK hA hbA hX hbl hce g q I J R L gm qm Im Jm Rm Lm hst hi hP hD hS hl kk
    by_cases h17 : o = 17
    · refine cst_i h17 ?_
      refine lv_tableIn (off := 610) (tgt := 643) hx hb dL_law_33 (by decide) (by decide) rfl (by decide) ?_
      exact lc_17 G hN F hK hA hbA hX hbl hce g q I J R L gm qm Im Jm Rm Lm hst hi hP hD hS hl kk
    by_cases h18 : o = 18
    · refine cst_i h18 ?_
      refine lv_tableIn (off := 633) (tgt := 666) hx hb dL_law_33 (by decide) (by decide) rfl (by decide) ?_
      exact lc_18 G hN F hK hA hbA hX hbl hce g q I J R L gm qm Im Jm Rm Lm hst hi hP hD hS hl kk
    by_cases h19 : o = 19
    · refine cst_i h19 ?_
      refine lv_tableIn (off := 666) (tgt := 699) hx hb dL_law_33 (by decide) (by decide) rfl (by decide) ?_
      exact lc_19 G hN F hK hA hbA hX hbl hce g q I J R L gm qm Im Jm Rm Lm hst hi hP hD hS hl kk
    by_cases h20 : o = 20
    · refine cst_i h20 ?_
      refine lv_tableIn (off := 699) (tgt := 732) hx hb dL_law_33 (by decide) (by decide) rfl (by decide) ?_
      exact lc_20 G hN F hK hA hbA hX hbl hce g q I J R L gm qm Im Jm Rm Lm hst hi hP hD hS hl kk
    by_cases h21 : o = 21
    · refine cst_i h21 ?_
      refine lv_tableIn (off := 722) (tgt := 755) hx hb dL_law_33 (by decide) (by decide) rfl (by decide) ?_
      exact lc_21 G hN F hK hA hbA hX hbl hce g q I J R L gm qm Im Jm Rm Lm hst hi hP hD hS hl kk
    by_cases h22 : o = 22
    · refine cst_i h22 ?_
      refine lv_tableIn (off := 761) (tgt := 794) hx hb dL_law_33 (by decide) (by decide) rfl (by decide) ?_
      exact lc_22 G hN F hK hA hbA hX hbl hce g q I J R L gm qm Im Jm Rm Lm hst hi hP hD hS hl kk
    by_cases h23 : o = 23
    · refine cst_i h23 ?_
      refine lv_tableIn (off := 794) (tgt := 827) hx hb dL_law_33 (by decide) (by decide) rfl (by decide) ?_
      exact lc_23 G hN F hK hA hbA hX hbl hce g q I J R L gm qm Im Jm Rm Lm hst hi hP hD hS hl kk
    by_cases h24 : o = 24
    · refine cst_i h24 ?_
      refine lv_tableIn (off := 827) (tgt := 860) hx hb dL_law_33 (by decide) (by decide) rfl (by decide) ?_
      exact lc_24 G hN F hK hA hbA hX hbl hce g q I J R L gm qm Im Jm Rm Lm hst hi hP hD hS hl kk
    by_cases h25 : o = 25
    · refine cst_i h25 ?_
      refine lv_tableIn (off := 870) (tgt := 903) hx hb dL_law_33 (by decide) (by decide) rfl (by decide) ?_
      exact lc_25 G hN F hK hA hbA hX hbl hce g q I J R L gm qm Im Jm Rm Lm hst hi hP hD hS hl kk
    by_cases h26 : o = 26
    · refine cst_i h26 ?_
      refine lv_tableIn (off := 893) (tgt := 926) hx hb dL_law_33 (by decide) (by decide) rfl (by decide) ?_
      exact lc_26 G hN F hK hA hbA hX hbl hce g q I J R L gm qm Im Jm Rm Lm hst hi hP hD hS hl kk
    by_cases h27 : o = 27
    · refine cst_i h27 ?_
      refine lv_tableIn (off := 916) (tgt := 949) hx hb dL_law_33 (by decide) (by decide) rfl (by decide) ?_
      exact lc_27 G hN F hK hA hbA hX hbl hce g q I J R L gm qm Im Jm Rm Lm hst hi hP hD hS hl kk
    by_cases h28 : o = 28
    · refine cst_i h28 ?_
      refine lv_tableIn (off := 939) (tgt := 972) hx hb dL_law_33 (by decide) (by decide) rfl (by decide) ?_
      exact lc_28 G hN F hK hA hbA hX hbl hce g q I J R L gm qm Im Jm Rm Lm hst hi hP hD hS hl kk
    by_cases h29 : o = 29
    · refine cst_i h29 ?_
      refine lv_tableIn (off := 962) (tgt := 995) hx hb dL_law_33 (by decide) (by decide) rfl (by decide) ?_
      exact lc_29 G hN F hK hA hbA hX hbl hce g q I J R L gm qm Im Jm Rm Lm hst hi hP hD hS hl kk
    by_cases h30 : o = 30
    · refine cst_i h30 ?_
      refine lv_tableIn (off := 985) (tgt := 1018) hx hb dL_law_33 (by decide) (by decide) rfl (by decide) ?_
      exact lc_30 G hN F hK hA hbA hX hbl hce g q I J R L gm qm Im Jm Rm Lm hst hi hP hD hS hl kk
    by_cases h31 : o = 31
    · refine cst_i h31 ?_
      refine lv_tableIn (off := 1018) (tgt := 1051) hx hb dL_law_33 (by decide) (by decide) rfl (by decide) ?_
      exact lc_31 G hN F hK hA hbA hX hbl hce g q I J R L gm qm Im Jm Rm Lm hst hi hP hD hS hl kk
    by_cases h32 : o = 32
    · refine cst_i h32 ?_
      refine lv_tableIn (off := 1051) (tgt := 1084) hx hb dL_law_33 (by decide) (by decide) rfl (by decide) ?_
      exact lc_32 G hN F hK hA hbA hX hbl hce g q I J R L gm qm Im Jm Rm Lm hst hi hP hD hS hl kk
    by_cases h33 : o = 33
    · refine cst_i h33 ?_
      refine lv_tableIn (off := 1074) (tgt := 1107) hx hb dL_law_33 (by decide) (by decide) rfl (by decide) ?_
      exact lc_33 G hN F hK hA hbA hX hbl hce g q I J R L gm qm Im Jm Rm Lm hst hi hP hD hS hl kk
    by_cases h34 : o = 34
    · refine cst_i h34 ?_
      refine lv_tableIn (off := 1097) (tgt := 1130) hx hb dL_law_33 (by decide) (by decide) rfl (by decide) ?_
      exact lc_34 G hN F hK hA hbA hX hbl hce g q I J R L gm qm Im Jm Rm Lm hst hi hP hD hS hl kk
    by_cases h35 : o = 35
    · refine cst_i h35 ?_
      refine lv_tableIn (off := 1110) (tgt := 1143) hx hb dL_law_33 (by decide) (by decide) rfl (by decide) ?_
      exact lc_35 G hN F hK hA hbA hX hbl hce g q I J R L gm qm Im Jm Rm Lm hst hi hP hD hS hl kk
    by_cases h36 : o = 36
    · refine cst_i h36 ?_
      refine lv_tableIn (off := 1133) (tgt := 1166) hx hb dL_law_33 (by decide) (by decide) rfl (by decide) ?_
      exact lc_36 G hN F hK hA hbA hX hbl hce g q I J R L gm qm Im Jm Rm Lm hst hi hP hD hS hl kk
    by_cases h37 : o = 37
    · refine cst_i h37 ?_
      refine lv_tableIn (off := 1156) (tgt := 1189) hx hb dL_law_33 (by decide) (by decide) rfl (by decide) ?_
      exact lc_37 G hN F hK hA hbA hX hbl hce g q I J R L gm qm Im Jm Rm Lm hst hi hP hD hS hl kk
    by_cases h38 : o = 38
    · refine cst_i h38 ?_
      refine lv_tableIn (off := 1169) (tgt := 1202) hx hb dL_law_33 (by decide) (by decide) rfl (by decide) ?_
      exact lc_38 G hN F hK hA hbA hX hbl hce g q I J R L gm qm Im Jm Rm Lm hst hi hP hD hS hl kk
    by_cases h39 : o = 39
    · refine cst_i h39 ?_
      refine lv_tableIn (off := 1192) (tgt := 1225) hx hb dL_law_33 (by decide) (by decide) rfl (by decide) ?_
      exact lc_39 G hN F hK hA hbA hX hbl hce g q I J R L gm qm Im Jm Rm Lm hst hi hP hD hS hl kk
    by_cases h40 : o = 40
    · refine cst_i h40 ?_
      refine lv_tableIn (off := 1205) (tgt := 1238) hx hb dL_law_33 (by decide) (by decide) rfl (by decide) ?_
      exact lc_40 G hN F hK hA hbA hX hbl hce g q I J R L gm qm Im Jm Rm Lm hst hi hP hD hS hl kk
    have fo : (0 : Int) ≤ o.toInt ∧ o.toInt ≤ (63 : Int) := by rw [eo]; exact t_and (b := 63) (by decide)
    refine lv_tableOut (tgt := 1261) hx hb dL_law_33 (by have g0 := lv_neT h0 (a := 0) rfl; have g1 := lv_neT h1 (a := 1) rfl; have g2 := lv_neT h2 (a := 2) rfl; have g3 := lv_neT h3 (a := 3) rfl; have g4 := lv_neT h4 (a := 4) rfl; have g5 := lv_neT h5 (a := 5) rfl; have g6 := lv_neT h6 (a := 6) rfl; have g7 := lv_neT h7 (a := 7) rfl; have g8 := lv_neT h8 (a := 8) rfl; have g9 := lv_neT h9 (a := 9) rfl; have g10 := lv_neT h10 (a := 10) rfl; have g11 := lv_neT h11 (a := 11) rfl; have g12 := lv_neT h12 (a := 12) rfl; have g13 := lv_neT h13 (a := 13) rfl; have g14 := lv_neT h14 (a := 14) rfl; have g15 := lv_neT h15 (a := 15) rfl; have g16 := lv_neT h16 (a := 16) rfl; have g17 := lv_neT h17 (a := 17) rfl; have g18 := lv_neT h18 (a := 18) rfl; have g19 := lv_neT h19 (a := 19) rfl; have g20 := lv_neT h20 (a := 20) rfl; have g21 := lv_neT h21 (a := 21) rfl; have g22 := lv_neT h22 (a := 22) rfl; have g23 := lv_neT h23 (a := 23) rfl; have g24 := lv_neT h24 (a := 24) rfl; have g25 := lv_neT h25 (a := 25) rfl; have g26 := lv_neT h26 (a := 26) rfl; have g27 := lv_neT h27 (a := 27) rfl; have g28 := lv_neT h28 (a := 28) rfl; have g29 := lv_neT h29 (a := 29) rfl; have g30 := lv_neT h30 (a := 30) rfl; have g31 := lv_neT h31 (a := 31) rfl; have g32 := lv_neT h32 (a := 32) rfl; have g33 := lv_neT h33 (a := 33) rfl; have g34 := lv_neT h34 (a := 34) rfl; have g35 := lv_neT h35 (a := 35) rfl; have g36 := lv_neT h36 (a := 36) rfl; have g37 := lv_neT h37 (a := 37) rfl; have g38 := lv_neT h38 (a := 38) rfl; have g39 := lv_neT h39 (a := 39) rfl; have g40 := lv_neT h40 (a := 40) rfl; omega) (by decide) ?_
    exact kk g q I J R L Im Jm Rm Lm _ _ _ rfl hst hP hD hS hl
