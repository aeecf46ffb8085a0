set_option maxHeartbeats 4000000 in
set_option maxRecDepth 100000 in
theorem k_J6_bitCount_0f7a4 (l : Launch) (G : Gx) (i : Nat)  : CtI (S := Unit) l yJ6_bitCount_0f7a4 cJ6_bitCount_0f7a4 1 (some .int) (rmD 1 0 0) G [.int (nI i)] [] (fun r _ => i = 0 → r = 0) (fun _ => []) := by
  refine ctI_of (own := RJ6) (by decide +kernel) rfl (Nat.le_of_ble_eq_true rfl) ?_
  intro p e s m below meth c A ls F hr hlk hnm hK hP hD hA hS hl
  have hx := F.1
  have hb := F.2.1
  have hown := F.2.2.2.1
  have hl : lv_has ls 1 [(0, .int (nI i))] := hl
  refine lv_iload_n hx hb dJ6_bitCount_0f7a4_0 rfl (lv_at hl 0 rfl) ?_
  refine lv_iload_n hx hb dJ6_bitCount_0f7a4_1 rfl (lv_at hl 0 rfl) ?_
  refine lv_iconst (v := 1) hx hb dJ6_bitCount_0f7a4_2 (by decide) ?_
  obtain ⟨x1, ex1⟩ : ∃ y : Int32, ((nI i).toUInt32 >>> ((1 : Int32).toUInt32 &&& Int32.toUInt32 31)).toInt32 = y := ⟨_, rfl⟩
  refine lv_iushr (v := x1) hx hb dJ6_bitCount_0f7a4_3 ex1 ?_
  refine lv_ldcw hx hb hown (F.2.2.2.2 _ cnJ6_265) dJ6_bitCount_0f7a4_4 ?_
  refine lv_iand hx hb dJ6_bitCount_0f7a4_7 ?_
  refine lv_topi (fun x2 ex2 => ?_)
  refine lv_isub hx hb dJ6_bitCount_0f7a4_8 ?_
  refine lv_topi (fun x3 ex3 => ?_)
  refine lv_istore_n (lv' := [(0, .int x3)]) hx hb dJ6_bitCount_0f7a4_9 rfl hl (by decide) rfl (fun ls hl => ?_)
  refine lv_iload_n hx hb dJ6_bitCount_0f7a4_10 rfl (lv_at hl 0 rfl) ?_
  refine lv_ldcw hx hb hown (F.2.2.2.2 _ cnJ6_266) dJ6_bitCount_0f7a4_11 ?_
  refine lv_iand hx hb dJ6_bitCount_0f7a4_14 ?_
  refine lv_topi (fun x4 ex4 => ?_)
  refine lv_iload_n hx hb dJ6_bitCount_0f7a4_15 rfl (lv_at hl 0 rfl) ?_
  refine lv_iconst (v := 2) hx hb dJ6_bitCount_0f7a4_16 (by decide) ?_
  obtain ⟨x5, ex5⟩ : ∃ y : Int32, (x3.toUInt32 >>> ((2 : Int32).toUInt32 &&& Int32.toUInt32 31)).toInt32 = y := ⟨_, rfl⟩
  refine lv_iushr (v := x5) hx hb dJ6_bitCount_0f7a4_17 ex5 ?_
  refine lv_ldcw hx hb hown (F.2.2.2.2 _ cnJ6_266) dJ6_bitCount_0f7a4_18 ?_
  refine lv_iand hx hb dJ6_bitCount_0f7a4_21 ?_
  refine lv_topi (fun x6 ex6 => ?_)
  refine lv_iadd hx hb dJ6_bitCount_0f7a4_22 ?_
  refine lv_topi (fun x7 ex7 => ?_)
  refine lv_istore_n (lv' := [(0, .int x7)]) hx hb dJ6_bitCount_0f7a4_23 rfl hl (by decide) rfl (fun ls hl => ?_)
  refine lv_iload_n hx hb dJ6_bitCount_0f7a4_24 rfl (lv_at hl 0 rfl) ?_
  refine lv_iload_n hx hb dJ6_bitCount_0f7a4_25 rfl (lv_at hl 0 rfl) ?_
  refine lv_iconst (v := 4) hx hb dJ6_bitCount_0f7a4_26 (by decide) ?_
  obtain ⟨x8, ex8⟩ : ∃ y : Int32, (x7.toUInt32 >>> ((4 : Int32).toUInt32 &&& Int32.toUInt32 31)).toInt32 = y := ⟨_, rfl⟩
  refine lv_iushr (v := x8) hx hb dJ6_bitCount_0f7a4_27 ex8 ?_
  refine lv_iadd hx hb dJ6_bitCount_0f7a4_28 ?_
  refine lv_topi (fun x9 ex9 => ?_)
  refine lv_ldcw hx hb hown (F.2.2.2.2 _ cnJ6_267) dJ6_bitCount_0f7a4_29 ?_
  refine lv_iand hx hb dJ6_bitCount_0f7a4_32 ?_
  refine lv_topi (fun x10 ex10 => ?_)
  refine lv_istore_n (lv' := [(0, .int x10)]) hx hb dJ6_bitCount_0f7a4_33 rfl hl (by decide) rfl (fun ls hl => ?_)
  refine lv_iload_n hx hb dJ6_bitCount_0f7a4_34 rfl (lv_at hl 0 rfl) ?_
  refine lv_iload_n hx hb dJ6_bitCount_0f7a4_35 rfl (lv_at hl 0 rfl) ?_
  refine lv_bipush (v := 8) hx hb dJ6_bitCount_0f7a4_36 (by decide) ?_
  obtain ⟨x11, ex11⟩ : ∃ y : Int32, (x10.toUInt32 >>> ((8 : Int32).toUInt32 &&& Int32.toUInt32 31)).toInt32 = y := ⟨_, rfl⟩
  refine lv_iushr (v := x11) hx hb dJ6_bitCount_0f7a4_38 ex11 ?_
  refine lv_iadd hx hb dJ6_bitCount_0f7a4_39 ?_
  refine lv_topi (fun x12 ex12 => ?_)
  refine lv_istore_n (lv' := [(0, .int x12)]) hx hb dJ6_bitCount_0f7a4_40 rfl hl (by decide) rfl (fun ls hl => ?_)
  refine lv_iload_n hx hb dJ6_bitCount_0f7a4_41 rfl (lv_at hl 0 rfl) ?_
  refine lv_iload_n hx hb dJ6_bitCount_0f7a4_42 rfl (lv_at hl 0 rfl) ?_
  refine lv_bipush (v := 16) hx hb dJ6_bitCount_0f7a4_43 (by decide) ?_
  obtain ⟨x13, ex13⟩ : ∃ y : Int32, (x12.toUInt32 >>> ((16 : Int32).toUInt32 &&& Int32.toUInt32 31)).toInt32 = y := ⟨_, rfl⟩
  refine lv_iushr (v := x13) hx hb dJ6_bitCount_0f7a4_45 ex13 ?_
  refine lv_iadd hx hb dJ6_bitCount_0f7a4_46 ?_
  refine lv_topi (fun x14 ex14 => ?_)
  refine lv_istore_n (lv' := [(0, .int x14)]) hx hb dJ6_bitCount_0f7a4_47 rfl hl (by decide) rfl (fun ls hl => ?_)
  refine lv_iload_n hx hb dJ6_bitCount_0f7a4_48 rfl (lv_at hl 0 rfl) ?_
  refine lv_bipush (v := 63) hx hb dJ6_bitCount_0f7a4_49 (by decide) ?_
  refine lv_iand hx hb dJ6_bitCount_0f7a4_51 ?_
  refine lv_topi (fun x15 ex15 => ?_)
  exact r_i F hr hlk hP hD hS () [] rfl rfl (fun q => by subst q; subst_vars; decide +kernel) dJ6_bitCount_0f7a4_52 (Nat.le_of_ble_eq_true rfl) (Nat.le_of_ble_eq_true rfl)
set_option maxHeartbeats 4000000 in
set_option maxRecDepth 100000 in
theorem lp_sets {p : Program} {l : Launch} {e : Env} {R : Room} {s : State} {m : MethodId} {args : Array Value} {below : List Frame} {meth : Method} {c : Code} {A : Nat → Prop} {cells slots : Nat} {Q : State → Prop} (G : Gx) (d : Int32) (fl : Nat) (fl_3 : Nat) (fl_4 : Nat) (fl_5 : Nat) (fl_6 : Nat) (fl_7 : Nat) (pl : Nat) (ho : Nat) (pl_1 : Nat) (pl_5 : Nat) (pe : Nat) (ru : Nat) (ho_4 : Nat) (ho_5 : Nat) (ho_6 : Nat) (ho_8 : Nat) (ho_9 : Nat) (ho_10 : Nat) (ho_11 : Nat) (ho_12 : Nat) (pe_1 : Nat) (pe_2 : Nat) (pe_3 : Nat) (pe_4 : Nat) (pe_5 : Nat) (pe_6 : Nat) (pe_7 : Nat) (pe_8 : Nat) (pe_9 : Nat) (pe_10 : Nat)  (hRf : 4 ≤ R.frames) (hRl : 240 ≤ R.locals) (hRc : cells ≤ R.cells) (hRs : slots ≤ R.slots) (F : CallFix p m c cX4_setsForOneMore 5 s args tb RX4) (hK : KX G s) (hA : HA G s A)
    (kx : ∀ (cnt : Int32) (H : Heap) (locs : List Loc) (ls : Array Slot), (cnt = fG d) → va_P G.1 vwCl [(fl, .inr (1, [.int 0, .int 0, .int 0, .ref fl_3, .ref fl_4, .ref fl_5, .ref fl_6, .ref fl_7])), (pl, .inr (4, [.ref ho, .ref pl_1, .int 0, .int (-1), .int (-1), .ref pl_5])), (ho, .inr (2, [.ref fl, .ref pe, .ref ru, .int 0, .ref ho_4, .ref ho_5, .ref ho_6, .int 0, .ref ho_8, .ref ho_9, .ref ho_10, .ref ho_11, .ref ho_12, .int 50])), (pe, .inr (3, [.int 0, .ref pe_1, .ref pe_2, .ref pe_3, .ref pe_4, .ref pe_5, .ref pe_6, .ref pe_7, .ref pe_8, .ref pe_9, .ref pe_10]))] H → va_D A [(fl, .inr (1, [.int 0, .int 0, .int 0, .ref fl_3, .ref fl_4, .ref fl_5, .ref fl_6, .ref fl_7])), (pl, .inr (4, [.ref ho, .ref pl_1, .int 0, .int (-1), .int (-1), .ref pl_5])), (ho, .inr (2, [.ref fl, .ref pe, .ref ru, .int 0, .ref ho_4, .ref ho_5, .ref ho_6, .int 0, .ref ho_8, .ref ho_9, .ref ho_10, .ref ho_11, .ref ho_12, .int 50])), (pe, .inr (3, [.int 0, .ref pe_1, .ref pe_2, .ref pe_3, .ref pe_4, .ref pe_5, .ref pe_6, .ref pe_7, .ref pe_8, .ref pe_9, .ref pe_10]))] → va_S A s.heap H locs → lv_has ls 5 [(3, .int cnt)] → W p l e R s m args below meth c H locs cells slots Q (F0 m 89 ls [])) :
    ∀ (k : Nat) (cnt : Int32) (i : Nat) (H : Heap) (locs : List Loc) (ls : Array Slot), i + k = 32 → (cnt = if i = 0 then 0 else fG d) → va_P G.1 vwCl [(fl, .inr (1, [.int 0, .int 0, .int 0, .ref fl_3, .ref fl_4, .ref fl_5, .ref fl_6, .ref fl_7])), (pl, .inr (4, [.ref ho, .ref pl_1, .int 0, .int (-1), .int (-1), .ref pl_5])), (ho, .inr (2, [.ref fl, .ref pe, .ref ru, .int 0, .ref ho_4, .ref ho_5, .ref ho_6, .int 0, .ref ho_8, .ref ho_9, .ref ho_10, .ref ho_11, .ref ho_12, .int 50])), (pe, .inr (3, [.int 0, .ref pe_1, .ref pe_2, .ref pe_3, .ref pe_4, .ref pe_5, .ref pe_6, .ref pe_7, .ref pe_8, .ref pe_9, .ref pe_10]))] H → va_D A [(fl, .inr (1, [.int 0, .int 0, .int 0, .ref fl_3, .ref fl_4, .ref fl_5, .ref fl_6, .ref fl_7])), (pl, .inr (4, [.ref ho, .ref pl_1, .int 0, .int (-1), .int (-1), .ref pl_5])), (ho, .inr (2, [.ref fl, .ref pe, .ref ru, .int 0, .ref ho_4, .ref ho_5, .ref ho_6, .int 0, .ref ho_8, .ref ho_9, .ref ho_10, .ref ho_11, .ref ho_12, .int 50])), (pe, .inr (3, [.int 0, .ref pe_1, .ref pe_2, .ref pe_3, .ref pe_4, .ref pe_5, .ref pe_6, .ref pe_7, .ref pe_8, .ref pe_9, .ref pe_10]))] → va_S A s.heap H locs → lv_has ls 5 [(4, .int (nI i)), (3, .int cnt), (2, .int 0), (1, .int d)] → W p l e R s m args below meth c H locs cells slots Q (F0 m 55 ls []) := by
  have hx := F.1
  have hb := F.2.1
  have hown := F.2.2.2.1
  intro k
  induction k with
  | zero =>
    intro cnt i H locs ls hm hI hP hD hS hl
    refine lv_iload hx hb dX4_setsForOneMore_55 (lv_at hl 0 rfl) ?_
    refine lv_bipush (v := 31) hx hb dX4_setsForOneMore_57 (by decide) ?_
    refine lv_icmp_gt (tgt := 89) hx hb dX4_setsForOneMore_59 (by decide) (fun _ => ?_) (fun h_ => absurd (nI_lt (a := 31) (b := i) (by omega) (by omega)) h_)
    exact kx cnt H locs ls (by rw [hI, if_neg (by omega)]) hP hD hS (lv_sub hl [1] rfl)
  | succ k ih =>
    intro cnt i H locs ls hm hI hP hD hS hl
    refine lv_iload hx hb dX4_setsForOneMore_55 (lv_at hl 0 rfl) ?_
    refine lv_bipush (v := 31) hx hb dX4_setsForOneMore_57 (by decide) ?_
    refine lv_icmp_gt (tgt := 89) hx hb dX4_setsForOneMore_59 (by decide) (fun h_ => absurd h_ (nI_nlt (a := 31) (b := i) (by omega) (by decide))) (fun _ => ?_)
    refine lv_iload hx hb dX4_setsForOneMore_62 (lv_at hl 0 rfl) ?_
    refine csi (wr := [(fl, .inr (1, [.int 0, .int 0, .int 0, .ref fl_3, .ref fl_4, .ref fl_5, .ref fl_6, .ref fl_7])), (pl, .inr (4, [.ref ho, .ref pl_1, .int 0, .int (-1), .int (-1), .ref pl_5])), (ho, .inr (2, [.ref fl, .ref pe, .ref ru, .int 0, .ref ho_4, .ref ho_5, .ref ho_6, .int 0, .ref ho_8, .ref ho_9, .ref ho_10, .ref ho_11, .ref ho_12, .int 50])), (pe, .inr (3, [.int 0, .ref pe_1, .ref pe_2, .ref pe_3, .ref pe_4, .ref pe_5, .ref pe_6, .ref pe_7, .ref pe_8, .ref pe_9, .ref pe_10]))]) (As := [.int (nI i)]) (rest := []) (k1 := cells) (s1 := slots) F hK hP hD hS hA (k_J6_bitCount_0f7a4 l G i) kmS_J6_bitCount_0f7a4 mlX4_93 ⟨(Nat.le_trans (Nat.le_of_ble_eq_true rfl) hRf), (Nat.le_trans (Nat.le_of_ble_eq_true rfl) hRl)⟩ [] [0, 1, 2, 3] rfl rfl rfl rfl (by decide) hl.1 rfl (Nat.le_of_ble_eq_true rfl) dX4_setsForOneMore_64 ⟨hRc, hRs⟩ rfl rfl (fun r2 u1 H locs hwr2 (hP : va_P G.1 vwCl [(fl, .inr (1, [.int 0, .int 0, .int 0, .ref fl_3, .ref fl_4, .ref fl_5, .ref fl_6, .ref fl_7])), (pl, .inr (4, [.ref ho, .ref pl_1, .int 0, .int (-1), .int (-1), .ref pl_5])), (ho, .inr (2, [.ref fl, .ref pe, .ref ru, .int 0, .ref ho_4, .ref ho_5, .ref ho_6, .int 0, .ref ho_8, .ref ho_9, .ref ho_10, .ref ho_11, .ref ho_12, .int 50])), (pe, .inr (3, [.int 0, .ref pe_1, .ref pe_2, .ref pe_3, .ref pe_4, .ref pe_5, .ref pe_6, .ref pe_7, .ref pe_8, .ref pe_9, .ref pe_10]))] H) (hD : va_D A [(fl, .inr (1, [.int 0, .int 0, .int 0, .ref fl_3, .ref fl_4, .ref fl_5, .ref fl_6, .ref fl_7])), (pl, .inr (4, [.ref ho, .ref pl_1, .int 0, .int (-1), .int (-1), .ref pl_5])), (ho, .inr (2, [.ref fl, .ref pe, .ref ru, .int 0, .ref ho_4, .ref ho_5, .ref ho_6, .int 0, .ref ho_8, .ref ho_9, .ref ho_10, .ref ho_11, .ref ho_12, .int 50])), (pe, .inr (3, [.int 0, .ref pe_1, .ref pe_2, .ref pe_3, .ref pe_4, .ref pe_5, .ref pe_6, .ref pe_7, .ref pe_8, .ref pe_9, .ref pe_10]))]) hS => ?_)
    refine lv_iload_n hx hb dX4_setsForOneMore_67 rfl (lv_at hl 3 rfl) ?_
    refine lv_icmp_ne (tgt := 83) hx hb dX4_setsForOneMore_68 (by decide) (fun c3 => ?_) (fun c3 => ?_)
    · refine lv_iinc (v := (nI (i + 1))) (lv' := [(4, .int (nI (i + 1))), (3, .int cnt), (2, .int 0), (1, .int d)]) hx hb dX4_setsForOneMore_83 hl (k := 0) rfl (nI_1 i) (by decide) rfl (fun ls hl => ?_)
      refine lv_goto (tgt := 55) hx hb dX4_setsForOneMore_86 (by decide) ?_
      exact ih cnt (i + 1) H locs ls (by omega) (gA hI hwr2 c3) hP hD hS (lv_sub hl [0, 1, 2, 3] rfl)
    · refine lv_iload hx hb dX4_setsForOneMore_71 (lv_at hl 0 rfl) ?_
      refine lv_iload_n hx hb dX4_setsForOneMore_73 rfl (lv_at hl 2 rfl) ?_
      refine lv_iconst (v := (-1)) hx hb dX4_setsForOneMore_74 (by decide) ?_
      refine lv_ixor hx hb dX4_setsForOneMore_75 ?_
      refine cst_i (y := (-1)) (by decide +kernel) ?_
      refine lv_iand hx hb dX4_setsForOneMore_76 ?_
      refine lv_topi (fun x4 ex4 => ?_)
      refine lv_if_ne (tgt := 83) hx hb dX4_setsForOneMore_77 (by decide) (fun c5 => ?_) (fun c5 => ?_)
      · refine lv_iinc (v := (nI (i + 1))) (lv' := [(4, .int (nI (i + 1))), (3, .int cnt), (2, .int 0), (1, .int d)]) hx hb dX4_setsForOneMore_83 hl (k := 0) rfl (nI_1 i) (by decide) rfl (fun ls hl => ?_)
        refine lv_goto (tgt := 55) hx hb dX4_setsForOneMore_86 (by decide) ?_
        exact ih cnt (i + 1) H locs ls (by omega) (gB hI (fun q => c5 (by rw [ex4, q]; decide +kernel))) hP hD hS (lv_sub hl [0, 1, 2, 3] rfl)
      · obtain ⟨x6, ex6⟩ : ∃ y : Int32, y = cnt + 1 := ⟨_, rfl⟩
        refine lv_iinc (v := x6) (lv' := [(3, .int x6), (4, .int (nI i)), (2, .int 0), (1, .int d)]) hx hb dX4_setsForOneMore_80 hl (k := 1) rfl (by rw [ex6]; rfl) (by decide) rfl (fun ls hl => ?_)
        refine lv_iinc (v := (nI (i + 1))) (lv' := [(4, .int (nI (i + 1))), (3, .int x6), (2, .int 0), (1, .int d)]) hx hb dX4_setsForOneMore_83 hl (k := 1) rfl (nI_1 i) (by decide) rfl (fun ls hl => ?_)
        refine lv_goto (tgt := 55) hx hb dX4_setsForOneMore_86 (by decide) ?_
        exact ih x6 (i + 1) H locs ls (by omega) (gC hI (andm i (by omega) (by rw [← ex4]; exact c5)) (by rw [← c3]; exact hwr2 (andm i (by omega) (by rw [← ex4]; exact c5))) ex6) hP hD hS (lv_sub hl [0, 1, 2, 3] rfl)
set_option maxHeartbeats 4000000 in
set_option maxRecDepth 100000 in
theorem k_X4_setsForOneMore (l : Launch) (G : Gx) (pl : Nat) (d : Int32) (ho : Nat) (pl_1 : Nat) (pl_5 : Nat) (fl : Nat) (pe : Nat) (ru : Nat) (ho_4 : Nat) (ho_5 : Nat) (ho_6 : Nat) (ho_8 : Nat) (ho_9 : Nat) (ho_10 : Nat) (ho_11 : Nat) (ho_12 : Nat) (pe_1 : Nat) (pe_2 : Nat) (pe_3 : Nat) (pe_4 : Nat) (pe_5 : Nat) (pe_6 : Nat) (pe_7 : Nat) (pe_8 : Nat) (pe_9 : Nat) (pe_10 : Nat) (fl_3 : Nat) (fl_4 : Nat) (fl_5 : Nat) (fl_6 : Nat) (fl_7 : Nat)  : CtI (S := Unit) l yX4_setsForOneMore cX4_setsForOneMore 5 (some .int) (rmD 5 0 0) G [.ref pl, .int d] [(pl, .inr (4, [.ref ho, .ref pl_1, .int 0, .int (-1), .int (-1), .ref pl_5])), (ho, .inr (2, [.ref fl, .ref pe, .ref ru, .int 0, .ref ho_4, .ref ho_5, .ref ho_6, .int 0, .ref ho_8, .ref ho_9, .ref ho_10, .ref ho_11, .ref ho_12, .int 50])), (pe, .inr (3, [.int 0, .ref pe_1, .ref pe_2, .ref pe_3, .ref pe_4, .ref pe_5, .ref pe_6, .ref pe_7, .ref pe_8, .ref pe_9, .ref pe_10])), (fl, .inr (1, [.int 0, .int 0, .int 0, .ref fl_3, .ref fl_4, .ref fl_5, .ref fl_6, .ref fl_7]))] (fun r _ => r = fG d) (fun _ => []) := by
  refine ctI_of (own := RX4) (by decide +kernel) rfl (Nat.le_of_ble_eq_true rfl) ?_
  intro p e s m below meth c A ls F hr hlk hnm hK hP hD hA hS hl
  have hx := F.1
  have hb := F.2.1
  have hown := F.2.2.2.1
  have hl : lv_has ls 5 [(0, .ref pl), (1, .int d)] := hl
  refine lv_iconst (v := 0) hx hb dX4_setsForOneMore_0 (by decide) ?_
  refine lv_istore_n (lv' := [(2, .int 0), (0, .ref pl), (1, .int d)]) hx hb dX4_setsForOneMore_1 rfl hl (by decide) rfl (fun ls hl => ?_)
  refine lv_iconst (v := 0) hx hb dX4_setsForOneMore_2 (by decide) ?_
  refine lv_istore_n (lv' := [(3, .int 0), (2, .int 0), (0, .ref pl), (1, .int d)]) hx hb dX4_setsForOneMore_3 rfl hl (by decide) rfl (fun ls hl => ?_)
  refine lv_iload_n hx hb dX4_setsForOneMore_4 rfl (lv_at hl 0 rfl) ?_
  refine lv_iconst (v := 5) hx hb dX4_setsForOneMore_5 (by decide) ?_
  refine lv_icmp_ge (tgt := 50) hx hb dX4_setsForOneMore_6 (by decide) (fun h_ => absurd h_ (by decide +kernel)) (fun _ => ?_)
  refine lv_aload_n hx hb dX4_setsForOneMore_9 rfl (lv_at hl 2 rfl) ?_
  refine lv_iload_n hx hb dX4_setsForOneMore_10 rfl (lv_at hl 0 rfl) ?_
  refine cvi (wr := [(fl, .inr (1, [.int 0, .int 0, .int 0, .ref fl_3, .ref fl_4, .ref fl_5, .ref fl_6, .ref fl_7]))]) (As := [.int 0]) (rest := []) (b := pl) (k1 := 0) (s1 := 0) F hK hP hD hS hA (k_X4_inWithoutOwn l G pl 0 ho pl_1 pl_5 fl pe ru ho_4 ho_5 ho_6 ho_8 ho_9 ho_10 ho_11 ho_12 pe_1 pe_2 pe_3 pe_4 pe_5 pe_6 pe_7 pe_8 pe_9 pe_10) kmV_X4_inWithoutOwn mlX4_53 clX4 rfl 0 rfl ⟨(Nat.le_of_ble_eq_true rfl), (Nat.le_of_ble_eq_true rfl)⟩ [0, 1, 2] [3] rfl rfl rfl rfl (by decide) hl.1 rfl (Nat.le_of_ble_eq_true rfl) dX4_setsForOneMore_11 ⟨(Nat.le_of_ble_eq_true rfl), (Nat.le_of_ble_eq_true rfl)⟩ rfl rfl (fun r2 u1 H locs hwr2 (hP : va_P G.1 vwCl [(fl, .inr (1, [.int 0, .int 0, .int 0, .ref fl_3, .ref fl_4, .ref fl_5, .ref fl_6, .ref fl_7])), (pl, .inr (4, [.ref ho, .ref pl_1, .int 0, .int (-1), .int (-1), .ref pl_5])), (ho, .inr (2, [.ref fl, .ref pe, .ref ru, .int 0, .ref ho_4, .ref ho_5, .ref ho_6, .int 0, .ref ho_8, .ref ho_9, .ref ho_10, .ref ho_11, .ref ho_12, .int 50])), (pe, .inr (3, [.int 0, .ref pe_1, .ref pe_2, .ref pe_3, .ref pe_4, .ref pe_5, .ref pe_6, .ref pe_7, .ref pe_8, .ref pe_9, .ref pe_10]))] H) (hD : va_D A [(fl, .inr (1, [.int 0, .int 0, .int 0, .ref fl_3, .ref fl_4, .ref fl_5, .ref fl_6, .ref fl_7])), (pl, .inr (4, [.ref ho, .ref pl_1, .int 0, .int (-1), .int (-1), .ref pl_5])), (ho, .inr (2, [.ref fl, .ref pe, .ref ru, .int 0, .ref ho_4, .ref ho_5, .ref ho_6, .int 0, .ref ho_8, .ref ho_9, .ref ho_10, .ref ho_11, .ref ho_12, .int 50])), (pe, .inr (3, [.int 0, .ref pe_1, .ref pe_2, .ref pe_3, .ref pe_4, .ref pe_5, .ref pe_6, .ref pe_7, .ref pe_8, .ref pe_9, .ref pe_10]))]) hS => ?_)
  subst hwr2
  refine lv_aload_n hx hb dX4_setsForOneMore_14 rfl (lv_at hl 2 rfl) ?_
  refine g_get F hK hP 1 rfl clX4 0 (by decide) flX4_28 rfl dX4_setsForOneMore_15 ?_
  refine g_get F hK hP 2 rfl clX2 0 (by decide) flX4_57 rfl dX4_setsForOneMore_18 ?_
  refine g_get F hK hP 0 rfl clX1 1 (by decide) flX4_61 rfl dX4_setsForOneMore_21 ?_
  refine lv_aload_n hx hb dX4_setsForOneMore_24 rfl (lv_at hl 2 rfl) ?_
  refine g_get F hK hP 1 rfl clX4 0 (by decide) flX4_28 rfl dX4_setsForOneMore_25 ?_
  refine g_get F hK hP 2 rfl clX2 0 (by decide) flX4_57 rfl dX4_setsForOneMore_28 ?_
  refine g_get F hK hP 0 rfl clX1 2 (by decide) flX4_66 rfl dX4_setsForOneMore_31 ?_
  refine lv_isub hx hb dX4_setsForOneMore_34 ?_
  refine cst_i (y := 0) (by decide +kernel) ?_
  refine lv_icmp_ge (tgt := 44) hx hb dX4_setsForOneMore_35 (by decide) (fun _ => ?_) (fun h_ => absurd (by decide +kernel) h_)
  refine lv_iinc (v := 1) (lv' := [(3, .int 1), (2, .int 0), (0, .ref pl), (1, .int d)]) hx hb dX4_setsForOneMore_44 hl (k := 0) rfl (by decide +kernel) (by decide) rfl (fun ls hl => ?_)
  refine lv_goto (tgt := 4) hx hb dX4_setsForOneMore_47 (by decide) ?_
  refine lv_iload_n hx hb dX4_setsForOneMore_4 rfl (lv_at hl 0 rfl) ?_
  refine lv_iconst (v := 5) hx hb dX4_setsForOneMore_5 (by decide) ?_
  refine lv_icmp_ge (tgt := 50) hx hb dX4_setsForOneMore_6 (by decide) (fun h_ => absurd h_ (by decide +kernel)) (fun _ => ?_)
  refine lv_aload_n hx hb dX4_setsForOneMore_9 rfl (lv_at hl 2 rfl) ?_
  refine lv_iload_n hx hb dX4_setsForOneMore_10 rfl (lv_at hl 0 rfl) ?_
  refine cvi (wr := [(fl, .inr (1, [.int 0, .int 0, .int 0, .ref fl_3, .ref fl_4, .ref fl_5, .ref fl_6, .ref fl_7]))]) (As := [.int 1]) (rest := []) (b := pl) (k1 := 0) (s1 := 0) F hK hP hD hS hA (k_X4_inWithoutOwn l G pl 1 ho pl_1 pl_5 fl pe ru ho_4 ho_5 ho_6 ho_8 ho_9 ho_10 ho_11 ho_12 pe_1 pe_2 pe_3 pe_4 pe_5 pe_6 pe_7 pe_8 pe_9 pe_10) kmV_X4_inWithoutOwn mlX4_53 clX4 rfl 0 rfl ⟨(Nat.le_of_ble_eq_true rfl), (Nat.le_of_ble_eq_true rfl)⟩ [1, 2, 3] [0] rfl rfl rfl rfl (by decide) hl.1 rfl (Nat.le_of_ble_eq_true rfl) dX4_setsForOneMore_11 ⟨(Nat.le_of_ble_eq_true rfl), (Nat.le_of_ble_eq_true rfl)⟩ rfl rfl (fun r4 u3 H locs hwr4 (hP : va_P G.1 vwCl [(fl, .inr (1, [.int 0, .int 0, .int 0, .ref fl_3, .ref fl_4, .ref fl_5, .ref fl_6, .ref fl_7])), (pl, .inr (4, [.ref ho, .ref pl_1, .int 0, .int (-1), .int (-1), .ref pl_5])), (ho, .inr (2, [.ref fl, .ref pe, .ref ru, .int 0, .ref ho_4, .ref ho_5, .ref ho_6, .int 0, .ref ho_8, .ref ho_9, .ref ho_10, .ref ho_11, .ref ho_12, .int 50])), (pe, .inr (3, [.int 0, .ref pe_1, .ref pe_2, .ref pe_3, .ref pe_4, .ref pe_5, .ref pe_6, .ref pe_7, .ref pe_8, .ref pe_9, .ref pe_10]))] H) (hD : va_D A [(fl, .inr (1, [.int 0, .int 0, .int 0, .ref fl_3, .ref fl_4, .ref fl_5, .ref fl_6, .ref fl_7])), (pl, .inr (4, [.ref ho, .ref pl_1, .int 0, .int (-1), .int (-1), .ref pl_5])), (ho, .inr (2, [.ref fl, .ref pe, .ref ru, .int 0, .ref ho_4, .ref ho_5, .ref ho_6, .int 0, .ref ho_8, .ref ho_9, .ref ho_10, .ref ho_11, .ref ho_12, .int 50])), (pe, .inr (3, [.int 0, .ref pe_1, .ref pe_2, .ref pe_3, .ref pe_4, .ref pe_5, .ref pe_6, .ref pe_7, .ref pe_8, .ref pe_9, .ref pe_10]))]) hS => ?_)
  subst hwr4
  refine lv_aload_n hx hb dX4_setsForOneMore_14 rfl (lv_at hl 2 rfl) ?_
  refine g_get F hK hP 1 rfl clX4 0 (by decide) flX4_28 rfl dX4_setsForOneMore_15 ?_
  refine g_get F hK hP 2 rfl clX2 0 (by decide) flX4_57 rfl dX4_setsForOneMore_18 ?_
  refine g_get F hK hP 0 rfl clX1 1 (by decide) flX4_61 rfl dX4_setsForOneMore_21 ?_
  refine lv_aload_n hx hb dX4_setsForOneMore_24 rfl (lv_at hl 2 rfl) ?_
  refine g_get F hK hP 1 rfl clX4 0 (by decide) flX4_28 rfl dX4_setsForOneMore_25 ?_
  refine g_get F hK hP 2 rfl clX2 0 (by decide) flX4_57 rfl dX4_setsForOneMore_28 ?_
  refine g_get F hK hP 0 rfl clX1 2 (by decide) flX4_66 rfl dX4_setsForOneMore_31 ?_
  refine lv_isub hx hb dX4_setsForOneMore_34 ?_
  refine cst_i (y := 0) (by decide +kernel) ?_
  refine lv_icmp_ge (tgt := 44) hx hb dX4_setsForOneMore_35 (by decide) (fun _ => ?_) (fun h_ => absurd (by decide +kernel) h_)
  refine lv_iinc (v := 2) (lv' := [(3, .int 2), (2, .int 0), (0, .ref pl), (1, .int d)]) hx hb dX4_setsForOneMore_44 hl (k := 0) rfl (by decide +kernel) (by decide) rfl (fun ls hl => ?_)
  refine lv_goto (tgt := 4) hx hb dX4_setsForOneMore_47 (by decide) ?_
  refine lv_iload_n hx hb dX4_setsForOneMore_4 rfl (lv_at hl 0 rfl) ?_
  refine lv_iconst (v := 5) hx hb dX4_setsForOneMore_5 (by decide) ?_
  refine lv_icmp_ge (tgt := 50) hx hb dX4_setsForOneMore_6 (by decide) (fun h_ => absurd h_ (by decide +kernel)) (fun _ => ?_)
  refine lv_aload_n hx hb dX4_setsForOneMore_9 rfl (lv_at hl 2 rfl) ?_
  refine lv_iload_n hx hb dX4_setsForOneMore_10 rfl (lv_at hl 0 rfl) ?_
  refine cvi (wr := [(fl, .inr (1, [.int 0, .int 0, .int 0, .ref fl_3, .ref fl_4, .ref fl_5, .ref fl_6, .ref fl_7]))]) (As := [.int 2]) (rest := []) (b := pl) (k1 := 0) (s1 := 0) F hK hP hD hS hA (k_X4_inWithoutOwn l G pl 2 ho pl_1 pl_5 fl pe ru ho_4 ho_5 ho_6 ho_8 ho_9 ho_10 ho_11 ho_12 pe_1 pe_2 pe_3 pe_4 pe_5 pe_6 pe_7 pe_8 pe_9 pe_10) kmV_X4_inWithoutOwn mlX4_53 clX4 rfl 0 rfl ⟨(Nat.le_of_ble_eq_true rfl), (Nat.le_of_ble_eq_true rfl)⟩ [1, 2, 3] [0] rfl rfl rfl rfl (by decide) hl.1 rfl (Nat.le_of_ble_eq_true rfl) dX4_setsForOneMore_11 ⟨(Nat.le_of_ble_eq_true rfl), (Nat.le_of_ble_eq_true rfl)⟩ rfl rfl (fun r6 u5 H locs hwr6 (hP : va_P G.1 vwCl [(fl, .inr (1, [.int 0, .int 0, .int 0, .ref fl_3, .ref fl_4, .ref fl_5, .ref fl_6, .ref fl_7])), (pl, .inr (4, [.ref ho, .ref pl_1, .int 0, .int (-1), .int (-1), .ref pl_5])), (ho, .inr (2, [.ref fl, .ref pe, .ref ru, .int 0, .ref ho_4, .ref ho_5, .ref ho_6, .int 0, .ref ho_8, .ref ho_9, .ref ho_10, .ref ho_11, .ref ho_12, .int 50])), (pe, .inr (3, [.int 0, .ref pe_1, .ref pe_2, .ref pe_3, .ref pe_4, .ref pe_5, .ref pe_6, .ref pe_7, .ref pe_8, .ref pe_9, .ref pe_10]))] H) (hD : va_D A [(fl, .inr (1, [.int 0, .int 0, .int 0, .ref fl_3, .ref fl_4, .ref fl_5, .ref fl_6, .ref fl_7])), (pl, .inr (4, [.ref ho, .ref pl_1, .int 0, .int (-1), .int (-1), .ref pl_5])), (ho, .inr (2, [.ref fl, .ref pe, .ref ru, .int 0, .ref ho_4, .ref ho_5, .ref ho_6, .int 0, .ref ho_8, .ref ho_9, .ref ho_10, .ref ho_11, .ref ho_12, .int 50])), (pe, .inr (3, [.int 0, .ref pe_1, .ref pe_2, .ref pe_3, .ref pe_4, .ref pe_5, .ref pe_6, .ref pe_7, .ref pe_8, .ref pe_9, .ref pe_10]))]) hS => ?_)
  subst hwr6
  refine lv_aload_n hx hb dX4_setsForOneMore_14 rfl (lv_at hl 2 rfl) ?_
  refine g_get F hK hP 1 rfl clX4 0 (by decide) flX4_28 rfl dX4_setsForOneMore_15 ?_
  refine g_get F hK hP 2 rfl clX2 0 (by decide) flX4_57 rfl dX4_setsForOneMore_18 ?_
  refine g_get F hK hP 0 rfl clX1 1 (by decide) flX4_61 rfl dX4_setsForOneMore_21 ?_
  refine lv_aload_n hx hb dX4_setsForOneMore_24 rfl (lv_at hl 2 rfl) ?_
  refine g_get F hK hP 1 rfl clX4 0 (by decide) flX4_28 rfl dX4_setsForOneMore_25 ?_
  refine g_get F hK hP 2 rfl clX2 0 (by decide) flX4_57 rfl dX4_setsForOneMore_28 ?_
  refine g_get F hK hP 0 rfl clX1 2 (by decide) flX4_66 rfl dX4_setsForOneMore_31 ?_
  refine lv_isub hx hb dX4_setsForOneMore_34 ?_
  refine cst_i (y := 0) (by decide +kernel) ?_
  refine lv_icmp_ge (tgt := 44) hx hb dX4_setsForOneMore_35 (by decide) (fun _ => ?_) (fun h_ => absurd (by decide +kernel) h_)
  refine lv_iinc (v := 3) (lv' := [(3, .int 3), (2, .int 0), (0, .ref pl), (1, .int d)]) hx hb dX4_setsForOneMore_44 hl (k := 0) rfl (by decide +kernel) (by decide) rfl (fun ls hl => ?_)
  refine lv_goto (tgt := 4) hx hb dX4_setsForOneMore_47 (by decide) ?_
  refine lv_iload_n hx hb dX4_setsForOneMore_4 rfl (lv_at hl 0 rfl) ?_
  refine lv_iconst (v := 5) hx hb dX4_setsForOneMore_5 (by decide) ?_
  refine lv_icmp_ge (tgt := 50) hx hb dX4_setsForOneMore_6 (by decide) (fun h_ => absurd h_ (by decide +kernel)) (fun _ => ?_)
  refine lv_aload_n hx hb dX4_setsForOneMore_9 rfl (lv_at hl 2 rfl) ?_
  refine lv_iload_n hx hb dX4_setsForOneMore_10 rfl (lv_at hl 0 rfl) ?_
  refine cvi (wr := [(fl, .inr (1, [.int 0, .int 0, .int 0, .ref fl_3, .ref fl_4, .ref fl_5, .ref fl_6, .ref fl_7]))]) (As := [.int 3]) (rest := []) (b := pl) (k1 := 0) (s1 := 0) F hK hP hD hS hA (k_X4_inWithoutOwn l G pl 3 ho pl_1 pl_5 fl pe ru ho_4 ho_5 ho_6 ho_8 ho_9 ho_10 ho_11 ho_12 pe_1 pe_2 pe_3 pe_4 pe_5 pe_6 pe_7 pe_8 pe_9 pe_10) kmV_X4_inWithoutOwn mlX4_53 clX4 rfl 0 rfl ⟨(Nat.le_of_ble_eq_true rfl), (Nat.le_of_ble_eq_true rfl)⟩ [1, 2, 3] [0] rfl rfl rfl rfl (by decide) hl.1 rfl (Nat.le_of_ble_eq_true rfl) dX4_setsForOneMore_11 ⟨(Nat.le_of_ble_eq_true rfl), (Nat.le_of_ble_eq_true rfl)⟩ rfl rfl (fun r8 u7 H locs hwr8 (hP : va_P G.1 vwCl [(fl, .inr (1, [.int 0, .int 0, .int 0, .ref fl_3, .ref fl_4, .ref fl_5, .ref fl_6, .ref fl_7])), (pl, .inr (4, [.ref ho, .ref pl_1, .int 0, .int (-1), .int (-1), .ref pl_5])), (ho, .inr (2, [.ref fl, .ref pe, .ref ru, .int 0, .ref ho_4, .ref ho_5, .ref ho_6, .int 0, .ref ho_8, .ref ho_9, .ref ho_10, .ref ho_11, .ref ho_12, .int 50])), (pe, .inr (3, [.int 0, .ref pe_1, .ref pe_2, .ref pe_3, .ref pe_4, .ref pe_5, .ref pe_6, .ref pe_7, .ref pe_8, .ref pe_9, .ref pe_10]))] H) (hD : va_D A [(fl, .inr (1, [.int 0, .int 0, .int 0, .ref fl_3, .ref fl_4, .ref fl_5, .ref fl_6, .ref fl_7])), (pl, .inr (4, [.ref ho, .ref pl_1, .int 0, .int (-1), .int (-1), .ref pl_5])), (ho, .inr (2, [.ref fl, .ref pe, .ref ru, .int 0, .ref ho_4, .ref ho_5, .ref ho_6, .int 0, .ref ho_8, .ref ho_9, .ref ho_10, .ref ho_11, .ref ho_12, .int 50])), (pe, .inr (3, [.int 0, .ref pe_1, .ref pe_2, .ref pe_3, .ref pe_4, .ref pe_5, .ref pe_6, .ref pe_7, .ref pe_8, .ref pe_9, .ref pe_10]))]) hS => ?_)
  subst hwr8
  refine lv_aload_n hx hb dX4_setsForOneMore_14 rfl (lv_at hl 2 rfl) ?_
  refine g_get F hK hP 1 rfl clX4 0 (by decide) flX4_28 rfl dX4_setsForOneMore_15 ?_
  refine g_get F hK hP 2 rfl clX2 0 (by decide) flX4_57 rfl dX4_setsForOneMore_18 ?_
  refine g_get F hK hP 0 rfl clX1 1 (by decide) flX4_61 rfl dX4_setsForOneMore_21 ?_
  refine lv_aload_n hx hb dX4_setsForOneMore_24 rfl (lv_at hl 2 rfl) ?_
  refine g_get F hK hP 1 rfl clX4 0 (by decide) flX4_28 rfl dX4_setsForOneMore_25 ?_
  refine g_get F hK hP 2 rfl clX2 0 (by decide) flX4_57 rfl dX4_setsForOneMore_28 ?_
  refine g_get F hK hP 0 rfl clX1 2 (by decide) flX4_66 rfl dX4_setsForOneMore_31 ?_
  refine lv_isub hx hb dX4_setsForOneMore_34 ?_
  refine cst_i (y := 0) (by decide +kernel) ?_
  refine lv_icmp_ge (tgt := 44) hx hb dX4_setsForOneMore_35 (by decide) (fun _ => ?_) (fun h_ => absurd (by decide +kernel) h_)
  refine lv_iinc (v := 4) (lv' := [(3, .int 4), (2, .int 0), (0, .ref pl), (1, .int d)]) hx hb dX4_setsForOneMore_44 hl (k := 0) rfl (by decide +kernel) (by decide) rfl (fun ls hl => ?_)
  refine lv_goto (tgt := 4) hx hb dX4_setsForOneMore_47 (by decide) ?_
  refine lv_iload_n hx hb dX4_setsForOneMore_4 rfl (lv_at hl 0 rfl) ?_
  refine lv_iconst (v := 5) hx hb dX4_setsForOneMore_5 (by decide) ?_
  refine lv_icmp_ge (tgt := 50) hx hb dX4_setsForOneMore_6 (by decide) (fun h_ => absurd h_ (by decide +kernel)) (fun _ => ?_)
  refine lv_aload_n hx hb dX4_setsForOneMore_9 rfl (lv_at hl 2 rfl) ?_
  refine lv_iload_n hx hb dX4_setsForOneMore_10 rfl (lv_at hl 0 rfl) ?_
  refine cvi (wr := [(fl, .inr (1, [.int 0, .int 0, .int 0, .ref fl_3, .ref fl_4, .ref fl_5, .ref fl_6, .ref fl_7]))]) (As := [.int 4]) (rest := []) (b := pl) (k1 := 0) (s1 := 0) F hK hP hD hS hA (k_X4_inWithoutOwn l G pl 4 ho pl_1 pl_5 fl pe ru ho_4 ho_5 ho_6 ho_8 ho_9 ho_10 ho_11 ho_12 pe_1 pe_2 pe_3 pe_4 pe_5 pe_6 pe_7 pe_8 pe_9 pe_10) kmV_X4_inWithoutOwn mlX4_53 clX4 rfl 0 rfl ⟨(Nat.le_of_ble_eq_true rfl), (Nat.le_of_ble_eq_true rfl)⟩ [1, 2, 3] [0] rfl rfl rfl rfl (by decide) hl.1 rfl (Nat.le_of_ble_eq_true rfl) dX4_setsForOneMore_11 ⟨(Nat.le_of_ble_eq_true rfl), (Nat.le_of_ble_eq_true rfl)⟩ rfl rfl (fun r10 u9 H locs hwr10 (hP : va_P G.1 vwCl [(fl, .inr (1, [.int 0, .int 0, .int 0, .ref fl_3, .ref fl_4, .ref fl_5, .ref fl_6, .ref fl_7])), (pl, .inr (4, [.ref ho, .ref pl_1, .int 0, .int (-1), .int (-1), .ref pl_5])), (ho, .inr (2, [.ref fl, .ref pe, .ref ru, .int 0, .ref ho_4, .ref ho_5, .ref ho_6, .int 0, .ref ho_8, .ref ho_9, .ref ho_10, .ref ho_11, .ref ho_12, .int 50])), (pe, .inr (3, [.int 0, .ref pe_1, .ref pe_2, .ref pe_3, .ref pe_4, .ref pe_5, .ref pe_6, .ref pe_7, .ref pe_8, .ref pe_9, .ref pe_10]))] H) (hD : va_D A [(fl, .inr (1, [.int 0, .int 0, .int 0, .ref fl_3, .ref fl_4, .ref fl_5, .ref fl_6, .ref fl_7])), (pl, .inr (4, [.ref ho, .ref pl_1, .int 0, .int (-1), .int (-1), .ref pl_5])), (ho, .inr (2, [.ref fl, .ref pe, .ref ru, .int 0, .ref ho_4, .ref ho_5, .ref ho_6, .int 0, .ref ho_8, .ref ho_9, .ref ho_10, .ref ho_11, .ref ho_12, .int 50])), (pe, .inr (3, [.int 0, .ref pe_1, .ref pe_2, .ref pe_3, .ref pe_4, .ref pe_5, .ref pe_6, .ref pe_7, .ref pe_8, .ref pe_9, .ref pe_10]))]) hS => ?_)
  subst hwr10
  refine lv_aload_n hx hb dX4_setsForOneMore_14 rfl (lv_at hl 2 rfl) ?_
  refine g_get F hK hP 1 rfl clX4 0 (by decide) flX4_28 rfl dX4_setsForOneMore_15 ?_
  refine g_get F hK hP 2 rfl clX2 0 (by decide) flX4_57 rfl dX4_setsForOneMore_18 ?_
  refine g_get F hK hP 0 rfl clX1 1 (by decide) flX4_61 rfl dX4_setsForOneMore_21 ?_
  refine lv_aload_n hx hb dX4_setsForOneMore_24 rfl (lv_at hl 2 rfl) ?_
  refine g_get F hK hP 1 rfl clX4 0 (by decide) flX4_28 rfl dX4_setsForOneMore_25 ?_
  refine g_get F hK hP 2 rfl clX2 0 (by decide) flX4_57 rfl dX4_setsForOneMore_28 ?_
  refine g_get F hK hP 0 rfl clX1 2 (by decide) flX4_66 rfl dX4_setsForOneMore_31 ?_
  refine lv_isub hx hb dX4_setsForOneMore_34 ?_
  refine cst_i (y := 0) (by decide +kernel) ?_
  refine lv_icmp_ge (tgt := 44) hx hb dX4_setsForOneMore_35 (by decide) (fun _ => ?_) (fun h_ => absurd (by decide +kernel) h_)
  refine lv_iinc (v := 5) (lv' := [(3, .int 5), (2, .int 0), (0, .ref pl), (1, .int d)]) hx hb dX4_setsForOneMore_44 hl (k := 0) rfl (by decide +kernel) (by decide) rfl (fun ls hl => ?_)
  refine lv_goto (tgt := 4) hx hb dX4_setsForOneMore_47 (by decide) ?_
  refine lv_iload_n hx hb dX4_setsForOneMore_4 rfl (lv_at hl 0 rfl) ?_
  refine lv_iconst (v := 5) hx hb dX4_setsForOneMore_5 (by decide) ?_
  refine lv_icmp_ge (tgt := 50) hx hb dX4_setsForOneMore_6 (by decide) (fun _ => ?_) (fun h_ => absurd (by decide +kernel) h_)
  refine lv_iconst (v := 0) hx hb dX4_setsForOneMore_50 (by decide) ?_
  refine lv_istore_n (lv' := [(3, .int 0), (2, .int 0), (0, .ref pl), (1, .int d)]) hx hb dX4_setsForOneMore_51 rfl hl (by decide) rfl (fun ls hl => ?_)
  refine lv_iconst (v := 0) hx hb dX4_setsForOneMore_52 (by decide) ?_
  refine lv_istore (lv' := [(4, .int 0), (3, .int 0), (2, .int 0), (0, .ref pl), (1, .int d)]) hx hb dX4_setsForOneMore_53 hl (by decide) rfl (fun ls hl => ?_)
  refine lp_sets G d fl fl_3 fl_4 fl_5 fl_6 fl_7 pl ho pl_1 pl_5 pe ru ho_4 ho_5 ho_6 ho_8 ho_9 ho_10 ho_11 ho_12 pe_1 pe_2 pe_3 pe_4 pe_5 pe_6 pe_7 pe_8 pe_9 pe_10  (by exact Nat.le_of_ble_eq_true rfl) (by exact Nat.le_of_ble_eq_true rfl) (by exact Nat.le_of_ble_eq_true rfl) (by exact Nat.le_of_ble_eq_true rfl) F hK hA (fun v11 H locs ls hI12 hP hD hS hl => ?_) 32 0 0 _ _ _ (by omega) (by rw [if_pos rfl]) hP hD hS (lv_sub hl [0, 1, 2, 4] rfl)
  refine lv_iload_n hx hb dX4_setsForOneMore_89 rfl (lv_at hl 0 rfl) ?_
  exact r_i F hr hlk hP hD hS () [] rfl rfl hI12 dX4_setsForOneMore_90 (Nat.le_of_ble_eq_true rfl) (Nat.le_of_ble_eq_true rfl)
set_option maxHeartbeats 4000000 in
set_option maxRecDepth 100000 in
theorem k_X11_grow (l : Launch) (G : Gx) (x : Nat) (a : Int32) (x_0 : Nat) (sp : Nat) (stm : Nat) (pl : Nat) (sk : Nat) (se : Nat) (ch : Nat) (x_11 : Nat) (x_13 : Nat) (ho : Nat) (pl_1 : Nat) (pl_5 : Nat) (fl : Nat) (pe : Nat) (ru : Nat) (ho_4 : Nat) (ho_5 : Nat) (ho_6 : Nat) (ho_8 : Nat) (ho_9 : Nat) (ho_10 : Nat) (ho_11 : Nat) (ho_12 : Nat) (pe_1 : Nat) (pe_2 : Nat) (pe_3 : Nat) (pe_4 : Nat) (pe_5 : Nat) (pe_6 : Nat) (pe_7 : Nat) (pe_8 : Nat) (pe_9 : Nat) (pe_10 : Nat) (fl_3 : Nat) (fl_4 : Nat) (fl_5 : Nat) (fl_6 : Nat) (fl_7 : Nat)  : CtI (S := Unit) l yX11_grow cX11_grow 2 (some .int) (rmD 6 0 0) G [.ref x, .int a] [(x, .inr (11, [.ref x_0, .int 0, .ref sp, .ref stm, .ref pl, .ref sk, .ref se, .ref ch, .int 0, .int (-1), .long 1, .ref x_11, .int 0, .ref x_13])), (pl, .inr (4, [.ref ho, .ref pl_1, .int 0, .int (-1), .int (-1), .ref pl_5])), (ho, .inr (2, [.ref fl, .ref pe, .ref ru, .int 0, .ref ho_4, .ref ho_5, .ref ho_6, .int 0, .ref ho_8, .ref ho_9, .ref ho_10, .ref ho_11, .ref ho_12, .int 50])), (pe, .inr (3, [.int 0, .ref pe_1, .ref pe_2, .ref pe_3, .ref pe_4, .ref pe_5, .ref pe_6, .ref pe_7, .ref pe_8, .ref pe_9, .ref pe_10])), (fl, .inr (1, [.int 0, .int 0, .int 0, .ref fl_3, .ref fl_4, .ref fl_5, .ref fl_6, .ref fl_7]))] (fun r _ => r = fGrow a) (fun _ => []) := by
  refine ctI_of (own := RX11) (by decide +kernel) rfl (Nat.le_of_ble_eq_true rfl) ?_
  intro p e s m below meth c A ls F hr hlk hnm hK hP hD hA hS hl
  have hx := F.1
  have hb := F.2.1
  have hown := F.2.2.2.1
  have hl : lv_has ls 2 [(0, .ref x), (1, .int a)] := hl
  refine lv_iload_n hx hb dX11_grow_0 rfl (lv_at hl 1 rfl) ?_
  refine lv_if_lt (tgt := 20) hx hb dX11_grow_1 (by decide) (fun c1 => ?_) (fun c1 => ?_)
  · refine lv_iconst (v := (-1)) hx hb dX11_grow_20 (by decide) ?_
    exact r_i F hr hlk hP hD hS () [] rfl rfl (by simp [fGrow, c1]) dX11_grow_21 (Nat.le_of_ble_eq_true rfl) (Nat.le_of_ble_eq_true rfl)
  · refine lv_iload_n hx hb dX11_grow_4 rfl (lv_at hl 1 rfl) ?_
    refine lv_iconst (v := 5) hx hb dX11_grow_5 (by decide) ?_
    refine lv_icmp_gt (tgt := 20) hx hb dX11_grow_6 (by decide) (fun c2 => ?_) (fun c2 => ?_)
    · refine lv_iconst (v := (-1)) hx hb dX11_grow_20 (by decide) ?_
      exact r_i F hr hlk hP hD hS () [] rfl rfl (by simp [fGrow, c1, c2]) dX11_grow_21 (Nat.le_of_ble_eq_true rfl) (Nat.le_of_ble_eq_true rfl)
    · refine lv_aload_n hx hb dX11_grow_9 rfl (lv_at hl 0 rfl) ?_
      refine g_get F hK hP 0 rfl clX11 4 (by decide) flX11_43 rfl dX11_grow_10 ?_
      refine lv_iload_n hx hb dX11_grow_13 rfl (lv_at hl 1 rfl) ?_
      refine cvi (wr := [(x, .inr (11, [.ref x_0, .int 0, .ref sp, .ref stm, .ref pl, .ref sk, .ref se, .ref ch, .int 0, .int (-1), .long 1, .ref x_11, .int 0, .ref x_13]))]) (As := [.int a]) (rest := []) (b := pl) (k1 := 0) (s1 := 0) F hK hP hD hS hA (k_X4_setsForOneMore l G pl a ho pl_1 pl_5 fl pe ru ho_4 ho_5 ho_6 ho_8 ho_9 ho_10 ho_11 ho_12 pe_1 pe_2 pe_3 pe_4 pe_5 pe_6 pe_7 pe_8 pe_9 pe_10 fl_3 fl_4 fl_5 fl_6 fl_7) kmV_X4_setsForOneMore mlX11_367 clX4 rfl 0 rfl ⟨(Nat.le_of_ble_eq_true rfl), (Nat.le_of_ble_eq_true rfl)⟩ [1, 2, 3, 4] [0] rfl rfl rfl rfl (by decide) hl.1 rfl (Nat.le_of_ble_eq_true rfl) dX11_grow_14 ⟨(Nat.le_of_ble_eq_true rfl), (Nat.le_of_ble_eq_true rfl)⟩ rfl rfl (fun r4 u3 H locs hwr4 (hP : va_P G.1 vwCl [(x, .inr (11, [.ref x_0, .int 0, .ref sp, .ref stm, .ref pl, .ref sk, .ref se, .ref ch, .int 0, .int (-1), .long 1, .ref x_11, .int 0, .ref x_13]))] H) (hD : va_D A [(x, .inr (11, [.ref x_0, .int 0, .ref sp, .ref stm, .ref pl, .ref sk, .ref se, .ref ch, .int 0, .int (-1), .long 1, .ref x_11, .int 0, .ref x_13]))]) hS => ?_)
      subst hwr4
      refine lv_goto (tgt := 21) hx hb dX11_grow_17 (by decide) ?_
      exact r_i F hr hlk hP hD hS () [] rfl rfl (by simp [fGrow, c1, c2]) dX11_grow_21 (Nat.le_of_ble_eq_true rfl) (Nat.le_of_ble_eq_true rfl)
set_option maxHeartbeats 4000000 in
set_option maxRecDepth 100000 in
theorem lp_bits {p : Program} {l : Launch} {e : Env} {R : Room} {s : State} {m : MethodId} {args : Array Value} {below : List Frame} {meth : Method} {c : Code} {A : Nat → Prop} {cells slots : Nat} {Q : State → Prop} (G : Gx) (i : Nat)  (hRf : 3 ≤ R.frames) (hRl : 180 ≤ R.locals) (hRc : cells ≤ R.cells) (hRs : slots ≤ R.slots) (F : CallFix p m c cX12_bitsOf 3 s args tb RX12) (hK : KX G s) (hA : HA G s A)
    (kx : ∀ (q : Nat) (n : Int32) (H : Heap) (locs : List Loc) (ls : Array Slot), (i = 0 → n = 0) → va_P G.1 vwCl [] H → va_D A [] → va_S A s.heap H locs → lv_has ls 3 [(1, .int n)] → W p l e R s m args below meth c H locs cells slots Q (F0 m 21 ls [])) :
    ∀ (k : Nat) (q : Nat) (n : Int32) (H : Heap) (locs : List Loc) (ls : Array Slot), (q ≤ k ∧ q < 2 ^ 31) → (i = 0 → n = 0 ∧ q = 0) → va_P G.1 vwCl [] H → va_D A [] → va_S A s.heap H locs → lv_has ls 3 [(2, .int (nI q)), (1, .int n)] → W p l e R s m args below meth c H locs cells slots Q (F0 m 4 ls []) := by
  have hx := F.1
  have hb := F.2.1
  have hown := F.2.2.2.1
  intro k
  induction k with
  | zero =>
    intro q n H locs ls hm hI hP hD hS hl
    refine lv_iload_n hx hb dX12_bitsOf_4 rfl (lv_at hl 0 rfl) ?_
    refine lv_if_eq (tgt := 21) hx hb dX12_bitsOf_5 (by decide) (fun _ => ?_) (fun h_ => absurd (by rw [show q = 0 by omega]; rfl) h_)
    exact kx q n H locs ls (fun h => (hI h).1) hP hD hS (lv_sub hl [1] rfl)
  | succ k ih =>
    intro q n H locs ls hm hI hP hD hS hl
    refine lv_iload_n hx hb dX12_bitsOf_4 rfl (lv_at hl 0 rfl) ?_
    refine lv_if_eq (tgt := 21) hx hb dX12_bitsOf_5 (by decide) (fun c1 => ?_) (fun c1 => ?_)
    · exact kx q n H locs ls (fun h => (hI h).1) hP hD hS (lv_sub hl [1] rfl)
    · refine lv_iload_n hx hb dX12_bitsOf_8 rfl (lv_at hl 1 rfl) ?_
      refine lv_iload_n hx hb dX12_bitsOf_9 rfl (lv_at hl 0 rfl) ?_
      refine lv_iconst (v := 1) hx hb dX12_bitsOf_10 (by decide) ?_
      refine lv_iand hx hb dX12_bitsOf_11 ?_
      refine lv_topi (fun x2 ex2 => ?_)
      refine lv_iadd hx hb dX12_bitsOf_12 ?_
      refine lv_topi (fun x3 ex3 => ?_)
      refine lv_istore_n (lv' := [(1, .int x3), (2, .int (nI q))]) hx hb dX12_bitsOf_13 rfl hl (by decide) rfl (fun ls hl => ?_)
      refine lv_iload_n hx hb dX12_bitsOf_14 rfl (lv_at hl 1 rfl) ?_
      refine lv_iconst (v := 1) hx hb dX12_bitsOf_15 (by decide) ?_
      refine lv_iushr (v := (nI (q / 2))) hx hb dX12_bitsOf_16 (ush1 (by omega)) ?_
      refine lv_istore_n (lv' := [(2, .int (nI (q / 2))), (1, .int x3)]) hx hb dX12_bitsOf_17 rfl hl (by decide) rfl (fun ls hl => ?_)
      refine lv_goto (tgt := 4) hx hb dX12_bitsOf_18 (by decide) ?_
      have hq : ¬ q = 0 := fun z => c1 (by rw [z]; rfl)
      exact ih (q / 2) x3 H locs ls (by omega) (fun h => absurd (hI h).2 hq) hP hD hS (lv_sub hl [0, 1] rfl)
set_option maxHeartbeats 4000000 in
set_option maxRecDepth 100000 in
theorem k_X12_bitsOf (l : Launch) (G : Gx) (i : Nat) (hi : i < 32) : CtI (S := Unit) l yX12_bitsOf cX12_bitsOf 3 (some .int) (rmD 4 0 0) G [.int (nI i)] [] (fun r _ => i = 0 → r = 0) (fun _ => []) := by
  refine ctI_of (own := RX12) (by decide +kernel) rfl (Nat.le_of_ble_eq_true rfl) ?_
  intro p e s m below meth c A ls F hr hlk hnm hK hP hD hA hS hl
  have hx := F.1
  have hb := F.2.1
  have hown := F.2.2.2.1
  have hl : lv_has ls 3 [(0, .int (nI i))] := hl
  refine lv_iconst (v := 0) hx hb dX12_bitsOf_0 (by decide) ?_
  refine lv_istore_n (lv' := [(1, .int 0), (0, .int (nI i))]) hx hb dX12_bitsOf_1 rfl hl (by decide) rfl (fun ls hl => ?_)
  refine lv_iload_n hx hb dX12_bitsOf_2 rfl (lv_at hl 1 rfl) ?_
  refine lv_istore_n (lv' := [(2, .int (nI i)), (1, .int 0), (0, .int (nI i))]) hx hb dX12_bitsOf_3 rfl hl (by decide) rfl (fun ls hl => ?_)
  refine lp_bits G i  (by exact Nat.le_of_ble_eq_true rfl) (by exact Nat.le_of_ble_eq_true rfl) (by exact Nat.le_of_ble_eq_true rfl) (by exact Nat.le_of_ble_eq_true rfl) F hK hA (fun v1 v2 H locs ls hI3 hP hD hS hl => ?_) i i 0 _ _ _ (by omega) (fun h => ⟨rfl, h⟩) hP hD hS (lv_sub hl [0, 1] rfl)
  refine lv_iload_n hx hb dX12_bitsOf_21 rfl (lv_at hl 0 rfl) ?_
  exact r_i F hr hlk hP hD hS () [] rfl rfl hI3 dX12_bitsOf_22 (Nat.le_of_ble_eq_true rfl) (Nat.le_of_ble_eq_true rfl)
set_option maxHeartbeats 4000000 in
set_option maxRecDepth 100000 in
theorem lp_grow {p : Program} {l : Launch} {e : Env} {R : Room} {s : State} {m : MethodId} {args : Array Value} {below : List Frame} {meth : Method} {c : Code} {A : Nat → Prop} {cells slots : Nat} {Q : State → Prop} (G : Gx) (y : Nat) (d : Int32) (g : Nat → Nat)  (hRf : 5 ≤ R.frames) (hRl : 300 ≤ R.locals) (hRc : cells ≤ R.cells) (hRs : slots ≤ R.slots) (F : CallFix p m c cX12_grow 6 s args tb RX12) (hK : KX G s) (hA : HA G s A)
    (kx : ∀ (cnt : Int32) (H : Heap) (locs : List Loc) (ls : Array Slot), (cnt = fG d) → va_P G.1 vwCl [(y, .inr (12, .ref (g 0) :: .int 0 :: .int 0 :: .int 0 :: .int 0 :: .int 0 :: .int 0 :: .long 0 :: .int 0 :: .int (-1) :: .int 0 :: .int (-1) :: .int 0 :: .ref (g 13) :: .ref (g 14) :: .ref (g 15) :: .ref (g 16) :: .ref (g 17) :: .ref (g 18) :: .ref (g 19) :: .ref (g 20) :: .ref (g 21) :: .ref (g 22) :: .ref (g 23) :: .ref (g 24) :: .ref (g 25) :: .ref (g 26) :: .ref (g 27) :: .ref (g 28) :: .ref (g 29) :: .ref (g 30) :: .ref (g 31) :: .ref (g 32) :: .ref (g 33) :: .ref (g 34) :: .ref (g 35) :: .ref (g 36) :: .ref (g 37) :: .ref (g 38) :: .ref (g 39) :: .ref (g 40) :: .ref (g 41) :: .ref (g 42) :: .int 0 :: .int 1 :: .ref (g 45) :: .ref (g 46) :: .ref (g 47) :: .ref (g 48) :: .ref (g 49) :: .int 0 :: .int 0 :: .ref (g 52) :: .int 0 :: .int 0 :: .ref (g 55) :: .ref (g 56) :: .ref (g 57) :: .ref (g 58) :: .int 0 :: .int 0 :: .int 0 :: .int 0 :: .ref (g 63) :: .int 0 :: .ref (g 65) :: .long 1 :: .ref (g 67) :: .ref (g 68) :: .int 0 :: [])), ((g 13), .inl (G.2.1, 2, .inl (fun _ => 0))), ((g 21), .inl (G.2.1, 2, .inl (fun _ => 0)))] H → va_D A [(y, .inr (12, .ref (g 0) :: .int 0 :: .int 0 :: .int 0 :: .int 0 :: .int 0 :: .int 0 :: .long 0 :: .int 0 :: .int (-1) :: .int 0 :: .int (-1) :: .int 0 :: .ref (g 13) :: .ref (g 14) :: .ref (g 15) :: .ref (g 16) :: .ref (g 17) :: .ref (g 18) :: .ref (g 19) :: .ref (g 20) :: .ref (g 21) :: .ref (g 22) :: .ref (g 23) :: .ref (g 24) :: .ref (g 25) :: .ref (g 26) :: .ref (g 27) :: .ref (g 28) :: .ref (g 29) :: .ref (g 30) :: .ref (g 31) :: .ref (g 32) :: .ref (g 33) :: .ref (g 34) :: .ref (g 35) :: .ref (g 36) :: .ref (g 37) :: .ref (g 38) :: .ref (g 39) :: .ref (g 40) :: .ref (g 41) :: .ref (g 42) :: .int 0 :: .int 1 :: .ref (g 45) :: .ref (g 46) :: .ref (g 47) :: .ref (g 48) :: .ref (g 49) :: .int 0 :: .int 0 :: .ref (g 52) :: .int 0 :: .int 0 :: .ref (g 55) :: .ref (g 56) :: .ref (g 57) :: .ref (g 58) :: .int 0 :: .int 0 :: .int 0 :: .int 0 :: .ref (g 63) :: .int 0 :: .ref (g 65) :: .long 1 :: .ref (g 67) :: .ref (g 68) :: .int 0 :: [])), ((g 13), .inl (G.2.1, 2, .inl (fun _ => 0))), ((g 21), .inl (G.2.1, 2, .inl (fun _ => 0)))] → va_S A s.heap H locs → lv_has ls 6 [(2, .int cnt)] → W p l e R s m args below meth c H locs cells slots Q (F0 m 106 ls [])) :
    ∀ (k : Nat) (cnt : Int32) (i : Nat) (H : Heap) (locs : List Loc) (ls : Array Slot), i + k = 32 → (cnt = if i = 0 then 0 else fG d) → va_P G.1 vwCl [(y, .inr (12, .ref (g 0) :: .int 0 :: .int 0 :: .int 0 :: .int 0 :: .int 0 :: .int 0 :: .long 0 :: .int 0 :: .int (-1) :: .int 0 :: .int (-1) :: .int 0 :: .ref (g 13) :: .ref (g 14) :: .ref (g 15) :: .ref (g 16) :: .ref (g 17) :: .ref (g 18) :: .ref (g 19) :: .ref (g 20) :: .ref (g 21) :: .ref (g 22) :: .ref (g 23) :: .ref (g 24) :: .ref (g 25) :: .ref (g 26) :: .ref (g 27) :: .ref (g 28) :: .ref (g 29) :: .ref (g 30) :: .ref (g 31) :: .ref (g 32) :: .ref (g 33) :: .ref (g 34) :: .ref (g 35) :: .ref (g 36) :: .ref (g 37) :: .ref (g 38) :: .ref (g 39) :: .ref (g 40) :: .ref (g 41) :: .ref (g 42) :: .int 0 :: .int 1 :: .ref (g 45) :: .ref (g 46) :: .ref (g 47) :: .ref (g 48) :: .ref (g 49) :: .int 0 :: .int 0 :: .ref (g 52) :: .int 0 :: .int 0 :: .ref (g 55) :: .ref (g 56) :: .ref (g 57) :: .ref (g 58) :: .int 0 :: .int 0 :: .int 0 :: .int 0 :: .ref (g 63) :: .int 0 :: .ref (g 65) :: .long 1 :: .ref (g 67) :: .ref (g 68) :: .int 0 :: [])), ((g 13), .inl (G.2.1, 2, .inl (fun _ => 0))), ((g 21), .inl (G.2.1, 2, .inl (fun _ => 0)))] H → va_D A [(y, .inr (12, .ref (g 0) :: .int 0 :: .int 0 :: .int 0 :: .int 0 :: .int 0 :: .int 0 :: .long 0 :: .int 0 :: .int (-1) :: .int 0 :: .int (-1) :: .int 0 :: .ref (g 13) :: .ref (g 14) :: .ref (g 15) :: .ref (g 16) :: .ref (g 17) :: .ref (g 18) :: .ref (g 19) :: .ref (g 20) :: .ref (g 21) :: .ref (g 22) :: .ref (g 23) :: .ref (g 24) :: .ref (g 25) :: .ref (g 26) :: .ref (g 27) :: .ref (g 28) :: .ref (g 29) :: .ref (g 30) :: .ref (g 31) :: .ref (g 32) :: .ref (g 33) :: .ref (g 34) :: .ref (g 35) :: .ref (g 36) :: .ref (g 37) :: .ref (g 38) :: .ref (g 39) :: .ref (g 40) :: .ref (g 41) :: .ref (g 42) :: .int 0 :: .int 1 :: .ref (g 45) :: .ref (g 46) :: .ref (g 47) :: .ref (g 48) :: .ref (g 49) :: .int 0 :: .int 0 :: .ref (g 52) :: .int 0 :: .int 0 :: .ref (g 55) :: .ref (g 56) :: .ref (g 57) :: .ref (g 58) :: .int 0 :: .int 0 :: .int 0 :: .int 0 :: .ref (g 63) :: .int 0 :: .ref (g 65) :: .long 1 :: .ref (g 67) :: .ref (g 68) :: .int 0 :: [])), ((g 13), .inl (G.2.1, 2, .inl (fun _ => 0))), ((g 21), .inl (G.2.1, 2, .inl (fun _ => 0)))] → va_S A s.heap H locs → lv_has ls 6 [(3, .int (nI i)), (2, .int cnt), (0, .ref y), (1, .int d)] → W p l e R s m args below meth c H locs cells slots Q (F0 m 15 ls []) := by
  have hx := F.1
  have hb := F.2.1
  have hown := F.2.2.2.1
  intro k
  induction k with
  | zero =>
    intro cnt i H locs ls hm hI hP hD hS hl
    refine lv_iload_n hx hb dX12_grow_15 rfl (lv_at hl 0 rfl) ?_
    refine lv_bipush (v := 32) hx hb dX12_grow_16 (by decide) ?_
    refine lv_icmp_ge (tgt := 106) hx hb dX12_grow_18 (by decide) (fun _ => ?_) (fun h_ => absurd (nI_le (a := 32) (b := i) (by omega) (by omega)) h_)
    exact kx cnt H locs ls (by rw [hI, if_neg (by omega)]) hP hD hS (lv_sub hl [1] rfl)
  | succ k ih =>
    intro cnt i H locs ls hm hI hP hD hS hl
    refine lv_iload_n hx hb dX12_grow_15 rfl (lv_at hl 0 rfl) ?_
    refine lv_bipush (v := 32) hx hb dX12_grow_16 (by decide) ?_
    refine lv_icmp_ge (tgt := 106) hx hb dX12_grow_18 (by decide) (fun h_ => absurd h_ (nI_ge (a := i) (b := 32) (by omega) (by decide))) (fun _ => ?_)
    refine lv_iload_n hx hb dX12_grow_21 rfl (lv_at hl 0 rfl) ?_
    refine csi (wr := [(y, .inr (12, .ref (g 0) :: .int 0 :: .int 0 :: .int 0 :: .int 0 :: .int 0 :: .int 0 :: .long 0 :: .int 0 :: .int (-1) :: .int 0 :: .int (-1) :: .int 0 :: .ref (g 13) :: .ref (g 14) :: .ref (g 15) :: .ref (g 16) :: .ref (g 17) :: .ref (g 18) :: .ref (g 19) :: .ref (g 20) :: .ref (g 21) :: .ref (g 22) :: .ref (g 23) :: .ref (g 24) :: .ref (g 25) :: .ref (g 26) :: .ref (g 27) :: .ref (g 28) :: .ref (g 29) :: .ref (g 30) :: .ref (g 31) :: .ref (g 32) :: .ref (g 33) :: .ref (g 34) :: .ref (g 35) :: .ref (g 36) :: .ref (g 37) :: .ref (g 38) :: .ref (g 39) :: .ref (g 40) :: .ref (g 41) :: .ref (g 42) :: .int 0 :: .int 1 :: .ref (g 45) :: .ref (g 46) :: .ref (g 47) :: .ref (g 48) :: .ref (g 49) :: .int 0 :: .int 0 :: .ref (g 52) :: .int 0 :: .int 0 :: .ref (g 55) :: .ref (g 56) :: .ref (g 57) :: .ref (g 58) :: .int 0 :: .int 0 :: .int 0 :: .int 0 :: .ref (g 63) :: .int 0 :: .ref (g 65) :: .long 1 :: .ref (g 67) :: .ref (g 68) :: .int 0 :: [])), ((g 13), .inl (G.2.1, 2, .inl (fun _ => 0))), ((g 21), .inl (G.2.1, 2, .inl (fun _ => 0)))]) (As := [.int (nI i)]) (rest := []) (k1 := cells) (s1 := slots) F hK hP hD hS hA (k_X12_bitsOf l G i (by omega)) kmS_X12_bitsOf mlX12_469 ⟨(Nat.le_trans (Nat.le_of_ble_eq_true rfl) hRf), (Nat.le_trans (Nat.le_of_ble_eq_true rfl) hRl)⟩ [] [0, 1, 2] rfl rfl rfl rfl (by decide) hl.1 rfl (Nat.le_of_ble_eq_true rfl) dX12_grow_22 ⟨hRc, hRs⟩ rfl rfl (fun r2 u1 H locs hwr2 (hP : va_P G.1 vwCl [(y, .inr (12, .ref (g 0) :: .int 0 :: .int 0 :: .int 0 :: .int 0 :: .int 0 :: .int 0 :: .long 0 :: .int 0 :: .int (-1) :: .int 0 :: .int (-1) :: .int 0 :: .ref (g 13) :: .ref (g 14) :: .ref (g 15) :: .ref (g 16) :: .ref (g 17) :: .ref (g 18) :: .ref (g 19) :: .ref (g 20) :: .ref (g 21) :: .ref (g 22) :: .ref (g 23) :: .ref (g 24) :: .ref (g 25) :: .ref (g 26) :: .ref (g 27) :: .ref (g 28) :: .ref (g 29) :: .ref (g 30) :: .ref (g 31) :: .ref (g 32) :: .ref (g 33) :: .ref (g 34) :: .ref (g 35) :: .ref (g 36) :: .ref (g 37) :: .ref (g 38) :: .ref (g 39) :: .ref (g 40) :: .ref (g 41) :: .ref (g 42) :: .int 0 :: .int 1 :: .ref (g 45) :: .ref (g 46) :: .ref (g 47) :: .ref (g 48) :: .ref (g 49) :: .int 0 :: .int 0 :: .ref (g 52) :: .int 0 :: .int 0 :: .ref (g 55) :: .ref (g 56) :: .ref (g 57) :: .ref (g 58) :: .int 0 :: .int 0 :: .int 0 :: .int 0 :: .ref (g 63) :: .int 0 :: .ref (g 65) :: .long 1 :: .ref (g 67) :: .ref (g 68) :: .int 0 :: [])), ((g 13), .inl (G.2.1, 2, .inl (fun _ => 0))), ((g 21), .inl (G.2.1, 2, .inl (fun _ => 0)))] H) (hD : va_D A [(y, .inr (12, .ref (g 0) :: .int 0 :: .int 0 :: .int 0 :: .int 0 :: .int 0 :: .int 0 :: .long 0 :: .int 0 :: .int (-1) :: .int 0 :: .int (-1) :: .int 0 :: .ref (g 13) :: .ref (g 14) :: .ref (g 15) :: .ref (g 16) :: .ref (g 17) :: .ref (g 18) :: .ref (g 19) :: .ref (g 20) :: .ref (g 21) :: .ref (g 22) :: .ref (g 23) :: .ref (g 24) :: .ref (g 25) :: .ref (g 26) :: .ref (g 27) :: .ref (g 28) :: .ref (g 29) :: .ref (g 30) :: .ref (g 31) :: .ref (g 32) :: .ref (g 33) :: .ref (g 34) :: .ref (g 35) :: .ref (g 36) :: .ref (g 37) :: .ref (g 38) :: .ref (g 39) :: .ref (g 40) :: .ref (g 41) :: .ref (g 42) :: .int 0 :: .int 1 :: .ref (g 45) :: .ref (g 46) :: .ref (g 47) :: .ref (g 48) :: .ref (g 49) :: .int 0 :: .int 0 :: .ref (g 52) :: .int 0 :: .int 0 :: .ref (g 55) :: .ref (g 56) :: .ref (g 57) :: .ref (g 58) :: .int 0 :: .int 0 :: .int 0 :: .int 0 :: .ref (g 63) :: .int 0 :: .ref (g 65) :: .long 1 :: .ref (g 67) :: .ref (g 68) :: .int 0 :: [])), ((g 13), .inl (G.2.1, 2, .inl (fun _ => 0))), ((g 21), .inl (G.2.1, 2, .inl (fun _ => 0)))]) hS => ?_)
    refine lv_iload_n hx hb dX12_grow_25 rfl (lv_at hl 3 rfl) ?_
    refine lv_icmp_ne (tgt := 33) hx hb dX12_grow_26 (by decide) (fun c3 => ?_) (fun c3 => ?_)
    · refine lv_iconst (v := 0) hx hb dX12_grow_33 (by decide) ?_
      refine lv_istore (lv' := [(4, .int 0), (3, .int (nI i)), (2, .int cnt), (0, .ref y), (1, .int d)]) hx hb dX12_grow_34 hl (by decide) rfl (fun ls hl => ?_)
      refine lv_iconst (v := 0) hx hb dX12_grow_36 (by decide) ?_
      refine lv_istore (lv' := [(5, .int 0), (4, .int 0), (3, .int (nI i)), (2, .int cnt), (0, .ref y), (1, .int d)]) hx hb dX12_grow_37 hl (by decide) rfl (fun ls hl => ?_)
      refine lv_iload hx hb dX12_grow_39 (lv_at hl 0 rfl) ?_
      refine lv_iconst (v := 5) hx hb dX12_grow_41 (by decide) ?_
      refine lv_icmp_ge (tgt := 87) hx hb dX12_grow_42 (by decide) (fun h_ => absurd h_ (by decide +kernel)) (fun _ => ?_)
      refine lv_iload hx hb dX12_grow_45 (lv_at hl 1 rfl) ?_
      refine lv_if_eq (tgt := 78) hx hb dX12_grow_47 (by decide) (fun _ => ?_) (fun h_ => absurd (by decide +kernel) h_)
      refine lv_iconst (v := 0) hx hb dX12_grow_78 (by decide) ?_
      refine lv_istore (lv' := [(4, .int 0), (5, .int 0), (3, .int (nI i)), (2, .int cnt), (0, .ref y), (1, .int d)]) hx hb dX12_grow_79 hl (by decide) rfl (fun ls hl => ?_)
      refine lv_iinc (v := 1) (lv' := [(5, .int 1), (4, .int 0), (3, .int (nI i)), (2, .int cnt), (0, .ref y), (1, .int d)]) hx hb dX12_grow_81 hl (k := 1) rfl (by decide +kernel) (by decide) rfl (fun ls hl => ?_)
      refine lv_goto (tgt := 39) hx hb dX12_grow_84 (by decide) ?_
      refine lv_iload hx hb dX12_grow_39 (lv_at hl 0 rfl) ?_
      refine lv_iconst (v := 5) hx hb dX12_grow_41 (by decide) ?_
      refine lv_icmp_ge (tgt := 87) hx hb dX12_grow_42 (by decide) (fun h_ => absurd h_ (by decide +kernel)) (fun _ => ?_)
      refine lv_iload hx hb dX12_grow_45 (lv_at hl 1 rfl) ?_
      refine lv_if_eq (tgt := 78) hx hb dX12_grow_47 (by decide) (fun _ => ?_) (fun h_ => absurd (by decide +kernel) h_)
      refine lv_iconst (v := 0) hx hb dX12_grow_78 (by decide) ?_
      refine lv_istore (lv' := [(4, .int 0), (5, .int 1), (3, .int (nI i)), (2, .int cnt), (0, .ref y), (1, .int d)]) hx hb dX12_grow_79 hl (by decide) rfl (fun ls hl => ?_)
      refine lv_iinc (v := 2) (lv' := [(5, .int 2), (4, .int 0), (3, .int (nI i)), (2, .int cnt), (0, .ref y), (1, .int d)]) hx hb dX12_grow_81 hl (k := 1) rfl (by decide +kernel) (by decide) rfl (fun ls hl => ?_)
      refine lv_goto (tgt := 39) hx hb dX12_grow_84 (by decide) ?_
      refine lv_iload hx hb dX12_grow_39 (lv_at hl 0 rfl) ?_
      refine lv_iconst (v := 5) hx hb dX12_grow_41 (by decide) ?_
      refine lv_icmp_ge (tgt := 87) hx hb dX12_grow_42 (by decide) (fun h_ => absurd h_ (by decide +kernel)) (fun _ => ?_)
      refine lv_iload hx hb dX12_grow_45 (lv_at hl 1 rfl) ?_
      refine lv_if_eq (tgt := 78) hx hb dX12_grow_47 (by decide) (fun _ => ?_) (fun h_ => absurd (by decide +kernel) h_)
      refine lv_iconst (v := 0) hx hb dX12_grow_78 (by decide) ?_
      refine lv_istore (lv' := [(4, .int 0), (5, .int 2), (3, .int (nI i)), (2, .int cnt), (0, .ref y), (1, .int d)]) hx hb dX12_grow_79 hl (by decide) rfl (fun ls hl => ?_)
      refine lv_iinc (v := 3) (lv' := [(5, .int 3), (4, .int 0), (3, .int (nI i)), (2, .int cnt), (0, .ref y), (1, .int d)]) hx hb dX12_grow_81 hl (k := 1) rfl (by decide +kernel) (by decide) rfl (fun ls hl => ?_)
      refine lv_goto (tgt := 39) hx hb dX12_grow_84 (by decide) ?_
      refine lv_iload hx hb dX12_grow_39 (lv_at hl 0 rfl) ?_
      refine lv_iconst (v := 5) hx hb dX12_grow_41 (by decide) ?_
      refine lv_icmp_ge (tgt := 87) hx hb dX12_grow_42 (by decide) (fun h_ => absurd h_ (by decide +kernel)) (fun _ => ?_)
      refine lv_iload hx hb dX12_grow_45 (lv_at hl 1 rfl) ?_
      refine lv_if_eq (tgt := 78) hx hb dX12_grow_47 (by decide) (fun _ => ?_) (fun h_ => absurd (by decide +kernel) h_)
      refine lv_iconst (v := 0) hx hb dX12_grow_78 (by decide) ?_
      refine lv_istore (lv' := [(4, .int 0), (5, .int 3), (3, .int (nI i)), (2, .int cnt), (0, .ref y), (1, .int d)]) hx hb dX12_grow_79 hl (by decide) rfl (fun ls hl => ?_)
      refine lv_iinc (v := 4) (lv' := [(5, .int 4), (4, .int 0), (3, .int (nI i)), (2, .int cnt), (0, .ref y), (1, .int d)]) hx hb dX12_grow_81 hl (k := 1) rfl (by decide +kernel) (by decide) rfl (fun ls hl => ?_)
      refine lv_goto (tgt := 39) hx hb dX12_grow_84 (by decide) ?_
      refine lv_iload hx hb dX12_grow_39 (lv_at hl 0 rfl) ?_
      refine lv_iconst (v := 5) hx hb dX12_grow_41 (by decide) ?_
      refine lv_icmp_ge (tgt := 87) hx hb dX12_grow_42 (by decide) (fun h_ => absurd h_ (by decide +kernel)) (fun _ => ?_)
      refine lv_iload hx hb dX12_grow_45 (lv_at hl 1 rfl) ?_
      refine lv_if_eq (tgt := 78) hx hb dX12_grow_47 (by decide) (fun _ => ?_) (fun h_ => absurd (by decide +kernel) h_)
      refine lv_iconst (v := 0) hx hb dX12_grow_78 (by decide) ?_
      refine lv_istore (lv' := [(4, .int 0), (5, .int 4), (3, .int (nI i)), (2, .int cnt), (0, .ref y), (1, .int d)]) hx hb dX12_grow_79 hl (by decide) rfl (fun ls hl => ?_)
      refine lv_iinc (v := 5) (lv' := [(5, .int 5), (4, .int 0), (3, .int (nI i)), (2, .int cnt), (0, .ref y), (1, .int d)]) hx hb dX12_grow_81 hl (k := 1) rfl (by decide +kernel) (by decide) rfl (fun ls hl => ?_)
      refine lv_goto (tgt := 39) hx hb dX12_grow_84 (by decide) ?_
      refine lv_iload hx hb dX12_grow_39 (lv_at hl 0 rfl) ?_
      refine lv_iconst (v := 5) hx hb dX12_grow_41 (by decide) ?_
      refine lv_icmp_ge (tgt := 87) hx hb dX12_grow_42 (by decide) (fun _ => ?_) (fun h_ => absurd (by decide +kernel) h_)
      refine lv_iload_n hx hb dX12_grow_87 rfl (lv_at hl 3 rfl) ?_
      refine lv_iload hx hb dX12_grow_88 (lv_at hl 1 rfl) ?_
      refine lv_if_eq (tgt := 97) hx hb dX12_grow_90 (by decide) (fun _ => ?_) (fun h_ => absurd (by decide +kernel) h_)
      refine lv_iconst (v := 0) hx hb dX12_grow_97 (by decide) ?_
      refine lv_iadd hx hb dX12_grow_98 ?_
      refine lv_topi (fun x4 ex4 => ?_)
      refine lv_istore_n (lv' := [(2, .int x4), (5, .int 5), (4, .int 0), (3, .int (nI i)), (0, .ref y), (1, .int d)]) hx hb dX12_grow_99 rfl hl (by decide) rfl (fun ls hl => ?_)
      refine lv_iinc (v := (nI (i + 1))) (lv' := [(3, .int (nI (i + 1))), (2, .int x4), (5, .int 5), (4, .int 0), (0, .ref y), (1, .int d)]) hx hb dX12_grow_100 hl (k := 3) rfl (nI_1 i) (by decide) rfl (fun ls hl => ?_)
      refine lv_goto (tgt := 15) hx hb dX12_grow_103 (by decide) ?_
      exact ih x4 (i + 1) H locs ls (by omega) (gZ (gA hI hwr2 c3) ex4) hP hD hS (lv_sub hl [0, 1, 4, 5] rfl)
    · refine lv_iconst (v := 1) hx hb dX12_grow_29 (by decide) ?_
      refine lv_goto (tgt := 34) hx hb dX12_grow_30 (by decide) ?_
      refine lv_istore (lv' := [(4, .int 1), (3, .int (nI i)), (2, .int cnt), (0, .ref y), (1, .int d)]) hx hb dX12_grow_34 hl (by decide) rfl (fun ls hl => ?_)
      refine lv_iconst (v := 0) hx hb dX12_grow_36 (by decide) ?_
      refine lv_istore (lv' := [(5, .int 0), (4, .int 1), (3, .int (nI i)), (2, .int cnt), (0, .ref y), (1, .int d)]) hx hb dX12_grow_37 hl (by decide) rfl (fun ls hl => ?_)
      refine lv_iload hx hb dX12_grow_39 (lv_at hl 0 rfl) ?_
      refine lv_iconst (v := 5) hx hb dX12_grow_41 (by decide) ?_
      refine lv_icmp_ge (tgt := 87) hx hb dX12_grow_42 (by decide) (fun h_ => absurd h_ (by decide +kernel)) (fun _ => ?_)
      refine lv_iload hx hb dX12_grow_45 (lv_at hl 1 rfl) ?_
      refine lv_if_eq (tgt := 78) hx hb dX12_grow_47 (by decide) (fun h_ => absurd h_ (by decide +kernel)) (fun _ => ?_)
      refine lv_iload_n hx hb dX12_grow_50 rfl (lv_at hl 2 rfl) ?_
      refine lv_iload hx hb dX12_grow_51 (lv_at hl 0 rfl) ?_
      refine lv_ishr hx hb dX12_grow_53 ?_
      refine lv_topi (fun x5 ex5 => ?_)
      refine lv_iconst (v := 1) hx hb dX12_grow_54 (by decide) ?_
      refine lv_iand hx hb dX12_grow_55 ?_
      refine lv_topi (fun x6 ex6 => ?_)
      refine lv_if_eq (tgt := 74) hx hb dX12_grow_56 (by decide) (fun c7 => ?_) (fun c7 => ?_)
      · refine lv_iconst (v := 1) hx hb dX12_grow_74 (by decide) ?_
        refine lv_goto (tgt := 79) hx hb dX12_grow_75 (by decide) ?_
        refine lv_istore (lv' := [(4, .int 1), (5, .int 0), (3, .int (nI i)), (2, .int cnt), (0, .ref y), (1, .int d)]) hx hb dX12_grow_79 hl (by decide) rfl (fun ls hl => ?_)
        refine lv_iinc (v := 1) (lv' := [(5, .int 1), (4, .int 1), (3, .int (nI i)), (2, .int cnt), (0, .ref y), (1, .int d)]) hx hb dX12_grow_81 hl (k := 1) rfl (by decide +kernel) (by decide) rfl (fun ls hl => ?_)
        refine lv_goto (tgt := 39) hx hb dX12_grow_84 (by decide) ?_
        refine lv_iload hx hb dX12_grow_39 (lv_at hl 0 rfl) ?_
        refine lv_iconst (v := 5) hx hb dX12_grow_41 (by decide) ?_
        refine lv_icmp_ge (tgt := 87) hx hb dX12_grow_42 (by decide) (fun h_ => absurd h_ (by decide +kernel)) (fun _ => ?_)
        refine lv_iload hx hb dX12_grow_45 (lv_at hl 1 rfl) ?_
        refine lv_if_eq (tgt := 78) hx hb dX12_grow_47 (by decide) (fun h_ => absurd h_ (by decide +kernel)) (fun _ => ?_)
        refine lv_iload_n hx hb dX12_grow_50 rfl (lv_at hl 2 rfl) ?_
        refine lv_iload hx hb dX12_grow_51 (lv_at hl 0 rfl) ?_
        refine lv_ishr hx hb dX12_grow_53 ?_
        refine lv_topi (fun x8 ex8 => ?_)
        refine lv_iconst (v := 1) hx hb dX12_grow_54 (by decide) ?_
        refine lv_iand hx hb dX12_grow_55 ?_
        refine lv_topi (fun x9 ex9 => ?_)
        refine lv_if_eq (tgt := 74) hx hb dX12_grow_56 (by decide) (fun c10 => ?_) (fun c10 => ?_)
        · refine lv_iconst (v := 1) hx hb dX12_grow_74 (by decide) ?_
          refine lv_goto (tgt := 79) hx hb dX12_grow_75 (by decide) ?_
          refine lv_istore (lv' := [(4, .int 1), (5, .int 1), (3, .int (nI i)), (2, .int cnt), (0, .ref y), (1, .int d)]) hx hb dX12_grow_79 hl (by decide) rfl (fun ls hl => ?_)
          refine lv_iinc (v := 2) (lv' := [(5, .int 2), (4, .int 1), (3, .int (nI i)), (2, .int cnt), (0, .ref y), (1, .int d)]) hx hb dX12_grow_81 hl (k := 1) rfl (by decide +kernel) (by decide) rfl (fun ls hl => ?_)
          refine lv_goto (tgt := 39) hx hb dX12_grow_84 (by decide) ?_
          refine lv_iload hx hb dX12_grow_39 (lv_at hl 0 rfl) ?_
          refine lv_iconst (v := 5) hx hb dX12_grow_41 (by decide) ?_
          refine lv_icmp_ge (tgt := 87) hx hb dX12_grow_42 (by decide) (fun h_ => absurd h_ (by decide +kernel)) (fun _ => ?_)
          refine lv_iload hx hb dX12_grow_45 (lv_at hl 1 rfl) ?_
          refine lv_if_eq (tgt := 78) hx hb dX12_grow_47 (by decide) (fun h_ => absurd h_ (by decide +kernel)) (fun _ => ?_)
          refine lv_iload_n hx hb dX12_grow_50 rfl (lv_at hl 2 rfl) ?_
          refine lv_iload hx hb dX12_grow_51 (lv_at hl 0 rfl) ?_
          refine lv_ishr hx hb dX12_grow_53 ?_
          refine lv_topi (fun x11 ex11 => ?_)
          refine lv_iconst (v := 1) hx hb dX12_grow_54 (by decide) ?_
          refine lv_iand hx hb dX12_grow_55 ?_
          refine lv_topi (fun x12 ex12 => ?_)
          refine lv_if_eq (tgt := 74) hx hb dX12_grow_56 (by decide) (fun c13 => ?_) (fun c13 => ?_)
          · refine lv_iconst (v := 1) hx hb dX12_grow_74 (by decide) ?_
            refine lv_goto (tgt := 79) hx hb dX12_grow_75 (by decide) ?_
            refine lv_istore (lv' := [(4, .int 1), (5, .int 2), (3, .int (nI i)), (2, .int cnt), (0, .ref y), (1, .int d)]) hx hb dX12_grow_79 hl (by decide) rfl (fun ls hl => ?_)
            refine lv_iinc (v := 3) (lv' := [(5, .int 3), (4, .int 1), (3, .int (nI i)), (2, .int cnt), (0, .ref y), (1, .int d)]) hx hb dX12_grow_81 hl (k := 1) rfl (by decide +kernel) (by decide) rfl (fun ls hl => ?_)
            refine lv_goto (tgt := 39) hx hb dX12_grow_84 (by decide) ?_
            refine lv_iload hx hb dX12_grow_39 (lv_at hl 0 rfl) ?_
            refine lv_iconst (v := 5) hx hb dX12_grow_41 (by decide) ?_
            refine lv_icmp_ge (tgt := 87) hx hb dX12_grow_42 (by decide) (fun h_ => absurd h_ (by decide +kernel)) (fun _ => ?_)
            refine lv_iload hx hb dX12_grow_45 (lv_at hl 1 rfl) ?_
            refine lv_if_eq (tgt := 78) hx hb dX12_grow_47 (by decide) (fun h_ => absurd h_ (by decide +kernel)) (fun _ => ?_)
            refine lv_iload_n hx hb dX12_grow_50 rfl (lv_at hl 2 rfl) ?_
            refine lv_iload hx hb dX12_grow_51 (lv_at hl 0 rfl) ?_
            refine lv_ishr hx hb dX12_grow_53 ?_
            refine lv_topi (fun x14 ex14 => ?_)
            refine lv_iconst (v := 1) hx hb dX12_grow_54 (by decide) ?_
            refine lv_iand hx hb dX12_grow_55 ?_
            refine lv_topi (fun x15 ex15 => ?_)
            refine lv_if_eq (tgt := 74) hx hb dX12_grow_56 (by decide) (fun c16 => ?_) (fun c16 => ?_)
            · refine lv_iconst (v := 1) hx hb dX12_grow_74 (by decide) ?_
              refine lv_goto (tgt := 79) hx hb dX12_grow_75 (by decide) ?_
              refine lv_istore (lv' := [(4, .int 1), (5, .int 3), (3, .int (nI i)), (2, .int cnt), (0, .ref y), (1, .int d)]) hx hb dX12_grow_79 hl (by decide) rfl (fun ls hl => ?_)
              refine lv_iinc (v := 4) (lv' := [(5, .int 4), (4, .int 1), (3, .int (nI i)), (2, .int cnt), (0, .ref y), (1, .int d)]) hx hb dX12_grow_81 hl (k := 1) rfl (by decide +kernel) (by decide) rfl (fun ls hl => ?_)
              refine lv_goto (tgt := 39) hx hb dX12_grow_84 (by decide) ?_
              refine lv_iload hx hb dX12_grow_39 (lv_at hl 0 rfl) ?_
              refine lv_iconst (v := 5) hx hb dX12_grow_41 (by decide) ?_
              refine lv_icmp_ge (tgt := 87) hx hb dX12_grow_42 (by decide) (fun h_ => absurd h_ (by decide +kernel)) (fun _ => ?_)
              refine lv_iload hx hb dX12_grow_45 (lv_at hl 1 rfl) ?_
              refine lv_if_eq (tgt := 78) hx hb dX12_grow_47 (by decide) (fun h_ => absurd h_ (by decide +kernel)) (fun _ => ?_)
              refine lv_iload_n hx hb dX12_grow_50 rfl (lv_at hl 2 rfl) ?_
              refine lv_iload hx hb dX12_grow_51 (lv_at hl 0 rfl) ?_
              refine lv_ishr hx hb dX12_grow_53 ?_
              refine lv_topi (fun x17 ex17 => ?_)
              refine lv_iconst (v := 1) hx hb dX12_grow_54 (by decide) ?_
              refine lv_iand hx hb dX12_grow_55 ?_
              refine lv_topi (fun x18 ex18 => ?_)
              refine lv_if_eq (tgt := 74) hx hb dX12_grow_56 (by decide) (fun c19 => ?_) (fun c19 => ?_)
              · refine lv_iconst (v := 1) hx hb dX12_grow_74 (by decide) ?_
                refine lv_goto (tgt := 79) hx hb dX12_grow_75 (by decide) ?_
                refine lv_istore (lv' := [(4, .int 1), (5, .int 4), (3, .int (nI i)), (2, .int cnt), (0, .ref y), (1, .int d)]) hx hb dX12_grow_79 hl (by decide) rfl (fun ls hl => ?_)
                refine lv_iinc (v := 5) (lv' := [(5, .int 5), (4, .int 1), (3, .int (nI i)), (2, .int cnt), (0, .ref y), (1, .int d)]) hx hb dX12_grow_81 hl (k := 1) rfl (by decide +kernel) (by decide) rfl (fun ls hl => ?_)
                refine lv_goto (tgt := 39) hx hb dX12_grow_84 (by decide) ?_
                refine lv_iload hx hb dX12_grow_39 (lv_at hl 0 rfl) ?_
                refine lv_iconst (v := 5) hx hb dX12_grow_41 (by decide) ?_
                refine lv_icmp_ge (tgt := 87) hx hb dX12_grow_42 (by decide) (fun _ => ?_) (fun h_ => absurd (by decide +kernel) h_)
                refine lv_iload_n hx hb dX12_grow_87 rfl (lv_at hl 3 rfl) ?_
                refine lv_iload hx hb dX12_grow_88 (lv_at hl 1 rfl) ?_
                refine lv_if_eq (tgt := 97) hx hb dX12_grow_90 (by decide) (fun h_ => absurd h_ (by decide +kernel)) (fun _ => ?_)
                refine lv_iconst (v := 1) hx hb dX12_grow_93 (by decide) ?_
                refine lv_goto (tgt := 98) hx hb dX12_grow_94 (by decide) ?_
                refine lv_iadd hx hb dX12_grow_98 ?_
                refine lv_topi (fun x20 ex20 => ?_)
                refine lv_istore_n (lv' := [(2, .int x20), (5, .int 5), (4, .int 1), (3, .int (nI i)), (0, .ref y), (1, .int d)]) hx hb dX12_grow_99 rfl hl (by decide) rfl (fun ls hl => ?_)
                refine lv_iinc (v := (nI (i + 1))) (lv' := [(3, .int (nI (i + 1))), (2, .int x20), (5, .int 5), (4, .int 1), (0, .ref y), (1, .int d)]) hx hb dX12_grow_100 hl (k := 3) rfl (nI_1 i) (by decide) rfl (fun ls hl => ?_)
                refine lv_goto (tgt := 15) hx hb dX12_grow_103 (by decide) ?_
                exact ih x20 (i + 1) H locs ls (by omega) (gC hI (bits0 i (by omega) (by rw [← ex5, ← ex6]; exact c7) (by rw [← ex8, ← ex9]; exact c10) (by rw [← ex11, ← ex12]; exact c13) (by rw [← ex14, ← ex15]; exact c16) (by rw [← ex17, ← ex18]; exact c19)) (by rw [← c3]; exact hwr2 (bits0 i (by omega) (by rw [← ex5, ← ex6]; exact c7) (by rw [← ex8, ← ex9]; exact c10) (by rw [← ex11, ← ex12]; exact c13) (by rw [← ex14, ← ex15]; exact c16) (by rw [← ex17, ← ex18]; exact c19))) ex20) hP hD hS (lv_sub hl [0, 1, 4, 5] rfl)
              · refine lv_aload_n hx hb dX12_grow_59 rfl (lv_at hl 4 rfl) ?_
                refine lv_iload hx hb dX12_grow_60 (lv_at hl 0 rfl) ?_
                refine cvi (wr := [((g 13), .inl (G.2.1, 2, .inl (fun _ => 0)))]) (As := [.int 4]) (rest := []) (b := y) (k1 := cells) (s1 := slots) F hK hP hD hS hA (k_X12_othersOn l G y 4 g 0 0 0) kmV_X12_othersOn mlX12_482 clX12 rfl 0 rfl ⟨(Nat.le_trans (Nat.le_of_ble_eq_true rfl) hRf), (Nat.le_trans (Nat.le_of_ble_eq_true rfl) hRl)⟩ [0, 2] [1] rfl rfl rfl rfl (by decide) hl.1 rfl (Nat.le_of_ble_eq_true rfl) dX12_grow_62 ⟨hRc, hRs⟩ rfl rfl (fun r22 u21 H locs hwr22 (hP : va_P G.1 vwCl [((g 13), .inl (G.2.1, 2, .inl (fun _ => 0))), (y, .inr (12, .ref (g 0) :: .int 0 :: .int 0 :: .int 0 :: .int 0 :: .int 0 :: .int 0 :: .long 0 :: .int 0 :: .int (-1) :: .int 0 :: .int (-1) :: .int 0 :: .ref (g 13) :: .ref (g 14) :: .ref (g 15) :: .ref (g 16) :: .ref (g 17) :: .ref (g 18) :: .ref (g 19) :: .ref (g 20) :: .ref (g 21) :: .ref (g 22) :: .ref (g 23) :: .ref (g 24) :: .ref (g 25) :: .ref (g 26) :: .ref (g 27) :: .ref (g 28) :: .ref (g 29) :: .ref (g 30) :: .ref (g 31) :: .ref (g 32) :: .ref (g 33) :: .ref (g 34) :: .ref (g 35) :: .ref (g 36) :: .ref (g 37) :: .ref (g 38) :: .ref (g 39) :: .ref (g 40) :: .ref (g 41) :: .ref (g 42) :: .int 0 :: .int 1 :: .ref (g 45) :: .ref (g 46) :: .ref (g 47) :: .ref (g 48) :: .ref (g 49) :: .int 0 :: .int 0 :: .ref (g 52) :: .int 0 :: .int 0 :: .ref (g 55) :: .ref (g 56) :: .ref (g 57) :: .ref (g 58) :: .int 0 :: .int 0 :: .int 0 :: .int 0 :: .ref (g 63) :: .int 0 :: .ref (g 65) :: .long 1 :: .ref (g 67) :: .ref (g 68) :: .int 0 :: [])), ((g 21), .inl (G.2.1, 2, .inl (fun _ => 0)))] H) (hD : va_D A [((g 13), .inl (G.2.1, 2, .inl (fun _ => 0))), (y, .inr (12, .ref (g 0) :: .int 0 :: .int 0 :: .int 0 :: .int 0 :: .int 0 :: .int 0 :: .long 0 :: .int 0 :: .int (-1) :: .int 0 :: .int (-1) :: .int 0 :: .ref (g 13) :: .ref (g 14) :: .ref (g 15) :: .ref (g 16) :: .ref (g 17) :: .ref (g 18) :: .ref (g 19) :: .ref (g 20) :: .ref (g 21) :: .ref (g 22) :: .ref (g 23) :: .ref (g 24) :: .ref (g 25) :: .ref (g 26) :: .ref (g 27) :: .ref (g 28) :: .ref (g 29) :: .ref (g 30) :: .ref (g 31) :: .ref (g 32) :: .ref (g 33) :: .ref (g 34) :: .ref (g 35) :: .ref (g 36) :: .ref (g 37) :: .ref (g 38) :: .ref (g 39) :: .ref (g 40) :: .ref (g 41) :: .ref (g 42) :: .int 0 :: .int 1 :: .ref (g 45) :: .ref (g 46) :: .ref (g 47) :: .ref (g 48) :: .ref (g 49) :: .int 0 :: .int 0 :: .ref (g 52) :: .int 0 :: .int 0 :: .ref (g 55) :: .ref (g 56) :: .ref (g 57) :: .ref (g 58) :: .int 0 :: .int 0 :: .int 0 :: .int 0 :: .ref (g 63) :: .int 0 :: .ref (g 65) :: .long 1 :: .ref (g 67) :: .ref (g 68) :: .int 0 :: [])), ((g 21), .inl (G.2.1, 2, .inl (fun _ => 0)))]) hS => ?_)
                subst hwr22
                refine lv_iconst (v := 1) hx hb dX12_grow_65 (by decide) ?_
                refine lv_iadd hx hb dX12_grow_66 ?_
                refine cst_i (y := 1) (by decide +kernel) ?_
                refine lv_aload_n hx hb dX12_grow_67 rfl (lv_at hl 4 rfl) ?_
                refine cvi (wr := []) (As := []) (rest := [.int 1]) (b := y) (k1 := cells) (s1 := slots) F hK hP hD hS hA (k_X12_spare l G y g 0 0 0) kmV_X12_spare mlX12_485 clX12 rfl 0 rfl ⟨(Nat.le_trans (Nat.le_of_ble_eq_true rfl) hRf), (Nat.le_trans (Nat.le_of_ble_eq_true rfl) hRl)⟩ [1, 0, 2] [] rfl rfl rfl rfl (by decide) hl.1 rfl (Nat.le_of_ble_eq_true rfl) dX12_grow_68 ⟨hRc, hRs⟩ rfl rfl (fun r24 u23 H locs hwr24 (hP : va_P G.1 vwCl [(y, .inr (12, .ref (g 0) :: .int 0 :: .int 0 :: .int 0 :: .int 0 :: .int 0 :: .int 0 :: .long 0 :: .int 0 :: .int (-1) :: .int 0 :: .int (-1) :: .int 0 :: .ref (g 13) :: .ref (g 14) :: .ref (g 15) :: .ref (g 16) :: .ref (g 17) :: .ref (g 18) :: .ref (g 19) :: .ref (g 20) :: .ref (g 21) :: .ref (g 22) :: .ref (g 23) :: .ref (g 24) :: .ref (g 25) :: .ref (g 26) :: .ref (g 27) :: .ref (g 28) :: .ref (g 29) :: .ref (g 30) :: .ref (g 31) :: .ref (g 32) :: .ref (g 33) :: .ref (g 34) :: .ref (g 35) :: .ref (g 36) :: .ref (g 37) :: .ref (g 38) :: .ref (g 39) :: .ref (g 40) :: .ref (g 41) :: .ref (g 42) :: .int 0 :: .int 1 :: .ref (g 45) :: .ref (g 46) :: .ref (g 47) :: .ref (g 48) :: .ref (g 49) :: .int 0 :: .int 0 :: .ref (g 52) :: .int 0 :: .int 0 :: .ref (g 55) :: .ref (g 56) :: .ref (g 57) :: .ref (g 58) :: .int 0 :: .int 0 :: .int 0 :: .int 0 :: .ref (g 63) :: .int 0 :: .ref (g 65) :: .long 1 :: .ref (g 67) :: .ref (g 68) :: .int 0 :: [])), ((g 13), .inl (G.2.1, 2, .inl (fun _ => 0))), ((g 21), .inl (G.2.1, 2, .inl (fun _ => 0)))] H) (hD : va_D A [(y, .inr (12, .ref (g 0) :: .int 0 :: .int 0 :: .int 0 :: .int 0 :: .int 0 :: .int 0 :: .long 0 :: .int 0 :: .int (-1) :: .int 0 :: .int (-1) :: .int 0 :: .ref (g 13) :: .ref (g 14) :: .ref (g 15) :: .ref (g 16) :: .ref (g 17) :: .ref (g 18) :: .ref (g 19) :: .ref (g 20) :: .ref (g 21) :: .ref (g 22) :: .ref (g 23) :: .ref (g 24) :: .ref (g 25) :: .ref (g 26) :: .ref (g 27) :: .ref (g 28) :: .ref (g 29) :: .ref (g 30) :: .ref (g 31) :: .ref (g 32) :: .ref (g 33) :: .ref (g 34) :: .ref (g 35) :: .ref (g 36) :: .ref (g 37) :: .ref (g 38) :: .ref (g 39) :: .ref (g 40) :: .ref (g 41) :: .ref (g 42) :: .int 0 :: .int 1 :: .ref (g 45) :: .ref (g 46) :: .ref (g 47) :: .ref (g 48) :: .ref (g 49) :: .int 0 :: .int 0 :: .ref (g 52) :: .int 0 :: .int 0 :: .ref (g 55) :: .ref (g 56) :: .ref (g 57) :: .ref (g 58) :: .int 0 :: .int 0 :: .int 0 :: .int 0 :: .ref (g 63) :: .int 0 :: .ref (g 65) :: .long 1 :: .ref (g 67) :: .ref (g 68) :: .int 0 :: [])), ((g 13), .inl (G.2.1, 2, .inl (fun _ => 0))), ((g 21), .inl (G.2.1, 2, .inl (fun _ => 0)))]) hS => ?_)
                subst hwr24
                refine lv_icmp_gt (tgt := 78) hx hb dX12_grow_71 (by decide) (fun _ => ?_) (fun h_ => absurd (by decide +kernel) h_)
                refine lv_iconst (v := 0) hx hb dX12_grow_78 (by decide) ?_
                refine lv_istore (lv' := [(4, .int 0), (5, .int 4), (3, .int (nI i)), (2, .int cnt), (0, .ref y), (1, .int d)]) hx hb dX12_grow_79 hl (by decide) rfl (fun ls hl => ?_)
                refine lv_iinc (v := 5) (lv' := [(5, .int 5), (4, .int 0), (3, .int (nI i)), (2, .int cnt), (0, .ref y), (1, .int d)]) hx hb dX12_grow_81 hl (k := 1) rfl (by decide +kernel) (by decide) rfl (fun ls hl => ?_)
                refine lv_goto (tgt := 39) hx hb dX12_grow_84 (by decide) ?_
                refine lv_iload hx hb dX12_grow_39 (lv_at hl 0 rfl) ?_
                refine lv_iconst (v := 5) hx hb dX12_grow_41 (by decide) ?_
                refine lv_icmp_ge (tgt := 87) hx hb dX12_grow_42 (by decide) (fun _ => ?_) (fun h_ => absurd (by decide +kernel) h_)
                refine lv_iload_n hx hb dX12_grow_87 rfl (lv_at hl 3 rfl) ?_
                refine lv_iload hx hb dX12_grow_88 (lv_at hl 1 rfl) ?_
                refine lv_if_eq (tgt := 97) hx hb dX12_grow_90 (by decide) (fun _ => ?_) (fun h_ => absurd (by decide +kernel) h_)
                refine lv_iconst (v := 0) hx hb dX12_grow_97 (by decide) ?_
                refine lv_iadd hx hb dX12_grow_98 ?_
                refine lv_topi (fun x25 ex25 => ?_)
                refine lv_istore_n (lv' := [(2, .int x25), (5, .int 5), (4, .int 0), (3, .int (nI i)), (0, .ref y), (1, .int d)]) hx hb dX12_grow_99 rfl hl (by decide) rfl (fun ls hl => ?_)
                refine lv_iinc (v := (nI (i + 1))) (lv' := [(3, .int (nI (i + 1))), (2, .int x25), (5, .int 5), (4, .int 0), (0, .ref y), (1, .int d)]) hx hb dX12_grow_100 hl (k := 3) rfl (nI_1 i) (by decide) rfl (fun ls hl => ?_)
                refine lv_goto (tgt := 15) hx hb dX12_grow_103 (by decide) ?_
                exact ih x25 (i + 1) H locs ls (by omega) (gZ (gB hI (fun q => c19 (by rw [ex18, ex17, q]; decide +kernel))) ex25) hP hD hS (lv_sub hl [0, 1, 4, 5] rfl)
            · refine lv_aload_n hx hb dX12_grow_59 rfl (lv_at hl 4 rfl) ?_
              refine lv_iload hx hb dX12_grow_60 (lv_at hl 0 rfl) ?_
              refine cvi (wr := [((g 13), .inl (G.2.1, 2, .inl (fun _ => 0)))]) (As := [.int 3]) (rest := []) (b := y) (k1 := cells) (s1 := slots) F hK hP hD hS hA (k_X12_othersOn l G y 3 g 0 0 0) kmV_X12_othersOn mlX12_482 clX12 rfl 0 rfl ⟨(Nat.le_trans (Nat.le_of_ble_eq_true rfl) hRf), (Nat.le_trans (Nat.le_of_ble_eq_true rfl) hRl)⟩ [0, 2] [1] rfl rfl rfl rfl (by decide) hl.1 rfl (Nat.le_of_ble_eq_true rfl) dX12_grow_62 ⟨hRc, hRs⟩ rfl rfl (fun r27 u26 H locs hwr27 (hP : va_P G.1 vwCl [((g 13), .inl (G.2.1, 2, .inl (fun _ => 0))), (y, .inr (12, .ref (g 0) :: .int 0 :: .int 0 :: .int 0 :: .int 0 :: .int 0 :: .int 0 :: .long 0 :: .int 0 :: .int (-1) :: .int 0 :: .int (-1) :: .int 0 :: .ref (g 13) :: .ref (g 14) :: .ref (g 15) :: .ref (g 16) :: .ref (g 17) :: .ref (g 18) :: .ref (g 19) :: .ref (g 20) :: .ref (g 21) :: .ref (g 22) :: .ref (g 23) :: .ref (g 24) :: .ref (g 25) :: .ref (g 26) :: .ref (g 27) :: .ref (g 28) :: .ref (g 29) :: .ref (g 30) :: .ref (g 31) :: .ref (g 32) :: .ref (g 33) :: .ref (g 34) :: .ref (g 35) :: .ref (g 36) :: .ref (g 37) :: .ref (g 38) :: .ref (g 39) :: .ref (g 40) :: .ref (g 41) :: .ref (g 42) :: .int 0 :: .int 1 :: .ref (g 45) :: .ref (g 46) :: .ref (g 47) :: .ref (g 48) :: .ref (g 49) :: .int 0 :: .int 0 :: .ref (g 52) :: .int 0 :: .int 0 :: .ref (g 55) :: .ref (g 56) :: .ref (g 57) :: .ref (g 58) :: .int 0 :: .int 0 :: .int 0 :: .int 0 :: .ref (g 63) :: .int 0 :: .ref (g 65) :: .long 1 :: .ref (g 67) :: .ref (g 68) :: .int 0 :: [])), ((g 21), .inl (G.2.1, 2, .inl (fun _ => 0)))] H) (hD : va_D A [((g 13), .inl (G.2.1, 2, .inl (fun _ => 0))), (y, .inr (12, .ref (g 0) :: .int 0 :: .int 0 :: .int 0 :: .int 0 :: .int 0 :: .int 0 :: .long 0 :: .int 0 :: .int (-1) :: .int 0 :: .int (-1) :: .int 0 :: .ref (g 13) :: .ref (g 14) :: .ref (g 15) :: .ref (g 16) :: .ref (g 17) :: .ref (g 18) :: .ref (g 19) :: .ref (g 20) :: .ref (g 21) :: .ref (g 22) :: .ref (g 23) :: .ref (g 24) :: .ref (g 25) :: .ref (g 26) :: .ref (g 27) :: .ref (g 28) :: .ref (g 29) :: .ref (g 30) :: .ref (g 31) :: .ref (g 32) :: .ref (g 33) :: .ref (g 34) :: .ref (g 35) :: .ref (g 36) :: .ref (g 37) :: .ref (g 38) :: .ref (g 39) :: .ref (g 40) :: .ref (g 41) :: .ref (g 42) :: .int 0 :: .int 1 :: .ref (g 45) :: .ref (g 46) :: .ref (g 47) :: .ref (g 48) :: .ref (g 49) :: .int 0 :: .int 0 :: .ref (g 52) :: .int 0 :: .int 0 :: .ref (g 55) :: .ref (g 56) :: .ref (g 57) :: .ref (g 58) :: .int 0 :: .int 0 :: .int 0 :: .int 0 :: .ref (g 63) :: .int 0 :: .ref (g 65) :: .long 1 :: .ref (g 67) :: .ref (g 68) :: .int 0 :: [])), ((g 21), .inl (G.2.1, 2, .inl (fun _ => 0)))]) hS => ?_)
              subst hwr27
              refine lv_iconst (v := 1) hx hb dX12_grow_65 (by decide) ?_
              refine lv_iadd hx hb dX12_grow_66 ?_
              refine cst_i (y := 1) (by decide +kernel) ?_
              refine lv_aload_n hx hb dX12_grow_67 rfl (lv_at hl 4 rfl) ?_
              refine cvi (wr := []) (As := []) (rest := [.int 1]) (b := y) (k1 := cells) (s1 := slots) F hK hP hD hS hA (k_X12_spare l G y g 0 0 0) kmV_X12_spare mlX12_485 clX12 rfl 0 rfl ⟨(Nat.le_trans (Nat.le_of_ble_eq_true rfl) hRf), (Nat.le_trans (Nat.le_of_ble_eq_true rfl) hRl)⟩ [1, 0, 2] [] rfl rfl rfl rfl (by decide) hl.1 rfl (Nat.le_of_ble_eq_true rfl) dX12_grow_68 ⟨hRc, hRs⟩ rfl rfl (fun r29 u28 H locs hwr29 (hP : va_P G.1 vwCl [(y, .inr (12, .ref (g 0) :: .int 0 :: .int 0 :: .int 0 :: .int 0 :: .int 0 :: .int 0 :: .long 0 :: .int 0 :: .int (-1) :: .int 0 :: .int (-1) :: .int 0 :: .ref (g 13) :: .ref (g 14) :: .ref (g 15) :: .ref (g 16) :: .ref (g 17) :: .ref (g 18) :: .ref (g 19) :: .ref (g 20) :: .ref (g 21) :: .ref (g 22) :: .ref (g 23) :: .ref (g 24) :: .ref (g 25) :: .ref (g 26) :: .ref (g 27) :: .ref (g 28) :: .ref (g 29) :: .ref (g 30) :: .ref (g 31) :: .ref (g 32) :: .ref (g 33) :: .ref (g 34) :: .ref (g 35) :: .ref (g 36) :: .ref (g 37) :: .ref (g 38) :: .ref (g 39) :: .ref (g 40) :: .ref (g 41) :: .ref (g 42) :: .int 0 :: .int 1 :: .ref (g 45) :: .ref (g 46) :: .ref (g 47) :: .ref (g 48) :: .ref (g 49) :: .int 0 :: .int 0 :: .ref (g 52) :: .int 0 :: .int 0 :: .ref (g 55) :: .ref (g 56) :: .ref (g 57) :: .ref (g 58) :: .int 0 :: .int 0 :: .int 0 :: .int 0 :: .ref (g 63) :: .int 0 :: .ref (g 65) :: .long 1 :: .ref (g 67) :: .ref (g 68) :: .int 0 :: [])), ((g 13), .inl (G.2.1, 2, .inl (fun _ => 0))), ((g 21), .inl (G.2.1, 2, .inl (fun _ => 0)))] H) (hD : va_D A [(y, .inr (12, .ref (g 0) :: .int 0 :: .int 0 :: .int 0 :: .int 0 :: .int 0 :: .int 0 :: .long 0 :: .int 0 :: .int (-1) :: .int 0 :: .int (-1) :: .int 0 :: .ref (g 13) :: .ref (g 14) :: .ref (g 15) :: .ref (g 16) :: .ref (g 17) :: .ref (g 18) :: .ref (g 19) :: .ref (g 20) :: .ref (g 21) :: .ref (g 22) :: .ref (g 23) :: .ref (g 24) :: .ref (g 25) :: .ref (g 26) :: .ref (g 27) :: .ref (g 28) :: .ref (g 29) :: .ref (g 30) :: .ref (g 31) :: .ref (g 32) :: .ref (g 33) :: .ref (g 34) :: .ref (g 35) :: .ref (g 36) :: .ref (g 37) :: .ref (g 38) :: .ref (g 39) :: .ref (g 40) :: .ref (g 41) :: .ref (g 42) :: .int 0 :: .int 1 :: .ref (g 45) :: .ref (g 46) :: .ref (g 47) :: .ref (g 48) :: .ref (g 49) :: .int 0 :: .int 0 :: .ref (g 52) :: .int 0 :: .int 0 :: .ref (g 55) :: .ref (g 56) :: .ref (g 57) :: .ref (g 58) :: .int 0 :: .int 0 :: .int 0 :: .int 0 :: .ref (g 63) :: .int 0 :: .ref (g 65) :: .long 1 :: .ref (g 67) :: .ref (g 68) :: .int 0 :: [])), ((g 13), .inl (G.2.1, 2, .inl (fun _ => 0))), ((g 21), .inl (G.2.1, 2, .inl (fun _ => 0)))]) hS => ?_)
              subst hwr29
              refine lv_icmp_gt (tgt := 78) hx hb dX12_grow_71 (by decide) (fun _ => ?_) (fun h_ => absurd (by decide +kernel) h_)
              refine lv_iconst (v := 0) hx hb dX12_grow_78 (by decide) ?_
              refine lv_istore (lv' := [(4, .int 0), (5, .int 3), (3, .int (nI i)), (2, .int cnt), (0, .ref y), (1, .int d)]) hx hb dX12_grow_79 hl (by decide) rfl (fun ls hl => ?_)
              refine lv_iinc (v := 4) (lv' := [(5, .int 4), (4, .int 0), (3, .int (nI i)), (2, .int cnt), (0, .ref y), (1, .int d)]) hx hb dX12_grow_81 hl (k := 1) rfl (by decide +kernel) (by decide) rfl (fun ls hl => ?_)
              refine lv_goto (tgt := 39) hx hb dX12_grow_84 (by decide) ?_
              refine lv_iload hx hb dX12_grow_39 (lv_at hl 0 rfl) ?_
              refine lv_iconst (v := 5) hx hb dX12_grow_41 (by decide) ?_
              refine lv_icmp_ge (tgt := 87) hx hb dX12_grow_42 (by decide) (fun h_ => absurd h_ (by decide +kernel)) (fun _ => ?_)
              refine lv_iload hx hb dX12_grow_45 (lv_at hl 1 rfl) ?_
              refine lv_if_eq (tgt := 78) hx hb dX12_grow_47 (by decide) (fun _ => ?_) (fun h_ => absurd (by decide +kernel) h_)
              refine lv_iconst (v := 0) hx hb dX12_grow_78 (by decide) ?_
              refine lv_istore (lv' := [(4, .int 0), (5, .int 4), (3, .int (nI i)), (2, .int cnt), (0, .ref y), (1, .int d)]) hx hb dX12_grow_79 hl (by decide) rfl (fun ls hl => ?_)
              refine lv_iinc (v := 5) (lv' := [(5, .int 5), (4, .int 0), (3, .int (nI i)), (2, .int cnt), (0, .ref y), (1, .int d)]) hx hb dX12_grow_81 hl (k := 1) rfl (by decide +kernel) (by decide) rfl (fun ls hl => ?_)
              refine lv_goto (tgt := 39) hx hb dX12_grow_84 (by decide) ?_
              refine lv_iload hx hb dX12_grow_39 (lv_at hl 0 rfl) ?_
              refine lv_iconst (v := 5) hx hb dX12_grow_41 (by decide) ?_
              refine lv_icmp_ge (tgt := 87) hx hb dX12_grow_42 (by decide) (fun _ => ?_) (fun h_ => absurd (by decide +kernel) h_)
              refine lv_iload_n hx hb dX12_grow_87 rfl (lv_at hl 3 rfl) ?_
              refine lv_iload hx hb dX12_grow_88 (lv_at hl 1 rfl) ?_
              refine lv_if_eq (tgt := 97) hx hb dX12_grow_90 (by decide) (fun _ => ?_) (fun h_ => absurd (by decide +kernel) h_)
              refine lv_iconst (v := 0) hx hb dX12_grow_97 (by decide) ?_
              refine lv_iadd hx hb dX12_grow_98 ?_
              refine lv_topi (fun x30 ex30 => ?_)
              refine lv_istore_n (lv' := [(2, .int x30), (5, .int 5), (4, .int 0), (3, .int (nI i)), (0, .ref y), (1, .int d)]) hx hb dX12_grow_99 rfl hl (by decide) rfl (fun ls hl => ?_)
              refine lv_iinc (v := (nI (i + 1))) (lv' := [(3, .int (nI (i + 1))), (2, .int x30), (5, .int 5), (4, .int 0), (0, .ref y), (1, .int d)]) hx hb dX12_grow_100 hl (k := 3) rfl (nI_1 i) (by decide) rfl (fun ls hl => ?_)
              refine lv_goto (tgt := 15) hx hb dX12_grow_103 (by decide) ?_
              exact ih x30 (i + 1) H locs ls (by omega) (gZ (gB hI (fun q => c16 (by rw [ex15, ex14, q]; decide +kernel))) ex30) hP hD hS (lv_sub hl [0, 1, 4, 5] rfl)
          · refine lv_aload_n hx hb dX12_grow_59 rfl (lv_at hl 4 rfl) ?_
            refine lv_iload hx hb dX12_grow_60 (lv_at hl 0 rfl) ?_
            refine cvi (wr := [((g 13), .inl (G.2.1, 2, .inl (fun _ => 0)))]) (As := [.int 2]) (rest := []) (b := y) (k1 := cells) (s1 := slots) F hK hP hD hS hA (k_X12_othersOn l G y 2 g 0 0 0) kmV_X12_othersOn mlX12_482 clX12 rfl 0 rfl ⟨(Nat.le_trans (Nat.le_of_ble_eq_true rfl) hRf), (Nat.le_trans (Nat.le_of_ble_eq_true rfl) hRl)⟩ [0, 2] [1] rfl rfl rfl rfl (by decide) hl.1 rfl (Nat.le_of_ble_eq_true rfl) dX12_grow_62 ⟨hRc, hRs⟩ rfl rfl (fun r32 u31 H locs hwr32 (hP : va_P G.1 vwCl [((g 13), .inl (G.2.1, 2, .inl (fun _ => 0))), (y, .inr (12, .ref (g 0) :: .int 0 :: .int 0 :: .int 0 :: .int 0 :: .int 0 :: .int 0 :: .long 0 :: .int 0 :: .int (-1) :: .int 0 :: .int (-1) :: .int 0 :: .ref (g 13) :: .ref (g 14) :: .ref (g 15) :: .ref (g 16) :: .ref (g 17) :: .ref (g 18) :: .ref (g 19) :: .ref (g 20) :: .ref (g 21) :: .ref (g 22) :: .ref (g 23) :: .ref (g 24) :: .ref (g 25) :: .ref (g 26) :: .ref (g 27) :: .ref (g 28) :: .ref (g 29) :: .ref (g 30) :: .ref (g 31) :: .ref (g 32) :: .ref (g 33) :: .ref (g 34) :: .ref (g 35) :: .ref (g 36) :: .ref (g 37) :: .ref (g 38) :: .ref (g 39) :: .ref (g 40) :: .ref (g 41) :: .ref (g 42) :: .int 0 :: .int 1 :: .ref (g 45) :: .ref (g 46) :: .ref (g 47) :: .ref (g 48) :: .ref (g 49) :: .int 0 :: .int 0 :: .ref (g 52) :: .int 0 :: .int 0 :: .ref (g 55) :: .ref (g 56) :: .ref (g 57) :: .ref (g 58) :: .int 0 :: .int 0 :: .int 0 :: .int 0 :: .ref (g 63) :: .int 0 :: .ref (g 65) :: .long 1 :: .ref (g 67) :: .ref (g 68) :: .int 0 :: [])), ((g 21), .inl (G.2.1, 2, .inl (fun _ => 0)))] H) (hD : va_D A [((g 13), .inl (G.2.1, 2, .inl (fun _ => 0))), (y, .inr (12, .ref (g 0) :: .int 0 :: .int 0 :: .int 0 :: .int 0 :: .int 0 :: .int 0 :: .long 0 :: .int 0 :: .int (-1) :: .int 0 :: .int (-1) :: .int 0 :: .ref (g 13) :: .ref (g 14) :: .ref (g 15) :: .ref (g 16) :: .ref (g 17) :: .ref (g 18) :: .ref (g 19) :: .ref (g 20) :: .ref (g 21) :: .ref (g 22) :: .ref (g 23) :: .ref (g 24) :: .ref (g 25) :: .ref (g 26) :: .ref (g 27) :: .ref (g 28) :: .ref (g 29) :: .ref (g 30) :: .ref (g 31) :: .ref (g 32) :: .ref (g 33) :: .ref (g 34) :: .ref (g 35) :: .ref (g 36) :: .ref (g 37) :: .ref (g 38) :: .ref (g 39) :: .ref (g 40) :: .ref (g 41) :: .ref (g 42) :: .int 0 :: .int 1 :: .ref (g 45) :: .ref (g 46) :: .ref (g 47) :: .ref (g 48) :: .ref (g 49) :: .int 0 :: .int 0 :: .ref (g 52) :: .int 0 :: .int 0 :: .ref (g 55) :: .ref (g 56) :: .ref (g 57) :: .ref (g 58) :: .int 0 :: .int 0 :: .int 0 :: .int 0 :: .ref (g 63) :: .int 0 :: .ref (g 65) :: .long 1 :: .ref (g 67) :: .ref (g 68) :: .int 0 :: [])), ((g 21), .inl (G.2.1, 2, .inl (fun _ => 0)))]) hS => ?_)
            subst hwr32
            refine lv_iconst (v := 1) hx hb dX12_grow_65 (by decide) ?_
            refine lv_iadd hx hb dX12_grow_66 ?_
            refine cst_i (y := 1) (by decide +kernel) ?_
            refine lv_aload_n hx hb dX12_grow_67 rfl (lv_at hl 4 rfl) ?_
            refine cvi (wr := []) (As := []) (rest := [.int 1]) (b := y) (k1 := cells) (s1 := slots) F hK hP hD hS hA (k_X12_spare l G y g 0 0 0) kmV_X12_spare mlX12_485 clX12 rfl 0 rfl ⟨(Nat.le_trans (Nat.le_of_ble_eq_true rfl) hRf), (Nat.le_trans (Nat.le_of_ble_eq_true rfl) hRl)⟩ [1, 0, 2] [] rfl rfl rfl rfl (by decide) hl.1 rfl (Nat.le_of_ble_eq_true rfl) dX12_grow_68 ⟨hRc, hRs⟩ rfl rfl (fun r34 u33 H locs hwr34 (hP : va_P G.1 vwCl [(y, .inr (12, .ref (g 0) :: .int 0 :: .int 0 :: .int 0 :: .int 0 :: .int 0 :: .int 0 :: .long 0 :: .int 0 :: .int (-1) :: .int 0 :: .int (-1) :: .int 0 :: .ref (g 13) :: .ref (g 14) :: .ref (g 15) :: .ref (g 16) :: .ref (g 17) :: .ref (g 18) :: .ref (g 19) :: .ref (g 20) :: .ref (g 21) :: .ref (g 22) :: .ref (g 23) :: .ref (g 24) :: .ref (g 25) :: .ref (g 26) :: .ref (g 27) :: .ref (g 28) :: .ref (g 29) :: .ref (g 30) :: .ref (g 31) :: .ref (g 32) :: .ref (g 33) :: .ref (g 34) :: .ref (g 35) :: .ref (g 36) :: .ref (g 37) :: .ref (g 38) :: .ref (g 39) :: .ref (g 40) :: .ref (g 41) :: .ref (g 42) :: .int 0 :: .int 1 :: .ref (g 45) :: .ref (g 46) :: .ref (g 47) :: .ref (g 48) :: .ref (g 49) :: .int 0 :: .int 0 :: .ref (g 52) :: .int 0 :: .int 0 :: .ref (g 55) :: .ref (g 56) :: .ref (g 57) :: .ref (g 58) :: .int 0 :: .int 0 :: .int 0 :: .int 0 :: .ref (g 63) :: .int 0 :: .ref (g 65) :: .long 1 :: .ref (g 67) :: .ref (g 68) :: .int 0 :: [])), ((g 13), .inl (G.2.1, 2, .inl (fun _ => 0))), ((g 21), .inl (G.2.1, 2, .inl (fun _ => 0)))] H) (hD : va_D A [(y, .inr (12, .ref (g 0) :: .int 0 :: .int 0 :: .int 0 :: .int 0 :: .int 0 :: .int 0 :: .long 0 :: .int 0 :: .int (-1) :: .int 0 :: .int (-1) :: .int 0 :: .ref (g 13) :: .ref (g 14) :: .ref (g 15) :: .ref (g 16) :: .ref (g 17) :: .ref (g 18) :: .ref (g 19) :: .ref (g 20) :: .ref (g 21) :: .ref (g 22) :: .ref (g 23) :: .ref (g 24) :: .ref (g 25) :: .ref (g 26) :: .ref (g 27) :: .ref (g 28) :: .ref (g 29) :: .ref (g 30) :: .ref (g 31) :: .ref (g 32) :: .ref (g 33) :: .ref (g 34) :: .ref (g 35) :: .ref (g 36) :: .ref (g 37) :: .ref (g 38) :: .ref (g 39) :: .ref (g 40) :: .ref (g 41) :: .ref (g 42) :: .int 0 :: .int 1 :: .ref (g 45) :: .ref (g 46) :: .ref (g 47) :: .ref (g 48) :: .ref (g 49) :: .int 0 :: .int 0 :: .ref (g 52) :: .int 0 :: .int 0 :: .ref (g 55) :: .ref (g 56) :: .ref (g 57) :: .ref (g 58) :: .int 0 :: .int 0 :: .int 0 :: .int 0 :: .ref (g 63) :: .int 0 :: .ref (g 65) :: .long 1 :: .ref (g 67) :: .ref (g 68) :: .int 0 :: [])), ((g 13), .inl (G.2.1, 2, .inl (fun _ => 0))), ((g 21), .inl (G.2.1, 2, .inl (fun _ => 0)))]) hS => ?_)
            subst hwr34
            refine lv_icmp_gt (tgt := 78) hx hb dX12_grow_71 (by decide) (fun _ => ?_) (fun h_ => absurd (by decide +kernel) h_)
            refine lv_iconst (v := 0) hx hb dX12_grow_78 (by decide) ?_
            refine lv_istore (lv' := [(4, .int 0), (5, .int 2), (3, .int (nI i)), (2, .int cnt), (0, .ref y), (1, .int d)]) hx hb dX12_grow_79 hl (by decide) rfl (fun ls hl => ?_)
            refine lv_iinc (v := 3) (lv' := [(5, .int 3), (4, .int 0), (3, .int (nI i)), (2, .int cnt), (0, .ref y), (1, .int d)]) hx hb dX12_grow_81 hl (k := 1) rfl (by decide +kernel) (by decide) rfl (fun ls hl => ?_)
            refine lv_goto (tgt := 39) hx hb dX12_grow_84 (by decide) ?_
            refine lv_iload hx hb dX12_grow_39 (lv_at hl 0 rfl) ?_
            refine lv_iconst (v := 5) hx hb dX12_grow_41 (by decide) ?_
            refine lv_icmp_ge (tgt := 87) hx hb dX12_grow_42 (by decide) (fun h_ => absurd h_ (by decide +kernel)) (fun _ => ?_)
            refine lv_iload hx hb dX12_grow_45 (lv_at hl 1 rfl) ?_
            refine lv_if_eq (tgt := 78) hx hb dX12_grow_47 (by decide) (fun _ => ?_) (fun h_ => absurd (by decide +kernel) h_)
            refine lv_iconst (v := 0) hx hb dX12_grow_78 (by decide) ?_
            refine lv_istore (lv' := [(4, .int 0), (5, .int 3), (3, .int (nI i)), (2, .int cnt), (0, .ref y), (1, .int d)]) hx hb dX12_grow_79 hl (by decide) rfl (fun ls hl => ?_)
            refine lv_iinc (v := 4) (lv' := [(5, .int 4), (4, .int 0), (3, .int (nI i)), (2, .int cnt), (0, .ref y), (1, .int d)]) hx hb dX12_grow_81 hl (k := 1) rfl (by decide +kernel) (by decide) rfl (fun ls hl => ?_)
            refine lv_goto (tgt := 39) hx hb dX12_grow_84 (by decide) ?_
            refine lv_iload hx hb dX12_grow_39 (lv_at hl 0 rfl) ?_
            refine lv_iconst (v := 5) hx hb dX12_grow_41 (by decide) ?_
            refine lv_icmp_ge (tgt := 87) hx hb dX12_grow_42 (by decide) (fun h_ => absurd h_ (by decide +kernel)) (fun _ => ?_)
            refine lv_iload hx hb dX12_grow_45 (lv_at hl 1 rfl) ?_
            refine lv_if_eq (tgt := 78) hx hb dX12_grow_47 (by decide) (fun _ => ?_) (fun h_ => absurd (by decide +kernel) h_)
            refine lv_iconst (v := 0) hx hb dX12_grow_78 (by decide) ?_
            refine lv_istore (lv' := [(4, .int 0), (5, .int 4), (3, .int (nI i)), (2, .int cnt), (0, .ref y), (1, .int d)]) hx hb dX12_grow_79 hl (by decide) rfl (fun ls hl => ?_)
            refine lv_iinc (v := 5) (lv' := [(5, .int 5), (4, .int 0), (3, .int (nI i)), (2, .int cnt), (0, .ref y), (1, .int d)]) hx hb dX12_grow_81 hl (k := 1) rfl (by decide +kernel) (by decide) rfl (fun ls hl => ?_)
            refine lv_goto (tgt := 39) hx hb dX12_grow_84 (by decide) ?_
            refine lv_iload hx hb dX12_grow_39 (lv_at hl 0 rfl) ?_
            refine lv_iconst (v := 5) hx hb dX12_grow_41 (by decide) ?_
            refine lv_icmp_ge (tgt := 87) hx hb dX12_grow_42 (by decide) (fun _ => ?_) (fun h_ => absurd (by decide +kernel) h_)
            refine lv_iload_n hx hb dX12_grow_87 rfl (lv_at hl 3 rfl) ?_
            refine lv_iload hx hb dX12_grow_88 (lv_at hl 1 rfl) ?_
            refine lv_if_eq (tgt := 97) hx hb dX12_grow_90 (by decide) (fun _ => ?_) (fun h_ => absurd (by decide +kernel) h_)
            refine lv_iconst (v := 0) hx hb dX12_grow_97 (by decide) ?_
            refine lv_iadd hx hb dX12_grow_98 ?_
            refine lv_topi (fun x35 ex35 => ?_)
            refine lv_istore_n (lv' := [(2, .int x35), (5, .int 5), (4, .int 0), (3, .int (nI i)), (0, .ref y), (1, .int d)]) hx hb dX12_grow_99 rfl hl (by decide) rfl (fun ls hl => ?_)
            refine lv_iinc (v := (nI (i + 1))) (lv' := [(3, .int (nI (i + 1))), (2, .int x35), (5, .int 5), (4, .int 0), (0, .ref y), (1, .int d)]) hx hb dX12_grow_100 hl (k := 3) rfl (nI_1 i) (by decide) rfl (fun ls hl => ?_)
            refine lv_goto (tgt := 15) hx hb dX12_grow_103 (by decide) ?_
            exact ih x35 (i + 1) H locs ls (by omega) (gZ (gB hI (fun q => c13 (by rw [ex12, ex11, q]; decide +kernel))) ex35) hP hD hS (lv_sub hl [0, 1, 4, 5] rfl)
        · refine lv_aload_n hx hb dX12_grow_59 rfl (lv_at hl 4 rfl) ?_
          refine lv_iload hx hb dX12_grow_60 (lv_at hl 0 rfl) ?_
          refine cvi (wr := [((g 13), .inl (G.2.1, 2, .inl (fun _ => 0)))]) (As := [.int 1]) (rest := []) (b := y) (k1 := cells) (s1 := slots) F hK hP hD hS hA (k_X12_othersOn l G y 1 g 0 0 0) kmV_X12_othersOn mlX12_482 clX12 rfl 0 rfl ⟨(Nat.le_trans (Nat.le_of_ble_eq_true rfl) hRf), (Nat.le_trans (Nat.le_of_ble_eq_true rfl) hRl)⟩ [0, 2] [1] rfl rfl rfl rfl (by decide) hl.1 rfl (Nat.le_of_ble_eq_true rfl) dX12_grow_62 ⟨hRc, hRs⟩ rfl rfl (fun r37 u36 H locs hwr37 (hP : va_P G.1 vwCl [((g 13), .inl (G.2.1, 2, .inl (fun _ => 0))), (y, .inr (12, .ref (g 0) :: .int 0 :: .int 0 :: .int 0 :: .int 0 :: .int 0 :: .int 0 :: .long 0 :: .int 0 :: .int (-1) :: .int 0 :: .int (-1) :: .int 0 :: .ref (g 13) :: .ref (g 14) :: .ref (g 15) :: .ref (g 16) :: .ref (g 17) :: .ref (g 18) :: .ref (g 19) :: .ref (g 20) :: .ref (g 21) :: .ref (g 22) :: .ref (g 23) :: .ref (g 24) :: .ref (g 25) :: .ref (g 26) :: .ref (g 27) :: .ref (g 28) :: .ref (g 29) :: .ref (g 30) :: .ref (g 31) :: .ref (g 32) :: .ref (g 33) :: .ref (g 34) :: .ref (g 35) :: .ref (g 36) :: .ref (g 37) :: .ref (g 38) :: .ref (g 39) :: .ref (g 40) :: .ref (g 41) :: .ref (g 42) :: .int 0 :: .int 1 :: .ref (g 45) :: .ref (g 46) :: .ref (g 47) :: .ref (g 48) :: .ref (g 49) :: .int 0 :: .int 0 :: .ref (g 52) :: .int 0 :: .int 0 :: .ref (g 55) :: .ref (g 56) :: .ref (g 57) :: .ref (g 58) :: .int 0 :: .int 0 :: .int 0 :: .int 0 :: .ref (g 63) :: .int 0 :: .ref (g 65) :: .long 1 :: .ref (g 67) :: .ref (g 68) :: .int 0 :: [])), ((g 21), .inl (G.2.1, 2, .inl (fun _ => 0)))] H) (hD : va_D A [((g 13), .inl (G.2.1, 2, .inl (fun _ => 0))), (y, .inr (12, .ref (g 0) :: .int 0 :: .int 0 :: .int 0 :: .int 0 :: .int 0 :: .int 0 :: .long 0 :: .int 0 :: .int (-1) :: .int 0 :: .int (-1) :: .int 0 :: .ref (g 13) :: .ref (g 14) :: .ref (g 15) :: .ref (g 16) :: .ref (g 17) :: .ref (g 18) :: .ref (g 19) :: .ref (g 20) :: .ref (g 21) :: .ref (g 22) :: .ref (g 23) :: .ref (g 24) :: .ref (g 25) :: .ref (g 26) :: .ref (g 27) :: .ref (g 28) :: .ref (g 29) :: .ref (g 30) :: .ref (g 31) :: .ref (g 32) :: .ref (g 33) :: .ref (g 34) :: .ref (g 35) :: .ref (g 36) :: .ref (g 37) :: .ref (g 38) :: .ref (g 39) :: .ref (g 40) :: .ref (g 41) :: .ref (g 42) :: .int 0 :: .int 1 :: .ref (g 45) :: .ref (g 46) :: .ref (g 47) :: .ref (g 48) :: .ref (g 49) :: .int 0 :: .int 0 :: .ref (g 52) :: .int 0 :: .int 0 :: .ref (g 55) :: .ref (g 56) :: .ref (g 57) :: .ref (g 58) :: .int 0 :: .int 0 :: .int 0 :: .int 0 :: .ref (g 63) :: .int 0 :: .ref (g 65) :: .long 1 :: .ref (g 67) :: .ref (g 68) :: .int 0 :: [])), ((g 21), .inl (G.2.1, 2, .inl (fun _ => 0)))]) hS => ?_)
          subst hwr37
          refine lv_iconst (v := 1) hx hb dX12_grow_65 (by decide) ?_
          refine lv_iadd hx hb dX12_grow_66 ?_
          refine cst_i (y := 1) (by decide +kernel) ?_
          refine lv_aload_n hx hb dX12_grow_67 rfl (lv_at hl 4 rfl) ?_
          refine cvi (wr := []) (As := []) (rest := [.int 1]) (b := y) (k1 := cells) (s1 := slots) F hK hP hD hS hA (k_X12_spare l G y g 0 0 0) kmV_X12_spare mlX12_485 clX12 rfl 0 rfl ⟨(Nat.le_trans (Nat.le_of_ble_eq_true rfl) hRf), (Nat.le_trans (Nat.le_of_ble_eq_true rfl) hRl)⟩ [1, 0, 2] [] rfl rfl rfl rfl (by decide) hl.1 rfl (Nat.le_of_ble_eq_true rfl) dX12_grow_68 ⟨hRc, hRs⟩ rfl rfl (fun r39 u38 H locs hwr39 (hP : va_P G.1 vwCl [(y, .inr (12, .ref (g 0) :: .int 0 :: .int 0 :: .int 0 :: .int 0 :: .int 0 :: .int 0 :: .long 0 :: .int 0 :: .int (-1) :: .int 0 :: .int (-1) :: .int 0 :: .ref (g 13) :: .ref (g 14) :: .ref (g 15) :: .ref (g 16) :: .ref (g 17) :: .ref (g 18) :: .ref (g 19) :: .ref (g 20) :: .ref (g 21) :: .ref (g 22) :: .ref (g 23) :: .ref (g 24) :: .ref (g 25) :: .ref (g 26) :: .ref (g 27) :: .ref (g 28) :: .ref (g 29) :: .ref (g 30) :: .ref (g 31) :: .ref (g 32) :: .ref (g 33) :: .ref (g 34) :: .ref (g 35) :: .ref (g 36) :: .ref (g 37) :: .ref (g 38) :: .ref (g 39) :: .ref (g 40) :: .ref (g 41) :: .ref (g 42) :: .int 0 :: .int 1 :: .ref (g 45) :: .ref (g 46) :: .ref (g 47) :: .ref (g 48) :: .ref (g 49) :: .int 0 :: .int 0 :: .ref (g 52) :: .int 0 :: .int 0 :: .ref (g 55) :: .ref (g 56) :: .ref (g 57) :: .ref (g 58) :: .int 0 :: .int 0 :: .int 0 :: .int 0 :: .ref (g 63) :: .int 0 :: .ref (g 65) :: .long 1 :: .ref (g 67) :: .ref (g 68) :: .int 0 :: [])), ((g 13), .inl (G.2.1, 2, .inl (fun _ => 0))), ((g 21), .inl (G.2.1, 2, .inl (fun _ => 0)))] H) (hD : va_D A [(y, .inr (12, .ref (g 0) :: .int 0 :: .int 0 :: .int 0 :: .int 0 :: .int 0 :: .int 0 :: .long 0 :: .int 0 :: .int (-1) :: .int 0 :: .int (-1) :: .int 0 :: .ref (g 13) :: .ref (g 14) :: .ref (g 15) :: .ref (g 16) :: .ref (g 17) :: .ref (g 18) :: .ref (g 19) :: .ref (g 20) :: .ref (g 21) :: .ref (g 22) :: .ref (g 23) :: .ref (g 24) :: .ref (g 25) :: .ref (g 26) :: .ref (g 27) :: .ref (g 28) :: .ref (g 29) :: .ref (g 30) :: .ref (g 31) :: .ref (g 32) :: .ref (g 33) :: .ref (g 34) :: .ref (g 35) :: .ref (g 36) :: .ref (g 37) :: .ref (g 38) :: .ref (g 39) :: .ref (g 40) :: .ref (g 41) :: .ref (g 42) :: .int 0 :: .int 1 :: .ref (g 45) :: .ref (g 46) :: .ref (g 47) :: .ref (g 48) :: .ref (g 49) :: .int 0 :: .int 0 :: .ref (g 52) :: .int 0 :: .int 0 :: .ref (g 55) :: .ref (g 56) :: .ref (g 57) :: .ref (g 58) :: .int 0 :: .int 0 :: .int 0 :: .int 0 :: .ref (g 63) :: .int 0 :: .ref (g 65) :: .long 1 :: .ref (g 67) :: .ref (g 68) :: .int 0 :: [])), ((g 13), .inl (G.2.1, 2, .inl (fun _ => 0))), ((g 21), .inl (G.2.1, 2, .inl (fun _ => 0)))]) hS => ?_)
          subst hwr39
          refine lv_icmp_gt (tgt := 78) hx hb dX12_grow_71 (by decide) (fun _ => ?_) (fun h_ => absurd (by decide +kernel) h_)
          refine lv_iconst (v := 0) hx hb dX12_grow_78 (by decide) ?_
          refine lv_istore (lv' := [(4, .int 0), (5, .int 1), (3, .int (nI i)), (2, .int cnt), (0, .ref y), (1, .int d)]) hx hb dX12_grow_79 hl (by decide) rfl (fun ls hl => ?_)
          refine lv_iinc (v := 2) (lv' := [(5, .int 2), (4, .int 0), (3, .int (nI i)), (2, .int cnt), (0, .ref y), (1, .int d)]) hx hb dX12_grow_81 hl (k := 1) rfl (by decide +kernel) (by decide) rfl (fun ls hl => ?_)
          refine lv_goto (tgt := 39) hx hb dX12_grow_84 (by decide) ?_
          refine lv_iload hx hb dX12_grow_39 (lv_at hl 0 rfl) ?_
          refine lv_iconst (v := 5) hx hb dX12_grow_41 (by decide) ?_
          refine lv_icmp_ge (tgt := 87) hx hb dX12_grow_42 (by decide) (fun h_ => absurd h_ (by decide +kernel)) (fun _ => ?_)
          refine lv_iload hx hb dX12_grow_45 (lv_at hl 1 rfl) ?_
          refine lv_if_eq (tgt := 78) hx hb dX12_grow_47 (by decide) (fun _ => ?_) (fun h_ => absurd (by decide +kernel) h_)
          refine lv_iconst (v := 0) hx hb dX12_grow_78 (by decide) ?_
          refine lv_istore (lv' := [(4, .int 0), (5, .int 2), (3, .int (nI i)), (2, .int cnt), (0, .ref y), (1, .int d)]) hx hb dX12_grow_79 hl (by decide) rfl (fun ls hl => ?_)
          refine lv_iinc (v := 3) (lv' := [(5, .int 3), (4, .int 0), (3, .int (nI i)), (2, .int cnt), (0, .ref y), (1, .int d)]) hx hb dX12_grow_81 hl (k := 1) rfl (by decide +kernel) (by decide) rfl (fun ls hl => ?_)
          refine lv_goto (tgt := 39) hx hb dX12_grow_84 (by decide) ?_
          refine lv_iload hx hb dX12_grow_39 (lv_at hl 0 rfl) ?_
          refine lv_iconst (v := 5) hx hb dX12_grow_41 (by decide) ?_
          refine lv_icmp_ge (tgt := 87) hx hb dX12_grow_42 (by decide) (fun h_ => absurd h_ (by decide +kernel)) (fun _ => ?_)
          refine lv_iload hx hb dX12_grow_45 (lv_at hl 1 rfl) ?_
          refine lv_if_eq (tgt := 78) hx hb dX12_grow_47 (by decide) (fun _ => ?_) (fun h_ => absurd (by decide +kernel) h_)
          refine lv_iconst (v := 0) hx hb dX12_grow_78 (by decide) ?_
          refine lv_istore (lv' := [(4, .int 0), (5, .int 3), (3, .int (nI i)), (2, .int cnt), (0, .ref y), (1, .int d)]) hx hb dX12_grow_79 hl (by decide) rfl (fun ls hl => ?_)
          refine lv_iinc (v := 4) (lv' := [(5, .int 4), (4, .int 0), (3, .int (nI i)), (2, .int cnt), (0, .ref y), (1, .int d)]) hx hb dX12_grow_81 hl (k := 1) rfl (by decide +kernel) (by decide) rfl (fun ls hl => ?_)
          refine lv_goto (tgt := 39) hx hb dX12_grow_84 (by decide) ?_
          refine lv_iload hx hb dX12_grow_39 (lv_at hl 0 rfl) ?_
          refine lv_iconst (v := 5) hx hb dX12_grow_41 (by decide) ?_
          refine lv_icmp_ge (tgt := 87) hx hb dX12_grow_42 (by decide) (fun h_ => absurd h_ (by decide +kernel)) (fun _ => ?_)
          refine lv_iload hx hb dX12_grow_45 (lv_at hl 1 rfl) ?_
          refine lv_if_eq (tgt := 78) hx hb dX12_grow_47 (by decide) (fun _ => ?_) (fun h_ => absurd (by decide +kernel) h_)
          refine lv_iconst (v := 0) hx hb dX12_grow_78 (by decide) ?_
          refine lv_istore (lv' := [(4, .int 0), (5, .int 4), (3, .int (nI i)), (2, .int cnt), (0, .ref y), (1, .int d)]) hx hb dX12_grow_79 hl (by decide) rfl (fun ls hl => ?_)
          refine lv_iinc (v := 5) (lv' := [(5, .int 5), (4, .int 0), (3, .int (nI i)), (2, .int cnt), (0, .ref y), (1, .int d)]) hx hb dX12_grow_81 hl (k := 1) rfl (by decide +kernel) (by decide) rfl (fun ls hl => ?_)
          refine lv_goto (tgt := 39) hx hb dX12_grow_84 (by decide) ?_
          refine lv_iload hx hb dX12_grow_39 (lv_at hl 0 rfl) ?_
          refine lv_iconst (v := 5) hx hb dX12_grow_41 (by decide) ?_
          refine lv_icmp_ge (tgt := 87) hx hb dX12_grow_42 (by decide) (fun _ => ?_) (fun h_ => absurd (by decide +kernel) h_)
          refine lv_iload_n hx hb dX12_grow_87 rfl (lv_at hl 3 rfl) ?_
          refine lv_iload hx hb dX12_grow_88 (lv_at hl 1 rfl) ?_
          refine lv_if_eq (tgt := 97) hx hb dX12_grow_90 (by decide) (fun _ => ?_) (fun h_ => absurd (by decide +kernel) h_)
          refine lv_iconst (v := 0) hx hb dX12_grow_97 (by decide) ?_
          refine lv_iadd hx hb dX12_grow_98 ?_
          refine lv_topi (fun x40 ex40 => ?_)
          refine lv_istore_n (lv' := [(2, .int x40), (5, .int 5), (4, .int 0), (3, .int (nI i)), (0, .ref y), (1, .int d)]) hx hb dX12_grow_99 rfl hl (by decide) rfl (fun ls hl => ?_)
          refine lv_iinc (v := (nI (i + 1))) (lv' := [(3, .int (nI (i + 1))), (2, .int x40), (5, .int 5), (4, .int 0), (0, .ref y), (1, .int d)]) hx hb dX12_grow_100 hl (k := 3) rfl (nI_1 i) (by decide) rfl (fun ls hl => ?_)
          refine lv_goto (tgt := 15) hx hb dX12_grow_103 (by decide) ?_
          exact ih x40 (i + 1) H locs ls (by omega) (gZ (gB hI (fun q => c10 (by rw [ex9, ex8, q]; decide +kernel))) ex40) hP hD hS (lv_sub hl [0, 1, 4, 5] rfl)
      · refine lv_aload_n hx hb dX12_grow_59 rfl (lv_at hl 4 rfl) ?_
        refine lv_iload hx hb dX12_grow_60 (lv_at hl 0 rfl) ?_
        refine cvi (wr := [((g 13), .inl (G.2.1, 2, .inl (fun _ => 0)))]) (As := [.int 0]) (rest := []) (b := y) (k1 := cells) (s1 := slots) F hK hP hD hS hA (k_X12_othersOn l G y 0 g 0 0 0) kmV_X12_othersOn mlX12_482 clX12 rfl 0 rfl ⟨(Nat.le_trans (Nat.le_of_ble_eq_true rfl) hRf), (Nat.le_trans (Nat.le_of_ble_eq_true rfl) hRl)⟩ [0, 2] [1] rfl rfl rfl rfl (by decide) hl.1 rfl (Nat.le_of_ble_eq_true rfl) dX12_grow_62 ⟨hRc, hRs⟩ rfl rfl (fun r42 u41 H locs hwr42 (hP : va_P G.1 vwCl [((g 13), .inl (G.2.1, 2, .inl (fun _ => 0))), (y, .inr (12, .ref (g 0) :: .int 0 :: .int 0 :: .int 0 :: .int 0 :: .int 0 :: .int 0 :: .long 0 :: .int 0 :: .int (-1) :: .int 0 :: .int (-1) :: .int 0 :: .ref (g 13) :: .ref (g 14) :: .ref (g 15) :: .ref (g 16) :: .ref (g 17) :: .ref (g 18) :: .ref (g 19) :: .ref (g 20) :: .ref (g 21) :: .ref (g 22) :: .ref (g 23) :: .ref (g 24) :: .ref (g 25) :: .ref (g 26) :: .ref (g 27) :: .ref (g 28) :: .ref (g 29) :: .ref (g 30) :: .ref (g 31) :: .ref (g 32) :: .ref (g 33) :: .ref (g 34) :: .ref (g 35) :: .ref (g 36) :: .ref (g 37) :: .ref (g 38) :: .ref (g 39) :: .ref (g 40) :: .ref (g 41) :: .ref (g 42) :: .int 0 :: .int 1 :: .ref (g 45) :: .ref (g 46) :: .ref (g 47) :: .ref (g 48) :: .ref (g 49) :: .int 0 :: .int 0 :: .ref (g 52) :: .int 0 :: .int 0 :: .ref (g 55) :: .ref (g 56) :: .ref (g 57) :: .ref (g 58) :: .int 0 :: .int 0 :: .int 0 :: .int 0 :: .ref (g 63) :: .int 0 :: .ref (g 65) :: .long 1 :: .ref (g 67) :: .ref (g 68) :: .int 0 :: [])), ((g 21), .inl (G.2.1, 2, .inl (fun _ => 0)))] H) (hD : va_D A [((g 13), .inl (G.2.1, 2, .inl (fun _ => 0))), (y, .inr (12, .ref (g 0) :: .int 0 :: .int 0 :: .int 0 :: .int 0 :: .int 0 :: .int 0 :: .long 0 :: .int 0 :: .int (-1) :: .int 0 :: .int (-1) :: .int 0 :: .ref (g 13) :: .ref (g 14) :: .ref (g 15) :: .ref (g 16) :: .ref (g 17) :: .ref (g 18) :: .ref (g 19) :: .ref (g 20) :: .ref (g 21) :: .ref (g 22) :: .ref (g 23) :: .ref (g 24) :: .ref (g 25) :: .ref (g 26) :: .ref (g 27) :: .ref (g 28) :: .ref (g 29) :: .ref (g 30) :: .ref (g 31) :: .ref (g 32) :: .ref (g 33) :: .ref (g 34) :: .ref (g 35) :: .ref (g 36) :: .ref (g 37) :: .ref (g 38) :: .ref (g 39) :: .ref (g 40) :: .ref (g 41) :: .ref (g 42) :: .int 0 :: .int 1 :: .ref (g 45) :: .ref (g 46) :: .ref (g 47) :: .ref (g 48) :: .ref (g 49) :: .int 0 :: .int 0 :: .ref (g 52) :: .int 0 :: .int 0 :: .ref (g 55) :: .ref (g 56) :: .ref (g 57) :: .ref (g 58) :: .int 0 :: .int 0 :: .int 0 :: .int 0 :: .ref (g 63) :: .int 0 :: .ref (g 65) :: .long 1 :: .ref (g 67) :: .ref (g 68) :: .int 0 :: [])), ((g 21), .inl (G.2.1, 2, .inl (fun _ => 0)))]) hS => ?_)
        subst hwr42
        refine lv_iconst (v := 1) hx hb dX12_grow_65 (by decide) ?_
        refine lv_iadd hx hb dX12_grow_66 ?_
        refine cst_i (y := 1) (by decide +kernel) ?_
        refine lv_aload_n hx hb dX12_grow_67 rfl (lv_at hl 4 rfl) ?_
        refine cvi (wr := []) (As := []) (rest := [.int 1]) (b := y) (k1 := cells) (s1 := slots) F hK hP hD hS hA (k_X12_spare l G y g 0 0 0) kmV_X12_spare mlX12_485 clX12 rfl 0 rfl ⟨(Nat.le_trans (Nat.le_of_ble_eq_true rfl) hRf), (Nat.le_trans (Nat.le_of_ble_eq_true rfl) hRl)⟩ [1, 0, 2] [] rfl rfl rfl rfl (by decide) hl.1 rfl (Nat.le_of_ble_eq_true rfl) dX12_grow_68 ⟨hRc, hRs⟩ rfl rfl (fun r44 u43 H locs hwr44 (hP : va_P G.1 vwCl [(y, .inr (12, .ref (g 0) :: .int 0 :: .int 0 :: .int 0 :: .int 0 :: .int 0 :: .int 0 :: .long 0 :: .int 0 :: .int (-1) :: .int 0 :: .int (-1) :: .int 0 :: .ref (g 13) :: .ref (g 14) :: .ref (g 15) :: .ref (g 16) :: .ref (g 17) :: .ref (g 18) :: .ref (g 19) :: .ref (g 20) :: .ref (g 21) :: .ref (g 22) :: .ref (g 23) :: .ref (g 24) :: .ref (g 25) :: .ref (g 26) :: .ref (g 27) :: .ref (g 28) :: .ref (g 29) :: .ref (g 30) :: .ref (g 31) :: .ref (g 32) :: .ref (g 33) :: .ref (g 34) :: .ref (g 35) :: .ref (g 36) :: .ref (g 37) :: .ref (g 38) :: .ref (g 39) :: .ref (g 40) :: .ref (g 41) :: .ref (g 42) :: .int 0 :: .int 1 :: .ref (g 45) :: .ref (g 46) :: .ref (g 47) :: .ref (g 48) :: .ref (g 49) :: .int 0 :: .int 0 :: .ref (g 52) :: .int 0 :: .int 0 :: .ref (g 55) :: .ref (g 56) :: .ref (g 57) :: .ref (g 58) :: .int 0 :: .int 0 :: .int 0 :: .int 0 :: .ref (g 63) :: .int 0 :: .ref (g 65) :: .long 1 :: .ref (g 67) :: .ref (g 68) :: .int 0 :: [])), ((g 13), .inl (G.2.1, 2, .inl (fun _ => 0))), ((g 21), .inl (G.2.1, 2, .inl (fun _ => 0)))] H) (hD : va_D A [(y, .inr (12, .ref (g 0) :: .int 0 :: .int 0 :: .int 0 :: .int 0 :: .int 0 :: .int 0 :: .long 0 :: .int 0 :: .int (-1) :: .int 0 :: .int (-1) :: .int 0 :: .ref (g 13) :: .ref (g 14) :: .ref (g 15) :: .ref (g 16) :: .ref (g 17) :: .ref (g 18) :: .ref (g 19) :: .ref (g 20) :: .ref (g 21) :: .ref (g 22) :: .ref (g 23) :: .ref (g 24) :: .ref (g 25) :: .ref (g 26) :: .ref (g 27) :: .ref (g 28) :: .ref (g 29) :: .ref (g 30) :: .ref (g 31) :: .ref (g 32) :: .ref (g 33) :: .ref (g 34) :: .ref (g 35) :: .ref (g 36) :: .ref (g 37) :: .ref (g 38) :: .ref (g 39) :: .ref (g 40) :: .ref (g 41) :: .ref (g 42) :: .int 0 :: .int 1 :: .ref (g 45) :: .ref (g 46) :: .ref (g 47) :: .ref (g 48) :: .ref (g 49) :: .int 0 :: .int 0 :: .ref (g 52) :: .int 0 :: .int 0 :: .ref (g 55) :: .ref (g 56) :: .ref (g 57) :: .ref (g 58) :: .int 0 :: .int 0 :: .int 0 :: .int 0 :: .ref (g 63) :: .int 0 :: .ref (g 65) :: .long 1 :: .ref (g 67) :: .ref (g 68) :: .int 0 :: [])), ((g 13), .inl (G.2.1, 2, .inl (fun _ => 0))), ((g 21), .inl (G.2.1, 2, .inl (fun _ => 0)))]) hS => ?_)
        subst hwr44
        refine lv_icmp_gt (tgt := 78) hx hb dX12_grow_71 (by decide) (fun _ => ?_) (fun h_ => absurd (by decide +kernel) h_)
        refine lv_iconst (v := 0) hx hb dX12_grow_78 (by decide) ?_
        refine lv_istore (lv' := [(4, .int 0), (5, .int 0), (3, .int (nI i)), (2, .int cnt), (0, .ref y), (1, .int d)]) hx hb dX12_grow_79 hl (by decide) rfl (fun ls hl => ?_)
        refine lv_iinc (v := 1) (lv' := [(5, .int 1), (4, .int 0), (3, .int (nI i)), (2, .int cnt), (0, .ref y), (1, .int d)]) hx hb dX12_grow_81 hl (k := 1) rfl (by decide +kernel) (by decide) rfl (fun ls hl => ?_)
        refine lv_goto (tgt := 39) hx hb dX12_grow_84 (by decide) ?_
        refine lv_iload hx hb dX12_grow_39 (lv_at hl 0 rfl) ?_
        refine lv_iconst (v := 5) hx hb dX12_grow_41 (by decide) ?_
        refine lv_icmp_ge (tgt := 87) hx hb dX12_grow_42 (by decide) (fun h_ => absurd h_ (by decide +kernel)) (fun _ => ?_)
        refine lv_iload hx hb dX12_grow_45 (lv_at hl 1 rfl) ?_
        refine lv_if_eq (tgt := 78) hx hb dX12_grow_47 (by decide) (fun _ => ?_) (fun h_ => absurd (by decide +kernel) h_)
        refine lv_iconst (v := 0) hx hb dX12_grow_78 (by decide) ?_
        refine lv_istore (lv' := [(4, .int 0), (5, .int 1), (3, .int (nI i)), (2, .int cnt), (0, .ref y), (1, .int d)]) hx hb dX12_grow_79 hl (by decide) rfl (fun ls hl => ?_)
        refine lv_iinc (v := 2) (lv' := [(5, .int 2), (4, .int 0), (3, .int (nI i)), (2, .int cnt), (0, .ref y), (1, .int d)]) hx hb dX12_grow_81 hl (k := 1) rfl (by decide +kernel) (by decide) rfl (fun ls hl => ?_)
        refine lv_goto (tgt := 39) hx hb dX12_grow_84 (by decide) ?_
        refine lv_iload hx hb dX12_grow_39 (lv_at hl 0 rfl) ?_
        refine lv_iconst (v := 5) hx hb dX12_grow_41 (by decide) ?_
        refine lv_icmp_ge (tgt := 87) hx hb dX12_grow_42 (by decide) (fun h_ => absurd h_ (by decide +kernel)) (fun _ => ?_)
        refine lv_iload hx hb dX12_grow_45 (lv_at hl 1 rfl) ?_
        refine lv_if_eq (tgt := 78) hx hb dX12_grow_47 (by decide) (fun _ => ?_) (fun h_ => absurd (by decide +kernel) h_)
        refine lv_iconst (v := 0) hx hb dX12_grow_78 (by decide) ?_
        refine lv_istore (lv' := [(4, .int 0), (5, .int 2), (3, .int (nI i)), (2, .int cnt), (0, .ref y), (1, .int d)]) hx hb dX12_grow_79 hl (by decide) rfl (fun ls hl => ?_)
        refine lv_iinc (v := 3) (lv' := [(5, .int 3), (4, .int 0), (3, .int (nI i)), (2, .int cnt), (0, .ref y), (1, .int d)]) hx hb dX12_grow_81 hl (k := 1) rfl (by decide +kernel) (by decide) rfl (fun ls hl => ?_)
        refine lv_goto (tgt := 39) hx hb dX12_grow_84 (by decide) ?_
        refine lv_iload hx hb dX12_grow_39 (lv_at hl 0 rfl) ?_
        refine lv_iconst (v := 5) hx hb dX12_grow_41 (by decide) ?_
        refine lv_icmp_ge (tgt := 87) hx hb dX12_grow_42 (by decide) (fun h_ => absurd h_ (by decide +kernel)) (fun _ => ?_)
        refine lv_iload hx hb dX12_grow_45 (lv_at hl 1 rfl) ?_
        refine lv_if_eq (tgt := 78) hx hb dX12_grow_47 (by decide) (fun _ => ?_) (fun h_ => absurd (by decide +kernel) h_)
        refine lv_iconst (v := 0) hx hb dX12_grow_78 (by decide) ?_
        refine lv_istore (lv' := [(4, .int 0), (5, .int 3), (3, .int (nI i)), (2, .int cnt), (0, .ref y), (1, .int d)]) hx hb dX12_grow_79 hl (by decide) rfl (fun ls hl => ?_)
        refine lv_iinc (v := 4) (lv' := [(5, .int 4), (4, .int 0), (3, .int (nI i)), (2, .int cnt), (0, .ref y), (1, .int d)]) hx hb dX12_grow_81 hl (k := 1) rfl (by decide +kernel) (by decide) rfl (fun ls hl => ?_)
        refine lv_goto (tgt := 39) hx hb dX12_grow_84 (by decide) ?_
        refine lv_iload hx hb dX12_grow_39 (lv_at hl 0 rfl) ?_
        refine lv_iconst (v := 5) hx hb dX12_grow_41 (by decide) ?_
        refine lv_icmp_ge (tgt := 87) hx hb dX12_grow_42 (by decide) (fun h_ => absurd h_ (by decide +kernel)) (fun _ => ?_)
        refine lv_iload hx hb dX12_grow_45 (lv_at hl 1 rfl) ?_
        refine lv_if_eq (tgt := 78) hx hb dX12_grow_47 (by decide) (fun _ => ?_) (fun h_ => absurd (by decide +kernel) h_)
        refine lv_iconst (v := 0) hx hb dX12_grow_78 (by decide) ?_
        refine lv_istore (lv' := [(4, .int 0), (5, .int 4), (3, .int (nI i)), (2, .int cnt), (0, .ref y), (1, .int d)]) hx hb dX12_grow_79 hl (by decide) rfl (fun ls hl => ?_)
        refine lv_iinc (v := 5) (lv' := [(5, .int 5), (4, .int 0), (3, .int (nI i)), (2, .int cnt), (0, .ref y), (1, .int d)]) hx hb dX12_grow_81 hl (k := 1) rfl (by decide +kernel) (by decide) rfl (fun ls hl => ?_)
        refine lv_goto (tgt := 39) hx hb dX12_grow_84 (by decide) ?_
        refine lv_iload hx hb dX12_grow_39 (lv_at hl 0 rfl) ?_
        refine lv_iconst (v := 5) hx hb dX12_grow_41 (by decide) ?_
        refine lv_icmp_ge (tgt := 87) hx hb dX12_grow_42 (by decide) (fun _ => ?_) (fun h_ => absurd (by decide +kernel) h_)
        refine lv_iload_n hx hb dX12_grow_87 rfl (lv_at hl 3 rfl) ?_
        refine lv_iload hx hb dX12_grow_88 (lv_at hl 1 rfl) ?_
        refine lv_if_eq (tgt := 97) hx hb dX12_grow_90 (by decide) (fun _ => ?_) (fun h_ => absurd (by decide +kernel) h_)
        refine lv_iconst (v := 0) hx hb dX12_grow_97 (by decide) ?_
        refine lv_iadd hx hb dX12_grow_98 ?_
        refine lv_topi (fun x45 ex45 => ?_)
        refine lv_istore_n (lv' := [(2, .int x45), (5, .int 5), (4, .int 0), (3, .int (nI i)), (0, .ref y), (1, .int d)]) hx hb dX12_grow_99 rfl hl (by decide) rfl (fun ls hl => ?_)
        refine lv_iinc (v := (nI (i + 1))) (lv' := [(3, .int (nI (i + 1))), (2, .int x45), (5, .int 5), (4, .int 0), (0, .ref y), (1, .int d)]) hx hb dX12_grow_100 hl (k := 3) rfl (nI_1 i) (by decide) rfl (fun ls hl => ?_)
        refine lv_goto (tgt := 15) hx hb dX12_grow_103 (by decide) ?_
        exact ih x45 (i + 1) H locs ls (by omega) (gZ (gB hI (fun q => c7 (by rw [ex6, ex5, q]; decide +kernel))) ex45) hP hD hS (lv_sub hl [0, 1, 4, 5] rfl)
set_option maxHeartbeats 4000000 in
set_option maxRecDepth 100000 in
theorem k_X12_grow (l : Launch) (G : Gx) (y : Nat) (a : Int32) (g : Nat → Nat)  : CtI (S := Unit) l yX12_grow cX12_grow 6 (some .int) (rmD 6 0 0) G [.ref y, .int a] [(y, .inr (12, .ref (g 0) :: .int 0 :: .int 0 :: .int 0 :: .int 0 :: .int 0 :: .int 0 :: .long 0 :: .int 0 :: .int (-1) :: .int 0 :: .int (-1) :: .int 0 :: .ref (g 13) :: .ref (g 14) :: .ref (g 15) :: .ref (g 16) :: .ref (g 17) :: .ref (g 18) :: .ref (g 19) :: .ref (g 20) :: .ref (g 21) :: .ref (g 22) :: .ref (g 23) :: .ref (g 24) :: .ref (g 25) :: .ref (g 26) :: .ref (g 27) :: .ref (g 28) :: .ref (g 29) :: .ref (g 30) :: .ref (g 31) :: .ref (g 32) :: .ref (g 33) :: .ref (g 34) :: .ref (g 35) :: .ref (g 36) :: .ref (g 37) :: .ref (g 38) :: .ref (g 39) :: .ref (g 40) :: .ref (g 41) :: .ref (g 42) :: .int 0 :: .int 1 :: .ref (g 45) :: .ref (g 46) :: .ref (g 47) :: .ref (g 48) :: .ref (g 49) :: .int 0 :: .int 0 :: .ref (g 52) :: .int 0 :: .int 0 :: .ref (g 55) :: .ref (g 56) :: .ref (g 57) :: .ref (g 58) :: .int 0 :: .int 0 :: .int 0 :: .int 0 :: .ref (g 63) :: .int 0 :: .ref (g 65) :: .long 1 :: .ref (g 67) :: .ref (g 68) :: .int 0 :: [])), ((g 13), .inl (G.2.1, 2, .inl (fun _ => 0))), ((g 21), .inl (G.2.1, 2, .inl (fun _ => 0)))] (fun r _ => r = fGrow a) (fun _ => []) := by
  refine ctI_of (own := RX12) (by decide +kernel) rfl (Nat.le_of_ble_eq_true rfl) ?_
  intro p e s m below meth c A ls F hr hlk hnm hK hP hD hA hS hl
  have hx := F.1
  have hb := F.2.1
  have hown := F.2.2.2.1
  have hl : lv_has ls 6 [(0, .ref y), (1, .int a)] := hl
  refine lv_iload_n hx hb dX12_grow_0 rfl (lv_at hl 1 rfl) ?_
  refine lv_iconst (v := 0) hx hb dX12_grow_1 (by decide) ?_
  refine lv_iconst (v := 5) hx hb dX12_grow_2 (by decide) ?_
  refine csi (wr := [(y, .inr (12, .ref (g 0) :: .int 0 :: .int 0 :: .int 0 :: .int 0 :: .int 0 :: .int 0 :: .long 0 :: .int 0 :: .int (-1) :: .int 0 :: .int (-1) :: .int 0 :: .ref (g 13) :: .ref (g 14) :: .ref (g 15) :: .ref (g 16) :: .ref (g 17) :: .ref (g 18) :: .ref (g 19) :: .ref (g 20) :: .ref (g 21) :: .ref (g 22) :: .ref (g 23) :: .ref (g 24) :: .ref (g 25) :: .ref (g 26) :: .ref (g 27) :: .ref (g 28) :: .ref (g 29) :: .ref (g 30) :: .ref (g 31) :: .ref (g 32) :: .ref (g 33) :: .ref (g 34) :: .ref (g 35) :: .ref (g 36) :: .ref (g 37) :: .ref (g 38) :: .ref (g 39) :: .ref (g 40) :: .ref (g 41) :: .ref (g 42) :: .int 0 :: .int 1 :: .ref (g 45) :: .ref (g 46) :: .ref (g 47) :: .ref (g 48) :: .ref (g 49) :: .int 0 :: .int 0 :: .ref (g 52) :: .int 0 :: .int 0 :: .ref (g 55) :: .ref (g 56) :: .ref (g 57) :: .ref (g 58) :: .int 0 :: .int 0 :: .int 0 :: .int 0 :: .ref (g 63) :: .int 0 :: .ref (g 65) :: .long 1 :: .ref (g 67) :: .ref (g 68) :: .int 0 :: [])), ((g 13), .inl (G.2.1, 2, .inl (fun _ => 0))), ((g 21), .inl (G.2.1, 2, .inl (fun _ => 0)))]) (As := [.int a, .int 0, .int 5]) (rest := []) (k1 := 0) (s1 := 0) F hK hP hD hS hA (k_X12_is l G a 0 5) kmS_X12_is mlX12_316 ⟨(Nat.le_of_ble_eq_true rfl), (Nat.le_of_ble_eq_true rfl)⟩ [] [0, 1, 2] rfl rfl rfl rfl (by decide) hl.1 rfl (Nat.le_of_ble_eq_true rfl) dX12_grow_3 ⟨(Nat.le_of_ble_eq_true rfl), (Nat.le_of_ble_eq_true rfl)⟩ rfl rfl (fun r2 u1 H locs hwr2 (hP : va_P G.1 vwCl [(y, .inr (12, .ref (g 0) :: .int 0 :: .int 0 :: .int 0 :: .int 0 :: .int 0 :: .int 0 :: .long 0 :: .int 0 :: .int (-1) :: .int 0 :: .int (-1) :: .int 0 :: .ref (g 13) :: .ref (g 14) :: .ref (g 15) :: .ref (g 16) :: .ref (g 17) :: .ref (g 18) :: .ref (g 19) :: .ref (g 20) :: .ref (g 21) :: .ref (g 22) :: .ref (g 23) :: .ref (g 24) :: .ref (g 25) :: .ref (g 26) :: .ref (g 27) :: .ref (g 28) :: .ref (g 29) :: .ref (g 30) :: .ref (g 31) :: .ref (g 32) :: .ref (g 33) :: .ref (g 34) :: .ref (g 35) :: .ref (g 36) :: .ref (g 37) :: .ref (g 38) :: .ref (g 39) :: .ref (g 40) :: .ref (g 41) :: .ref (g 42) :: .int 0 :: .int 1 :: .ref (g 45) :: .ref (g 46) :: .ref (g 47) :: .ref (g 48) :: .ref (g 49) :: .int 0 :: .int 0 :: .ref (g 52) :: .int 0 :: .int 0 :: .ref (g 55) :: .ref (g 56) :: .ref (g 57) :: .ref (g 58) :: .int 0 :: .int 0 :: .int 0 :: .int 0 :: .ref (g 63) :: .int 0 :: .ref (g 65) :: .long 1 :: .ref (g 67) :: .ref (g 68) :: .int 0 :: [])), ((g 13), .inl (G.2.1, 2, .inl (fun _ => 0))), ((g 21), .inl (G.2.1, 2, .inl (fun _ => 0)))] H) (hD : va_D A [(y, .inr (12, .ref (g 0) :: .int 0 :: .int 0 :: .int 0 :: .int 0 :: .int 0 :: .int 0 :: .long 0 :: .int 0 :: .int (-1) :: .int 0 :: .int (-1) :: .int 0 :: .ref (g 13) :: .ref (g 14) :: .ref (g 15) :: .ref (g 16) :: .ref (g 17) :: .ref (g 18) :: .ref (g 19) :: .ref (g 20) :: .ref (g 21) :: .ref (g 22) :: .ref (g 23) :: .ref (g 24) :: .ref (g 25) :: .ref (g 26) :: .ref (g 27) :: .ref (g 28) :: .ref (g 29) :: .ref (g 30) :: .ref (g 31) :: .ref (g 32) :: .ref (g 33) :: .ref (g 34) :: .ref (g 35) :: .ref (g 36) :: .ref (g 37) :: .ref (g 38) :: .ref (g 39) :: .ref (g 40) :: .ref (g 41) :: .ref (g 42) :: .int 0 :: .int 1 :: .ref (g 45) :: .ref (g 46) :: .ref (g 47) :: .ref (g 48) :: .ref (g 49) :: .int 0 :: .int 0 :: .ref (g 52) :: .int 0 :: .int 0 :: .ref (g 55) :: .ref (g 56) :: .ref (g 57) :: .ref (g 58) :: .int 0 :: .int 0 :: .int 0 :: .int 0 :: .ref (g 63) :: .int 0 :: .ref (g 65) :: .long 1 :: .ref (g 67) :: .ref (g 68) :: .int 0 :: [])), ((g 13), .inl (G.2.1, 2, .inl (fun _ => 0))), ((g 21), .inl (G.2.1, 2, .inl (fun _ => 0)))]) hS => ?_)
  subst hwr2
  refine lv_if_ne (tgt := 11) hx hb dX12_grow_6 (by decide) (fun c3 => ?_) (fun c3 => ?_)
  · refine lv_iconst (v := 0) hx hb dX12_grow_11 (by decide) ?_
    refine lv_istore_n (lv' := [(2, .int 0), (0, .ref y), (1, .int a)]) hx hb dX12_grow_12 rfl hl (by decide) rfl (fun ls hl => ?_)
    refine lv_iconst (v := 0) hx hb dX12_grow_13 (by decide) ?_
    refine lv_istore_n (lv' := [(3, .int 0), (2, .int 0), (0, .ref y), (1, .int a)]) hx hb dX12_grow_14 rfl hl (by decide) rfl (fun ls hl => ?_)
    refine lp_grow G y a g  (by exact Nat.le_of_ble_eq_true rfl) (by exact Nat.le_of_ble_eq_true rfl) (by exact Nat.le_of_ble_eq_true rfl) (by exact Nat.le_of_ble_eq_true rfl) F hK hA (fun v4 H locs ls hI5 hP hD hS hl => ?_) 32 0 0 _ _ _ (by omega) (by rw [if_pos rfl]) hP hD hS (lv_sub hl [0, 1, 2, 3] rfl)
    refine lv_iload_n hx hb dX12_grow_106 rfl (lv_at hl 0 rfl) ?_
    exact r_i F hr hlk hP hD hS () [] rfl rfl (hI5.trans (by simp [fGrow, isR_if, c3])) dX12_grow_107 (Nat.le_of_ble_eq_true rfl) (Nat.le_of_ble_eq_true rfl)
  · refine lv_iconst (v := (-1)) hx hb dX12_grow_9 (by decide) ?_
    exact r_i F hr hlk hP hD hS () [] rfl rfl (by simp [fGrow, isR_if, c3]) dX12_grow_10 (Nat.le_of_ble_eq_true rfl) (Nat.le_of_ble_eq_true rfl)
