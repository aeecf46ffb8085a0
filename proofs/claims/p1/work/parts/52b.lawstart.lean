def STB : List Int32 := [102, 108, 111, 111, 114, 32, 100, 101, 115, 107, 115, 32, 110, 111, 105, 115, 101, 32, 99, 111, 115, 116, 32, 116, 101, 97, 109, 32, 112, 101, 114, 115, 111, 110, 32, 100, 97, 121, 115, 32, 99, 97, 110, 110, 111, 116, 32, 108, 105, 107, 101, 115, 32, 116, 105, 101, 32, 99, 111, 109, 101, 115, 32, 118, 105, 115, 105, 116, 32, 111, 119, 110, 32, 109, 101, 101, 116, 32, 116, 117, 114, 110, 115, 32, 115, 116, 97, 110, 100, 32, 119, 111, 114, 116, 104, 32, 109, 111, 110, 32, 116, 117, 101, 32, 119, 101, 100, 32, 116, 104, 117, 32, 102, 114, 105, 32, 119, 104, 101, 110, 32, 111, 114, 32, 97, 110, 100, 32, 110, 111, 116, 32, 97, 108, 108, 32, 100, 97, 121, 32, 99, 114, 101, 119, 32, 109, 97, 110, 121, 32, 114, 111, 111, 109, 32, 109, 105, 110, 32, 109, 97, 120]
abbrev STm : Term := .string "DeskDays$Reader" 46
abbrev STv : Term := .field STm "java/lang/String" "value" "[B"
set_option maxRecDepth 100000 in
theorem str_all : (flatC (Jvm.Cond.and given_1 narrow_1)).drop 13 = (List.range 162).map (fun j => Cond.eq (.elem STv (.int (Int32.ofNat j))) (.int (STB.getD j 0))) := by decide +kernel
theorem str_el (j : Nat) (hj : j < 162) : Cond.eq (.elem STv (.int (Int32.ofNat j))) (.int (STB.getD j 0)) ∈ flatC (Jvm.Cond.and given_1 narrow_1) :=
  List.mem_of_mem_drop (i := 13) (by rw [str_all]; exact List.mem_map.mpr ⟨j, List.mem_range.mpr hj, rfl⟩)
theorem ref_rf {v : Value} (h : v.isRef = true) : ∃ fm : Option Nat, v = va_rf fm := by
  cases v with
  | ref a => exact ⟨some a, rfl⟩
  | null => exact ⟨none, rfl⟩
  | _ => exact absurd h (by simp [Value.isRef])
theorem arr_known {s : State} {args : Array Value} {ty : FieldType} (h : (Cond.arrayClass ty).before args s = true) : ∃ cA : ClassId, ArrOfT s cA ty ∧ s.vm.findClass ("[" ++ ty.toString) = some cA := by
  obtain ⟨cA, kA, comp, h1, h2, h3⟩ := Cond.arrayClass_spec (args := args) (first := s) (o := none) (s := s) (idx := []) h
  exact ⟨cA, fun n z => ⟨fun k h => (by cases h), kA, h2, comp, h3⟩, h1⟩
set_option maxHeartbeats 4000000 in
set_option maxRecDepth 100000 in
theorem str_known {s : State} {b : Nat} (hgv : (Jvm.Cond.and given_1 narrow_1).before #[Value.ref b] s = true) (hts : ∀ w ∈ lw_tbl, w.before #[Value.ref b] s = true) (D : va_G) (cI cJ cZ : ClassId) : ∃ aK aV : Nat, SX (D, (cI, (cJ, (cZ, (s.heap.size, (aK, aV)))))) s := by
  have hs := flat_of_before _ hgv
  have hA : ∀ a : Nat, a < s.heap.size → ¬ (fun q : Nat => s.heap.size ≤ q) a := fun a h q => absurd q (Nat.not_le.mpr h)
  obtain ⟨adK, adV, hSt, hev⟩ := vk_Sof (args := #[Value.ref b]) (s := s) (N := 1) (tm := fun _ => STm) (len := [162]) (byt := [STB]) (A := fun q : Nat => s.heap.size ≤ q) (by decide) (fun i hi => hs _ (List.mem_of_getElem? (i := 9) (by decide +kernel))) (fun i hi => hs _ (List.mem_of_getElem? (i := 10) (by decide +kernel))) (fun i hi => hs _ (List.mem_of_getElem? (i := 11) (by decide +kernel)))
    (fun i hi => by obtain rfl : i = 0 := by omega
                    exact hs _ (List.mem_of_getElem? (i := 12) (by decide +kernel)))
    (fun i hi j hj => by obtain rfl : i = 0 := by omega
                         exact hs _ (str_el j hj))
    (fun i j hi hj hne => absurd (by omega) hne) hA
  obtain ⟨g1, g2, g3, g4⟩ := hSt.1 0 (by decide)
  obtain ⟨v, hv1, hv2⟩ := Cond.isRef_spec (args := #[Value.ref b]) (first := s) (o := none) (s := s) (idx := []) (hs (Cond.isRef (.static "jdk/internal/util/Preconditions" "SIOOBE_FORMATTER" "Ljava/util/function/BiFunction;")) (List.mem_of_getElem? (i := 5) (by decide +kernel)))
  obtain ⟨fm, rfl⟩ := ref_rf hv2
  refine ⟨adK 0, adV 0, vk_R.of (A := #[Value.ref b]) (hts _ (List.mem_of_getElem? (i := 447) (by decide +kernel))) (hev 0 (by decide)), g1, g2, g3, ⟨fun j => STB.getD j 0, g4⟩, va_Zof (hts _ (List.mem_of_getElem? (i := 457) (by decide +kernel))) (hts (.initialized "java/lang/String") (List.mem_of_getElem? (i := 155) (by decide +kernel))) (va_eqt (hs _ (List.mem_of_getElem? (i := 4) (by decide +kernel)))) hA, fm, va_Zof (hts _ (List.mem_of_getElem? (i := 473) (by decide +kernel))) (hts (.initialized "jdk/internal/util/Preconditions") (List.mem_of_getElem? (i := 157) (by decide +kernel))) hv1 hA⟩
theorem nest_known {s : State} {b : Nat} (hts : ∀ w ∈ lw_tbl, w.before #[Value.ref b] s = true) : KN s := by
  intro q hq
  have h : q ∈ nst → ∃ i : Nat, lw_tbl[i]? = some (Cond.methodLinkNest q.1 q.2.1 q.2.2.1 q.2.2.2) := by
    intro hq
    simp only [nst, List.mem_cons, List.mem_nil_iff, or_false] at hq
    rcases hq with rfl | rfl | rfl | rfl | rfl
    · exact ⟨179, by decide +kernel⟩
    · exact ⟨185, by decide +kernel⟩
    · exact ⟨240, by decide +kernel⟩
    · exact ⟨318, by decide +kernel⟩
    · exact ⟨649, by decide +kernel⟩
  obtain ⟨i, hi⟩ := h hq
  exact va_Nw.of rfl (hts _ (List.mem_of_getElem? hi))
set_option maxHeartbeats 8000000 in
set_option maxRecDepth 100000 in
theorem whole_start {p : Program} {e : Env} {s : State} {m : MethodId} {below : List Frame} {meth : Method} {c : Code} (l : Launch) {b L : Nat} {xs : Nat → Int32} (hL : L ≤ 6) (C0 : lw_At p s m meth c b L xs) : W p l e room_1 s m #[Value.ref b] below meth c s.heap [] 0 0 (lw_Z below #[Value.ref b] s) (entryFrame m ([Value.ref b] : List Value).toArray 4) := by
  obtain ⟨hx, hb, hr, hml, hown, hts, hX, hbl, hlk, hgv⟩ := id C0
  have F : CallFix p m c cL_law 4 s #[Value.ref b] tb RL := ⟨hx, hb, hml, hown, fun w h => hts w (tb_lw h)⟩
  have hbA : ¬ (fun q : Nat => s.heap.size ≤ q) b := Nat.not_le.mpr hbl
  obtain ⟨c0, i0, k0⟩ := u_known (C := RX0) (T := TX0) (N := 2) (n := 2) F.2.2.2.2 inX0 (F.2.2.2.2 _ it_X0)
  obtain ⟨c1, i1, k1⟩ := u_known (C := RX1) (T := TX1) (N := 8) (n := 8) F.2.2.2.2 inX1 (F.2.2.2.2 _ it_X1)
  obtain ⟨c2, i2, k2⟩ := u_known (C := RX2) (T := TX2) (N := 14) (n := 14) F.2.2.2.2 inX2 (F.2.2.2.2 _ it_X2)
  obtain ⟨c3, i3, k3⟩ := u_known (C := RX3) (T := TX3) (N := 11) (n := 11) F.2.2.2.2 inX3 (F.2.2.2.2 _ it_X3)
  obtain ⟨c4, i4, k4⟩ := u_known (C := RX4) (T := TX4) (N := 6) (n := 6) F.2.2.2.2 inX4 (F.2.2.2.2 _ it_X4)
  obtain ⟨c5, i5, k5⟩ := u_known (C := RX5) (T := TX5) (N := 10) (n := 10) F.2.2.2.2 inX5 (F.2.2.2.2 _ it_X5)
  obtain ⟨c6, i6, k6⟩ := u_known (C := RX6) (T := TX6) (N := 2) (n := 2) F.2.2.2.2 inX6 (F.2.2.2.2 _ it_X6)
  obtain ⟨c7, i7, k7⟩ := u_known (C := RX7) (T := TX7) (N := 8) (n := 8) F.2.2.2.2 inX7 (F.2.2.2.2 _ it_X7)
  obtain ⟨c8, i8, k8⟩ := u_known (C := RX8) (T := TX8) (N := 3) (n := 3) F.2.2.2.2 inX8 (F.2.2.2.2 _ it_X8)
  obtain ⟨c9, i9, k9⟩ := u_known (C := RX9) (T := TX9) (N := 5) (n := 5) F.2.2.2.2 inX9 (F.2.2.2.2 _ it_X9)
  obtain ⟨c10, i10, k10⟩ := u_known (C := RX10) (T := TX10) (N := 4) (n := 4) F.2.2.2.2 inX10 (F.2.2.2.2 _ it_X10)
  obtain ⟨c11, i11, k11⟩ := u_known (C := RX11) (T := TX11) (N := 14) (n := 14) F.2.2.2.2 inX11 (F.2.2.2.2 _ it_X11)
  obtain ⟨c12, i12, k12⟩ := u_known (C := RX12) (T := TX12) (N := 70) (n := 70) F.2.2.2.2 inX12 (F.2.2.2.2 _ it_X12)
  obtain ⟨dC, dI, hKc⟩ : ∃ (dC : Nat → ClassId) (dI : Nat → Nat → Nat), ∀ (k : Nat) (q : vw_C), vwCl[k]? = some q → u_Kn s q.1 q.2.1 q.2.2 (dC k) (dI k) := by
    refine ⟨fun k => if k = 0 then c0 else if k = 1 then c1 else if k = 2 then c2 else if k = 3 then c3 else if k = 4 then c4 else if k = 5 then c5 else if k = 6 then c6 else if k = 7 then c7 else if k = 8 then c8 else if k = 9 then c9 else if k = 10 then c10 else if k = 11 then c11 else c12, fun k => if k = 0 then i0 else if k = 1 then i1 else if k = 2 then i2 else if k = 3 then i3 else if k = 4 then i4 else if k = 5 then i5 else if k = 6 then i6 else if k = 7 then i7 else if k = 8 then i8 else if k = 9 then i9 else if k = 10 then i10 else if k = 11 then i11 else i12, ?_⟩
    intro k q hq
    match k, hq with
    | 0, hq => cases hq; exact k0
    | 1, hq => cases hq; exact k1
    | 2, hq => cases hq; exact k2
    | 3, hq => cases hq; exact k3
    | 4, hq => cases hq; exact k4
    | 5, hq => cases hq; exact k5
    | 6, hq => cases hq; exact k6
    | 7, hq => cases hq; exact k7
    | 8, hq => cases hq; exact k8
    | 9, hq => cases hq; exact k9
    | 10, hq => cases hq; exact k10
    | 11, hq => cases hq; exact k11
    | 12, hq => cases hq; exact k12
    | k + 13, hq => simp [vwCl] at hq
  obtain ⟨cI, aI1, aI2⟩ := arr_known (F.2.2.2.2 _ ac_I)
  obtain ⟨cJ, aJ1, aJ2⟩ := arr_known (F.2.2.2.2 _ ac_J)
  obtain ⟨cZ, aZ1, aZ2⟩ := arr_known (F.2.2.2.2 _ ac_Z)
  obtain ⟨aK, aV, hSX⟩ := str_known hgv hts (dC, dI) cI cJ cZ
  obtain ⟨G, hG⟩ : ∃ G : Gx, G = ((dC, dI), (cI, (cJ, (cZ, (s.heap.size, (aK, aV)))))) := ⟨_, rfl⟩
  obtain ⟨A, hAe⟩ : ∃ A : Nat → Prop, A = fun q : Nat => s.heap.size ≤ q := ⟨_, rfl⟩
  have hK : KX G s := by
    rw [hG]
    refine ⟨⟨hKc, fun k q h => ?_⟩, nest_known hts, hSX⟩
    match k, h with
    | 0, h => cases h; exact ⟨aI1, aI2⟩
    | 1, h => cases h; exact ⟨aJ1, aJ2⟩
    | 2, h => cases h; exact ⟨aZ1, aZ2⟩
    | k + 3, h => simp at h
  have hA : HA G s A := by
    rw [hG, hAe]
    exact ⟨fun _ h => h, fun _ h => h⟩
  have hAA : ∀ q, A q → s.heap.size ≤ q := by
    rw [hAe]
    exact fun _ h => h
  have hbA : ¬ A b := by
    rw [hAe]
    exact hbA
  have hS : va_S A s.heap s.heap [] := va_S.rf
  have hP : va_P G.1 vwCl [] s.heap := fun k q h => by simp at h
  have hD : va_D A [] := ⟨fun i j p q h => by simp at h, fun k q h => by simp at h⟩
  have hl := lv_entry ([.ref b]) (n := 4) (Nat.le_of_ble_eq_true rfl)
  rw [lg_entry_eq]
  generalize (lg_sl ([.ref b]) ++ List.replicate (4 - (lg_sl ([.ref b])).length) Slot.unset).toArray = ls at hl ⊢
  have hl : lv_has ls 4 [(0, .ref b)] := hl
  refine g_new (k1 := 1) (s1 := 14) (fs := [.null, .int 0, .null, .null, .null, .null, .null, .null, .int 0, .int 0, .long 0, .null, .int 0, .null]) F hK hP hD hS hA clX11 lkL_7 it_X11 ini_X11 fs_X11 (Nat.le_of_ble_eq_true rfl) (Nat.le_of_ble_eq_true rfl) dL_law_0 rfl rfl (fun q1 H (hP : va_P G.1 vwCl [(q1, .inr (11, [.null, .int 0, .null, .null, .null, .null, .null, .null, .int 0, .int 0, .long 0, .null, .int 0, .null]))] H) (hD : va_D A [(q1, .inr (11, [.null, .int 0, .null, .null, .null, .null, .null, .null, .int 0, .int 0, .long 0, .null, .int 0, .null]))]) hS => ?_)
  refine lv_dup hx hb dL_law_3 rfl ?_
  refine civ (wr := []) (As := []) (rest := [.ref q1]) (b := q1) (k1 := 86) (s1 := 7510) F hK hP hD hS hA (k_X11_init l G q1) kmI_X11_init mlL_9 ⟨(Nat.le_of_ble_eq_true rfl), (Nat.le_of_ble_eq_true rfl)⟩ [0] [] rfl rfl rfl rfl (by decide) hl.1 rfl (Nat.le_of_ble_eq_true rfl) dL_law_4 ⟨(Nat.le_of_ble_eq_true rfl), (Nat.le_of_ble_eq_true rfl)⟩ rfl rfl (fun u2 H locs hwr3 (hP : va_P G.1 vwCl [(q1, .inr (11, [.ref (u2.1 0), .int 0, .ref (u2.1 2), .ref (u2.1 3), .ref (u2.1 4), .ref (u2.1 5), .ref (u2.1 6), .ref (u2.1 7), .int 0, .int (-1), .long 1, .ref (u2.1 11), .int 0, .ref (u2.1 13)])), ((u2.1 2), .inr (2, [.ref (u2.1 100), .ref (u2.1 101), .ref (u2.1 102), .int 0, .ref (u2.1 104), .ref (u2.1 105), .ref (u2.1 106), .int 0, .ref (u2.1 108), .ref (u2.1 109), .ref (u2.1 110), .ref (u2.1 111), .ref (u2.1 112), .int 50])), ((u2.1 100), .inr (1, [.int 0, .int 0, .int 0, .ref (u2.1 123), .ref (u2.1 124), .ref (u2.1 125), .ref (u2.1 126), .ref (u2.1 127)])), ((u2.1 101), .inr (3, [.int 0, .ref (u2.1 131), .ref (u2.1 132), .ref (u2.1 133), .ref (u2.1 134), .ref (u2.1 135), .ref (u2.1 136), .ref (u2.1 137), .ref (u2.1 138), .ref (u2.1 139), .ref (u2.1 140)])), ((u2.1 102), .inr (7, [.int 0, .int 0, .ref (u2.1 152), .ref (u2.1 153), .ref (u2.1 154), .ref (u2.1 155), .ref (u2.1 156), .ref (u2.1 157)])), ((u2.1 111), .inl (G.2.1, 5, .inl (fun _ => 0))), ((u2.1 112), .inl (G.2.1, 5, .inl (fun _ => 0))), ((u2.1 106), .inl (G.2.1, 6, .inl (fun _ => 0))), ((u2.1 3), .inr (10, [.ref (u2.1 70), .ref (u2.1 71), .ref (u2.1 2), .int 0])), ((u2.1 70), .inr (5, [.ref (u2.1 0), .int 0, .int 0, .int 0, .int 0, .int 0, .int (-1), .int 0, .int (-1), .ref (u2.1 89)])), ((u2.1 4), .inr (4, [.ref (u2.1 60), .ref (u2.1 61), .int 0, .int (-1), .int (-1), .ref (u2.1 65)])), ((u2.1 60), .inr (2, [.ref (u2.1 200), .ref (u2.1 201), .ref (u2.1 202), .int 0, .ref (u2.1 204), .ref (u2.1 205), .ref (u2.1 206), .int 0, .ref (u2.1 208), .ref (u2.1 209), .ref (u2.1 210), .ref (u2.1 211), .ref (u2.1 212), .int 50])), ((u2.1 200), .inr (1, [.int 0, .int 0, .int 0, .ref (u2.1 223), .ref (u2.1 224), .ref (u2.1 225), .ref (u2.1 226), .ref (u2.1 227)])), ((u2.1 201), .inr (3, [.int 0, .ref (u2.1 231), .ref (u2.1 232), .ref (u2.1 233), .ref (u2.1 234), .ref (u2.1 235), .ref (u2.1 236), .ref (u2.1 237), .ref (u2.1 238), .ref (u2.1 239), .ref (u2.1 240)])), ((u2.1 202), .inr (7, [.int 0, .int 0, .ref (u2.1 252), .ref (u2.1 253), .ref (u2.1 254), .ref (u2.1 255), .ref (u2.1 256), .ref (u2.1 257)])), ((u2.1 211), .inl (G.2.1, 5, .inl (fun _ => 0))), ((u2.1 212), .inl (G.2.1, 5, .inl (fun _ => 0))), ((u2.1 206), .inl (G.2.1, 6, .inl (fun _ => 0))), ((u2.1 5), .inr (9, [.ref (u2.1 4), .int 0, .ref (u2.1 92), .ref (u2.1 93), .ref (u2.1 94)])), ((u2.1 6), .inr (8, [.ref (u2.1 4), .ref (u2.1 96), .ref (u2.1 97)])), ((u2.1 7), .inr (0, [.ref (u2.1 98), .int 0])), ((u2.1 0), .inl (G.2.1, 1800, .inl (fun _ => 0))), ((u2.1 61), .inl (G.2.1, 12, .inl (fun _ => 0))), ((u2.1 65), .inl (G.2.1, 780, .inl u2.2)), ((u2.1 92), .inl (G.2.1, 12, .inl (fun _ => 0))), ((u2.1 93), .inl (G.2.1, 12, .inl (fun _ => 0))), ((u2.1 94), .inl (G.2.1, 5, .inl (fun _ => 0))), ((u2.1 98), .inl (G.2.2.1, 41, .inr (.inl (fun _ => 0)))), ((u2.1 11), .inl (G.2.1, 14, .inl (fun _ => 0))), ((u2.1 13), .inl (G.2.1, 6, .inl (fun _ => 0)))] H) (hD : va_D A [(q1, .inr (11, [.ref (u2.1 0), .int 0, .ref (u2.1 2), .ref (u2.1 3), .ref (u2.1 4), .ref (u2.1 5), .ref (u2.1 6), .ref (u2.1 7), .int 0, .int (-1), .long 1, .ref (u2.1 11), .int 0, .ref (u2.1 13)])), ((u2.1 2), .inr (2, [.ref (u2.1 100), .ref (u2.1 101), .ref (u2.1 102), .int 0, .ref (u2.1 104), .ref (u2.1 105), .ref (u2.1 106), .int 0, .ref (u2.1 108), .ref (u2.1 109), .ref (u2.1 110), .ref (u2.1 111), .ref (u2.1 112), .int 50])), ((u2.1 100), .inr (1, [.int 0, .int 0, .int 0, .ref (u2.1 123), .ref (u2.1 124), .ref (u2.1 125), .ref (u2.1 126), .ref (u2.1 127)])), ((u2.1 101), .inr (3, [.int 0, .ref (u2.1 131), .ref (u2.1 132), .ref (u2.1 133), .ref (u2.1 134), .ref (u2.1 135), .ref (u2.1 136), .ref (u2.1 137), .ref (u2.1 138), .ref (u2.1 139), .ref (u2.1 140)])), ((u2.1 102), .inr (7, [.int 0, .int 0, .ref (u2.1 152), .ref (u2.1 153), .ref (u2.1 154), .ref (u2.1 155), .ref (u2.1 156), .ref (u2.1 157)])), ((u2.1 111), .inl (G.2.1, 5, .inl (fun _ => 0))), ((u2.1 112), .inl (G.2.1, 5, .inl (fun _ => 0))), ((u2.1 106), .inl (G.2.1, 6, .inl (fun _ => 0))), ((u2.1 3), .inr (10, [.ref (u2.1 70), .ref (u2.1 71), .ref (u2.1 2), .int 0])), ((u2.1 70), .inr (5, [.ref (u2.1 0), .int 0, .int 0, .int 0, .int 0, .int 0, .int (-1), .int 0, .int (-1), .ref (u2.1 89)])), ((u2.1 4), .inr (4, [.ref (u2.1 60), .ref (u2.1 61), .int 0, .int (-1), .int (-1), .ref (u2.1 65)])), ((u2.1 60), .inr (2, [.ref (u2.1 200), .ref (u2.1 201), .ref (u2.1 202), .int 0, .ref (u2.1 204), .ref (u2.1 205), .ref (u2.1 206), .int 0, .ref (u2.1 208), .ref (u2.1 209), .ref (u2.1 210), .ref (u2.1 211), .ref (u2.1 212), .int 50])), ((u2.1 200), .inr (1, [.int 0, .int 0, .int 0, .ref (u2.1 223), .ref (u2.1 224), .ref (u2.1 225), .ref (u2.1 226), .ref (u2.1 227)])), ((u2.1 201), .inr (3, [.int 0, .ref (u2.1 231), .ref (u2.1 232), .ref (u2.1 233), .ref (u2.1 234), .ref (u2.1 235), .ref (u2.1 236), .ref (u2.1 237), .ref (u2.1 238), .ref (u2.1 239), .ref (u2.1 240)])), ((u2.1 202), .inr (7, [.int 0, .int 0, .ref (u2.1 252), .ref (u2.1 253), .ref (u2.1 254), .ref (u2.1 255), .ref (u2.1 256), .ref (u2.1 257)])), ((u2.1 211), .inl (G.2.1, 5, .inl (fun _ => 0))), ((u2.1 212), .inl (G.2.1, 5, .inl (fun _ => 0))), ((u2.1 206), .inl (G.2.1, 6, .inl (fun _ => 0))), ((u2.1 5), .inr (9, [.ref (u2.1 4), .int 0, .ref (u2.1 92), .ref (u2.1 93), .ref (u2.1 94)])), ((u2.1 6), .inr (8, [.ref (u2.1 4), .ref (u2.1 96), .ref (u2.1 97)])), ((u2.1 7), .inr (0, [.ref (u2.1 98), .int 0])), ((u2.1 0), .inl (G.2.1, 1800, .inl (fun _ => 0))), ((u2.1 61), .inl (G.2.1, 12, .inl (fun _ => 0))), ((u2.1 65), .inl (G.2.1, 780, .inl u2.2)), ((u2.1 92), .inl (G.2.1, 12, .inl (fun _ => 0))), ((u2.1 93), .inl (G.2.1, 12, .inl (fun _ => 0))), ((u2.1 94), .inl (G.2.1, 5, .inl (fun _ => 0))), ((u2.1 98), .inl (G.2.2.1, 41, .inr (.inl (fun _ => 0)))), ((u2.1 11), .inl (G.2.1, 14, .inl (fun _ => 0))), ((u2.1 13), .inl (G.2.1, 6, .inl (fun _ => 0)))]) hS => ?_)
  refine lv_astore_n (lv' := [(1, .ref q1), (0, .ref b)]) hx hb dL_law_7 rfl hl (by decide) rfl (fun ls hl => ?_)
  refine g_new (k1 := 87) (s1 := 7580) (fs := (.null :: .int 0 :: .int 0 :: .int 0 :: .int 0 :: .int 0 :: .int 0 :: .long 0 :: .int 0 :: .int 0 :: .int 0 :: .int 0 :: .int 0 :: .null :: .null :: .null :: .null :: .null :: .null :: .null :: .null :: .null :: .null :: .null :: .null :: .null :: .null :: .null :: .null :: .null :: .null :: .null :: .null :: .null :: .null :: .null :: .null :: .null :: .null :: .null :: .null :: .null :: .null :: .int 0 :: .int 0 :: .null :: .null :: .null :: .null :: .null :: .int 0 :: .int 0 :: .null :: .int 0 :: .int 0 :: .null :: .null :: .null :: .null :: .int 0 :: .int 0 :: .int 0 :: .int 0 :: .null :: .int 0 :: .null :: .long 0 :: .null :: .null :: .int 0 :: [])) F hK hP hD hS hA clX12 lkL_10 it_X12 ini_X12 fs_X12 (Nat.le_of_ble_eq_true rfl) (Nat.le_of_ble_eq_true rfl) dL_law_8 rfl rfl (fun q4 H (hP : va_P G.1 vwCl ((q1, .inr (11, [.ref (u2.1 0), .int 0, .ref (u2.1 2), .ref (u2.1 3), .ref (u2.1 4), .ref (u2.1 5), .ref (u2.1 6), .ref (u2.1 7), .int 0, .int (-1), .long 1, .ref (u2.1 11), .int 0, .ref (u2.1 13)])) :: ((u2.1 2), .inr (2, [.ref (u2.1 100), .ref (u2.1 101), .ref (u2.1 102), .int 0, .ref (u2.1 104), .ref (u2.1 105), .ref (u2.1 106), .int 0, .ref (u2.1 108), .ref (u2.1 109), .ref (u2.1 110), .ref (u2.1 111), .ref (u2.1 112), .int 50])) :: ((u2.1 100), .inr (1, [.int 0, .int 0, .int 0, .ref (u2.1 123), .ref (u2.1 124), .ref (u2.1 125), .ref (u2.1 126), .ref (u2.1 127)])) :: ((u2.1 101), .inr (3, [.int 0, .ref (u2.1 131), .ref (u2.1 132), .ref (u2.1 133), .ref (u2.1 134), .ref (u2.1 135), .ref (u2.1 136), .ref (u2.1 137), .ref (u2.1 138), .ref (u2.1 139), .ref (u2.1 140)])) :: ((u2.1 102), .inr (7, [.int 0, .int 0, .ref (u2.1 152), .ref (u2.1 153), .ref (u2.1 154), .ref (u2.1 155), .ref (u2.1 156), .ref (u2.1 157)])) :: ((u2.1 111), .inl (G.2.1, 5, .inl (fun _ => 0))) :: ((u2.1 112), .inl (G.2.1, 5, .inl (fun _ => 0))) :: ((u2.1 106), .inl (G.2.1, 6, .inl (fun _ => 0))) :: ((u2.1 3), .inr (10, [.ref (u2.1 70), .ref (u2.1 71), .ref (u2.1 2), .int 0])) :: ((u2.1 70), .inr (5, [.ref (u2.1 0), .int 0, .int 0, .int 0, .int 0, .int 0, .int (-1), .int 0, .int (-1), .ref (u2.1 89)])) :: ((u2.1 4), .inr (4, [.ref (u2.1 60), .ref (u2.1 61), .int 0, .int (-1), .int (-1), .ref (u2.1 65)])) :: ((u2.1 60), .inr (2, [.ref (u2.1 200), .ref (u2.1 201), .ref (u2.1 202), .int 0, .ref (u2.1 204), .ref (u2.1 205), .ref (u2.1 206), .int 0, .ref (u2.1 208), .ref (u2.1 209), .ref (u2.1 210), .ref (u2.1 211), .ref (u2.1 212), .int 50])) :: ((u2.1 200), .inr (1, [.int 0, .int 0, .int 0, .ref (u2.1 223), .ref (u2.1 224), .ref (u2.1 225), .ref (u2.1 226), .ref (u2.1 227)])) :: ((u2.1 201), .inr (3, [.int 0, .ref (u2.1 231), .ref (u2.1 232), .ref (u2.1 233), .ref (u2.1 234), .ref (u2.1 235), .ref (u2.1 236), .ref (u2.1 237), .ref (u2.1 238), .ref (u2.1 239), .ref (u2.1 240)])) :: ((u2.1 202), .inr (7, [.int 0, .int 0, .ref (u2.1 252), .ref (u2.1 253), .ref (u2.1 254), .ref (u2.1 255), .ref (u2.1 256), .ref (u2.1 257)])) :: ((u2.1 211), .inl (G.2.1, 5, .inl (fun _ => 0))) :: ((u2.1 212), .inl (G.2.1, 5, .inl (fun _ => 0))) :: ((u2.1 206), .inl (G.2.1, 6, .inl (fun _ => 0))) :: ((u2.1 5), .inr (9, [.ref (u2.1 4), .int 0, .ref (u2.1 92), .ref (u2.1 93), .ref (u2.1 94)])) :: ((u2.1 6), .inr (8, [.ref (u2.1 4), .ref (u2.1 96), .ref (u2.1 97)])) :: ((u2.1 7), .inr (0, [.ref (u2.1 98), .int 0])) :: ((u2.1 0), .inl (G.2.1, 1800, .inl (fun _ => 0))) :: ((u2.1 61), .inl (G.2.1, 12, .inl (fun _ => 0))) :: ((u2.1 65), .inl (G.2.1, 780, .inl u2.2)) :: ((u2.1 92), .inl (G.2.1, 12, .inl (fun _ => 0))) :: ((u2.1 93), .inl (G.2.1, 12, .inl (fun _ => 0))) :: ((u2.1 94), .inl (G.2.1, 5, .inl (fun _ => 0))) :: ((u2.1 98), .inl (G.2.2.1, 41, .inr (.inl (fun _ => 0)))) :: ((u2.1 11), .inl (G.2.1, 14, .inl (fun _ => 0))) :: ((u2.1 13), .inl (G.2.1, 6, .inl (fun _ => 0))) :: (q4, .inr (12, .null :: .int 0 :: .int 0 :: .int 0 :: .int 0 :: .int 0 :: .int 0 :: .long 0 :: .int 0 :: .int 0 :: .int 0 :: .int 0 :: .int 0 :: .null :: .null :: .null :: .null :: .null :: .null :: .null :: .null :: .null :: .null :: .null :: .null :: .null :: .null :: .null :: .null :: .null :: .null :: .null :: .null :: .null :: .null :: .null :: .null :: .null :: .null :: .null :: .null :: .null :: .null :: .int 0 :: .int 0 :: .null :: .null :: .null :: .null :: .null :: .int 0 :: .int 0 :: .null :: .int 0 :: .int 0 :: .null :: .null :: .null :: .null :: .int 0 :: .int 0 :: .int 0 :: .int 0 :: .null :: .int 0 :: .null :: .long 0 :: .null :: .null :: .int 0 :: [])) :: []) H) (hD : va_D A ((q1, .inr (11, [.ref (u2.1 0), .int 0, .ref (u2.1 2), .ref (u2.1 3), .ref (u2.1 4), .ref (u2.1 5), .ref (u2.1 6), .ref (u2.1 7), .int 0, .int (-1), .long 1, .ref (u2.1 11), .int 0, .ref (u2.1 13)])) :: ((u2.1 2), .inr (2, [.ref (u2.1 100), .ref (u2.1 101), .ref (u2.1 102), .int 0, .ref (u2.1 104), .ref (u2.1 105), .ref (u2.1 106), .int 0, .ref (u2.1 108), .ref (u2.1 109), .ref (u2.1 110), .ref (u2.1 111), .ref (u2.1 112), .int 50])) :: ((u2.1 100), .inr (1, [.int 0, .int 0, .int 0, .ref (u2.1 123), .ref (u2.1 124), .ref (u2.1 125), .ref (u2.1 126), .ref (u2.1 127)])) :: ((u2.1 101), .inr (3, [.int 0, .ref (u2.1 131), .ref (u2.1 132), .ref (u2.1 133), .ref (u2.1 134), .ref (u2.1 135), .ref (u2.1 136), .ref (u2.1 137), .ref (u2.1 138), .ref (u2.1 139), .ref (u2.1 140)])) :: ((u2.1 102), .inr (7, [.int 0, .int 0, .ref (u2.1 152), .ref (u2.1 153), .ref (u2.1 154), .ref (u2.1 155), .ref (u2.1 156), .ref (u2.1 157)])) :: ((u2.1 111), .inl (G.2.1, 5, .inl (fun _ => 0))) :: ((u2.1 112), .inl (G.2.1, 5, .inl (fun _ => 0))) :: ((u2.1 106), .inl (G.2.1, 6, .inl (fun _ => 0))) :: ((u2.1 3), .inr (10, [.ref (u2.1 70), .ref (u2.1 71), .ref (u2.1 2), .int 0])) :: ((u2.1 70), .inr (5, [.ref (u2.1 0), .int 0, .int 0, .int 0, .int 0, .int 0, .int (-1), .int 0, .int (-1), .ref (u2.1 89)])) :: ((u2.1 4), .inr (4, [.ref (u2.1 60), .ref (u2.1 61), .int 0, .int (-1), .int (-1), .ref (u2.1 65)])) :: ((u2.1 60), .inr (2, [.ref (u2.1 200), .ref (u2.1 201), .ref (u2.1 202), .int 0, .ref (u2.1 204), .ref (u2.1 205), .ref (u2.1 206), .int 0, .ref (u2.1 208), .ref (u2.1 209), .ref (u2.1 210), .ref (u2.1 211), .ref (u2.1 212), .int 50])) :: ((u2.1 200), .inr (1, [.int 0, .int 0, .int 0, .ref (u2.1 223), .ref (u2.1 224), .ref (u2.1 225), .ref (u2.1 226), .ref (u2.1 227)])) :: ((u2.1 201), .inr (3, [.int 0, .ref (u2.1 231), .ref (u2.1 232), .ref (u2.1 233), .ref (u2.1 234), .ref (u2.1 235), .ref (u2.1 236), .ref (u2.1 237), .ref (u2.1 238), .ref (u2.1 239), .ref (u2.1 240)])) :: ((u2.1 202), .inr (7, [.int 0, .int 0, .ref (u2.1 252), .ref (u2.1 253), .ref (u2.1 254), .ref (u2.1 255), .ref (u2.1 256), .ref (u2.1 257)])) :: ((u2.1 211), .inl (G.2.1, 5, .inl (fun _ => 0))) :: ((u2.1 212), .inl (G.2.1, 5, .inl (fun _ => 0))) :: ((u2.1 206), .inl (G.2.1, 6, .inl (fun _ => 0))) :: ((u2.1 5), .inr (9, [.ref (u2.1 4), .int 0, .ref (u2.1 92), .ref (u2.1 93), .ref (u2.1 94)])) :: ((u2.1 6), .inr (8, [.ref (u2.1 4), .ref (u2.1 96), .ref (u2.1 97)])) :: ((u2.1 7), .inr (0, [.ref (u2.1 98), .int 0])) :: ((u2.1 0), .inl (G.2.1, 1800, .inl (fun _ => 0))) :: ((u2.1 61), .inl (G.2.1, 12, .inl (fun _ => 0))) :: ((u2.1 65), .inl (G.2.1, 780, .inl u2.2)) :: ((u2.1 92), .inl (G.2.1, 12, .inl (fun _ => 0))) :: ((u2.1 93), .inl (G.2.1, 12, .inl (fun _ => 0))) :: ((u2.1 94), .inl (G.2.1, 5, .inl (fun _ => 0))) :: ((u2.1 98), .inl (G.2.2.1, 41, .inr (.inl (fun _ => 0)))) :: ((u2.1 11), .inl (G.2.1, 14, .inl (fun _ => 0))) :: ((u2.1 13), .inl (G.2.1, 6, .inl (fun _ => 0))) :: (q4, .inr (12, .null :: .int 0 :: .int 0 :: .int 0 :: .int 0 :: .int 0 :: .int 0 :: .long 0 :: .int 0 :: .int 0 :: .int 0 :: .int 0 :: .int 0 :: .null :: .null :: .null :: .null :: .null :: .null :: .null :: .null :: .null :: .null :: .null :: .null :: .null :: .null :: .null :: .null :: .null :: .null :: .null :: .null :: .null :: .null :: .null :: .null :: .null :: .null :: .null :: .null :: .null :: .null :: .int 0 :: .int 0 :: .null :: .null :: .null :: .null :: .null :: .int 0 :: .int 0 :: .null :: .int 0 :: .int 0 :: .null :: .null :: .null :: .null :: .int 0 :: .int 0 :: .int 0 :: .int 0 :: .null :: .int 0 :: .null :: .long 0 :: .null :: .null :: .int 0 :: [])) :: [])) hS => ?_)
  refine lv_dup hx hb dL_law_11 rfl ?_
  refine civ (wr := [(q1, .inr (11, [.ref (u2.1 0), .int 0, .ref (u2.1 2), .ref (u2.1 3), .ref (u2.1 4), .ref (u2.1 5), .ref (u2.1 6), .ref (u2.1 7), .int 0, .int (-1), .long 1, .ref (u2.1 11), .int 0, .ref (u2.1 13)])), ((u2.1 2), .inr (2, [.ref (u2.1 100), .ref (u2.1 101), .ref (u2.1 102), .int 0, .ref (u2.1 104), .ref (u2.1 105), .ref (u2.1 106), .int 0, .ref (u2.1 108), .ref (u2.1 109), .ref (u2.1 110), .ref (u2.1 111), .ref (u2.1 112), .int 50])), ((u2.1 100), .inr (1, [.int 0, .int 0, .int 0, .ref (u2.1 123), .ref (u2.1 124), .ref (u2.1 125), .ref (u2.1 126), .ref (u2.1 127)])), ((u2.1 101), .inr (3, [.int 0, .ref (u2.1 131), .ref (u2.1 132), .ref (u2.1 133), .ref (u2.1 134), .ref (u2.1 135), .ref (u2.1 136), .ref (u2.1 137), .ref (u2.1 138), .ref (u2.1 139), .ref (u2.1 140)])), ((u2.1 102), .inr (7, [.int 0, .int 0, .ref (u2.1 152), .ref (u2.1 153), .ref (u2.1 154), .ref (u2.1 155), .ref (u2.1 156), .ref (u2.1 157)])), ((u2.1 111), .inl (G.2.1, 5, .inl (fun _ => 0))), ((u2.1 112), .inl (G.2.1, 5, .inl (fun _ => 0))), ((u2.1 106), .inl (G.2.1, 6, .inl (fun _ => 0))), ((u2.1 3), .inr (10, [.ref (u2.1 70), .ref (u2.1 71), .ref (u2.1 2), .int 0])), ((u2.1 70), .inr (5, [.ref (u2.1 0), .int 0, .int 0, .int 0, .int 0, .int 0, .int (-1), .int 0, .int (-1), .ref (u2.1 89)])), ((u2.1 4), .inr (4, [.ref (u2.1 60), .ref (u2.1 61), .int 0, .int (-1), .int (-1), .ref (u2.1 65)])), ((u2.1 60), .inr (2, [.ref (u2.1 200), .ref (u2.1 201), .ref (u2.1 202), .int 0, .ref (u2.1 204), .ref (u2.1 205), .ref (u2.1 206), .int 0, .ref (u2.1 208), .ref (u2.1 209), .ref (u2.1 210), .ref (u2.1 211), .ref (u2.1 212), .int 50])), ((u2.1 200), .inr (1, [.int 0, .int 0, .int 0, .ref (u2.1 223), .ref (u2.1 224), .ref (u2.1 225), .ref (u2.1 226), .ref (u2.1 227)])), ((u2.1 201), .inr (3, [.int 0, .ref (u2.1 231), .ref (u2.1 232), .ref (u2.1 233), .ref (u2.1 234), .ref (u2.1 235), .ref (u2.1 236), .ref (u2.1 237), .ref (u2.1 238), .ref (u2.1 239), .ref (u2.1 240)])), ((u2.1 202), .inr (7, [.int 0, .int 0, .ref (u2.1 252), .ref (u2.1 253), .ref (u2.1 254), .ref (u2.1 255), .ref (u2.1 256), .ref (u2.1 257)])), ((u2.1 211), .inl (G.2.1, 5, .inl (fun _ => 0))), ((u2.1 212), .inl (G.2.1, 5, .inl (fun _ => 0))), ((u2.1 206), .inl (G.2.1, 6, .inl (fun _ => 0))), ((u2.1 5), .inr (9, [.ref (u2.1 4), .int 0, .ref (u2.1 92), .ref (u2.1 93), .ref (u2.1 94)])), ((u2.1 6), .inr (8, [.ref (u2.1 4), .ref (u2.1 96), .ref (u2.1 97)])), ((u2.1 7), .inr (0, [.ref (u2.1 98), .int 0])), ((u2.1 0), .inl (G.2.1, 1800, .inl (fun _ => 0))), ((u2.1 61), .inl (G.2.1, 12, .inl (fun _ => 0))), ((u2.1 65), .inl (G.2.1, 780, .inl u2.2)), ((u2.1 92), .inl (G.2.1, 12, .inl (fun _ => 0))), ((u2.1 93), .inl (G.2.1, 12, .inl (fun _ => 0))), ((u2.1 94), .inl (G.2.1, 5, .inl (fun _ => 0))), ((u2.1 98), .inl (G.2.2.1, 41, .inr (.inl (fun _ => 0)))), ((u2.1 11), .inl (G.2.1, 14, .inl (fun _ => 0))), ((u2.1 13), .inl (G.2.1, 6, .inl (fun _ => 0)))]) (As := []) (rest := [.ref q4]) (b := q4) (k1 := 132) (s1 := 19799) F hK hP hD hS hA (k_X12_init l G q4) kmI_X12_init mlL_12 ⟨(Nat.le_of_ble_eq_true rfl), (Nat.le_of_ble_eq_true rfl)⟩ [30] [0, 1, 2, 3, 4, 5, 6, 7, 8, 9, 10, 11, 12, 13, 14, 15, 16, 17, 18, 19, 20, 21, 22, 23, 24, 25, 26, 27, 28, 29] rfl rfl rfl rfl (by decide) hl.1 rfl (Nat.le_of_ble_eq_true rfl) dL_law_12 ⟨(Nat.le_of_ble_eq_true rfl), (Nat.le_of_ble_eq_true rfl)⟩ rfl rfl (fun u5 H locs hwr6 (hP : va_P G.1 vwCl ((q1, .inr (11, [.ref (u2.1 0), .int 0, .ref (u2.1 2), .ref (u2.1 3), .ref (u2.1 4), .ref (u2.1 5), .ref (u2.1 6), .ref (u2.1 7), .int 0, .int (-1), .long 1, .ref (u2.1 11), .int 0, .ref (u2.1 13)])) :: ((u2.1 2), .inr (2, [.ref (u2.1 100), .ref (u2.1 101), .ref (u2.1 102), .int 0, .ref (u2.1 104), .ref (u2.1 105), .ref (u2.1 106), .int 0, .ref (u2.1 108), .ref (u2.1 109), .ref (u2.1 110), .ref (u2.1 111), .ref (u2.1 112), .int 50])) :: ((u2.1 100), .inr (1, [.int 0, .int 0, .int 0, .ref (u2.1 123), .ref (u2.1 124), .ref (u2.1 125), .ref (u2.1 126), .ref (u2.1 127)])) :: ((u2.1 101), .inr (3, [.int 0, .ref (u2.1 131), .ref (u2.1 132), .ref (u2.1 133), .ref (u2.1 134), .ref (u2.1 135), .ref (u2.1 136), .ref (u2.1 137), .ref (u2.1 138), .ref (u2.1 139), .ref (u2.1 140)])) :: ((u2.1 102), .inr (7, [.int 0, .int 0, .ref (u2.1 152), .ref (u2.1 153), .ref (u2.1 154), .ref (u2.1 155), .ref (u2.1 156), .ref (u2.1 157)])) :: ((u2.1 111), .inl (G.2.1, 5, .inl (fun _ => 0))) :: ((u2.1 112), .inl (G.2.1, 5, .inl (fun _ => 0))) :: ((u2.1 106), .inl (G.2.1, 6, .inl (fun _ => 0))) :: ((u2.1 3), .inr (10, [.ref (u2.1 70), .ref (u2.1 71), .ref (u2.1 2), .int 0])) :: ((u2.1 70), .inr (5, [.ref (u2.1 0), .int 0, .int 0, .int 0, .int 0, .int 0, .int (-1), .int 0, .int (-1), .ref (u2.1 89)])) :: ((u2.1 4), .inr (4, [.ref (u2.1 60), .ref (u2.1 61), .int 0, .int (-1), .int (-1), .ref (u2.1 65)])) :: ((u2.1 60), .inr (2, [.ref (u2.1 200), .ref (u2.1 201), .ref (u2.1 202), .int 0, .ref (u2.1 204), .ref (u2.1 205), .ref (u2.1 206), .int 0, .ref (u2.1 208), .ref (u2.1 209), .ref (u2.1 210), .ref (u2.1 211), .ref (u2.1 212), .int 50])) :: ((u2.1 200), .inr (1, [.int 0, .int 0, .int 0, .ref (u2.1 223), .ref (u2.1 224), .ref (u2.1 225), .ref (u2.1 226), .ref (u2.1 227)])) :: ((u2.1 201), .inr (3, [.int 0, .ref (u2.1 231), .ref (u2.1 232), .ref (u2.1 233), .ref (u2.1 234), .ref (u2.1 235), .ref (u2.1 236), .ref (u2.1 237), .ref (u2.1 238), .ref (u2.1 239), .ref (u2.1 240)])) :: ((u2.1 202), .inr (7, [.int 0, .int 0, .ref (u2.1 252), .ref (u2.1 253), .ref (u2.1 254), .ref (u2.1 255), .ref (u2.1 256), .ref (u2.1 257)])) :: ((u2.1 211), .inl (G.2.1, 5, .inl (fun _ => 0))) :: ((u2.1 212), .inl (G.2.1, 5, .inl (fun _ => 0))) :: ((u2.1 206), .inl (G.2.1, 6, .inl (fun _ => 0))) :: ((u2.1 5), .inr (9, [.ref (u2.1 4), .int 0, .ref (u2.1 92), .ref (u2.1 93), .ref (u2.1 94)])) :: ((u2.1 6), .inr (8, [.ref (u2.1 4), .ref (u2.1 96), .ref (u2.1 97)])) :: ((u2.1 7), .inr (0, [.ref (u2.1 98), .int 0])) :: ((u2.1 0), .inl (G.2.1, 1800, .inl (fun _ => 0))) :: ((u2.1 61), .inl (G.2.1, 12, .inl (fun _ => 0))) :: ((u2.1 65), .inl (G.2.1, 780, .inl u2.2)) :: ((u2.1 92), .inl (G.2.1, 12, .inl (fun _ => 0))) :: ((u2.1 93), .inl (G.2.1, 12, .inl (fun _ => 0))) :: ((u2.1 94), .inl (G.2.1, 5, .inl (fun _ => 0))) :: ((u2.1 98), .inl (G.2.2.1, 41, .inr (.inl (fun _ => 0)))) :: ((u2.1 11), .inl (G.2.1, 14, .inl (fun _ => 0))) :: ((u2.1 13), .inl (G.2.1, 6, .inl (fun _ => 0))) :: (q4, .inr (12, .ref (u5 0) :: .int 0 :: .int 0 :: .int 0 :: .int 0 :: .int 0 :: .int 0 :: .long 0 :: .int 0 :: .int (-1) :: .int 0 :: .int (-1) :: .int 0 :: .ref (u5 13) :: .ref (u5 14) :: .ref (u5 15) :: .ref (u5 16) :: .ref (u5 17) :: .ref (u5 18) :: .ref (u5 19) :: .ref (u5 20) :: .ref (u5 21) :: .ref (u5 22) :: .ref (u5 23) :: .ref (u5 24) :: .ref (u5 25) :: .ref (u5 26) :: .ref (u5 27) :: .ref (u5 28) :: .ref (u5 29) :: .ref (u5 30) :: .ref (u5 31) :: .ref (u5 32) :: .ref (u5 33) :: .ref (u5 34) :: .ref (u5 35) :: .ref (u5 36) :: .ref (u5 37) :: .ref (u5 38) :: .ref (u5 39) :: .ref (u5 40) :: .ref (u5 41) :: .ref (u5 42) :: .int 0 :: .int 1 :: .ref (u5 45) :: .ref (u5 46) :: .ref (u5 47) :: .ref (u5 48) :: .ref (u5 49) :: .int 0 :: .int 0 :: .ref (u5 52) :: .int 0 :: .int 0 :: .ref (u5 55) :: .ref (u5 56) :: .ref (u5 57) :: .ref (u5 58) :: .int 0 :: .int 0 :: .int 0 :: .int 0 :: .ref (u5 63) :: .int 0 :: .ref (u5 65) :: .long 1 :: .ref (u5 67) :: .ref (u5 68) :: .int 0 :: [])) :: ((u5 0), .inl (G.2.1, 1800, .inl (fun _ => 0))) :: ((u5 13), .inl (G.2.1, 2, .inl (fun _ => 0))) :: ((u5 18), .inl (G.2.1, 2, .inl (fun _ => 0))) :: ((u5 21), .inl (G.2.1, 2, .inl (fun _ => 0))) :: ((u5 30), .inl (G.2.1, 2, .inl (fun _ => 0))) :: ((u5 34), .inl (G.2.1, 10, .inl (fun _ => 0))) :: ((u5 36), .inl (G.2.1, 2, .inl (upd (fun _ => 0) 0 50))) :: ((u5 37), .inl (G.2.1, 2, .inl (fun _ => 0))) :: ((u5 55), .inl (G.2.1, 6, .inl (fun _ => 0))) :: ((u5 58), .inl (G.2.1, 12, .inl (fun _ => 0))) :: ((u5 63), .inl (G.2.1, 13, .inl (fun _ => 0))) :: ((u5 65), .inl (G.2.2.1, 64, .inr (.inl (fun _ => 0)))) :: ((u5 67), .inl (G.2.1, 12, .inl (fun _ => 0))) :: ((u5 68), .inl (G.2.1, 16, .inl (fun _ => 0))) :: []) H) (hD : va_D A ((q1, .inr (11, [.ref (u2.1 0), .int 0, .ref (u2.1 2), .ref (u2.1 3), .ref (u2.1 4), .ref (u2.1 5), .ref (u2.1 6), .ref (u2.1 7), .int 0, .int (-1), .long 1, .ref (u2.1 11), .int 0, .ref (u2.1 13)])) :: ((u2.1 2), .inr (2, [.ref (u2.1 100), .ref (u2.1 101), .ref (u2.1 102), .int 0, .ref (u2.1 104), .ref (u2.1 105), .ref (u2.1 106), .int 0, .ref (u2.1 108), .ref (u2.1 109), .ref (u2.1 110), .ref (u2.1 111), .ref (u2.1 112), .int 50])) :: ((u2.1 100), .inr (1, [.int 0, .int 0, .int 0, .ref (u2.1 123), .ref (u2.1 124), .ref (u2.1 125), .ref (u2.1 126), .ref (u2.1 127)])) :: ((u2.1 101), .inr (3, [.int 0, .ref (u2.1 131), .ref (u2.1 132), .ref (u2.1 133), .ref (u2.1 134), .ref (u2.1 135), .ref (u2.1 136), .ref (u2.1 137), .ref (u2.1 138), .ref (u2.1 139), .ref (u2.1 140)])) :: ((u2.1 102), .inr (7, [.int 0, .int 0, .ref (u2.1 152), .ref (u2.1 153), .ref (u2.1 154), .ref (u2.1 155), .ref (u2.1 156), .ref (u2.1 157)])) :: ((u2.1 111), .inl (G.2.1, 5, .inl (fun _ => 0))) :: ((u2.1 112), .inl (G.2.1, 5, .inl (fun _ => 0))) :: ((u2.1 106), .inl (G.2.1, 6, .inl (fun _ => 0))) :: ((u2.1 3), .inr (10, [.ref (u2.1 70), .ref (u2.1 71), .ref (u2.1 2), .int 0])) :: ((u2.1 70), .inr (5, [.ref (u2.1 0), .int 0, .int 0, .int 0, .int 0, .int 0, .int (-1), .int 0, .int (-1), .ref (u2.1 89)])) :: ((u2.1 4), .inr (4, [.ref (u2.1 60), .ref (u2.1 61), .int 0, .int (-1), .int (-1), .ref (u2.1 65)])) :: ((u2.1 60), .inr (2, [.ref (u2.1 200), .ref (u2.1 201), .ref (u2.1 202), .int 0, .ref (u2.1 204), .ref (u2.1 205), .ref (u2.1 206), .int 0, .ref (u2.1 208), .ref (u2.1 209), .ref (u2.1 210), .ref (u2.1 211), .ref (u2.1 212), .int 50])) :: ((u2.1 200), .inr (1, [.int 0, .int 0, .int 0, .ref (u2.1 223), .ref (u2.1 224), .ref (u2.1 225), .ref (u2.1 226), .ref (u2.1 227)])) :: ((u2.1 201), .inr (3, [.int 0, .ref (u2.1 231), .ref (u2.1 232), .ref (u2.1 233), .ref (u2.1 234), .ref (u2.1 235), .ref (u2.1 236), .ref (u2.1 237), .ref (u2.1 238), .ref (u2.1 239), .ref (u2.1 240)])) :: ((u2.1 202), .inr (7, [.int 0, .int 0, .ref (u2.1 252), .ref (u2.1 253), .ref (u2.1 254), .ref (u2.1 255), .ref (u2.1 256), .ref (u2.1 257)])) :: ((u2.1 211), .inl (G.2.1, 5, .inl (fun _ => 0))) :: ((u2.1 212), .inl (G.2.1, 5, .inl (fun _ => 0))) :: ((u2.1 206), .inl (G.2.1, 6, .inl (fun _ => 0))) :: ((u2.1 5), .inr (9, [.ref (u2.1 4), .int 0, .ref (u2.1 92), .ref (u2.1 93), .ref (u2.1 94)])) :: ((u2.1 6), .inr (8, [.ref (u2.1 4), .ref (u2.1 96), .ref (u2.1 97)])) :: ((u2.1 7), .inr (0, [.ref (u2.1 98), .int 0])) :: ((u2.1 0), .inl (G.2.1, 1800, .inl (fun _ => 0))) :: ((u2.1 61), .inl (G.2.1, 12, .inl (fun _ => 0))) :: ((u2.1 65), .inl (G.2.1, 780, .inl u2.2)) :: ((u2.1 92), .inl (G.2.1, 12, .inl (fun _ => 0))) :: ((u2.1 93), .inl (G.2.1, 12, .inl (fun _ => 0))) :: ((u2.1 94), .inl (G.2.1, 5, .inl (fun _ => 0))) :: ((u2.1 98), .inl (G.2.2.1, 41, .inr (.inl (fun _ => 0)))) :: ((u2.1 11), .inl (G.2.1, 14, .inl (fun _ => 0))) :: ((u2.1 13), .inl (G.2.1, 6, .inl (fun _ => 0))) :: (q4, .inr (12, .ref (u5 0) :: .int 0 :: .int 0 :: .int 0 :: .int 0 :: .int 0 :: .int 0 :: .long 0 :: .int 0 :: .int (-1) :: .int 0 :: .int (-1) :: .int 0 :: .ref (u5 13) :: .ref (u5 14) :: .ref (u5 15) :: .ref (u5 16) :: .ref (u5 17) :: .ref (u5 18) :: .ref (u5 19) :: .ref (u5 20) :: .ref (u5 21) :: .ref (u5 22) :: .ref (u5 23) :: .ref (u5 24) :: .ref (u5 25) :: .ref (u5 26) :: .ref (u5 27) :: .ref (u5 28) :: .ref (u5 29) :: .ref (u5 30) :: .ref (u5 31) :: .ref (u5 32) :: .ref (u5 33) :: .ref (u5 34) :: .ref (u5 35) :: .ref (u5 36) :: .ref (u5 37) :: .ref (u5 38) :: .ref (u5 39) :: .ref (u5 40) :: .ref (u5 41) :: .ref (u5 42) :: .int 0 :: .int 1 :: .ref (u5 45) :: .ref (u5 46) :: .ref (u5 47) :: .ref (u5 48) :: .ref (u5 49) :: .int 0 :: .int 0 :: .ref (u5 52) :: .int 0 :: .int 0 :: .ref (u5 55) :: .ref (u5 56) :: .ref (u5 57) :: .ref (u5 58) :: .int 0 :: .int 0 :: .int 0 :: .int 0 :: .ref (u5 63) :: .int 0 :: .ref (u5 65) :: .long 1 :: .ref (u5 67) :: .ref (u5 68) :: .int 0 :: [])) :: ((u5 0), .inl (G.2.1, 1800, .inl (fun _ => 0))) :: ((u5 13), .inl (G.2.1, 2, .inl (fun _ => 0))) :: ((u5 18), .inl (G.2.1, 2, .inl (fun _ => 0))) :: ((u5 21), .inl (G.2.1, 2, .inl (fun _ => 0))) :: ((u5 30), .inl (G.2.1, 2, .inl (fun _ => 0))) :: ((u5 34), .inl (G.2.1, 10, .inl (fun _ => 0))) :: ((u5 36), .inl (G.2.1, 2, .inl (upd (fun _ => 0) 0 50))) :: ((u5 37), .inl (G.2.1, 2, .inl (fun _ => 0))) :: ((u5 55), .inl (G.2.1, 6, .inl (fun _ => 0))) :: ((u5 58), .inl (G.2.1, 12, .inl (fun _ => 0))) :: ((u5 63), .inl (G.2.1, 13, .inl (fun _ => 0))) :: ((u5 65), .inl (G.2.2.1, 64, .inr (.inl (fun _ => 0)))) :: ((u5 67), .inl (G.2.1, 12, .inl (fun _ => 0))) :: ((u5 68), .inl (G.2.1, 16, .inl (fun _ => 0))) :: [])) hS => ?_)
  refine lv_astore_n (lv' := [(2, .ref q4), (1, .ref q1), (0, .ref b)]) hx hb dL_law_15 rfl hl (by decide) rfl (fun ls hl => ?_)
  refine lv_iconst (v := 0) hx hb dL_law_16 (by decide) ?_
  refine lv_istore_n (lv' := [(3, .int 0), (2, .ref q4), (1, .ref q1), (0, .ref b)]) hx hb dL_law_17 rfl hl (by decide) rfl (fun ls hl => ?_)
  refine lv_iload_n hx hb dL_law_18 rfl (lv_at hl 0 rfl) ?_
  refine lv_aload_n hx hb dL_law_19 rfl (lv_at hl 3 rfl) ?_
  refine va_slen hx hb hX hbl hbA hS dL_law_20 ?_
  by_cases hL6 : L = 6
  · subst hL6
    refine cst_i (y := 6) (by decide +kernel) ?_
    refine lv_bipush (v := 6) hx hb dL_law_21 (by decide) ?_
    refine lv_isub hx hb dL_law_23 ?_
    refine cst_i (y := 0) (by decide +kernel) ?_
    refine lv_icmp_gt (tgt := 1269) hx hb dL_law_24 (by decide) (fun h_ => absurd h_ (by decide +kernel)) (fun _ => ?_)
    refine lv_aload_n hx hb dL_law_27 rfl (lv_at hl 3 rfl) ?_
    refine lv_iload_n hx hb dL_law_28 rfl (lv_at hl 0 rfl) ?_
    refine va_sld hx hb hX hbl hbA hS (vin (by decide +kernel)) dL_law_29 ?_
    refine cst_i (y := (xs 0)) rfl ?_
    refine lv_bipush (v := 63) hx hb dL_law_30 (by decide) ?_
    refine lv_iand hx hb dL_law_32 ?_
    refine lv_topi (fun x7 ex7 => ?_)
    by_cases h8 : x7 = 0
    · subst h8
      refine lv_tableIn (off := 179) (tgt := 212) hx hb dL_law_33 (by decide) (by decide) rfl (by decide) ?_
      exact law_op0 G q1 q4 u2 u5 F hr hlk hK hA hAA hbA hX hbl hP hD hS (lv_sub hl [0, 1, 2, 3] rfl)
    by_cases h9 : x7 = 1
    · subst h9
      refine lv_tableIn (off := 242) (tgt := 275) hx hb dL_law_33 (by decide) (by decide) rfl (by decide) ?_
      exact law_op1 G q1 q4 u2 u5 F hr hlk hK hA hAA hbA hX hbl hP hD hS (lv_sub hl [0, 1, 2, 3] rfl)
    by_cases h10 : x7 = 2
    · subst h10
      refine lv_tableIn (off := 265) (tgt := 298) hx hb dL_law_33 (by decide) (by decide) rfl (by decide) ?_
      exact law_op2 G q1 q4 u2 u5 F hr hlk hK hA hAA hbA hX hbl hP hD hS (lv_sub hl [0, 1, 2, 3] rfl)
    by_cases h11 : x7 = 3
    · subst h11
      refine lv_tableIn (off := 278) (tgt := 311) hx hb dL_law_33 (by decide) (by decide) rfl (by decide) ?_
      exact law_op3 G q1 q4 u2 u5 F hr hlk hK hA hAA hbA hX hbl hP hD hS (lv_sub hl [0, 1, 2, 3] rfl)
    by_cases h12 : x7 = 4
    · subst h12
      refine lv_tableIn (off := 301) (tgt := 334) hx hb dL_law_33 (by decide) (by decide) rfl (by decide) ?_
      exact law_op4 G q1 q4 u2 u5 F hr hlk hK hA hAA hbA hX hbl hP hD hS (lv_sub hl [0, 1, 2, 3] rfl)
    by_cases h13 : x7 = 5
    · subst h13
      refine lv_tableIn (off := 324) (tgt := 357) hx hb dL_law_33 (by decide) (by decide) rfl (by decide) ?_
      exact law_op5 G q1 q4 u2 u5 F hr hlk hK hA hAA hbA hX hbl hP hD hS (lv_sub hl [0, 1, 2, 3] rfl)
    by_cases h14 : x7 = 6
    · subst h14
      refine lv_tableIn (off := 367) (tgt := 400) hx hb dL_law_33 (by decide) (by decide) rfl (by decide) ?_
      exact law_op6 G q1 q4 u2 u5 F hr hlk hK hA hAA hbA hX hbl hP hD hS (lv_sub hl [0, 1, 2, 3] rfl)
    by_cases h15 : x7 = 7
    · subst h15
      refine lv_tableIn (off := 400) (tgt := 433) hx hb dL_law_33 (by decide) (by decide) rfl (by decide) ?_
      exact law_op7 G q1 q4 u2 u5 F hr hlk hK hA hAA hbA hX hbl hP hD hS (lv_sub hl [0, 1, 2, 3] rfl)
    by_cases h16 : x7 = 8
    · subst h16
      refine lv_tableIn (off := 433) (tgt := 466) hx hb dL_law_33 (by decide) (by decide) rfl (by decide) ?_
      exact law_op8 G q1 q4 u2 u5 F hr hlk hK hA hAA hbA hX hbl hP hD hS (lv_sub hl [0, 1, 2, 3] rfl)
    by_cases h17 : x7 = 9
    · subst h17
      refine lv_tableIn (off := 466) (tgt := 499) hx hb dL_law_33 (by decide) (by decide) rfl (by decide) ?_
      exact law_op9 G q1 q4 u2 u5 F hr hlk hK hA hAA hbA hX hbl hP hD hS (lv_sub hl [0, 1, 2, 3] rfl)
    by_cases h18 : x7 = 10
    · subst h18
      refine lv_tableIn (off := 479) (tgt := 512) hx hb dL_law_33 (by decide) (by decide) rfl (by decide) ?_
      exact law_op10 G q1 q4 u2 u5 F hr hlk hK hA hAA hbA hX hbl hP hD hS (lv_sub hl [0, 1, 2, 3] rfl)
    by_cases h19 : x7 = 11
    · subst h19
      refine lv_tableIn (off := 512) (tgt := 545) hx hb dL_law_33 (by decide) (by decide) rfl (by decide) ?_
      exact law_op11 G q1 q4 u2 u5 F hr hlk hK hA hAA hbA hX hbl hP hD hS (lv_sub hl [0, 1, 2, 3] rfl)
    by_cases h20 : x7 = 12
    · subst h20
      refine lv_tableIn (off := 535) (tgt := 568) hx hb dL_law_33 (by decide) (by decide) rfl (by decide) ?_
      exact law_op12 G q1 q4 u2 u5 F hr hlk hK hA hAA hbA hX hbl hP hD hS (lv_sub hl [0, 1, 2, 3] rfl)
    by_cases h21 : x7 = 13
    · subst h21
      refine lv_tableIn (off := 558) (tgt := 591) hx hb dL_law_33 (by decide) (by decide) rfl (by decide) ?_
      exact law_op13 G q1 q4 u2 u5 F hr hlk hK hA hAA hbA hX hbl hP hD hS (lv_sub hl [0, 1, 2, 3] rfl)
    by_cases h22 : x7 = 14
    · subst h22
      refine lv_tableIn (off := 571) (tgt := 604) hx hb dL_law_33 (by decide) (by decide) rfl (by decide) ?_
      exact law_op14 G q1 q4 u2 u5 F hr hlk hK hA hAA hbA hX hbl hP hD hS (lv_sub hl [0, 1, 2, 3] rfl)
    by_cases h23 : x7 = 15
    · subst h23
      refine lv_tableIn (off := 584) (tgt := 617) hx hb dL_law_33 (by decide) (by decide) rfl (by decide) ?_
      exact law_op15 G q1 q4 u2 u5 F hr hlk hK hA hAA hbA hX hbl hP hD hS (lv_sub hl [0, 1, 2, 3] rfl)
    by_cases h24 : x7 = 16
    · subst h24
      refine lv_tableIn (off := 597) (tgt := 630) hx hb dL_law_33 (by decide) (by decide) rfl (by decide) ?_
      exact law_op16 G q1 q4 u2 u5 F hr hlk hK hA hAA hbA hX hbl hP hD hS (lv_sub hl [0, 1, 2, 3] rfl)
    by_cases h25 : x7 = 17
    · subst h25
      refine lv_tableIn (off := 610) (tgt := 643) hx hb dL_law_33 (by decide) (by decide) rfl (by decide) ?_
      exact law_op17 G q1 q4 u2 u5 F hr hlk hK hA hAA hbA hX hbl hP hD hS (lv_sub hl [0, 1, 2, 3] rfl)
    by_cases h26 : x7 = 18
    · subst h26
      refine lv_tableIn (off := 633) (tgt := 666) hx hb dL_law_33 (by decide) (by decide) rfl (by decide) ?_
      exact law_op18 G q1 q4 u2 u5 F hr hlk hK hA hAA hbA hX hbl hP hD hS (lv_sub hl [0, 1, 2, 3] rfl)
    by_cases h27 : x7 = 19
    · subst h27
      refine lv_tableIn (off := 666) (tgt := 699) hx hb dL_law_33 (by decide) (by decide) rfl (by decide) ?_
      exact law_op19 G q1 q4 u2 u5 F hr hlk hK hA hAA hbA hX hbl hP hD hS (lv_sub hl [0, 1, 2, 3] rfl)
    by_cases h28 : x7 = 20
    · subst h28
      refine lv_tableIn (off := 699) (tgt := 732) hx hb dL_law_33 (by decide) (by decide) rfl (by decide) ?_
      exact law_op20 G q1 q4 u2 u5 F hr hlk hK hA hAA hbA hX hbl hP hD hS (lv_sub hl [0, 1, 2, 3] rfl)
    by_cases h29 : x7 = 21
    · subst h29
      refine lv_tableIn (off := 722) (tgt := 755) hx hb dL_law_33 (by decide) (by decide) rfl (by decide) ?_
      exact law_op21 G q1 q4 u2 u5 F hr hlk hK hA hAA hbA hX hbl hP hD hS (lv_sub hl [0, 1, 2, 3] rfl)
    by_cases h30 : x7 = 22
    · subst h30
      refine lv_tableIn (off := 761) (tgt := 794) hx hb dL_law_33 (by decide) (by decide) rfl (by decide) ?_
      exact law_op22 G q1 q4 u2 u5 F hr hlk hK hA hAA hbA hX hbl hP hD hS (lv_sub hl [0, 1, 2, 3] rfl)
    by_cases h31 : x7 = 23
    · subst h31
      refine lv_tableIn (off := 795) (tgt := 828) hx hb dL_law_33 (by decide) (by decide) rfl (by decide) ?_
      exact law_op23 G q1 q4 u2 u5 F hr hlk hK hA hAA hbA hX hbl hP hD hS (lv_sub hl [0, 1, 2, 3] rfl)
    by_cases h32 : x7 = 24
    · subst h32
      refine lv_tableIn (off := 828) (tgt := 861) hx hb dL_law_33 (by decide) (by decide) rfl (by decide) ?_
      exact law_op24 G q1 q4 u2 u5 F hr hlk hK hA hAA hbA hX hbl hP hD hS (lv_sub hl [0, 1, 2, 3] rfl)
    by_cases h33 : x7 = 25
    · subst h33
      refine lv_tableIn (off := 871) (tgt := 904) hx hb dL_law_33 (by decide) (by decide) rfl (by decide) ?_
      exact law_op25 G q1 q4 u2 u5 F hr hlk hK hA hAA hbA hX hbl hP hD hS (lv_sub hl [0, 1, 2, 3] rfl)
    by_cases h34 : x7 = 26
    · subst h34
      refine lv_tableIn (off := 895) (tgt := 928) hx hb dL_law_33 (by decide) (by decide) rfl (by decide) ?_
      exact law_op26 G q1 q4 u2 u5 F hr hlk hK hA hAA hbA hX hbl hP hD hS (lv_sub hl [0, 1, 2, 3] rfl)
    by_cases h35 : x7 = 27
    · subst h35
      refine lv_tableIn (off := 918) (tgt := 951) hx hb dL_law_33 (by decide) (by decide) rfl (by decide) ?_
      exact law_op27 G q1 q4 u2 u5 F hr hlk hK hA hAA hbA hX hbl hP hD hS (lv_sub hl [0, 1, 2, 3] rfl)
    by_cases h36 : x7 = 28
    · subst h36
      refine lv_tableIn (off := 941) (tgt := 974) hx hb dL_law_33 (by decide) (by decide) rfl (by decide) ?_
      exact law_op28 G q1 q4 u2 u5 F hr hlk hK hA hAA hbA hX hbl hP hD hS (lv_sub hl [0, 1, 2, 3] rfl)
    by_cases h37 : x7 = 29
    · subst h37
      refine lv_tableIn (off := 964) (tgt := 997) hx hb dL_law_33 (by decide) (by decide) rfl (by decide) ?_
      exact law_op29 G q1 q4 u2 u5 F hr hlk hK hA hAA hbA hX hbl hP hD hS (lv_sub hl [0, 1, 2, 3] rfl)
    by_cases h38 : x7 = 30
    · subst h38
      refine lv_tableIn (off := 987) (tgt := 1020) hx hb dL_law_33 (by decide) (by decide) rfl (by decide) ?_
      exact law_op30 G q1 q4 u2 u5 F hr hlk hK hA hAA hbA hX hbl hP hD hS (lv_sub hl [0, 1, 2, 3] rfl)
    by_cases h39 : x7 = 31
    · subst h39
      refine lv_tableIn (off := 1020) (tgt := 1053) hx hb dL_law_33 (by decide) (by decide) rfl (by decide) ?_
      exact law_op31 G q1 q4 u2 u5 F hr hlk hK hA hAA hbA hX hbl hP hD hS (lv_sub hl [0, 1, 2, 3] rfl)
    by_cases h40 : x7 = 32
    · subst h40
      refine lv_tableIn (off := 1053) (tgt := 1086) hx hb dL_law_33 (by decide) (by decide) rfl (by decide) ?_
      exact law_op32 G q1 q4 u2 u5 F hr hlk hK hA hAA hbA hX hbl hP hD hS (lv_sub hl [0, 1, 2, 3] rfl)
    by_cases h41 : x7 = 33
    · subst h41
      refine lv_tableIn (off := 1076) (tgt := 1109) hx hb dL_law_33 (by decide) (by decide) rfl (by decide) ?_
      exact law_op33 G q1 q4 u2 u5 F hr hlk hK hA hAA hbA hX hbl hP hD hS (lv_sub hl [0, 1, 2, 3] rfl)
    by_cases h42 : x7 = 34
    · subst h42
      refine lv_tableIn (off := 1099) (tgt := 1132) hx hb dL_law_33 (by decide) (by decide) rfl (by decide) ?_
      exact law_op34 G q1 q4 u2 u5 F hr hlk hK hA hAA hbA hX hbl hP hD hS (lv_sub hl [0, 1, 2, 3] rfl)
    by_cases h43 : x7 = 35
    · subst h43
      refine lv_tableIn (off := 1112) (tgt := 1145) hx hb dL_law_33 (by decide) (by decide) rfl (by decide) ?_
      exact law_op35 G q1 q4 u2 u5 F hr hlk hK hA hAA hbA hX hbl hP hD hS (lv_sub hl [0, 1, 2, 3] rfl)
    by_cases h44 : x7 = 36
    · subst h44
      refine lv_tableIn (off := 1135) (tgt := 1168) hx hb dL_law_33 (by decide) (by decide) rfl (by decide) ?_
      exact law_op36 G q1 q4 u2 u5 F hr hlk hK hA hAA hbA hX hbl hP hD hS (lv_sub hl [0, 1, 2, 3] rfl)
    by_cases h45 : x7 = 37
    · subst h45
      refine lv_tableIn (off := 1158) (tgt := 1191) hx hb dL_law_33 (by decide) (by decide) rfl (by decide) ?_
      exact law_op37 G q1 q4 u2 u5 F hr hlk hK hA hAA hbA hX hbl hP hD hS (lv_sub hl [0, 1, 2, 3] rfl)
    by_cases h46 : x7 = 38
    · subst h46
      refine lv_tableIn (off := 1171) (tgt := 1204) hx hb dL_law_33 (by decide) (by decide) rfl (by decide) ?_
      exact law_op38 G q1 q4 u2 u5 F hr hlk hK hA hAA hbA hX hbl hP hD hS (lv_sub hl [0, 1, 2, 3] rfl)
    by_cases h47 : x7 = 39
    · subst h47
      refine lv_tableIn (off := 1194) (tgt := 1227) hx hb dL_law_33 (by decide) (by decide) rfl (by decide) ?_
      exact law_op39 G q1 q4 u2 u5 F hr hlk hK hA hAA hbA hX hbl hP hD hS (lv_sub hl [0, 1, 2, 3] rfl)
    by_cases h48 : x7 = 40
    · subst h48
      refine lv_tableIn (off := 1207) (tgt := 1240) hx hb dL_law_33 (by decide) (by decide) rfl (by decide) ?_
      exact law_op40 G q1 q4 u2 u5 F hr hlk hK hA hAA hbA hX hbl hP hD hS (lv_sub hl [0, 1, 2, 3] rfl)
    refine lv_tableOut (tgt := 1263) hx hb dL_law_33 (by have gh8 := lv_neT h8 (a := 0) rfl; have gh9 := lv_neT h9 (a := 1) rfl; have gh10 := lv_neT h10 (a := 2) rfl; have gh11 := lv_neT h11 (a := 3) rfl; have gh12 := lv_neT h12 (a := 4) rfl; have gh13 := lv_neT h13 (a := 5) rfl; have gh14 := lv_neT h14 (a := 6) rfl; have gh15 := lv_neT h15 (a := 7) rfl; have gh16 := lv_neT h16 (a := 8) rfl; have gh17 := lv_neT h17 (a := 9) rfl; have gh18 := lv_neT h18 (a := 10) rfl; have gh19 := lv_neT h19 (a := 11) rfl; have gh20 := lv_neT h20 (a := 12) rfl; have gh21 := lv_neT h21 (a := 13) rfl; have gh22 := lv_neT h22 (a := 14) rfl; have gh23 := lv_neT h23 (a := 15) rfl; have gh24 := lv_neT h24 (a := 16) rfl; have gh25 := lv_neT h25 (a := 17) rfl; have gh26 := lv_neT h26 (a := 18) rfl; have gh27 := lv_neT h27 (a := 19) rfl; have gh28 := lv_neT h28 (a := 20) rfl; have gh29 := lv_neT h29 (a := 21) rfl; have gh30 := lv_neT h30 (a := 22) rfl; have gh31 := lv_neT h31 (a := 23) rfl; have gh32 := lv_neT h32 (a := 24) rfl; have gh33 := lv_neT h33 (a := 25) rfl; have gh34 := lv_neT h34 (a := 26) rfl; have gh35 := lv_neT h35 (a := 27) rfl; have gh36 := lv_neT h36 (a := 28) rfl; have gh37 := lv_neT h37 (a := 29) rfl; have gh38 := lv_neT h38 (a := 30) rfl; have gh39 := lv_neT h39 (a := 31) rfl; have gh40 := lv_neT h40 (a := 32) rfl; have gh41 := lv_neT h41 (a := 33) rfl; have gh42 := lv_neT h42 (a := 34) rfl; have gh43 := lv_neT h43 (a := 35) rfl; have gh44 := lv_neT h44 (a := 36) rfl; have gh45 := lv_neT h45 (a := 37) rfl; have gh46 := lv_neT h46 (a := 38) rfl; have gh47 := lv_neT h47 (a := 39) rfl; have gh48 := lv_neT h48 (a := 40) rfl; omega) (by decide) ?_
    exact law_end F hr hlk hX hbl hbA hAA hS (lv_sub hl [0, 3] rfl) (Nat.le_of_ble_eq_true rfl) (Nat.le_of_ble_eq_true rfl)
  · refine lv_bipush (v := 6) hx hb dL_law_21 (by decide) ?_
    refine lv_isub hx hb dL_law_23 ?_
    refine lv_icmp_gt (tgt := 1269) hx hb dL_law_24 (by decide) (fun _ => ?_) (fun h_ => absurd (show nI L - nI 6 < 0 from pk_sneg (by decide) (by omega)) h_)
    exact law_fin F hr hlk hAA hS (Nat.le_of_ble_eq_true rfl) (Nat.le_of_ble_eq_true rfl)
