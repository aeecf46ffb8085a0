/-! the reader of a rule between two signs (RS), ahead of the next sign (RM), behind joins (JD); what is kept of the code (KE) -/
theorem cl_eq {x y : Int32} (h : x.toInt = y.toInt) : Int32.toNatClampNeg x = Int32.toNatClampNeg y := congrArg _ (Int32.toInt_inj.mp h)
theorem cl_s {x y : Int32} (h : x.toInt = y.toInt + 1) (h0 : 0 ≤ y.toInt) : Int32.toNatClampNeg x = Int32.toNatClampNeg y + 1 := by
  have c1 := clamp_nn (x := x) (by omega)
  have c2 := clamp_nn (x := y) (by omega)
  omega
theorem cl_n {x : Int32} {d : Nat} (e : x.toInt = (d : Int)) : Int32.toNatClampNeg x = d := by
  have c := clamp_nn (x := x) (by omega)
  omega
theorem at_cl {f : Nat → Int32} {x : Int32} {d : Nat} {v : Int} (h : (f (Int32.toNatClampNeg x)).toInt = v) (e : x.toInt = (d : Int)) : (f d).toInt = v := by
  rw [← cl_n e]
  exact h
theorem fits01 {v : Int32} (h : (0 : Int) ≤ v.toInt ∧ v.toInt ≤ 1) : fits .boolean (.int v) = true := by
  rcases (show v.toInt = 0 ∨ v.toInt = 1 by omega) with q | q
  · rw [show v = 0 from Int32.toInt_inj.mp q]; rfl
  · rw [show v = 1 from Int32.toInt_inj.mp q]; rfl
theorem ti_eq {x y : Int32} {v : Int} (h : x.toInt = v) (e : y.toInt = v) : x = y := Int32.toInt_inj.mp (h.trans e.symm)
def RX (a od : Nat) (I : Nat → Int32) (R : Nat → Nat → Int32) (d n : Nat) : Prop :=
  (I 13).toInt = (d : Int) + 1 ∧ (I 14).toInt = (d : Int) ∧ 1800 * (I 12).toInt + (I 11).toInt = (a : Int) + (n : Int) ∧ RB d (Int32.toNatClampNeg (I 15)) n a od (R 28) (R 29) (R 30) (R 31) (R 32) (R 33) (R 26)
def nN (I : Nat → Int32) (R : Nat → Nat → Int32) : Int := ((nNn (R 33) (Int32.toNatClampNeg (I 15)) : Nat) : Int)
theorem nN_eq {I I' : Nat → Int32} {R R' : Nat → Nat → Int32} (e : (I' 15).toInt = (I 15).toInt) (r : R' 33 = R 33) : nN I' R' = nN I R := by
  unfold nN
  rw [cl_eq e, r]
def BY (I : Nat → Int32) (R : Nat → Nat → Int32) : Prop :=
  (I 11).toInt + (I 15).toInt + (I 13).toInt ≤ (I 3).toInt ∧ 4 * nN I R ≤ (I 3).toInt + 1 ∧ (((I 2).toInt = 1 ∨ (I 2).toInt = 2) → 4 * nN I R ≤ (I 3).toInt)
def RS (a od : Nat) (I : Nat → Int32) (w : Int64) (R : Nat → Nat → Int32) : Prop :=
  (I 6).toInt = 0 → ∃ d n : Nat, RX a od I R d n ∧ TL I (R 0) ∧ WB I w ∧ BY I R
def RM (a od : Nat) (I : Nat → Int32) (R : Nat → Nat → Int32) : Prop :=
  ∃ d n : Nat, RX a od I R d n ∧ (I 11).toInt + (I 15).toInt + (I 13).toInt ≤ (I 4).toInt ∧ (4 * nN I R ≤ (I 4).toInt ∨ (4 * nN I R ≤ (I 4).toInt + 1 ∧ (I 2).toInt = 1 ∧ TL I (R 0)))
def JD (a d k : Nat) (I : Nat → Int32) (R : Nat → Nat → Int32) : Prop :=
  ∃ n : Nat, RX a 1 I R d n ∧ (∀ i : Nat, Int32.toNatClampNeg (R 32 d) ≤ i → i < Int32.toNatClampNeg (I 15) → rkV (R 33 i) < k) ∧ Int32.toNatClampNeg (R 32 d) ≤ Int32.toNatClampNeg (I 15) ∧ BY I R
def EN (a : Nat) (I : Nat → Int32) (R : Nat → Nat → Int32) : Prop :=
  (I 6).toInt = 0 → (I 11).toInt ≤ (I 3).toInt ∧ ∃ n : Nat, 1800 * (I 12).toInt + (I 11).toInt = (a : Int) + (n : Int) ∧ Seg (R 26) a n
def KE (I : Nat → Int32) (f : Nat → Int32) (I' : Nat → Int32) (f' : Nat → Int32) : Prop :=
  (I' 12).toInt = (I 12).toInt ∧ (I 11).toInt ≤ (I' 11).toInt ∧ ∀ j : Nat, ((j : Int) < 1800 * (I 12).toInt + (I 11).toInt ∨ 1800 * (I 12).toInt + 1800 ≤ (j : Int)) → f' j = f j
theorem ke_rf (I : Nat → Int32) (f : Nat → Int32) : KE I f I f := ⟨rfl, Int.le_refl _, fun _ _ => rfl⟩
theorem ke_tr {I J K f g h : Nat → Int32} (h1 : KE I f J g) (h2 : KE J g K h) : KE I f K h := by
  obtain ⟨a1, a2, a3⟩ := h1
  obtain ⟨b1, b2, b3⟩ := h2
  refine ⟨b1.trans a1, Int.le_trans a2 b2, fun j hj => (b3 j ?_).trans (a3 j hj)⟩
  rw [a1]
  omega
theorem ke_sm {I J K f g h : Nat → Int32} (h1 : KE I f J g) (e1 : (K 12).toInt = (J 12).toInt) (e2 : (K 11).toInt = (J 11).toInt) (e3 : h = g) : KE I f K h :=
  ke_tr h1 ⟨e1, Int.le_of_eq e2.symm, fun j _ => congrFun e3 j⟩
theorem ke_add {I J K f g h : Nat → Int32} {v : Int32} (h1 : KE I f J g) (e1 : (K 12).toInt = (J 12).toInt) (e2 : (K 11).toInt = (J 11).toInt + 1) (e3 : h = upd g (1800 * (J 12).toInt + (J 11).toInt).toNat v) (r : 0 ≤ (J 12).toInt ∧ 0 ≤ (J 11).toInt ∧ (J 11).toInt ≤ 1799) : KE I f K h :=
  ke_tr h1 ⟨e1, by omega, fun j hj => by rw [e3]; exact up_off g v (by omega)⟩
theorem tl_sm {I I' f f' : Nat → Int32} (h : TL I f) (e2 : (I' 2).toInt = (I 2).toInt) (e4 : (I' 4).toInt = (I 4).toInt) (e : f' = f) : TL I' f' := by
  intro q k hk
  rw [e]
  exact h (by omega) k (by omega)
theorem wb_sm {I I' : Nat → Int32} {w w' : Int64} (h : WB I w) (e2 : (I' 2).toInt = (I 2).toInt) (e3 : (I' 3).toInt = (I 3).toInt) (e4 : (I' 4).toInt = (I 4).toInt) (e : w' = w) : WB I' w' := by
  intro q z
  have := h (by omega) (by rw [← e]; exact z)
  omega
theorem rb_cg {d om om' n a od : Nat} {fr ph bg pr bs op cs fr' ph' bg' pr' bs' op' cs' : Nat → Int32} (h : RB d om n a od fr ph bg pr bs op cs) (e : om' = om) (e1 : fr' = fr) (e2 : ph' = ph) (e3 : bg' = bg) (e4 : pr' = pr) (e5 : bs' = bs) (e6 : op' = op) (e7 : cs' = cs) : RB d om' n a od fr' ph' bg' pr' bs' op' cs' := by
  subst e e1 e2 e3 e4 e5 e6 e7
  exact h
theorem rx_many {a od d n : Nat} {I : Nat → Int32} {R : Nat → Nat → Int32} (h : RX a od I R d n) (h8 : (I 14).toInt ≤ 8) (h4 : 4 * nN I R ≤ 1801) (h0 : 0 ≤ (I 15).toInt) : (I 15).toInt ≤ 495 := by
  obtain ⟨-, x2, -, x4⟩ := h
  have := rb_many x4
  have c := clamp_nn (x := I 15) h0
  unfold nN at h4
  omega
theorem rs_ahead {a od : Nat} {I I' : Nat → Int32} {R R' : Nat → Nat → Int32} {w : Int64} (h : RM a od I R) (tI : SmF ([2, 3, 4, 5, 6, 7] : List Nat) I I') (tR : SmF ([] : List Nat) R R') (f0 : (I 4).toInt ≤ (I' 3).toInt) (f1 : TL I' (R 0)) (f2 : WB I' w) (f3 : TL I (R 0) → (I 2).toInt = 1 → (I' 6).toInt = 0 → ((I' 2).toInt = 1 ∨ (I' 2).toInt = 2) → (I 4).toInt + 1 ≤ (I' 3).toInt) : RS a od I' w R' := by
  intro hf
  obtain ⟨d, n, ⟨x1, x2, x3, x4⟩, b1, b2⟩ := h
  have e11 : I' 11 = I 11 := tI 11 rfl
  have e12 : I' 12 = I 12 := tI 12 rfl
  have e13 : I' 13 = I 13 := tI 13 rfl
  have e14 : I' 14 = I 14 := tI 14 rfl
  have e15 : I' 15 = I 15 := tI 15 rfl
  have en : nN I' R' = nN I R := nN_eq (congrArg Int32.toInt e15) (tR 33 rfl)
  refine ⟨d, n, ⟨by rw [e13]; exact x1, by rw [e14]; exact x2, by rw [e12, e11]; exact x3, rb_cg x4 (by rw [e15]) (tR 28 rfl) (tR 29 rfl) (tR 30 rfl) (tR 31 rfl) (tR 32 rfl) (tR 33 rfl) (tR 26 rfl)⟩, by rw [tR 0 rfl]; exact f1, f2, by rw [e11, e15, e13]; omega, ?_, ?_⟩
  · rw [en]
    rcases b2 with q | ⟨q, _, _⟩ <;> omega
  · intro hs
    rw [en]
    rcases b2 with q | ⟨q, q1, q2⟩
    · omega
    · have := f3 q2 q1 hf hs
      omega
section
variable {a d n od : Nat} {I I' : Nat → Int32} {R R' : Nat → Nat → Int32}
theorem rm_not (h : RX a 0 I R d n) (hT : TL I (R 0)) (hB : BY I R) (hs : (I 2).toInt = 1) (he : (I 3).toInt + 3 ≤ (I 4).toInt) (hb : (R 30 d).toInt = 1) (h0 : 0 ≤ (I 15).toInt) (tI : SmF ([15] : List Nat) I I') (tR : SmF ([33] : List Nat) R R') (f0 : (I' 15).toInt = (I 15).toInt + 1) (f1 : R' 33 = upd (R 33) (Int32.toNatClampNeg (I 15)) 22) : RM a 0 I' R' := by
  obtain ⟨x1, x2, x3, x4⟩ := h
  obtain ⟨b1, b2, b3⟩ := hB
  have hb3 := b3 (Or.inl hs)
  have h1 := rb_not x4 (ti_eq hb (y := 1) rfl)
  have ec := cl_s f0 h0
  have e2 : I' 2 = I 2 := tI 2 rfl
  have e4 : I' 4 = I 4 := tI 4 rfl
  have e11 : I' 11 = I 11 := tI 11 rfl
  have e12 : I' 12 = I 12 := tI 12 rfl
  have e13 : I' 13 = I 13 := tI 13 rfl
  have e14 : I' 14 = I 14 := tI 14 rfl
  have en : nN I' R' = nN I R + 1 := by
    unfold nN
    rw [ec, f1, nN_not]
    omega
  refine ⟨d, n, ⟨by rw [e13]; exact x1, by rw [e14]; exact x2, by rw [e12, e11]; exact x3, rb_cg h1 ec (tR 28 rfl) (tR 29 rfl) (tR 30 rfl) (tR 31 rfl) (tR 32 rfl) f1 (tR 26 rfl)⟩, by rw [e11, e13, e4]; omega, Or.inr ⟨by rw [en, e4]; omega, by rw [e2]; exact hs, by rw [tR 0 rfl]; exact tl_sm hT (congrArg _ e2) (congrArg _ e4) rfl⟩⟩
theorem rx_beg (h : RX a 0 I R d n) (e : R' = va_up R 30 (upd (R 30) d 0)) : RX a 0 I R' d n := by
  obtain ⟨x1, x2, x3, x4⟩ := h
  exact ⟨x1, x2, x3, rb_cg (rb_beg0 x4) rfl (up_ne e (by decide)) (up_ne e (by decide)) (by rw [e, va_up_self]) (up_ne e (by decide)) (up_ne e (by decide)) (up_ne e (by decide)) (up_ne e (by decide))⟩
theorem by_sm (h : BY I R) (e2 : (I' 2).toInt = (I 2).toInt) (e3 : (I' 3).toInt = (I 3).toInt) (e11 : (I' 11).toInt = (I 11).toInt) (e13 : (I' 13).toInt = (I 13).toInt) (e15 : (I' 15).toInt = (I 15).toInt) (r : R' 33 = R 33) : BY I' R' := by
  obtain ⟨b1, b2, b3⟩ := h
  have en : nN I' R' = nN I R := nN_eq e15 r
  refine ⟨by omega, by omega, fun q => ?_⟩
  have := b3 (by omega)
  omega
/-- an operand is written; the phase may be set behind it -/
theorem rm_val {R1 : Nat → Nat → Int32} {v : Int32} (h : RX a 0 I R d n) (hB : BY I R) (hb : (R 30 d).toInt = 0) (hs : (I 2).toInt = 1 ∨ (I 2).toInt = 2) (he : (I 3).toInt < (I 4).toInt) (tI : SmF ([11] : List Nat) I I') (tR : SmF ([26, 27] : List Nat) R R') (f0 : (I' 11).toInt = (I 11).toInt + 1) (f1 : R' 26 = upd (R 26) (1800 * (I 12).toInt + (I 11).toInt).toNat v) (hv : v.toInt ≤ 9) (hR : R1 = R' ∨ R1 = va_up R' 29 (upd (R' 29) d 2)) : RM a 1 I' R1 := by
  obtain ⟨x1, x2, x3, x4⟩ := h
  obtain ⟨b1, b2, b3⟩ := hB
  have hb3 := b3 hs
  have h1 := rb_val x4 (ti_eq hb (y := 0) rfl) v hv
  have ei : (1800 * (I 12).toInt + (I 11).toInt).toNat = a + n := by omega
  rw [ei] at f1
  have e4 : I' 4 = I 4 := tI 4 rfl
  have e12 : I' 12 = I 12 := tI 12 rfl
  have e13 : I' 13 = I 13 := tI 13 rfl
  have e14 : I' 14 = I 14 := tI 14 rfl
  have e15 : I' 15 = I 15 := tI 15 rfl
  have h2 : RB d (Int32.toNatClampNeg (I' 15)) (n + 1) a 1 (R' 28) (R' 29) (R' 30) (R' 31) (R' 32) (R' 33) (R' 26) := rb_cg h1 (by rw [e15]) (tR 28 rfl) (tR 29 rfl) (tR 30 rfl) (tR 31 rfl) (tR 32 rfl) (tR 33 rfl) f1
  have h3 : RB d (Int32.toNatClampNeg (I' 15)) (n + 1) a 1 (R1 28) (R1 29) (R1 30) (R1 31) (R1 32) (R1 33) (R1 26) ∧ R1 33 = R 33 := by
    rcases hR with e | e
    · rw [e]
      exact ⟨h2, tR 33 rfl⟩
    · exact ⟨rb_cg (rb_ph h2 2 (by decide)) rfl (up_ne e (by decide)) (by rw [e, va_up_self]) (up_ne e (by decide)) (up_ne e (by decide)) (up_ne e (by decide)) (up_ne e (by decide)) (up_ne e (by decide)), (up_ne e (by decide)).trans (tR 33 rfl)⟩
  have en : nN I' R1 = nN I R := nN_eq (congrArg _ e15) h3.2
  exact ⟨d, n + 1, ⟨by rw [e13]; exact x1, by rw [e14]; exact x2, by rw [e12, f0]; omega, h3.1⟩, by rw [f0, e15, e13, e4]; omega, Or.inl (by rw [en, e4]; omega)⟩
/-- a bracket is opened: I1 behind open + 1, I2 behind the next sign, I' R' behind pushes, R1 with a pair's sort set -/
theorem rs_open {I1 I2 : Nat → Int32} {R2 R1 : Nat → Nat → Int32} {w : Int64} {k : Int32} (h : RX a 0 I R d n) (hB : BY I R) (hb : (R 30 d).toInt = 0) (he : (I 3).toInt < (I 4).toInt) (h2k : 2 ≤ k.toInt) (h4k : ¬ k.toInt = 4)
    (j4 : (I1 4).toInt = (I 4).toInt) (j11 : (I1 11).toInt = (I 11).toInt) (j12 : (I1 12).toInt = (I 12).toInt) (j13 : (I1 13).toInt = (I 13).toInt) (j14 : (I1 14).toInt = (I 14).toInt + 1) (j15 : (I1 15).toInt = (I 15).toInt)
    (tI : SmF ([2, 3, 4, 5, 6, 7] : List Nat) I1 I2) (tR : SmF ([] : List Nat) R R2) (f0 : (I1 4).toInt ≤ (I2 3).toInt) (f1 : TL I2 (R 0)) (f2 : WB I2 w)
    (uI : SmF ([13] : List Nat) I2 I') (uR : SmF ([28, 29, 30, 32] : List Nat) R2 R') (g0 : (I' 13).toInt = (I2 13).toInt + 1) (g1 : R' 28 = upd (R2 28) (Int32.toNatClampNeg (I2 13)) k) (g2 : R' 29 = upd (R2 29) (Int32.toNatClampNeg (I2 13)) 0) (g3 : R' 30 = upd (R2 30) (Int32.toNatClampNeg (I2 13)) 1) (g4 : R' 32 = upd (R2 32) (Int32.toNatClampNeg (I2 13)) (I2 15))
    (hR : (R1 = R' ∧ ¬ k.toInt = 3) ∨ ∃ v : Int32, 10 ≤ v.toInt ∧ v.toInt ≤ 21 ∧ R1 = va_up R' 31 (upd (R' 31) (d + 1) v)) : RS a 0 I' w R1 := by
  intro _
  obtain ⟨x1, x2, x3, x4⟩ := h
  obtain ⟨b1, b2, b3⟩ := hB
  have i3 : I' 3 = I2 3 := uI 3 rfl
  have i4 : I' 4 = I2 4 := uI 4 rfl
  have i2 : I' 2 = I2 2 := uI 2 rfl
  have i11 : (I' 11).toInt = (I 11).toInt := by rw [uI 11 rfl, tI 11 rfl]; exact j11
  have i12 : (I' 12).toInt = (I 12).toInt := by rw [uI 12 rfl, tI 12 rfl]; exact j12
  have i13 : (I2 13).toInt = (I 13).toInt := by rw [tI 13 rfl]; exact j13
  have i14 : (I' 14).toInt = (I 14).toInt + 1 := by rw [uI 14 rfl, tI 14 rfl]; exact j14
  have i15 : (I2 15).toInt = (I 15).toInt := by rw [tI 15 rfl]; exact j15
  have k15 : (I' 15).toInt = (I 15).toInt := by rw [uI 15 rfl]; exact i15
  have ed : Int32.toNatClampNeg (I2 13) = d + 1 := cl_n (by omega)
  rw [ed] at g1 g2 g3 g4
  have r31 : R' 31 = R 31 := (uR 31 rfl).trans (tR 31 rfl)
  have r33 : R' 33 = R 33 := (uR 33 rfl).trans (tR 33 rfl)
  have r26 : R' 26 = R 26 := (uR 26 rfl).trans (tR 26 rfl)
  have r0 : R' 0 = R 0 := (uR 0 rfl).trans (tR 0 rfl)
  have hr : (∀ j, j ≤ d → R1 31 j = R 31 j) ∧ (k.toInt = 3 → (10 ≤ (R1 31 (d + 1)).toInt ∧ (R1 31 (d + 1)).toInt ≤ 21)) ∧ R1 28 = R' 28 ∧ R1 29 = R' 29 ∧ R1 30 = R' 30 ∧ R1 32 = R' 32 ∧ R1 33 = R' 33 ∧ R1 26 = R' 26 ∧ R1 0 = R' 0 := by
    rcases hR with ⟨e, h3⟩ | ⟨v, v1, v2, e⟩
    · rw [e]
      exact ⟨fun j _ => by rw [r31], fun z => absurd z h3, rfl, rfl, rfl, rfl, rfl, rfl, rfl⟩
    · refine ⟨fun j hj => ?_, fun _ => ?_, up_ne e (by decide), up_ne e (by decide), up_ne e (by decide), up_ne e (by decide), up_ne e (by decide), up_ne e (by decide), up_ne e (by decide)⟩
      · rw [e, va_up_self, up_off _ _ (by omega), r31]
      · rw [e, va_up_self, up_at]
        exact ⟨v1, v2⟩
  obtain ⟨p1, p2, q28, q29, q30, q32, q33, q26, q0⟩ := hr
  have h1 := rb_push (k := k) (o := I2 15) (pr1 := R1 31) x4 (ti_eq hb (y := 0) rfl) h2k h4k (cl_eq i15) p1 p2
  have en : nN I' R1 = nN I R := nN_eq k15 (q33.trans r33)
  refine ⟨d + 1, n, ⟨by omega, by omega, by omega, rb_cg h1 (cl_eq k15) (by rw [q28, g1, tR 28 rfl]) (by rw [q29, g2, tR 29 rfl]) (by rw [q30, g3, tR 30 rfl]) rfl (by rw [q32, g4, tR 32 rfl]) (q33.trans r33) (q26.trans r26)⟩, ?_, wb_sm f2 (congrArg _ i2) (congrArg _ i3) (congrArg _ i4) rfl, ?_, ?_, fun _ => ?_⟩
  · rw [q0, r0]
    exact tl_sm f1 (congrArg _ i2) (congrArg _ i4) rfl
  · rw [i3]; omega
  · rw [en, i3]; omega
  · rw [en, i3]; omega
/-- behind joins -/
theorem jd_of {p : Int} {k : Nat} (x1 : (I 13).toInt = (d : Int) + 1) (x2 : (I 14).toInt = (d : Int)) (hB : BY I R) (tI : SmF ([11, 15] : List Nat) I I') (tR : SmF ([26, 27] : List Nat) R R') (s0 : (I' 11).toInt + (I' 15).toInt = (I 11).toInt + (I 15).toInt) (f2 : ∃ n1 : Nat, 1800 * (I 12).toInt + (I' 11).toInt = ((a : Nat) : Int) + (n1 : Int) ∧ RB d (Int32.toNatClampNeg (I' 15)) n1 a 1 (R 28) (R 29) (R 30) (R 31) (R 32) (R 33) (R' 26)) (f3 : ∀ i : Nat, (Int32.toNatClampNeg (R 32 d)) ≤ i → i < (Int32.toNatClampNeg (I' 15)) → ((rkV (R 33 i) : Nat) : Int) < p) (f4 : nNn (R 33) (Int32.toNatClampNeg (I' 15)) ≤ nNn (R 33) (Int32.toNatClampNeg (I 15))) (f5 : (Int32.toNatClampNeg (R 32 d)) ≤ (Int32.toNatClampNeg (I' 15))) (hp : p = (k : Int)) : JD a d k I' R' := by
  obtain ⟨n1, g1, g2⟩ := f2
  obtain ⟨b1, b2, b3⟩ := hB
  have e2 : I' 2 = I 2 := tI 2 rfl
  have e3 : I' 3 = I 3 := tI 3 rfl
  have e12 : I' 12 = I 12 := tI 12 rfl
  have e13 : I' 13 = I 13 := tI 13 rfl
  have e14 : I' 14 = I 14 := tI 14 rfl
  have en : nN I' R' ≤ nN I R := by
    unfold nN
    rw [tR 33 rfl]
    omega
  refine ⟨n1, ⟨by rw [e13]; exact x1, by rw [e14]; exact x2, by rw [e12]; exact g1, rb_cg g2 rfl (tR 28 rfl) (tR 29 rfl) (tR 30 rfl) (tR 31 rfl) (tR 32 rfl) (tR 33 rfl) rfl⟩, ?_, ?_, by rw [e13, e3]; omega, by rw [e3]; omega, fun q => ?_⟩
  · rw [tR 32 rfl, tR 33 rfl]
    intro i h1 h2
    have := f3 i h1 h2
    omega
  · rw [tR 32 rfl]
    exact f5
  · rw [e2] at q
    have := b3 q
    rw [e3]
    omega
theorem jd_k {k k' : Nat} (h : JD a d k I R) (e : k = k') : JD a d k' I R := e ▸ h
/-- an arithmetic sign, a comparison or 'and', 'or' is held back -/
theorem rm_held {v : Int32} {k r : Nat} (h : JD a d k I R) (hr : ∀ i, Int32.toNatClampNeg (R 32 d) ≤ i → i < Int32.toNatClampNeg (I 15) → rkV (R 33 i) < k → rkV (R 33 i) ≤ r) (hv : r < rkV v) (hl : (if r = 0 then 0 else lvV r) + 1 ≤ lvV (rkV v)) (h10 : 10 ≤ v.toInt) (hn : ¬ v = 22) (h0 : 0 ≤ (I 15).toInt) (he : (I 3).toInt < (I 4).toInt)
    (j2 : (I' 4).toInt = (I 4).toInt) (j11 : (I' 11).toInt = (I 11).toInt) (j12 : (I' 12).toInt = (I 12).toInt) (j13 : (I' 13).toInt = (I 13).toInt) (j14 : (I' 14).toInt = (I 14).toInt) (f0 : (I' 15).toInt = (I 15).toInt + 1)
    (f1 : R' 33 = upd (R 33) (Int32.toNatClampNeg (I 15)) v) (r26 : R' 26 = R 26) (r28 : R' 28 = R 28) (r31 : R' 31 = R 31) (r32 : R' 32 = R 32)
    (f : ∀ j, j < d → R' 29 j = R 29 j ∧ R' 30 j = R 30 j) (hp : R' 29 d = 0 → ¬ rkV v = 4 ∧ ∀ i, Int32.toNatClampNeg (R 32 d) ≤ i → i < Int32.toNatClampNeg (I 15) → ¬ rkV (R 33 i) = 4) (hb : R' 30 d = 1 → rkV v ≤ 3) : RM a 0 I' R' := by
  obtain ⟨n, ⟨x1, x2, x3, x4⟩, g1, g2, b1, b2, b3⟩ := h
  have h1 := rb_held (v := v) (ph1 := R' 29) (bg1 := R' 30) x4 (fun i p q => hr i p q (g1 i p q)) hv hl h10 hn f hp hb
  have ec := cl_s f0 h0
  have en : nN I' R' = nN I R := by
    unfold nN
    rw [ec, f1, nN_hold _ _ hn]
  exact ⟨d, n, ⟨by omega, by omega, by omega, rb_cg h1 ec r28 rfl rfl r31 r32 f1 r26⟩, by omega, Or.inl (by omega)⟩
theorem jd_ph {k : Nat} (h : JD a d k I R) (h0 : R 29 d = 0) : ∀ i, Int32.toNatClampNeg (R 32 d) ≤ i → i < Int32.toNatClampNeg (I 15) → ¬ rkV (R 33 i) = 4 := by
  obtain ⟨n, ⟨-, -, -, x4⟩, -⟩ := h
  exact x4.1.2.1.2.2.1 h0
theorem jd_bg {k : Nat} (h : JD a d k I R) : R 30 d = 0 := by
  obtain ⟨n, ⟨-, -, -, x4⟩, -⟩ := h
  exact x4.2.2.2.2.2.1 rfl
theorem rm_arith {v : Int32} {k : Nat} (h : JD a d k I R) (hk : rkV v = k) (h5 : 5 ≤ k) (h6 : k ≤ 6) (h10 : 10 ≤ v.toInt) (hn : ¬ v = 22) (h0 : 0 ≤ (I 15).toInt) (he : (I 3).toInt < (I 4).toInt) (tI : SmF ([15] : List Nat) I I') (tR : SmF ([33] : List Nat) R R') (f0 : (I' 15).toInt = (I 15).toInt + 1) (f1 : R' 33 = upd (R 33) (Int32.toNatClampNeg (I 15)) v) : RM a 0 I' R' := by
  refine rm_held (r := k - 1) h (fun i _ _ q => by omega) (by omega) ?_ h10 hn h0 he (congrArg _ (tI 4 rfl)) (congrArg _ (tI 11 rfl)) (congrArg _ (tI 12 rfl)) (congrArg _ (tI 13 rfl)) (congrArg _ (tI 14 rfl)) f0 f1 (tR 26 rfl) (tR 28 rfl) (tR 31 rfl) (tR 32 rfl) (fun j _ => ⟨congrFun (tR 29 rfl) j, congrFun (tR 30 rfl) j⟩) (fun z => ⟨by omega, jd_ph h (by rw [← tR 29 rfl]; exact z)⟩) (fun z => ?_)
  · rw [hk]
    rcases (show k = 5 ∨ k = 6 by omega) with q | q <;> rw [q] <;> decide
  · rw [tR 30 rfl, jd_bg h] at z
    exact absurd z (by decide)
theorem rm_cmp {v : Int32} {R1 : Nat → Nat → Int32} (h : JD a d 5 I R) (hk : rkV v = 4) (hp0 : (R 29 d).toInt = 0) (h10 : 10 ≤ v.toInt) (hn : ¬ v = 22) (h0 : 0 ≤ (I 15).toInt) (he : (I 3).toInt < (I 4).toInt) (tI : SmF ([15] : List Nat) I I') (tR : SmF ([33] : List Nat) R R1) (f0 : (I' 15).toInt = (I 15).toInt + 1) (f1 : R1 33 = upd (R 33) (Int32.toNatClampNeg (I 15)) v) (e : R' = va_up R1 29 (upd (R1 29) d 1)) : RM a 0 I' R' := by
  have hp := jd_ph h (ti_eq hp0 (y := 0) rfl)
  refine rm_held (r := 3) h (fun i p q z => by have := hp i p q; omega) (by omega) ?_ h10 hn h0 he (congrArg _ (tI 4 rfl)) (congrArg _ (tI 11 rfl)) (congrArg _ (tI 12 rfl)) (congrArg _ (tI 13 rfl)) (congrArg _ (tI 14 rfl)) f0 ((up_ne e (by decide)).trans f1) ((up_ne e (by decide)).trans (tR 26 rfl)) ((up_ne e (by decide)).trans (tR 28 rfl)) ((up_ne e (by decide)).trans (tR 31 rfl)) ((up_ne e (by decide)).trans (tR 32 rfl)) (fun j hj => ⟨?_, ?_⟩) (fun z => ?_) (fun z => ?_)
  · rw [hk]
    decide
  · rw [e, va_up_self, up_off _ _ (by omega), tR 29 rfl]
  · rw [up_ne e (show 30 ≠ 29 by decide), tR 30 rfl]
  · rw [e, va_up_self, up_at] at z
    exact absurd z (by decide)
  · rw [up_ne e (show 30 ≠ 29 by decide), tR 30 rfl, jd_bg h] at z
    exact absurd z (by decide)
theorem rm_and {v : Int32} {k : Nat} {R1 R2 : Nat → Nat → Int32} (h : JD a d k I R) (hk : rkV v = k) (h1k : 1 ≤ k) (h2k : k ≤ 2) (h10 : 10 ≤ v.toInt) (hn : ¬ v = 22) (h0 : 0 ≤ (I 15).toInt) (he : (I 3).toInt < (I 4).toInt) (tI : SmF ([15] : List Nat) I I') (tR : SmF ([33] : List Nat) R R1) (f0 : (I' 15).toInt = (I 15).toInt + 1) (f1 : R1 33 = upd (R 33) (Int32.toNatClampNeg (I 15)) v) (e : R2 = va_up R1 29 (upd (R1 29) d 0)) (e2 : R' = va_up R2 30 (upd (R2 30) d 1)) : RM a 0 I' R' := by
  have hlt : ∀ i, Int32.toNatClampNeg (R 32 d) ≤ i → i < Int32.toNatClampNeg (I 15) → rkV (R 33 i) < k := by
    obtain ⟨n, -, g1, -⟩ := h
    exact g1
  have row : ∀ j, j ≠ 29 → j ≠ 30 → R' j = R1 j := fun j p q => (up_ne e2 q).trans (up_ne e p)
  refine rm_held (r := k - 1) h (fun i _ _ q => by omega) (by omega) ?_ h10 hn h0 he (congrArg _ (tI 4 rfl)) (congrArg _ (tI 11 rfl)) (congrArg _ (tI 12 rfl)) (congrArg _ (tI 13 rfl)) (congrArg _ (tI 14 rfl)) f0 ((row 33 (by decide) (by decide)).trans f1) ((row 26 (by decide) (by decide)).trans (tR 26 rfl)) ((row 28 (by decide) (by decide)).trans (tR 28 rfl)) ((row 31 (by decide) (by decide)).trans (tR 31 rfl)) ((row 32 (by decide) (by decide)).trans (tR 32 rfl)) (fun j hj => ⟨?_, ?_⟩) (fun z => ⟨by omega, fun i p q => by have := hlt i p q; omega⟩) (fun _ => by omega)
  · rw [hk]
    rcases (show k = 1 ∨ k = 2 by omega) with q | q <;> rw [q] <;> decide
  · rw [up_ne e2 (show 29 ≠ 30 by decide), e, va_up_self, up_off _ _ (by omega), tR 29 rfl]
  · rw [e2, va_up_self, up_off _ _ (by omega), up_ne e (show 30 ≠ 29 by decide), tR 30 rfl]
theorem rk_pos (x : Int32) : 1 ≤ rkV x := by
  unfold rkV
  repeat' split
  all_goals omega
theorem jd_base (h : JD a d 1 I R) : Int32.toNatClampNeg (I 15) = Int32.toNatClampNeg (R 32 d) := by
  obtain ⟨n, -, g1, g2, -⟩ := h
  rcases Nat.lt_or_ge (Int32.toNatClampNeg (R 32 d)) (Int32.toNatClampNeg (I 15)) with q | q
  · have := g1 _ (Nat.le_refl _) q
    have := rk_pos (R 33 (Int32.toNatClampNeg (R 32 d)))
    omega
  · omega
theorem en_of (h : JD a d 1 I R) (h0 : 0 ≤ (I 15).toInt) : EN a I R := by
  intro _
  obtain ⟨n, ⟨x1, x2, x3, x4⟩, -, -, b1, -⟩ := h
  exact ⟨by omega, n, x3, x4.2.2.2.2.2.2.2.1⟩
theorem rm_comma (h : JD a d 1 I R) (h3 : (R 28 d).toInt = 3) (he : (I 3).toInt < (I 4).toInt) (e : R' = va_up R 28 (upd (R 28) d 4)) : RM a 0 I R' := by
  obtain ⟨n, ⟨x1, x2, x3, x4⟩, g1, g2, b1, b2, b3⟩ := h
  have en : nN I R' = nN I R := nN_eq rfl (up_ne e (by decide))
  exact ⟨d, n, ⟨x1, x2, x3, rb_cg (rb_comma x4 h3) rfl (by rw [e, va_up_self]) (up_ne e (by decide)) (up_ne e (by decide)) (up_ne e (by decide)) (up_ne e (by decide)) (up_ne e (by decide)) (up_ne e (by decide))⟩, by omega, Or.inl (by omega)⟩
/-- a bracket is closed -/
theorem jd_pos {k : Nat} (h : JD a d k I R) (h2 : 2 ≤ (R 28 d).toInt) : 1 ≤ d := by
  obtain ⟨n, ⟨-, -, -, x4⟩, -⟩ := h
  have := x4.2.1
  rcases Nat.eq_zero_or_pos d with q | q
  · rw [q] at h2
    omega
  · exact q
theorem rm_close (h : JD a d 1 I R) (h2 : 2 ≤ (R 28 d).toInt) (h4 : ¬ (R 28 d).toInt = 4) (he : (I 3).toInt < (I 4).toInt) (j4 : (I' 4).toInt = (I 4).toInt) (j11 : (I' 11).toInt = (I 11).toInt) (j12 : (I' 12).toInt = (I 12).toInt) (j13 : (I' 13).toInt = (I 13).toInt - 1) (j14 : (I' 14).toInt = (I 14).toInt - 1) (j15 : (I' 15).toInt = (I 15).toInt) : RM a 1 I' R := by
  have hb := jd_base h
  have hp := jd_pos h h2
  obtain ⟨n, ⟨x1, x2, x3, x4⟩, g1, g2, b1, b2, b3⟩ := h
  obtain ⟨d1, rfl⟩ : ∃ d1, d = d1 + 1 := ⟨d - 1, by omega⟩
  have en : nN I' R = nN I R := nN_eq j15 rfl
  exact ⟨d1, n, ⟨by omega, by omega, by omega, rb_cg (rb_close x4 hb h4) (cl_eq j15) rfl rfl rfl rfl rfl rfl rfl⟩, by omega, Or.inl (by omega)⟩
theorem rm_pair {I1 : Nat → Int32} {v : Int32} (h : JD a d 1 I R) (h4 : (R 28 d).toInt = 4) (he : (I 3).toInt < (I 4).toInt) (j4 : (I1 4).toInt = (I 4).toInt) (j11 : (I1 11).toInt = (I 11).toInt) (j12 : (I1 12).toInt = (I 12).toInt) (j13 : (I1 13).toInt = (I 13).toInt - 1) (j14 : (I1 14).toInt = (I 14).toInt - 1) (j15 : (I1 15).toInt = (I 15).toInt) (tI : SmF ([11] : List Nat) I1 I') (tR : SmF ([26, 27] : List Nat) R R') (f0 : (I' 11).toInt = (I1 11).toInt + 1) (f1 : R' 26 = upd (R 26) (1800 * (I1 12).toInt + (I1 11).toInt).toNat v) (ev : v.toInt = (R 31 d).toInt) : RM a 1 I' R' := by
  have hb := jd_base h
  have hp := jd_pos h (by omega)
  obtain ⟨n, ⟨x1, x2, x3, x4⟩, g1, g2, b1, b2, b3⟩ := h
  obtain ⟨d1, rfl⟩ : ∃ d1, d = d1 + 1 := ⟨d - 1, by omega⟩
  have ei : (1800 * (I1 12).toInt + (I1 11).toInt).toNat = a + n := by omega
  rw [ei, ti_eq (x := v) (y := R 31 (d1 + 1)) ev rfl] at f1
  have k4 : (I' 4).toInt = (I 4).toInt := by rw [tI 4 rfl]; exact j4
  have k12 : (I' 12).toInt = (I 12).toInt := by rw [tI 12 rfl]; exact j12
  have k13 : (I' 13).toInt = (I 13).toInt - 1 := by rw [tI 13 rfl]; exact j13
  have k14 : (I' 14).toInt = (I 14).toInt - 1 := by rw [tI 14 rfl]; exact j14
  have k15 : (I' 15).toInt = (I 15).toInt := by rw [tI 15 rfl]; exact j15
  have en : nN I' R' = nN I R := nN_eq k15 (tR 33 rfl)
  exact ⟨d1, n + 1, ⟨by omega, by omega, by omega, rb_cg (rb_pair x4 hb h4) (cl_eq k15) (tR 28 rfl) (tR 29 rfl) (tR 30 rfl) (tR 31 rfl) (tR 32 rfl) (tR 33 rfl) f1⟩, by omega, Or.inl (by omega)⟩
theorem rm_ph {k : Nat} (h : RM a 1 I R) (hk : (k : Int) + 1 = (I 13).toInt) (e : R' = va_up R 29 (upd (R 29) k 2)) : RM a 1 I R' := by
  obtain ⟨d, n, ⟨x1, x2, x3, x4⟩, b1, b2⟩ := h
  have ek : k = d := by omega
  rw [ek] at e
  have en : nN I R' = nN I R := nN_eq rfl (up_ne e (by decide))
  refine ⟨d, n, ⟨x1, x2, x3, rb_cg (rb_ph x4 2 (by decide)) rfl (up_ne e (by decide)) (by rw [e, va_up_self]) (up_ne e (by decide)) (up_ne e (by decide)) (up_ne e (by decide)) (up_ne e (by decide)) (up_ne e (by decide))⟩, b1, ?_⟩
  rw [en, up_ne e (show 0 ≠ 29 by decide)]
  exact b2
/-- the reading begins: I1 with all set to nothing, I' R' behind pushes -/
theorem rs_begin {w : Int64} {k : Int32} (h11 : 0 ≤ (I 11).toInt) (ha : 1800 * (I 12).toInt + (I 11).toInt = (a : Int)) (hT : TL I (R 0)) (hW : WB I w) (hB : (I 11).toInt + 1 ≤ (I 3).toInt) (hk0 : 0 ≤ k.toInt) (hk : k.toInt ≤ 1) (h13 : (I 13).toInt = 0) (h14 : (I 14).toInt = 0) (h15 : (I 15).toInt = 0) (tI : SmF ([13] : List Nat) I I') (tR : SmF ([28, 29, 30, 32] : List Nat) R R') (g0 : (I' 13).toInt = (I 13).toInt + 1) (g1 : R' 28 = upd (R 28) (Int32.toNatClampNeg (I 13)) k) (g2 : R' 29 = upd (R 29) (Int32.toNatClampNeg (I 13)) 0) (g3 : R' 30 = upd (R 30) (Int32.toNatClampNeg (I 13)) 1) (g4 : R' 32 = upd (R 32) (Int32.toNatClampNeg (I 13)) (I 15)) : RS a 0 I' w R' := by
  intro _
  have e0 : Int32.toNatClampNeg (I 13) = 0 := cl_n (by omega)
  have e5 : Int32.toNatClampNeg (I 15) = 0 := cl_n (by omega)
  rw [e0] at g1 g2 g3 g4
  have k2 : (I' 2).toInt = (I 2).toInt := congrArg _ (tI 2 rfl)
  have k3 : (I' 3).toInt = (I 3).toInt := congrArg _ (tI 3 rfl)
  have k4 : (I' 4).toInt = (I 4).toInt := congrArg _ (tI 4 rfl)
  have k11 : (I' 11).toInt = (I 11).toInt := congrArg _ (tI 11 rfl)
  have k12 : (I' 12).toInt = (I 12).toInt := congrArg _ (tI 12 rfl)
  have k14 : (I' 14).toInt = (I 14).toInt := congrArg _ (tI 14 rfl)
  have k15 : (I' 15).toInt = (I 15).toInt := congrArg _ (tI 15 rfl)
  have h1 := rb_init (a := a) (fr := R 28) (ph := R 29) (bg := R 30) (pr := R 31) (bs := R 32) (op := R 33) (cs := R 26) (k := k) (o := I 15) hk e5 hk0
  have en : nN I' R' = 0 := by
    unfold nN
    rw [cl_eq k15, e5]
    rfl
  have hb : (I' 11).toInt + (I' 15).toInt + (I' 13).toInt ≤ (I' 3).toInt := by omega
  refine ⟨0, 0, ⟨by omega, by omega, by omega, rb_cg h1 (by rw [cl_eq k15, e5]) g1 g2 g3 (tR 31 rfl) g4 (tR 33 rfl) (tR 26 rfl)⟩, ?_, wb_sm hW k2 k3 k4 rfl, hb, ?_, fun _ => ?_⟩
  · rw [tR 0 rfl]
    exact tl_sm hT k2 k4 rfl
  · omega
  · omega
theorem rm_id (h : RX a od I R d n) (hB : BY I R) (hs : (I 2).toInt = 1 ∨ (I 2).toInt = 2) (he : (I 3).toInt < (I 4).toInt) : RM a od I R := by
  obtain ⟨b1, b2, b3⟩ := hB
  have := b3 hs
  exact ⟨d, n, h, by omega, Or.inl (by omega)⟩
theorem rk_56 {x : Int32} (h : 10 ≤ x.toInt ∧ x.toInt ≤ 14) : 5 ≤ rkV x ∧ rkV x ≤ 6 := by
  rcases (show x.toInt = 10 ∨ x.toInt = 11 ∨ 12 ≤ x.toInt by omega) with q | q | q
  · rw [rk_5 (Or.inl q)]; omega
  · rw [rk_5 (Or.inr q)]; omega
  · rw [rk_6 (by omega)]; omega
theorem rk_12 {x : Int32} (h : 20 ≤ x.toInt ∧ x.toInt ≤ 21) : 1 ≤ rkV x ∧ rkV x ≤ 2 := by
  rcases (show x.toInt = 20 ∨ x.toInt = 21 by omega) with q | q
  · rw [rk_2 q]; omega
  · rw [rk_1 q]; omega
theorem ne_22 {x : Int32} (h : x.toInt < 22) : ¬ x = 22 := fun q => by
  rw [q] at h
  exact absurd h (by decide)
theorem rs_n {od k : Nat} {w : Int64} (h : RS a od I w R) (e : od = k) : RS a k I w R := e ▸ h
theorem rs_cl {w : Int64} (h : RS a od I w R) (e : (I 16).toInt = (od : Int)) : RS a (Int32.toNatClampNeg (I 16)) I w R := by
  rw [cl_n e]
  exact h
theorem rs_sm {w : Int64} (h : RS a od I w R) (e : ∀ k, k ≠ 16 → I' k = I k) : RS a od I' w R := by
  intro hf
  rw [e 6 (by decide)] at hf
  obtain ⟨d, n, ⟨x1, x2, x3, x4⟩, t, w1, b⟩ := h hf
  exact ⟨d, n, ⟨by rw [e 13 (by decide)]; exact x1, by rw [e 14 (by decide)]; exact x2, by rw [e 12 (by decide), e 11 (by decide)]; exact x3, by rw [e 15 (by decide)]; exact x4⟩, tl_sm t (congrArg _ (e 2 (by decide))) (congrArg _ (e 4 (by decide))) rfl, wb_sm w1 (congrArg _ (e 2 (by decide))) (congrArg _ (e 3 (by decide))) (congrArg _ (e 4 (by decide))) rfl, by_sm b (congrArg _ (e 2 (by decide))) (congrArg _ (e 3 (by decide))) (congrArg _ (e 11 (by decide))) (congrArg _ (e 13 (by decide))) (congrArg _ (e 15 (by decide))) rfl⟩
theorem rs_op {w : Int64} {r : Int32} (h : RS a r.toInt.toNat I w R) (e : I' = va_up I 16 r) : RS a (Int32.toNatClampNeg (I' 16)) I' w R := by
  have h1 : RS a r.toInt.toNat I' w R := rs_sm h (fun k hk => up_ne e hk)
  rw [show I' 16 = r from by rw [e, va_up_self]]
  exact h1
end
/-! the rules of a bank are well formed (WfC); what a statement keeps of them (WK); works -/
def WfC (b : Nat) (R : Nat → Nat → Int32) (c : Int) : Prop :=
  ∀ k : Nat, (k : Int) < (R 22 b).toInt → ∃ s t e : Nat, (R 23 (12 * b + k)).toInt = (s : Int) ∧ (R 24 (12 * b + k)).toInt = (t : Int) ∧ (R 25 (12 * b + k)).toInt = (e : Int) ∧ s ≤ t ∧ t ≤ e ∧ (e : Int) ≤ c ∧ Seg (R 26) (1800 * b + s) (t - s) ∧ Seg (R 26) (1800 * b + t) (e - t)
def WfM (I : Nat → Int32) (R : Nat → Nat → Int32) : Prop := WfC (Int32.toNatClampNeg (I 10)) R 1800
theorem wf_sm {b : Nat} {R R' : Nat → Nat → Int32} {c : Int} (h : WfC b R c) (e22 : R' 22 = R 22) (e23 : R' 23 = R 23) (e24 : R' 24 = R 24) (e25 : R' 25 = R 25) (e26 : R' 26 = R 26) : WfC b R' c := by
  unfold WfC
  rw [e22, e23, e24, e25, e26]
  exact h
theorem wf_row {b : Nat} {R R' : Nat → Nat → Int32} {c : Int} (h : WfC b R c) (e22 : R' 22 b = R 22 b) (e23 : R' 23 = R 23) (e24 : R' 24 = R 24) (e25 : R' 25 = R 25) (e26 : R' 26 = R 26) : WfC b R' c := by
  unfold WfC
  rw [e22, e23, e24, e25, e26]
  exact h
theorem wf_le {b : Nat} {R : Nat → Nat → Int32} {c c' : Int} (h : WfC b R c) (hc : c ≤ c') : WfC b R c' := by
  intro k hk
  obtain ⟨s, t, e, h1, h2, h3, h4, h5, h6, h7, h8⟩ := h k hk
  exact ⟨s, t, e, h1, h2, h3, h4, h5, by omega, h7, h8⟩
theorem wf_0 {b : Nat} {R : Nat → Nat → Int32} {c : Int} (h : (R 22 b).toInt = 0) : WfC b R c := fun k hk => absurd hk (by omega)
theorem wm_sm {I I' : Nat → Int32} {R R' : Nat → Nat → Int32} (h : WfM I R) (e : I' 10 = I 10) (e22 : R' 22 = R 22) (e23 : R' 23 = R 23) (e24 : R' 24 = R 24) (e25 : R' 25 = R 25) (e26 : R' 26 = R 26) : WfM I' R' := by
  unfold WfM
  rw [e]
  exact wf_sm h e22 e23 e24 e25 e26
/-- what a statement keeps -/
def WK (I : Nat → Int32) (R : Nat → Nat → Int32) (U : Nat → Int32) (S : Nat → Nat → Int32) : Prop :=
  (U 12).toInt = (I 12).toInt ∧ ((U 6).toInt = 0 → (I 6).toInt = 0) ∧ (∀ b : Nat, b ≤ 1 → ¬ (b : Int) = (I 12).toInt → WfC b R 1800 → WfC b S 1800) ∧ ((U 6).toInt = 0 → (I 11).toInt ≤ (I 3).toInt → WfC (Int32.toNatClampNeg (I 12)) R (I 11).toInt → ((U 11).toInt ≤ (U 3).toInt ∧ WfC (Int32.toNatClampNeg (I 12)) S (U 11).toInt))
theorem wk_rf (I : Nat → Int32) (R : Nat → Nat → Int32) : WK I R I R := ⟨rfl, id, fun _ _ _ h => h, fun _ h1 h2 => ⟨h1, h2⟩⟩
theorem wk_tr {I J K : Nat → Int32} {R S T : Nat → Nat → Int32} (h1 : WK I R J S) (h2 : WK J S K T) : WK I R K T := by
  obtain ⟨a1, a2, a3, a4⟩ := h1
  obtain ⟨b1, b2, b3, b4⟩ := h2
  refine ⟨b1.trans a1, fun h => a2 (b2 h), fun b hb hn h => b3 b hb (by rw [a1]; exact hn) (a3 b hb hn h), fun hf hc h => ?_⟩
  obtain ⟨c1, c2⟩ := a4 (b2 hf) hc h
  have e : Int32.toNatClampNeg (J 12) = Int32.toNatClampNeg (I 12) := cl_eq a1
  have := b4 hf c1 (by rw [e]; exact c2)
  rw [e] at this
  exact this
theorem wk_sm {I J K : Nat → Int32} {R S T : Nat → Nat → Int32} (h : WK I R J S) (e12 : (K 12).toInt = (J 12).toInt) (e11 : (K 11).toInt = (J 11).toInt) (e6 : (K 6).toInt = 0 → (J 6).toInt = 0) (e3 : (J 3).toInt ≤ (K 3).toInt) (r22 : T 22 = S 22) (r23 : T 23 = S 23) (r24 : T 24 = S 24) (r25 : T 25 = S 25) (r26 : T 26 = S 26) : WK I R K T :=
  wk_tr h ⟨e12, e6, fun _ _ _ w => wf_sm w r22 r23 r24 r25 r26, fun _ h1 w => ⟨by omega, by rw [e11]; exact wf_sm w r22 r23 r24 r25 r26⟩⟩
/-- a rule is being read: both its places are set, and without a fault what is written is well formed -/
def RU89 (b at_ : Nat) (I0 : Nat → Int32) (R0 : Nat → Nat → Int32) (I : Nat → Int32) (R : Nat → Nat → Int32) : Prop :=
  ∃ v w : Int32, v.toInt = (I0 11).toInt ∧ R 23 = upd (R0 23) at_ v ∧ R 24 = upd (R0 24) at_ w ∧ R 22 = R0 22 ∧ R 25 = R0 25 ∧ ((I 6).toInt = 0 → (I0 6).toInt = 0 ∧ (I 11).toInt ≤ (I 3).toInt ∧ ∃ s t e : Nat, v.toInt = (s : Int) ∧ w.toInt = (t : Int) ∧ (I 11).toInt = (e : Int) ∧ s ≤ t ∧ t ≤ e ∧ Seg (R 26) (1800 * b + s) (t - s) ∧ Seg (R 26) (1800 * b + t) (e - t))
theorem wf_new {b at_ : Nat} {I0 I : Nat → Int32} {R0 R R1 R2 : Nat → Nat → Int32} {c x : Int32} (hu : RU89 b at_ I0 R0 I R) (hk : KE I0 (R0 26) I (R 26)) (hb : (I0 12).toInt = (b : Int)) (h1 : b ≤ 1) (hr : (R0 22 b).toInt ≤ 11) (hr0 : 0 ≤ (R0 22 b).toInt) (hrr : ∀ j : Nat, j ≤ 1 → (R0 22 j).toInt ≤ 12) (ha : (at_ : Int) = 12 * (b : Int) + (R0 22 b).toInt) (e1 : R1 = va_up R 25 (upd (R 25) at_ c)) (ec : c.toInt = (I 11).toInt) (h11 : 0 ≤ (I0 11).toInt) (e2 : (R2 = R1 ∧ ¬ (I 6).toInt = 0) ∨ (R2 = va_up R1 22 (upd (R1 22) b x) ∧ x.toInt = (R0 22 b).toInt + 1)) : WK I0 R0 I R2 := by
  obtain ⟨v, w, ev, g23, g24, g22, g25, hs⟩ := hu
  obtain ⟨k1, k2, k3⟩ := hk
  have q : ∀ j, j ≠ 22 → j ≠ 25 → R2 j = R j := by
    intro j n1 n2
    rcases e2 with ⟨e, _⟩ | ⟨e, _⟩
    · rw [e, up_ne e1 n2]
    · rw [up_ne e n1, up_ne e1 n2]
  have q25 : R2 25 = upd (R0 25) at_ c := by
    rcases e2 with ⟨e, _⟩ | ⟨e, _⟩
    · rw [e, e1, va_up_self, g25]
    · rw [up_ne e (by decide), e1, va_up_self, g25]
  have q23 : R2 23 = upd (R0 23) at_ v := (q 23 (by decide) (by decide)).trans g23
  have q24 : R2 24 = upd (R0 24) at_ w := (q 24 (by decide) (by decide)).trans g24
  have q26 : R2 26 = R 26 := q 26 (by decide) (by decide)
  have q22 : ∀ j, j ≠ b → R2 22 j = R0 22 j := by
    intro j hj
    rcases e2 with ⟨e, _⟩ | ⟨e, _⟩
    · rw [e, up_ne e1 (by decide), g22]
    · rw [e, va_up_self, up_off _ _ hj, up_ne e1 (by decide), g22]
  refine ⟨k1, fun h => (hs h).1, fun b' hb' hn hw => ?_, fun hf hc hw => ?_⟩
  · intro k hk
    rw [q22 b' (by omega)] at hk
    obtain ⟨s, t, e, f1, f2, f3, f4, f5, f6, f7, f8⟩ := hw k hk
    have hk12 := hrr b' hb'
    have hne : 12 * b' + k ≠ at_ := by omega
    refine ⟨s, t, e, by rw [q23, up_off _ _ hne]; exact f1, by rw [q24, up_off _ _ hne]; exact f2, by rw [q25, up_off _ _ hne]; exact f3, f4, f5, f6, ?_, ?_⟩
    · rw [q26]
      exact f7.congr (fun j hj => k3 _ (by omega))
    · rw [q26]
      exact f8.congr (fun j hj => k3 _ (by omega))
  · obtain ⟨_, s2, s, t, e, f1, f2, f3, f4, f5, f6, f7⟩ := hs hf
    have ec0 : Int32.toNatClampNeg (I0 12) = b := cl_n hb
    rw [ec0] at hw ⊢
    refine ⟨s2, fun k hk => ?_⟩
    have e3 : R2 = va_up R1 22 (upd (R1 22) b x) ∧ x.toInt = (R0 22 b).toInt + 1 := by
      rcases e2 with ⟨_, h⟩ | h
      · exact absurd hf h
      · exact h
    rw [e3.1, va_up_self, up_at] at hk
    rcases (show (k : Int) < (R0 22 b).toInt ∨ (k : Int) = (R0 22 b).toInt by omega) with z | z
    · obtain ⟨s', t', e', a1, a2, a3, a4, a5, a6, a7, a8⟩ := hw k z
      have hne : 12 * b + k ≠ at_ := by omega
      refine ⟨s', t', e', by rw [q23, up_off _ _ hne]; exact a1, by rw [q24, up_off _ _ hne]; exact a2, by rw [q25, up_off _ _ hne]; exact a3, a4, a5, by omega, ?_, ?_⟩
      · rw [q26]
        exact a7.congr (fun j hj => k3 _ (by omega))
      · rw [q26]
        exact a8.congr (fun j hj => k3 _ (by omega))
    · have he : 12 * b + k = at_ := by omega
      refine ⟨s, t, e, by rw [q23, he, up_at]; exact f1, by rw [q24, he, up_at]; exact f2, by rw [q25, he, up_at, ec]; exact f3, f4, f5, by omega, by rw [q26]; exact f6, by rw [q26]; exact f7⟩
/-- the two readings of a rule -/
theorem ru_of {b at_ a : Nat} {I0 I2 I3 I : Nat → Int32} {R0 R2 R3 R4 R : Nat → Nat → Int32} {v w : Int32} (ev : v.toInt = (I0 11).toInt) (hb : (I0 12).toInt = (b : Int)) (h11 : 0 ≤ (I0 11).toInt) (ha : (a : Int) = 1800 * (b : Int) + (I0 11).toInt) (r23 : R3 23 = upd (R0 23) at_ v) (r24 : R3 24 = R0 24) (r22 : R3 22 = R0 22) (r25 : R3 25 = R0 25) (r26 : R3 26 = R2 26) (en : EN a I2 R2) (hi12 : (I2 12).toInt = (I0 12).toInt) (e11 : (I3 11).toInt = (I2 11).toInt) (e6 : (I3 6).toInt = 0 → (I2 6).toInt = 0 ∧ (I0 6).toInt = 0) (e12 : (I3 12).toInt = (I2 12).toInt) (hw : w.toInt = (I3 11).toInt) (e4 : R4 = va_up R3 24 (upd (R3 24) at_ w))
    (fin : (I = I3 ∧ R = R4 ∧ ¬ (I3 6).toInt = 0) ∨ ((I3 6).toInt = 0 ∧ KE I3 (R4 26) I (R 26) ∧ R 22 = R4 22 ∧ R 23 = R4 23 ∧ R 24 = R4 24 ∧ R 25 = R4 25 ∧ ∃ a2 : Nat, (a2 : Int) = 1800 * (I3 12).toInt + (I3 11).toInt ∧ EN a2 I R)) : RU89 b at_ I0 R0 I R := by
  have q24 : R4 24 = upd (R0 24) at_ w := by rw [e4, va_up_self, r24]
  have q : ∀ j, j ≠ 24 → R4 j = R3 j := fun j h => up_ne e4 h
  rcases fin with ⟨fI, fR, hf⟩ | ⟨hf, hk, g22, g23, g24, g25, a2, ha2, en2⟩
  · subst fI fR
    exact ⟨v, w, ev, (q 23 (by decide)).trans r23, q24, (q 22 (by decide)).trans r22, (q 25 (by decide)).trans r25, fun h => absurd h hf⟩
  · refine ⟨v, w, ev, g23.trans ((q 23 (by decide)).trans r23), g24.trans q24, g22.trans ((q 22 (by decide)).trans r22), g25.trans ((q 25 (by decide)).trans r25), fun h => ?_⟩
    obtain ⟨f2, f0⟩ := e6 hf
    obtain ⟨-, n1, en1, sg1⟩ := en f2
    obtain ⟨l2, n2, en2', sg2⟩ := en2 h
    obtain ⟨k1, k2, k3⟩ := hk
    obtain ⟨s, hs⟩ : ∃ s : Nat, (I0 11).toInt = (s : Int) := ⟨(I0 11).toInt.toNat, by omega⟩
    refine ⟨f0, l2, s, s + n1, s + n1 + n2, by omega, by omega, by omega, by omega, by omega, ?_, ?_⟩
    · rw [show 1800 * b + s = a by omega, show s + n1 - s = n1 by omega]
      refine (show Seg (R4 26) a n1 from ?_).congr (fun j hj => k3 _ (by omega))
      rw [q 26 (by decide), r26]
      exact sg1
    · rw [show 1800 * b + (s + n1) = a2 by omega, show s + n1 + n2 - (s + n1) = n2 by omega]
      exact sg2
/-! works: the height of what is heaped -/
theorem hg_v {f : Nat → Int32} {a k : Nat} (h : (f (a + k)).toInt ≤ 9) : hgt f a (k + 1) = hgt f a k + 1 := by
  show hgt f a k + (if (f (a + k)).toInt ≤ 9 then 1 else if f (a + k) = 22 then 0 else -1) = _
  rw [if_pos h]
theorem hg_n {f : Nat → Int32} {a k : Nat} (h : (f (a + k)).toInt = 22) : hgt f a (k + 1) = hgt f a k := by
  show hgt f a k + (if (f (a + k)).toInt ≤ 9 then 1 else if f (a + k) = 22 then 0 else -1) = _
  rw [if_neg (by omega), if_pos (ti_eq h (y := 22) rfl)]
  omega
theorem hg_o {f : Nat → Int32} {a k : Nat} (h : 9 < (f (a + k)).toInt) (hn : ¬ (f (a + k)).toInt = 22) : hgt f a (k + 1) = hgt f a k - 1 := by
  show hgt f a k + (if (f (a + k)).toInt ≤ 9 then 1 else if f (a + k) = 22 then 0 else -1) = _
  rw [if_neg (by omega), if_neg (fun z => hn (by rw [z]; rfl))]
  omega
theorem sg_n {f : Nat → Int32} {a n k : Nat} (h : Seg f a n) (hk : k < n) (e : (f (a + k)).toInt = 22) : 1 ≤ hgt f a k := by
  have := h k hk (by omega)
  rw [if_pos (ti_eq e (y := 22) rfl)] at this
  exact this
theorem sg_o {f : Nat → Int32} {a n k : Nat} (h : Seg f a n) (hk : k < n) (e : 9 < (f (a + k)).toInt) (hn : ¬ (f (a + k)).toInt = 22) : 2 ≤ hgt f a k := by
  have := h k hk e
  rw [if_neg (fun z => hn (by rw [z]; rfl))] at this
  exact this
theorem wk_other {I U : Nat → Int32} {R S : Nat → Nat → Int32} (h : WK I R U S) {b : Nat} (h1 : b ≤ 1) (hn : ¬ (b : Int) = (I 12).toInt) (w : WfC b R 1800) : WfC b S 1800 := by
  obtain ⟨-, -, h3, -⟩ := h
  exact h3 b h1 hn w
theorem wk_in {I U : Nat → Int32} {R S : Nat → Nat → Int32} (h : WK I R U S) (hf : (U 6).toInt = 0) (hc : (I 11).toInt ≤ (I 3).toInt) (w : WfC (Int32.toNatClampNeg (I 12)) R (I 11).toInt) : (U 11).toInt ≤ (U 3).toInt ∧ WfC (Int32.toNatClampNeg (I 12)) S (U 11).toInt := by
  obtain ⟨-, -, -, h4⟩ := h
  exact h4 hf hc w
theorem en_le {a : Nat} {I : Nat → Int32} {R : Nat → Nat → Int32} (h : EN a I R) : (I 6).toInt = 0 → (I 11).toInt ≤ (I 3).toInt := fun q => (h q).1
