theorem lcmp_e {x y : Int64} (h : lg_cmp x y = 0) : x = y := by
  unfold lg_cmp at h
  split at h
  · exact absurd h (by decide)
  · split at h
    · assumption
    · exact absurd h (by decide)
/-! the reference's reading of a rule: what is held back is in order, and what is written is well formed -/
theorem up_at (f : Nat → Int32) (k : Nat) (x : Int32) : upd f k x k = x := by
  show (if k = k then x else f k) = x
  rw [if_pos rfl]
theorem up_off (f : Nat → Int32) {k j : Nat} (x : Int32) (h : j ≠ k) : upd f k x j = f j := by
  show (if j = k then x else f j) = f j
  rw [if_neg h]
def rkV (x : Int32) : Nat := if x = 21 then 1 else if x = 20 then 2 else if x = 22 then 3 else if x = 17 ∨ x = 18 ∨ x = 19 then 4 else if x = 10 ∨ x = 11 then 5 else 6
def lvV (r : Nat) : Nat := if r ≤ 1 then 1 else if r ≤ 3 then 2 else if r = 4 then 3 else if r = 5 then 4 else 5
theorem lv_mono {a b : Nat} (h : a ≤ b) : lvV a ≤ lvV b := by
  unfold lvV
  repeat' split
  all_goals omega
theorem lv_le (a : Nat) : lvV a ≤ 5 := by
  unfold lvV
  repeat' split
  all_goals omega
theorem rk_22 : rkV 22 = 3 := by decide
def cBn (op : Nat → Int32) : Nat → Nat
  | 0 => 0
  | n + 1 => cBn op n + (if op n = 22 then 0 else 1)
theorem cB_le (op : Nat → Int32) : ∀ n, cBn op n ≤ n
  | 0 => Nat.le_refl _
  | n + 1 => by
    have := cB_le op n
    show cBn op n + (if op n = 22 then 0 else 1) ≤ n + 1
    split <;> omega
theorem cB_congr {op op1 : Nat → Int32} : ∀ n, (∀ i, i < n → op1 i = op i) → cBn op1 n = cBn op n
  | 0, _ => rfl
  | n + 1, h => by
    show cBn op1 n + (if op1 n = 22 then 0 else 1) = cBn op n + (if op n = 22 then 0 else 1)
    rw [cB_congr n (fun i hi => h i (Nat.lt_succ_of_lt hi)), h n (Nat.lt_succ_self n)]
theorem cB_upd (op : Nat → Int32) (n : Nat) (v : Int32) : cBn (upd op n v) (n + 1) = cBn op n + (if v = 22 then 0 else 1) := by
  show cBn (upd op n v) n + (if upd op n v n = 22 then 0 else 1) = _
  rw [up_at, cB_congr n (fun i hi => up_off op v (Nat.ne_of_lt hi))]
def Reg (op : Nat → Int32) (j lo hi : Nat) (ph bg : Int32) : Prop :=
  (∀ i, lo ≤ i → i < hi → cBn op (i + 1) ≤ 5 * j + lvV (rkV (op i))) ∧
  (∀ i k, lo ≤ i → i ≤ k → k < hi → rkV (op i) ≤ rkV (op k)) ∧
  (ph = 0 → ∀ i, lo ≤ i → i < hi → rkV (op i) ≠ 4) ∧
  (bg = 1 → ∀ i, lo ≤ i → i < hi → rkV (op i) ≤ 3)
def Regs (op bs ph bg : Nat → Int32) : Nat → Nat → Prop
  | 0, om => om = 0
  | d + 1, om => (bs d).toNatClampNeg ≤ om ∧ Reg op d (bs d).toNatClampNeg om (ph d) (bg d) ∧ Regs op bs ph bg d (bs d).toNatClampNeg
theorem Reg.congr {op op1 : Nat → Int32} {j lo hi : Nat} {ph bg : Int32} (h : Reg op j lo hi ph bg) (e : ∀ i, i < hi → op1 i = op i) : Reg op1 j lo hi ph bg := by
  obtain ⟨h1, h2, h3, h4⟩ := h
  refine ⟨fun i a b => ?_, fun i k a b d => ?_, fun q i a b => ?_, fun q i a b => ?_⟩
  · rw [cB_congr (i + 1) (fun k hk => e k (by omega)), e i b]
    exact h1 i a b
  · rw [e i (by omega), e k d]
    exact h2 i k a b d
  · rw [e i b]
    exact h3 q i a b
  · rw [e i b]
    exact h4 q i a b
theorem Regs.congr {op op1 bs bs1 ph ph1 bg bg1 : Nat → Int32} : ∀ {d om : Nat}, Regs op bs ph bg d om → (∀ i, i < om → op1 i = op i) → (∀ j, j < d → bs1 j = bs j ∧ ph1 j = ph j ∧ bg1 j = bg j) → Regs op1 bs1 ph1 bg1 d om
  | 0, _, h, _, _ => h
  | d + 1, om, ⟨h1, h2, h3⟩, e, f => by
    obtain ⟨f1, f2, f3⟩ := f d (Nat.lt_succ_self d)
    show (bs1 d).toNatClampNeg ≤ om ∧ Reg op1 d (bs1 d).toNatClampNeg om (ph1 d) (bg1 d) ∧ Regs op1 bs1 ph1 bg1 d (bs1 d).toNatClampNeg
    rw [f1, f2, f3]
    exact ⟨h1, h2.congr e, Regs.congr h3 (fun i hi => e i (by omega)) (fun j hj => f j (by omega))⟩
theorem Regs.cB {op bs ph bg : Nat → Int32} : ∀ {d om : Nat}, Regs op bs ph bg d om → cBn op om ≤ 5 * d
  | 0, om, h => by
    have : om = 0 := h
    subst this
    exact Nat.le_refl _
  | d + 1, om, ⟨h1, h2, h3⟩ => by
    have h4 := Regs.cB h3
    rcases Nat.lt_or_ge (bs d).toNatClampNeg om with q | q
    · obtain ⟨k, rfl⟩ : ∃ k, om = k + 1 := ⟨om - 1, by omega⟩
      have := h2.1 k (by omega) (by omega)
      have := lv_le (rkV (op k))
      omega
    · have e : om = (bs d).toNatClampNeg := by omega
      rw [e]
      omega
theorem Regs.push {op bs ph bg bs1 ph1 bg1 : Nat → Int32} {d om : Nat} (h : Regs op bs ph bg d om) (eb : (bs1 d).toNatClampNeg = om) (f : ∀ j, j < d → bs1 j = bs j ∧ ph1 j = ph j ∧ bg1 j = bg j) : Regs op bs1 ph1 bg1 (d + 1) om := by
  refine ⟨Nat.le_of_eq eb, ⟨fun i a b => ?_, fun i k a b c => ?_, fun _ i a b => ?_, fun _ i a b => ?_⟩, ?_⟩
  · omega
  · omega
  · omega
  · omega
  · rw [eb]
    exact Regs.congr h (fun _ _ => rfl) f
theorem Regs.drop {op bs ph bg : Nat → Int32} {d om : Nat} (h : Regs op bs ph bg (d + 1) om) (e : om = (bs d).toNatClampNeg) : Regs op bs ph bg d om := e ▸ h.2.2
theorem Regs.less {op bs ph bg : Nat → Int32} {d om : Nat} (h : Regs op bs ph bg (d + 1) (om + 1)) (e : (bs d).toNatClampNeg ≤ om) : Regs op bs ph bg (d + 1) om := by
  obtain ⟨h1, ⟨a, b, c, k⟩, h3⟩ := h
  exact ⟨e, ⟨fun i p q => a i p (by omega), fun i j p q r => b i j p q (by omega), fun z i p q => c z i p (by omega), fun z i p q => k z i p (by omega)⟩, h3⟩
/-- the top frame's own marks change -/
theorem Regs.marks {op bs ph bg ph1 bg1 : Nat → Int32} {d om : Nat} (h : Regs op bs ph bg (d + 1) om) (f : ∀ j, j < d → ph1 j = ph j ∧ bg1 j = bg j) (hp : ph1 d = 0 → ∀ i, (bs d).toNatClampNeg ≤ i → i < om → rkV (op i) ≠ 4) (hb : bg1 d = 1 → ∀ i, (bs d).toNatClampNeg ≤ i → i < om → rkV (op i) ≤ 3) : Regs op bs ph1 bg1 (d + 1) om := by
  obtain ⟨h1, ⟨a, b, _, _⟩, h3⟩ := h
  exact ⟨h1, ⟨a, b, hp, hb⟩, Regs.congr h3 (fun _ _ => rfl) (fun j hj => ⟨rfl, f j hj⟩)⟩
theorem Regs.hold {op bs ph bg ph1 bg1 : Nat → Int32} {d om : Nat} {v : Int32} (h : Regs op bs ph bg (d + 1) om) (f : ∀ j, j < d → ph1 j = ph j ∧ bg1 j = bg j) (hs : ∀ i, (bs d).toNatClampNeg ≤ i → i < om → rkV (op i) ≤ rkV v) (hc : cBn op om + (if v = 22 then 0 else 1) ≤ 5 * d + lvV (rkV v)) (hp : ph1 d = 0 → rkV v ≠ 4 ∧ ∀ i, (bs d).toNatClampNeg ≤ i → i < om → rkV (op i) ≠ 4) (hb : bg1 d = 1 → rkV v ≤ 3) : Regs (upd op om v) bs ph1 bg1 (d + 1) (om + 1) := by
  obtain ⟨h1, ⟨a, b, _, _⟩, h3⟩ := h
  have off : ∀ i, i < om → upd op om v i = op i := fun i hi => up_off op v (Nat.ne_of_lt hi)
  refine ⟨by omega, ⟨fun i p q => ?_, fun i k p q r => ?_, fun z i p q => ?_, fun z i p q => ?_⟩, Regs.congr h3 (fun i hi => off i (by omega)) (fun j hj => ⟨rfl, f j hj⟩)⟩
  · rcases Nat.lt_or_ge i om with z | z
    · rw [off i z, cB_congr (i + 1) (fun k hk => off k (by omega))]
      exact a i p z
    · have e : i = om := by omega
      rw [e, up_at, cB_upd]
      exact hc
  · rcases Nat.lt_or_ge k om with z | z
    · rw [off i (by omega), off k z]
      exact b i k p q z
    · have e : k = om := by omega
      rw [e, up_at]
      rcases Nat.lt_or_ge i om with y | y
      · rw [off i y]
        exact hs i p y
      · have e2 : i = om := by omega
        rw [e2, up_at]
        exact Nat.le_refl _
  · rcases Nat.lt_or_ge i om with y | y
    · rw [off i y]
      exact (hp z).2 i p y
    · have e2 : i = om := by omega
      rw [e2, up_at]
      exact (hp z).1
  · rcases Nat.lt_or_ge i om with y | y
    · rw [off i y]
      exact Nat.le_trans (hs i p y) (hb z)
    · have e2 : i = om := by omega
      rw [e2, up_at]
      exact hb z
/-- how many are held back, under a bound of their ranks -/
theorem Regs.under {op bs ph bg : Nat → Int32} {d om r : Nat} (h : Regs op bs ph bg (d + 1) om) (hr : ∀ i, (bs d).toNatClampNeg ≤ i → i < om → rkV (op i) ≤ r) : cBn op om ≤ 5 * d + (if r = 0 then 0 else lvV r) := by
  obtain ⟨h1, h2, h3⟩ := h
  have h4 := h3.cB
  rcases Nat.lt_or_ge (bs d).toNatClampNeg om with q | q
  · obtain ⟨k, rfl⟩ : ∃ k, om = k + 1 := ⟨om - 1, by omega⟩
    have g1 := h2.1 k (by omega) (by omega)
    have g2 := hr k (by omega) (by omega)
    have g3 := lv_mono g2
    have g4 : 1 ≤ rkV (op k) := by
      unfold rkV
      repeat' split
      all_goals omega
    rw [if_neg (by omega)]
    omega
  · have e : om = (bs d).toNatClampNeg := by omega
    rw [e]
    omega
/-! heights -/
def hgt (f : Nat → Int32) (a : Nat) : Nat → Int
  | 0 => 0
  | n + 1 => hgt f a n + (if (f (a + n)).toInt ≤ 9 then 1 else if f (a + n) = 22 then 0 else -1)
def Seg (f : Nat → Int32) (a n : Nat) : Prop := ∀ k, k < n → 9 < (f (a + k)).toInt → (if f (a + k) = 22 then 1 else 2) ≤ hgt f a k
theorem hg_congr {f g : Nat → Int32} {a : Nat} : ∀ n, (∀ k, k < n → g (a + k) = f (a + k)) → hgt g a n = hgt f a n
  | 0, _ => rfl
  | n + 1, h => by
    show hgt g a n + (if (g (a + n)).toInt ≤ 9 then 1 else if g (a + n) = 22 then 0 else -1) = hgt f a n + (if (f (a + n)).toInt ≤ 9 then 1 else if f (a + n) = 22 then 0 else -1)
    rw [hg_congr n (fun k hk => h k (Nat.lt_succ_of_lt hk)), h n (Nat.lt_succ_self n)]
theorem Seg.congr {f g : Nat → Int32} {a n : Nat} (h : Seg f a n) (e : ∀ k, k < n → g (a + k) = f (a + k)) : Seg g a n := by
  intro k hk h9
  rw [e k hk] at h9 ⊢
  rw [hg_congr k (fun j hj => e j (by omega))]
  exact h k hk h9
theorem hg_snoc (f : Nat → Int32) (a n : Nat) (v : Int32) : hgt (upd f (a + n) v) a (n + 1) = hgt f a n + (if v.toInt ≤ 9 then 1 else if v = 22 then 0 else -1) := by
  show hgt (upd f (a + n) v) a n + (if (upd f (a + n) v (a + n)).toInt ≤ 9 then 1 else if upd f (a + n) v (a + n) = 22 then 0 else -1) = _
  rw [up_at, hg_congr n (fun k hk => up_off f v (by omega))]
theorem Seg.snoc {f : Nat → Int32} {a n : Nat} (h : Seg f a n) (v : Int32) (hv : 9 < v.toInt → (if v = 22 then 1 else 2) ≤ hgt f a n) : Seg (upd f (a + n) v) a (n + 1) := by
  intro k hk
  rcases Nat.lt_or_ge k n with q | q
  · rw [up_off f v (by omega), hg_congr k (fun j hj => up_off f v (by omega))]
    exact h k q
  · have e : k = n := by omega
    rw [e, up_at, hg_congr n (fun j hj => up_off f v (by omega))]
    exact hv
theorem hg_le (f : Nat → Int32) (a : Nat) : ∀ n : Nat, hgt f a n ≤ n
  | 0 => Int.le_refl _
  | n + 1 => by
    have := hg_le f a n
    show hgt f a n + (if (f (a + n)).toInt ≤ 9 then 1 else if f (a + n) = 22 then 0 else -1) ≤ ((n + 1 : Nat) : Int)
    split
    · omega
    · split <;> omega
def cKn (fr : Nat → Int32) : Nat → Nat
  | 0 => 0
  | d + 1 => cKn fr d + (if (fr d).toInt = 4 then 1 else 0)
theorem cK_congr {fr fr1 : Nat → Int32} : ∀ d, (∀ j, j < d → fr1 j = fr j) → cKn fr1 d = cKn fr d
  | 0, _ => rfl
  | d + 1, h => by
    show cKn fr1 d + (if (fr1 d).toInt = 4 then 1 else 0) = cKn fr d + (if (fr d).toInt = 4 then 1 else 0)
    rw [cK_congr d (fun j hj => h j (Nat.lt_succ_of_lt hj)), h d (Nat.lt_succ_self d)]
/-- the state between two signs of a rule: d + 1 frames, om held back, n written from a on, od: an operand stands -/
def RB (d om n a od : Nat) (fr ph bg pr bs op cs : Nat → Int32) : Prop :=
  Regs op bs ph bg (d + 1) om ∧ (fr 0).toInt ≤ 1 ∧ (∀ j, 1 ≤ j → j ≤ d → 2 ≤ (fr j).toInt) ∧ (∀ j, j ≤ d → ((fr j).toInt = 3 ∨ (fr j).toInt = 4) → (10 ≤ (pr j).toInt ∧ (pr j).toInt ≤ 21)) ∧ (∀ j, j < d → bg j = 0) ∧ (od = 1 → bg d = 0) ∧ (∀ i, i < om → 10 ≤ (op i).toInt) ∧ Seg cs a n ∧ hgt cs a n = ((cBn op om + cKn fr (d + 1) + od : Nat) : Int)
section
variable {d om n a od : Nat} {fr ph bg pr bs op cs : Nat → Int32}
theorem rb_not (h : RB d om n a 0 fr ph bg pr bs op cs) (hb : bg d = 1) : RB d (om + 1) n a 0 fr ph bg pr bs (upd op om 22) cs := by
  obtain ⟨h1, h2, h3, h4, h5, h6, h7, h8, h9⟩ := h
  have hr := h1.2.1.2.2.2 hb
  have hu := h1.under hr
  refine ⟨h1.hold (fun j _ => ⟨rfl, rfl⟩) (fun i p q => by rw [rk_22]; exact hr i p q) (by rw [rk_22]; exact hu) (fun z => ⟨by rw [rk_22]; decide, h1.2.1.2.2.1 z⟩) (fun _ => by rw [rk_22]; decide), h2, h3, h4, h5, fun z => absurd z (by decide), fun i hi => ?_, h8, ?_⟩
  · rcases Nat.lt_or_ge i om with q | q
    · rw [up_off op _ (Nat.ne_of_lt q)]
      exact h7 i q
    · have e : i = om := by omega
      rw [e, up_at]
      decide
  · rw [cB_upd, h9]
    rfl
theorem rb_beg0 (h : RB d om n a 0 fr ph bg pr bs op cs) : RB d om n a 0 fr ph (upd bg d 0) pr bs op cs := by
  obtain ⟨h1, h2, h3, h4, h5, h6, h7, h8, h9⟩ := h
  refine ⟨h1.marks (fun j hj => ⟨rfl, up_off bg _ (Nat.ne_of_lt hj)⟩) h1.2.1.2.2.1 (fun z => by rw [up_at] at z; exact absurd z (by decide)), h2, h3, h4, fun j hj => by rw [up_off bg _ (Nat.ne_of_lt hj)]; exact h5 j hj, fun z => absurd z (by decide), h7, h8, h9⟩
theorem rb_push {k o : Int32} {pr1 : Nat → Int32} (h : RB d om n a 0 fr ph bg pr bs op cs) (hb : bg d = 0) (h2k : 2 ≤ k.toInt) (h4k : ¬ k.toInt = 4) (ho : o.toNatClampNeg = om) (hp : ∀ j, j ≤ d → pr1 j = pr j) (hp1 : k.toInt = 3 → (10 ≤ (pr1 (d + 1)).toInt ∧ (pr1 (d + 1)).toInt ≤ 21)) : RB (d + 1) om n a 0 (upd fr (d + 1) k) (upd ph (d + 1) 0) (upd bg (d + 1) 1) pr1 (upd bs (d + 1) o) op cs := by
  obtain ⟨h1, h2, h3, h4, h5, h6, h7, h8, h9⟩ := h
  have off : ∀ (f : Nat → Int32) (x : Int32) (j : Nat), j < d + 1 → upd f (d + 1) x j = f j := fun f x j hj => up_off f x (Nat.ne_of_lt hj)
  refine ⟨h1.push (by rw [up_at]; exact ho) (fun j hj => ⟨off _ _ j hj, off _ _ j hj, off _ _ j hj⟩), by rw [off _ _ 0 (by omega)]; exact h2, fun j p q => ?_, fun j p q => ?_, fun j p => ?_, fun z => absurd z (by decide), h7, h8, ?_⟩
  · rcases Nat.lt_or_ge j (d + 1) with z | z
    · rw [off _ _ j z]
      exact h3 j p (by omega)
    · have e : j = d + 1 := by omega
      rw [e, up_at]
      exact h2k
  · rcases Nat.lt_or_ge j (d + 1) with z | z
    · rw [off _ _ j z] at q
      rw [hp j (by omega)]
      exact h4 j (by omega) q
    · have e : j = d + 1 := by omega
      rw [e, up_at] at q
      rw [e]
      rcases q with q | q
      · exact hp1 q
      · exact absurd q h4k
  · rw [off _ _ j p]
    rcases Nat.lt_or_ge j d with z | z
    · exact h5 j z
    · have e : j = d := by omega
      rw [e]
      exact hb
  · rw [h9]
    show _ = ((cBn op om + (cKn (upd fr (d + 1) k) (d + 1) + (if (upd fr (d + 1) k (d + 1)).toInt = 4 then 1 else 0)) + 0 : Nat) : Int)
    rw [up_at, if_neg h4k, cK_congr (d + 1) (fun j hj => off _ _ j hj)]
    rfl
theorem rb_val (h : RB d om n a 0 fr ph bg pr bs op cs) (hb : bg d = 0) (v : Int32) (hv : v.toInt ≤ 9) : RB d om (n + 1) a 1 fr ph bg pr bs op (upd cs (a + n) v) := by
  obtain ⟨h1, h2, h3, h4, h5, h6, h7, h8, h9⟩ := h
  refine ⟨h1, h2, h3, h4, h5, fun _ => hb, h7, h8.snoc v (fun z => absurd hv (by omega)), ?_⟩
  rw [hg_snoc, h9, if_pos hv]
  omega
theorem rb_ph (h : RB d om n a od fr ph bg pr bs op cs) (v : Int32) (hv : ¬ v = 0) : RB d om n a od fr (upd ph d v) bg pr bs op cs := by
  obtain ⟨h1, h2, h3, h4, h5, h6, h7, h8, h9⟩ := h
  exact ⟨h1.marks (fun j hj => ⟨up_off ph _ (Nat.ne_of_lt hj), rfl⟩) (fun z => by rw [up_at] at z; exact absurd z hv) h1.2.1.2.2.2, h2, h3, h4, h5, h6, h7, h8, h9⟩
theorem rb_join (h : RB d (om + 1) n a 1 fr ph bg pr bs op cs) (hb : (bs d).toNatClampNeg ≤ om) : RB d om (n + 1) a 1 fr ph bg pr bs op (upd cs (a + n) (op om)) := by
  obtain ⟨h1, h2, h3, h4, h5, h6, h7, h8, h9⟩ := h
  have h10 := h7 om (Nat.lt_succ_self om)
  have hn9 : ¬ (op om).toInt ≤ 9 := by omega
  by_cases z : op om = 22
  · have e : cBn op (om + 1) = cBn op om := by
      show cBn op om + (if op om = 22 then 0 else 1) = _
      rw [if_pos z]
      rfl
    rw [e] at h9
    refine ⟨h1.less hb, h2, h3, h4, h5, h6, fun i hi => h7 i (by omega), h8.snoc _ (fun _ => ?_), ?_⟩
    · rw [if_pos z, h9]
      omega
    · rw [hg_snoc, h9, if_neg hn9, if_pos z]
      omega
  · have e : cBn op (om + 1) = cBn op om + 1 := by
      show cBn op om + (if op om = 22 then 0 else 1) = _
      rw [if_neg z]
    rw [e] at h9
    refine ⟨h1.less hb, h2, h3, h4, h5, h6, fun i hi => h7 i (by omega), h8.snoc _ (fun _ => ?_), ?_⟩
    · rw [if_neg z, h9]
      omega
    · rw [hg_snoc, h9, if_neg hn9, if_neg z]
      omega
theorem rb_held {r : Nat} {v : Int32} {ph1 bg1 : Nat → Int32} (h : RB d om n a 1 fr ph bg pr bs op cs) (hr : ∀ i, (bs d).toNatClampNeg ≤ i → i < om → rkV (op i) ≤ r) (hv : r < rkV v) (hl : (if r = 0 then 0 else lvV r) + 1 ≤ lvV (rkV v)) (h10 : 10 ≤ v.toInt) (hn : ¬ v = 22) (f : ∀ j, j < d → ph1 j = ph j ∧ bg1 j = bg j) (hp : ph1 d = 0 → ¬ rkV v = 4 ∧ ∀ i, (bs d).toNatClampNeg ≤ i → i < om → ¬ rkV (op i) = 4) (hb : bg1 d = 1 → rkV v ≤ 3) : RB d (om + 1) n a 0 fr ph1 bg1 pr bs (upd op om v) cs := by
  obtain ⟨h1, h2, h3, h4, h5, h6, h7, h8, h9⟩ := h
  have hu := h1.under hr
  refine ⟨h1.hold f (fun i p q => Nat.le_of_lt (Nat.lt_of_le_of_lt (hr i p q) hv)) (by rw [if_neg hn]; omega) hp hb, h2, h3, h4, fun j hj => by rw [(f j hj).2]; exact h5 j hj, fun z => absurd z (by decide), fun i hi => ?_, h8, ?_⟩
  · rcases Nat.lt_or_ge i om with q | q
    · rw [up_off op _ (Nat.ne_of_lt q)]
      exact h7 i q
    · have e : i = om := by omega
      rw [e, up_at]
      exact h10
  · rw [cB_upd, h9, if_neg hn]
    omega
theorem rb_comma (h : RB d om n a 1 fr ph bg pr bs op cs) (h3d : (fr d).toInt = 3) : RB d om n a 0 (upd fr d 4) ph bg pr bs op cs := by
  obtain ⟨h1, h2, h3, h4, h5, h6, h7, h8, h9⟩ := h
  have hd : 0 < d := by
    rcases Nat.eq_zero_or_pos d with q | q
    · rw [q] at h3d
      omega
    · exact q
  refine ⟨h1, by rw [up_off fr _ (by omega)]; exact h2, fun j p q => ?_, fun j p q => ?_, h5, fun z => absurd z (by decide), h7, h8, ?_⟩
  · by_cases e : j = d
    · rw [e, up_at]
      decide
    · rw [up_off fr _ e]
      exact h3 j p q
  · by_cases e : j = d
    · rw [e]
      exact h4 d (Nat.le_refl d) (Or.inl h3d)
    · rw [up_off fr _ e] at q
      exact h4 j p q
  · have e1 : cKn (upd fr d 4) (d + 1) = cKn fr d + 1 := by
      show cKn (upd fr d 4) d + (if (upd fr d 4 d).toInt = 4 then 1 else 0) = _
      rw [up_at, cK_congr d (fun j hj => up_off fr _ (Nat.ne_of_lt hj))]
      rfl
    have e2 : cKn fr (d + 1) = cKn fr d + (if (fr d).toInt = 4 then 1 else 0) := rfl
    rw [h9, e1, e2, if_neg (by omega)]
    omega
theorem rb_close (h : RB (d + 1) om n a 1 fr ph bg pr bs op cs) (ho : om = (bs (d + 1)).toNatClampNeg) (h4d : ¬ (fr (d + 1)).toInt = 4) : RB d om n a 1 fr ph bg pr bs op cs := by
  obtain ⟨h1, h2, h3, h4, h5, h6, h7, h8, h9⟩ := h
  have e2 : cKn fr (d + 2) = cKn fr (d + 1) + (if (fr (d + 1)).toInt = 4 then 1 else 0) := rfl
  refine ⟨h1.drop ho, h2, fun j p q => h3 j p (by omega), fun j p q => h4 j (by omega) q, fun j p => h5 j (by omega), fun _ => h5 d (by omega), h7, h8, ?_⟩
  rw [h9, e2, if_neg h4d]
  rfl
theorem rb_pair (h : RB (d + 1) om n a 1 fr ph bg pr bs op cs) (ho : om = (bs (d + 1)).toNatClampNeg) (h4d : (fr (d + 1)).toInt = 4) : RB d om (n + 1) a 1 fr ph bg pr bs op (upd cs (a + n) (pr (d + 1))) := by
  obtain ⟨h1, h2, h3, h4, h5, h6, h7, h8, h9⟩ := h
  have hp := h4 (d + 1) (Nat.le_refl _) (Or.inr h4d)
  have e2 : cKn fr (d + 2) = cKn fr (d + 1) + (if (fr (d + 1)).toInt = 4 then 1 else 0) := rfl
  rw [e2, if_pos h4d] at h9
  have hne : ¬ pr (d + 1) = 22 := fun z => by
    rw [z] at hp
    exact absurd hp.2 (by decide)
  refine ⟨h1.drop ho, h2, fun j p q => h3 j p (by omega), fun j p q => h4 j (by omega) q, fun j p => h5 j (by omega), fun _ => h5 d (by omega), h7, h8.snoc _ (fun _ => ?_), ?_⟩
  · rw [if_neg hne, h9]
    omega
  · rw [hg_snoc, h9, if_neg (by omega), if_neg hne]
    omega
theorem rb_init {k o : Int32} (hk : k.toInt ≤ 1) (ho : o.toNatClampNeg = 0) (hk0 : 0 ≤ k.toInt) : RB 0 0 0 a 0 (upd fr 0 k) (upd ph 0 0) (upd bg 0 1) pr (upd bs 0 o) op cs := by
  refine ⟨⟨by rw [up_at]; omega, ⟨fun i p q => by omega, fun i k p q r => by omega, fun _ i p q => by omega, fun _ i p q => by omega⟩, ?_⟩, by rw [up_at]; exact hk, fun j p q => by omega, fun j p q => ?_, fun j p => by omega, fun z => absurd z (by decide), fun i hi => by omega, fun k hk => by omega, ?_⟩
  · show (upd bs 0 o 0).toNatClampNeg = 0
    rw [up_at]
    exact ho
  · have e : j = 0 := by omega
    rw [e, up_at] at q
    omega
  · show (0 : Int) = ((0 + (0 + (if (upd fr 0 k 0).toInt = 4 then 1 else 0)) + 0 : Nat) : Int)
    rw [up_at, if_neg (by omega)]
    rfl
/-- how many 'not's are held back -/
def nNn (op : Nat → Int32) (om : Nat) : Nat := om - cBn op om
theorem rb_many (h : RB d om n a od fr ph bg pr bs op cs) : om ≤ nNn op om + 5 * (d + 1) := by
  have := h.1.cB
  unfold nNn
  omega
theorem nN_not (op : Nat → Int32) (om : Nat) : nNn (upd op om 22) (om + 1) = nNn op om + 1 := by
  have h1 : cBn (upd op om 22) (om + 1) = cBn op om := by
    rw [cB_upd]
    rfl
  have h2 := cB_le op om
  unfold nNn
  rw [h1]
  omega
theorem nN_hold (op : Nat → Int32) (om : Nat) {v : Int32} (hv : ¬ v = 22) : nNn (upd op om v) (om + 1) = nNn op om := by
  have h1 : cBn (upd op om v) (om + 1) = cBn op om + 1 := by rw [cB_upd, if_neg hv]
  unfold nNn
  rw [h1]
  omega
theorem nN_less (op : Nat → Int32) (om : Nat) : nNn op om ≤ nNn op (om + 1) := by
  have h1 : cBn op (om + 1) = cBn op om + (if op om = 22 then 0 else 1) := rfl
  unfold nNn
  rw [h1]
  split <;> omega
end
