def fBetter (a : Int32) : Int32 := if a < 1 then -1 else if 2000 < a then -1 else 0
def fFree (a : Int32) : Int32 := if a < 1 then -1 else if 60 < a then -1 else 1
def isR (a lo hi : Int32) : Int32 := if a < lo then 0 else if hi < a then 0 else 1
theorem isR_0 {a lo hi : Int32} : isR a lo hi = 0 ↔ a < lo ∨ hi < a := by
  unfold isR
  split
  · rename_i h; exact ⟨fun _ => Or.inl h, fun _ => rfl⟩
  · rename_i h
    split
    · rename_i h2; exact ⟨fun _ => Or.inr h2, fun _ => rfl⟩
    · rename_i h2; exact ⟨fun q => absurd q (by decide), fun q => q.elim (fun z => absurd z h) (fun z => absurd z h2)⟩
theorem isR_if {α : Type} {a lo hi : Int32} {x y : α} : (if a < lo then x else if hi < a then x else y) = if isR a lo hi = 0 then x else y := by
  by_cases h : isR a lo hi = 0
  · rw [if_pos h]
    rcases isR_0.mp h with q | q
    · rw [if_pos q]
    · rw [if_pos q, ite_self]
  · rw [if_neg h, if_neg (fun q => h (isR_0.mpr (Or.inl q))), if_neg (fun q => h (isR_0.mpr (Or.inr q)))]
theorem isR_lo {a lo hi : Int32} (h : ¬ isR a lo hi = 0) : ¬ a < lo := fun q => h (isR_0.mpr (Or.inl q))
theorem isR_hi {a lo hi : Int32} (h : ¬ isR a lo hi = 0) : ¬ hi < a := fun q => h (isR_0.mpr (Or.inr q))
theorem isR_B {a h b : Int32} (e : b.toInt = h.toInt + 1) : isR a 0 h = isB a b := by
  unfold isR isB
  split
  · rfl
  · by_cases q : h < a
    · rw [if_pos q, if_pos]
      rw [tlt] at q
      rw [tle]
      omega
    · rw [if_neg q, if_neg]
      rw [tlt] at q
      rw [tle]
      omega
theorem isR_none (a : Int32) : isR a 0 (-1) = 0 := by
  rw [isR_0]
  by_cases h : a < 0
  · exact Or.inl h
  · refine Or.inr ?_
    rw [tlt] at h ⊢
    have h0 : (0 : Int32).toInt = 0 := rfl
    have h1 : (-1 : Int32).toInt = -1 := rfl
    omega
theorem nar_isR (a b d : Int32) : narrow .boolean (.int (isR a b d)) = .int (isR a b d) := by
  unfold isR
  split
  · rfl
  · split <;> rfl
theorem isR_P (a : Int32) : isR a 0 100 = isP a := rfl
theorem vin10 {d x : Int32} (h : ¬ isB d 5 = 0) (e : x = 0 + d) : vp_in x 10 := by
  have e2 : x = d := by rw [e, Int32.zero_add]
  rw [e2]
  have h5 : vp_in d 5 := isB_in h rfl
  rw [vp_in_iff] at h5 ⊢
  omega
theorem fJudge_out {a : Int32} (h : isR a 0 2 = 0) : (-1 : Int32) = fJudge a := by
  unfold fJudge
  rw [if_neg (fun q => by rw [q] at h; exact absurd h (by decide +kernel))]
theorem fShould_out {a : Int32} (h : isR a 0 2 = 0) : (-1 : Int32) = fShould a := by
  unfold fShould
  rw [if_neg (fun q => by rw [q] at h; exact absurd h (by decide +kernel)), if_neg (fun q => by rw [q] at h; exact absurd h (by decide +kernel)), if_neg (fun q => by rw [q] at h; exact absurd h (by decide +kernel))]
theorem two_of {a : Int32} (h : ¬ isR a 0 2 = 0) (h0 : ¬ a = 0) (h1 : ¬ a = 1) : a = 2 := by
  have q1 := isR_lo h
  have q2 := isR_hi h
  rw [tlt] at q1 q2
  have e0 : (0 : Int32).toInt = 0 := rfl
  have e1 : (1 : Int32).toInt = 1 := rfl
  have e2 : (2 : Int32).toInt = 2 := rfl
  have n0 : ¬ a.toInt = (0 : Int32).toInt := fun q => h0 (Int32.toInt_inj.mp q)
  have n1 : ¬ a.toInt = (1 : Int32).toInt := fun q => h1 (Int32.toInt_inj.mp q)
  exact Int32.toInt_inj.mp (by omega)
theorem fShould_2 {a : Int32} (h : ¬ isR a 0 2 = 0) (h0 : ¬ a = 0) (h1 : ¬ a = 1) : (0 : Int32) = fShould a := by
  rw [two_of h h0 h1]
  decide +kernel
theorem nlt_le {a b : Int32} (h : ¬ a < b) : b ≤ a := by
  rw [tlt] at h
  rw [tle]
  omega
/-! how many come: the pure picture -/
def d0 : Nat → Int64 := fun j => if j = 0 then 1000000000000 else 0
def stp (c : Int32) (f : Nat → Int64) : Nat → Int64 := fun j => (f j * (100 - c).toInt64 + (if j = 0 then 0 else f (j - 1) * c.toInt64)) / 100
def dst (c : Int32) : Nat → Nat → Int64
  | 0 => d0
  | k + 1 => stp c (dst c k)
def sm (f : Nat → Int64) (a : Nat) : Nat → Int64
  | 0 => 0
  | m + 1 => sm f a m + f (a + m)
def ov (c : Int32) (t : Nat) (pt : Int32) : Nat → Int32
  | 0 => 0
  | k + 1 => if 0 < lg_cmp (sm (dst c (k + 1)) (t + 1) (k + 1 - t)) (pt.toInt64 * 10000000000) then ov c t pt k else nI (k + 1)
theorem sm_congr {f g : Nat → Int64} {a : Nat} : ∀ m, (∀ j, a ≤ j → j < a + m → f j = g j) → sm f a m = sm g a m
  | 0, _ => rfl
  | m + 1, h => by
    unfold sm
    rw [sm_congr m (fun j h1 h2 => h j h1 (by omega)), h (a + m) (by omega) (by omega)]
theorem sm_pad {f : Nat → Int64} {a m : Nat} : ∀ t, (∀ j, a + m ≤ j → j < a + m + t → f j = 0) → sm f a (m + t) = sm f a m
  | 0, _ => rfl
  | t + 1, h => by
    show sm f a (m + t) + f (a + (m + t)) = sm f a m
    rw [sm_pad t (fun j h1 h2 => h j h1 (by omega)), h (a + (m + t)) (by omega) (by omega), Int64.add_zero]
theorem stp_zero {c : Int32} {f : Nat → Int64} {j : Nat} (h1 : f j = 0) (h2 : f (j - 1) = 0) : stp c f j = 0 := by
  unfold stp
  rw [h1, h2, Int64.zero_mul, Int64.zero_mul, ite_self]
  decide +kernel
theorem dst_big {c : Int32} : ∀ k j, k < j → dst c k j = 0
  | 0, j, h => by
    show d0 j = 0
    unfold d0
    rw [if_neg (by omega)]
  | k + 1, j, h => stp_zero (dst_big k j (by omega)) (dst_big k (j - 1) (by omega))
theorem stp_congr {c : Int32} {f g : Nat → Int64} {j : Nat} (h1 : f j = g j) (h2 : f (j - 1) = g (j - 1)) : stp c f j = stp c g j := by
  unfold stp
  rw [h1, h2]
theorem hund : ∀ p, p < 101 → ¬ (0 : Int32) < lg_cmp 0 ((nI p).toInt64 * 10000000000) := by decide +kernel
theorem hundP {b : Int32} (h : ¬ isP b = 0) : ¬ (0 : Int32) < lg_cmp 0 (b.toInt64 * 10000000000) := by
  have h1 : ¬ b < 0 := fun q => h (by unfold isP; rw [if_pos q])
  have h2 : ¬ (100 : Int32) < b := fun q => h (by unfold isP; rw [if_neg h1, if_pos q])
  obtain ⟨p, hp, rfl⟩ := nI_of2 (n := 100) (M := 100) rfl h1 (nlt_le h2)
  exact hund p (by omega)
theorem begin_inv {u f : Nat → Int64} (hw : ∀ j, j < 41 → u j = 0) (e : f = vp_updL u (Int32.toNatClampNeg 0) 1000000000000) : ∀ j, j < 41 → f j = d0 j := by
  intro j hj
  rw [e]
  unfold vp_updL d0
  rw [show Int32.toNatClampNeg 0 = 0 from rfl]
  split
  · rfl
  · exact hw j hj
theorem mx0 {t : Nat} (h : t + 1 < 2 ^ 31) : (if (0 : Int32) < nI (t + 1) then nI (t + 1) else 0) = nI (t + 1) := if_pos (nI_lt (a := 0) (b := t + 1) (by omega) h)
theorem sm_next {f : Nat → Int64} {t i : Nat} {z x : Int64} (h : z = sm f (t + 1) (i - (t + 1)) ∧ t + 1 ≤ i) (ex : x = z + f i) : x = sm f (t + 1) (i + 1 - (t + 1)) ∧ t + 1 ≤ i + 1 := by
  refine ⟨?_, by omega⟩
  rw [show i + 1 - (t + 1) = (i - (t + 1)) + 1 by omega]
  show x = sm f (t + 1) (i - (t + 1)) + f (t + 1 + (i - (t + 1)))
  rw [show t + 1 + (i - (t + 1)) = i by omega, ← h.1]
  exact ex
/-- one more, from above down to 1: class -/
theorem ad_inv {f f1 f0 : Nat → Int64} {k n : Nat} {c x1 : Int32} {x2 x3 x4 x5 : Int64} (hk : k ≤ n) (hn : n < 40) (h : (∀ j, j ≤ k + 1 → f j = f0 j) ∧ (∀ j, k + 1 < j → j ≤ n + 1 → f j = stp c f0 j) ∧ ∀ j, n + 1 < j → j < 41 → f j = f0 j)
    (e1 : x1 = 100 - c) (e2 : x2 = f (k + 1) * x1.toInt64) (e3 : x3 = f k * c.toInt64) (e4 : x4 = x2 + x3) (e5 : x5 = x4 / 100) (e : f1 = vp_updL f (nI (k + 1)).toNatClampNeg x5) :
    (∀ j, j ≤ k → f1 j = f0 j) ∧ (∀ j, k < j → j ≤ n + 1 → f1 j = stp c f0 j) ∧ ∀ j, n + 1 < j → j < 41 → f1 j = f0 j := by
  rw [nI_clamp (by omega)] at e
  have hx : x5 = stp c f0 (k + 1) := by
    unfold stp
    rw [e5, e4, e3, e2, e1, h.1 (k + 1) (by omega), h.1 k (by omega), if_neg (by omega)]
    rfl
  refine ⟨fun j hj => ?_, fun j h1 h2 => ?_, fun j h1 h2 => ?_⟩
  · rw [e, pk_uLn (by omega)]; exact h.1 j (by omega)
  · by_cases hj : j = k + 1
    · rw [hj, e, pk_uLs, hx]
    · rw [e, pk_uLn hj]; exact h.2.1 j (by omega) h2
  · rw [e, pk_uLn (by omega)]; exact h.2.2 j h1 h2
/-- .. and at 0 -/
theorem ad_end {f f1 f0 : Nat → Int64} {n : Nat} {c x1 : Int32} {x2 x3 : Int64} (hn : n < 40) (hf : ∀ j, j < 41 → f0 j = dst c n j) (h : (∀ j, j ≤ 0 → f j = f0 j) ∧ (∀ j, 0 < j → j ≤ n + 1 → f j = stp c f0 j) ∧ ∀ j, n + 1 < j → j < 41 → f j = f0 j)
    (e1 : x1 = 100 - c) (e2 : x2 = f 0 * x1.toInt64) (e3 : x3 = x2 / 100) (e : f1 = vp_updL f (Int32.toNatClampNeg 0) x3) : ∀ j, j < 41 → f1 j = dst c (n + 1) j := by
  intro j hj
  rw [show Int32.toNatClampNeg 0 = 0 from rfl] at e
  show f1 j = stp c (dst c n) j
  by_cases h0 : j = 0
  · subst h0
    rw [e, pk_uLs, e3, e2, e1, h.1 0 (by omega), hf 0 (by omega)]
    unfold stp
    rw [if_pos rfl, Int64.add_zero]
  · rw [e, pk_uLn h0]
    by_cases h1 : j ≤ n + 1
    · rw [h.2.1 j (by omega) h1]
      exact stp_congr (hf j hj) (hf (j - 1) (by omega))
    · rw [h.2.2 j (by omega) hj, hf j hj, dst_big n j (by omega)]
      exact (stp_zero (dst_big n j (by omega)) (dst_big n (j - 1) (by omega))).symm
/-- one more, from above down to 0: the reference -/
theorem om_inv {f f1 f0 : Nat → Int64} {k : Nat} {c x1 : Int32} {x2 y x4 x5 : Int64} (hk : k < 64) (h : (∀ j, j < k + 1 → f j = f0 j) ∧ ∀ j, k + 1 ≤ j → j < 64 → f j = stp c f0 j)
    (e1 : x1 = 100 - c) (e2 : x2 = f k * x1.toInt64) (e3 : y = if k = 0 then 0 else f (k - 1) * c.toInt64) (e4 : x4 = x2 + y) (e5 : x5 = x4 / 100) (e : f1 = vp_updL f (nI k).toNatClampNeg x5) :
    (∀ j, j < k → f1 j = f0 j) ∧ ∀ j, k ≤ j → j < 64 → f1 j = stp c f0 j := by
  rw [nI_clamp (by omega)] at e
  have hx : x5 = stp c f0 k := by
    unfold stp
    rw [e5, e4, e3, e2, e1, h.1 k (by omega)]
    by_cases h0 : k = 0
    · rw [if_pos h0, if_pos h0]
    · rw [if_neg h0, if_neg h0, h.1 (k - 1) (by omega)]
  refine ⟨fun j hj => ?_, fun j h1 h2 => ?_⟩
  · rw [e, pk_uLn (by omega)]; exact h.1 j (by omega)
  · by_cases hj : j = k
    · rw [hj, e, pk_uLs, hx]
    · rw [e, pk_uLn hj]; exact h.2 j (by omega) h2
theorem om_end {f f0 : Nat → Int64} {n : Nat} {c : Int32} (hf : ∀ j, j < 64 → f0 j = dst c n j) (h : (∀ j, j < 0 → f j = f0 j) ∧ ∀ j, 0 ≤ j → j < 64 → f j = stp c f0 j) : ∀ j, j < 64 → f j = dst c (n + 1) j := by
  intro j hj
  rw [h.2 j (by omega) hj]
  exact stp_congr (hf j hj) (hf (j - 1) (by omega))
theorem m1_in {k N : Nat} {x : Int32} (hk : ¬ nI k ≤ 0) (h : k < N) (hN : N < 2 ^ 31) (e : x = nI k - 1) : vp_in x N ∧ x.toNatClampNeg = k - 1 := by
  have h0 : 0 < k := by
    rcases Nat.eq_zero_or_pos k with q | q
    · exact absurd (by rw [q]; decide +kernel) hk
    · exact q
  have e2 : x = nI (k - 1) := by
    rw [e]
    have := nI_pred (k - 1)
    rw [show k - 1 + 1 = k by omega] at this
    exact this
  rw [e2]
  exact ⟨vp_in_nI (by omega) hN, nI_clamp (by omega)⟩
theorem sub1 (k : Nat) : nI k + (-1) = nI k - 1 := by rw [Int32.sub_eq_add_neg]
theorem m1_0 : (nI 0 - 1 : Int32) = -1 := by decide +kernel
theorem k_eq0 {k : Nat} (h : nI k ≤ 0) (hk : k < 2 ^ 31) : k = 0 := by
  rcases Nat.eq_zero_or_pos k with q | q
  · exact q
  · exact absurd h (nI_nle q hk)
theorem k_ne0 {k : Nat} (h : ¬ nI k ≤ 0) : ¬ k = 0 := fun q => h (by rw [q]; decide +kernel)
theorem nb_inv {f f1 : Nat → Int64} {i : Nat} {v : Int64} (hi : i < 64) (hI : ∀ j, j < i → f j = d0 j) (e : f1 = vp_updL f (nI i).toNatClampNeg v) (hv : v = d0 i) : ∀ j, j < i + 1 → f1 j = d0 j := by
  intro j hj
  rw [e, nI_clamp (by omega)]
  by_cases h : j = i
  · rw [h, pk_uLs, hv]
  · rw [pk_uLn h]; exact hI j (by omega)
/-- the sums of the two sides are one -/
theorem sm_cut {u : Nat → Int64} {c : Int32} {n t : Nat} (hu : ∀ j, j < 64 → u j = dst c n j) (hn : n ≤ 40) (ht : t ≤ 40) : sm u (t + 1) (63 - t) = sm (dst c n) (t + 1) (n - t) := by
  rw [sm_congr (g := dst c n) (63 - t) (fun j h1 h2 => hu j (by omega))]
  rw [show 63 - t = (n - t) + (63 - t - (n - t)) by omega]
  exact sm_pad _ (fun j h1 h2 => dst_big n j (by omega))
theorem sm_own {u : Nat → Int64} {c : Int32} {n t : Nat} (hu : ∀ j, j < 41 → u j = dst c n j) (hn : n ≤ 40) : sm u (t + 1) (n - t) = sm (dst c n) (t + 1) (n - t) := sm_congr (n - t) (fun j h1 h2 => hu j (by omega))
theorem ov_y {c pt w : Int32} {t i : Nat} {r x : Int64} (hr : r = sm (dst c (i + 1)) (t + 1) (i + 1 - t)) (ex : x = pt.toInt64 * 10000000000) (ew : w = lg_cmp r x) (h : 0 < w) {mo : Int32} (hm : mo = ov c t pt i) : mo = ov c t pt (i + 1) := by
  unfold ov
  rw [if_pos (by rw [← hr, ← ex, ← ew]; exact h)]
  exact hm
theorem ov_n {c pt w : Int32} {t i : Nat} {r x : Int64} (hr : r = sm (dst c (i + 1)) (t + 1) (i + 1 - t)) (ex : x = pt.toInt64 * 10000000000) (ew : w = lg_cmp r x) (h : ¬ 0 < w) : nI (i + 1) = ov c t pt (i + 1) := by
  unfold ov
  rw [if_neg (by rw [← hr, ← ex, ← ew]; exact h)]
def fLikely (a b : Int32) : Int64 := if isB a 5 = 0 then -1 else if b < 0 then -1 else if 30 < b then -1 else 0
def fEnough (a b : Int32) : Int32 := if isB a 5 = 0 then -1 else if isP b = 0 then -1 else 0
def fStairs (a : Int32) : Int64 := if isB a 5 = 0 then -1 else 0
def fOver (a b d : Int32) : Int32 := if isP a = 0 then -1 else if isP d = 0 then -1 else if b < 0 then -1 else if 40 < b then -1 else ov a b.toNatClampNeg d 40
theorem sm_d0 {u : Nat → Int64} {t : Nat} (hu : ∀ j, j < 64 → u j = d0 j) (ht : t ≤ 40) : sm u (t + 1) (63 - t) = 0 := by
  have := sm_pad (f := u) (a := t + 1) (m := 0) (63 - t) (fun j h1 h2 => by rw [hu j (by omega)]; unfold d0; rw [if_neg (by omega)])
  rw [Nat.zero_add] at this
  exact this
theorem fOver_main {a d : Int32} {t : Nat} (h1 : ¬ isP a = 0) (h2 : ¬ isP d = 0) (ht : t ≤ 40) : ov a t d 40 = fOver a (nI t) d := by
  unfold fOver
  rw [if_neg h1, if_neg h2, if_neg (nI_pos (by omega)), if_neg (show ¬ (40 : Int32) < nI t from nI_nlt (a := 40) (b := t) ht (by decide)), nI_clamp (by omega)]
theorem fLikely_main {a : Int32} {t : Nat} (h1 : ¬ isB a 5 = 0) (ht : t ≤ 30) : (0 : Int64) = fLikely a (nI t) := by
  unfold fLikely
  rw [if_neg h1, if_neg (nI_pos (by omega)), if_neg (show ¬ (30 : Int32) < nI t from nI_nlt (a := 30) (b := t) ht (by decide))]
theorem sm_none {u : Nat → Int64} {t : Nat} : sm u (t + 1) (0 - t) = 0 := by
  rw [Nat.zero_sub]
  rfl
theorem mul0 {x : Int64} : x * 0 = 0 := Int64.mul_zero
