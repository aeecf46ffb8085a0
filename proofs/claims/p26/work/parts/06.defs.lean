def isB (a b : Int32) : Int32 := if a < 0 then 0 else if b ≤ a then 0 else 1
def isP (a : Int32) : Int32 := if a < 0 then 0 else if 100 < a then 0 else 1
theorem tlt (a b : Int32) : a < b ↔ a.toInt < b.toInt := Int32.lt_iff_toInt_lt
theorem tle (a b : Int32) : a ≤ b ↔ a.toInt ≤ b.toInt := Int32.le_iff_toInt_le
theorem isB_0 (a : Int32) : isB a 0 = 0 := by
  unfold isB
  split
  · rfl
  · rename_i h
    rw [if_pos]
    rw [tlt] at h
    rw [tle]
    omega
theorem nar_isB (a b : Int32) : narrow .boolean (.int (isB a b)) = .int (isB a b) := by
  unfold isB
  split
  · rfl
  · split <;> rfl
theorem nar_isP (a : Int32) : narrow .boolean (.int (isP a)) = .int (isP a) := by
  unfold isP
  split
  · rfl
  · split <;> rfl
theorem isB_in {d b : Int32} {n : Nat} (h : ¬ isB d b = 0) (hb : b.toInt = (n : Int)) : vp_in d n := by
  rw [vp_in_iff]
  unfold isB at h
  split at h
  · exact absurd rfl h
  · split at h
    · exact absurd rfl h
    · rename_i h1 h2
      rw [tlt] at h1
      rw [tle] at h2
      have h0 : (0 : Int32).toInt = 0 := rfl
      omega
def fFault (a : Int32) : Int32 := if a = 0 then 0 else -1
def fHas (a : Int32) : Int32 := if a = 0 then 0 else if a = 1 then 0 else if a = 2 then 0 else if a = 3 then 0 else if a = 4 then 0 else if a = 5 then 0 else if a = 6 then 0 else if a = 7 then 50 else if a = 8 then 0 else -1
def fDay (a b : Int32) : Int32 := if isB a 5 = 0 then -1 else if b = 0 then 0 else if b = 1 then 0 else if b = 2 then 0 else -1
def fJudge (a : Int32) : Int32 := if a = 0 then 0 else -1
def fShould (a : Int32) : Int32 := if a = 0 then -1 else if a = 1 then 0 else if a = 2 then 0 else -1
def fStatus (a : Int32) : Int32 := if isB a 6 = 0 then -1 else 0
def fEnd (a : Int32) : Int32 := if a < 0 then 0 else if a ≤ 0 then 1 else 0
def fSeed (a : Int32) : Int32 := if a < 0 then 0 else 1
def fNever (a : Int32) : Int32 := if a < 1 then -1 else if 9 < a then -1 else 0
def fFit (a b : Int32) : Int32 := if isB a 5 = 0 then -1000000000 else if b < 0 then -1000000000 else if 2 < b then -1000000000 else 0
def fDraw (a : Int32) : Int32 := if isB a 5 = 0 then -1 else 0
theorem fill_inv {f f1 : Nat → Int64} {i : Nat} {v : Int64} (hI : ∀ j, j < i → f j = v) (e : f1 = vp_updL f (nI i).toNatClampNeg v) (hi : i < 2 ^ 31) : ∀ j, j < i + 1 → f1 j = v := by
  intro j hj
  rw [e, nI_clamp hi]
  unfold vp_updL
  split
  · rfl
  · exact hI j (by omega)
