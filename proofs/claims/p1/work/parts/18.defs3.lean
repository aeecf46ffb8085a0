def isR (a lo hi : Int32) : Int32 := if a < lo then 0 else if hi < a then 0 else 1
theorem isR_0 {a lo hi : Int32} : isR a lo hi = 0 ↔ a < lo ∨ hi < a := by
  unfold isR
  split
  · rename_i h; exact ⟨fun _ => Or.inl h, fun _ => rfl⟩
  · rename_i h
    split
    · rename_i h2; exact ⟨fun _ => Or.inr h2, fun _ => rfl⟩
    · rename_i h2; exact ⟨fun q => absurd q (by decide), fun q => q.elim (fun z => absurd z h) (fun z => absurd z h2)⟩
theorem isR_if {α : Type} {a lo hi : Int32} {x y : α} : (if a < lo then x else if hi < a then x else y) = if isR a lo hi = 0 then x else y := by
  by_cases h : isR a lo hi = 0
  · rw [if_pos h]
    rcases isR_0.mp h with q | q
    · rw [if_pos q]
    · rw [if_pos q, ite_self]
  · rw [if_neg h, if_neg (fun q => h (isR_0.mpr (Or.inl q))), if_neg (fun q => h (isR_0.mpr (Or.inr q)))]
theorem isR_lo {a lo hi : Int32} (h : ¬ isR a lo hi = 0) : ¬ a < lo := fun q => h (isR_0.mpr (Or.inl q))
theorem isR_hi {a lo hi : Int32} (h : ¬ isR a lo hi = 0) : ¬ hi < a := fun q => h (isR_0.mpr (Or.inr q))
theorem isR_B {a h b : Int32} (e : b.toInt = h.toInt + 1) : isR a 0 h = isB a b := by
  unfold isR isB
  split
  · rfl
  · by_cases q : h < a
    · rw [if_pos q, if_pos]
      rw [tlt] at q
      rw [tle]
      omega
    · rw [if_neg q, if_neg]
      rw [tlt] at q
      rw [tle]
      omega
theorem isR_none (a : Int32) : isR a 0 (-1) = 0 := by
  rw [isR_0]
  by_cases h : a < 0
  · exact Or.inl h
  · refine Or.inr ?_
    rw [tlt] at h ⊢
    have h0 : (0 : Int32).toInt = 0 := rfl
    have h1 : (-1 : Int32).toInt = -1 := rfl
    omega
theorem nar_isR (a b d : Int32) : narrow .boolean (.int (isR a b d)) = .int (isR a b d) := by
  unfold isR
  split
  · rfl
  · split <;> rfl
theorem isR_P (a : Int32) : isR a 0 100 = isP a := rfl
theorem vin10 {d x : Int32} (h : ¬ isB d 5 = 0) (e : x = 0 + d) : vp_in x 10 := by
  have e2 : x = d := by rw [e, Int32.zero_add]
  rw [e2]
  have h5 : vp_in d 5 := isB_in h rfl
  rw [vp_in_iff] at h5 ⊢
  omega
theorem fJudge_out {a : Int32} (h : isR a 0 2 = 0) : (-1 : Int32) = fJudge a := by
  unfold fJudge
  rw [if_neg (fun q => by rw [q] at h; exact absurd h (by decide +kernel))]
theorem fShould_out {a : Int32} (h : isR a 0 2 = 0) : (-1 : Int32) = fShould a := by
  unfold fShould
  rw [if_neg (fun q => by rw [q] at h; exact absurd h (by decide +kernel)), if_neg (fun q => by rw [q] at h; exact absurd h (by decide +kernel)), if_neg (fun q => by rw [q] at h; exact absurd h (by decide +kernel))]
theorem two_of {a : Int32} (h : ¬ isR a 0 2 = 0) (h0 : ¬ a = 0) (h1 : ¬ a = 1) : a = 2 := by
  have q1 := isR_lo h
  have q2 := isR_hi h
  rw [tlt] at q1 q2
  have e0 : (0 : Int32).toInt = 0 := rfl
  have e1 : (1 : Int32).toInt = 1 := rfl
  have e2 : (2 : Int32).toInt = 2 := rfl
  have n0 : ¬ a.toInt = (0 : Int32).toInt := fun q => h0 (Int32.toInt_inj.mp q)
  have n1 : ¬ a.toInt = (1 : Int32).toInt := fun q => h1 (Int32.toInt_inj.mp q)
  exact Int32.toInt_inj.mp (by omega)
theorem fShould_2 {a : Int32} (h : ¬ isR a 0 2 = 0) (h0 : ¬ a = 0) (h1 : ¬ a = 1) : (0 : Int32) = fShould a := by
  rw [two_of h h0 h1]
  decide +kernel
theorem nlt_le {a b : Int32} (h : ¬ a < b) : b ≤ a := by
  rw [tlt] at h
  rw [tle]
  omega
