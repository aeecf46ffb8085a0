/-! ranks by values; one step of joins (UNTRIED at the end of start 2) -/
theorem rk_1 {x : Int32} (h : x.toInt = 21) : rkV x = 1 := by
  have e : x = 21 := Int32.toInt_inj.mp h
  rw [e]
  decide
theorem rk_2 {x : Int32} (h : x.toInt = 20) : rkV x = 2 := by
  have e : x = 20 := Int32.toInt_inj.mp h
  rw [e]
  decide
theorem rk_3 {x : Int32} (h : x.toInt = 22) : rkV x = 3 := by
  have e : x = 22 := Int32.toInt_inj.mp h
  rw [e]
  decide
theorem rk_4 {x : Int32} (h : x.toInt = 17 ∨ x.toInt = 18 ∨ x.toInt = 19) : rkV x = 4 := by
  rcases h with h | h | h
  · have e : x = 17 := Int32.toInt_inj.mp h
    rw [e]
    decide
  · have e : x = 18 := Int32.toInt_inj.mp h
    rw [e]
    decide
  · have e : x = 19 := Int32.toInt_inj.mp h
    rw [e]
    decide
theorem rk_5 {x : Int32} (h : x.toInt = 10 ∨ x.toInt = 11) : rkV x = 5 := by
  rcases h with h | h
  · have e : x = 10 := Int32.toInt_inj.mp h
    rw [e]
    decide
  · have e : x = 11 := Int32.toInt_inj.mp h
    rw [e]
    decide
theorem rk_6 {x : Int32} (h : ¬ x.toInt = 21 ∧ ¬ x.toInt = 20 ∧ ¬ x.toInt = 22 ∧ ¬ x.toInt = 17 ∧ ¬ x.toInt = 18 ∧ ¬ x.toInt = 19 ∧ ¬ x.toInt = 10 ∧ ¬ x.toInt = 11) : rkV x = 6 := by
  obtain ⟨h1, h2, h3, h4, h5, h6, h7, h8⟩ := h
  have ne : ∀ (y : Int32) (k : Int), y.toInt = k → ¬ x.toInt = k → ¬ x = y := fun y k e q z => q (by rw [z]; exact e)
  unfold rkV
  rw [if_neg (ne 21 21 rfl h1), if_neg (ne 20 20 rfl h2), if_neg (ne 22 22 rfl h3), if_neg (fun q => q.elim (ne 17 17 rfl h4) (fun q => q.elim (ne 18 18 rfl h5) (ne 19 19 rfl h6))), if_neg (fun q => q.elim (ne 10 10 rfl h7) (ne 11 11 rfl h8))]
theorem join_step {a d n om om1 x : Nat} {fr ph bg pr bs op cs cs1 : Nat → Int32} {v : Int32} (h : RB d om n a 1 fr ph bg pr bs op cs) (e : om = om1 + 1) (hb : (bs d).toNatClampNeg ≤ om1) (ev : v = op om1) (ec : cs1 = upd cs x v) (ex : x = a + n) : RB d om1 (n + 1) a 1 fr ph bg pr bs op cs1 := by
  subst e
  rw [ec, ex, ev]
  exact rb_join h hb
theorem nN_step {op : Nat → Int32} {om om1 k : Nat} (e : om = om1 + 1) (h : nNn op om ≤ k) : nNn op om1 ≤ k := by
  subst e
  exact Nat.le_trans (nN_less op om1) h
theorem join_lt0 {d om : Nat} {bs op : Nat → Int32} {r : Int} (h : om ≤ (bs d).toNatClampNeg) : ∀ i : Nat, (bs d).toNatClampNeg ≤ i → i < om → ((rkV (op i) : Nat) : Int) < r := fun i h1 h2 => absurd h2 (by omega)
theorem join_lt1 {a d n om k : Nat} {fr ph bg pr bs op cs : Nat → Int32} {r : Int} (h : RB d om n a 1 fr ph bg pr bs op cs) (e : om = k + 1) (hr : ((rkV (op k) : Nat) : Int) < r) : ∀ i : Nat, (bs d).toNatClampNeg ≤ i → i < om → ((rkV (op i) : Nat) : Int) < r := by
  intro i h1 h2
  have hs := h.1.2.1.2.1 i k h1 (by omega) (by omega)
  omega
