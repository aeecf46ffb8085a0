/-! ranges of int fields and of rows, by tables (UNTRIED: written at the end of start 1) -/
def InvI (lo hi : List Int) (I : Nat → Int32) : Prop := ∀ k, k < lo.length → lo.getD k 0 ≤ (I k).toInt ∧ (I k).toInt ≤ hi.getD k 0
def InvR (rl : List (Nat × Int × Int)) (R : Nat → Nat → Int32) : Prop := ∀ a, a < rl.length → ∀ j, j < (rl.getD a (0, 0, 0)).1 → (rl.getD a (0, 0, 0)).2.1 ≤ (R a j).toInt ∧ (R a j).toInt ≤ (rl.getD a (0, 0, 0)).2.2
theorem inv_upI {lo hi : List Int} {I I1 : Nat → Int32} {v : Int32} (h : InvI lo hi I) (n : Nat) (e : I1 = va_up I n v) (hv : lo.getD n 0 ≤ v.toInt ∧ v.toInt ≤ hi.getD n 0) : InvI lo hi I1 := by
  intro k hk
  rw [e]
  unfold va_up
  split
  · rename_i q
    rw [q]
    exact hv
  · exact h k hk
theorem inv_upR {rl : List (Nat × Int × Int)} {R R1 : Nat → Nat → Int32} {f : Nat → Int32} (h : InvR rl R) (n : Nat) (e : R1 = va_up R n f) (hf : ∀ j, j < (rl.getD n (0, 0, 0)).1 → (rl.getD n (0, 0, 0)).2.1 ≤ (f j).toInt ∧ (f j).toInt ≤ (rl.getD n (0, 0, 0)).2.2) : InvR rl R1 := by
  intro a ha j hj
  rw [e]
  unfold va_up
  split
  · rename_i q
    rw [q] at hj
    rw [q]
    exact hf j hj
  · exact h a ha j hj
theorem upd_in {f : Nat → Int32} {k N : Nat} {x : Int32} {lo hi : Int} (h : ∀ j, j < N → lo ≤ (f j).toInt ∧ (f j).toInt ≤ hi) (hx : lo ≤ x.toInt ∧ x.toInt ≤ hi) : ∀ j, j < N → lo ≤ (upd f k x j).toInt ∧ (upd f k x j).toInt ≤ hi := by
  intro j hj
  unfold upd
  split
  · exact hx
  · exact h j hj
theorem full (v : Int32) : (-2147483648 : Int) ≤ v.toInt ∧ v.toInt ≤ 2147483647 := ⟨Int32.le_toInt v, by have := Int32.toInt_lt v; omega⟩
theorem t_add {a b : Int32} (h1 : (-2147483648 : Int) ≤ a.toInt + b.toInt) (h2 : a.toInt + b.toInt ≤ 2147483647) : (a + b).toInt = a.toInt + b.toInt := by
  rw [Int32.toInt_add]
  exact Int.bmod_eq_of_le (by omega) (by omega)
theorem t_sub {a b : Int32} (h1 : (-2147483648 : Int) ≤ a.toInt - b.toInt) (h2 : a.toInt - b.toInt ≤ 2147483647) : (a - b).toInt = a.toInt - b.toInt := by
  rw [Int32.toInt_sub]
  exact Int.bmod_eq_of_le (by omega) (by omega)
theorem t_mul {a b : Int32} (h1 : (-2147483648 : Int) ≤ a.toInt * b.toInt) (h2 : a.toInt * b.toInt ≤ 2147483647) : (a * b).toInt = a.toInt * b.toInt := by
  rw [Int32.toInt_mul]
  exact Int.bmod_eq_of_le (by omega) (by omega)
theorem in_of {i : Int32} {n : Nat} (h : 0 ≤ i.toInt ∧ i.toInt < (n : Int)) : vp_in i n := vp_in_iff.mpr h
theorem clamp_lt {i : Int32} {n : Nat} (h : vp_in i n) : i.toNatClampNeg < n := Nat.not_le.mp fun q => h (Or.inr q)
theorem nar01 {v : Int32} (h : (0 : Int) ≤ v.toInt ∧ v.toInt ≤ 1) : narrow .boolean (.int v) = .int v := by
  have h2 : v = 0 ∨ v = 1 := by
    rcases (show v.toInt = 0 ∨ v.toInt = 1 by omega) with q | q
    · exact Or.inl (Int32.toInt_inj.mp q)
    · exact Or.inr (Int32.toInt_inj.mp q)
  rcases h2 with rfl | rfl <;> rfl
section
variable {p : Program} {l : Launch} {e : Env} {R : Room} {s : State} {m : MethodId} {args : Array Value} {below : List Frame} {meth : Method} {c : Code} {H : Heap} {locs : List Loc} {cells slots : Nat} {Q : State → Prop} {cc : ByteArray} {nL : Nat} {own : String} {pc : Nat} {ls : Array Slot} {rest : List Value} {G : Gx} {A : Nat → Prop} {ws : va_W} {a : Nat}
theorem g_zald (F : CallFix p m c cc nL s args tb own) (hK : KX G s) (hP : va_P G.1 vwCl ws H) (q0 : Nat) {n : Nat} {f : Nat → Int32} (ha : ws[q0]? = some (a, .inl (G.2.2.2.1, n, .inl f))) {i : Int32} (hin : vp_in i n) (hdg : decode cc pc = .ok (.baload, 1)) {v : Int32} (hv : f i.toNatClampNeg = v)
    (kk : W p l e R s m args below meth c H locs cells slots Q (F0 m (pc + 1) ls (.int v :: rest))) : W p l e R s m args below meth c H locs cells slots Q (F0 m pc ls (.int i :: .ref a :: rest)) :=
  va_zald F.1 F.2.1 hK.1 hP q0 2 ha rfl hin hdg (hv ▸ kk)
end
theorem t_max (x y : Int32) : (if x < y then y else x).toInt = max x.toInt y.toInt := by
  split
  · rename_i h; rw [tlt] at h; omega
  · rename_i h; rw [tlt] at h; omega
theorem t_min (x y : Int32) : (if y < x then y else x).toInt = min x.toInt y.toInt := by
  split
  · rename_i h; rw [tlt] at h; omega
  · rename_i h; rw [tlt] at h; omega
