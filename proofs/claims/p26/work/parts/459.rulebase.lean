/-! what the rule reader needs of a word: its last byte is a letter; 'not' is three bytes long -/
def TL (I : Nat → Int32) (f : Nat → Int32) : Prop := (I 2).toInt = 1 → ∀ k : Nat, (k : Int) + 1 = (I 4).toInt → (97 ≤ (f k).toInt ∧ (f k).toInt ≤ 122)
def WB (I : Nat → Int32) (w : Int64) : Prop := (I 2).toInt = 1 → w = 7237492 → (I 3).toInt + 3 ≤ (I 4).toInt
theorem wsh {w x y z : Int64} {v : Int32} (e1 : (w : Int64) <<< ((8 : Int32).toInt64 &&& 63) = x) (e2 : (v : Int32).toInt64 = y) (e3 : z = x ||| y) (hv : 0 ≤ v.toInt ∧ v.toInt ≤ 255) : (w.toInt = 0 → (0 ≤ z.toInt ∧ z.toInt < 256)) ∧ ((0 ≤ w.toInt ∧ w.toInt < 256) → (0 ≤ z.toInt ∧ z.toInt < 65536)) := by
  have key : ∀ (n m : Nat), n < 256 → m < 256 → w.toBitVec.toNat = n → y.toBitVec.toNat = m → z.toInt = ((n <<< 8 ||| m : Nat) : Int) := by
    intro n m hn hm ew ey
    have h1 : x.toBitVec.toNat = n <<< 8 := by
      rw [← e1]
      show (w.toBitVec <<< (((8 : Int32).toInt64 &&& 63).toBitVec.smod 64)).toNat = _
      rw [show (((8 : Int32).toInt64 &&& 63).toBitVec.smod 64) = 8#64 from by decide, BitVec.shiftLeft_eq', BitVec.toNat_shiftLeft, ew]
      show n <<< 8 % 2 ^ 64 = n <<< 8
      apply Nat.mod_eq_of_lt
      rw [Nat.shiftLeft_eq]
      omega
    have h2 : z.toBitVec.toNat = (n <<< 8 ||| m) := by
      rw [e3]
      show (x.toBitVec ||| y.toBitVec).toNat = _
      rw [BitVec.toNat_or, h1, ey]
    have h3 : (n <<< 8 ||| m) < 2 ^ 16 := Nat.or_lt_two_pow (by rw [Nat.shiftLeft_eq]; omega) (by omega)
    show z.toBitVec.toInt = _
    rw [BitVec.toInt_eq_toNat_cond, if_pos (by rw [h2]; omega), h2]
  have hy : y.toBitVec.toNat = v.toInt.toNat ∧ v.toInt.toNat < 256 := by
    have h1 : y.toInt = v.toInt := by rw [← e2]; exact Int32.toInt_toInt64 v
    have h2 : y.toBitVec.toInt = v.toInt := h1
    rw [BitVec.toInt_eq_toNat_cond] at h2
    have := y.toBitVec.isLt
    split at h2 <;> omega
  have hw : ∀ a : Int, w.toInt = a → 0 ≤ a → a < 256 → w.toBitVec.toNat = a.toNat := by
    intro a h1 h2 h3
    have h4 : w.toBitVec.toInt = a := h1
    rw [BitVec.toInt_eq_toNat_cond] at h4
    have := w.toBitVec.isLt
    split at h4 <;> omega
  constructor
  · intro h
    have := key 0 _ (by omega) hy.2 (hw 0 h (by omega) (by omega)) hy.1
    rw [show (0 <<< 8 ||| v.toInt.toNat) = v.toInt.toNat from by simp] at this
    omega
  · intro h
    have h4 := key w.toInt.toNat _ (by omega) hy.2 (hw _ rfl h.1 h.2) hy.1
    have h3 : (w.toInt.toNat <<< 8 ||| v.toInt.toNat) < 2 ^ 16 := Nat.or_lt_two_pow (by rw [Nat.shiftLeft_eq]; omega) (by omega)
    omega
