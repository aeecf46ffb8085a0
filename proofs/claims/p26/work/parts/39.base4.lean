/-! shifts to the right without sign: a measure -/
theorem u32_pos {x : Int32} (h : ¬ x.toInt = 0) : 0 < x.toUInt32.toNat := by
  rcases Nat.eq_zero_or_pos x.toUInt32.toNat with q | q
  · exfalso
    apply h
    have : x.toUInt32 = 0 := UInt32.toNat_inj.mp q
    have h2 : x = 0 := by
      have := congrArg UInt32.toInt32 this
      simpa using this
    rw [h2]
    rfl
  · exact q
theorem ushr1 {x y : Int32} (e : (x.toUInt32 >>> ((1 : Int32).toUInt32 &&& Int32.toUInt32 31)).toInt32 = y) : y.toUInt32.toNat = x.toUInt32.toNat / 2 := by
  rw [← e]
  show (x.toUInt32 >>> ((1 : Int32).toUInt32 &&& Int32.toUInt32 31)).toNat = _
  rw [show ((1 : Int32).toUInt32 &&& Int32.toUInt32 31) = 1 from by decide, UInt32.toNat_shiftRight]
  show x.toUInt32.toNat >>> 1 = _
  rw [Nat.shiftRight_eq_div_pow]
theorem u64_pos {x : Int64} (h : ¬ x = 0) : 0 < x.toUInt64.toNat := by
  rcases Nat.eq_zero_or_pos x.toUInt64.toNat with q | q
  · exfalso
    apply h
    have : x.toUInt64 = 0 := UInt64.toNat_inj.mp q
    have := congrArg UInt64.toInt64 this
    simpa using this
  · exact q
theorem ushr8 {x y : Int64} (e : (x.toUInt64 >>> ((8 : Int32).toInt64.toUInt64 &&& Int64.toUInt64 63)).toInt64 = y) : y.toUInt64.toNat = x.toUInt64.toNat / 256 := by
  rw [← e]
  show (x.toUInt64 >>> ((8 : Int32).toInt64.toUInt64 &&& Int64.toUInt64 63)).toNat = _
  rw [show ((8 : Int32).toInt64.toUInt64 &&& Int64.toUInt64 63) = 8 from by decide, UInt64.toNat_shiftRight]
  show x.toUInt64.toNat >>> 8 = _
  rw [Nat.shiftRight_eq_div_pow]
theorem u32_lt (x : Int32) : (x.toUInt32.toNat : Int) < 4294967296 := by
  have := x.toUInt32.toNat_lt
  omega
theorem u64_lt (x : Int64) : (x.toUInt64.toNat : Int) < 18446744073709551616 := by
  have := x.toUInt64.toNat_lt
  omega
theorem i2l_ne {v : Int32} {x : Int64} (e : v.toInt64 = x) (h : ¬ v.toInt = 0) : ¬ x = 0 := by
  intro q
  apply h
  have h1 : v.toInt64.toInt = v.toInt := Int32.toInt_toInt64 v
  rw [e, q] at h1
  exact h1.symm
theorem lcmp_s (x : Int64) : lg_cmp x x = 0 := by
  unfold lg_cmp
  rw [if_neg (by show ¬ (x < x); exact Int64.lt_irrefl), if_pos (by simp)]
