def fG (d : Int32) : Int32 := if d = 0 then 1 else 0
def fGrow (a : Int32) : Int32 := if a < 0 then -1 else if 5 < a then -1 else fG a
theorem gA {i : Nat} {d cnt r : Int32} (hI : cnt = if i = 0 then 0 else fG d) (h0 : i = 0 → r = 0) (c : ¬ r = d) : cnt = if i + 1 = 0 then 0 else fG d := by
  rw [if_neg (Nat.succ_ne_zero i)]
  by_cases h : i = 0
  · rw [hI, if_pos h]
    unfold fG
    rw [if_neg (fun q => c (by rw [h0 h, q]))]
  · rw [hI, if_neg h]
theorem gB {i : Nat} {d cnt : Int32} (hI : cnt = if i = 0 then 0 else fG d) (hi : ¬ i = 0) : cnt = if i + 1 = 0 then 0 else fG d := by
  rw [if_neg (Nat.succ_ne_zero i), hI, if_neg hi]
theorem gC {i : Nat} {d cnt x : Int32} (hI : cnt = if i = 0 then 0 else fG d) (hi : i = 0) (hd : d = 0) (ex : x = cnt + 1) : x = if i + 1 = 0 then 0 else fG d := by
  rw [if_neg (Nat.succ_ne_zero i), ex, hI, if_pos hi, hd]
  decide +kernel
theorem gZ {i : Nat} {d cnt x : Int32} (h : cnt = if i + 1 = 0 then 0 else fG d) (ex : x = cnt + 0) : x = if i + 1 = 0 then 0 else fG d := by
  rw [ex, Int32.add_zero]
  exact h
theorem andm : ∀ i, i < 32 → nI i &&& (-1) = 0 → i = 0 := by decide +kernel
def bitz (i : Nat) (d : Int32) : Bool := decide ((nI i >>> (d &&& 31)) &&& 1 = 0)
theorem bitz_all : ∀ i, i < 32 → (bitz i 0 && (bitz i 1 && (bitz i 2 && (bitz i 3 && bitz i 4)))) = true → i = 0 := by decide +kernel
theorem bits0 (i : Nat) (hi : i < 32) (h0 : (nI i >>> ((0 : Int32) &&& 31)) &&& 1 = 0) (h1 : (nI i >>> ((1 : Int32) &&& 31)) &&& 1 = 0) (h2 : (nI i >>> ((2 : Int32) &&& 31)) &&& 1 = 0) (h3 : (nI i >>> ((3 : Int32) &&& 31)) &&& 1 = 0) (h4 : (nI i >>> ((4 : Int32) &&& 31)) &&& 1 = 0) : i = 0 := by
  refine bitz_all i hi ?_
  simp only [bitz, h0, h1, h2, h3, h4, decide_true, Bool.and_self]
theorem ush1 {q : Nat} (h : q < 2 ^ 31) : ((nI q).toUInt32 >>> ((1 : Int32).toUInt32 &&& Int32.toUInt32 31)).toInt32 = nI (q / 2) := pk_ushrN (by omega) 1 1 (by decide +kernel)
