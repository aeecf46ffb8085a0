def LI (g q : Nat → Nat) (I : Nat → Int32) (R : Nat → Nat → Int32) (Im : Nat → Int32) (Rm : Nat → Nat → Int32) : Prop := (InvI Wd_lo Wd_hi I ∧ InvR Wd_rl R ∧ q 0 = g 44 ∧ q 3 = g 11) ∧ InvI Wm_lo Wm_hi Im ∧ InvR Wm_rl Rm ∧ WfM Im Rm
def sG (k : Nat) : Nat := if k < 33 then k + 33 else if k < 66 then k - 33 else k
def sI (k : Nat) : Nat := if k < 9 then k + 9 else if k < 18 then k - 9 else k
def sR (k : Nat) : Nat := if k < 29 then k + 29 else if k < 58 then k - 29 else k
set_option maxRecDepth 100000 in
theorem sI_ok : ∀ k, k < 36 → (sI k < 36 ∧ Wd_lo.getD (sI k) 0 = Wd_lo.getD k 0 ∧ Wd_hi.getD (sI k) 0 = Wd_hi.getD k 0) := by decide +kernel
set_option maxRecDepth 100000 in
theorem sR_ok : ∀ k, k < 69 → (sR k < 69 ∧ Wd_rl.getD (sR k) (0, 0, 0) = Wd_rl.getD k (0, 0, 0)) := by decide +kernel
theorem inv_sI {I : Nat → Int32} (h : InvI Wd_lo Wd_hi I) : InvI Wd_lo Wd_hi (fun k => I (sI k)) := by
  intro k hk
  obtain ⟨a1, a2, a3⟩ := sI_ok k hk
  have := h (sI k) a1
  rw [a2, a3] at this
  exact this
theorem inv_sR {R : Nat → Nat → Int32} (h : InvR Wd_rl R) : InvR Wd_rl (fun k => R (sR k)) := by
  intro k hk j hj
  obtain ⟨a1, a2⟩ := sR_ok k hk
  have := h (sR k) a1 j (by rw [a2]; exact hj)
  rw [a2] at this
  exact this
section
variable {G : Gx} {g q gm qm : Nat → Nat} {I Im : Nat → Int32} {J Jm : Nat → Int64} {R Rm : Nat → Nat → Int32} {L Lm : Nat → Nat → Int64} {H : Heap} {A : Nat → Prop}
set_option maxHeartbeats 4000000 in
set_option maxRecDepth 100000 in
theorem hs_P (h : va_P G.1 vwCl (Wd G g q I J R L ++ Wm G gm qm Im Jm Rm Lm) H) : va_P G.1 vwCl (Wd G (fun k => g (sG k)) q (fun k => I (sI k)) J (fun k => R (sR k)) L ++ Wm G gm qm Im Jm Rm Lm) H := h.sub (33 :: 34 :: 35 :: 36 :: 37 :: 38 :: 39 :: 40 :: 41 :: 42 :: 43 :: 44 :: 45 :: 46 :: 47 :: 48 :: 49 :: 50 :: 51 :: 52 :: 53 :: 54 :: 55 :: 56 :: 57 :: 58 :: 59 :: 60 :: 61 :: 62 :: 63 :: 64 :: 65 :: 0 :: 1 :: 2 :: 3 :: 4 :: 5 :: 6 :: 7 :: 8 :: 9 :: 10 :: 11 :: 12 :: 13 :: 14 :: 15 :: 16 :: 17 :: 18 :: 19 :: 20 :: 21 :: 22 :: 23 :: 24 :: 25 :: 26 :: 27 :: 28 :: 29 :: 30 :: 31 :: 32 :: 66 :: 67 :: 68 :: 69 :: 70 :: 71 :: 72 :: 73 :: 74 :: 75 :: 76 :: 77 :: 78 :: 79 :: 80 :: 81 :: 82 :: 83 :: 84 :: 85 :: 86 :: 87 :: 88 :: 89 :: 90 :: 91 :: 92 :: 93 :: 94 :: 95 :: 96 :: 97 :: 98 :: 99 :: 100 :: 101 :: 102 :: 103 :: 104 :: 105 :: 106 :: 107 :: 108 :: 109 :: 110 :: 111 :: 112 :: 113 :: 114 :: 115 :: 116 :: 117 :: 118 :: 119 :: 120 :: 121 :: 122 :: 123 :: 124 :: 125 :: 126 :: 127 :: 128 :: 129 :: 130 :: 131 :: []) rfl
set_option maxHeartbeats 4000000 in
set_option maxRecDepth 100000 in
theorem hs_D (h : va_D A (Wd G g q I J R L ++ Wm G gm qm Im Jm Rm Lm)) : va_D A (Wd G (fun k => g (sG k)) q (fun k => I (sI k)) J (fun k => R (sR k)) L ++ Wm G gm qm Im Jm Rm Lm) := h.sub (33 :: 34 :: 35 :: 36 :: 37 :: 38 :: 39 :: 40 :: 41 :: 42 :: 43 :: 44 :: 45 :: 46 :: 47 :: 48 :: 49 :: 50 :: 51 :: 52 :: 53 :: 54 :: 55 :: 56 :: 57 :: 58 :: 59 :: 60 :: 61 :: 62 :: 63 :: 64 :: 65 :: 0 :: 1 :: 2 :: 3 :: 4 :: 5 :: 6 :: 7 :: 8 :: 9 :: 10 :: 11 :: 12 :: 13 :: 14 :: 15 :: 16 :: 17 :: 18 :: 19 :: 20 :: 21 :: 22 :: 23 :: 24 :: 25 :: 26 :: 27 :: 28 :: 29 :: 30 :: 31 :: 32 :: 66 :: 67 :: 68 :: 69 :: 70 :: 71 :: 72 :: 73 :: 74 :: 75 :: 76 :: 77 :: 78 :: 79 :: 80 :: 81 :: 82 :: 83 :: 84 :: 85 :: 86 :: 87 :: 88 :: 89 :: 90 :: 91 :: 92 :: 93 :: 94 :: 95 :: 96 :: 97 :: 98 :: 99 :: 100 :: 101 :: 102 :: 103 :: 104 :: 105 :: 106 :: 107 :: 108 :: 109 :: 110 :: 111 :: 112 :: 113 :: 114 :: 115 :: 116 :: 117 :: 118 :: 119 :: 120 :: 121 :: 122 :: 123 :: 124 :: 125 :: 126 :: 127 :: 128 :: 129 :: 130 :: 131 :: []) rfl rfl
end
