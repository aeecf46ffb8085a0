set_option maxHeartbeats 4000000 in
set_option maxRecDepth 100000 in
theorem lp_fillI {p : Program} {l : Launch} {e : Env} {R : Room} {s : State} {m : MethodId} {args : Array Value} {below : List Frame} {meth : Method} {c : Code} {A : Nat → Prop} {cells slots : Nat} {Q : State → Prop} (G : Gx) (n : Nat) (a : Nat) (v : Int32) (hn : n < 2 ^ 31) (hRf : 3 ≤ R.frames) (hRl : 180 ≤ R.locals) (hRc : cells ≤ R.cells) (hRs : slots ≤ R.slots) (F : CallFix p m c cJ7_fill_53178 4 s args tb RJ7) (hK : KX G s) (hA : HA G s A)
    (kx : ∀ (f : Nat → Int32) (H : Heap) (locs : List Loc) (ls : Array Slot), True → va_P G.1 vwCl [(a, .inl (G.2.1, n, .inl f))] H → va_D A [(a, .inl (G.2.1, n, .inl f))] → va_S A s.heap H locs → lv_has ls 4 [(0, .ref a)] → W p l e R s m args below meth c H locs cells slots Q (F0 m 20 ls [])) :
    ∀ (k : Nat) (f : Nat → Int32) (i : Nat) (H : Heap) (locs : List Loc) (ls : Array Slot), i + k = n → True → va_P G.1 vwCl [(a, .inl (G.2.1, n, .inl f))] H → va_D A [(a, .inl (G.2.1, n, .inl f))] → va_S A s.heap H locs → lv_has ls 4 [(2, .int (nI i)), (3, .int (nI n)), (0, .ref a), (1, .int v)] → W p l e R s m args below meth c H locs cells slots Q (F0 m 5 ls []) := by
  have hx := F.1
  have hb := F.2.1
  have hown := F.2.2.2.1
  intro k
  induction k with
  | zero =>
    intro f i H locs ls hm hI hP hD hS hl
    refine lv_iload_n hx hb dJ7_fill_53178_5 rfl (lv_at hl 0 rfl) ?_
    refine lv_iload_n hx hb dJ7_fill_53178_6 rfl (lv_at hl 1 rfl) ?_
    refine lv_icmp_ge (tgt := 20) hx hb dJ7_fill_53178_7 (by decide) (fun _ => ?_) (fun h_ => absurd (nI_le (a := n) (b := i) (by omega) (by omega)) h_)
    exact kx f H locs ls hI hP hD hS (lv_sub hl [2] rfl)
  | succ k ih =>
    intro f i H locs ls hm hI hP hD hS hl
    refine lv_iload_n hx hb dJ7_fill_53178_5 rfl (lv_at hl 0 rfl) ?_
    refine lv_iload_n hx hb dJ7_fill_53178_6 rfl (lv_at hl 1 rfl) ?_
    refine lv_icmp_ge (tgt := 20) hx hb dJ7_fill_53178_7 (by decide) (fun h_ => absurd h_ (nI_ge (a := i) (b := n) (by omega) (by omega))) (fun _ => ?_)
    refine lv_aload_n hx hb dJ7_fill_53178_10 rfl (lv_at hl 2 rfl) ?_
    refine lv_iload_n hx hb dJ7_fill_53178_11 rfl (lv_at hl 0 rfl) ?_
    refine lv_iload_n hx hb dJ7_fill_53178_12 rfl (lv_at hl 3 rfl) ?_
    refine g_iast F hK hP hD hS 0 rfl (vp_in_nI (n := i) (N := n) (by omega) (by omega)) dJ7_fill_53178_13 (fun f_ => [(a, .inl (G.2.1, n, .inl f_))]) (fun _ => rfl) (fun f1 H locs ef1 (hP : va_P G.1 vwCl [(a, .inl (G.2.1, n, .inl f1))] H) (hD : va_D A [(a, .inl (G.2.1, n, .inl f1))]) hS => ?_)
    refine lv_iinc (v := (nI (i + 1))) (lv' := [(2, .int (nI (i + 1))), (3, .int (nI n)), (0, .ref a), (1, .int v)]) hx hb dJ7_fill_53178_14 hl (k := 0) rfl (nI_1 i) (by decide) rfl (fun ls hl => ?_)
    refine lv_goto (tgt := 5) hx hb dJ7_fill_53178_17 (by decide) ?_
    exact ih f1 (i + 1) H locs ls (by omega) trivial hP hD hS (lv_sub hl [0, 1, 2, 3] rfl)
set_option maxHeartbeats 4000000 in
set_option maxRecDepth 100000 in
theorem k_J7_fill_53178 (l : Launch) (G : Gx) (n : Nat) (a : Nat) (v : Int32) (f : Nat → Int32) (hn : n < 2 ^ 31) : CtV (S := Nat → Int32) l yJ7_fill_53178 cJ7_fill_53178 4 none (rmD 4 0 0) G [.ref a, .int v] [(a, .inl (G.2.1, n, .inl f))] (fun _ => True) (fun u => [(a, .inl (G.2.1, n, .inl u))]) := by
  refine ctV_of (own := RJ7) (by decide +kernel) rfl (Nat.le_of_ble_eq_true rfl) ?_
  intro p e s m below meth c A ls F hr hlk hnm hK hP hD hA hS hl
  have hx := F.1
  have hb := F.2.1
  have hown := F.2.2.2.1
  have hl : lv_has ls 4 [(0, .ref a), (1, .int v)] := hl
  refine lv_iconst (v := 0) hx hb dJ7_fill_53178_0 (by decide) ?_
  refine lv_istore_n (lv' := [(2, .int 0), (0, .ref a), (1, .int v)]) hx hb dJ7_fill_53178_1 rfl hl (by decide) rfl (fun ls hl => ?_)
  refine lv_aload_n hx hb dJ7_fill_53178_2 rfl (lv_at hl 1 rfl) ?_
  refine g_ialen (v := (nI n)) F hK hP 0 rfl rfl dJ7_fill_53178_3 ?_
  refine lv_istore_n (lv' := [(3, .int (nI n)), (2, .int 0), (0, .ref a), (1, .int v)]) hx hb dJ7_fill_53178_4 rfl hl (by decide) rfl (fun ls hl => ?_)
  refine lp_fillI G n a v hn (by exact Nat.le_of_ble_eq_true rfl) (by exact Nat.le_of_ble_eq_true rfl) (by exact Nat.le_of_ble_eq_true rfl) (by exact Nat.le_of_ble_eq_true rfl) F hK hA (fun v1 H locs ls hI2 hP hD hS hl => ?_) n f 0 _ _ _ (by omega) trivial hP hD hS (lv_sub hl [1, 0, 2, 3] rfl)
  exact r_v F hr hlk hP hD hS v1 [0] rfl rfl trivial dJ7_fill_53178_20 (Nat.le_of_ble_eq_true rfl) (Nat.le_of_ble_eq_true rfl)
set_option maxHeartbeats 4000000 in
set_option maxRecDepth 100000 in
theorem lp_fillJ {p : Program} {l : Launch} {e : Env} {R : Room} {s : State} {m : MethodId} {args : Array Value} {below : List Frame} {meth : Method} {c : Code} {A : Nat → Prop} {cells slots : Nat} {Q : State → Prop} (G : Gx) (n : Nat) (a : Nat) (v : Int64) (hn : n < 2 ^ 31) (hRf : 3 ≤ R.frames) (hRl : 180 ≤ R.locals) (hRc : cells ≤ R.cells) (hRs : slots ≤ R.slots) (F : CallFix p m c cJ7_fill_d0a16 5 s args tb RJ7) (hK : KX G s) (hA : HA G s A)
    (kx : ∀ (f : Nat → Int64) (H : Heap) (locs : List Loc) (ls : Array Slot), (∀ j, j < n → f j = v) → va_P G.1 vwCl [(a, .inl (G.2.2.1, n, .inr (.inl f)))] H → va_D A [(a, .inl (G.2.2.1, n, .inr (.inl f)))] → va_S A s.heap H locs → lv_has ls 5 [(0, .ref a)] → W p l e R s m args below meth c H locs cells slots Q (F0 m 22 ls [])) :
    ∀ (k : Nat) (f : Nat → Int64) (i : Nat) (H : Heap) (locs : List Loc) (ls : Array Slot), i + k = n → (∀ j, j < i → f j = v) → va_P G.1 vwCl [(a, .inl (G.2.2.1, n, .inr (.inl f)))] H → va_D A [(a, .inl (G.2.2.1, n, .inr (.inl f)))] → va_S A s.heap H locs → lv_has ls 5 [(3, .int (nI i)), (4, .int (nI n)), (0, .ref a), (1, .long v)] → W p l e R s m args below meth c H locs cells slots Q (F0 m 6 ls []) := by
  have hx := F.1
  have hb := F.2.1
  have hown := F.2.2.2.1
  intro k
  induction k with
  | zero =>
    intro f i H locs ls hm hI hP hD hS hl
    refine lv_iload_n hx hb dJ7_fill_d0a16_6 rfl (lv_at hl 0 rfl) ?_
    refine lv_iload hx hb dJ7_fill_d0a16_7 (lv_at hl 1 rfl) ?_
    refine lv_icmp_ge (tgt := 22) hx hb dJ7_fill_d0a16_9 (by decide) (fun _ => ?_) (fun h_ => absurd (nI_le (a := n) (b := i) (by omega) (by omega)) h_)
    exact kx f H locs ls (fun j h => hI j (by omega)) hP hD hS (lv_sub hl [2] rfl)
  | succ k ih =>
    intro f i H locs ls hm hI hP hD hS hl
    refine lv_iload_n hx hb dJ7_fill_d0a16_6 rfl (lv_at hl 0 rfl) ?_
    refine lv_iload hx hb dJ7_fill_d0a16_7 (lv_at hl 1 rfl) ?_
    refine lv_icmp_ge (tgt := 22) hx hb dJ7_fill_d0a16_9 (by decide) (fun h_ => absurd h_ (nI_ge (a := i) (b := n) (by omega) (by omega))) (fun _ => ?_)
    refine lv_aload_n hx hb dJ7_fill_d0a16_12 rfl (lv_at hl 2 rfl) ?_
    refine lv_iload_n hx hb dJ7_fill_d0a16_13 rfl (lv_at hl 0 rfl) ?_
    refine lv_lload_n hx hb dJ7_fill_d0a16_14 rfl (lv_at hl 3 rfl) ?_
    refine g_last F hK hP hD hS 0 rfl (vp_in_nI (n := i) (N := n) (by omega) (by omega)) dJ7_fill_d0a16_15 (fun f_ => [(a, .inl (G.2.2.1, n, .inr (.inl f_)))]) (fun _ => rfl) (fun f1 H locs ef1 (hP : va_P G.1 vwCl [(a, .inl (G.2.2.1, n, .inr (.inl f1)))] H) (hD : va_D A [(a, .inl (G.2.2.1, n, .inr (.inl f1)))]) hS => ?_)
    refine lv_iinc (v := (nI (i + 1))) (lv' := [(3, .int (nI (i + 1))), (4, .int (nI n)), (0, .ref a), (1, .long v)]) hx hb dJ7_fill_d0a16_16 hl (k := 0) rfl (nI_1 i) (by decide) rfl (fun ls hl => ?_)
    refine lv_goto (tgt := 6) hx hb dJ7_fill_d0a16_19 (by decide) ?_
    exact ih f1 (i + 1) H locs ls (by omega) (fill_inv hI ef1 (by omega)) hP hD hS (lv_sub hl [0, 1, 2, 3] rfl)
set_option maxHeartbeats 4000000 in
set_option maxRecDepth 100000 in
theorem k_J7_fill_d0a16 (l : Launch) (G : Gx) (n : Nat) (a : Nat) (v : Int64) (f : Nat → Int64) (hn : n < 2 ^ 31) : CtV (S := Nat → Int64) l yJ7_fill_d0a16 cJ7_fill_d0a16 5 none (rmD 4 0 0) G [.ref a, .long v] [(a, .inl (G.2.2.1, n, .inr (.inl f)))] (fun u => ∀ j, j < n → u j = v) (fun u => [(a, .inl (G.2.2.1, n, .inr (.inl u)))]) := by
  refine ctV_of (own := RJ7) (by decide +kernel) rfl (Nat.le_of_ble_eq_true rfl) ?_
  intro p e s m below meth c A ls F hr hlk hnm hK hP hD hA hS hl
  have hx := F.1
  have hb := F.2.1
  have hown := F.2.2.2.1
  have hl : lv_has ls 5 [(0, .ref a), (1, .long v)] := hl
  refine lv_iconst (v := 0) hx hb dJ7_fill_d0a16_0 (by decide) ?_
  refine lv_istore_n (lv' := [(3, .int 0), (0, .ref a), (1, .long v)]) hx hb dJ7_fill_d0a16_1 rfl hl (by decide) rfl (fun ls hl => ?_)
  refine lv_aload_n hx hb dJ7_fill_d0a16_2 rfl (lv_at hl 1 rfl) ?_
  refine g_lalen (v := (nI n)) F hK hP 0 rfl rfl dJ7_fill_d0a16_3 ?_
  refine lv_istore (lv' := [(4, .int (nI n)), (3, .int 0), (0, .ref a), (1, .long v)]) hx hb dJ7_fill_d0a16_4 hl (by decide) rfl (fun ls hl => ?_)
  refine lp_fillJ G n a v hn (by exact Nat.le_of_ble_eq_true rfl) (by exact Nat.le_of_ble_eq_true rfl) (by exact Nat.le_of_ble_eq_true rfl) (by exact Nat.le_of_ble_eq_true rfl) F hK hA (fun v1 H locs ls hI2 hP hD hS hl => ?_) n f 0 _ _ _ (by omega) (fun j h => absurd h (Nat.not_lt_zero j)) hP hD hS (lv_sub hl [1, 0, 2, 3] rfl)
  exact r_v F hr hlk hP hD hS v1 [0] rfl rfl hI2 dJ7_fill_d0a16_22 (Nat.le_of_ble_eq_true rfl) (Nat.le_of_ble_eq_true rfl)
