/-! what a method leaves as it was: fields and rows outside a list -/
def SmF {α : Type} (l : List Nat) (I J : Nat → α) : Prop := ∀ k, l.contains k = false → J k = I k
theorem smF_rf {α : Type} (l : List Nat) (I : Nat → α) : SmF l I I := fun _ _ => rfl
theorem smF_up {α : Type} {l : List Nat} {I J K : Nat → α} {n : Nat} {v : α} (h : SmF l I J) (e : K = va_up J n v) (hn : l.contains n = true) : SmF l I K := by
  intro k hk
  rw [e, va_up_ne J v (fun q => by rw [q, hn] at hk; exact absurd hk (by decide))]
  exact h k hk
theorem smF_tr {α : Type} {l l' : List Nat} {I J K : Nat → α} (h : SmF l I J) (h' : SmF l' J K) (hs : l'.all (fun x => l.contains x) = true) : SmF l I K := by
  intro k hk
  have h1 : l'.contains k = false := by
    cases q : l'.contains k with
    | false => rfl
    | true =>
      have hm : k ∈ l' := List.contains_iff_mem.mp q
      have := List.all_eq_true.mp hs k hm
      rw [this] at hk
      exact absurd hk (by decide)
  rw [h' k h1]
  exact h k hk
abbrev St : Type := (Nat → Int32) × (Nat → Int64) × (Nat → Nat → Int32) × (Nat → Nat → Int64)
theorem rg_all (ws : va_W) : (List.range ws.length).map (fun i => ws[i]?) = ws.map some := by
  apply List.ext_getElem?
  intro k
  rw [List.getElem?_map, List.getElem?_map]
  by_cases h : k < ws.length
  · rw [List.getElem?_range h, List.getElem?_eq_getElem h]
    show some (ws[k]?) = some (some ws[k])
    rw [List.getElem?_eq_getElem h]
  · have h1 : ws[k]? = none := List.getElem?_eq_none (Nat.le_of_not_lt h)
    have h2 : (List.range ws.length)[k]? = none := List.getElem?_eq_none (by rw [List.length_range]; exact Nat.le_of_not_lt h)
    rw [h1, h2]
    rfl
theorem nd_of : ∀ (l : List Nat), l.Nodup → va_nd l = true
  | [], _ => rfl
  | a :: l, h => by
    rw [List.nodup_cons] at h
    show (decide (a ∉ l) && va_nd l) = true
    rw [nd_of l h.2, decide_eq_true h.1]
    rfl
theorem nd_all (n : Nat) : va_nd (List.range n) = true := nd_of _ List.nodup_range
section
variable {p : Program} {l : Launch} {e : Env} {R : Room} {s : State} {m : MethodId} {args : Array Value} {below : List Frame} {meth : Method} {c : Code} {H : Heap} {locs : List Loc} {cells slots : Nat} {Q : State → Prop} {cc : ByteArray} {nL : Nat} {own : String} {pc : Nat} {ls : Array Slot} {rest : List Value} {G : Gx} {A : Nat → Prop} {ws : va_W} {a : Nat}
theorem cst_r {x y : Nat} (h : x = y) (k : W p l e R s m args below meth c H locs cells slots Q (F0 m pc ls (.ref y :: rest))) : W p l e R s m args below meth c H locs cells slots Q (F0 m pc ls (.ref x :: rest)) := h ▸ k
/-- a field set: the world by its function of values -/
theorem p_fld {α : Type} {W1 : (Nat → α) → va_W} {I : Nat → α} {n : Nat} {v : α} (F : CallFix p m c cc nL s args tb own) (hK : KX G s) (hP : va_P G.1 vwCl (W1 I) H) (hD : va_D A (W1 I)) (hS : va_S A s.heap H locs) (q0 : Nat) {ci : Nat} {fs : List Value} (he : (W1 I)[q0]? = some (a, .inr (ci, fs))) {C : String} {T : u_T} {N : Nat} {ty : Nat → FieldType} (hc : ClF ci C T N ty) (k : Nat) (hk : k < N) {index : Nat} (hl : Cond.fieldLink own index (T k).1 (T k).2.1 (T k).2.2.1 ∈ tb) (hfin : (T k).2.2.2 = false) {x : Value} (hn : narrow (ty k) x = x) (hfit : fits (ty k) x = true) (hlen : k < fs.length) (hdg : decode cc pc = .ok (.putfield index, 3)) (hw : (W1 I).set q0 (a, .inr (ci, fs.set k x)) = W1 (va_up I n v))
    (kk : ∀ (I1 : Nat → α) (H1 : Heap) (locs1 : List Loc), I1 = va_up I n v → va_P G.1 vwCl (W1 I1) H1 → va_D A (W1 I1) → va_S A s.heap H1 locs1 → W p l e R s m args below meth c H1 locs1 cells slots Q (F0 m (pc + 3) ls rest)) : W p l e R s m args below meth c H locs cells slots Q (F0 m pc ls (x :: .ref a :: rest)) :=
  g_put F hK hP hD hS q0 he hc k hk hl hfin hn hfit hlen hdg hw (fun H1 l1 h1 h2 h3 => kk _ H1 l1 rfl h1 h2 h3)
theorem p_row {W1 : (Nat → Nat → Int32) → va_W} {Rw : Nat → Nat → Int32} {n : Nat} (F : CallFix p m c cc nL s args tb own) (hK : KX G s) (hP : va_P G.1 vwCl (W1 Rw) H) (hD : va_D A (W1 Rw)) (hS : va_S A s.heap H locs) (q0 : Nat) {N : Nat} {f : Nat → Int32} (ha : (W1 Rw)[q0]? = some (a, .inl (G.2.1, N, .inl f))) {i x : Int32} (hin : vp_in i N) (hdg : decode cc pc = .ok (.iastore, 1)) (hw : ∀ f1, (W1 Rw).set q0 (a, .inl (G.2.1, N, .inl f1)) = W1 (va_up Rw n f1))
    (kk : ∀ (R1 : Nat → Nat → Int32) (H1 : Heap) (locs1 : List Loc), R1 = va_up Rw n (upd f i.toNatClampNeg x) → va_P G.1 vwCl (W1 R1) H1 → va_D A (W1 R1) → va_S A s.heap H1 locs1 → W p l e R s m args below meth c H1 locs1 cells slots Q (F0 m (pc + 1) ls rest)) : W p l e R s m args below meth c H locs cells slots Q (F0 m pc ls (.int x :: .int i :: .ref a :: rest)) :=
  g_iast F hK hP hD hS q0 ha hin hdg (fun f1 => W1 (va_up Rw n f1)) hw (fun f1 H1 l1 e1 h1 h2 h3 => kk _ H1 l1 (by rw [e1]) h1 h2 h3)
theorem p_lrow {W1 : (Nat → Nat → Int64) → va_W} {Lw : Nat → Nat → Int64} {n : Nat} (F : CallFix p m c cc nL s args tb own) (hK : KX G s) (hP : va_P G.1 vwCl (W1 Lw) H) (hD : va_D A (W1 Lw)) (hS : va_S A s.heap H locs) (q0 : Nat) {N : Nat} {f : Nat → Int64} (ha : (W1 Lw)[q0]? = some (a, .inl (G.2.2.1, N, .inr (.inl f)))) {i : Int32} {x : Int64} (hin : vp_in i N) (hdg : decode cc pc = .ok (.lastore, 1)) (hw : ∀ f1, (W1 Lw).set q0 (a, .inl (G.2.2.1, N, .inr (.inl f1))) = W1 (va_up Lw n f1))
    (kk : ∀ (L1 : Nat → Nat → Int64) (H1 : Heap) (locs1 : List Loc), L1 = va_up Lw n (vp_updL f i.toNatClampNeg x) → va_P G.1 vwCl (W1 L1) H1 → va_D A (W1 L1) → va_S A s.heap H1 locs1 → W p l e R s m args below meth c H1 locs1 cells slots Q (F0 m (pc + 1) ls rest)) : W p l e R s m args below meth c H locs cells slots Q (F0 m pc ls (.long x :: .int i :: .ref a :: rest)) :=
  g_last F hK hP hD hS q0 ha hin hdg (fun f1 => W1 (va_up Lw n f1)) hw (fun f1 H1 l1 e1 h1 h2 h3 => kk _ H1 l1 (by rw [e1]) h1 h2 h3)
theorem p_zrow {W1 : (Nat → Nat → Int32) → va_W} {Rw : Nat → Nat → Int32} {n : Nat} (F : CallFix p m c cc nL s args tb own) (hK : KX G s) (hP : va_P G.1 vwCl (W1 Rw) H) (hD : va_D A (W1 Rw)) (hS : va_S A s.heap H locs) (q0 : Nat) {N : Nat} {f : Nat → Int32} (ha : (W1 Rw)[q0]? = some (a, .inl (G.2.2.2.1, N, .inl f))) {i x : Int32} (hx : vp_nar .boolean x = x) (hin : vp_in i N) (hdg : decode cc pc = .ok (.bastore, 1)) (hw : ∀ f1, (W1 Rw).set q0 (a, .inl (G.2.2.2.1, N, .inl f1)) = W1 (va_up Rw n f1))
    (kk : ∀ (R1 : Nat → Nat → Int32) (H1 : Heap) (locs1 : List Loc), R1 = va_up Rw n (upd f i.toNatClampNeg x) → va_P G.1 vwCl (W1 R1) H1 → va_D A (W1 R1) → va_S A s.heap H1 locs1 → W p l e R s m args below meth c H1 locs1 cells slots Q (F0 m (pc + 1) ls rest)) : W p l e R s m args below meth c H locs cells slots Q (F0 m pc ls (.int x :: .int i :: .ref a :: rest)) :=
  va_zast F.1 F.2.1 hK.1 hP hD hS q0 2 ha rfl hin hdg (fun H1 l1 h1 h2 h3 => kk _ H1 l1 rfl (by rw [← hw]; rw [hx] at h1; exact h1) (by rw [← hw]; rw [hx] at h2; exact h2) h3)
end
section
variable {p : Program} {l : Launch} {e : Env} {R : Room} {s : State} {m : MethodId} {args : Array Value} {below : List Frame} {meth : Method} {c : Code} {H : Heap} {locs : List Loc} {cells slots : Nat} {cc : ByteArray} {nL : Nat} {own : String} {pc : Nat} {ls : Array Slot} {G : Gx} {A : Nat → Prop} {S : Type} {w1 : S → va_W}
theorem q_i {post : Int32 → S → Prop} {v : Int32} (F : CallFix p m c cc nL s args tb own) (hr : meth.sig.returnType = some .int) (hlk : meth.locks = false) (u : S) (hP : va_P G.1 vwCl (w1 u) H) (hD : va_D A (w1 u)) (hS : va_S A s.heap H locs) (hp : post v u) (hdg : decode cc pc = .ok (.ireturn, 1)) {k n : Nat} (h1 : cells ≤ k) (h2 : slots ≤ n) :
    W p l e R s m args below meth c H locs cells slots (MQ below (va_Qi post (BX G A w1) A) args s k n A) (F0 m pc ls [.int v]) :=
  r_i F hr hlk hP hD hS u (List.range (w1 u).length) (nd_all _) (rg_all _) hp hdg h1 h2
theorem q_z {post : Int32 → S → Prop} {v : Int32} {ty : FieldType} (F : CallFix p m c cc nL s args tb own) (hr : meth.sig.returnType = some ty) (hlk : meth.locks = false) (u : S) (hP : va_P G.1 vwCl (w1 u) H) (hD : va_D A (w1 u)) (hS : va_S A s.heap H locs) (hp : post v u) (hdg : decode cc pc = .ok (.ireturn, 1)) {k n : Nat} (h1 : cells ≤ k) (h2 : slots ≤ n) (hn : narrow ty (.int v) = .int v) :
    W p l e R s m args below meth c H locs cells slots (MQ below (va_Qi post (BX G A w1) A) args s k n A) (F0 m pc ls [.int v]) :=
  r_z F hr hlk hP hD hS u (List.range (w1 u).length) (nd_all _) (rg_all _) hp hdg h1 h2 hn
theorem q_l {post : Int64 → S → Prop} {v : Int64} (F : CallFix p m c cc nL s args tb own) (hr : meth.sig.returnType = some .long) (hlk : meth.locks = false) (u : S) (hP : va_P G.1 vwCl (w1 u) H) (hD : va_D A (w1 u)) (hS : va_S A s.heap H locs) (hp : post v u) (hdg : decode cc pc = .ok (.lreturn, 1)) {k n : Nat} (h1 : cells ≤ k) (h2 : slots ≤ n) :
    W p l e R s m args below meth c H locs cells slots (MQ below (va_Ql post (BX G A w1) A) args s k n A) (F0 m pc ls [.long v]) :=
  r_l F hr hlk hP hD hS u (List.range (w1 u).length) (nd_all _) (rg_all _) hp hdg h1 h2
theorem q_v {post : S → Prop} (F : CallFix p m c cc nL s args tb own) (hr : meth.sig.returnType = none) (hlk : meth.locks = false) (u : S) (hP : va_P G.1 vwCl (w1 u) H) (hD : va_D A (w1 u)) (hS : va_S A s.heap H locs) (hp : post u) (hdg : decode cc pc = .ok (.return_, 1)) {k n : Nat} (h1 : cells ≤ k) (h2 : slots ≤ n) :
    W p l e R s m args below meth c H locs cells slots (MQ below (va_Qv post (BX G A w1) A) args s k n A) (F0 m pc ls []) :=
  r_v F hr hlk hP hD hS u (List.range (w1 u).length) (nd_all _) (rg_all _) hp hdg h1 h2
end
section
variable {p : Program} {l : Launch} {e : Env} {R : Room} {s : State} {m : MethodId} {args : Array Value} {below : List Frame} {meth : Method} {c : Code} {H : Heap} {locs : List Loc} {Q : State → Prop} {cc : ByteArray} {nL : Nat} {own : String} {pc : Nat} {ls : Array Slot} {rest st : List Value} {G : Gx} {A : Nat → Prop} {ws : va_W} {y : MethodName} {bytes : ByteArray} {maxL index b : Nat} {ret : Option FieldType} {d : Nat} {As : List Value} {S : Type} {w1 : S → va_W}
/-! calls over the whole world (w), or over nothing of it (0) -/
theorem wvi {post : Int32 → S → Prop} (F : CallFix p m c cc nL s args tb own) (hK : KX G s) (hP : va_P G.1 vwCl ws H) (hD : va_D A ws) (hS : va_S A s.heap H locs) (hA : HA G s A) (hM : CtI l y bytes maxL ret (rmD d 0 0) G (.ref b :: As) ws post w1) (km : KmV y bytes maxL ret As.length) (hl : Cond.methodLink own index y ∈ tb) {ci : Nat} {fs : List Value} {C : String} {T : u_T} {N : Nat} {ty : Nat → FieldType} (hc : ClF ci C T N ty) (hC0 : C = y.cls) (q0 : Nat) (he : ws[q0]? = some (b, .inr (ci, fs))) (hR : d + 1 ≤ R.frames ∧ 8 + (maxL + 11) + 60 * d ≤ R.locals) (hsz : ls.size = nL) (hst : st = As.reverse ++ .ref b :: rest) (hW : (rest.map fun v => v.category).sum ≤ 8) (hdg : decode cc pc = .ok (.invokevirtual index, 3)) (kk : ∀ (r : Int32) (u : S) (H1 : Heap) (locs1 : List Loc), post r u → va_P G.1 vwCl (w1 u) H1 → va_D A (w1 u) → va_S A s.heap H1 locs1 → W p l e R s m args below meth c H1 locs1 0 0 Q (F0 m (pc + 3) ls (.int r :: rest))) : W p l e R s m args below meth c H locs 0 0 Q (F0 m pc ls st) :=
  cvi (wr := []) F hK hP hD hS hA hM km hl hc hC0 q0 he hR (List.range ws.length) [] (nd_all _) (rg_all _) rfl rfl (fun _ h => absurd h (by simp)) hsz hst hW hdg ⟨Nat.zero_le _, Nat.zero_le _⟩ rfl rfl kk
theorem wvl {post : Int64 → S → Prop} (F : CallFix p m c cc nL s args tb own) (hK : KX G s) (hP : va_P G.1 vwCl ws H) (hD : va_D A ws) (hS : va_S A s.heap H locs) (hA : HA G s A) (hM : CtL l y bytes maxL ret (rmD d 0 0) G (.ref b :: As) ws post w1) (km : KmV y bytes maxL ret As.length) (hl : Cond.methodLink own index y ∈ tb) {ci : Nat} {fs : List Value} {C : String} {T : u_T} {N : Nat} {ty : Nat → FieldType} (hc : ClF ci C T N ty) (hC0 : C = y.cls) (q0 : Nat) (he : ws[q0]? = some (b, .inr (ci, fs))) (hR : d + 1 ≤ R.frames ∧ 8 + (maxL + 11) + 60 * d ≤ R.locals) (hsz : ls.size = nL) (hst : st = As.reverse ++ .ref b :: rest) (hW : (rest.map fun v => v.category).sum ≤ 8) (hdg : decode cc pc = .ok (.invokevirtual index, 3)) (kk : ∀ (r : Int64) (u : S) (H1 : Heap) (locs1 : List Loc), post r u → va_P G.1 vwCl (w1 u) H1 → va_D A (w1 u) → va_S A s.heap H1 locs1 → W p l e R s m args below meth c H1 locs1 0 0 Q (F0 m (pc + 3) ls (.long r :: rest))) : W p l e R s m args below meth c H locs 0 0 Q (F0 m pc ls st) :=
  cvl (wr := []) F hK hP hD hS hA hM km hl hc hC0 q0 he hR (List.range ws.length) [] (nd_all _) (rg_all _) rfl rfl (fun _ h => absurd h (by simp)) hsz hst hW hdg ⟨Nat.zero_le _, Nat.zero_le _⟩ rfl rfl kk
theorem wvv {post : S → Prop} (F : CallFix p m c cc nL s args tb own) (hK : KX G s) (hP : va_P G.1 vwCl ws H) (hD : va_D A ws) (hS : va_S A s.heap H locs) (hA : HA G s A) (hM : CtV l y bytes maxL ret (rmD d 0 0) G (.ref b :: As) ws post w1) (km : KmV y bytes maxL ret As.length) (hl : Cond.methodLink own index y ∈ tb) {ci : Nat} {fs : List Value} {C : String} {T : u_T} {N : Nat} {ty : Nat → FieldType} (hc : ClF ci C T N ty) (hC0 : C = y.cls) (q0 : Nat) (he : ws[q0]? = some (b, .inr (ci, fs))) (hR : d + 1 ≤ R.frames ∧ 8 + (maxL + 11) + 60 * d ≤ R.locals) (hsz : ls.size = nL) (hst : st = As.reverse ++ .ref b :: rest) (hW : (rest.map fun v => v.category).sum ≤ 8) (hdg : decode cc pc = .ok (.invokevirtual index, 3)) (kk : ∀ (u : S) (H1 : Heap) (locs1 : List Loc), post u → va_P G.1 vwCl (w1 u) H1 → va_D A (w1 u) → va_S A s.heap H1 locs1 → W p l e R s m args below meth c H1 locs1 0 0 Q (F0 m (pc + 3) ls rest)) : W p l e R s m args below meth c H locs 0 0 Q (F0 m pc ls st) :=
  cvv (wr := []) F hK hP hD hS hA hM km hl hc hC0 q0 he hR (List.range ws.length) [] (nd_all _) (rg_all _) rfl rfl (fun _ h => absurd h (by simp)) hsz hst hW hdg ⟨Nat.zero_le _, Nat.zero_le _⟩ rfl rfl kk
theorem wsi {post : Int32 → S → Prop} (F : CallFix p m c cc nL s args tb own) (hK : KX G s) (hP : va_P G.1 vwCl ws H) (hD : va_D A ws) (hS : va_S A s.heap H locs) (hA : HA G s A) (hM : CtI l y bytes maxL ret (rmD d 0 0) G As ws post w1) (km : KmS y bytes maxL ret As.length) (hl : Cond.methodLink own index y ∈ tb) (hR : d + 1 ≤ R.frames ∧ 8 + (maxL + 11) + 60 * d ≤ R.locals) (hsz : ls.size = nL) (hst : st = As.reverse ++ rest) (hW : (rest.map fun v => v.category).sum ≤ 8) (hdg : decode cc pc = .ok (.invokestatic index, 3)) (kk : ∀ (r : Int32) (u : S) (H1 : Heap) (locs1 : List Loc), post r u → va_P G.1 vwCl (w1 u) H1 → va_D A (w1 u) → va_S A s.heap H1 locs1 → W p l e R s m args below meth c H1 locs1 0 0 Q (F0 m (pc + 3) ls (.int r :: rest))) : W p l e R s m args below meth c H locs 0 0 Q (F0 m pc ls st) :=
  csi (wr := []) F hK hP hD hS hA hM km hl hR (List.range ws.length) [] (nd_all _) (rg_all _) rfl rfl (fun _ h => absurd h (by simp)) hsz hst hW hdg ⟨Nat.zero_le _, Nat.zero_le _⟩ rfl rfl kk
theorem w0i {post : Int32 → S → Prop} (F : CallFix p m c cc nL s args tb own) (hK : KX G s) (hP : va_P G.1 vwCl ws H) (hD : va_D A ws) (hS : va_S A s.heap H locs) (hA : HA G s A) (hM : CtI l y bytes maxL ret (rmD d 0 0) G As [] post (fun _ => [])) (km : KmS y bytes maxL ret As.length) (hl : Cond.methodLink own index y ∈ tb) (hR : d + 1 ≤ R.frames ∧ 8 + (maxL + 11) + 60 * d ≤ R.locals) (hsz : ls.size = nL) (hst : st = As.reverse ++ rest) (hW : (rest.map fun v => v.category).sum ≤ 8) (hdg : decode cc pc = .ok (.invokestatic index, 3)) (kk : ∀ (r : Int32) (u : S) (H1 : Heap) (locs1 : List Loc), post r u → va_P G.1 vwCl ws H1 → va_D A ws → va_S A s.heap H1 locs1 → W p l e R s m args below meth c H1 locs1 0 0 Q (F0 m (pc + 3) ls (.int r :: rest))) : W p l e R s m args below meth c H locs 0 0 Q (F0 m pc ls st) :=
  csi (wr := ws) F hK hP hD hS hA hM km hl hR [] (List.range ws.length) rfl rfl (rg_all _) (nd_all _) (fun _ _ => by simp) hsz hst hW hdg ⟨Nat.zero_le _, Nat.zero_le _⟩ rfl rfl (fun r u H1 l1 h h1 h2 h3 => kk r u H1 l1 h (by rw [List.append_nil] at h1; exact h1) (by rw [List.append_nil] at h2; exact h2) h3)
theorem w0l {post : Int64 → S → Prop} (F : CallFix p m c cc nL s args tb own) (hK : KX G s) (hP : va_P G.1 vwCl ws H) (hD : va_D A ws) (hS : va_S A s.heap H locs) (hA : HA G s A) (hM : CtL l y bytes maxL ret (rmD d 0 0) G As [] post (fun _ => [])) (km : KmS y bytes maxL ret As.length) (hl : Cond.methodLink own index y ∈ tb) (hR : d + 1 ≤ R.frames ∧ 8 + (maxL + 11) + 60 * d ≤ R.locals) (hsz : ls.size = nL) (hst : st = As.reverse ++ rest) (hW : (rest.map fun v => v.category).sum ≤ 8) (hdg : decode cc pc = .ok (.invokestatic index, 3)) (kk : ∀ (r : Int64) (u : S) (H1 : Heap) (locs1 : List Loc), post r u → va_P G.1 vwCl ws H1 → va_D A ws → va_S A s.heap H1 locs1 → W p l e R s m args below meth c H1 locs1 0 0 Q (F0 m (pc + 3) ls (.long r :: rest))) : W p l e R s m args below meth c H locs 0 0 Q (F0 m pc ls st) :=
  csl (wr := ws) F hK hP hD hS hA hM km hl hR [] (List.range ws.length) rfl rfl (rg_all _) (nd_all _) (fun _ _ => by simp) hsz hst hW hdg ⟨Nat.zero_le _, Nat.zero_le _⟩ rfl rfl (fun r u H1 l1 h h1 h2 h3 => kk r u H1 l1 h (by rw [List.append_nil] at h1; exact h1) (by rw [List.append_nil] at h2; exact h2) h3)
end
/-! a number under a mask -/
theorem t_and {a b : Int32} (h : 0 ≤ b.toInt) : 0 ≤ (a &&& b).toInt ∧ (a &&& b).toInt ≤ b.toInt := by
  have hb : b.toBitVec.msb = false := by
    rw [BitVec.msb_eq_false_iff_two_mul_lt]
    have h1 : (0 : Int) ≤ b.toBitVec.toInt := h
    rw [BitVec.toInt_eq_toNat_cond] at h1
    split at h1
    · assumption
    · have := b.toBitVec.isLt
      omega
  have e1 : (a &&& b).toInt = ((a.toBitVec &&& b.toBitVec).toNat : Int) := by
    show (a.toBitVec &&& b.toBitVec).toInt = _
    rw [BitVec.toInt_eq_toNat_of_msb]
    rw [BitVec.msb_and, hb, Bool.and_false]
  have e2 : b.toInt = (b.toBitVec.toNat : Int) := by
    show b.toBitVec.toInt = _
    rw [BitVec.toInt_eq_toNat_of_msb hb]
  rw [e1, e2, BitVec.toNat_and]
  exact ⟨Int.natCast_nonneg _, Int.ofNat_le.mpr Nat.and_le_right⟩
theorem t_and2 {a b : Int32} (h : 0 ≤ a.toInt) : 0 ≤ (a &&& b).toInt ∧ (a &&& b).toInt ≤ a.toInt := by
  rw [Int32.and_comm]
  exact t_and h
theorem rg {a b x : Int} (h : a ≤ x ∧ x ≤ b) (a1 b1 : Int) (ha : a = a1) (hb : b = b1) : a1 ≤ x ∧ x ≤ b1 := by
  subst ha; subst hb
  exact h
theorem narz {v : Int32} (h : (0 : Int) ≤ v.toInt ∧ v.toInt ≤ 1) : vp_nar .boolean v = v := by
  unfold vp_nar
  rw [nar01 h]
theorem lcmp_self (x : Int64) : (if x > x then (1 : Int32) else if x == x then 0 else -1) = 0 := by
  rw [if_neg (by show ¬ (x < x); exact Int64.lt_irrefl), if_pos (by simp)]
/-! methods of a class of which some are native: by their own names -/
theorem met_ofF {l : Launch} {y : MethodName} {ws ws' : List Cond} {rm : Room} {Pc : Array Value → State → Prop} {Qc : Array Value → State → Outcome → State → Prop} {mc ms : Nat} {free : Addr → Prop} {cc : ByteArray} {maxL : Nat} {ret : Option FieldType} (hy : plainFor y = true) (hw : ws = Cond.code y cc maxL ret :: ws')
    (body : ∀ p e s m args below meth c s₁, BodyLoose p l y (headSpec ws rm) cc maxL ret e s m args below meth c s₁ → c.maxLocals = maxL → Pc args s → W p l e (headSpec ws rm).room s m args below meth c s.heap [] 0 0 (MQ below Qc args s mc ms free) (entryFrame m args maxL)) : Met l y ws rm Pc Qc mc ms free := by
  refine MetFree.of_bodySF (code := cc) (maxLocals := maxL) (ret := ret) hy ?_ ?_
  · intro args s m h hn
    obtain ⟨meth, c, h1, h2, h3, h4, h5, h6, -, -⟩ := Cond.code_spec hn (atoms_spec (ws := ws) h _ (by rw [hw]; exact List.mem_cons_self))
    exact ⟨meth, c, h1, h2, h3, h4, h5, h6⟩
  · intro p e s m args below meth c s₁ B hml hP _
    have hh0 : s₁.heap = s.heap := by rw [B.state]; rfl
    obtain ⟨t, a1, o, b1, b2, b3⟩ := body p e s m args below meth c s₁ B hml hP s₁ hh0 (Stand.of_body B)
    exact ⟨t, o, a1, b1, b2, ⟨b3.1, b3.2⟩⟩
section
variable {l : Launch} {y : MethodName} {cc : ByteArray} {n : Nat} {ret : Option FieldType} {rm : Room} {G : Gx} {vs : List Value} {w0 : va_W} {S : Type} {w1 : S → va_W} {own : String}
theorem ctI_ofF {post : Int32 → S → Prop} (hy : plainFor y = true) (hcl : y.cls = own) (hn : (lg_sl vs).length ≤ n)
    (body : ∀ (p : Program) (e : Env) (s : State) (m : MethodId) (below : List Frame) (meth : Method) (c : Code) (A : Nat → Prop) (ls : Array Slot), CallFix p m c cc n s vs.toArray tb own → meth.sig.returnType = ret → meth.locks = false → meth.name = y.name → KX G s → va_P G.1 vwCl w0 s.heap → va_D A w0 → HA G s A → va_S A s.heap s.heap [] → lv_has ls n (lv_args 0 vs) →
      W p l e rm s m vs.toArray below meth c s.heap [] 0 0 (MQ below (va_Qi post (BX G A w1) A) vs.toArray s rm.cells rm.slots A) (F0 m 0 ls [])) : CtI l y cc n ret rm G vs w0 post w1 := by
  intro sz
  refine met_ofF (cc := cc) (maxL := n) (ret := ret) hy rfl ?_
  intro p e s m args below meth c s₁ B hml hv
  obtain ⟨rfl, hsz, hP, hK, hD0, hz⟩ := hv
  subst hsz
  have hts := atoms_spec (ws := wsU y cc n ret) B.pre
  have hown : s.vm.findClass own = some m.cls := hcl ▸ findClass_of_methodNamed B.named
  rw [lg_entry_eq]
  exact body p e s m below meth c (va_A w0 s.heap.size) _ ⟨B.exec, B.bytes, hml, hown, fun w h => hts w (List.mem_cons_of_mem _ h)⟩ B.returns B.notSynchronized (name_of_methodNamed B.named B.method).1 hK hP (hD0.self (sz := s.heap.size)) ⟨fun q h => Or.inr h, fun q h => h.elim (fun ⟨k, e, hk⟩ => hD0.2 k _ hk) (fun h => Nat.le_trans hz h)⟩ va_S.rf (lv_entry vs hn)
end
theorem up_ne {α : Type} {I K : Nat → α} {n j : Nat} {v : α} (e : K = va_up I n v) (h : j ≠ n) : K j = I j := by rw [e, va_up_ne I v h]
theorem fm_map {ws : va_W} : ∀ (is : List Nat), (∀ i ∈ is, i < ws.length) → is.map (fun i => ws[i]?) = (is.filterMap (fun i => ws[i]?)).map some
  | [], _ => rfl
  | a :: is, h => by
    obtain ⟨v, h1⟩ : ∃ v, ws[a]? = some v := ⟨_, List.getElem?_eq_getElem (h a List.mem_cons_self)⟩
    rw [List.map_cons, List.filterMap_cons, h1, List.map_cons, fm_map is (fun i hi => h i (List.mem_cons_of_mem _ hi))]
section
variable {p : Program} {l : Launch} {e : Env} {R : Room} {s : State} {m : MethodId} {args : Array Value} {below : List Frame} {meth : Method} {c : Code} {H : Heap} {locs : List Loc} {Q : State → Prop} {cc : ByteArray} {nL : Nat} {own : String} {pc : Nat} {ls : Array Slot} {rest st : List Value} {G : Gx} {A : Nat → Prop} {ws : va_W} {y : MethodName} {bytes : ByteArray} {maxL index a : Nat} {ret : Option FieldType} {d : Nat} {As : List Value} {S : Type}
/-- a static call over one cell of the world -/
theorem w1v {post : S → Prop} {x : va_E} {x1 : S → va_E} (F : CallFix p m c cc nL s args tb own) (hK : KX G s) (hP : va_P G.1 vwCl ws H) (hD : va_D A ws) (hS : va_S A s.heap H locs) (hA : HA G s A) (q0 : Nat) (he : ws[q0]? = some (a, x)) (hM : CtV l y bytes maxL ret (rmD d 0 0) G As [(a, x)] post (fun u => [(a, x1 u)])) (km : KmS y bytes maxL ret As.length) (hl : Cond.methodLink own index y ∈ tb) (hR : d + 1 ≤ R.frames ∧ 8 + (maxL + 11) + 60 * d ≤ R.locals) (hsz : ls.size = nL) (hst : st = As.reverse ++ rest) (hW : (rest.map fun v => v.category).sum ≤ 8) (hdg : decode cc pc = .ok (.invokestatic index, 3)) (kk : ∀ (u : S) (H1 : Heap) (locs1 : List Loc), post u → va_P G.1 vwCl (ws.set q0 (a, x1 u)) H1 → va_D A (ws.set q0 (a, x1 u)) → va_S A s.heap H1 locs1 → W p l e R s m args below meth c H1 locs1 0 0 Q (F0 m (pc + 3) ls rest)) : W p l e R s m args below meth c H locs 0 0 Q (F0 m pc ls st) := by
  have hlt : q0 < ws.length := (List.getElem?_eq_some_iff.mp he).1
  refine csv (wr := ((List.range ws.length).filter (fun i => i != q0)).filterMap (fun i => ws[i]?)) F hK hP hD hS hA hM km hl hR [q0] ((List.range ws.length).filter (fun i => i != q0)) rfl (by simp [he]) (fm_map _ (fun i hi => List.mem_range.mp (List.mem_filter.mp hi).1)) (nd_of _ (List.nodup_range.filter _)) (fun i hi => by have := (List.mem_filter.mp hi).2; simpa using this) hsz hst hW hdg ⟨Nat.zero_le _, Nat.zero_le _⟩ rfl rfl (fun u H1 l1 h h1 h2 h3 => kk u H1 l1 h ?_ (hD.set he) h3)
  intro k q hk
  by_cases e1 : k = q0
  · subst e1
    rw [List.getElem?_set_self hlt] at hk
    cases hk
    obtain ⟨i, hi⟩ := List.getElem?_of_mem (List.mem_append_right (((List.range ws.length).filter (fun i => i != k)).filterMap (fun i => ws[i]?)) (List.mem_singleton.mpr (rfl : (a, x1 u) = (a, x1 u))))
    exact h1 i _ hi
  · rw [List.getElem?_set_ne (fun q => e1 q.symm)] at hk
    have hkl : k < ws.length := (List.getElem?_eq_some_iff.mp hk).1
    have hm : q ∈ ((List.range ws.length).filter (fun i => i != q0)).filterMap (fun i => ws[i]?) := List.mem_filterMap.mpr ⟨k, List.mem_filter.mpr ⟨List.mem_range.mpr hkl, by simpa using e1⟩, hk⟩
    obtain ⟨i, hi⟩ := List.getElem?_of_mem (List.mem_append_left [(a, x1 u)] hm)
    exact h1 i _ hi
end
theorem clamp_nn {x : Int32} (h : 0 ≤ x.toInt) : ((x.toNatClampNeg : Nat) : Int) = x.toInt := by
  show ((x.toInt.toNat : Nat) : Int) = x.toInt
  omega
section
variable {p : Program} {l : Launch} {e : Env} {R : Room} {s : State} {m : MethodId} {args : Array Value} {below : List Frame} {meth : Method} {c : Code} {H : Heap} {locs : List Loc} {cells slots : Nat} {Q : State → Prop} {cc : ByteArray} {nL : Nat} {own : String} {pc : Nat} {ls : Array Slot} {rest st : List Value} {G : Gx} {A : Nat → Prop} {ws wr w0 : va_W} {y : MethodName} {bytes : ByteArray} {maxL index b k1 s1 : Nat} {ret : Option FieldType} {rm : Room} {As : List Value} {S : Type} {w1 : S → va_W}
theorem csiN {post : Int32 → S → Prop} (F : CallFix p m c cc nL s args tb own) (hK : KX G s) (hP : va_P G.1 vwCl ws H) (hD : va_D A ws) (hS : va_S A s.heap H locs) (hA : HA G s A) (hM : CtI l y bytes maxL ret rm G As w0 post w1) (km : KmS y bytes maxL ret As.length) (host : String) (hl : (own, index, y, host) ∈ nst) (hR : rm.frames + 1 ≤ R.frames ∧ 8 + (maxL + 11) + rm.locals ≤ R.locals) (isC isR : List Nat) (hCn : va_nd isC = true) (hC : isC.map (fun i => ws[i]?) = w0.map some) (hRr : isR.map (fun i => ws[i]?) = wr.map some) (hRn : va_nd isR = true) (hdis : ∀ i ∈ isR, i ∉ isC) (hsz : ls.size = nL) (hst : st = As.reverse ++ rest) (hW : (rest.map fun v => v.category).sum ≤ 8) (hdg : decode cc pc = .ok (.invokestatic index, 3)) (hf : cells + rm.cells ≤ R.cells ∧ slots + rm.slots ≤ R.slots) (hk : cells + rm.cells = k1) (hs : slots + rm.slots = s1)
    (kk : ∀ (r : Int32) (u : S) (H1 : Heap) (locs1 : List Loc), post r u → va_P G.1 vwCl (wr ++ w1 u) H1 → va_D A (wr ++ w1 u) → va_S A s.heap H1 locs1 → W p l e R s m args below meth c H1 locs1 k1 s1 Q (F0 m (pc + 3) ls (.int r :: rest))) : W p l e R s m args below meth c H locs cells slots Q (F0 m pc ls st) := by
  subst hk; subst hs
  have hPc := hP.sub (ws' := w0) isC (fm_of hC)
  have hDc := hD.sub (ws' := w0) isC hCn hC
  have hFc := va_free (wc := w0) hD hS hA.1 isC hC
  have cw : va_CN R s args own index y host bytes maxL ret (wsU y bytes maxL ret) rm rm.cells rm.slots As.length ∧ (Cond.static y).before args s = true ∧ True := ⟨va_cnB As.length F.2.2.2.2 (tb_in km.1) rfl rfl rfl (hK.2.1 _ hl) (F.2.2.2.2 _ km.2.1) km.2.2.2 hR, F.2.2.2.2 _ km.2.2.1, trivial⟩
  refine va_calli (va_runSN (As := As) (rest := rest) F (hM H.size) cw ⟨blindX, fun U hU hW => ⟨rfl, by rw [hU], by rw [hU]; exact hPc, KX.warm hW hA (by rw [hU]; exact hS) hK, hDc.weaken (fun _ _ _ h => hA.2 _ h), Nat.le_trans hA.z hS.1⟩⟩ rfl rfl hsz hst (lv_room hW) hdg hf) hS (fun q _ h => hFc q h) hFc ?_
  intro r u t H1 locs1 ht hvm hw hB hz1 hk1 hS1
  have hP1 := hB.1
  rw [ht] at hP1
  obtain ⟨hP2, hD2⟩ := va_join (wr := wr) (w1 := w1 u) hP hD isC isR hC hRr hRn hdis hk1 hFc hP1 hB.2
  exact kk r u H1 locs1 hw hP2 hD2 hS1
theorem w0iN {d : Nat} {post : Int32 → S → Prop} (F : CallFix p m c cc nL s args tb own) (hK : KX G s) (hP : va_P G.1 vwCl ws H) (hD : va_D A ws) (hS : va_S A s.heap H locs) (hA : HA G s A) (hM : CtI l y bytes maxL ret (rmD d 0 0) G As [] post (fun _ => [])) (km : KmS y bytes maxL ret As.length) (host : String) (hl : (own, index, y, host) ∈ nst) (hR : d + 1 ≤ R.frames ∧ 8 + (maxL + 11) + 60 * d ≤ R.locals) (hsz : ls.size = nL) (hst : st = As.reverse ++ rest) (hW : (rest.map fun v => v.category).sum ≤ 8) (hdg : decode cc pc = .ok (.invokestatic index, 3)) (kk : ∀ (r : Int32) (u : S) (H1 : Heap) (locs1 : List Loc), post r u → va_P G.1 vwCl ws H1 → va_D A ws → va_S A s.heap H1 locs1 → W p l e R s m args below meth c H1 locs1 0 0 Q (F0 m (pc + 3) ls (.int r :: rest))) : W p l e R s m args below meth c H locs 0 0 Q (F0 m pc ls st) :=
  csiN (wr := ws) F hK hP hD hS hA hM km host hl hR [] (List.range ws.length) rfl rfl (rg_all _) (nd_all _) (fun _ _ => by simp) hsz hst hW hdg ⟨Nat.zero_le _, Nat.zero_le _⟩ rfl rfl (fun r u H1 l1 h h1 h2 h3 => kk r u H1 l1 h (by rw [List.append_nil] at h1; exact h1) (by rw [List.append_nil] at h2; exact h2) h3)
end
