/-! two worlds side by side -/
theorem ap_l (X Y : va_W) : (List.range X.length).map (fun i => (X ++ Y)[i]?) = X.map some := by
  rw [← rg_all X]
  apply List.map_congr_left
  intro i hi
  exact List.getElem?_append_left (List.mem_range.mp hi)
theorem ap_r (X Y : va_W) : ((List.range Y.length).map (fun i => i + X.length)).map (fun i => (X ++ Y)[i]?) = Y.map some := by
  rw [← rg_all Y, List.map_map]
  apply List.map_congr_left
  intro i _
  show (X ++ Y)[i + X.length]? = Y[i]?
  rw [List.getElem?_append_right (Nat.le_add_left _ _), Nat.add_sub_cancel]
theorem nd_sh (n k : Nat) : ((List.range n).map (fun i => i + k)).Nodup := by
  rw [List.nodup_iff_pairwise_ne, List.pairwise_map]
  exact (List.nodup_iff_pairwise_ne.mp List.nodup_range).imp (fun h q => h (Nat.add_right_cancel q))
theorem sw_P {D : va_G} {X Y : va_W} {H : Heap} (h : va_P D vwCl (X ++ Y) H) : va_P D vwCl (Y ++ X) H := by
  intro k q hk
  have hm : q ∈ X ++ Y := by
    have := List.mem_of_getElem? hk
    rw [List.mem_append] at this ⊢
    exact this.symm
  obtain ⟨i, hi⟩ := List.getElem?_of_mem hm
  exact h i q hi
theorem sw_D {A : Nat → Prop} {X Y : va_W} (h : va_D A (X ++ Y)) : va_D A (Y ++ X) := by
  refine h.sub ((List.range Y.length).map (fun i => i + X.length) ++ List.range X.length) ?_ ?_
  · apply nd_of
    rw [List.nodup_append]
    refine ⟨nd_sh _ _, List.nodup_range, ?_⟩
    intro a ha b hb q
    obtain ⟨i, -, hi⟩ := List.mem_map.mp ha
    have := List.mem_range.mp hb
    omega
  · rw [List.map_append, ap_r, ap_l, List.map_append]
section
variable {p : Program} {l : Launch} {e : Env} {R : Room} {s : State} {m : MethodId} {args : Array Value} {below : List Frame} {meth : Method} {c : Code} {H : Heap} {locs : List Loc} {cells slots : Nat} {Q : State → Prop} {cc : ByteArray} {nL : Nat} {own : String} {pc : Nat} {ls : Array Slot} {rest st : List Value} {G : Gx} {A : Nat → Prop} {X Y : va_W} {y : MethodName} {bytes : ByteArray} {maxL index b : Nat} {ret : Option FieldType} {d : Nat} {As : List Value} {S : Type} {w1 : S → va_W}
theorem xvi {post : Int32 → S → Prop} (F : CallFix p m c cc nL s args tb own) (hK : KX G s) (hP : va_P G.1 vwCl (X ++ Y) H) (hD : va_D A (X ++ Y)) (hS : va_S A s.heap H locs) (hA : HA G s A) (hM : CtI l y bytes maxL ret (rmD d 0 0) G (.ref b :: As) X post w1) (km : KmV y bytes maxL ret As.length) (hl : Cond.methodLink own index y ∈ tb) {ci : Nat} {fs : List Value} {C : String} {T : u_T} {N : Nat} {ty : Nat → FieldType} (hc : ClF ci C T N ty) (hC0 : C = y.cls) (q0 : Nat) (he : X[q0]? = some (b, .inr (ci, fs))) (hR : d + 1 ≤ R.frames ∧ 8 + (maxL + 11) + 60 * d ≤ R.locals) (hsz : ls.size = nL) (hst : st = As.reverse ++ .ref b :: rest) (hW : (rest.map fun v => v.category).sum ≤ 8) (hdg : decode cc pc = .ok (.invokevirtual index, 3)) (hf : cells ≤ R.cells ∧ slots ≤ R.slots) (kk : ∀ (r : Int32) (u : S) (H1 : Heap) (locs1 : List Loc), post r u → va_P G.1 vwCl (w1 u ++ Y) H1 → va_D A (w1 u ++ Y) → va_S A s.heap H1 locs1 → W p l e R s m args below meth c H1 locs1 cells slots Q (F0 m (pc + 3) ls (.int r :: rest))) : W p l e R s m args below meth c H locs cells slots Q (F0 m pc ls st) :=
  cvi (wr := Y) F hK hP hD hS hA hM km hl hc hC0 q0 he hR (List.range X.length) ((List.range Y.length).map (fun i => i + X.length)) (nd_all _) (ap_l X Y) (ap_r X Y) (nd_of _ (nd_sh _ _)) (fun i hi hj => by obtain ⟨k, -, hk⟩ := List.mem_map.mp hi; have := List.mem_range.mp hj; omega) hsz hst hW hdg hf rfl rfl (fun r u H1 l1 h h1 h2 h3 => kk r u H1 l1 h (sw_P h1) (sw_D h2) h3)
theorem xvl {post : Int64 → S → Prop} (F : CallFix p m c cc nL s args tb own) (hK : KX G s) (hP : va_P G.1 vwCl (X ++ Y) H) (hD : va_D A (X ++ Y)) (hS : va_S A s.heap H locs) (hA : HA G s A) (hM : CtL l y bytes maxL ret (rmD d 0 0) G (.ref b :: As) X post w1) (km : KmV y bytes maxL ret As.length) (hl : Cond.methodLink own index y ∈ tb) {ci : Nat} {fs : List Value} {C : String} {T : u_T} {N : Nat} {ty : Nat → FieldType} (hc : ClF ci C T N ty) (hC0 : C = y.cls) (q0 : Nat) (he : X[q0]? = some (b, .inr (ci, fs))) (hR : d + 1 ≤ R.frames ∧ 8 + (maxL + 11) + 60 * d ≤ R.locals) (hsz : ls.size = nL) (hst : st = As.reverse ++ .ref b :: rest) (hW : (rest.map fun v => v.category).sum ≤ 8) (hdg : decode cc pc = .ok (.invokevirtual index, 3)) (hf : cells ≤ R.cells ∧ slots ≤ R.slots) (kk : ∀ (r : Int64) (u : S) (H1 : Heap) (locs1 : List Loc), post r u → va_P G.1 vwCl (w1 u ++ Y) H1 → va_D A (w1 u ++ Y) → va_S A s.heap H1 locs1 → W p l e R s m args below meth c H1 locs1 cells slots Q (F0 m (pc + 3) ls (.long r :: rest))) : W p l e R s m args below meth c H locs cells slots Q (F0 m pc ls st) :=
  cvl (wr := Y) F hK hP hD hS hA hM km hl hc hC0 q0 he hR (List.range X.length) ((List.range Y.length).map (fun i => i + X.length)) (nd_all _) (ap_l X Y) (ap_r X Y) (nd_of _ (nd_sh _ _)) (fun i hi hj => by obtain ⟨k, -, hk⟩ := List.mem_map.mp hi; have := List.mem_range.mp hj; omega) hsz hst hW hdg hf rfl rfl (fun r u H1 l1 h h1 h2 h3 => kk r u H1 l1 h (sw_P h1) (sw_D h2) h3)
end
