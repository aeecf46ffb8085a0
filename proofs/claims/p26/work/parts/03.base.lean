/-! the words that every method carries: the good ones of the tables -/
def tb : List Cond := lw_tbl.filter goodWord
theorem tb_at {w : Cond} (i : Nat) (h : (decide (lw_tbl[i]? = some w) && goodWord w) = true) : w ∈ tb := by
  have h1 : lw_tbl[i]? = some w ∧ goodWord w = true := by
    rw [Bool.and_eq_true] at h
    exact ⟨of_decide_eq_true h.1, h.2⟩
  exact List.mem_filter.mpr ⟨List.mem_of_getElem? h1.1, h1.2⟩
theorem tb_good {w : Cond} (h : w ∈ tb) : goodWord w = true := (List.mem_filter.mp h).2
theorem tb_lw {w : Cond} (h : w ∈ tb) : w ∈ lw_tbl := (List.mem_filter.mp h).1
theorem tb_in {c : Cond} (h : c ∈ tb) : GoodIn tb (c :: tb) := fun w hw => (List.mem_cons.mp hw).elim (fun e => e ▸ ⟨h, good_of_word (tb_good h)⟩) (fun h => ⟨h, good_of_word (tb_good h)⟩)
abbrev Gx : Type := va_G × (ClassId × (ClassId × (ClassId × (Nat × (Nat × Nat)))))
abbrev tyG (G : Gx) : List (ClassId × FieldType) := [(G.2.1, .int), (G.2.2.1, .long), (G.2.2.2.1, .boolean)]
def KN (U : State) : Prop := ∀ q ∈ nst, va_Nw (.methodLinkNest q.1 q.2.1 q.2.2.1 q.2.2.2) U
/-- what was there before the law began: the cells below z0; the one text and its bytes lie there -/
abbrev zA (G : Gx) : Nat → Prop := fun q => G.2.2.2.2.1 ≤ q
abbrev sK (G : Gx) : Nat := G.2.2.2.2.2.1
abbrev sV (G : Gx) : Nat := G.2.2.2.2.2.2
def TXT : String := "floor desks noise cost team person days cannot likes tie comes visit own meet turns stand worth mon tue wed thu fri when or and not all day crew many room min max"
def SX (G : Gx) (U : State) : Prop := vk_R "DeskDays$Reader" 46 TXT (sK G) U ∧ va_O "java/lang/String" (sK G) (zA G) U U.heap ∧ va_OF "java/lang/String" "coder" "B" (.int 0) (sK G) (zA G) U U.heap ∧ va_OF "java/lang/String" "value" "[B" (.ref (sV G)) (sK G) (zA G) U U.heap ∧ (∃ b : Nat → Int32, va_T .byte (sV G) 162 (fun j => .int (b j)) (zA G) U U.heap) ∧ va_Z "java/lang/String" "COMPACT_STRINGS" "Z" (.int 1) (zA G) U U.heap ∧ ∃ fm : Option Nat, va_Z "jdk/internal/util/Preconditions" "SIOOBE_FORMATTER" "Ljava/util/function/BiFunction;" (va_rf fm) (zA G) U U.heap
def HA (G : Gx) (s : State) (A : Nat → Prop) : Prop := (∀ q, s.heap.size ≤ q → A q) ∧ ∀ q, A q → G.2.2.2.2.1 ≤ q
theorem HA.z {G : Gx} {s : State} {A : Nat → Prop} (h : HA G s A) : G.2.2.2.2.1 ≤ s.heap.size := h.2 _ (h.1 _ (Nat.le_refl _))
theorem SX.warm {G : Gx} {s U : State} {A : Nat → Prop} {locs : List Loc} (hW : s.WarmedH U.vm) (hA : HA G s A) (hS : va_S A s.heap U.heap locs) (h : SX G s) : SX G U := by
  have hq : ∀ a : Nat, a < s.heap.size → ¬ zA G a → U.heap[a]? = s.heap[a]? := fun a h1 h2 => hS.2.1 a h1 (fun q => h2 (hA.2 a q))
  obtain ⟨h1, h2, h3, h4, ⟨b, h5⟩, h6, fm, h7⟩ := h
  exact ⟨h1.warm hW, (h2.moved hW.alike).kept hq, (h3.moved hW.alike).kept hq, (h4.moved hW.alike).kept hq, ⟨b, (h5.moved hW.alike).kept hq⟩, (h6.moved hW.alike).kept hq, fm, (h7.moved hW.alike).kept hq⟩
theorem SX.call {G : Gx} {U : State} {g : JFrame} {mk : MethodId} {a : Array Value} (h : SX G U) : SX G (U.calling g mk a) := by
  have hv : U.vm.Alike (U.calling g mk a).vm := Vm.Alike.refl U.vm
  obtain ⟨h1, h2, h3, h4, ⟨b, h5⟩, h6, fm, h7⟩ := h
  exact ⟨vk_R.same (u := U) (U := U.calling g mk a) rfl h1, h2.moved hv, h3.moved hv, h4.moved hv, ⟨b, h5.moved hv⟩, h6.moved hv, fm, h7.moved hv⟩
def KX (G : Gx) (U : State) : Prop := va_K G.1 vwCl (tyG G) U ∧ KN U ∧ SX G U
theorem KX.warm {G : Gx} {s U : State} {A : Nat → Prop} {locs : List Loc} (hW : s.WarmedH U.vm) (hA : HA G s A) (hS : va_S A s.heap U.heap locs) (h : KX G s) : KX G U := ⟨va_K.moved hW.alike h.1, fun q hq => va_Nw.warmM hW (h.2.1 q hq), h.2.2.warm hW hA hS⟩
theorem KX.call {G : Gx} {U : State} {g : JFrame} {mk : MethodId} {a : Array Value} (h : KX G U) : KX G (U.calling g mk a) := ⟨va_K.moved (u := U) (U := U.calling g mk a) (Vm.Alike.refl U.vm) h.1, fun q hq => va_Nw.same rfl (u := U) (U := U.calling g mk a) rfl (h.2.1 q hq), h.2.2.call⟩
abbrev wsU (y : MethodName) (cc : ByteArray) (n : Nat) (ret : Option FieldType) : List Cond := .code y cc n ret :: tb
abbrev rmD (d c s : Nat) : Room := { frames := d, cells := c, slots := s, locals := 60 * d }
abbrev PcX (G : Gx) (vs : List Value) (w0 : va_W) (sz : Nat) : Array Value → State → Prop := va_Pc vs (fun U => U.heap.size = sz ∧ va_P G.1 vwCl w0 U.heap ∧ KX G U ∧ va_D (zA G) w0 ∧ G.2.2.2.2.1 ≤ sz)
abbrev BX {S : Type} (G : Gx) (A : Nat → Prop) (w1 : S → va_W) : S → State → Prop := fun u t => va_P G.1 vwCl (w1 u) t.heap ∧ va_D A (w1 u)
def CtI {S : Type} (l : Launch) (y : MethodName) (cc : ByteArray) (n : Nat) (ret : Option FieldType) (rm : Room) (G : Gx) (vs : List Value) (w0 : va_W) (post : Int32 → S → Prop) (w1 : S → va_W) : Prop :=
  ∀ sz : Nat, Met l y (wsU y cc n ret) rm (PcX G vs w0 sz) (va_Qi post (BX G (va_A w0 sz) w1) (va_A w0 sz)) rm.cells rm.slots (va_A w0 sz)
def CtL {S : Type} (l : Launch) (y : MethodName) (cc : ByteArray) (n : Nat) (ret : Option FieldType) (rm : Room) (G : Gx) (vs : List Value) (w0 : va_W) (post : Int64 → S → Prop) (w1 : S → va_W) : Prop :=
  ∀ sz : Nat, Met l y (wsU y cc n ret) rm (PcX G vs w0 sz) (va_Ql post (BX G (va_A w0 sz) w1) (va_A w0 sz)) rm.cells rm.slots (va_A w0 sz)
def CtV {S : Type} (l : Launch) (y : MethodName) (cc : ByteArray) (n : Nat) (ret : Option FieldType) (rm : Room) (G : Gx) (vs : List Value) (w0 : va_W) (post : S → Prop) (w1 : S → va_W) : Prop :=
  ∀ sz : Nat, Met l y (wsU y cc n ret) rm (PcX G vs w0 sz) (va_Qv post (BX G (va_A w0 sz) w1) (va_A w0 sz)) rm.cells rm.slots (va_A w0 sz)
theorem blindX {G : Gx} {vs : List Value} {w0 : va_W} {sz : Nat} : FrameBlind (PcX G vs w0 sz) := fun a U g mk q => by
  obtain ⟨q0, q1, qP, qK, qD⟩ := q
  exact ⟨q0, q1, qP, KX.call qK, qD⟩
theorem fm_of {α β : Type} {f : α → Option β} : ∀ {is : List α} {w : List β}, is.map f = w.map some → is.filterMap f = w
  | [], [], _ => rfl
  | [], _ :: _, h => by simp at h
  | _ :: _, [], h => by simp at h
  | a :: is, b :: w, h => by
    simp only [List.map_cons, List.cons.injEq] at h
    rw [List.filterMap_cons, h.1]
    exact congrArg (b :: ·) (fm_of h.2)
/-- the place of a class in the table, its words, its fields' types and names -/
def ClF (ci : Nat) (C : String) (T : u_T) (N : Nat) (ty : Nat → FieldType) : Prop := vwCl[ci]? = some (C, T, N) ∧ (∀ w ∈ u_ws C T N, w ∈ tb) ∧ (∀ k, k < N → parseFieldDescriptor (T k).2.2.1 = some (ty k)) ∧ ∀ a, a < N → ∀ b, b < N → a ≠ b → (T a).2.1 ≠ (T b).2.1
/-- a method's own facts: virtual, static, constructor -/
def KmV (y : MethodName) (cc : ByteArray) (n : Nat) (ret : Option FieldType) (k : Nat) : Prop := Cond.code y cc n ret ∈ tb ∧ Cond.initialized y.cls ∈ tb ∧ Cond.instanceMethod y ∈ tb ∧ Cond.selects y.cls y y ∈ tb ∧ (y.cls ≠ "java/lang/invoke/MethodHandle" ∧ y.cls ≠ "java/lang/invoke/VarHandle" ∧ (parseMethodDescriptor y.desc).map (fun d => d.parameters.length) = some k)
def KmS (y : MethodName) (cc : ByteArray) (n : Nat) (ret : Option FieldType) (k : Nat) : Prop := Cond.code y cc n ret ∈ tb ∧ Cond.initialized y.cls ∈ tb ∧ Cond.static y ∈ tb ∧ (y.cls ≠ "java/lang/invoke/MethodHandle" ∧ y.cls ≠ "java/lang/invoke/VarHandle" ∧ (parseMethodDescriptor y.desc).map (fun d => d.parameters.length) = some k)
def KmI (y : MethodName) (cc : ByteArray) (n : Nat) (k : Nat) : Prop := Cond.code y cc n none ∈ tb ∧ Cond.initialized y.cls ∈ tb ∧ Cond.instanceMethod y ∈ tb ∧ y.name = "<init>" ∧ (y.cls ≠ "java/lang/invoke/MethodHandle" ∧ y.cls ≠ "java/lang/invoke/VarHandle" ∧ (parseMethodDescriptor y.desc).map (fun d => d.parameters.length) = some k)
theorem vin {i : Int32} {n : Nat} (h : decide (¬ (i < 0 ∨ n ≤ i.toNatClampNeg)) = true) : vp_in i n := of_decide_eq_true (p := ¬ (i < 0 ∨ n ≤ i.toNatClampNeg)) h
section
variable {l : Launch} {y : MethodName} {cc : ByteArray} {n : Nat} {ret : Option FieldType} {rm : Room} {G : Gx} {vs : List Value} {w0 : va_W} {S : Type} {w1 : S → va_W} {own : String}
theorem ctI_of {post : Int32 → S → Prop} (hy : plainName y.cls = true) (hcl : y.cls = own) (hn : (lg_sl vs).length ≤ n)
    (body : ∀ (p : Program) (e : Env) (s : State) (m : MethodId) (below : List Frame) (meth : Method) (c : Code) (A : Nat → Prop) (ls : Array Slot), CallFix p m c cc n s vs.toArray tb own → meth.sig.returnType = ret → meth.locks = false → meth.name = y.name → KX G s → va_P G.1 vwCl w0 s.heap → va_D A w0 → HA G s A → va_S A s.heap s.heap [] → lv_has ls n (lv_args 0 vs) →
      W p l e rm s m vs.toArray below meth c s.heap [] 0 0 (MQ below (va_Qi post (BX G A w1) A) vs.toArray s rm.cells rm.slots A) (F0 m 0 ls [])) : CtI l y cc n ret rm G vs w0 post w1 := by
  intro sz
  refine Met.ofW (cc := cc) (maxL := n) (ret := ret) hy rfl ?_
  intro p e s m args below meth c s₁ B hml hv
  obtain ⟨rfl, hsz, hP, hK, hD0, hz⟩ := hv
  subst hsz
  have hts := atoms_spec (ws := wsU y cc n ret) B.pre
  have hown : s.vm.findClass own = some m.cls := hcl ▸ findClass_of_methodNamed B.named
  rw [lg_entry_eq]
  exact body p e s m below meth c (va_A w0 s.heap.size) _ ⟨B.exec, B.bytes, hml, hown, fun w h => hts w (List.mem_cons_of_mem _ h)⟩ B.returns B.notSynchronized (name_of_methodNamed B.named B.method).1 hK hP (hD0.self (sz := s.heap.size)) ⟨fun q h => Or.inr h, fun q h => h.elim (fun ⟨k, e, hk⟩ => hD0.2 k _ hk) (fun h => Nat.le_trans hz h)⟩ va_S.rf (lv_entry vs hn)
theorem ctL_of {post : Int64 → S → Prop} (hy : plainName y.cls = true) (hcl : y.cls = own) (hn : (lg_sl vs).length ≤ n)
    (body : ∀ (p : Program) (e : Env) (s : State) (m : MethodId) (below : List Frame) (meth : Method) (c : Code) (A : Nat → Prop) (ls : Array Slot), CallFix p m c cc n s vs.toArray tb own → meth.sig.returnType = ret → meth.locks = false → meth.name = y.name → KX G s → va_P G.1 vwCl w0 s.heap → va_D A w0 → HA G s A → va_S A s.heap s.heap [] → lv_has ls n (lv_args 0 vs) →
      W p l e rm s m vs.toArray below meth c s.heap [] 0 0 (MQ below (va_Ql post (BX G A w1) A) vs.toArray s rm.cells rm.slots A) (F0 m 0 ls [])) : CtL l y cc n ret rm G vs w0 post w1 := by
  intro sz
  refine Met.ofW (cc := cc) (maxL := n) (ret := ret) hy rfl ?_
  intro p e s m args below meth c s₁ B hml hv
  obtain ⟨rfl, hsz, hP, hK, hD0, hz⟩ := hv
  subst hsz
  have hts := atoms_spec (ws := wsU y cc n ret) B.pre
  have hown : s.vm.findClass own = some m.cls := hcl ▸ findClass_of_methodNamed B.named
  rw [lg_entry_eq]
  exact body p e s m below meth c (va_A w0 s.heap.size) _ ⟨B.exec, B.bytes, hml, hown, fun w h => hts w (List.mem_cons_of_mem _ h)⟩ B.returns B.notSynchronized (name_of_methodNamed B.named B.method).1 hK hP (hD0.self (sz := s.heap.size)) ⟨fun q h => Or.inr h, fun q h => h.elim (fun ⟨k, e, hk⟩ => hD0.2 k _ hk) (fun h => Nat.le_trans hz h)⟩ va_S.rf (lv_entry vs hn)
theorem ctV_of {post : S → Prop} (hy : plainName y.cls = true) (hcl : y.cls = own) (hn : (lg_sl vs).length ≤ n)
    (body : ∀ (p : Program) (e : Env) (s : State) (m : MethodId) (below : List Frame) (meth : Method) (c : Code) (A : Nat → Prop) (ls : Array Slot), CallFix p m c cc n s vs.toArray tb own → meth.sig.returnType = ret → meth.locks = false → meth.name = y.name → KX G s → va_P G.1 vwCl w0 s.heap → va_D A w0 → HA G s A → va_S A s.heap s.heap [] → lv_has ls n (lv_args 0 vs) →
      W p l e rm s m vs.toArray below meth c s.heap [] 0 0 (MQ below (va_Qv post (BX G A w1) A) vs.toArray s rm.cells rm.slots A) (F0 m 0 ls [])) : CtV l y cc n ret rm G vs w0 post w1 := by
  intro sz
  refine Met.ofW (cc := cc) (maxL := n) (ret := ret) hy rfl ?_
  intro p e s m args below meth c s₁ B hml hv
  obtain ⟨rfl, hsz, hP, hK, hD0, hz⟩ := hv
  subst hsz
  have hts := atoms_spec (ws := wsU y cc n ret) B.pre
  have hown : s.vm.findClass own = some m.cls := hcl ▸ findClass_of_methodNamed B.named
  rw [lg_entry_eq]
  exact body p e s m below meth c (va_A w0 s.heap.size) _ ⟨B.exec, B.bytes, hml, hown, fun w h => hts w (List.mem_cons_of_mem _ h)⟩ B.returns B.notSynchronized (name_of_methodNamed B.named B.method).1 hK hP (hD0.self (sz := s.heap.size)) ⟨fun q h => Or.inr h, fun q h => h.elim (fun ⟨k, e, hk⟩ => hD0.2 k _ hk) (fun h => Nat.le_trans hz h)⟩ va_S.rf (lv_entry vs hn)
end
section
variable {p : Program} {l : Launch} {e : Env} {R : Room} {s : State} {m : MethodId} {args : Array Value} {below : List Frame} {meth : Method} {c : Code} {H : Heap} {locs : List Loc} {cells slots : Nat} {Q : State → Prop} {cc : ByteArray} {nL : Nat} {own : String} {pc : Nat} {ls : Array Slot} {rest : List Value} {G : Gx} {A : Nat → Prop} {ws : va_W} {a : Nat}
/-! a number on the stack by another name -/
theorem cst_i {x y : Int32} (h : x = y) (k : W p l e R s m args below meth c H locs cells slots Q (F0 m pc ls (.int y :: rest))) : W p l e R s m args below meth c H locs cells slots Q (F0 m pc ls (.int x :: rest)) := h ▸ k
theorem cst_l {x y : Int64} (h : x = y) (k : W p l e R s m args below meth c H locs cells slots Q (F0 m pc ls (.long y :: rest))) : W p l e R s m args below meth c H locs cells slots Q (F0 m pc ls (.long x :: rest)) := h ▸ k
theorem g_get (F : CallFix p m c cc nL s args tb own) (hK : KX G s) (hP : va_P G.1 vwCl ws H) (q0 : Nat) {ci : Nat} {fs : List Value} (he : ws[q0]? = some (a, .inr (ci, fs))) {C : String} {T : u_T} {N : Nat} {ty : Nat → FieldType} (hc : ClF ci C T N ty) (k : Nat) (hk : k < N) {index : Nat} (hl : Cond.fieldLink own index (T k).1 (T k).2.1 (T k).2.2.1 ∈ tb) {v : Value} (hv : fs[k]? = some v) (hdg : decode cc pc = .ok (.getfield index, 3))
    (kk : W p l e R s m args below meth c H locs cells slots Q (F0 m (pc + 3) ls (v :: rest))) : W p l e R s m args below meth c H locs cells slots Q (F0 m pc ls (.ref a :: rest)) :=
  va_get F.1 F.2.1 F.2.2.2.2 hc.2.1 F.2.2.2.1 hK.1 hP q0 he hc.1 k hk (F.2.2.2.2 _ hl) (fun _ h => h) hv hdg kk
theorem g_put {w' : va_W} (F : CallFix p m c cc nL s args tb own) (hK : KX G s) (hP : va_P G.1 vwCl ws H) (hD : va_D A ws) (hS : va_S A s.heap H locs) (q0 : Nat) {ci : Nat} {fs : List Value} (he : ws[q0]? = some (a, .inr (ci, fs))) {C : String} {T : u_T} {N : Nat} {ty : Nat → FieldType} (hc : ClF ci C T N ty) (k : Nat) (hk : k < N) {index : Nat} (hl : Cond.fieldLink own index (T k).1 (T k).2.1 (T k).2.2.1 ∈ tb) (hfin : (T k).2.2.2 = false) {v : Value} (hn : narrow (ty k) v = v) (hfit : fits (ty k) v = true) (hlen : k < fs.length) (hdg : decode cc pc = .ok (.putfield index, 3)) (hw : ws.set q0 (a, .inr (ci, fs.set k v)) = w')
    (kk : ∀ (H1 : Heap) (locs1 : List Loc), va_P G.1 vwCl w' H1 → va_D A w' → va_S A s.heap H1 locs1 → W p l e R s m args below meth c H1 locs1 cells slots Q (F0 m (pc + 3) ls rest)) : W p l e R s m args below meth c H locs cells slots Q (F0 m pc ls (v :: .ref a :: rest)) := by
  subst hw
  exact va_put F.1 F.2.1 F.2.2.2.2 hc.2.1 ty hc.2.2.1 hc.2.2.2 F.2.2.2.1 hK.1 hP hD hS q0 he hc.1 k hk (F.2.2.2.2 _ hl) (fun _ h => h) hfin (hc.2.2.1 k hk) hn hfit hlen hdg kk
theorem g_putF {w' : va_W} (F : CallFix p m c cc nL s args tb own) (hnm : meth.name = "<init>") (hK : KX G s) (hP : va_P G.1 vwCl ws H) (hD : va_D A ws) (hS : va_S A s.heap H locs) (q0 : Nat) {ci : Nat} {fs : List Value} (he : ws[q0]? = some (a, .inr (ci, fs))) {C : String} {T : u_T} {N : Nat} {ty : Nat → FieldType} (hc : ClF ci C T N ty) (k : Nat) (hk : k < N) {index : Nat} (hl : Cond.fieldLink own index (T k).1 (T k).2.1 (T k).2.2.1 ∈ tb) (hfin : (T k).2.2.2 = true) (hdecl : (T k).1 = own) {v : Value} (hn : narrow (ty k) v = v) (hfit : fits (ty k) v = true) (hlen : k < fs.length) (hdg : decode cc pc = .ok (.putfield index, 3)) (hw : ws.set q0 (a, .inr (ci, fs.set k v)) = w')
    (kk : ∀ (H1 : Heap) (locs1 : List Loc), va_P G.1 vwCl w' H1 → va_D A w' → va_S A s.heap H1 locs1 → W p l e R s m args below meth c H1 locs1 cells slots Q (F0 m (pc + 3) ls rest)) : W p l e R s m args below meth c H locs cells slots Q (F0 m pc ls (v :: .ref a :: rest)) := by
  subst hw
  exact va_putF F.1 F.2.1 F.2.2.2.2 hc.2.1 ty hc.2.2.1 hc.2.2.2 F.2.2.2.1 hK.1 hP hD hS q0 he hc.1 k hk (F.2.2.2.2 _ hl) (fun _ h => h) hfin hnm hdecl (hc.2.2.1 k hk) hn hfit hlen hdg kk
theorem g_iald (F : CallFix p m c cc nL s args tb own) (hK : KX G s) (hP : va_P G.1 vwCl ws H) (q0 : Nat) {n : Nat} {f : Nat → Int32} (ha : ws[q0]? = some (a, .inl (G.2.1, n, .inl f))) {i : Int32} (hin : vp_in i n) (hdg : decode cc pc = .ok (.iaload, 1)) {v : Int32} (hv : f i.toNatClampNeg = v)
    (kk : W p l e R s m args below meth c H locs cells slots Q (F0 m (pc + 1) ls (.int v :: rest))) : W p l e R s m args below meth c H locs cells slots Q (F0 m pc ls (.int i :: .ref a :: rest)) :=
  va_iald F.1 F.2.1 hK.1 hP q0 0 ha rfl hin hdg (hv ▸ kk)
theorem g_lald (F : CallFix p m c cc nL s args tb own) (hK : KX G s) (hP : va_P G.1 vwCl ws H) (q0 : Nat) {n : Nat} {f : Nat → Int64} (ha : ws[q0]? = some (a, .inl (G.2.2.1, n, .inr (.inl f)))) {i : Int32} (hin : vp_in i n) (hdg : decode cc pc = .ok (.laload, 1)) {v : Int64} (hv : f i.toNatClampNeg = v)
    (kk : W p l e R s m args below meth c H locs cells slots Q (F0 m (pc + 1) ls (.long v :: rest))) : W p l e R s m args below meth c H locs cells slots Q (F0 m pc ls (.int i :: .ref a :: rest)) :=
  va_lald F.1 F.2.1 hK.1 hP q0 1 ha rfl hin hdg (hv ▸ kk)
theorem g_iast (F : CallFix p m c cc nL s args tb own) (hK : KX G s) (hP : va_P G.1 vwCl ws H) (hD : va_D A ws) (hS : va_S A s.heap H locs) (q0 : Nat) {n : Nat} {f : Nat → Int32} (ha : ws[q0]? = some (a, .inl (G.2.1, n, .inl f))) {i x : Int32} (hin : vp_in i n) (hdg : decode cc pc = .ok (.iastore, 1)) (w' : (Nat → Int32) → va_W) (hw : ∀ f1, ws.set q0 (a, .inl (G.2.1, n, .inl f1)) = w' f1)
    (kk : ∀ (f1 : Nat → Int32) (H1 : Heap) (locs1 : List Loc), f1 = upd f i.toNatClampNeg x → va_P G.1 vwCl (w' f1) H1 → va_D A (w' f1) → va_S A s.heap H1 locs1 → W p l e R s m args below meth c H1 locs1 cells slots Q (F0 m (pc + 1) ls rest)) : W p l e R s m args below meth c H locs cells slots Q (F0 m pc ls (.int x :: .int i :: .ref a :: rest)) :=
  va_iast F.1 F.2.1 hK.1 hP hD hS q0 0 ha rfl hin hdg (fun H1 locs1 h1 h2 h3 => kk _ H1 locs1 rfl (hw _ ▸ h1) (hw _ ▸ h2) h3)
theorem g_last (F : CallFix p m c cc nL s args tb own) (hK : KX G s) (hP : va_P G.1 vwCl ws H) (hD : va_D A ws) (hS : va_S A s.heap H locs) (q0 : Nat) {n : Nat} {f : Nat → Int64} (ha : ws[q0]? = some (a, .inl (G.2.2.1, n, .inr (.inl f)))) {i : Int32} {x : Int64} (hin : vp_in i n) (hdg : decode cc pc = .ok (.lastore, 1)) (w' : (Nat → Int64) → va_W) (hw : ∀ f1, ws.set q0 (a, .inl (G.2.2.1, n, .inr (.inl f1))) = w' f1)
    (kk : ∀ (f1 : Nat → Int64) (H1 : Heap) (locs1 : List Loc), f1 = vp_updL f i.toNatClampNeg x → va_P G.1 vwCl (w' f1) H1 → va_D A (w' f1) → va_S A s.heap H1 locs1 → W p l e R s m args below meth c H1 locs1 cells slots Q (F0 m (pc + 1) ls rest)) : W p l e R s m args below meth c H locs cells slots Q (F0 m pc ls (.long x :: .int i :: .ref a :: rest)) :=
  va_last F.1 F.2.1 hK.1 hP hD hS q0 1 ha rfl hin hdg (fun H1 locs1 h1 h2 h3 => kk _ H1 locs1 rfl (hw _ ▸ h1) (hw _ ▸ h2) h3)
theorem g_ialen (F : CallFix p m c cc nL s args tb own) (hK : KX G s) (hP : va_P G.1 vwCl ws H) (q0 : Nat) {x : vp_A} (ha : ws[q0]? = some (a, .inl (G.2.1, x))) {v : Int32} (hv : Int32.ofNat x.1 = v) (hdg : decode cc pc = .ok (.arraylength, 1))
    (kk : W p l e R s m args below meth c H locs cells slots Q (F0 m (pc + 1) ls (.int v :: rest))) : W p l e R s m args below meth c H locs cells slots Q (F0 m pc ls (.ref a :: rest)) :=
  va_alen F.1 F.2.1 hK.1 hP q0 0 ha rfl hv hdg kk
theorem g_lalen (F : CallFix p m c cc nL s args tb own) (hK : KX G s) (hP : va_P G.1 vwCl ws H) (q0 : Nat) {x : vp_A} (ha : ws[q0]? = some (a, .inl (G.2.2.1, x))) {v : Int32} (hv : Int32.ofNat x.1 = v) (hdg : decode cc pc = .ok (.arraylength, 1))
    (kk : W p l e R s m args below meth c H locs cells slots Q (F0 m (pc + 1) ls (.int v :: rest))) : W p l e R s m args below meth c H locs cells slots Q (F0 m pc ls (.ref a :: rest)) :=
  va_alen F.1 F.2.1 hK.1 hP q0 1 ha rfl hv hdg kk
theorem g_newI (F : CallFix p m c cc nL s args tb own) (hw : Cond.arrayClass .int ∈ tb) (hK : KX G s) (hP : va_P G.1 vwCl ws H) (hD : va_D A ws) (hS : va_S A s.heap H locs) (hA : HA G s A) {n : Int32} {N : Nat} (hn : ¬ n < 0) (hN : n.toNatClampNeg = N) (hbytes : N * componentBytes .int ≤ 536870912) (hcells : cells + 1 ≤ R.cells) (hslots : slots + N ≤ R.slots) (hdg : decode cc pc = .ok (.newarray .int, 2)) {k1 s1 : Nat} (hk : cells + 1 = k1) (hs : slots + N = s1)
    (kk : ∀ (q : Nat) (H1 : Heap), va_P G.1 vwCl (ws ++ [(q, .inl (G.2.1, N, .inl (fun _ => 0)))]) H1 → va_D A (ws ++ [(q, .inl (G.2.1, N, .inl (fun _ => 0)))]) → va_S A s.heap H1 locs → W p l e R s m args below meth c H1 locs k1 s1 Q (F0 m (pc + 2) ls (.ref q :: rest))) : W p l e R s m args below meth c H locs cells slots Q (F0 m pc ls (.int n :: rest)) := by
  subst hk; subst hs
  refine va_newa (atype := .int) (ty := .int) (a0 := (N, .inl (fun _ => 0))) F.1 F.2.1 (F.2.2.2.2 _ hw) rfl hK.1 hP hD hS hA.1 (fun _ => rfl) hn hN hbytes hcells hslots hdg (fun q cA H1 hK1 hP1 hD1 hS1 => ?_)
  have e1 : s.vm.findClass ("[" ++ (FieldType.int).toString) = some cA := (hK1.2 3 (cA, .int) rfl).2
  have e2 : s.vm.findClass ("[" ++ (FieldType.int).toString) = some G.2.1 := (hK.1.2 0 (G.2.1, .int) rfl).2
  obtain rfl : G.2.1 = cA := Option.some.inj (e2.symm.trans e1)
  exact kk q H1 hP1 hD1 hS1
theorem g_newJ (F : CallFix p m c cc nL s args tb own) (hw : Cond.arrayClass .long ∈ tb) (hK : KX G s) (hP : va_P G.1 vwCl ws H) (hD : va_D A ws) (hS : va_S A s.heap H locs) (hA : HA G s A) {n : Int32} {N : Nat} (hn : ¬ n < 0) (hN : n.toNatClampNeg = N) (hbytes : N * componentBytes .long ≤ 536870912) (hcells : cells + 1 ≤ R.cells) (hslots : slots + N ≤ R.slots) (hdg : decode cc pc = .ok (.newarray .long, 2)) {k1 s1 : Nat} (hk : cells + 1 = k1) (hs : slots + N = s1)
    (kk : ∀ (q : Nat) (H1 : Heap), va_P G.1 vwCl (ws ++ [(q, .inl (G.2.2.1, N, .inr (.inl (fun _ => 0))))]) H1 → va_D A (ws ++ [(q, .inl (G.2.2.1, N, .inr (.inl (fun _ => 0))))]) → va_S A s.heap H1 locs → W p l e R s m args below meth c H1 locs k1 s1 Q (F0 m (pc + 2) ls (.ref q :: rest))) : W p l e R s m args below meth c H locs cells slots Q (F0 m pc ls (.int n :: rest)) := by
  subst hk; subst hs
  refine va_newa (atype := .long) (ty := .long) (a0 := (N, .inr (.inl (fun _ => 0)))) F.1 F.2.1 (F.2.2.2.2 _ hw) rfl hK.1 hP hD hS hA.1 (fun _ => rfl) hn hN hbytes hcells hslots hdg (fun q cA H1 hK1 hP1 hD1 hS1 => ?_)
  have e1 : s.vm.findClass ("[" ++ (FieldType.long).toString) = some cA := (hK1.2 3 (cA, .long) rfl).2
  have e2 : s.vm.findClass ("[" ++ (FieldType.long).toString) = some G.2.2.1 := (hK.1.2 1 (G.2.2.1, .long) rfl).2
  obtain rfl : G.2.2.1 = cA := Option.some.inj (e2.symm.trans e1)
  exact kk q H1 hP1 hD1 hS1
theorem g_newZ (F : CallFix p m c cc nL s args tb own) (hw : Cond.arrayClass .boolean ∈ tb) (hK : KX G s) (hP : va_P G.1 vwCl ws H) (hD : va_D A ws) (hS : va_S A s.heap H locs) (hA : HA G s A) {n : Int32} {N : Nat} (hn : ¬ n < 0) (hN : n.toNatClampNeg = N) (hbytes : N * componentBytes .boolean ≤ 536870912) (hcells : cells + 1 ≤ R.cells) (hslots : slots + N ≤ R.slots) (hdg : decode cc pc = .ok (.newarray .boolean, 2)) {k1 s1 : Nat} (hk : cells + 1 = k1) (hs : slots + N = s1)
    (kk : ∀ (q : Nat) (H1 : Heap), va_P G.1 vwCl (ws ++ [(q, .inl (G.2.2.2.1, N, .inl (fun _ => 0)))]) H1 → va_D A (ws ++ [(q, .inl (G.2.2.2.1, N, .inl (fun _ => 0)))]) → va_S A s.heap H1 locs → W p l e R s m args below meth c H1 locs k1 s1 Q (F0 m (pc + 2) ls (.ref q :: rest))) : W p l e R s m args below meth c H locs cells slots Q (F0 m pc ls (.int n :: rest)) := by
  subst hk; subst hs
  refine va_newa (atype := .boolean) (ty := .boolean) (a0 := (N, .inl (fun _ => 0))) F.1 F.2.1 (F.2.2.2.2 _ hw) rfl hK.1 hP hD hS hA.1 (fun _ => rfl) hn hN hbytes hcells hslots hdg (fun q cA H1 hK1 hP1 hD1 hS1 => ?_)
  have e1 : s.vm.findClass ("[" ++ (FieldType.boolean).toString) = some cA := (hK1.2 3 (cA, .boolean) rfl).2
  have e2 : s.vm.findClass ("[" ++ (FieldType.boolean).toString) = some G.2.2.2.1 := (hK.1.2 2 (G.2.2.2.1, .boolean) rfl).2
  obtain rfl : G.2.2.2.1 = cA := Option.some.inj (e2.symm.trans e1)
  exact kk q H1 hP1 hD1 hS1
theorem g_new (F : CallFix p m c cc nL s args tb own) (hK : KX G s) (hP : va_P G.1 vwCl ws H) (hD : va_D A ws) (hS : va_S A s.heap H locs) (hA : HA G s A) {ci : Nat} {C : String} {T : u_T} {N : Nat} {ty : Nat → FieldType} (hc : ClF ci C T N ty) {index : Nat} (hcl : Cond.classLink own index C ∈ tb) (hin : Cond.instantiable C N ∈ tb) (hini : Cond.initialized C ∈ tb) {fs : List Value} (hfs : ∀ j, j < N → defaultValue (ty j) = vp_V fs j) (hcells : cells + 1 ≤ R.cells) (hslots : slots + N ≤ R.slots) (hdg : decode cc pc = .ok (.new index, 3)) {k1 s1 : Nat} (hk : cells + 1 = k1) (hs : slots + N = s1)
    (kk : ∀ (q : Nat) (H1 : Heap), va_P G.1 vwCl (ws ++ [(q, .inr (ci, fs))]) H1 → va_D A (ws ++ [(q, .inr (ci, fs))]) → va_S A s.heap H1 locs → W p l e R s m args below meth c H1 locs k1 s1 Q (F0 m (pc + 3) ls (.ref q :: rest))) : W p l e R s m args below meth c H locs cells slots Q (F0 m pc ls rest) := by
  subst hk; subst hs
  exact va_new F.1 F.2.1 F.2.2.2.2 hc.2.1 ty hc.2.2.1 F.2.2.2.1 (F.2.2.2.2 _ hcl) (F.2.2.2.2 _ hin) (F.2.2.2.2 _ hini) hK.1 hP hD hS hA.1 hc.1 hfs hcells hslots hdg kk
theorem g_oinit (F : CallFix p m c cc nL s args tb own) {idx : Nat} (hl : Cond.methodLink own idx objectInit ∈ tb) (hi : Cond.instanceMethod objectInit ∈ tb) (hcd : Cond.code objectInit ⟨#[0xb1]⟩ 1 none ∈ tb) (hsz : ls.size = nL) (hdg : decode cc pc = .ok (.invokespecial idx, 3)) (hf : 1 ≤ R.frames) (hlo : (rest.map fun v => v.category).sum + 12 ≤ R.locals)
    (kk : W p l e R s m args below meth c H locs cells slots Q (F0 m (pc + 3) ls rest)) : W p l e R s m args below meth c H locs cells slots Q (F0 m pc ls (.ref a :: rest)) :=
  W.objInit F.1 F.2.1 F.2.2.2.1 (F.2.2.2.2 _ hl) (F.2.2.2.2 _ hi) (F.2.2.2.2 _ hcd) rfl (hsz.trans F.2.2.1.symm) rfl hdg hf (by simpa [JFrame.monitorRoom] using hlo) kk
end
section
variable {p : Program} {l : Launch} {e : Env} {R : Room} {s : State} {m : MethodId} {args : Array Value} {below : List Frame} {meth : Method} {c : Code} {H : Heap} {locs : List Loc} {cells slots : Nat} {cc : ByteArray} {nL : Nat} {own : String} {pc : Nat} {ls : Array Slot} {G : Gx} {A : Nat → Prop} {ws : va_W} {S : Type} {w1 : S → va_W}
theorem r_i {post : Int32 → S → Prop} {v : Int32} (F : CallFix p m c cc nL s args tb own) (hr : meth.sig.returnType = some .int) (hlk : meth.locks = false) (hP : va_P G.1 vwCl ws H) (hD : va_D A ws) (hS : va_S A s.heap H locs) (u : S) (is : List Nat) (hnd : va_nd is = true) (his : is.map (fun i => ws[i]?) = (w1 u).map some) (hp : post v u) (hdg : decode cc pc = .ok (.ireturn, 1)) {k n : Nat} (h1 : cells ≤ k) (h2 : slots ≤ n) :
    W p l e R s m args below meth c H locs cells slots (MQ below (va_Qi post (BX G A w1) A) args s k n A) (F0 m pc ls [.int v]) :=
  W.widen h1 h2 (W.iret F.1 F.2.1 hr (fun t ht _ => ⟨⟨v, u, rfl, hp, by rw [ht]; exact hP.sub is (fm_of his), hD.sub is hnd his⟩, hS.F ht⟩) hS.2.2 hdg hlk)
theorem r_z {post : Int32 → S → Prop} {v : Int32} {ty : FieldType} (F : CallFix p m c cc nL s args tb own) (hr : meth.sig.returnType = some ty) (hlk : meth.locks = false) (hP : va_P G.1 vwCl ws H) (hD : va_D A ws) (hS : va_S A s.heap H locs) (u : S) (is : List Nat) (hnd : va_nd is = true) (his : is.map (fun i => ws[i]?) = (w1 u).map some) (hp : post v u) (hdg : decode cc pc = .ok (.ireturn, 1)) {k n : Nat} (h1 : cells ≤ k) (h2 : slots ≤ n) (hn : narrow ty (.int v) = .int v) :
    W p l e R s m args below meth c H locs cells slots (MQ below (va_Qi post (BX G A w1) A) args s k n A) (F0 m pc ls [.int v]) :=
  W.widen h1 h2 (W.zret F.1 F.2.1 hr hn (fun t ht _ => ⟨⟨v, u, rfl, hp, by rw [ht]; exact hP.sub is (fm_of his), hD.sub is hnd his⟩, hS.F ht⟩) hS.2.2 hdg hlk)
theorem r_l {post : Int64 → S → Prop} {v : Int64} (F : CallFix p m c cc nL s args tb own) (hr : meth.sig.returnType = some .long) (hlk : meth.locks = false) (hP : va_P G.1 vwCl ws H) (hD : va_D A ws) (hS : va_S A s.heap H locs) (u : S) (is : List Nat) (hnd : va_nd is = true) (his : is.map (fun i => ws[i]?) = (w1 u).map some) (hp : post v u) (hdg : decode cc pc = .ok (.lreturn, 1)) {k n : Nat} (h1 : cells ≤ k) (h2 : slots ≤ n) :
    W p l e R s m args below meth c H locs cells slots (MQ below (va_Ql post (BX G A w1) A) args s k n A) (F0 m pc ls [.long v]) :=
  W.widen h1 h2 (W.lret F.1 F.2.1 hr (fun t ht _ => ⟨⟨v, u, rfl, hp, by rw [ht]; exact hP.sub is (fm_of his), hD.sub is hnd his⟩, hS.F ht⟩) hS.2.2 hdg hlk)
theorem r_v {post : S → Prop} (F : CallFix p m c cc nL s args tb own) (hr : meth.sig.returnType = none) (hlk : meth.locks = false) (hP : va_P G.1 vwCl ws H) (hD : va_D A ws) (hS : va_S A s.heap H locs) (u : S) (is : List Nat) (hnd : va_nd is = true) (his : is.map (fun i => ws[i]?) = (w1 u).map some) (hp : post u) (hdg : decode cc pc = .ok (.return_, 1)) {k n : Nat} (h1 : cells ≤ k) (h2 : slots ≤ n) :
    W p l e R s m args below meth c H locs cells slots (MQ below (va_Qv post (BX G A w1) A) args s k n A) (F0 m pc ls []) :=
  W.widen h1 h2 (W.vret F.1 F.2.1 hr (fun t ht _ => ⟨⟨u, rfl, hp, by rw [ht]; exact hP.sub is (fm_of his), hD.sub is hnd his⟩, hS.F ht⟩) hS.2.2 hdg hlk)
end
section
variable {p : Program} {l : Launch} {e : Env} {R : Room} {s : State} {m : MethodId} {args : Array Value} {below : List Frame} {meth : Method} {c : Code} {H : Heap} {locs : List Loc} {cells slots : Nat} {Q : State → Prop} {cc : ByteArray} {nL : Nat} {own : String} {pc : Nat} {ls : Array Slot} {rest st : List Value} {G : Gx} {A : Nat → Prop} {ws wr w0 : va_W} {y : MethodName} {bytes : ByteArray} {maxL index b k1 s1 : Nat} {ret : Option FieldType} {rm : Room} {As : List Value} {S : Type} {w1 : S → va_W}
theorem cvi {post : Int32 → S → Prop} (F : CallFix p m c cc nL s args tb own) (hK : KX G s) (hP : va_P G.1 vwCl ws H) (hD : va_D A ws) (hS : va_S A s.heap H locs) (hA : HA G s A) (hM : CtI l y bytes maxL ret rm G (.ref b :: As) w0 post w1) (km : KmV y bytes maxL ret As.length) (hl : Cond.methodLink own index y ∈ tb) {ci : Nat} {fs : List Value} {C : String} {T : u_T} {N : Nat} {ty : Nat → FieldType} (hc : ClF ci C T N ty) (hC0 : C = y.cls) (q0 : Nat) (he : w0[q0]? = some (b, .inr (ci, fs))) (hR : rm.frames + 1 ≤ R.frames ∧ 8 + (maxL + 11) + rm.locals ≤ R.locals) (isC isR : List Nat) (hCn : va_nd isC = true) (hC : isC.map (fun i => ws[i]?) = w0.map some) (hRr : isR.map (fun i => ws[i]?) = wr.map some) (hRn : va_nd isR = true) (hdis : ∀ i ∈ isR, i ∉ isC) (hsz : ls.size = nL) (hst : st = As.reverse ++ .ref b :: rest) (hW : (rest.map fun v => v.category).sum ≤ 8) (hdg : decode cc pc = .ok (.invokevirtual index, 3)) (hf : cells + rm.cells ≤ R.cells ∧ slots + rm.slots ≤ R.slots) (hk : cells + rm.cells = k1) (hs : slots + rm.slots = s1)
    (kk : ∀ (r : Int32) (u : S) (H1 : Heap) (locs1 : List Loc), post r u → va_P G.1 vwCl (wr ++ w1 u) H1 → va_D A (wr ++ w1 u) → va_S A s.heap H1 locs1 → W p l e R s m args below meth c H1 locs1 k1 s1 Q (F0 m (pc + 3) ls (.int r :: rest))) : W p l e R s m args below meth c H locs cells slots Q (F0 m pc ls st) := by
  subst hk; subst hs
  have hPc := hP.sub (ws' := w0) isC (fm_of hC)
  have hDc := hD.sub (ws' := w0) isC hCn hC
  have hFc := va_free (wc := w0) hD hS hA.1 isC hC
  subst hC0
  have cw : CallW R s args own y.cls index y bytes maxL ret (wsU y bytes maxL ret) rm rm.cells rm.slots As.length := ⟨callB_of As.length F.2.2.2.2 (tb_in km.1) rfl rfl rfl (F.2.2.2.2 _ km.2.1) (F.2.2.2.2 _ hl) km.2.2.2.2 hR, F.2.2.2.2 _ km.2.2.1, F.2.2.2.2 _ km.2.2.2.1⟩
  refine va_calli (va_runV (As := As) (rest := rest) F (hM H.size) cw ⟨blindX, va_recv hK.1 hPc hc.1 he, fun U hU hW => ⟨rfl, by rw [hU], by rw [hU]; exact hPc, KX.warm hW hA (by rw [hU]; exact hS) hK, hDc.weaken (fun _ _ _ h => hA.2 _ h), Nat.le_trans hA.z hS.1⟩⟩ rfl rfl hsz hst (lv_room hW) hdg hf) hS (fun q _ h => hFc q h) hFc ?_
  intro r u t H1 locs1 ht hvm hw hB hz1 hk1 hS1
  have hP1 := hB.1
  rw [ht] at hP1
  obtain ⟨hP2, hD2⟩ := va_join (wr := wr) (w1 := w1 u) hP hD isC isR hC hRr hRn hdis hk1 hFc hP1 hB.2
  exact kk r u H1 locs1 hw hP2 hD2 hS1
theorem cvT {post : Int32 → S → Prop} (F : CallFix p m c cc nL s args tb own) (hK : KX G s) (hP : va_P G.1 vwCl ws H) (hD : va_D A ws) (hS : va_S A s.heap H locs) (hA : HA G s A) (hM : CtI l y bytes maxL ret rm G (.ref b :: As) w0 post w1) (km : KmV y bytes maxL ret As.length) (hl : Cond.methodLink own index y ∈ tb) (hb0 : ∃ cell : Cell, H[b]? = some cell ∧ cell.vm.isStatics = false ∧ s.vm.findClass y.cls = some cell.cls) (hR : rm.frames + 1 ≤ R.frames ∧ 8 + (maxL + 11) + rm.locals ≤ R.locals) (isC isR : List Nat) (hCn : va_nd isC = true) (hC : isC.map (fun i => ws[i]?) = w0.map some) (hRr : isR.map (fun i => ws[i]?) = wr.map some) (hRn : va_nd isR = true) (hdis : ∀ i ∈ isR, i ∉ isC) (hsz : ls.size = nL) (hst : st = As.reverse ++ .ref b :: rest) (hW : (rest.map fun v => v.category).sum ≤ 8) (hdg : decode cc pc = .ok (.invokevirtual index, 3)) (hf : cells + rm.cells ≤ R.cells ∧ slots + rm.slots ≤ R.slots) (hk : cells + rm.cells = k1) (hs : slots + rm.slots = s1)
    (kk : ∀ (r : Int32) (u : S) (H1 : Heap) (locs1 : List Loc), post r u → va_P G.1 vwCl (wr ++ w1 u) H1 → va_D A (wr ++ w1 u) → va_S A s.heap H1 locs1 → W p l e R s m args below meth c H1 locs1 k1 s1 Q (F0 m (pc + 3) ls (.int r :: rest))) : W p l e R s m args below meth c H locs cells slots Q (F0 m pc ls st) := by
  subst hk; subst hs
  have hPc := hP.sub (ws' := w0) isC (fm_of hC)
  have hDc := hD.sub (ws' := w0) isC hCn hC
  have hFc := va_free (wc := w0) hD hS hA.1 isC hC
  have cw : CallW R s args own y.cls index y bytes maxL ret (wsU y bytes maxL ret) rm rm.cells rm.slots As.length := ⟨callB_of As.length F.2.2.2.2 (tb_in km.1) rfl rfl rfl (F.2.2.2.2 _ km.2.1) (F.2.2.2.2 _ hl) km.2.2.2.2 hR, F.2.2.2.2 _ km.2.2.1, F.2.2.2.2 _ km.2.2.2.1⟩
  refine va_calli (va_runV (As := As) (rest := rest) F (hM H.size) cw ⟨blindX, hb0, fun U hU hW => ⟨rfl, by rw [hU], by rw [hU]; exact hPc, KX.warm hW hA (by rw [hU]; exact hS) hK, hDc.weaken (fun _ _ _ h => hA.2 _ h), Nat.le_trans hA.z hS.1⟩⟩ rfl rfl hsz hst (lv_room hW) hdg hf) hS (fun q _ h => hFc q h) hFc ?_
  intro r u t H1 locs1 ht hvm hw hB hz1 hk1 hS1
  have hP1 := hB.1
  rw [ht] at hP1
  obtain ⟨hP2, hD2⟩ := va_join (wr := wr) (w1 := w1 u) hP hD isC isR hC hRr hRn hdis hk1 hFc hP1 hB.2
  exact kk r u H1 locs1 hw hP2 hD2 hS1
theorem cvl {post : Int64 → S → Prop} (F : CallFix p m c cc nL s args tb own) (hK : KX G s) (hP : va_P G.1 vwCl ws H) (hD : va_D A ws) (hS : va_S A s.heap H locs) (hA : HA G s A) (hM : CtL l y bytes maxL ret rm G (.ref b :: As) w0 post w1) (km : KmV y bytes maxL ret As.length) (hl : Cond.methodLink own index y ∈ tb) {ci : Nat} {fs : List Value} {C : String} {T : u_T} {N : Nat} {ty : Nat → FieldType} (hc : ClF ci C T N ty) (hC0 : C = y.cls) (q0 : Nat) (he : w0[q0]? = some (b, .inr (ci, fs))) (hR : rm.frames + 1 ≤ R.frames ∧ 8 + (maxL + 11) + rm.locals ≤ R.locals) (isC isR : List Nat) (hCn : va_nd isC = true) (hC : isC.map (fun i => ws[i]?) = w0.map some) (hRr : isR.map (fun i => ws[i]?) = wr.map some) (hRn : va_nd isR = true) (hdis : ∀ i ∈ isR, i ∉ isC) (hsz : ls.size = nL) (hst : st = As.reverse ++ .ref b :: rest) (hW : (rest.map fun v => v.category).sum ≤ 8) (hdg : decode cc pc = .ok (.invokevirtual index, 3)) (hf : cells + rm.cells ≤ R.cells ∧ slots + rm.slots ≤ R.slots) (hk : cells + rm.cells = k1) (hs : slots + rm.slots = s1)
    (kk : ∀ (r : Int64) (u : S) (H1 : Heap) (locs1 : List Loc), post r u → va_P G.1 vwCl (wr ++ w1 u) H1 → va_D A (wr ++ w1 u) → va_S A s.heap H1 locs1 → W p l e R s m args below meth c H1 locs1 k1 s1 Q (F0 m (pc + 3) ls (.long r :: rest))) : W p l e R s m args below meth c H locs cells slots Q (F0 m pc ls st) := by
  subst hk; subst hs
  have hPc := hP.sub (ws' := w0) isC (fm_of hC)
  have hDc := hD.sub (ws' := w0) isC hCn hC
  have hFc := va_free (wc := w0) hD hS hA.1 isC hC
  subst hC0
  have cw : CallW R s args own y.cls index y bytes maxL ret (wsU y bytes maxL ret) rm rm.cells rm.slots As.length := ⟨callB_of As.length F.2.2.2.2 (tb_in km.1) rfl rfl rfl (F.2.2.2.2 _ km.2.1) (F.2.2.2.2 _ hl) km.2.2.2.2 hR, F.2.2.2.2 _ km.2.2.1, F.2.2.2.2 _ km.2.2.2.1⟩
  refine va_calll (va_runV (As := As) (rest := rest) F (hM H.size) cw ⟨blindX, va_recv hK.1 hPc hc.1 he, fun U hU hW => ⟨rfl, by rw [hU], by rw [hU]; exact hPc, KX.warm hW hA (by rw [hU]; exact hS) hK, hDc.weaken (fun _ _ _ h => hA.2 _ h), Nat.le_trans hA.z hS.1⟩⟩ rfl rfl hsz hst (lv_room hW) hdg hf) hS (fun q _ h => hFc q h) hFc ?_
  intro r u t H1 locs1 ht hvm hw hB hz1 hk1 hS1
  have hP1 := hB.1
  rw [ht] at hP1
  obtain ⟨hP2, hD2⟩ := va_join (wr := wr) (w1 := w1 u) hP hD isC isR hC hRr hRn hdis hk1 hFc hP1 hB.2
  exact kk r u H1 locs1 hw hP2 hD2 hS1
theorem cvv {post : S → Prop} (F : CallFix p m c cc nL s args tb own) (hK : KX G s) (hP : va_P G.1 vwCl ws H) (hD : va_D A ws) (hS : va_S A s.heap H locs) (hA : HA G s A) (hM : CtV l y bytes maxL ret rm G (.ref b :: As) w0 post w1) (km : KmV y bytes maxL ret As.length) (hl : Cond.methodLink own index y ∈ tb) {ci : Nat} {fs : List Value} {C : String} {T : u_T} {N : Nat} {ty : Nat → FieldType} (hc : ClF ci C T N ty) (hC0 : C = y.cls) (q0 : Nat) (he : w0[q0]? = some (b, .inr (ci, fs))) (hR : rm.frames + 1 ≤ R.frames ∧ 8 + (maxL + 11) + rm.locals ≤ R.locals) (isC isR : List Nat) (hCn : va_nd isC = true) (hC : isC.map (fun i => ws[i]?) = w0.map some) (hRr : isR.map (fun i => ws[i]?) = wr.map some) (hRn : va_nd isR = true) (hdis : ∀ i ∈ isR, i ∉ isC) (hsz : ls.size = nL) (hst : st = As.reverse ++ .ref b :: rest) (hW : (rest.map fun v => v.category).sum ≤ 8) (hdg : decode cc pc = .ok (.invokevirtual index, 3)) (hf : cells + rm.cells ≤ R.cells ∧ slots + rm.slots ≤ R.slots) (hk : cells + rm.cells = k1) (hs : slots + rm.slots = s1)
    (kk : ∀ (u : S) (H1 : Heap) (locs1 : List Loc), post u → va_P G.1 vwCl (wr ++ w1 u) H1 → va_D A (wr ++ w1 u) → va_S A s.heap H1 locs1 → W p l e R s m args below meth c H1 locs1 k1 s1 Q (F0 m (pc + 3) ls rest)) : W p l e R s m args below meth c H locs cells slots Q (F0 m pc ls st) := by
  subst hk; subst hs
  have hPc := hP.sub (ws' := w0) isC (fm_of hC)
  have hDc := hD.sub (ws' := w0) isC hCn hC
  have hFc := va_free (wc := w0) hD hS hA.1 isC hC
  subst hC0
  have cw : CallW R s args own y.cls index y bytes maxL ret (wsU y bytes maxL ret) rm rm.cells rm.slots As.length := ⟨callB_of As.length F.2.2.2.2 (tb_in km.1) rfl rfl rfl (F.2.2.2.2 _ km.2.1) (F.2.2.2.2 _ hl) km.2.2.2.2 hR, F.2.2.2.2 _ km.2.2.1, F.2.2.2.2 _ km.2.2.2.1⟩
  refine va_callv (va_runV (As := As) (rest := rest) F (hM H.size) cw ⟨blindX, va_recv hK.1 hPc hc.1 he, fun U hU hW => ⟨rfl, by rw [hU], by rw [hU]; exact hPc, KX.warm hW hA (by rw [hU]; exact hS) hK, hDc.weaken (fun _ _ _ h => hA.2 _ h), Nat.le_trans hA.z hS.1⟩⟩ rfl rfl hsz hst (lv_room hW) hdg hf) hS (fun q _ h => hFc q h) hFc ?_
  intro u t H1 locs1 ht hvm hw hB hz1 hk1 hS1
  have hP1 := hB.1
  rw [ht] at hP1
  obtain ⟨hP2, hD2⟩ := va_join (wr := wr) (w1 := w1 u) hP hD isC isR hC hRr hRn hdis hk1 hFc hP1 hB.2
  exact kk u H1 locs1 hw hP2 hD2 hS1
theorem csi {post : Int32 → S → Prop} (F : CallFix p m c cc nL s args tb own) (hK : KX G s) (hP : va_P G.1 vwCl ws H) (hD : va_D A ws) (hS : va_S A s.heap H locs) (hA : HA G s A) (hM : CtI l y bytes maxL ret rm G As w0 post w1) (km : KmS y bytes maxL ret As.length) (hl : Cond.methodLink own index y ∈ tb) (hR : rm.frames + 1 ≤ R.frames ∧ 8 + (maxL + 11) + rm.locals ≤ R.locals) (isC isR : List Nat) (hCn : va_nd isC = true) (hC : isC.map (fun i => ws[i]?) = w0.map some) (hRr : isR.map (fun i => ws[i]?) = wr.map some) (hRn : va_nd isR = true) (hdis : ∀ i ∈ isR, i ∉ isC) (hsz : ls.size = nL) (hst : st = As.reverse ++ rest) (hW : (rest.map fun v => v.category).sum ≤ 8) (hdg : decode cc pc = .ok (.invokestatic index, 3)) (hf : cells + rm.cells ≤ R.cells ∧ slots + rm.slots ≤ R.slots) (hk : cells + rm.cells = k1) (hs : slots + rm.slots = s1)
    (kk : ∀ (r : Int32) (u : S) (H1 : Heap) (locs1 : List Loc), post r u → va_P G.1 vwCl (wr ++ w1 u) H1 → va_D A (wr ++ w1 u) → va_S A s.heap H1 locs1 → W p l e R s m args below meth c H1 locs1 k1 s1 Q (F0 m (pc + 3) ls (.int r :: rest))) : W p l e R s m args below meth c H locs cells slots Q (F0 m pc ls st) := by
  subst hk; subst hs
  have hPc := hP.sub (ws' := w0) isC (fm_of hC)
  have hDc := hD.sub (ws' := w0) isC hCn hC
  have hFc := va_free (wc := w0) hD hS hA.1 isC hC
  have cw : CallB R s args own index y bytes maxL ret (wsU y bytes maxL ret) rm rm.cells rm.slots As.length ∧ (Cond.static y).before args s = true := ⟨callB_of As.length F.2.2.2.2 (tb_in km.1) rfl rfl rfl (F.2.2.2.2 _ km.2.1) (F.2.2.2.2 _ hl) km.2.2.2 hR, F.2.2.2.2 _ km.2.2.1⟩
  refine va_calli (va_runS (As := As) (rest := rest) F (hM H.size) cw ⟨blindX, fun U hU hW => ⟨rfl, by rw [hU], by rw [hU]; exact hPc, KX.warm hW hA (by rw [hU]; exact hS) hK, hDc.weaken (fun _ _ _ h => hA.2 _ h), Nat.le_trans hA.z hS.1⟩⟩ rfl rfl hsz hst (lv_room hW) hdg hf) hS (fun q _ h => hFc q h) hFc ?_
  intro r u t H1 locs1 ht hvm hw hB hz1 hk1 hS1
  have hP1 := hB.1
  rw [ht] at hP1
  obtain ⟨hP2, hD2⟩ := va_join (wr := wr) (w1 := w1 u) hP hD isC isR hC hRr hRn hdis hk1 hFc hP1 hB.2
  exact kk r u H1 locs1 hw hP2 hD2 hS1
theorem csl {post : Int64 → S → Prop} (F : CallFix p m c cc nL s args tb own) (hK : KX G s) (hP : va_P G.1 vwCl ws H) (hD : va_D A ws) (hS : va_S A s.heap H locs) (hA : HA G s A) (hM : CtL l y bytes maxL ret rm G As w0 post w1) (km : KmS y bytes maxL ret As.length) (hl : Cond.methodLink own index y ∈ tb) (hR : rm.frames + 1 ≤ R.frames ∧ 8 + (maxL + 11) + rm.locals ≤ R.locals) (isC isR : List Nat) (hCn : va_nd isC = true) (hC : isC.map (fun i => ws[i]?) = w0.map some) (hRr : isR.map (fun i => ws[i]?) = wr.map some) (hRn : va_nd isR = true) (hdis : ∀ i ∈ isR, i ∉ isC) (hsz : ls.size = nL) (hst : st = As.reverse ++ rest) (hW : (rest.map fun v => v.category).sum ≤ 8) (hdg : decode cc pc = .ok (.invokestatic index, 3)) (hf : cells + rm.cells ≤ R.cells ∧ slots + rm.slots ≤ R.slots) (hk : cells + rm.cells = k1) (hs : slots + rm.slots = s1)
    (kk : ∀ (r : Int64) (u : S) (H1 : Heap) (locs1 : List Loc), post r u → va_P G.1 vwCl (wr ++ w1 u) H1 → va_D A (wr ++ w1 u) → va_S A s.heap H1 locs1 → W p l e R s m args below meth c H1 locs1 k1 s1 Q (F0 m (pc + 3) ls (.long r :: rest))) : W p l e R s m args below meth c H locs cells slots Q (F0 m pc ls st) := by
  subst hk; subst hs
  have hPc := hP.sub (ws' := w0) isC (fm_of hC)
  have hDc := hD.sub (ws' := w0) isC hCn hC
  have hFc := va_free (wc := w0) hD hS hA.1 isC hC
  have cw : CallB R s args own index y bytes maxL ret (wsU y bytes maxL ret) rm rm.cells rm.slots As.length ∧ (Cond.static y).before args s = true := ⟨callB_of As.length F.2.2.2.2 (tb_in km.1) rfl rfl rfl (F.2.2.2.2 _ km.2.1) (F.2.2.2.2 _ hl) km.2.2.2 hR, F.2.2.2.2 _ km.2.2.1⟩
  refine va_calll (va_runS (As := As) (rest := rest) F (hM H.size) cw ⟨blindX, fun U hU hW => ⟨rfl, by rw [hU], by rw [hU]; exact hPc, KX.warm hW hA (by rw [hU]; exact hS) hK, hDc.weaken (fun _ _ _ h => hA.2 _ h), Nat.le_trans hA.z hS.1⟩⟩ rfl rfl hsz hst (lv_room hW) hdg hf) hS (fun q _ h => hFc q h) hFc ?_
  intro r u t H1 locs1 ht hvm hw hB hz1 hk1 hS1
  have hP1 := hB.1
  rw [ht] at hP1
  obtain ⟨hP2, hD2⟩ := va_join (wr := wr) (w1 := w1 u) hP hD isC isR hC hRr hRn hdis hk1 hFc hP1 hB.2
  exact kk r u H1 locs1 hw hP2 hD2 hS1
theorem csv {post : S → Prop} (F : CallFix p m c cc nL s args tb own) (hK : KX G s) (hP : va_P G.1 vwCl ws H) (hD : va_D A ws) (hS : va_S A s.heap H locs) (hA : HA G s A) (hM : CtV l y bytes maxL ret rm G As w0 post w1) (km : KmS y bytes maxL ret As.length) (hl : Cond.methodLink own index y ∈ tb) (hR : rm.frames + 1 ≤ R.frames ∧ 8 + (maxL + 11) + rm.locals ≤ R.locals) (isC isR : List Nat) (hCn : va_nd isC = true) (hC : isC.map (fun i => ws[i]?) = w0.map some) (hRr : isR.map (fun i => ws[i]?) = wr.map some) (hRn : va_nd isR = true) (hdis : ∀ i ∈ isR, i ∉ isC) (hsz : ls.size = nL) (hst : st = As.reverse ++ rest) (hW : (rest.map fun v => v.category).sum ≤ 8) (hdg : decode cc pc = .ok (.invokestatic index, 3)) (hf : cells + rm.cells ≤ R.cells ∧ slots + rm.slots ≤ R.slots) (hk : cells + rm.cells = k1) (hs : slots + rm.slots = s1)
    (kk : ∀ (u : S) (H1 : Heap) (locs1 : List Loc), post u → va_P G.1 vwCl (wr ++ w1 u) H1 → va_D A (wr ++ w1 u) → va_S A s.heap H1 locs1 → W p l e R s m args below meth c H1 locs1 k1 s1 Q (F0 m (pc + 3) ls rest)) : W p l e R s m args below meth c H locs cells slots Q (F0 m pc ls st) := by
  subst hk; subst hs
  have hPc := hP.sub (ws' := w0) isC (fm_of hC)
  have hDc := hD.sub (ws' := w0) isC hCn hC
  have hFc := va_free (wc := w0) hD hS hA.1 isC hC
  have cw : CallB R s args own index y bytes maxL ret (wsU y bytes maxL ret) rm rm.cells rm.slots As.length ∧ (Cond.static y).before args s = true := ⟨callB_of As.length F.2.2.2.2 (tb_in km.1) rfl rfl rfl (F.2.2.2.2 _ km.2.1) (F.2.2.2.2 _ hl) km.2.2.2 hR, F.2.2.2.2 _ km.2.2.1⟩
  refine va_callv (va_runS (As := As) (rest := rest) F (hM H.size) cw ⟨blindX, fun U hU hW => ⟨rfl, by rw [hU], by rw [hU]; exact hPc, KX.warm hW hA (by rw [hU]; exact hS) hK, hDc.weaken (fun _ _ _ h => hA.2 _ h), Nat.le_trans hA.z hS.1⟩⟩ rfl rfl hsz hst (lv_room hW) hdg hf) hS (fun q _ h => hFc q h) hFc ?_
  intro u t H1 locs1 ht hvm hw hB hz1 hk1 hS1
  have hP1 := hB.1
  rw [ht] at hP1
  obtain ⟨hP2, hD2⟩ := va_join (wr := wr) (w1 := w1 u) hP hD isC isR hC hRr hRn hdis hk1 hFc hP1 hB.2
  exact kk u H1 locs1 hw hP2 hD2 hS1
theorem civ {post : S → Prop} (F : CallFix p m c cc nL s args tb own) (hK : KX G s) (hP : va_P G.1 vwCl ws H) (hD : va_D A ws) (hS : va_S A s.heap H locs) (hA : HA G s A) (hM : CtV l y bytes maxL none rm G (.ref b :: As) w0 post w1) (km : KmI y bytes maxL As.length) (hl : Cond.methodLink own index y ∈ tb) (hR : rm.frames + 1 ≤ R.frames ∧ 8 + (maxL + 11) + rm.locals ≤ R.locals) (isC isR : List Nat) (hCn : va_nd isC = true) (hC : isC.map (fun i => ws[i]?) = w0.map some) (hRr : isR.map (fun i => ws[i]?) = wr.map some) (hRn : va_nd isR = true) (hdis : ∀ i ∈ isR, i ∉ isC) (hsz : ls.size = nL) (hst : st = As.reverse ++ .ref b :: rest) (hW : (rest.map fun v => v.category).sum ≤ 8) (hdg : decode cc pc = .ok (.invokespecial index, 3)) (hf : cells + rm.cells ≤ R.cells ∧ slots + rm.slots ≤ R.slots) (hk : cells + rm.cells = k1) (hs : slots + rm.slots = s1)
    (kk : ∀ (u : S) (H1 : Heap) (locs1 : List Loc), post u → va_P G.1 vwCl (wr ++ w1 u) H1 → va_D A (wr ++ w1 u) → va_S A s.heap H1 locs1 → W p l e R s m args below meth c H1 locs1 k1 s1 Q (F0 m (pc + 3) ls rest)) : W p l e R s m args below meth c H locs cells slots Q (F0 m pc ls st) := by
  subst hk; subst hs
  have hPc := hP.sub (ws' := w0) isC (fm_of hC)
  have hDc := hD.sub (ws' := w0) isC hCn hC
  have hFc := va_free (wc := w0) hD hS hA.1 isC hC
  have cw : CallB R s args own index y bytes maxL none (wsU y bytes maxL none) rm rm.cells rm.slots As.length ∧ y.name = "<init>" ∧ (Cond.instanceMethod y).before args s = true := ⟨callB_of As.length F.2.2.2.2 (tb_in km.1) rfl rfl rfl (F.2.2.2.2 _ km.2.1) (F.2.2.2.2 _ hl) km.2.2.2.2 hR, km.2.2.2.1, F.2.2.2.2 _ km.2.2.1⟩
  refine va_callv (va_runI (As := As) (rest := rest) F (hM H.size) cw ⟨blindX, fun U hU hW => ⟨rfl, by rw [hU], by rw [hU]; exact hPc, KX.warm hW hA (by rw [hU]; exact hS) hK, hDc.weaken (fun _ _ _ h => hA.2 _ h), Nat.le_trans hA.z hS.1⟩⟩ rfl rfl hsz hst (lv_room hW) hdg hf) hS (fun q _ h => hFc q h) hFc ?_
  intro u t H1 locs1 ht hvm hw hB hz1 hk1 hS1
  have hP1 := hB.1
  rw [ht] at hP1
  obtain ⟨hP2, hD2⟩ := va_join (wr := wr) (w1 := w1 u) hP hD isC isR hC hRr hRn hdis hk1 hFc hP1 hB.2
  exact kk u H1 locs1 hw hP2 hD2 hS1
theorem cnv {post : S → Prop} (F : CallFix p m c cc nL s args tb own) (hK : KX G s) (hP : va_P G.1 vwCl ws H) (hD : va_D A ws) (hS : va_S A s.heap H locs) (hA : HA G s A) (hM : CtV l y bytes maxL none rm G (.ref b :: As) w0 post w1) (km : KmI y bytes maxL As.length) (host : String) (hl : (own, index, y, host) ∈ nst) (hR : rm.frames + 1 ≤ R.frames ∧ 8 + (maxL + 11) + rm.locals ≤ R.locals) (isC isR : List Nat) (hCn : va_nd isC = true) (hC : isC.map (fun i => ws[i]?) = w0.map some) (hRr : isR.map (fun i => ws[i]?) = wr.map some) (hRn : va_nd isR = true) (hdis : ∀ i ∈ isR, i ∉ isC) (hsz : ls.size = nL) (hst : st = As.reverse ++ .ref b :: rest) (hW : (rest.map fun v => v.category).sum ≤ 8) (hdg : decode cc pc = .ok (.invokespecial index, 3)) (hf : cells + rm.cells ≤ R.cells ∧ slots + rm.slots ≤ R.slots) (hk : cells + rm.cells = k1) (hs : slots + rm.slots = s1)
    (kk : ∀ (u : S) (H1 : Heap) (locs1 : List Loc), post u → va_P G.1 vwCl (wr ++ w1 u) H1 → va_D A (wr ++ w1 u) → va_S A s.heap H1 locs1 → W p l e R s m args below meth c H1 locs1 k1 s1 Q (F0 m (pc + 3) ls rest)) : W p l e R s m args below meth c H locs cells slots Q (F0 m pc ls st) := by
  subst hk; subst hs
  have hPc := hP.sub (ws' := w0) isC (fm_of hC)
  have hDc := hD.sub (ws' := w0) isC hCn hC
  have hFc := va_free (wc := w0) hD hS hA.1 isC hC
  have cw : va_CN R s args own index y host bytes maxL none (wsU y bytes maxL none) rm rm.cells rm.slots As.length ∧ y.name = "<init>" ∧ (Cond.instanceMethod y).before args s = true := ⟨va_cnB As.length F.2.2.2.2 (tb_in km.1) rfl rfl rfl (hK.2.1 _ hl) (F.2.2.2.2 _ km.2.1) km.2.2.2.2 hR, km.2.2.2.1, F.2.2.2.2 _ km.2.2.1⟩
  refine va_callv (va_runIN (As := As) (rest := rest) F (hM H.size) cw ⟨blindX, fun U hU hW => ⟨rfl, by rw [hU], by rw [hU]; exact hPc, KX.warm hW hA (by rw [hU]; exact hS) hK, hDc.weaken (fun _ _ _ h => hA.2 _ h), Nat.le_trans hA.z hS.1⟩⟩ rfl rfl hsz hst (lv_room hW) hdg hf) hS (fun q _ h => hFc q h) hFc ?_
  intro u t H1 locs1 ht hvm hw hB hz1 hk1 hS1
  have hP1 := hB.1
  rw [ht] at hP1
  obtain ⟨hP2, hD2⟩ := va_join (wr := wr) (w1 := w1 u) hP hD isC isR hC hRr hRn hdis hk1 hFc hP1 hB.2
  exact kk u H1 locs1 hw hP2 hD2 hS1
end
