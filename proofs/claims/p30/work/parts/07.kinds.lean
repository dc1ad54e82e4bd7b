/-! worlds of kinds: of each cell its address and a predicate of what stands in it -/
abbrev TT : Type := List (Nat × (va_E → Prop))
def Cf (T : TT) (ws : va_W) : Prop := ws.length = T.length ∧ ∀ (i a : Nat) (P : va_E → Prop), T[i]? = some (a, P) → ∃ e, ws[i]? = some (a, e) ∧ P e
def TP (D : va_G) (A : Nat → Prop) (T : TT) (H : Heap) : Prop := ∃ ws : va_W, Cf T ws ∧ va_P D cl0 ws H ∧ va_D A ws
def ob (ci : Nat) (fs : List Value) : va_E → Prop := fun e => e = .inr (ci, fs)
def aI (c : ClassId) (n : Nat) (P : (Nat → Int32) → Prop) : va_E → Prop := fun e => ∃ f, P f ∧ e = .inl (c, n, .inl f)
def aJ (c : ClassId) (n : Nat) (P : (Nat → Int64) → Prop) : va_E → Prop := fun e => ∃ f, P f ∧ e = .inl (c, n, .inr (.inl f))
def aQ (c : ClassId) (n : Nat) (P : (Nat → Option Nat) → Prop) : va_E → Prop := fun e => ∃ f, P f ∧ e = .inl (c, n, .inr (.inr (.inr (.inr f))))
def q4 (a b c d : Nat) (f : Nat → Option Nat) : Prop := f 0 = some a ∧ f 1 = some b ∧ f 2 = some c ∧ f 3 = some d
def anI (_ : Nat → Int32) : Prop := True
def anJ (_ : Nat → Int64) : Prop := True
def rgI (lo hi : Int) (f : Nat → Int32) : Prop := ∀ j, lo ≤ (f j).toInt ∧ (f j).toInt ≤ hi
def rgJ (lo hi : Int) (f : Nat → Int64) : Prop := ∀ j, lo ≤ (f j).toInt ∧ (f j).toInt ≤ hi
theorem Cf.set {T : TT} {ws : va_W} {q a : Nat} {P0 P : va_E → Prop} {e : va_E} (h : Cf T ws) (hq : T[q]? = some (a, P0)) (he : P e) : Cf (T.set q (a, P)) (ws.set q (a, e)) := by
  have hl := (List.getElem?_eq_some_iff.mp hq).1
  refine ⟨by simp [h.1], fun i b R hi => ?_⟩
  by_cases hiq : i = q
  · subst hiq
    rw [List.getElem?_set_self hl] at hi
    cases hi
    exact ⟨e, List.getElem?_set_self (by rw [h.1]; exact hl), he⟩
  · rw [List.getElem?_set_ne (Ne.symm hiq)] at hi
    obtain ⟨e1, h1, h2⟩ := h.2 i b R hi
    exact ⟨e1, by rw [List.getElem?_set_ne (Ne.symm hiq)]; exact h1, h2⟩
theorem Cf.same {T : TT} {ws : va_W} {q a : Nat} {P : va_E → Prop} {e : va_E} (h : Cf T ws) (hq : T[q]? = some (a, P)) (he : P e) : Cf T (ws.set q (a, e)) := by
  have hl := (List.getElem?_eq_some_iff.mp hq).1
  refine ⟨by simp [h.1], fun i b R hi => ?_⟩
  by_cases hiq : i = q
  · subst hiq
    rw [hq] at hi
    cases hi
    exact ⟨e, List.getElem?_set_self (by rw [h.1]; exact hl), he⟩
  · obtain ⟨e1, h1, h2⟩ := h.2 i b R hi
    exact ⟨e1, by rw [List.getElem?_set_ne (Ne.symm hiq)]; exact h1, h2⟩
theorem Cf.app {T1 T2 : TT} {w1 w2 : va_W} (h1 : Cf T1 w1) (h2 : Cf T2 w2) : Cf (T1 ++ T2) (w1 ++ w2) := by
  refine ⟨by simp [h1.1, h2.1], fun i b R hi => ?_⟩
  by_cases hl : i < T1.length
  · rw [List.getElem?_append_left hl] at hi
    obtain ⟨e, g1, g2⟩ := h1.2 i b R hi
    exact ⟨e, by rw [List.getElem?_append_left (by rw [h1.1]; exact hl)]; exact g1, g2⟩
  · have hl := Nat.le_of_not_lt hl
    rw [List.getElem?_append_right hl] at hi
    obtain ⟨e, g1, g2⟩ := h2.2 _ b R hi
    exact ⟨e, by rw [List.getElem?_append_right (by rw [h1.1]; exact hl), h1.1]; exact g1, g2⟩
theorem Cf.one {a : Nat} {P : va_E → Prop} {e : va_E} (he : P e) : Cf [(a, P)] [(a, e)] := by
  refine ⟨rfl, fun i b R hi => ?_⟩
  cases i with
  | zero => cases hi; exact ⟨e, rfl, he⟩
  | succ i => cases hi
theorem Cf.pick {T T' : TT} {ws : va_W} (h : Cf T ws) : ∀ {is : List Nat} {T' : TT}, is.map (fun i => T[i]?) = T'.map some → ∃ ws' : va_W, is.map (fun i => ws[i]?) = ws'.map some ∧ Cf T' ws' := by
  intro is
  induction is with
  | nil =>
    intro T' hs
    cases T' with
    | nil => exact ⟨[], rfl, rfl, fun i a P hi => by cases hi⟩
    | cons x t => cases hs
  | cons i is ih =>
    intro T' hs
    cases T' with
    | nil => cases hs
    | cons x t =>
      rw [List.map_cons, List.map_cons] at hs
      injection hs with h1 h2
      obtain ⟨w, g1, g2⟩ := ih h2
      obtain ⟨e, g3, g4⟩ := h.2 i x.1 x.2 h1
      exact ⟨(x.1, e) :: w, by rw [List.map_cons, List.map_cons, g3, g1], Cf.app (Cf.one (a := x.1) g4) g2⟩
theorem Cf.addr {T : TT} {ws : va_W} (h : Cf T ws) {k a : Nat} {e : va_E} (hk : ws[k]? = some (a, e)) : a ∈ T.map Prod.fst := by
  have hl := (List.getElem?_eq_some_iff.mp hk).1
  rw [h.1] at hl
  have h1 : T[k]? = some T[k] := List.getElem?_eq_getElem hl
  obtain ⟨e1, g1, -⟩ := h.2 k T[k].1 T[k].2 h1
  rw [hk] at g1
  have e2 : a = T[k].1 := congrArg Prod.fst (Option.some.inj g1)
  exact List.mem_map.mpr ⟨T[k], List.getElem_mem hl, e2.symm⟩
theorem Cf.addr' {T : TT} {ws : va_W} (h : Cf T ws) {a : Nat} (ha : a ∈ T.map Prod.fst) : ∃ (k : Nat) (e : va_E), ws[k]? = some (a, e) := by
  obtain ⟨x, hx, rfl⟩ := List.mem_map.mp ha
  obtain ⟨k, hk⟩ := List.getElem?_of_mem hx
  obtain ⟨e, h1, -⟩ := h.2 k x.1 x.2 hk
  exact ⟨k, e, h1⟩
/-- what a method may change: its cells, and what it makes -/
def zA (as : List Nat) (sz : Nat) : Nat → Prop := fun q => q ∈ as ∨ sz ≤ q
theorem Cf.zA {T : TT} {ws : va_W} (h : Cf T ws) {sz q : Nat} : va_A ws sz q ↔ zA (T.map Prod.fst) sz q := by
  constructor
  · rintro (⟨k, e, hk⟩ | hq)
    · exact Or.inl (h.addr hk)
    · exact Or.inr hq
  · rintro (ha | hq)
    · obtain ⟨k, e, hk⟩ := h.addr' ha
      exact Or.inl ⟨k, e, hk⟩
    · exact Or.inr hq
theorem TP.sub {D : va_G} {A : Nat → Prop} {T T' : TT} {H : Heap} (h : TP D A T H) (is : List Nat) (hn : va_nd is = true) (hs : is.map (fun i => T[i]?) = T'.map some) : TP D A T' H := by
  obtain ⟨ws, hC, hP, hD⟩ := h
  obtain ⟨w, g1, g2⟩ := hC.pick (T' := T') hs
  exact ⟨w, g2, hP.sub is (fm_of g1), hD.sub is hn g1⟩
theorem TP.weaken {D : va_G} {A B : Nat → Prop} {T : TT} {H : Heap} (h : TP D A T H) (hAB : ∀ a, a ∈ T.map Prod.fst → A a → B a) : TP D B T H := by
  obtain ⟨ws, hC, hP, hD⟩ := h
  exact ⟨ws, hC, hP, hD.weaken (fun k q hk ha => hAB _ (hC.addr (e := q.2) hk) ha)⟩
theorem TP.map {D : va_G} {A : Nat → Prop} {T T' : TT} {H : Heap} (h : TP D A T H) (hl : T.length = T'.length) (hi : ∀ (i a : Nat) (P' : va_E → Prop), T'[i]? = some (a, P') → ∃ P, T[i]? = some (a, P) ∧ ∀ e, P e → P' e) : TP D A T' H := by
  obtain ⟨ws, hC, hP, hD⟩ := h
  refine ⟨ws, ⟨by rw [hC.1, hl], fun i a P' h' => ?_⟩, hP, hD⟩
  obtain ⟨P, h1, h2⟩ := hi i a P' h'
  obtain ⟨e, g1, g2⟩ := hC.2 i a P h1
  exact ⟨e, g1, h2 e g2⟩
/-- one cell's kind is weakened -/
theorem TP.wk {D : va_G} {A : Nat → Prop} {T : TT} {H : Heap} {q a : Nat} {P P' : va_E → Prop} (h : TP D A T H) (hq : T[q]? = some (a, P)) (hP : ∀ e, P e → P' e) : TP D A (T.set q (a, P')) H := by
  have hl := (List.getElem?_eq_some_iff.mp hq).1
  refine h.map (by simp) (fun i b P1 hi => ?_)
  by_cases hiq : i = q
  · subst hiq
    rw [List.getElem?_set_self hl] at hi
    cases hi
    exact ⟨P, hq, hP⟩
  · rw [List.getElem?_set_ne (Ne.symm hiq)] at hi
    exact ⟨P1, hi, fun _ h => h⟩
def pT (D : va_G) (k : Nat → ClassId) (sz : Nat) (av : List Value) (T : TT) : Array Value → State → Prop := va_Pc av (fun U => U.heap.size = sz ∧ TP D (fun _ => True) T U.heap ∧ kX D k U)
theorem pT.blind {D : va_G} {k : Nat → ClassId} {sz : Nat} {av : List Value} {T : TT} : FrameBlind (pT D k sz av T) := fun a U g mk q => by
  obtain ⟨q0, q1, qP, qK⟩ := q
  exact ⟨q0, q1, qP, qK.calling g mk a⟩
theorem tz_begin {l : Launch} {y : MethodName} {cc : ByteArray} {maxL : Nat} {ret : Option FieldType} {rm : Room} {D : va_G} {k : Nat → ClassId} {sz : Nat} {av : List Value} {T : TT} {as : List Nat} {Qc : (Nat → Prop) → Array Value → State → Outcome → State → Prop} {mc ms : Nat}
    (hy : plainName y.cls = true) (has : T.map Prod.fst = as) (hlen : (lg_sl av).length ≤ maxL)
    (body : ∀ (p : Program) (e : Env) (s : State) (m : MethodId) (args : Array Value) (below : List Frame) (meth : Method) (c : Code) (ls : Array Slot) (A : Nat → Prop) (Q : State → Prop), p.tables.exec = Jvm.exec → c.code = cc → meth.sig.returnType = ret → c.maxLocals = maxL → s.vm.findClass y.cls = some m.cls → meth.locks = false → meth.name = y.name → (∀ w ∈ uw, w.before args s = true) → kX D k s → TP D A T s.heap → va_S A s.heap s.heap [] → (∀ q, s.heap.size ≤ q → A q) → lv_has ls maxL (lv_args 0 av) → Q = MQ below (Qc A) args s mc ms A →
      W p l e rm s m args below meth c s.heap [] 0 0 Q (F0 m 0 ls [])) :
    Met l y (Cond.code y cc maxL ret :: uw) rm (pT D k sz av T) (Qc (zA as sz)) mc ms (zA as sz) := by
  refine Met.ofW (cc := cc) (maxL := maxL) (ret := ret) hy rfl ?_
  intro p e s m args below meth c s₁ B hml hv
  obtain ⟨rfl, hsz, hT, hK⟩ := hv
  subst hsz
  subst has
  have hts := atoms_spec (ws := Cond.code y cc maxL ret :: uw) B.pre
  rw [lg_entry_eq]
  exact body p e s m _ below meth c _ _ _ B.exec B.bytes B.returns hml (findClass_of_methodNamed B.named) B.notSynchronized (name_of_methodNamed B.named B.method).1 (fun w h => hts w (List.mem_cons_of_mem _ h)) hK (hT.weaken (fun a ha _ => Or.inl ha)) va_S.rf (fun q h => Or.inr h) (lv_entry av hlen) rfl
/-! contracts of methods of a class in which some methods are the machine's own (java.lang.Math): by the method's own name -/
theorem Met_ofWF {l : Launch} {y : MethodName} {ws ws' : List Cond} {rm : Room} {Pc : Array Value → State → Prop} {Qc : Array Value → State → Outcome → State → Prop} {mc ms : Nat} {free : Addr → Prop} {cc : ByteArray} {maxL : Nat} {ret : Option FieldType}
    (hy : plainFor y = true) (hw : ws = Cond.code y cc maxL ret :: ws')
    (body : ∀ p e s m args below meth c s₁, BodyLoose p l y (headSpec ws rm) cc maxL ret e s m args below meth c s₁ → c.maxLocals = maxL → Pc args s →
      W p l e (headSpec ws rm).room s m args below meth c s.heap [] 0 0 (MQ below Qc args s mc ms free) (entryFrame m args maxL)) : Met l y ws rm Pc Qc mc ms free := by
  refine MetFree.of_bodySF (code := cc) (maxLocals := maxL) (ret := ret) hy ?_ ?_
  · intro args s m h hn
    obtain ⟨meth, c, h1, h2, h3, h4, h5, h6, -, -⟩ := Cond.code_spec hn (atoms_spec (ws := ws) h _ (by rw [hw]; exact List.mem_cons_self))
    exact ⟨meth, c, h1, h2, h3, h4, h5, h6⟩
  · intro p e s m args below meth c s₁ B hml hP _
    have hh0 : s₁.heap = s.heap := by rw [B.state]; rfl
    obtain ⟨t, a1, o, b1, b2, b3⟩ := body p e s m args below meth c s₁ B hml hP s₁ hh0 (Stand.of_body B)
    exact ⟨t, o, a1, b1, b2, ⟨b3.1, b3.2⟩⟩
theorem tz_beginF {l : Launch} {y : MethodName} {cc : ByteArray} {maxL : Nat} {ret : Option FieldType} {rm : Room} {D : va_G} {k : Nat → ClassId} {sz : Nat} {av : List Value} {T : TT} {as : List Nat} {Qc : (Nat → Prop) → Array Value → State → Outcome → State → Prop} {mc ms : Nat}
    (hy : plainFor y = true) (has : T.map Prod.fst = as) (hlen : (lg_sl av).length ≤ maxL)
    (body : ∀ (p : Program) (e : Env) (s : State) (m : MethodId) (args : Array Value) (below : List Frame) (meth : Method) (c : Code) (ls : Array Slot) (A : Nat → Prop) (Q : State → Prop), p.tables.exec = Jvm.exec → c.code = cc → meth.sig.returnType = ret → c.maxLocals = maxL → s.vm.findClass y.cls = some m.cls → meth.locks = false → meth.name = y.name → (∀ w ∈ uw, w.before args s = true) → kX D k s → TP D A T s.heap → va_S A s.heap s.heap [] → (∀ q, s.heap.size ≤ q → A q) → lv_has ls maxL (lv_args 0 av) → Q = MQ below (Qc A) args s mc ms A →
      W p l e rm s m args below meth c s.heap [] 0 0 Q (F0 m 0 ls [])) :
    Met l y (Cond.code y cc maxL ret :: uw) rm (pT D k sz av T) (Qc (zA as sz)) mc ms (zA as sz) := by
  refine Met_ofWF (cc := cc) (maxL := maxL) (ret := ret) hy rfl ?_
  intro p e s m args below meth c s₁ B hml hv
  obtain ⟨rfl, hsz, hT, hK⟩ := hv
  subst hsz
  subst has
  have hts := atoms_spec (ws := Cond.code y cc maxL ret :: uw) B.pre
  rw [lg_entry_eq]
  exact body p e s m _ below meth c _ _ _ B.exec B.bytes B.returns hml (findClass_of_methodNamed B.named) B.notSynchronized (name_of_methodNamed B.named B.method).1 (fun w h => hts w (List.mem_cons_of_mem _ h)) hK (hT.weaken (fun a ha _ => Or.inl ha)) va_S.rf (fun q h => Or.inr h) (lv_entry av hlen) rfl
section TZ
variable {p : Program} {l : Launch} {e : Env} {R : Room} {s : State} {m : MethodId} {args : Array Value} {below : List Frame} {meth : Method} {c : Code} {H : Heap} {locs : List Loc} {cells slots : Nat} {Q : State → Prop} {cc : ByteArray} {pc : Nat} {ls : Array Slot} {rest : List Value} {D : va_G} {k : Nat → ClassId} {T : TT} {A : Nat → Prop} {H0 : Heap} {a : Nat}
theorem tz_get (hx : p.tables.exec = Jvm.exec) (hb : c.code = cc) {own ref C : String} {F : u_T} {N ci index : Nat} (hU : ∀ w ∈ uw, w.before args s = true) (hin : ∀ w ∈ u_ws C F N, w ∈ uw) (hown : s.vm.findClass own = some m.cls) (hK : kX D k s) (hT : TP D A T H) (q0 : Nat) {fs : List Value} (he : T[q0]? = some (a, ob ci fs)) (hc : cl0[ci]? = some (C, F, N)) (i : Nat) (hi : i < N) (hlink : Cond.fieldLink own index ref (F i).2.1 (F i).2.2.1 ∈ uw) (hsame : ∀ x, s.fieldFound? (F i).1 (F i).2.1 (F i).2.2.1 = some x → s.fieldFound? ref (F i).2.1 (F i).2.2.1 = some x) {v : Value} (hv : fs[i]? = some v) (hdg : decode cc pc = .ok (.getfield index, 3))
    (kk : W p l e R s m args below meth c H locs cells slots Q (F0 m (pc + 3) ls (v :: rest))) : W p l e R s m args below meth c H locs cells slots Q (F0 m pc ls (.ref a :: rest)) := by
  obtain ⟨ws, hC, hP, hD⟩ := hT
  obtain ⟨e1, h1, rfl⟩ := hC.2 q0 _ _ he
  exact va_get hx hb hU hin hown hK.1 hP q0 h1 hc i hi (hU _ hlink) hsame hv hdg kk
theorem tz_put (hx : p.tables.exec = Jvm.exec) (hb : c.code = cc) {own ref C : String} {F : u_T} {N ci index : Nat} (hU : ∀ w ∈ uw, w.before args s = true) (hin : ∀ w ∈ u_ws C F N, w ∈ uw) (ty0 : Nat → FieldType) (hty : ∀ k, k < N → parseFieldDescriptor (F k).2.2.1 = some (ty0 k)) (hnm : ∀ a, a < N → ∀ b, b < N → a ≠ b → (F a).2.1 ≠ (F b).2.1) (hown : s.vm.findClass own = some m.cls) (hK : kX D k s) (hT : TP D A T H) (hS : va_S A H0 H locs) (q0 : Nat) {fs : List Value} (he : T[q0]? = some (a, ob ci fs)) (hc : cl0[ci]? = some (C, F, N)) (i : Nat) (hi : i < N) (hlink : Cond.fieldLink own index ref (F i).2.1 (F i).2.2.1 ∈ uw) (hsame : ∀ x, s.fieldFound? (F i).1 (F i).2.1 (F i).2.2.1 = some x → s.fieldFound? ref (F i).2.1 (F i).2.2.1 = some x) (hfin : (F i).2.2.2 = false) {ty : FieldType} {v : Value} (hd : parseFieldDescriptor (F i).2.2.1 = some ty) (hn : narrow ty v = v) (hfit : fits ty v = true) (hl : i < fs.length)
    (hdg : decode cc pc = .ok (.putfield index, 3)) (kk : ∀ (H1 : Heap) (locs1 : List Loc), TP D A (T.set q0 (a, ob ci (fs.set i v))) H1 → va_S A H0 H1 locs1 → W p l e R s m args below meth c H1 locs1 cells slots Q (F0 m (pc + 3) ls rest)) : W p l e R s m args below meth c H locs cells slots Q (F0 m pc ls (v :: .ref a :: rest)) := by
  obtain ⟨ws, hC, hP, hD⟩ := hT
  obtain ⟨e1, h1, rfl⟩ := hC.2 q0 _ _ he
  exact va_put hx hb hU hin ty0 hty hnm hown hK.1 hP hD hS q0 h1 hc i hi (hU _ hlink) hsame hfin hd hn hfit hl hdg (fun H1 l1 g1 g2 g3 => kk H1 l1 ⟨_, hC.set he rfl, g1, g2⟩ g3)
theorem tz_putF (hx : p.tables.exec = Jvm.exec) (hb : c.code = cc) {own ref C : String} {F : u_T} {N ci index : Nat} (hU : ∀ w ∈ uw, w.before args s = true) (hin : ∀ w ∈ u_ws C F N, w ∈ uw) (ty0 : Nat → FieldType) (hty : ∀ k, k < N → parseFieldDescriptor (F k).2.2.1 = some (ty0 k)) (hnm : ∀ a, a < N → ∀ b, b < N → a ≠ b → (F a).2.1 ≠ (F b).2.1) (hown : s.vm.findClass own = some m.cls) (hK : kX D k s) (hT : TP D A T H) (hS : va_S A H0 H locs) (q0 : Nat) {fs : List Value} (he : T[q0]? = some (a, ob ci fs)) (hc : cl0[ci]? = some (C, F, N)) (i : Nat) (hi : i < N) (hlink : Cond.fieldLink own index ref (F i).2.1 (F i).2.2.1 ∈ uw) (hsame : ∀ x, s.fieldFound? (F i).1 (F i).2.1 (F i).2.2.1 = some x → s.fieldFound? ref (F i).2.1 (F i).2.2.1 = some x) (hfin : (F i).2.2.2 = true) (hin2 : meth.name = "<init>") (hdecl : (F i).1 = own) {ty : FieldType} {v : Value} (hd : parseFieldDescriptor (F i).2.2.1 = some ty) (hn : narrow ty v = v) (hfit : fits ty v = true) (hl : i < fs.length)
    (hdg : decode cc pc = .ok (.putfield index, 3)) (kk : ∀ (H1 : Heap) (locs1 : List Loc), TP D A (T.set q0 (a, ob ci (fs.set i v))) H1 → va_S A H0 H1 locs1 → W p l e R s m args below meth c H1 locs1 cells slots Q (F0 m (pc + 3) ls rest)) : W p l e R s m args below meth c H locs cells slots Q (F0 m pc ls (v :: .ref a :: rest)) := by
  obtain ⟨ws, hC, hP, hD⟩ := hT
  obtain ⟨e1, h1, rfl⟩ := hC.2 q0 _ _ he
  exact va_putF hx hb hU hin ty0 hty hnm hown hK.1 hP hD hS q0 h1 hc i hi (hU _ hlink) hsame hfin hin2 hdecl hd hn hfit hl hdg (fun H1 l1 g1 g2 g3 => kk H1 l1 ⟨_, hC.set he rfl, g1, g2⟩ g3)
theorem tz_iald (hx : p.tables.exec = Jvm.exec) (hb : c.code = cc) (hK : kX D k s) (hT : TP D A T H) (q0 : Nat) {n : Nat} {P : (Nat → Int32) → Prop} (ha : T[q0]? = some (a, aI (k 0) n P)) {i : Int32} (hin : 0 ≤ i.toInt ∧ i.toInt < (n : Int)) (hdg : decode cc pc = .ok (.iaload, 1))
    (kk : ∀ v : Int32, (∃ f, P f ∧ v = f i.toNatClampNeg) → W p l e R s m args below meth c H locs cells slots Q (F0 m (pc + 1) ls (.int v :: rest))) : W p l e R s m args below meth c H locs cells slots Q (F0 m pc ls (.int i :: .ref a :: rest)) := by
  obtain ⟨ws, hC, hP, hD⟩ := hT
  obtain ⟨e1, h1, f, hf, rfl⟩ := hC.2 q0 _ _ ha
  exact va_iald hx hb hK.1 hP q0 0 h1 rfl (vp_in_iff.mpr hin) hdg (kk _ ⟨f, hf, rfl⟩)
theorem tz_lald (hx : p.tables.exec = Jvm.exec) (hb : c.code = cc) (hK : kX D k s) (hT : TP D A T H) (q0 : Nat) {n : Nat} {P : (Nat → Int64) → Prop} (ha : T[q0]? = some (a, aJ (k 1) n P)) {i : Int32} (hin : 0 ≤ i.toInt ∧ i.toInt < (n : Int)) (hdg : decode cc pc = .ok (.laload, 1))
    (kk : ∀ v : Int64, (∃ f, P f ∧ v = f i.toNatClampNeg) → W p l e R s m args below meth c H locs cells slots Q (F0 m (pc + 1) ls (.long v :: rest))) : W p l e R s m args below meth c H locs cells slots Q (F0 m pc ls (.int i :: .ref a :: rest)) := by
  obtain ⟨ws, hC, hP, hD⟩ := hT
  obtain ⟨e1, h1, f, hf, rfl⟩ := hC.2 q0 _ _ ha
  exact va_lald hx hb hK.1 hP q0 1 h1 rfl (vp_in_iff.mpr hin) hdg (kk _ ⟨f, hf, rfl⟩)
theorem tz_bald (hx : p.tables.exec = Jvm.exec) (hb : c.code = cc) (hK : kX D k s) (hT : TP D A T H) (q0 : Nat) {n : Nat} {P : (Nat → Int32) → Prop} (ha : T[q0]? = some (a, aI (k 2) n P)) {i : Int32} (hin : 0 ≤ i.toInt ∧ i.toInt < (n : Int)) (hdg : decode cc pc = .ok (.baload, 1))
    (kk : ∀ v : Int32, (∃ f, P f ∧ v = f i.toNatClampNeg) → W p l e R s m args below meth c H locs cells slots Q (F0 m (pc + 1) ls (.int v :: rest))) : W p l e R s m args below meth c H locs cells slots Q (F0 m pc ls (.int i :: .ref a :: rest)) := by
  obtain ⟨ws, hC, hP, hD⟩ := hT
  obtain ⟨e1, h1, f, hf, rfl⟩ := hC.2 q0 _ _ ha
  exact va_bald hx hb hK.1 hP q0 2 h1 rfl (vp_in_iff.mpr hin) hdg (kk _ ⟨f, hf, rfl⟩)
theorem tz_aldq (hx : p.tables.exec = Jvm.exec) (hb : c.code = cc) (hK : kX D k s) (hT : TP D A T H) (q0 : Nat) {n : Nat} {P : (Nat → Option Nat) → Prop} (ha : T[q0]? = some (a, aQ (k 3) n P)) {i : Int32} (hin : vp_in i n) {b : Nat} (hv : ∀ f, P f → f i.toNatClampNeg = some b) (hdg : decode cc pc = .ok (.aaload, 1))
    (kk : W p l e R s m args below meth c H locs cells slots Q (F0 m (pc + 1) ls (.ref b :: rest))) : W p l e R s m args below meth c H locs cells slots Q (F0 m pc ls (.int i :: .ref a :: rest)) := by
  obtain ⟨ws, hC, hP, hD⟩ := hT
  obtain ⟨e1, h1, f, hf, rfl⟩ := hC.2 q0 _ _ ha
  exact va_aldq hx hb hK.1 hP q0 3 h1 rfl hin hdg (by rw [hv f hf]; exact kk)
theorem cl_of {i : Int32} {z : Nat} (h : i.toInt = (z : Int)) : i.toNatClampNeg = z := by
  show i.toInt.toNat = z
  rw [h]; rfl
theorem tz_iast (hx : p.tables.exec = Jvm.exec) (hb : c.code = cc) (hK : kX D k s) (hT : TP D A T H) (hS : va_S A H0 H locs) (q0 : Nat) {n : Nat} {P : (Nat → Int32) → Prop} (ha : T[q0]? = some (a, aI (k 0) n P)) {i x : Int32} (hin : 0 ≤ i.toInt ∧ i.toInt < (n : Int)) (hst : ∀ f, P f → P (upd f i.toNatClampNeg x)) (hdg : decode cc pc = .ok (.iastore, 1))
    (kk : ∀ (H1 : Heap) (locs1 : List Loc), TP D A T H1 → va_S A H0 H1 locs1 → W p l e R s m args below meth c H1 locs1 cells slots Q (F0 m (pc + 1) ls rest)) : W p l e R s m args below meth c H locs cells slots Q (F0 m pc ls (.int x :: .int i :: .ref a :: rest)) := by
  obtain ⟨ws, hC, hP, hD⟩ := hT
  obtain ⟨e1, h1, f, hf, rfl⟩ := hC.2 q0 _ _ ha
  exact va_iast hx hb hK.1 hP hD hS q0 0 h1 rfl (vp_in_iff.mpr hin) hdg (fun H1 l1 g1 g2 g3 => kk H1 l1 ⟨_, hC.same ha ⟨_, hst f hf, rfl⟩, g1, g2⟩ g3)
theorem tz_last (hx : p.tables.exec = Jvm.exec) (hb : c.code = cc) (hK : kX D k s) (hT : TP D A T H) (hS : va_S A H0 H locs) (q0 : Nat) {n : Nat} {P : (Nat → Int64) → Prop} (ha : T[q0]? = some (a, aJ (k 1) n P)) {i : Int32} {x : Int64} (hin : 0 ≤ i.toInt ∧ i.toInt < (n : Int)) (hst : ∀ f, P f → P (vp_updL f i.toNatClampNeg x)) (hdg : decode cc pc = .ok (.lastore, 1))
    (kk : ∀ (H1 : Heap) (locs1 : List Loc), TP D A T H1 → va_S A H0 H1 locs1 → W p l e R s m args below meth c H1 locs1 cells slots Q (F0 m (pc + 1) ls rest)) : W p l e R s m args below meth c H locs cells slots Q (F0 m pc ls (.long x :: .int i :: .ref a :: rest)) := by
  obtain ⟨ws, hC, hP, hD⟩ := hT
  obtain ⟨e1, h1, f, hf, rfl⟩ := hC.2 q0 _ _ ha
  exact va_last hx hb hK.1 hP hD hS q0 1 h1 rfl (vp_in_iff.mpr hin) hdg (fun H1 l1 g1 g2 g3 => kk H1 l1 ⟨_, hC.same ha ⟨_, hst f hf, rfl⟩, g1, g2⟩ g3)
/-- stores that change what is known of an array -/
theorem tz_iastP (hx : p.tables.exec = Jvm.exec) (hb : c.code = cc) (hK : kX D k s) (hT : TP D A T H) (hS : va_S A H0 H locs) (q0 : Nat) (P' : (Nat → Int32) → Prop) {n : Nat} {P : (Nat → Int32) → Prop} (ha : T[q0]? = some (a, aI (k 0) n P)) {i x : Int32} (hin : 0 ≤ i.toInt ∧ i.toInt < (n : Int)) (hst : ∀ f, P f → P' (upd f i.toNatClampNeg x)) (hdg : decode cc pc = .ok (.iastore, 1))
    (kk : ∀ (H1 : Heap) (locs1 : List Loc), TP D A (T.set q0 (a, aI (k 0) n P')) H1 → va_S A H0 H1 locs1 → W p l e R s m args below meth c H1 locs1 cells slots Q (F0 m (pc + 1) ls rest)) : W p l e R s m args below meth c H locs cells slots Q (F0 m pc ls (.int x :: .int i :: .ref a :: rest)) := by
  obtain ⟨ws, hC, hP, hD⟩ := hT
  obtain ⟨e1, h1, f, hf, rfl⟩ := hC.2 q0 _ _ ha
  exact va_iast hx hb hK.1 hP hD hS q0 0 h1 rfl (vp_in_iff.mpr hin) hdg (fun H1 l1 g1 g2 g3 => kk H1 l1 ⟨_, hC.set ha ⟨_, hst f hf, rfl⟩, g1, g2⟩ g3)
theorem tz_lastP (hx : p.tables.exec = Jvm.exec) (hb : c.code = cc) (hK : kX D k s) (hT : TP D A T H) (hS : va_S A H0 H locs) (q0 : Nat) (P' : (Nat → Int64) → Prop) {n : Nat} {P : (Nat → Int64) → Prop} (ha : T[q0]? = some (a, aJ (k 1) n P)) {i : Int32} {x : Int64} (hin : 0 ≤ i.toInt ∧ i.toInt < (n : Int)) (hst : ∀ f, P f → P' (vp_updL f i.toNatClampNeg x)) (hdg : decode cc pc = .ok (.lastore, 1))
    (kk : ∀ (H1 : Heap) (locs1 : List Loc), TP D A (T.set q0 (a, aJ (k 1) n P')) H1 → va_S A H0 H1 locs1 → W p l e R s m args below meth c H1 locs1 cells slots Q (F0 m (pc + 1) ls rest)) : W p l e R s m args below meth c H locs cells slots Q (F0 m pc ls (.long x :: .int i :: .ref a :: rest)) := by
  obtain ⟨ws, hC, hP, hD⟩ := hT
  obtain ⟨e1, h1, f, hf, rfl⟩ := hC.2 q0 _ _ ha
  exact va_last hx hb hK.1 hP hD hS q0 1 h1 rfl (vp_in_iff.mpr hin) hdg (fun H1 l1 g1 g2 g3 => kk H1 l1 ⟨_, hC.set ha ⟨_, hst f hf, rfl⟩, g1, g2⟩ g3)
theorem tz_bast (hx : p.tables.exec = Jvm.exec) (hb : c.code = cc) (hK : kX D k s) (hT : TP D A T H) (hS : va_S A H0 H locs) (q0 : Nat) {n : Nat} (ha : T[q0]? = some (a, aI (k 2) n anI)) {i x : Int32} (hin : 0 ≤ i.toInt ∧ i.toInt < (n : Int)) (hdg : decode cc pc = .ok (.bastore, 1))
    (kk : ∀ (H1 : Heap) (locs1 : List Loc), TP D A T H1 → va_S A H0 H1 locs1 → W p l e R s m args below meth c H1 locs1 cells slots Q (F0 m (pc + 1) ls rest)) : W p l e R s m args below meth c H locs cells slots Q (F0 m pc ls (.int x :: .int i :: .ref a :: rest)) := by
  obtain ⟨ws, hC, hP, hD⟩ := hT
  obtain ⟨e1, h1, f, hf, rfl⟩ := hC.2 q0 _ _ ha
  exact va_bast hx hb hK.1 hP hD hS q0 2 h1 rfl (vp_in_iff.mpr hin) hdg (fun H1 l1 g1 g2 g3 => kk H1 l1 ⟨_, hC.same ha ⟨_, trivial, rfl⟩, g1, g2⟩ g3)
theorem tz_aleni (hx : p.tables.exec = Jvm.exec) (hb : c.code = cc) (hK : kX D k s) (hT : TP D A T H) (q0 : Nat) {n : Nat} {P : (Nat → Int32) → Prop} (ha : T[q0]? = some (a, aI (k 0) n P)) {v : Int32} (hv : Int32.ofNat n = v) (hdg : decode cc pc = .ok (.arraylength, 1))
    (kk : W p l e R s m args below meth c H locs cells slots Q (F0 m (pc + 1) ls (.int v :: rest))) : W p l e R s m args below meth c H locs cells slots Q (F0 m pc ls (.ref a :: rest)) := by
  obtain ⟨ws, hC, hP, hD⟩ := hT
  obtain ⟨e1, h1, f, hf, rfl⟩ := hC.2 q0 _ _ ha
  exact va_alen hx hb hK.1 hP q0 0 h1 rfl hv hdg kk
theorem tz_alenl (hx : p.tables.exec = Jvm.exec) (hb : c.code = cc) (hK : kX D k s) (hT : TP D A T H) (q0 : Nat) {n : Nat} {P : (Nat → Int64) → Prop} (ha : T[q0]? = some (a, aJ (k 1) n P)) {v : Int32} (hv : Int32.ofNat n = v) (hdg : decode cc pc = .ok (.arraylength, 1))
    (kk : W p l e R s m args below meth c H locs cells slots Q (F0 m (pc + 1) ls (.int v :: rest))) : W p l e R s m args below meth c H locs cells slots Q (F0 m pc ls (.ref a :: rest)) := by
  obtain ⟨ws, hC, hP, hD⟩ := hT
  obtain ⟨e1, h1, f, hf, rfl⟩ := hC.2 q0 _ _ ha
  exact va_alen hx hb hK.1 hP q0 1 h1 rfl hv hdg kk
theorem tz_new {own C : String} {F : u_T} {N ci index : Nat} (hx : p.tables.exec = Jvm.exec) (hb : c.code = cc) (hU : ∀ w ∈ uw, w.before args s = true) (hin : ∀ w ∈ u_ws C F N, w ∈ uw) (ty : Nat → FieldType) (hty : ∀ k, k < N → parseFieldDescriptor (F k).2.2.1 = some (ty k)) (hown : s.vm.findClass own = some m.cls) (hcl : Cond.classLink own index C ∈ uw) (hinst : Cond.instantiable C N ∈ uw) (hini : Cond.initialized C ∈ uw)
    (hK : kX D k s) (hT : TP D A T H) (hS : va_S A H0 H locs) (hA : ∀ q, H0.size ≤ q → A q) (hc : cl0[ci]? = some (C, F, N)) {fs : List Value} (hfs : ∀ j, j < N → defaultValue (ty j) = vp_V fs j) (hcells : cells + 1 ≤ R.cells) (hslots : slots + N ≤ R.slots) (hdg : decode cc pc = .ok (.new index, 3))
    (kk : ∀ (q : Nat) (H1 : Heap), TP D A (T ++ [(q, ob ci fs)]) H1 → va_S A H0 H1 locs → W p l e R s m args below meth c H1 locs (cells + 1) (slots + N) Q (F0 m (pc + 3) ls (.ref q :: rest))) : W p l e R s m args below meth c H locs cells slots Q (F0 m pc ls rest) := by
  obtain ⟨ws, hC, hP, hD⟩ := hT
  exact va_new (fs := fs) hx hb hU hin ty hty hown (hU _ hcl) (hU _ hinst) (hU _ hini) hK.1 hP hD hS hA hc hfs hcells hslots hdg (fun q H1 g1 g2 g3 => kk q H1 ⟨_, hC.app (Cf.one rfl), g1, g2⟩ g3)
theorem tz_nal (hx : p.tables.exec = Jvm.exec) (hb : c.code = cc) (hU : ∀ w ∈ uw, w.before args s = true) (hin : Cond.arrayClass .long ∈ uw) (hK : kX D k s) (hT : TP D A T H) (hS : va_S A H0 H locs) (hA : ∀ q, H0.size ≤ q → A q) {n : Int32} {N : Nat} (hn : ¬ n < 0) (hN : n.toNatClampNeg = N) (hbytes : N * componentBytes .long ≤ 536870912) (hcells : cells + 1 ≤ R.cells) (hslots : slots + N ≤ R.slots) (hdg : decode cc pc = .ok (.newarray .long, 2))
    (kk : ∀ (q : Nat) (H1 : Heap), TP D A (T ++ [(q, aJ (k 1) N anJ)]) H1 → va_S A H0 H1 locs → W p l e R s m args below meth c H1 locs (cells + 1) (slots + N) Q (F0 m (pc + 2) ls (.ref q :: rest))) : W p l e R s m args below meth c H locs cells slots Q (F0 m pc ls (.int n :: rest)) := by
  obtain ⟨ws, hC, hP, hD⟩ := hT
  exact na_l hx hb hU hin hK hP hD hS hA hn hN hbytes hcells hslots hdg (fun q H1 g1 g2 g3 => kk q H1 ⟨_, hC.app (Cf.one ⟨_, trivial, rfl⟩), g1, g2⟩ g3)
theorem tz_nai (hx : p.tables.exec = Jvm.exec) (hb : c.code = cc) (hU : ∀ w ∈ uw, w.before args s = true) (hin : Cond.arrayClass .int ∈ uw) (hK : kX D k s) (hT : TP D A T H) (hS : va_S A H0 H locs) (hA : ∀ q, H0.size ≤ q → A q) {n : Int32} {N : Nat} (hn : ¬ n < 0) (hN : n.toNatClampNeg = N) (hbytes : N * componentBytes .int ≤ 536870912) (hcells : cells + 1 ≤ R.cells) (hslots : slots + N ≤ R.slots) (hdg : decode cc pc = .ok (.newarray .int, 2)) {P : (Nat → Int32) → Prop} (hz : P (tI [] 0))
    (kk : ∀ (q : Nat) (H1 : Heap), TP D A (T ++ [(q, aI (k 0) N P)]) H1 → va_S A H0 H1 locs → W p l e R s m args below meth c H1 locs (cells + 1) (slots + N) Q (F0 m (pc + 2) ls (.ref q :: rest))) : W p l e R s m args below meth c H locs cells slots Q (F0 m pc ls (.int n :: rest)) := by
  obtain ⟨ws, hC, hP, hD⟩ := hT
  exact na_i hx hb hU hin hK hP hD hS hA hn hN hbytes hcells hslots hdg (fun q H1 g1 g2 g3 => kk q H1 ⟨_, hC.app (Cf.one ⟨_, hz, rfl⟩), g1, g2⟩ g3)
theorem tz_cl {x : Int32} (h : 0 ≤ x.toInt) : ¬ x < 0 ∧ (x.toNatClampNeg : Int) = x.toInt := by
  refine ⟨fun q => ?_, ?_⟩
  · have := Int32.lt_iff_toInt_lt.mp q
    simp at this
    omega
  · show ((x.toInt.toNat : Nat) : Int) = x.toInt
    omega
theorem tz_copyl (hx : p.tables.exec = Jvm.exec) (hb : c.code = cc) (hml : c.maxLocals = ls.size) {own : String} {index : Nat} (hown : s.vm.findClass own = some m.cls) (hU : ∀ w ∈ uw, w.before args s = true) (hlink : Cond.methodLink own index arraycopyName ∈ uw) (hnat : Cond.native arraycopyName ∈ uw) (hstat : Cond.static arraycopyName ∈ uw) (hini : Cond.initialized "java/lang/System" ∈ uw)
    (hK : kX D k s) (hT : TP D A T H) (hS : va_S A H0 H locs) (q0 q1 : Nat) {a0 : Nat} {n0 n1 : Nat} {P P1 : (Nat → Int64) → Prop} (ha0 : T[q0]? = some (a0, aJ (k 1) n0 P)) (ha1 : T[q1]? = some (a, aJ (k 1) n1 P1))
    {sp dp n : Int32} (hb1 : 0 ≤ sp.toInt ∧ 0 ≤ dp.toInt ∧ 0 ≤ n.toInt ∧ sp.toInt + n.toInt ≤ (n0 : Int) ∧ dp.toInt + n.toInt ≤ (n1 : Int)) (hst : ∀ f g, P f → P1 g → P1 (va_cpy f g sp.toNatClampNeg dp.toNatClampNeg n.toNatClampNeg))
    (hframes : 1 ≤ R.frames) (hlocals : (rest.map fun v => v.category).sum + (nativeFrameWords "java/lang/System" "arraycopy" 5 + 11) ≤ R.locals) (hdg : decode cc pc = .ok (.invokestatic index, 3))
    (kk : ∀ (H1 : Heap) (locs1 : List Loc), TP D A T H1 → va_S A H0 H1 locs1 → W p l e R s m args below meth c H1 locs1 cells slots Q (F0 m (pc + 3) ls rest)) : W p l e R s m args below meth c H locs cells slots Q (F0 m pc ls (.int n :: .int dp :: .ref a :: .int sp :: .ref a0 :: rest)) := by
  obtain ⟨ws, hC, hP, hD⟩ := hT
  obtain ⟨e0, h0, f, hf, rfl⟩ := hC.2 q0 _ _ ha0
  obtain ⟨e1, h1, g, hg, rfl⟩ := hC.2 q1 _ _ ha1
  obtain ⟨x1, x2, x3, x4, x5⟩ := hb1
  have z1 := tz_cl x1
  have z2 := tz_cl x2
  have z3 := tz_cl x3
  exact va_copyl hx hb hml hown (hU _ hlink) (hU _ hnat) (hU _ hstat) (hU _ hini) hK.1 hP hD hS q0 q1 1 1 h0 h1 rfl rfl rfl z1.1 z2.1 z3.1 (by omega) (by omega) (fun i _ => rfl) hframes hlocals hdg (fun H1 l1 g1 g2 g3 => kk H1 l1 ⟨_, hC.same ha1 ⟨_, hst f g hf hg, rfl⟩, g1, g2⟩ g3)
theorem tz_retV {B : (Nat → Prop) → Heap → Prop} {mc ms : Nat} (hQ : Q = MQ below (qV (B A) A) args s mc ms A) (hx : p.tables.exec = Jvm.exec) (hb : c.code = cc) (hr : meth.sig.returnType = none) (hlocks : meth.locks = false) (hS : va_S A s.heap H locs) (hc : cells ≤ mc) (hs : slots ≤ ms) (hdg : decode cc pc = .ok (.return_, 1)) (hB : B A H) : W p l e R s m args below meth c H locs cells slots Q (F0 m pc ls []) := by
  subst hQ
  exact W.widen hc hs (retV hx hb hr hlocks hS hB hdg)
theorem tz_retI {B : (Nat → Prop) → Int32 → Heap → Prop} {mc ms : Nat} {v : Int32} (hQ : Q = MQ below (qI (B A) A) args s mc ms A) (hx : p.tables.exec = Jvm.exec) (hb : c.code = cc) (hr : meth.sig.returnType = some .int) (hlocks : meth.locks = false) (hS : va_S A s.heap H locs) (hc : cells ≤ mc) (hs : slots ≤ ms) (hdg : decode cc pc = .ok (.ireturn, 1)) (hB : B A v H) : W p l e R s m args below meth c H locs cells slots Q (F0 m pc ls [.int v]) := by
  subst hQ
  exact W.widen hc hs (retI hx hb hr hlocks hS hB hdg)
theorem nz_b {v : Int32} (h : 0 ≤ v.toInt ∧ v.toInt ≤ 1) : narrow .boolean (.int v) = .int v := by
  have h2 : v = 0 ∨ v = 1 := by
    rcases (show v.toInt = 0 ∨ v.toInt = 1 by omega) with q | q
    · exact Or.inl (Int32.toInt_inj.mp q)
    · exact Or.inr (Int32.toInt_inj.mp q)
  rcases h2 with rfl | rfl <;> decide +kernel
theorem tz_retZ {B : (Nat → Prop) → Int32 → Heap → Prop} {mc ms : Nat} {v : Int32} (hQ : Q = MQ below (qI (B A) A) args s mc ms A) (hx : p.tables.exec = Jvm.exec) (hb : c.code = cc) (hr : meth.sig.returnType = some .boolean) (hlocks : meth.locks = false) (hS : va_S A s.heap H locs) (hc : cells ≤ mc) (hs : slots ≤ ms) (hdg : decode cc pc = .ok (.ireturn, 1)) (hn : 0 ≤ v.toInt ∧ v.toInt ≤ 1) (hB : B A v H) : W p l e R s m args below meth c H locs cells slots Q (F0 m pc ls [.int v]) := by
  subst hQ
  exact W.widen hc hs (retZ hx hb hr hlocks hS hB hdg (nz_b hn))
theorem tz_retL {B : (Nat → Prop) → Int64 → Heap → Prop} {mc ms : Nat} {v : Int64} (hQ : Q = MQ below (qL (B A) A) args s mc ms A) (hx : p.tables.exec = Jvm.exec) (hb : c.code = cc) (hr : meth.sig.returnType = some .long) (hlocks : meth.locks = false) (hS : va_S A s.heap H locs) (hc : cells ≤ mc) (hs : slots ≤ ms) (hdg : decode cc pc = .ok (.lreturn, 1)) (hB : B A v H) : W p l e R s m args below meth c H locs cells slots Q (F0 m pc ls [.long v]) := by
  subst hQ
  exact W.widen hc hs (retL hx hb hr hlocks hS hB hdg)
theorem tz_retR {B : (Nat → Prop) → Nat → Heap → Prop} {mc ms : Nat} {v : Nat} {C : String} (hQ : Q = MQ below (qR (B A) A) args s mc ms A) (hx : p.tables.exec = Jvm.exec) (hb : c.code = cc) (hr : meth.sig.returnType = some (.object C)) (hlocks : meth.locks = false) (hS : va_S A s.heap H locs) (hc : cells ≤ mc) (hs : slots ≤ ms) (hdg : decode cc pc = .ok (.areturn, 1)) (hB : B A v H) : W p l e R s m args below meth c H locs cells slots Q (F0 m pc ls [.ref v]) := by
  subst hQ
  exact W.widen hc hs (retR hx hb hr hlocks hS hB hdg)
theorem tz_retA {B : (Nat → Prop) → Nat → Heap → Prop} {mc ms : Nat} {v : Nat} {t : FieldType} (hQ : Q = MQ below (qR (B A) A) args s mc ms A) (hx : p.tables.exec = Jvm.exec) (hb : c.code = cc) (hr : meth.sig.returnType = some (.array t)) (hlocks : meth.locks = false) (hS : va_S A s.heap H locs) (hc : cells ≤ mc) (hs : slots ≤ ms) (hdg : decode cc pc = .ok (.areturn, 1)) (hB : B A v H) : W p l e R s m args below meth c H locs cells slots Q (F0 m pc ls [.ref v]) := by
  subst hQ
  exact W.widen hc hs (W.aret hx hb hr (Or.inr ⟨t, rfl⟩) (Or.inr ⟨v, rfl⟩) (fun t ht _ => ⟨⟨(), v, rfl, trivial, show B A v t.heap by rw [ht]; exact hB⟩, hS.F ht⟩) hS.2.2 hdg)
/-- what a call takes besides its contract -/
theorem tPre {As : List Value} {Tc : TT} (hK : kX D k s) (hT : TP D A T H) (isC : List Nat) (hC : isC.map (fun i => T[i]?) = Tc.map some) (hnC : va_nd isC = true) : FrameBlind (pT D k H.size As Tc) ∧ ∀ U : State, U.heap = H → s.WarmedH U.vm → pT D k H.size As Tc As.toArray U :=
  ⟨pT.blind, fun U hU hW => ⟨rfl, by rw [hU], by rw [hU]; exact (hT.sub isC hnC hC).weaken (fun _ _ _ => trivial), hK.warm hW⟩⟩
variable {y : MethodName} {bytes : ByteArray} {maxL nL mc ms index : Nat} {ret : Option FieldType} {rm : Room} {own : String} {As st0 : List Value} {Tc Tr : TT} {Qc : Array Value → State → Outcome → State → Prop} {free : Addr → Prop}
theorem zcS (hx : p.tables.exec = Jvm.exec) (hb : c.code = cc) (hml : c.maxLocals = nL) (hown : s.vm.findClass own = some m.cls) (hU : ∀ w ∈ uw, w.before args s = true) (hK : kX D k s) (hT : TP D A T H) (isC : List Nat) (hC : isC.map (fun i => T[i]?) = Tc.map some) (hnC : va_nd isC = true)
    (hM : Met l y (Cond.code y bytes maxL ret :: uw) rm (pT D k H.size As Tc) Qc mc ms free) (hcode : Cond.code y bytes maxL ret ∈ uw) (hlink : Cond.methodLink own index y ∈ uw) (hst : Cond.static y ∈ uw) (hini : Cond.initialized y.cls ∈ uw)
    (hd : y.cls ≠ "java/lang/invoke/MethodHandle" ∧ y.cls ≠ "java/lang/invoke/VarHandle" ∧ (parseMethodDescriptor y.desc).map (fun d => d.parameters.length) = some As.length) (hrm : rm.cells = mc ∧ rm.slots = ms) (hR : rm.frames + 1 ≤ R.frames ∧ 8 + (maxL + 11) + rm.locals ≤ R.locals)
    (hs0 : st0 = As.reverse ++ rest) (hsize : ls.size = nL) (hroom : (rest.map fun v => v.category).sum ≤ 8) (hdg : decode cc pc = .ok (.invokestatic index, 3)) (hf : cells + mc ≤ R.cells ∧ slots + ms ≤ R.slots) :
    va_Run p l e R s m args below meth c H locs cells slots mc ms (F0 m pc ls st0) rest (Qc As.toArray) free :=
  va_runS ⟨hx, hb, hml, hown, hU⟩ hM ⟨callB_of As.length hU (uw_good hcode) rfl hrm.1 hrm.2 (hU _ hini) (hU _ hlink) hd hR, hU _ hst⟩ (tPre hK hT isC hC hnC) rfl rfl hsize hs0 (lv_room hroom) hdg hf
theorem zcI {b : Nat} (hx : p.tables.exec = Jvm.exec) (hb : c.code = cc) (hml : c.maxLocals = nL) (hown : s.vm.findClass own = some m.cls) (hU : ∀ w ∈ uw, w.before args s = true) (hK : kX D k s) (hT : TP D A T H) (isC : List Nat) (hC : isC.map (fun i => T[i]?) = Tc.map some) (hnC : va_nd isC = true)
    (hM : Met l y (Cond.code y bytes maxL none :: uw) rm (pT D k H.size (.ref b :: As) Tc) Qc mc ms free) (hcode : Cond.code y bytes maxL none ∈ uw) (hlink : Cond.methodLink own index y ∈ uw) (hst : Cond.instanceMethod y ∈ uw) (hini : Cond.initialized y.cls ∈ uw) (hy1 : y.name = "<init>")
    (hd : y.cls ≠ "java/lang/invoke/MethodHandle" ∧ y.cls ≠ "java/lang/invoke/VarHandle" ∧ (parseMethodDescriptor y.desc).map (fun d => d.parameters.length) = some As.length) (hrm : rm.cells = mc ∧ rm.slots = ms) (hR : rm.frames + 1 ≤ R.frames ∧ 8 + (maxL + 11) + rm.locals ≤ R.locals)
    (hs0 : st0 = As.reverse ++ .ref b :: rest) (hsize : ls.size = nL) (hroom : (rest.map fun v => v.category).sum ≤ 8) (hdg : decode cc pc = .ok (.invokespecial index, 3)) (hf : cells + mc ≤ R.cells ∧ slots + ms ≤ R.slots) :
    va_Run p l e R s m args below meth c H locs cells slots mc ms (F0 m pc ls st0) rest (Qc (Value.ref b :: As).toArray) free :=
  va_runI ⟨hx, hb, hml, hown, hU⟩ hM ⟨callB_of As.length hU (uw_good hcode) rfl hrm.1 hrm.2 (hU _ hini) (hU _ hlink) hd hR, hy1, hU _ hst⟩ (tPre hK hT isC hC hnC) rfl rfl hsize hs0 (lv_room hroom) hdg hf
theorem tRecv {b ci q0 : Nat} {q : vw_C} {fs : List Value} (hK : kX D k s) (hT : TP D A T H) (hcl : cl0[ci]? = some q) (he : T[q0]? = some (b, ob ci fs)) : ∃ cell : Cell, H[b]? = some cell ∧ cell.vm.isStatics = false ∧ s.vm.findClass q.1 = some cell.cls := by
  obtain ⟨ws, hC, hP, hD⟩ := hT
  obtain ⟨e1, h1, rfl⟩ := hC.2 q0 _ _ he
  exact va_recv hK.1 hP hcl h1
theorem zcV {b ci q0 : Nat} {q : vw_C} {fs : List Value} (hx : p.tables.exec = Jvm.exec) (hb : c.code = cc) (hml : c.maxLocals = nL) (hown : s.vm.findClass own = some m.cls) (hU : ∀ w ∈ uw, w.before args s = true) (hK : kX D k s) (hT : TP D A T H) (hcl : cl0[ci]? = some q) (he : T[q0]? = some (b, ob ci fs)) (isC : List Nat) (hC : isC.map (fun i => T[i]?) = Tc.map some) (hnC : va_nd isC = true)
    (hM : Met l y (Cond.code y bytes maxL ret :: uw) rm (pT D k H.size (.ref b :: As) Tc) Qc mc ms free) (hcode : Cond.code y bytes maxL ret ∈ uw) (hlink : Cond.methodLink own index y ∈ uw) (hst : Cond.instanceMethod y ∈ uw) (hsel : Cond.selects q.1 y y ∈ uw) (hini : Cond.initialized y.cls ∈ uw)
    (hd : y.cls ≠ "java/lang/invoke/MethodHandle" ∧ y.cls ≠ "java/lang/invoke/VarHandle" ∧ (parseMethodDescriptor y.desc).map (fun d => d.parameters.length) = some As.length) (hrm : rm.cells = mc ∧ rm.slots = ms) (hR : rm.frames + 1 ≤ R.frames ∧ 8 + (maxL + 11) + rm.locals ≤ R.locals)
    (hs0 : st0 = As.reverse ++ .ref b :: rest) (hsize : ls.size = nL) (hroom : (rest.map fun v => v.category).sum ≤ 8) (hdg : decode cc pc = .ok (.invokevirtual index, 3)) (hf : cells + mc ≤ R.cells ∧ slots + ms ≤ R.slots) :
    va_Run p l e R s m args below meth c H locs cells slots mc ms (F0 m pc ls st0) rest (Qc (Value.ref b :: As).toArray) free :=
  va_runV ⟨hx, hb, hml, hown, hU⟩ hM ⟨callB_of As.length hU (uw_good hcode) rfl hrm.1 hrm.2 (hU _ hini) (hU _ hlink) hd hR, hU _ hst, hU _ hsel⟩ ⟨(tPre hK hT isC hC hnC).1, tRecv hK hT hcl he, (tPre hK hT isC hC hnC).2⟩ rfl rfl hsize hs0 (lv_room hroom) hdg hf
/-- a call whose named method is abstract -/
theorem zcA {b ci q0 : Nat} {q : vw_C} {fs : List Value} (hx : p.tables.exec = Jvm.exec) (hb : c.code = cc) (hml : c.maxLocals = nL) (hown : s.vm.findClass own = some m.cls) (hU : ∀ w ∈ uw, w.before args s = true) (hK : kX D k s) (hT : TP D A T H) (hcl : cl0[ci]? = some q) (he : T[q0]? = some (b, ob ci fs)) (isC : List Nat) (hC : isC.map (fun i => T[i]?) = Tc.map some) (hnC : va_nd isC = true)
    (hM : Met l y (Cond.code y bytes maxL ret :: uw) rm (pT D k H.size (.ref b :: As) Tc) Qc mc ms free) (hcode : Cond.code y bytes maxL ret ∈ uw) (hlink : Cond.methodLink own index yStep ∈ uw) (hsame : Cond.sameMethod yStep.cls yStep.cls yStep.name yStep.desc ∈ uw) (hsel : Cond.selects q.1 yStep y ∈ uw) (hst : Cond.instanceMethod y ∈ uw) (hini : Cond.initialized y.cls ∈ uw)
    (hd : y.cls ≠ "java/lang/invoke/MethodHandle" ∧ y.cls ≠ "java/lang/invoke/VarHandle" ∧ (parseMethodDescriptor y.desc).map (fun d => d.parameters.length) = some As.length) (hrm : rm.cells = mc ∧ rm.slots = ms) (hR : rm.frames + 1 ≤ R.frames ∧ 8 + (maxL + 11) + rm.locals ≤ R.locals)
    (hs0 : st0 = As.reverse ++ .ref b :: rest) (hsize : ls.size = nL) (hroom : (rest.map fun v => v.category).sum ≤ 8) (hdg : decode cc pc = .ok (.invokevirtual index, 3)) (hf : cells + mc ≤ R.cells ∧ slots + ms ≤ R.slots) (hn : As.length = 4) :
    va_Run p l e R s m args below meth c H locs cells slots mc ms (F0 m pc ls st0) rest (Qc (Value.ref b :: As).toArray) free :=
  va_runU (x := yStep) (owner := "FiniteMatrices$Step") ⟨hx, hb, hml, hown, hU⟩ hM (va_cwA As.length hU (fun w hw => by
    rcases List.mem_append.mp hw with h | h
    · have hm : w ∈ uw := by
        simp only [List.mem_cons, List.not_mem_nil, or_false] at h
        rcases h with rfl | rfl | rfl | rfl | rfl
        · exact hlink
        · exact hsame
        · exact hsel
        · exact hst
        · exact hini
      exact ⟨hm, good_of_word (List.mem_filter.mp hm).2⟩
    · exact uw_good hcode w h) rfl hrm.1 hrm.2 hK.2.2.2 ⟨by decide +kernel, by decide +kernel, by rw [hn]; decide +kernel⟩ hR) ⟨(tPre hK hT isC hC hnC).1, tRecv hK hT hcl he, (tPre hK hT isC hC hnC).2⟩ rfl rfl hsize hs0 (lv_room hroom) hdg hf
/-- behind a call: any world that came back, beside the rest -/
def Jz (D : va_G) (A : Nat → Prop) (Tr : TT) (as : List Nat) (sz : Nat) (H1 : Heap) : Prop := ∀ T1 : TT, TP D (zA as sz) T1 H1 → TP D A (Tr ++ T1) H1
theorem tz_free {as : List Nat} (hT : TP D A T H) (hS : va_S A H0 H locs) (hA : ∀ q, H0.size ≤ q → A q) (isC : List Nat) (hC : isC.map (fun i => T[i]?) = Tc.map some) (has : Tc.map Prod.fst = as) : ∀ q, zA as H.size q → A q := by
  obtain ⟨ws, hCf, hP, hD⟩ := hT
  obtain ⟨wc, g1, g2⟩ := hCf.pick (T' := Tc) hC
  subst has
  intro q hq
  exact va_free hD hS hA isC g1 q (g2.zA.mpr hq)
theorem tz_join {as : List Nat} {H1 : Heap} (hT : TP D A T H) (hS : va_S A H0 H locs) (hA : ∀ q, H0.size ≤ q → A q) (isC isR : List Nat) (hC : isC.map (fun i => T[i]?) = Tc.map some) (hR : isR.map (fun i => T[i]?) = Tr.map some) (has : Tc.map Prod.fst = as) (hn : va_nd isR = true) (hdis : ∀ i ∈ isR, i ∉ isC) (hk : ∀ q : Nat, q < H.size → ¬ zA as H.size q → H1[q]? = H[q]?) : Jz D A Tr as H.size H1 := by
  have hF := tz_free hT hS hA isC hC has
  obtain ⟨ws, hCf, hP, hD⟩ := hT
  obtain ⟨wc, g1, g2⟩ := hCf.pick (T' := Tc) hC
  obtain ⟨wr, g3, g4⟩ := hCf.pick (T' := Tr) hR
  subst has
  intro T1 ⟨w1, k1, k2, k3⟩
  have e1 : ∀ q, va_A wc H.size q ↔ zA (Tc.map Prod.fst) H.size q := fun q => g2.zA
  obtain ⟨j1, j2⟩ := va_join hP hD isC isR g1 g3 hn hdis (H1 := H1) (fun q h1 h2 => hk q h1 (fun h3 => h2 ((e1 q).mpr h3))) (fun q h => hF q ((e1 q).mp h)) k2 (k3.weaken (fun _ x _ h => (e1 x.1).mpr h))
  exact ⟨wr ++ w1, g4.app k1, j1, j2⟩
theorem tcV {as : List Nat} {B : Heap → Prop} {aa : Array Value} (hr : va_Run p l e R s m args below meth c H locs cells slots mc ms (F0 m pc ls st0) rest (qV B (zA as H.size) aa) (zA as H.size)) (hT : TP D A T H) (hS : va_S A H0 H locs) (hA : ∀ q, H0.size ≤ q → A q) (isC isR : List Nat) (hC : isC.map (fun i => T[i]?) = Tc.map some) (hR : isR.map (fun i => T[i]?) = Tr.map some) (has : Tc.map Prod.fst = as) (hn : va_nd isR = true) (hdis : ∀ i ∈ isR, i ∉ isC)
    (kk : ∀ (H1 : Heap) (locs1 : List Loc), B H1 → Jz D A Tr as H.size H1 → va_S A H0 H1 locs1 → W p l e R s m args below meth c H1 locs1 (cells + mc) (slots + ms) Q (F0 m (pc + 3) ls rest)) : W p l e R s m args below meth c H locs cells slots Q (F0 m pc ls st0) := by
  have hF := tz_free hT hS hA isC hC has
  refine va_callv hr hS (fun q _ h => hF q h) hF (fun u t H1 locs1 ht hvm hw hB hz1 hk1 hS1 => ?_)
  subst ht
  exact kk _ locs1 hB (tz_join hT hS hA isC isR hC hR has hn hdis hk1) hS1
theorem tcI {as : List Nat} {B : Int32 → Heap → Prop} {aa : Array Value} (hr : va_Run p l e R s m args below meth c H locs cells slots mc ms (F0 m pc ls st0) rest (qI B (zA as H.size) aa) (zA as H.size)) (hT : TP D A T H) (hS : va_S A H0 H locs) (hA : ∀ q, H0.size ≤ q → A q) (isC isR : List Nat) (hC : isC.map (fun i => T[i]?) = Tc.map some) (hR : isR.map (fun i => T[i]?) = Tr.map some) (has : Tc.map Prod.fst = as) (hn : va_nd isR = true) (hdis : ∀ i ∈ isR, i ∉ isC)
    (kk : ∀ (r : Int32) (H1 : Heap) (locs1 : List Loc), B r H1 → Jz D A Tr as H.size H1 → va_S A H0 H1 locs1 → W p l e R s m args below meth c H1 locs1 (cells + mc) (slots + ms) Q (F0 m (pc + 3) ls (.int r :: rest))) : W p l e R s m args below meth c H locs cells slots Q (F0 m pc ls st0) := by
  have hF := tz_free hT hS hA isC hC has
  refine va_calli hr hS (fun q _ h => hF q h) hF (fun r u t H1 locs1 ht hvm hw hB hz1 hk1 hS1 => ?_)
  subst ht; subst hw
  exact kk _ _ locs1 hB (tz_join hT hS hA isC isR hC hR has hn hdis hk1) hS1
theorem tcL {as : List Nat} {B : Int64 → Heap → Prop} {aa : Array Value} (hr : va_Run p l e R s m args below meth c H locs cells slots mc ms (F0 m pc ls st0) rest (qL B (zA as H.size) aa) (zA as H.size)) (hT : TP D A T H) (hS : va_S A H0 H locs) (hA : ∀ q, H0.size ≤ q → A q) (isC isR : List Nat) (hC : isC.map (fun i => T[i]?) = Tc.map some) (hR : isR.map (fun i => T[i]?) = Tr.map some) (has : Tc.map Prod.fst = as) (hn : va_nd isR = true) (hdis : ∀ i ∈ isR, i ∉ isC)
    (kk : ∀ (r : Int64) (H1 : Heap) (locs1 : List Loc), B r H1 → Jz D A Tr as H.size H1 → va_S A H0 H1 locs1 → W p l e R s m args below meth c H1 locs1 (cells + mc) (slots + ms) Q (F0 m (pc + 3) ls (.long r :: rest))) : W p l e R s m args below meth c H locs cells slots Q (F0 m pc ls st0) := by
  have hF := tz_free hT hS hA isC hC has
  refine va_calll hr hS (fun q _ h => hF q h) hF (fun r u t H1 locs1 ht hvm hw hB hz1 hk1 hS1 => ?_)
  subst ht; subst hw
  exact kk _ _ locs1 hB (tz_join hT hS hA isC isR hC hR has hn hdis hk1) hS1
theorem tcR {as : List Nat} {B : Nat → Heap → Prop} {aa : Array Value} (hr : va_Run p l e R s m args below meth c H locs cells slots mc ms (F0 m pc ls st0) rest (qR B (zA as H.size) aa) (zA as H.size)) (hT : TP D A T H) (hS : va_S A H0 H locs) (hA : ∀ q, H0.size ≤ q → A q) (isC isR : List Nat) (hC : isC.map (fun i => T[i]?) = Tc.map some) (hR : isR.map (fun i => T[i]?) = Tr.map some) (has : Tc.map Prod.fst = as) (hn : va_nd isR = true) (hdis : ∀ i ∈ isR, i ∉ isC)
    (kk : ∀ (r : Nat) (H1 : Heap) (locs1 : List Loc), B r H1 → Jz D A Tr as H.size H1 → va_S A H0 H1 locs1 → W p l e R s m args below meth c H1 locs1 (cells + mc) (slots + ms) Q (F0 m (pc + 3) ls (.ref r :: rest))) : W p l e R s m args below meth c H locs cells slots Q (F0 m pc ls st0) := by
  have hF := tz_free hT hS hA isC hC has
  refine va_callr hr hS (fun q _ h => hF q h) hF (fun u ra t H1 locs1 ht hvm hw hB hz1 hk1 hS1 => ?_)
  subst ht
  exact kk _ _ locs1 hB (tz_join hT hS hA isC isR hC hR has hn hdis hk1) hS1
end TZ
