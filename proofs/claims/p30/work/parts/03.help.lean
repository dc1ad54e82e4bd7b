/-! helpers: one list of words for all methods; contracts over worlds of one shape; calls in one row -/
abbrev cl0 : List vw_C := [(RX0, TX0, 1), (RX1, TX1, 1), (RX2, TX2, 2), (RX4, TX4, 12), (RX5, TX5, 4), (RX6, TX6, 3), (RX9, TX9, 5), (RX10, TX10, 17), (RX11, TX11, 36)]
abbrev TY (k : Nat → ClassId) : List (ClassId × FieldType) := [(k 0, .int), (k 1, .long), (k 2, .byte), (k 3, .object "FiniteMatrices$Sheet")]
def uw : List Cond := lw_tbl.filter goodWord
theorem uw_mem {w : Cond} (i : Nat) (h : lw_tbl[i]? = some w) (g : goodWord w = true) : w ∈ uw := List.mem_filter.mpr ⟨List.mem_of_getElem? h, g⟩
theorem uw_good {c : Cond} (hc : c ∈ uw) : GoodIn uw (c :: uw) := by
  intro w hw
  have hm : w ∈ uw := by
    rcases List.mem_cons.mp hw with rfl | h
    · exact hc
    · exact h
  exact ⟨hm, good_of_word (List.mem_filter.mp hm).2⟩
abbrev nestL : List (String × Nat × MethodName × String) := [("FiniteMatrices", 9, yX5_init, "FiniteMatrices"), ("FiniteMatrices", 25, yX9_init, "FiniteMatrices"), ("FiniteMatrices$ByProduct", 3, yX8_init, "FiniteMatrices"), ("FiniteMatrices$ByPoint", 3, yX8_init, "FiniteMatrices"), ("FiniteMatrices$ByPlace", 3, yX8_init, "FiniteMatrices"), ("FiniteMatrices", 97, yX6_init, "FiniteMatrices")]
def kN (U : State) : Prop := ∀ q : String × Nat × MethodName × String, q ∈ nestL → va_Nw (.methodLinkNest q.1 q.2.1 q.2.2.1 q.2.2.2) U
def yStep : MethodName := ⟨"FiniteMatrices$Step", "go", "([JII[J)Z"⟩
def kX (D : va_G) (k : Nat → ClassId) (U : State) : Prop := va_K D cl0 (TY k) U ∧ kN U ∧ va_AO "FiniteMatrices$Sheet" U ∧ va_Nw (.declares yStep) U
theorem kX.warm {D : va_G} {k : Nat → ClassId} {s U : State} (hW : s.WarmedH U.vm) (h : kX D k s) : kX D k U := ⟨va_K.moved hW.alike h.1, fun q hq => va_Nw.warmM hW (h.2.1 q hq), va_AO.moved hW.alike h.2.2.1, va_Nw.warmD hW h.2.2.2⟩
theorem kX.calling {D : va_G} {k : Nat → ClassId} {U : State} (g : JFrame) (mk : MethodId) (a : Array Value) (h : kX D k U) : kX D k (U.calling g mk a) := ⟨va_K.moved (u := U) (U := U.calling g mk a) (Vm.Alike.refl U.vm) h.1, fun q hq => va_Nw.same rfl (u := U) (U := U.calling g mk a) rfl (h.2.1 q hq), va_AO.moved (u := U) (U := U.calling g mk a) (Vm.Alike.refl U.vm) h.2.2.1, va_Nw.same rfl (u := U) (U := U.calling g mk a) rfl h.2.2.2⟩
/-- a contract's start: the arguments, the heap's size, the world -/
def pC (D : va_G) (k : Nat → ClassId) (sz : Nat) (av : List Value) (ws : va_W) : Array Value → State → Prop := va_Pc av (fun U => U.heap.size = sz ∧ va_P D cl0 ws U.heap ∧ kX D k U ∧ va_D (fun _ => True) ws)
theorem pC.blind {D : va_G} {k : Nat → ClassId} {sz : Nat} {av : List Value} {ws : va_W} : FrameBlind (pC D k sz av ws) := fun a U g mk q => by
  obtain ⟨q0, q1, qP, qK, qD⟩ := q
  exact ⟨q0, q1, qP, qK.calling g mk a, qD⟩
def qV (B : Heap → Prop) (A : Nat → Prop) : Array Value → State → Outcome → State → Prop := va_Qv (fun _ : Unit => True) (fun _ t => B t.heap) A
def qI (B : Int32 → Heap → Prop) (A : Nat → Prop) : Array Value → State → Outcome → State → Prop := va_Qi (fun (r u : Int32) => r = u) (fun u t => B u t.heap) A
def qL (B : Int64 → Heap → Prop) (A : Nat → Prop) : Array Value → State → Outcome → State → Prop := va_Ql (fun (r u : Int64) => r = u) (fun u t => B u t.heap) A
def qR (B : Nat → Heap → Prop) (A : Nat → Prop) : Array Value → State → Outcome → State → Prop := va_Qr (fun _ : Unit => True) (fun _ a t => B a t.heap) A
theorem fm_of {α β : Type} {f : α → Option β} {l : List β} : ∀ {is : List α}, is.map f = l.map some → is.filterMap f = l := by
  induction l with
  | nil => intro is h; cases is with
    | nil => rfl
    | cons a t => cases h
  | cons b l ih => intro is h; cases is with
    | nil => cases h
    | cons a t =>
      rw [List.map_cons, List.map_cons] at h
      injection h with h1 h2
      rw [List.filterMap_cons, h1, ih h2]
theorem begin_ {l : Launch} {y : MethodName} {cc : ByteArray} {maxL : Nat} {ret : Option FieldType} {rm : Room} {D : va_G} {k : Nat → ClassId} {sz : Nat} {av : List Value} {ws : va_W} {Qc : (Nat → Prop) → Array Value → State → Outcome → State → Prop} {mc ms : Nat}
    (hy : plainName y.cls = true) (hlen : (lg_sl av).length ≤ maxL)
    (body : ∀ (p : Program) (e : Env) (s : State) (m : MethodId) (below : List Frame) (meth : Method) (c : Code) (ls : Array Slot) (A : Nat → Prop), p.tables.exec = Jvm.exec → c.code = cc → meth.sig.returnType = ret → c.maxLocals = maxL → s.vm.findClass y.cls = some m.cls → meth.locks = false → meth.name = y.name → (∀ w ∈ uw, w.before av.toArray s = true) → kX D k s → s.heap.size = sz → va_P D cl0 ws s.heap → va_D A ws → va_S A s.heap s.heap [] → (∀ q : Nat, s.heap.size ≤ q → A q) → lv_has ls maxL (lv_args 0 av) →
      W p l e rm s m av.toArray below meth c s.heap [] 0 0 (MQ below (Qc A) av.toArray s mc ms A) (F0 m 0 ls [])) :
    Met l y (Cond.code y cc maxL ret :: uw) rm (pC D k sz av ws) (Qc (va_A ws sz)) mc ms (va_A ws sz) := by
  refine Met.ofW (cc := cc) (maxL := maxL) (ret := ret) hy rfl ?_
  intro p e s m args below meth c s₁ B hml hv
  obtain ⟨rfl, hsz, hP, hK, hD0⟩ := hv
  subst hsz
  have hts := atoms_spec (ws := Cond.code y cc maxL ret :: uw) B.pre
  rw [lg_entry_eq]
  exact body p e s m below meth c _ _ B.exec B.bytes B.returns hml (findClass_of_methodNamed B.named) B.notSynchronized (name_of_methodNamed B.named B.method).1 (fun w h => hts w (List.mem_cons_of_mem _ h)) hK rfl hP (hD0.self (sz := s.heap.size)) va_S.rf (fun q h => Or.inr h) (lv_entry av hlen)
section HELP
variable {p : Program} {l : Launch} {e : Env} {R : Room} {s : State} {m : MethodId} {args : Array Value} {below : List Frame} {meth : Method} {c : Code} {H : Heap} {locs : List Loc} {cells slots : Nat} {Q : State → Prop} {cc : ByteArray} {pc : Nat} {ls : Array Slot} {rest : List Value} {D : va_G} {k : Nat → ClassId} {ws : va_W} {A : Nat → Prop} {H0 : Heap} {a : Nat}
theorem sv_i {x v : Int32} (h : x = v) (kk : W p l e R s m args below meth c H locs cells slots Q (F0 m pc ls (.int v :: rest))) : W p l e R s m args below meth c H locs cells slots Q (F0 m pc ls (.int x :: rest)) := by
  subst h; exact kk
theorem sv_l {x v : Int64} (h : x = v) (kk : W p l e R s m args below meth c H locs cells slots Q (F0 m pc ls (.long v :: rest))) : W p l e R s m args below meth c H locs cells slots Q (F0 m pc ls (.long x :: rest)) := by
  subst h; exact kk
theorem retV {B : Heap → Prop} (hx : p.tables.exec = Jvm.exec) (hb : c.code = cc) (hr : meth.sig.returnType = none) (hlocks : meth.locks = false) (hS : va_S A s.heap H locs) (hB : B H) (hdg : decode cc pc = .ok (.return_, 1)) : W p l e R s m args below meth c H locs cells slots (MQ below (qV B A) args s cells slots A) (F0 m pc ls []) :=
  W.vret hx hb hr (fun t ht _ => ⟨⟨(), rfl, trivial, show B t.heap by rw [ht]; exact hB⟩, hS.F ht⟩) hS.2.2 hdg
theorem retI {B : Int32 → Heap → Prop} {v : Int32} (hx : p.tables.exec = Jvm.exec) (hb : c.code = cc) (hr : meth.sig.returnType = some .int) (hlocks : meth.locks = false) (hS : va_S A s.heap H locs) (hB : B v H) (hdg : decode cc pc = .ok (.ireturn, 1)) : W p l e R s m args below meth c H locs cells slots (MQ below (qI B A) args s cells slots A) (F0 m pc ls [.int v]) :=
  W.iret hx hb hr (fun t ht _ => ⟨⟨v, v, rfl, rfl, show B v t.heap by rw [ht]; exact hB⟩, hS.F ht⟩) hS.2.2 hdg
theorem retZ {B : Int32 → Heap → Prop} {v : Int32} (hx : p.tables.exec = Jvm.exec) (hb : c.code = cc) (hr : meth.sig.returnType = some .boolean) (hlocks : meth.locks = false) (hS : va_S A s.heap H locs) (hB : B v H) (hdg : decode cc pc = .ok (.ireturn, 1)) (hn : narrow .boolean (.int v) = .int v) : W p l e R s m args below meth c H locs cells slots (MQ below (qI B A) args s cells slots A) (F0 m pc ls [.int v]) :=
  W.zret hx hb hr hn (fun t ht _ => ⟨⟨v, v, rfl, rfl, show B v t.heap by rw [ht]; exact hB⟩, hS.F ht⟩) hS.2.2 hdg
theorem retL {B : Int64 → Heap → Prop} {v : Int64} (hx : p.tables.exec = Jvm.exec) (hb : c.code = cc) (hr : meth.sig.returnType = some .long) (hlocks : meth.locks = false) (hS : va_S A s.heap H locs) (hB : B v H) (hdg : decode cc pc = .ok (.lreturn, 1)) : W p l e R s m args below meth c H locs cells slots (MQ below (qL B A) args s cells slots A) (F0 m pc ls [.long v]) :=
  W.lret hx hb hr (fun t ht _ => ⟨⟨v, v, rfl, rfl, show B v t.heap by rw [ht]; exact hB⟩, hS.F ht⟩) hS.2.2 hdg
theorem retR {B : Nat → Heap → Prop} {v : Nat} {C : String} (hx : p.tables.exec = Jvm.exec) (hb : c.code = cc) (hr : meth.sig.returnType = some (.object C)) (hlocks : meth.locks = false) (hS : va_S A s.heap H locs) (hB : B v H) (hdg : decode cc pc = .ok (.areturn, 1)) : W p l e R s m args below meth c H locs cells slots (MQ below (qR B A) args s cells slots A) (F0 m pc ls [.ref v]) :=
  W.aret hx hb hr (Or.inl ⟨C, rfl⟩) (Or.inr ⟨v, rfl⟩) (fun t ht _ => ⟨⟨(), v, rfl, trivial, show B v t.heap by rw [ht]; exact hB⟩, hS.F ht⟩) hS.2.2 hdg
/-- what a call takes besides its contract -/
theorem rPre {As : List Value} {wc : va_W} (hK : kX D k s) (hP : va_P D cl0 ws H) (hD : va_D A ws) (isC : List Nat) (hC : isC.map (fun i => ws[i]?) = wc.map some) (hnC : va_nd isC = true) : FrameBlind (pC D k H.size As wc) ∧ ∀ U : State, U.heap = H → s.WarmedH U.vm → pC D k H.size As wc As.toArray U :=
  ⟨pC.blind, fun U hU hW => ⟨rfl, by rw [hU], by rw [hU]; exact hP.sub isC (fm_of hC), hK.warm hW, (hD.sub isC hnC hC).weaken (fun _ _ _ _ => trivial)⟩⟩
variable {y : MethodName} {bytes : ByteArray} {maxL nL mc ms index : Nat} {ret : Option FieldType} {rm : Room} {own : String} {As st0 : List Value} {wc wr : va_W} {Qc : Array Value → State → Outcome → State → Prop} {free : Addr → Prop}
theorem rS (hx : p.tables.exec = Jvm.exec) (hb : c.code = cc) (hml : c.maxLocals = nL) (hown : s.vm.findClass own = some m.cls) (hU : ∀ w ∈ uw, w.before args s = true) (hK : kX D k s) (hP : va_P D cl0 ws H) (hD : va_D A ws) (isC : List Nat) (hC : isC.map (fun i => ws[i]?) = wc.map some) (hnC : va_nd isC = true)
    (hM : Met l y (Cond.code y bytes maxL ret :: uw) rm (pC D k H.size As wc) Qc mc ms free) (hcode : Cond.code y bytes maxL ret ∈ uw) (hlink : Cond.methodLink own index y ∈ uw) (hst : Cond.static y ∈ uw) (hini : Cond.initialized y.cls ∈ uw)
    (hd : y.cls ≠ "java/lang/invoke/MethodHandle" ∧ y.cls ≠ "java/lang/invoke/VarHandle" ∧ (parseMethodDescriptor y.desc).map (fun d => d.parameters.length) = some As.length) (hrm : rm.cells = mc ∧ rm.slots = ms) (hR : rm.frames + 1 ≤ R.frames ∧ 8 + (maxL + 11) + rm.locals ≤ R.locals)
    (hs0 : st0 = As.reverse ++ rest) (hsize : ls.size = nL) (hroom : (rest.map fun v => v.category).sum ≤ 8) (hdg : decode cc pc = .ok (.invokestatic index, 3)) (hf : cells + mc ≤ R.cells ∧ slots + ms ≤ R.slots) :
    va_Run p l e R s m args below meth c H locs cells slots mc ms (F0 m pc ls st0) rest (Qc As.toArray) free :=
  va_runS ⟨hx, hb, hml, hown, hU⟩ hM ⟨callB_of As.length hU (uw_good hcode) rfl hrm.1 hrm.2 (hU _ hini) (hU _ hlink) hd hR, hU _ hst⟩ (rPre hK hP hD isC hC hnC) rfl rfl hsize hs0 (lv_room hroom) hdg hf
theorem rI {b : Nat} (hx : p.tables.exec = Jvm.exec) (hb : c.code = cc) (hml : c.maxLocals = nL) (hown : s.vm.findClass own = some m.cls) (hU : ∀ w ∈ uw, w.before args s = true) (hK : kX D k s) (hP : va_P D cl0 ws H) (hD : va_D A ws) (isC : List Nat) (hC : isC.map (fun i => ws[i]?) = wc.map some) (hnC : va_nd isC = true)
    (hM : Met l y (Cond.code y bytes maxL none :: uw) rm (pC D k H.size (.ref b :: As) wc) Qc mc ms free) (hcode : Cond.code y bytes maxL none ∈ uw) (hlink : Cond.methodLink own index y ∈ uw) (hst : Cond.instanceMethod y ∈ uw) (hini : Cond.initialized y.cls ∈ uw) (hy1 : y.name = "<init>")
    (hd : y.cls ≠ "java/lang/invoke/MethodHandle" ∧ y.cls ≠ "java/lang/invoke/VarHandle" ∧ (parseMethodDescriptor y.desc).map (fun d => d.parameters.length) = some As.length) (hrm : rm.cells = mc ∧ rm.slots = ms) (hR : rm.frames + 1 ≤ R.frames ∧ 8 + (maxL + 11) + rm.locals ≤ R.locals)
    (hs0 : st0 = As.reverse ++ .ref b :: rest) (hsize : ls.size = nL) (hroom : (rest.map fun v => v.category).sum ≤ 8) (hdg : decode cc pc = .ok (.invokespecial index, 3)) (hf : cells + mc ≤ R.cells ∧ slots + ms ≤ R.slots) :
    va_Run p l e R s m args below meth c H locs cells slots mc ms (F0 m pc ls st0) rest (Qc (Value.ref b :: As).toArray) free :=
  va_runI ⟨hx, hb, hml, hown, hU⟩ hM ⟨callB_of As.length hU (uw_good hcode) rfl hrm.1 hrm.2 (hU _ hini) (hU _ hlink) hd hR, hy1, hU _ hst⟩ (rPre hK hP hD isC hC hnC) rfl rfl hsize hs0 (lv_room hroom) hdg hf
theorem rIN {b : Nat} {host : String} (hx : p.tables.exec = Jvm.exec) (hb : c.code = cc) (hml : c.maxLocals = nL) (hown : s.vm.findClass own = some m.cls) (hU : ∀ w ∈ uw, w.before args s = true) (hK : kX D k s) (hP : va_P D cl0 ws H) (hD : va_D A ws) (isC : List Nat) (hC : isC.map (fun i => ws[i]?) = wc.map some) (hnC : va_nd isC = true)
    (hM : Met l y (Cond.code y bytes maxL none :: uw) rm (pC D k H.size (.ref b :: As) wc) Qc mc ms free) (hcode : Cond.code y bytes maxL none ∈ uw) (hlink : (own, index, y, host) ∈ nestL) (hst : Cond.instanceMethod y ∈ uw) (hini : Cond.initialized y.cls ∈ uw) (hy1 : y.name = "<init>")
    (hd : y.cls ≠ "java/lang/invoke/MethodHandle" ∧ y.cls ≠ "java/lang/invoke/VarHandle" ∧ (parseMethodDescriptor y.desc).map (fun d => d.parameters.length) = some As.length) (hrm : rm.cells = mc ∧ rm.slots = ms) (hR : rm.frames + 1 ≤ R.frames ∧ 8 + (maxL + 11) + rm.locals ≤ R.locals)
    (hs0 : st0 = As.reverse ++ .ref b :: rest) (hsize : ls.size = nL) (hroom : (rest.map fun v => v.category).sum ≤ 8) (hdg : decode cc pc = .ok (.invokespecial index, 3)) (hf : cells + mc ≤ R.cells ∧ slots + ms ≤ R.slots) :
    va_Run p l e R s m args below meth c H locs cells slots mc ms (F0 m pc ls st0) rest (Qc (Value.ref b :: As).toArray) free :=
  va_runIN ⟨hx, hb, hml, hown, hU⟩ hM ⟨va_cnB As.length hU (uw_good hcode) rfl hrm.1 hrm.2 (hK.2.1 (own, index, y, host) hlink) (hU _ hini) hd hR, hy1, hU _ hst⟩ (rPre hK hP hD isC hC hnC) rfl rfl hsize hs0 (lv_room hroom) hdg hf
theorem rV {b ci q0 : Nat} {q : vw_C} {fs : List Value} (hx : p.tables.exec = Jvm.exec) (hb : c.code = cc) (hml : c.maxLocals = nL) (hown : s.vm.findClass own = some m.cls) (hU : ∀ w ∈ uw, w.before args s = true) (hK : kX D k s) (hP : va_P D cl0 ws H) (hD : va_D A ws) (hcl : cl0[ci]? = some q) (he : ws[q0]? = some (b, .inr (ci, fs))) (isC : List Nat) (hC : isC.map (fun i => ws[i]?) = wc.map some) (hnC : va_nd isC = true)
    (hM : Met l y (Cond.code y bytes maxL ret :: uw) rm (pC D k H.size (.ref b :: As) wc) Qc mc ms free) (hcode : Cond.code y bytes maxL ret ∈ uw) (hlink : Cond.methodLink own index y ∈ uw) (hst : Cond.instanceMethod y ∈ uw) (hsel : Cond.selects q.1 y y ∈ uw) (hini : Cond.initialized y.cls ∈ uw)
    (hd : y.cls ≠ "java/lang/invoke/MethodHandle" ∧ y.cls ≠ "java/lang/invoke/VarHandle" ∧ (parseMethodDescriptor y.desc).map (fun d => d.parameters.length) = some As.length) (hrm : rm.cells = mc ∧ rm.slots = ms) (hR : rm.frames + 1 ≤ R.frames ∧ 8 + (maxL + 11) + rm.locals ≤ R.locals)
    (hs0 : st0 = As.reverse ++ .ref b :: rest) (hsize : ls.size = nL) (hroom : (rest.map fun v => v.category).sum ≤ 8) (hdg : decode cc pc = .ok (.invokevirtual index, 3)) (hf : cells + mc ≤ R.cells ∧ slots + ms ≤ R.slots) :
    va_Run p l e R s m args below meth c H locs cells slots mc ms (F0 m pc ls st0) rest (Qc (Value.ref b :: As).toArray) free :=
  va_runV ⟨hx, hb, hml, hown, hU⟩ hM ⟨callB_of As.length hU (uw_good hcode) rfl hrm.1 hrm.2 (hU _ hini) (hU _ hlink) hd hR, hU _ hst, hU _ hsel⟩ ⟨(rPre hK hP hD isC hC hnC).1, va_recv hK.1 hP hcl he, (rPre hK hP hD isC hC hnC).2⟩ rfl rfl hsize hs0 (lv_room hroom) hdg hf
/-- behind a call: any world that came back, beside the rest -/
def Jn (D : va_G) (A : Nat → Prop) (wr wc : va_W) (sz : Nat) (H1 : Heap) : Prop := ∀ w1 : va_W, va_P D cl0 w1 H1 → va_D (va_A wc sz) w1 → va_P D cl0 (wr ++ w1) H1 ∧ va_D A (wr ++ w1)
theorem cV {B : Heap → Prop} {aa : Array Value} (hr : va_Run p l e R s m args below meth c H locs cells slots mc ms (F0 m pc ls st0) rest (qV B (va_A wc H.size) aa) (va_A wc H.size)) (hP : va_P D cl0 ws H) (hD : va_D A ws) (hS : va_S A H0 H locs) (hA : ∀ q, H0.size ≤ q → A q) (isC isR : List Nat) (hC : isC.map (fun i => ws[i]?) = wc.map some) (hR : isR.map (fun i => ws[i]?) = wr.map some) (hn : va_nd isR = true) (hdis : ∀ i ∈ isR, i ∉ isC)
    (kk : ∀ (H1 : Heap) (locs1 : List Loc), B H1 → Jn D A wr wc H.size H1 → va_S A H0 H1 locs1 → W p l e R s m args below meth c H1 locs1 (cells + mc) (slots + ms) Q (F0 m (pc + 3) ls rest)) : W p l e R s m args below meth c H locs cells slots Q (F0 m pc ls st0) := by
  have hF := va_free (wc := wc) hD hS hA isC hC
  refine va_callv hr hS (fun q _ h => hF q h) hF (fun u t H1 locs1 ht hvm hw hB hz1 hk1 hS1 => ?_)
  subst ht
  exact kk _ locs1 hB (fun w1 h1 h2 => va_join hP hD isC isR hC hR hn hdis hk1 hF h1 h2) hS1
theorem cI {B : Int32 → Heap → Prop} {aa : Array Value} (hr : va_Run p l e R s m args below meth c H locs cells slots mc ms (F0 m pc ls st0) rest (qI B (va_A wc H.size) aa) (va_A wc H.size)) (hP : va_P D cl0 ws H) (hD : va_D A ws) (hS : va_S A H0 H locs) (hA : ∀ q, H0.size ≤ q → A q) (isC isR : List Nat) (hC : isC.map (fun i => ws[i]?) = wc.map some) (hR : isR.map (fun i => ws[i]?) = wr.map some) (hn : va_nd isR = true) (hdis : ∀ i ∈ isR, i ∉ isC)
    (kk : ∀ (r : Int32) (H1 : Heap) (locs1 : List Loc), B r H1 → Jn D A wr wc H.size H1 → va_S A H0 H1 locs1 → W p l e R s m args below meth c H1 locs1 (cells + mc) (slots + ms) Q (F0 m (pc + 3) ls (.int r :: rest))) : W p l e R s m args below meth c H locs cells slots Q (F0 m pc ls st0) := by
  have hF := va_free (wc := wc) hD hS hA isC hC
  refine va_calli hr hS (fun q _ h => hF q h) hF (fun r u t H1 locs1 ht hvm hw hB hz1 hk1 hS1 => ?_)
  subst ht; subst hw
  exact kk _ _ locs1 hB (fun w1 h1 h2 => va_join hP hD isC isR hC hR hn hdis hk1 hF h1 h2) hS1
theorem cL {B : Int64 → Heap → Prop} {aa : Array Value} (hr : va_Run p l e R s m args below meth c H locs cells slots mc ms (F0 m pc ls st0) rest (qL B (va_A wc H.size) aa) (va_A wc H.size)) (hP : va_P D cl0 ws H) (hD : va_D A ws) (hS : va_S A H0 H locs) (hA : ∀ q, H0.size ≤ q → A q) (isC isR : List Nat) (hC : isC.map (fun i => ws[i]?) = wc.map some) (hR : isR.map (fun i => ws[i]?) = wr.map some) (hn : va_nd isR = true) (hdis : ∀ i ∈ isR, i ∉ isC)
    (kk : ∀ (r : Int64) (H1 : Heap) (locs1 : List Loc), B r H1 → Jn D A wr wc H.size H1 → va_S A H0 H1 locs1 → W p l e R s m args below meth c H1 locs1 (cells + mc) (slots + ms) Q (F0 m (pc + 3) ls (.long r :: rest))) : W p l e R s m args below meth c H locs cells slots Q (F0 m pc ls st0) := by
  have hF := va_free (wc := wc) hD hS hA isC hC
  refine va_calll hr hS (fun q _ h => hF q h) hF (fun r u t H1 locs1 ht hvm hw hB hz1 hk1 hS1 => ?_)
  subst ht; subst hw
  exact kk _ _ locs1 hB (fun w1 h1 h2 => va_join hP hD isC isR hC hR hn hdis hk1 hF h1 h2) hS1
theorem cR {B : Nat → Heap → Prop} {aa : Array Value} (hr : va_Run p l e R s m args below meth c H locs cells slots mc ms (F0 m pc ls st0) rest (qR B (va_A wc H.size) aa) (va_A wc H.size)) (hP : va_P D cl0 ws H) (hD : va_D A ws) (hS : va_S A H0 H locs) (hA : ∀ q, H0.size ≤ q → A q) (isC isR : List Nat) (hC : isC.map (fun i => ws[i]?) = wc.map some) (hR : isR.map (fun i => ws[i]?) = wr.map some) (hn : va_nd isR = true) (hdis : ∀ i ∈ isR, i ∉ isC)
    (kk : ∀ (r : Nat) (H1 : Heap) (locs1 : List Loc), B r H1 → Jn D A wr wc H.size H1 → va_S A H0 H1 locs1 → W p l e R s m args below meth c H1 locs1 (cells + mc) (slots + ms) Q (F0 m (pc + 3) ls (.ref r :: rest))) : W p l e R s m args below meth c H locs cells slots Q (F0 m pc ls st0) := by
  have hF := va_free (wc := wc) hD hS hA isC hC
  refine va_callr hr hS (fun q _ h => hF q h) hF (fun u ra t H1 locs1 ht hvm hw hB hz1 hk1 hS1 => ?_)
  subst ht
  exact kk _ _ locs1 hB (fun w1 h1 h2 => va_join hP hD isC isR hC hR hn hdis hk1 hF h1 h2) hS1
/-! arrays: contents as lists with a default -/
def ix (i : Int32) (j n : Nat) : Bool := decide (¬ i < 0) && decide (i.toNatClampNeg = j) && decide (j < n)
theorem ix_in {i : Int32} {j n : Nat} (h : ix i j n = true) : vp_in i n ∧ i.toNatClampNeg = j := by
  simp only [ix, Bool.and_eq_true, decide_eq_true_eq] at h
  exact ⟨fun q => q.elim h.1.1 (fun q => by omega), h.1.2⟩
end HELP
def tI (l : List Int32) (d : Int32) : Nat → Int32 := fun j => l.getD j d
def tL (l : List Int64) (d : Int64) : Nat → Int64 := fun j => l.getD j d
def padset {α : Type} (d x : α) : List α → Nat → List α
  | [], 0 => [x]
  | [], j + 1 => d :: padset d x [] j
  | _ :: l, 0 => x :: l
  | a :: l, j + 1 => a :: padset d x l j
theorem padset_get {α : Type} (d x : α) : ∀ (l : List α) (j i : Nat), (padset d x l j).getD i d = if i = j then x else l.getD i d := by
  intro l j
  induction j generalizing l with
  | zero =>
    intro i
    cases l with
    | nil => cases i <;> simp [padset]
    | cons a l => cases i <;> simp [padset]
  | succ j ih =>
    intro i
    cases l with
    | nil =>
      cases i with
      | zero => simp [padset]
      | succ i => have := ih [] i; simp only [padset, List.getD_cons_succ, this]; simp
    | cons a l =>
      cases i with
      | zero => simp [padset]
      | succ i => have := ih l i; simp only [padset, List.getD_cons_succ, this]; simp
theorem upd_tI {l : List Int32} {d x : Int32} {j : Nat} : upd (tI l d) j x = tI (padset d x l j) d := by
  funext i; simp only [upd, tI, padset_get]
theorem upd_tL {l : List Int64} {d x : Int64} {j : Nat} : vp_updL (tL l d) j x = tL (padset d x l j) d := by
  funext i; simp only [vp_updL, tL, padset_get]
def cpl {α : Type} (d : α) (l l' : List α) (sp dp n : Nat) : List α := (List.range (max (dp + n) l'.length)).map (fun j => if dp ≤ j ∧ j < dp + n then l.getD (sp + (j - dp)) d else l'.getD j d)
theorem cpl_get {α : Type} (d : α) (l l' : List α) (sp dp n i : Nat) : (cpl d l l' sp dp n).getD i d = if dp ≤ i ∧ i < dp + n then l.getD (sp + (i - dp)) d else l'.getD i d := by
  unfold cpl
  by_cases h : i < max (dp + n) l'.length
  · simp [List.getD_eq_getElem?_getD, List.getElem?_map, List.getElem?_range h]
  · have h1 : ¬ (dp ≤ i ∧ i < dp + n) := by omega
    have h2 : l'.length ≤ i := by omega
    rw [if_neg h1, List.getD_eq_getElem?_getD, List.getD_eq_getElem?_getD, List.getElem?_eq_none (by simp; omega), List.getElem?_eq_none h2]
theorem cpy_tL {l l' : List Int64} {d : Int64} {sp dp n : Nat} : va_cpy (tL l d) (tL l' d) sp dp n = tL (cpl d l l' sp dp n) d := by
  funext i; simp only [va_cpy, tL, cpl_get]
section HELP2
variable {p : Program} {l : Launch} {e : Env} {R : Room} {s : State} {m : MethodId} {args : Array Value} {below : List Frame} {meth : Method} {c : Code} {H : Heap} {locs : List Loc} {cells slots : Nat} {Q : State → Prop} {cc : ByteArray} {pc : Nat} {ls : Array Slot} {rest : List Value} {D : va_G} {k : Nat → ClassId} {ws : va_W} {A : Nat → Prop} {H0 : Heap} {a : Nat}
theorem ld_i (hx : p.tables.exec = Jvm.exec) (hb : c.code = cc) (hK : kX D k s) (hP : va_P D cl0 ws H) (q0 : Nat) {n j : Nat} {f : Nat → Int32} {i v : Int32} (ha : ws[q0]? = some (a, .inl (k 0, n, .inl f))) (hi : ix i j n = true) (hv : f j = v) (hdg : decode cc pc = .ok (.iaload, 1))
    (kk : W p l e R s m args below meth c H locs cells slots Q (F0 m (pc + 1) ls (.int v :: rest))) : W p l e R s m args below meth c H locs cells slots Q (F0 m pc ls (.int i :: .ref a :: rest)) :=
  va_iald hx hb hK.1 hP q0 0 ha rfl (ix_in hi).1 hdg (by rw [(ix_in hi).2, hv]; exact kk)
theorem ld_l (hx : p.tables.exec = Jvm.exec) (hb : c.code = cc) (hK : kX D k s) (hP : va_P D cl0 ws H) (q0 : Nat) {n j : Nat} {f : Nat → Int64} {i : Int32} {v : Int64} (ha : ws[q0]? = some (a, .inl (k 1, n, .inr (.inl f)))) (hi : ix i j n = true) (hv : f j = v) (hdg : decode cc pc = .ok (.laload, 1))
    (kk : W p l e R s m args below meth c H locs cells slots Q (F0 m (pc + 1) ls (.long v :: rest))) : W p l e R s m args below meth c H locs cells slots Q (F0 m pc ls (.int i :: .ref a :: rest)) :=
  va_lald hx hb hK.1 hP q0 1 ha rfl (ix_in hi).1 hdg (by rw [(ix_in hi).2, hv]; exact kk)
theorem ld_q (hx : p.tables.exec = Jvm.exec) (hb : c.code = cc) (hK : kX D k s) (hP : va_P D cl0 ws H) (q0 : Nat) {n j v : Nat} {f : Nat → Option Nat} {i : Int32} (ha : ws[q0]? = some (a, .inl (k 3, n, .inr (.inr (.inr (.inr f)))))) (hi : ix i j n = true) (hv : f j = some v) (hdg : decode cc pc = .ok (.aaload, 1))
    (kk : W p l e R s m args below meth c H locs cells slots Q (F0 m (pc + 1) ls (.ref v :: rest))) : W p l e R s m args below meth c H locs cells slots Q (F0 m pc ls (.int i :: .ref a :: rest)) :=
  va_aldq hx hb hK.1 hP q0 3 ha rfl (ix_in hi).1 hdg (by rw [(ix_in hi).2, hv]; exact kk)
theorem st_i (hx : p.tables.exec = Jvm.exec) (hb : c.code = cc) (hK : kX D k s) (hP : va_P D cl0 ws H) (hD : va_D A ws) (hS : va_S A H0 H locs) (q0 : Nat) {n j : Nat} {f g : Nat → Int32} {i x : Int32} (ha : ws[q0]? = some (a, .inl (k 0, n, .inl f))) (hi : ix i j n = true) (hg : upd f j x = g) (hdg : decode cc pc = .ok (.iastore, 1))
    (kk : ∀ (H1 : Heap) (locs1 : List Loc), va_P D cl0 (ws.set q0 (a, .inl (k 0, n, .inl g))) H1 → va_D A (ws.set q0 (a, .inl (k 0, n, .inl g))) → va_S A H0 H1 locs1 → W p l e R s m args below meth c H1 locs1 cells slots Q (F0 m (pc + 1) ls rest)) : W p l e R s m args below meth c H locs cells slots Q (F0 m pc ls (.int x :: .int i :: .ref a :: rest)) :=
  va_iast hx hb hK.1 hP hD hS q0 0 ha rfl (ix_in hi).1 hdg (fun H1 l1 h1 h2 h3 => kk H1 l1 (by rw [(ix_in hi).2, hg] at h1; exact h1) (by rw [(ix_in hi).2, hg] at h2; exact h2) h3)
theorem st_l (hx : p.tables.exec = Jvm.exec) (hb : c.code = cc) (hK : kX D k s) (hP : va_P D cl0 ws H) (hD : va_D A ws) (hS : va_S A H0 H locs) (q0 : Nat) {n j : Nat} {f g : Nat → Int64} {i : Int32} {x : Int64} (ha : ws[q0]? = some (a, .inl (k 1, n, .inr (.inl f)))) (hi : ix i j n = true) (hg : vp_updL f j x = g) (hdg : decode cc pc = .ok (.lastore, 1))
    (kk : ∀ (H1 : Heap) (locs1 : List Loc), va_P D cl0 (ws.set q0 (a, .inl (k 1, n, .inr (.inl g)))) H1 → va_D A (ws.set q0 (a, .inl (k 1, n, .inr (.inl g)))) → va_S A H0 H1 locs1 → W p l e R s m args below meth c H1 locs1 cells slots Q (F0 m (pc + 1) ls rest)) : W p l e R s m args below meth c H locs cells slots Q (F0 m pc ls (.long x :: .int i :: .ref a :: rest)) :=
  va_last hx hb hK.1 hP hD hS q0 1 ha rfl (ix_in hi).1 hdg (fun H1 l1 h1 h2 h3 => kk H1 l1 (by rw [(ix_in hi).2, hg] at h1; exact h1) (by rw [(ix_in hi).2, hg] at h2; exact h2) h3)
theorem st_b (hx : p.tables.exec = Jvm.exec) (hb : c.code = cc) (hK : kX D k s) (hP : va_P D cl0 ws H) (hD : va_D A ws) (hS : va_S A H0 H locs) (q0 : Nat) {n j : Nat} {f : Nat → Int32} {i x : Int32} (ha : ws[q0]? = some (a, .inl (k 2, n, .inl f))) (hi : ix i j n = true) (hdg : decode cc pc = .ok (.bastore, 1))
    (kk : ∀ (H1 : Heap) (locs1 : List Loc) (g : Nat → Int32), va_P D cl0 (ws.set q0 (a, .inl (k 2, n, .inl g))) H1 → va_D A (ws.set q0 (a, .inl (k 2, n, .inl g))) → va_S A H0 H1 locs1 → W p l e R s m args below meth c H1 locs1 cells slots Q (F0 m (pc + 1) ls rest)) : W p l e R s m args below meth c H locs cells slots Q (F0 m pc ls (.int x :: .int i :: .ref a :: rest)) :=
  va_bast hx hb hK.1 hP hD hS q0 2 ha rfl (ix_in hi).1 hdg (fun H1 l1 h1 h2 h3 => kk H1 l1 _ h1 h2 h3)
theorem st_q (hx : p.tables.exec = Jvm.exec) (hb : c.code = cc) (hK : kX D k s) (hP : va_P D cl0 ws H) (hD : va_D A ws) (hS : va_S A H0 H locs) (q0 qk : Nat) {ci n j v : Nat} {vs : List Value} {f : Nat → Option Nat} {i : Int32} (ha : ws[q0]? = some (a, .inl (k 3, n, .inr (.inr (.inr (.inr f)))))) (hv : ws[qk]? = some (v, .inr (ci, vs))) (hc : cl0[ci]? = some (RX6, TX6, 3)) (hi : ix i j n = true) (hdg : decode cc pc = .ok (.aastore, 1))
    (kk : ∀ (H1 : Heap) (locs1 : List Loc), va_P D cl0 (ws.set q0 (a, .inl (k 3, n, .inr (.inr (.inr (.inr (va_up f j (some v)))))))) H1 → va_D A (ws.set q0 (a, .inl (k 3, n, .inr (.inr (.inr (.inr (va_up f j (some v)))))))) → va_S A H0 H1 locs1 → W p l e R s m args below meth c H1 locs1 cells slots Q (F0 m (pc + 1) ls rest)) : W p l e R s m args below meth c H locs cells slots Q (F0 m pc ls (.ref v :: .int i :: .ref a :: rest)) :=
  va_astq hx hb hK.1 hP hD hS q0 3 qk ci (r := (RX6, TX6, 3)) ha rfl hv hc (ix_in hi).1 hdg (fun H1 l1 h1 h2 h3 => kk H1 l1 (by rw [(ix_in hi).2] at h1; exact h1) (by rw [(ix_in hi).2] at h2; exact h2) h3)
theorem kX.one {cA : ClassId} {ty : FieldType} {i : Nat} (hK : va_K D cl0 (TY k ++ [(cA, ty)]) s) (hi : (TY k)[i]? = some (k i, ty)) (ho : ∀ C, ty ≠ .object C) : cA = k i := by
  have h1 := (hK.2 4 (cA, ty) rfl).2
  have h2 := (hK.2 i (k i, ty) (by
    have hl := (List.getElem?_eq_some_iff.mp hi).1
    rw [List.getElem?_append_left hl]; exact hi)).2
  cases ty with
  | object C => exact absurd rfl (ho C)
  | _ => exact Option.some.inj (h1.symm.trans h2)
theorem kX.oneO {cA : ClassId} (hK : va_K D cl0 (TY k ++ [(cA, .object "FiniteMatrices$Sheet")]) s) : cA = k 3 := by
  obtain ⟨k1, c1, -, -, -, h1⟩ := (hK.2 4 (cA, .object "FiniteMatrices$Sheet") rfl).2
  obtain ⟨k2, c2, -, -, -, h2⟩ := (hK.2 3 (k 3, .object "FiniteMatrices$Sheet") rfl).2
  exact Option.some.inj (h1.symm.trans h2)
theorem na_i (hx : p.tables.exec = Jvm.exec) (hb : c.code = cc) (hU : ∀ w ∈ uw, w.before args s = true) (hin : Cond.arrayClass .int ∈ uw) (hK : kX D k s) (hP : va_P D cl0 ws H) (hD : va_D A ws) (hS : va_S A H0 H locs) (hA : ∀ q, H0.size ≤ q → A q) {n : Int32} {N : Nat} (hn : ¬ n < 0) (hN : n.toNatClampNeg = N) (hbytes : N * componentBytes .int ≤ 536870912) (hcells : cells + 1 ≤ R.cells) (hslots : slots + N ≤ R.slots) (hdg : decode cc pc = .ok (.newarray .int, 2))
    (kk : ∀ (q : Nat) (H1 : Heap), va_P D cl0 (ws ++ [(q, .inl (k 0, N, .inl (tI [] 0)))]) H1 → va_D A (ws ++ [(q, .inl (k 0, N, .inl (tI [] 0)))]) → va_S A H0 H1 locs → W p l e R s m args below meth c H1 locs (cells + 1) (slots + N) Q (F0 m (pc + 2) ls (.ref q :: rest))) : W p l e R s m args below meth c H locs cells slots Q (F0 m pc ls (.int n :: rest)) :=
  va_newa (atype := .int) (ty := .int) (a0 := (N, .inl (tI [] 0))) hx hb (hU _ hin) rfl hK.1 hP hD hS hA (fun cA => rfl) hn hN hbytes hcells hslots hdg (fun q cA H1 h0 h1 h2 h3 => by
    have hc : cA = k 0 := kX.one h0 (i := 0) rfl (fun C h => by cases h)
    subst hc; exact kk q H1 h1 h2 h3)
theorem na_l (hx : p.tables.exec = Jvm.exec) (hb : c.code = cc) (hU : ∀ w ∈ uw, w.before args s = true) (hin : Cond.arrayClass .long ∈ uw) (hK : kX D k s) (hP : va_P D cl0 ws H) (hD : va_D A ws) (hS : va_S A H0 H locs) (hA : ∀ q, H0.size ≤ q → A q) {n : Int32} {N : Nat} (hn : ¬ n < 0) (hN : n.toNatClampNeg = N) (hbytes : N * componentBytes .long ≤ 536870912) (hcells : cells + 1 ≤ R.cells) (hslots : slots + N ≤ R.slots) (hdg : decode cc pc = .ok (.newarray .long, 2))
    (kk : ∀ (q : Nat) (H1 : Heap), va_P D cl0 (ws ++ [(q, .inl (k 1, N, .inr (.inl (tL [] 0))))]) H1 → va_D A (ws ++ [(q, .inl (k 1, N, .inr (.inl (tL [] 0))))]) → va_S A H0 H1 locs → W p l e R s m args below meth c H1 locs (cells + 1) (slots + N) Q (F0 m (pc + 2) ls (.ref q :: rest))) : W p l e R s m args below meth c H locs cells slots Q (F0 m pc ls (.int n :: rest)) :=
  va_newa (atype := .long) (ty := .long) (a0 := (N, .inr (.inl (tL [] 0)))) hx hb (hU _ hin) rfl hK.1 hP hD hS hA (fun cA => rfl) hn hN hbytes hcells hslots hdg (fun q cA H1 h0 h1 h2 h3 => by
    have hc : cA = k 1 := kX.one h0 (i := 1) rfl (fun C h => by cases h)
    subst hc; exact kk q H1 h1 h2 h3)
theorem na_b (hx : p.tables.exec = Jvm.exec) (hb : c.code = cc) (hU : ∀ w ∈ uw, w.before args s = true) (hin : Cond.arrayClass .byte ∈ uw) (hK : kX D k s) (hP : va_P D cl0 ws H) (hD : va_D A ws) (hS : va_S A H0 H locs) (hA : ∀ q, H0.size ≤ q → A q) {n : Int32} {N : Nat} (hn : ¬ n < 0) (hN : n.toNatClampNeg = N) (hbytes : N * componentBytes .byte ≤ 536870912) (hcells : cells + 1 ≤ R.cells) (hslots : slots + N ≤ R.slots) (hdg : decode cc pc = .ok (.newarray .byte, 2))
    (kk : ∀ (q : Nat) (H1 : Heap), va_P D cl0 (ws ++ [(q, .inl (k 2, N, .inl (tI [] 0)))]) H1 → va_D A (ws ++ [(q, .inl (k 2, N, .inl (tI [] 0)))]) → va_S A H0 H1 locs → W p l e R s m args below meth c H1 locs (cells + 1) (slots + N) Q (F0 m (pc + 2) ls (.ref q :: rest))) : W p l e R s m args below meth c H locs cells slots Q (F0 m pc ls (.int n :: rest)) :=
  va_newa (atype := .byte) (ty := .byte) (a0 := (N, .inl (tI [] 0))) hx hb (hU _ hin) rfl hK.1 hP hD hS hA (fun cA => rfl) hn hN hbytes hcells hslots hdg (fun q cA H1 h0 h1 h2 h3 => by
    have hc : cA = k 2 := kX.one h0 (i := 2) rfl (fun C h => by cases h)
    subst hc; exact kk q H1 h1 h2 h3)
theorem na_q (hx : p.tables.exec = Jvm.exec) (hb : c.code = cc) {own : String} {index : Nat} (hown : s.vm.findClass own = some m.cls) (hU : ∀ w ∈ uw, w.before args s = true) (hin : Cond.classLink own index "FiniteMatrices$Sheet" ∈ uw) (hK : kX D k s) (hP : va_P D cl0 ws H) (hD : va_D A ws) (hS : va_S A H0 H locs) (hA : ∀ q, H0.size ≤ q → A q) {n : Int32} {N : Nat} (hn : ¬ n < 0) (hN : n.toNatClampNeg = N) (hbytes : N * 4 ≤ 536870912) (hcells : cells + 1 ≤ R.cells) (hslots : slots + N ≤ R.slots) (hdg : decode cc pc = .ok (.anewarray index, 3))
    (kk : ∀ (q : Nat) (H1 : Heap), va_P D cl0 (ws ++ [(q, .inl (k 3, N, .inr (.inr (.inr (.inr (fun _ => none))))))]) H1 → va_D A (ws ++ [(q, .inl (k 3, N, .inr (.inr (.inr (.inr (fun _ => none))))))]) → va_S A H0 H1 locs → W p l e R s m args below meth c H1 locs (cells + 1) (slots + N) Q (F0 m (pc + 3) ls (.ref q :: rest))) : W p l e R s m args below meth c H locs cells slots Q (F0 m pc ls (.int n :: rest)) :=
  va_newq hx hb hown (hU _ hin) hK.2.2.1 hK.1 hP hD hS hA hn hN hbytes hcells hslots hdg (fun q cA H1 h0 h1 h2 h3 => by
    have hc : cA = k 3 := kX.oneO h0
    subst hc; exact kk q H1 h1 h2 h3)
theorem cp_l {own : String} {index nL : Nat} (hx : p.tables.exec = Jvm.exec) (hb : c.code = cc) (hml : c.maxLocals = nL) (hsz : ls.size = nL) (hown : s.vm.findClass own = some m.cls) (hU : ∀ w ∈ uw, w.before args s = true) (hl : Cond.methodLink own index arraycopyName ∈ uw) (hn1 : Cond.native arraycopyName ∈ uw) (hs1 : Cond.static arraycopyName ∈ uw) (hi1 : Cond.initialized "java/lang/System" ∈ uw) (hK : kX D k s) (hP : va_P D cl0 ws H) (hD : va_D A ws) (hS : va_S A H0 H locs) (q0 q1 : Nat) {a0 n0 n1 : Nat} {f g g' : Nat → Int64} (ha0 : ws[q0]? = some (a0, .inl (k 1, n0, .inr (.inl f)))) (ha1 : ws[q1]? = some (a, .inl (k 1, n1, .inr (.inl g))))
    {sp dp n : Int32} (sp' dp' n' : Nat) (h1 : (decide (¬ sp < 0) && decide (¬ dp < 0) && decide (¬ n < 0) && decide (sp.toNatClampNeg = sp') && decide (dp.toNatClampNeg = dp') && decide (n.toNatClampNeg = n') && decide (sp' + n' ≤ n0) && decide (dp' + n' ≤ n1)) = true) (hg : va_cpy f g sp' dp' n' = g')
    (hframes : 1 ≤ R.frames) (hlocals : (rest.map fun v => v.category).sum + (nativeFrameWords "java/lang/System" "arraycopy" 5 + 11) ≤ R.locals) (hdg : decode cc pc = .ok (.invokestatic index, 3))
    (kk : ∀ (H1 : Heap) (locs1 : List Loc), va_P D cl0 (ws.set q1 (a, .inl (k 1, n1, .inr (.inl g')))) H1 → va_D A (ws.set q1 (a, .inl (k 1, n1, .inr (.inl g')))) → va_S A H0 H1 locs1 → W p l e R s m args below meth c H1 locs1 cells slots Q (F0 m (pc + 3) ls rest)) : W p l e R s m args below meth c H locs cells slots Q (F0 m pc ls (.int n :: .int dp :: .ref a :: .int sp :: .ref a0 :: rest)) := by
  simp only [Bool.and_eq_true, decide_eq_true_eq] at h1
  obtain ⟨⟨⟨⟨⟨⟨⟨e1, e2⟩, e3⟩, e4⟩, e5⟩, e6⟩, e7⟩, e8⟩ := h1
  refine va_copyl hx hb (by rw [hml, hsz]) hown (hU _ hl) (hU _ hn1) (hU _ hs1) (hU _ hi1) hK.1 hP hD hS q0 q1 1 1 ha0 ha1 rfl rfl rfl e1 e2 e3 (by rw [e4, e6]; exact e7) (by rw [e5, e6]; exact e8) (fun _ _ => rfl) hframes hlocals hdg (fun H1 l1 h1 h2 h3 => kk H1 l1 ?_ ?_ h3)
  · rw [e4, e5, e6, hg] at h1; exact h1
  · rw [e4, e5, e6, hg] at h2; exact h2
/-- contents may be told anew, where they are the same within the length -/
theorem re_l {q0 n : Nat} {f g : Nat → Int64} (hP : va_P D cl0 ws H) (ha : ws[q0]? = some (a, .inl (k 1, n, .inr (.inl f)))) (h : ∀ j, j < n → f j = g j) : va_P D cl0 (ws.set q0 (a, .inl (k 1, n, .inr (.inl g)))) H := by
  intro i q hq
  have hl := (List.getElem?_eq_some_iff.mp ha).1
  by_cases hi : i = q0
  · subst hi
    rw [List.getElem?_set_self hl] at hq
    cases hq
    have := hP _ _ ha
    show H[a]? = some (vp_cell _ _)
    rw [show H[a]? = some (vp_cell (k 1) (n, .inr (.inl f))) from this]
    simp only [vp_cell_l, arrV]
    congr 2
    congr 1
    funext j
    rw [h j.val j.isLt]
  · rw [List.getElem?_set_ne (Ne.symm hi)] at hq
    exact hP i q hq
theorem re_i {q0 n t : Nat} {f g : Nat → Int32} (hP : va_P D cl0 ws H) (ha : ws[q0]? = some (a, .inl (k t, n, .inl f))) (h : ∀ j, j < n → f j = g j) : va_P D cl0 (ws.set q0 (a, .inl (k t, n, .inl g))) H := by
  intro i q hq
  have hl := (List.getElem?_eq_some_iff.mp ha).1
  by_cases hi : i = q0
  · subst hi
    rw [List.getElem?_set_self hl] at hq
    cases hq
    have := hP _ _ ha
    show H[a]? = some (vp_cell _ _)
    rw [show H[a]? = some (vp_cell (k t) (n, .inl f)) from this]
    simp only [vp_cell_i, arrV]
    congr 2
    congr 1
    funext j
    rw [h j.val j.isLt]
  · rw [List.getElem?_set_ne (Ne.symm hi)] at hq
    exact hP i q hq
end HELP2
/-! orders as whole numbers -/
theorem cv_lt {a b : Int32} {x y : Int} (h : a < b) (ha : a.toInt = x) (hb : b.toInt = y) : x < y := by rw [← ha, ← hb]; exact Int32.lt_iff_toInt_lt.mp h
theorem cv_le {a b : Int32} {x y : Int} (h : a ≤ b) (ha : a.toInt = x) (hb : b.toInt = y) : x ≤ y := by rw [← ha, ← hb]; exact Int32.le_iff_toInt_le.mp h
theorem cv_eq {a b : Int32} {x y : Int} (h : a = b) (ha : a.toInt = x) (hb : b.toInt = y) : x = y := by rw [← ha, ← hb, h]
theorem cv_nlt {a b : Int32} {x y : Int} (h : ¬ a < b) (ha : a.toInt = x) (hb : b.toInt = y) : ¬ x < y := by rw [← ha, ← hb]; exact fun q => h (Int32.lt_iff_toInt_lt.mpr q)
theorem cv_nle {a b : Int32} {x y : Int} (h : ¬ a ≤ b) (ha : a.toInt = x) (hb : b.toInt = y) : ¬ x ≤ y := by rw [← ha, ← hb]; exact fun q => h (Int32.le_iff_toInt_le.mpr q)
theorem cv_ne {a b : Int32} {x y : Int} (h : ¬ a = b) (ha : a.toInt = x) (hb : b.toInt = y) : ¬ x = y := by rw [← ha, ← hb]; exact fun q => h (Int32.toInt_inj.mp q)
theorem dv_lt {a b : Int64} {x y : Int} (h : a < b) (ha : a.toInt = x) (hb : b.toInt = y) : x < y := by rw [← ha, ← hb]; exact Int64.lt_iff_toInt_lt.mp h
theorem dv_le {a b : Int64} {x y : Int} (h : a ≤ b) (ha : a.toInt = x) (hb : b.toInt = y) : x ≤ y := by rw [← ha, ← hb]; exact Int64.le_iff_toInt_le.mp h
theorem dv_eq {a b : Int64} {x y : Int} (h : a = b) (ha : a.toInt = x) (hb : b.toInt = y) : x = y := by rw [← ha, ← hb, h]
theorem dv_nlt {a b : Int64} {x y : Int} (h : ¬ a < b) (ha : a.toInt = x) (hb : b.toInt = y) : ¬ x < y := by rw [← ha, ← hb]; exact fun q => h (Int64.lt_iff_toInt_lt.mpr q)
theorem dv_nle {a b : Int64} {x y : Int} (h : ¬ a ≤ b) (ha : a.toInt = x) (hb : b.toInt = y) : ¬ x ≤ y := by rw [← ha, ← hb]; exact fun q => h (Int64.le_iff_toInt_le.mpr q)
theorem dv_ne {a b : Int64} {x y : Int} (h : ¬ a = b) (ha : a.toInt = x) (hb : b.toInt = y) : ¬ x = y := by rw [← ha, ← hb]; exact fun q => h (Int64.toInt_inj.mp q)
theorem eq32 {a b : Int32} {n : Int} (ha : a.toInt = n) (hb : b.toInt = n) : a = b := Int32.toInt_inj.mp (ha.trans hb.symm)
theorem wd (x : Int32) : x.toInt64.toInt = x.toInt := by simp
