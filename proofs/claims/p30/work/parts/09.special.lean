/-! special kinds: chains of a roll; a row filled exactly -/
def pfI (C : Int) (f : Nat → Int32) : Prop := ∀ j : Nat, (j : Int) < C → -1 ≤ (f j).toInt ∧ (f j).toInt < C
theorem pf_0 {c : ClassId} {n : Nat} : ∀ e, aI c n anI e → aI c n (pfI 0) e := by
  rintro e ⟨f, -, rfl⟩
  exact ⟨f, fun j hj => absurd hj (by omega), rfl⟩
theorem pf_get {C : Int} {v i : Int32} (h : ∃ f, pfI C f ∧ v = f i.toNatClampNeg) (hi : 0 ≤ i.toInt ∧ i.toInt < C) : -1 ≤ v.toInt ∧ v.toInt < C := by
  obtain ⟨f, hf, rfl⟩ := h
  exact hf _ (by have := (tz_cl hi.1).2; omega)
theorem pf_put {C C' : Int} {i x : Int32} (hi : i.toInt = C ∧ C' = C + 1) (hx : -1 ≤ x.toInt ∧ x.toInt < C') : ∀ f, pfI C f → pfI C' (upd f i.toNatClampNeg x) := by
  intro f hf j hj
  by_cases hji : j = i.toNatClampNeg
  · rw [hji, pk_us]; exact hx
  · rw [pk_un hji]
    by_cases h0 : 0 ≤ i.toInt
    · have hc := (tz_cl h0).2
      have := hf j (by omega)
      omega
    · exact absurd hj (by omega)
theorem pf_eq {c : ClassId} {n : Nat} {C C' : Int} (h : C = C') : ∀ e, aI c n (pfI C) e → aI c n (pfI C') e := by
  subst h; exact fun _ h => h
theorem sl_eq {c : ClassId} {n : Nat} {C C' : Int} (h : C = C') : ∀ e, aI c n (rgI (-1) (C - 1)) e → aI c n (rgI (-1) (C' - 1)) e := by
  subst h; exact fun _ h => h
theorem an_I {c : ClassId} {n : Nat} {P : (Nat → Int32) → Prop} : ∀ e, aI c n P e → aI c n anI e := by
  rintro e ⟨f, -, rfl⟩
  exact ⟨f, trivial, rfl⟩
theorem an_J {c : ClassId} {n : Nat} {P : (Nat → Int64) → Prop} : ∀ e, aJ c n P e → aJ c n anJ e := by
  rintro e ⟨f, -, rfl⟩
  exact ⟨f, trivial, rfl⟩
theorem rg_put2 {lo hi hi' : Int} {x : Int32} {i : Nat} (h : lo ≤ x.toInt ∧ x.toInt ≤ hi' ∧ hi ≤ hi') : ∀ f, rgI lo hi f → rgI lo hi' (upd f i x) := by
  intro f hf j
  by_cases hj : j = i
  · rw [hj, pk_us]; omega
  · rw [pk_un hj]; have := hf j; omega
/-- what stands beyond an array's length says nothing -/
theorem TP.re {D : va_G} {A : Nat → Prop} {T : TT} {H : Heap} {k : Nat → ClassId} {q a n t : Nat} {P P' : (Nat → Int32) → Prop} (h : TP D A T H) (hq : T[q]? = some (a, aI (k t) n P)) (hP : ∀ f, P f → ∃ g, P' g ∧ ∀ j, j < n → f j = g j) : TP D A (T.set q (a, aI (k t) n P')) H := by
  obtain ⟨ws, hC, hPw, hD⟩ := h
  obtain ⟨e1, h1, f, hf, rfl⟩ := hC.2 q _ _ hq
  obtain ⟨g, g1, g2⟩ := hP f hf
  exact ⟨_, hC.set hq ⟨g, g1, rfl⟩, re_i (k := k) (t := t) hPw h1 g2, hD.set h1⟩
abbrev Rm_fillX : Room := { frames := 0, cells := 0, slots := 0, locals := 0 }
def upI (v : Int32) (i : Int) (f : Nat → Int32) : Prop := ∀ q : Nat, (q : Int) < i → f q = v
abbrev B_fillX (D : va_G) (k : Nat → ClassId) (h0 n : Nat) (v : Int32) (A : Nat → Prop) (H : Heap) : Prop := TP D A [(h0, aI (k 0) n (rgI v.toInt v.toInt))] H
set_option maxHeartbeats 4000000 in
set_option maxRecDepth 100000 in
theorem c_fillX (l : Launch) (D : va_G) (k : Nat → ClassId) (sz : Nat) (h0 n : Nat) (v : Int32) (hn : n < 2 ^ 31) : Met l yJ7_fill_53178 (Cond.code yJ7_fill_53178 cJ7_fill_53178 4 none :: uw) Rm_fillX (pT D k sz [.ref h0, .int v] [(h0, aI (k 0) n anI)]) (qV (B_fillX D k h0 n v (zA [h0] sz)) (zA [h0] sz)) 0 0 (zA [h0] sz) := by
  refine tz_begin (as := [h0]) (Qc := fun A => qV (B_fillX D k h0 n v A) A) (by decide +kernel) rfl (Nat.le_of_ble_eq_true rfl) ?_
  intro p e s m args below meth c ls A Q hx hb hr hml hown hlocks hin hU hK hT hS hA hl hQ
  have hl : lv_has ls 4 [(0, .ref h0), (1, .int v)] := hl
  have hT : TP D A [(h0, aI (k 0) n anI)] s.heap := hT
  have hnI : (nI n).toInt = (n : Int) := nI_toInt hn
  have lp : ∀ (j : Nat) (i : Int32) (H : Heap) (locs : List Loc) (ls : Array Slot), (0 ≤ i.toInt ∧ i.toInt + j = n) → TP D A [(h0, aI (k 0) n (upI v i.toInt))] H → va_S A s.heap H locs → lv_has ls 4 [(2, .int i), (3, .int (nI n)), (0, .ref h0), (1, .int v)] → W p l e Rm_fillX s m args below meth c H locs 0 0 Q (F0 m 5 ls []) := by
    intro j
    induction j with
    | zero =>
      intro i H locs ls hi hT hS hl
      refine lv_iload_n hx hb dJ7_fill_53178_5 rfl (lv_at hl 0 rfl) ?_
      refine lv_iload_n hx hb dJ7_fill_53178_6 rfl (lv_at hl 1 rfl) ?_
      refine lv_icmp_ge (tgt := 20) hx hb dJ7_fill_53178_7 (by decide) (fun c1 => ?_) (fun c1 => ?_)
      · have hT := hT.re (q := 0) (P' := rgI v.toInt v.toInt) rfl (fun f hf => ⟨fun _ => v, fun _ => ⟨Int.le_refl _, Int.le_refl _⟩, fun j hj => hf j (by omega)⟩)
        exact tz_retV (B := B_fillX D k h0 n v) hQ hx hb hr hlocks hS (Nat.le_refl _) (Nat.le_refl _) dJ7_fill_53178_20 hT
      · have c1 := ni_nle c1 hnI rfl
        exfalso; omega
    | succ j ih =>
      intro i H locs ls hi hT hS hl
      refine lv_iload_n hx hb dJ7_fill_53178_5 rfl (lv_at hl 0 rfl) ?_
      refine lv_iload_n hx hb dJ7_fill_53178_6 rfl (lv_at hl 1 rfl) ?_
      refine lv_icmp_ge (tgt := 20) hx hb dJ7_fill_53178_7 (by decide) (fun c1 => ?_) (fun c1 => ?_)
      · have c1 := ni_le c1 hnI rfl
        exfalso; omega
      · refine lv_aload_n hx hb dJ7_fill_53178_10 rfl (lv_at hl 2 rfl) ?_
        refine lv_iload_n hx hb dJ7_fill_53178_11 rfl (lv_at hl 0 rfl) ?_
        refine lv_iload_n hx hb dJ7_fill_53178_12 rfl (lv_at hl 3 rfl) ?_
        obtain ⟨i2, e2⟩ : ∃ x : Int32, x = i + Int32.ofInt 1 := ⟨_, rfl⟩
        have f2 := e2.symm
        have e2 : i2.toInt = i.toInt + 1 := ai_add e2 rfl (show (Int32.ofInt 1).toInt = 1 from (by decide +kernel)) (by omega)
        refine tz_iastP hx hb hK hT hS 0 (upI v i2.toInt) rfl (by omega) (fun f hf q hq => ?_) dJ7_fill_53178_13 (fun H locs hT hS => ?_)
        · have hc := (tz_cl hi.1).2
          by_cases hqi : q = i.toNatClampNeg
          · rw [hqi]; exact pk_us
          · rw [pk_un hqi]; exact hf q (by omega)
        have hT : TP D A [(h0, aI (k 0) n (upI v i2.toInt))] H := hT
        refine lv_iinc (v := i2) (lv' := [(2, .int i2), (3, .int (nI n)), (0, .ref h0), (1, .int v)]) hx hb dJ7_fill_53178_14 hl (k := 0) rfl f2 (by decide) rfl (fun ls hl => ?_)
        refine lv_goto (tgt := 5) hx hb dJ7_fill_53178_17 (by decide) ?_
        exact ih i2 H locs ls (by omega) hT hS hl
  have hT := hT.wk (q := 0) (P' := aI (k 0) n (upI v 0)) rfl (by rintro e ⟨f, -, rfl⟩; exact ⟨f, fun q hq => absurd hq (by omega), rfl⟩)
  refine lv_iconst (v := 0) hx hb dJ7_fill_53178_0 (by decide) ?_
  refine lv_istore_n (lv' := [(2, .int 0), (0, .ref h0), (1, .int v)]) hx hb dJ7_fill_53178_1 rfl hl (by decide) rfl (fun ls hl => ?_)
  refine lv_aload_n hx hb dJ7_fill_53178_2 rfl (lv_at hl 1 rfl) ?_
  refine tz_aleni (v := nI n) hx hb hK hT 0 rfl rfl dJ7_fill_53178_3 ?_
  refine lv_istore_n (lv' := [(3, .int (nI n)), (2, .int 0), (0, .ref h0), (1, .int v)]) hx hb dJ7_fill_53178_4 rfl hl (by decide) rfl (fun ls hl => ?_)
  exact lp n 0 _ _ ls (by have : (0 : Int32).toInt = 0 := rfl; omega) hT hS (lv_sub hl [1, 0, 2, 3] rfl)
/-! the static rows of Polynomials -/
def fd0 : Nat → Int32 := fun j => [0, 1, 1, 2, 2, 0, 2].getD j 0
def fd1 : Nat → Int32 := fun j => [0, -1, 1, 1, 1, 0, 1].getD j 0
def fd2 : Nat → Int32 := fun j => [0, 1, 1, 1, 0, 0, -1].getD j 0
theorem fd0_rg (j : Nat) : 0 ≤ (fd0 j).toInt ∧ (fd0 j).toInt ≤ 2 := by
  match j with
  | 0 | 1 | 2 | 3 | 4 | 5 | 6 => decide +kernel
  | j + 7 => exact (show 0 ≤ (0 : Int32).toInt ∧ (0 : Int32).toInt ≤ 2 by decide +kernel)
def Zs (t0 t1 t2 : Nat) (A : Nat → Prop) (U : State) (H : Heap) : Prop := (va_Z RX3 "FACTOR_DEGREE" "[I" (.ref t0) A U H ∧ va_T .int t0 7 (fun j => .int (fd0 j)) A U H) ∧ (va_Z RX3 "FACTOR_OF_ONE" "[I" (.ref t1) A U H ∧ va_T .int t1 7 (fun j => .int (fd1 j)) A U H) ∧ (va_Z RX3 "FACTOR_OF_X" "[I" (.ref t2) A U H ∧ va_T .int t2 7 (fun j => .int (fd2 j)) A U H)
theorem Zs.moved {t0 t1 t2 : Nat} {A : Nat → Prop} {u U : State} {H : Heap} (hvm : u.vm.Alike U.vm) (h : Zs t0 t1 t2 A u H) : Zs t0 t1 t2 A U H :=
  ⟨⟨h.1.1.moved hvm, h.1.2.moved hvm⟩, ⟨h.2.1.1.moved hvm, h.2.1.2.moved hvm⟩, ⟨h.2.2.1.moved hvm, h.2.2.2.moved hvm⟩⟩
theorem Zs.kept {t0 t1 t2 : Nat} {A : Nat → Prop} {U : State} {H H1 : Heap} (h : Zs t0 t1 t2 A U H) (hq : ∀ a : Nat, a < H.size → ¬ A a → H1[a]? = H[a]?) : Zs t0 t1 t2 A U H1 :=
  ⟨⟨h.1.1.kept hq, h.1.2.kept hq⟩, ⟨h.2.1.1.kept hq, h.2.1.2.kept hq⟩, ⟨h.2.2.1.kept hq, h.2.2.2.kept hq⟩⟩
theorem Zs.narrow {t0 t1 t2 : Nat} {A B : Nat → Prop} {U : State} {H : Heap} (h : Zs t0 t1 t2 A U H) (hAB : ∀ q, B q → A q) : Zs t0 t1 t2 B U H :=
  ⟨⟨h.1.1.narrow hAB, h.1.2.narrow hAB⟩, ⟨h.2.1.1.narrow hAB, h.2.1.2.narrow hAB⟩, ⟨h.2.2.1.narrow hAB, h.2.2.2.narrow hAB⟩⟩
def pTs (D : va_G) (k : Nat → ClassId) (t0 t1 t2 : Nat) (as : List Nat) (sz : Nat) (av : List Value) (T : TT) : Array Value → State → Prop := va_Pc av (fun U => U.heap.size = sz ∧ TP D (fun _ => True) T U.heap ∧ kX D k U ∧ Zs t0 t1 t2 (zA as sz) U U.heap)
theorem pTs.blind {D : va_G} {k : Nat → ClassId} {t0 t1 t2 : Nat} {as : List Nat} {sz : Nat} {av : List Value} {T : TT} : FrameBlind (pTs D k t0 t1 t2 as sz av T) := fun a U g mk q => by
  obtain ⟨q0, q1, qP, qK, qZ⟩ := q
  exact ⟨q0, q1, qP, qK.calling g mk a, qZ.moved (u := U) (U := U.calling g mk a) (Vm.Alike.refl U.vm)⟩
theorem tz_beginS {l : Launch} {y : MethodName} {cc : ByteArray} {maxL : Nat} {ret : Option FieldType} {rm : Room} {D : va_G} {k : Nat → ClassId} {t0 t1 t2 : Nat} {sz : Nat} {av : List Value} {T : TT} {as : List Nat} {Qc : (Nat → Prop) → Array Value → State → Outcome → State → Prop} {mc ms : Nat}
    (hy : plainName y.cls = true) (has : T.map Prod.fst = as) (hlen : (lg_sl av).length ≤ maxL)
    (body : ∀ (p : Program) (e : Env) (s : State) (m : MethodId) (args : Array Value) (below : List Frame) (meth : Method) (c : Code) (ls : Array Slot) (A : Nat → Prop) (Q : State → Prop), p.tables.exec = Jvm.exec → c.code = cc → meth.sig.returnType = ret → c.maxLocals = maxL → s.vm.findClass y.cls = some m.cls → meth.locks = false → meth.name = y.name → (∀ w ∈ uw, w.before args s = true) → kX D k s → TP D A T s.heap → va_S A s.heap s.heap [] → (∀ q, s.heap.size ≤ q → A q) → lv_has ls maxL (lv_args 0 av) → Q = MQ below (Qc A) args s mc ms A → Zs t0 t1 t2 A s s.heap →
      W p l e rm s m args below meth c s.heap [] 0 0 Q (F0 m 0 ls [])) :
    Met l y (Cond.code y cc maxL ret :: uw) rm (pTs D k t0 t1 t2 as sz av T) (Qc (zA as sz)) mc ms (zA as sz) := by
  refine Met.ofW (cc := cc) (maxL := maxL) (ret := ret) hy rfl ?_
  intro p e s m args below meth c s₁ B hml hv
  obtain ⟨rfl, hsz, hT, hK, hZ⟩ := hv
  subst hsz
  subst has
  have hts := atoms_spec (ws := Cond.code y cc maxL ret :: uw) B.pre
  rw [lg_entry_eq]
  exact body p e s m _ below meth c _ _ _ B.exec B.bytes B.returns hml (findClass_of_methodNamed B.named) B.notSynchronized (name_of_methodNamed B.named B.method).1 (fun w h => hts w (List.mem_cons_of_mem _ h)) hK (hT.weaken (fun a ha _ => Or.inl ha)) va_S.rf (fun q h => Or.inr h) (lv_entry av hlen) rfl hZ
section TZS
variable {p : Program} {l : Launch} {e : Env} {R : Room} {s : State} {m : MethodId} {args : Array Value} {below : List Frame} {meth : Method} {c : Code} {H : Heap} {locs : List Loc} {cells slots : Nat} {Q : State → Prop} {cc : ByteArray} {pc : Nat} {ls : Array Slot} {rest : List Value} {D : va_G} {k : Nat → ClassId} {T : TT} {A : Nat → Prop} {a : Nat} {t0 t1 t2 : Nat}
variable {y : MethodName} {bytes : ByteArray} {maxL nL mc ms index : Nat} {ret : Option FieldType} {rm : Room} {own : String} {As st0 : List Value} {Tc Tr : TT} {Qc : Array Value → State → Outcome → State → Prop} {free : Addr → Prop} {as : List Nat}
theorem tPreS (hK : kX D k s) (hT : TP D A T H) (hZ : Zs t0 t1 t2 A s s.heap) (hS : va_S A s.heap H locs) (hA : ∀ q, s.heap.size ≤ q → A q) (isC : List Nat) (hC : isC.map (fun i => T[i]?) = Tc.map some) (has : Tc.map Prod.fst = as) (hnC : va_nd isC = true) : FrameBlind (pTs D k t0 t1 t2 as H.size As Tc) ∧ ∀ U : State, U.heap = H → s.WarmedH U.vm → pTs D k t0 t1 t2 as H.size As Tc As.toArray U :=
  ⟨pTs.blind, fun U hU hW => ⟨rfl, by rw [hU], by rw [hU]; exact (hT.sub isC hnC hC).weaken (fun _ _ _ => trivial), hK.warm hW, by
    rw [hU]
    exact ((hZ.kept (fun a h1 h2 => hS.2.1 a h1 h2)).narrow (tz_free hT hS hA isC hC has)).moved hW.alike⟩⟩
theorem zcSs (hx : p.tables.exec = Jvm.exec) (hb : c.code = cc) (hml : c.maxLocals = nL) (hown : s.vm.findClass own = some m.cls) (hU : ∀ w ∈ uw, w.before args s = true) (hK : kX D k s) (hT : TP D A T H) (hZ : Zs t0 t1 t2 A s s.heap) (hS : va_S A s.heap H locs) (hA : ∀ q, s.heap.size ≤ q → A q) (isC : List Nat) (hC : isC.map (fun i => T[i]?) = Tc.map some) (has : Tc.map Prod.fst = as) (hnC : va_nd isC = true)
    (hM : Met l y (Cond.code y bytes maxL ret :: uw) rm (pTs D k t0 t1 t2 as H.size As Tc) Qc mc ms free) (hcode : Cond.code y bytes maxL ret ∈ uw) (hlink : Cond.methodLink own index y ∈ uw) (hst : Cond.static y ∈ uw) (hini : Cond.initialized y.cls ∈ uw)
    (hd : y.cls ≠ "java/lang/invoke/MethodHandle" ∧ y.cls ≠ "java/lang/invoke/VarHandle" ∧ (parseMethodDescriptor y.desc).map (fun d => d.parameters.length) = some As.length) (hrm : rm.cells = mc ∧ rm.slots = ms) (hR : rm.frames + 1 ≤ R.frames ∧ 8 + (maxL + 11) + rm.locals ≤ R.locals)
    (hs0 : st0 = As.reverse ++ rest) (hsize : ls.size = nL) (hroom : (rest.map fun v => v.category).sum ≤ 8) (hdg : decode cc pc = .ok (.invokestatic index, 3)) (hf : cells + mc ≤ R.cells ∧ slots + ms ≤ R.slots) :
    va_Run p l e R s m args below meth c H locs cells slots mc ms (F0 m pc ls st0) rest (Qc As.toArray) free :=
  va_runS ⟨hx, hb, hml, hown, hU⟩ hM ⟨callB_of As.length hU (uw_good hcode) rfl hrm.1 hrm.2 (hU _ hini) (hU _ hlink) hd hR, hU _ hst⟩ (tPreS hK hT hZ hS hA isC hC has hnC) rfl rfl hsize hs0 (lv_room hroom) hdg hf
theorem zcVs {b ci q0 : Nat} {q : vw_C} {fs : List Value} (hx : p.tables.exec = Jvm.exec) (hb : c.code = cc) (hml : c.maxLocals = nL) (hown : s.vm.findClass own = some m.cls) (hU : ∀ w ∈ uw, w.before args s = true) (hK : kX D k s) (hT : TP D A T H) (hZ : Zs t0 t1 t2 A s s.heap) (hS : va_S A s.heap H locs) (hA : ∀ q, s.heap.size ≤ q → A q) (hcl : cl0[ci]? = some q) (he : T[q0]? = some (b, ob ci fs)) (isC : List Nat) (hC : isC.map (fun i => T[i]?) = Tc.map some) (has : Tc.map Prod.fst = as) (hnC : va_nd isC = true)
    (hM : Met l y (Cond.code y bytes maxL ret :: uw) rm (pTs D k t0 t1 t2 as H.size (.ref b :: As) Tc) Qc mc ms free) (hcode : Cond.code y bytes maxL ret ∈ uw) (hlink : Cond.methodLink own index y ∈ uw) (hst : Cond.instanceMethod y ∈ uw) (hsel : Cond.selects q.1 y y ∈ uw) (hini : Cond.initialized y.cls ∈ uw)
    (hd : y.cls ≠ "java/lang/invoke/MethodHandle" ∧ y.cls ≠ "java/lang/invoke/VarHandle" ∧ (parseMethodDescriptor y.desc).map (fun d => d.parameters.length) = some As.length) (hrm : rm.cells = mc ∧ rm.slots = ms) (hR : rm.frames + 1 ≤ R.frames ∧ 8 + (maxL + 11) + rm.locals ≤ R.locals)
    (hs0 : st0 = As.reverse ++ .ref b :: rest) (hsize : ls.size = nL) (hroom : (rest.map fun v => v.category).sum ≤ 8) (hdg : decode cc pc = .ok (.invokevirtual index, 3)) (hf : cells + mc ≤ R.cells ∧ slots + ms ≤ R.slots) :
    va_Run p l e R s m args below meth c H locs cells slots mc ms (F0 m pc ls st0) rest (Qc (Value.ref b :: As).toArray) free :=
  va_runV ⟨hx, hb, hml, hown, hU⟩ hM ⟨callB_of As.length hU (uw_good hcode) rfl hrm.1 hrm.2 (hU _ hini) (hU _ hlink) hd hR, hU _ hst, hU _ hsel⟩ ⟨(tPreS (As := .ref b :: As) hK hT hZ hS hA isC hC has hnC).1, tRecv hK hT hcl he, (tPreS (As := .ref b :: As) hK hT hZ hS hA isC hC has hnC).2⟩ rfl rfl hsize hs0 (lv_room hroom) hdg hf
theorem tz_ti {f : Nat → Int32} {t : Nat} (hx : p.tables.exec = Jvm.exec) (hb : c.code = cc) (hT : va_T .int t 7 (fun j => .int (f j)) A s s.heap) (hS : va_S A s.heap H locs) {i : Int32} (hin : 0 ≤ i.toInt ∧ i.toInt < 7) (hdg : decode cc pc = .ok (.iaload, 1))
    (kk : ∀ v : Int32, v = f i.toNatClampNeg → W p l e R s m args below meth c H locs cells slots Q (F0 m (pc + 1) ls (.int v :: rest))) : W p l e R s m args below meth c H locs cells slots Q (F0 m pc ls (.int i :: .ref t :: rest)) :=
  va_ti hx hb hT hS (vp_in_iff.mpr hin) rfl hdg (kk _ rfl)
end TZS
/-! the reference's orbit and round -/
def gtP (om m cl : Int) (f : Nat → Int32) : Prop := cl = 1 → ∀ a c : Nat, (a : Int) < m → (c : Int) < om → 0 ≤ (f (60 * a + c)).toInt ∧ (f (60 * a + c)).toInt < om
def gqP (om m cl k g : Int) (f : Nat → Int32) : Prop := cl = 1 → ∀ a c : Nat, (a : Int) < m → (c : Int) < om → ((c : Int) < k ∨ ((c : Int) = k ∧ (a : Int) < g)) → 0 ≤ (f (60 * a + c)).toInt ∧ (f (60 * a + c)).toInt < om
def gqT (om m cl k g x : Int) (f : Nat → Int32) : Prop := gqP om m cl k g f ∧ ∀ a c : Nat, (a : Int) = g → (c : Int) = k → (f (60 * a + c)).toInt = x
theorem gq_0 {c : ClassId} {n : Nat} {P : (Nat → Int32) → Prop} {om m cl k g : Int} (h : k = 0 ∧ g = 0) : ∀ e, aI c n P e → aI c n (gqP om m cl k g) e := by
  rintro e ⟨f, -, rfl⟩
  exact ⟨f, fun _ a c _ _ hc => by exfalso; omega, rfl⟩
theorem gq_next {c : ClassId} {n : Nat} {om m cl cl' k g k' g' : Int} (h : m ≤ g ∧ k' = k + 1 ∧ g' = 0 ∧ cl = cl') : ∀ e, aI c n (gqP om m cl k g) e → aI c n (gqP om m cl' k' g') e := by
  rintro e ⟨f, hf, rfl⟩
  exact ⟨f, fun h1 a c h2 h3 hc => hf (by omega) a c h2 h3 (by omega), rfl⟩
theorem gq_same {c : ClassId} {n : Nat} {om m cl cl' k g k' g' : Int} (h : k' = k ∧ g' = g ∧ (cl' = 1 → cl = 1)) : ∀ e, aI c n (gqP om m cl k g) e → aI c n (gqP om m cl' k' g') e := by
  rintro e ⟨f, hf, rfl⟩
  exact ⟨f, fun h1 a c h2 h3 hc => hf (h.2.2 h1) a c h2 h3 (by omega), rfl⟩
theorem gq_end {c : ClassId} {n : Nat} {om m cl k g : Int} (h : om ≤ k) : ∀ e, aI c n (gqP om m cl k g) e → aI c n (gtP om m cl) e := by
  rintro e ⟨f, hf, rfl⟩
  exact ⟨f, fun h1 a c h2 h3 => hf h1 a c h2 h3 (by omega), rfl⟩
theorem gq_put {om m cl k g : Int} {i x : Int32} (h : i.toInt = 60 * g + k ∧ 0 ≤ g ∧ 0 ≤ k ∧ k < om ∧ om ≤ 60) : ∀ f, gqP om m cl k g f → gqT om m cl k g x.toInt (upd f i.toNatClampNeg x) := by
  intro f hf
  have hc := (tz_cl (show 0 ≤ i.toInt by omega)).2
  refine ⟨fun h1 a c h2 h3 h4 => ?_, fun a c h2 h3 => ?_⟩
  · rw [pk_un (by omega)]; exact hf h1 a c h2 h3 h4
  · rw [show 60 * a + c = i.toNatClampNeg by omega, pk_us]
theorem gq_step {c : ClassId} {n : Nat} {om m cl cl' k g k' g' x : Int} (h : k' = k ∧ g' = g + 1 ∧ (cl' = 1 → cl = 1 ∧ 0 ≤ x ∧ x < om)) : ∀ e, aI c n (gqT om m cl k g x) e → aI c n (gqP om m cl' k' g') e := by
  rintro e ⟨f, hf, rfl⟩
  refine ⟨f, fun h1 a c h2 h3 hc => ?_, rfl⟩
  have h4 := h.2.2 h1
  by_cases hh : (c : Int) = k ∧ (a : Int) = g
  · rw [hf.2 a c hh.2 hh.1]; omega
  · exact hf.1 h4.1 a c h2 h3 (by omega)
theorem gt_get {om m cl r c : Int} {v i : Int32} (h : ∃ f, gtP om m cl f ∧ v = f i.toNatClampNeg) (hi : i.toInt = 60 * r + c ∧ cl = 1 ∧ 0 ≤ r ∧ r < m ∧ 0 ≤ c ∧ c < om) : 0 ≤ v.toInt ∧ v.toInt < om := by
  obtain ⟨f, hf, rfl⟩ := h
  have hc := (tz_cl (show 0 ≤ i.toInt by omega)).2
  rw [show i.toNatClampNeg = 60 * r.toNat + c.toNat by omega]
  exact hf hi.2.1 _ _ (by omega) (by omega)
def plP (om n k : Int) (f : Nat → Int32) : Prop := ∀ r c : Nat, (c : Int) < om → ((r : Int) < n ∨ ((r : Int) = n ∧ (c : Int) < k)) → 0 ≤ (f (60 * r + c)).toInt ∧ (f (60 * r + c)).toInt < om
theorem pl_0 {c : ClassId} {n : Nat} {P : (Nat → Int32) → Prop} {om N k : Int} (h : N = 0 ∧ k = 0) : ∀ e, aI c n P e → aI c n (plP om N k) e := by
  rintro e ⟨f, -, rfl⟩
  exact ⟨f, fun r c _ hc => by exfalso; omega, rfl⟩
/-- a row is through, or fewer rows are told of -/
theorem pl_cv {c : ClassId} {n : Nat} {om N k N' k' : Int} (h : (N' = N ∧ k' ≤ k) ∨ (N' = N + 1 ∧ om ≤ k ∧ k' ≤ 0) ∨ (N' < N ∧ k' ≤ 0)) : ∀ e, aI c n (plP om N k) e → aI c n (plP om N' k') e := by
  rintro e ⟨f, hf, rfl⟩
  exact ⟨f, fun r c h1 h2 => hf r c h1 (by omega), rfl⟩
theorem pl_put {om N k k' : Int} {i x : Int32} (h : i.toInt = 60 * N + k ∧ 0 ≤ N ∧ 0 ≤ k ∧ k < om ∧ om ≤ 60 ∧ k' = k + 1 ∧ 0 ≤ x.toInt ∧ x.toInt < om) : ∀ f, plP om N k f → plP om N k' (upd f i.toNatClampNeg x) := by
  intro f hf r c h1 h2
  have hc := (tz_cl (show 0 ≤ i.toInt by omega)).2
  by_cases hh : 60 * r + c = i.toNatClampNeg
  · rw [hh, pk_us]; omega
  · rw [pk_un hh]; exact hf r c h1 (by omega)
theorem pl_get {om N k r c : Int} {v i : Int32} (h : ∃ f, plP om N k f ∧ v = f i.toNatClampNeg) (hi : i.toInt = 60 * r + c ∧ 0 ≤ r ∧ 0 ≤ c ∧ c < om ∧ (r < N ∨ (r = N ∧ c < k))) : 0 ≤ v.toInt ∧ v.toInt < om := by
  obtain ⟨f, hf, rfl⟩ := h
  have hc := (tz_cl (show 0 ≤ i.toInt by omega)).2
  rw [show i.toNatClampNeg = 60 * r.toNat + c.toNat by omega]
  exact hf _ _ (by omega) (by omega)
/-! the reference's list and form -/
def b9P (f : Nat → Int64) : Prop := ∀ j : Nat, j < 9 → -1000000000 ≤ (f j).toInt ∧ (f j).toInt ≤ 1000000000
def idP (f : Nat → Int64) : Prop := b9P f ∧ (f 0).toInt = 1
def l0P (f : Nat → Int64) : Prop := ∀ j : Nat, -1000000000 ≤ (f j).toInt ∧ (f j).toInt ≤ 1000000000
def l1P (f : Nat → Int64) : Prop := l0P f ∧ (f 0).toInt = 1
def lsP (L : Int) (f : Nat → Int64) : Prop := l0P f ∧ (L = 1 → (f 0).toInt = 1)
def lkP (k : Int) (f : Nat → Int64) : Prop := l0P f ∧ (1 ≤ k → (f 0).toInt = 1)
def zkP (k : Int) (f : Nat → Int64) : Prop := ∀ j : Nat, (j : Int) < k → f j = 0
def z9P (f : Nat → Int64) : Prop := ∀ j : Nat, j < 9 → f j = 0
def fiP (i : Int) (f : Nat → Int64) : Prop := (∀ j : Nat, j < 9 → 0 ≤ (f j).toInt ∧ (f j).toInt ≤ 1) ∧ (1 ≤ i → (f 0).toInt = 1)
def bkP (s k : Int) (f : Nat → Int64) : Prop := s = 0 → ∀ j : Nat, (j : Int) < k → -1000000000 ≤ (f j).toInt ∧ (f j).toInt ≤ 1000000000
def ekP (z k : Int) (f : Nat → Int64) : Prop := (∀ j : Nat, (j : Int) < k → -1000000000 ≤ (f j).toInt ∧ (f j).toInt ≤ 1000000000) ∧ (z = 1 → 1 ≤ k → (f 0).toInt = 1)
def oP (F s : Int) (f : Nat → Int64) : Prop := F = 1 → 0 ≤ (f 0).toInt ∧ (1 ≤ s → 1 ≤ (f 0).toInt)
def f1P (f : Nat → Int64) : Prop := 1 ≤ (f 0).toInt
def rdJ (P : (Nat → Int64) → Prop) (i : Int32) (v : Int64) (f : Nat → Int64) : Prop := P f ∧ f i.toNatClampNeg = v
theorem mapJ {c : ClassId} {n : Nat} {P P' : (Nat → Int64) → Prop} (h : ∀ f, P f → P' f) : ∀ e, aJ c n P e → aJ c n P' e := by
  rintro e ⟨f, hf, rfl⟩
  exact ⟨f, h f hf, rfl⟩
theorem cv_ls_l0 {c : ClassId} {n : Nat} {L : Int} : ∀ e, aJ c n (lsP L) e → aJ c n l0P e := mapJ fun _ h => h.1
theorem cv_l1_ls {c : ClassId} {n : Nat} {L : Int} : ∀ e, aJ c n l1P e → aJ c n (lsP L) e := mapJ fun _ h => ⟨h.1, fun _ => h.2⟩
theorem cv_l0_lk {c : ClassId} {n : Nat} {k : Int} (h : k ≤ 0) : ∀ e, aJ c n l0P e → aJ c n (lkP k) e := mapJ fun _ hf => ⟨hf, fun q => by exfalso; omega⟩
theorem cv_lk_lk {c : ClassId} {n : Nat} {k k' : Int} (h : k' = k) : ∀ e, aJ c n (lkP k) e → aJ c n (lkP k') e := by subst h; exact fun _ q => q
theorem cv_lk_l1 {c : ClassId} {n : Nat} {k : Int} (h : 1 ≤ k) : ∀ e, aJ c n (lkP k) e → aJ c n l1P e := mapJ fun _ hf => ⟨hf.1, hf.2 h⟩
theorem cv_zk_0 {c : ClassId} {n : Nat} {P : (Nat → Int64) → Prop} {k : Int} (h : k ≤ 0) : ∀ e, aJ c n P e → aJ c n (zkP k) e := mapJ fun _ _ j hj => by exfalso; omega
theorem cv_zk_zk {c : ClassId} {n : Nat} {k k' : Int} (h : k' = k) : ∀ e, aJ c n (zkP k) e → aJ c n (zkP k') e := by subst h; exact fun _ q => q
theorem cv_zk_z9 {c : ClassId} {n : Nat} {k : Int} (h : 9 ≤ k) : ∀ e, aJ c n (zkP k) e → aJ c n z9P e := mapJ fun _ hf j hj => hf j (by omega)
theorem cv_z9_fi {c : ClassId} {n : Nat} {i : Int} (h : i ≤ 0) : ∀ e, aJ c n z9P e → aJ c n (fiP i) e := mapJ fun f hf => ⟨fun j hj => by rw [hf j hj]; decide +kernel, fun q => by exfalso; omega⟩
theorem cv_fi_fi {c : ClassId} {n : Nat} {i i' : Int} (h : i' = i) : ∀ e, aJ c n (fiP i) e → aJ c n (fiP i') e := by subst h; exact fun _ q => q
theorem cv_fi_id {c : ClassId} {n : Nat} {i : Int} (h : 1 ≤ i) : ∀ e, aJ c n (fiP i) e → aJ c n idP e := mapJ fun _ hf => ⟨fun j hj => by have := hf.1 j hj; omega, hf.2 h⟩
theorem cv_bk_0 {c : ClassId} {n : Nat} {P : (Nat → Int64) → Prop} {s k : Int} (h : k ≤ 0) : ∀ e, aJ c n P e → aJ c n (bkP s k) e := mapJ fun _ _ _ j hj => by exfalso; omega
theorem cv_bk_bk {c : ClassId} {n : Nat} {s k s' k' : Int} (h : s' ≠ 0 ∨ (s' = s ∧ k' = k)) : ∀ e, aJ c n (bkP s k) e → aJ c n (bkP s' k') e := mapJ fun _ hf q j hj => hf (by omega) j (by omega)
theorem cv_bk_rd {c : ClassId} {n : Nat} {s k s' k' : Int} {i : Int32} {v : Int64} (h : i.toInt = k ∧ 0 ≤ k ∧ k' = k + 1 ∧ (s' = 0 → s = 0 ∧ -1000000000 ≤ v.toInt ∧ v.toInt ≤ 1000000000)) : ∀ e, aJ c n (rdJ (bkP s k) i v) e → aJ c n (bkP s' k') e := mapJ fun f hf q j hj => by
  have h4 := h.2.2.2 q
  have hc := (tz_cl (show 0 ≤ i.toInt by omega)).2
  by_cases hji : j = i.toNatClampNeg
  · rw [hji, hf.2]; exact h4.2
  · exact hf.1 h4.1 j (by omega)
theorem cv_bk_b9 {c : ClassId} {n : Nat} {s k : Int} (h : s = 0 ∧ 9 ≤ k) : ∀ e, aJ c n (bkP s k) e → aJ c n b9P e := mapJ fun _ hf j hj => hf h.1 j (by omega)
theorem cv_ek_0 {c : ClassId} {n : Nat} {P : (Nat → Int64) → Prop} {z k : Int} (h : k ≤ 0) : ∀ e, aJ c n P e → aJ c n (ekP z k) e := mapJ fun _ _ => ⟨fun j hj => by exfalso; omega, fun _ q => by exfalso; omega⟩
theorem cv_ek_ek {c : ClassId} {n : Nat} {z k k' : Int} (h : k' = k) : ∀ e, aJ c n (ekP z k) e → aJ c n (ekP z k') e := by subst h; exact fun _ q => q
theorem cv_ek_b9 {c : ClassId} {n : Nat} {z k : Int} (h : 9 ≤ k) : ∀ e, aJ c n (ekP z k) e → aJ c n b9P e := mapJ fun _ hf j hj => hf.1 j (by omega)
theorem cv_ek_id {c : ClassId} {n : Nat} {z k : Int} (h : 9 ≤ k ∧ z = 1) : ∀ e, aJ c n (ekP z k) e → aJ c n idP e := mapJ fun _ hf => ⟨fun j hj => hf.1 j (by omega), hf.2 h.2 (by omega)⟩
theorem cv_z9_o {c : ClassId} {n : Nat} {F s : Int} (h : s ≤ 0) : ∀ e, aJ c n z9P e → aJ c n (oP F s) e := mapJ fun f hf _ => by
  rw [hf 0 (by decide)]
  exact ⟨by decide +kernel, fun q => by exfalso; omega⟩
theorem cv_o_o {c : ClassId} {n : Nat} {F s F' s' : Int} (h : (F' = 1 → F = 1) ∧ (1 ≤ s' → 1 ≤ s)) : ∀ e, aJ c n (oP F s) e → aJ c n (oP F' s') e := mapJ fun _ hf q => ⟨(hf (h.1 q)).1, fun z => (hf (h.1 q)).2 (h.2 z)⟩
theorem cv_o_f1 {c : ClassId} {n : Nat} {F s : Int} (h : F = 1 ∧ 1 ≤ s) : ∀ e, aJ c n (oP F s) e → aJ c n f1P e := mapJ fun _ hf => (hf h.1).2 h.2
theorem cv_rd {c : ClassId} {n : Nat} {P : (Nat → Int64) → Prop} {i : Int32} {v : Int64} : ∀ e, aJ c n (rdJ P i v) e → aJ c n P e := mapJ fun _ h => h.1
theorem ls_get {L : Int} {v : Int64} {i : Int32} (h : ∃ f, lsP L f ∧ v = f i.toNatClampNeg) : (-1000000000 ≤ v.toInt ∧ v.toInt ≤ 1000000000) ∧ (L = 1 → i.toInt = 0 → v.toInt = 1) := by
  obtain ⟨f, hf, rfl⟩ := h
  refine ⟨hf.1 _, fun h1 h2 => ?_⟩
  rw [cl_of (z := 0) h2]; exact hf.2 h1
theorem b9_get {v : Int64} {i : Int32} (h : ∃ f, b9P f ∧ v = f i.toNatClampNeg) (hi : 0 ≤ i.toInt ∧ i.toInt < 9) : -1000000000 ≤ v.toInt ∧ v.toInt ≤ 1000000000 := by
  obtain ⟨f, hf, rfl⟩ := h
  exact hf _ (by have := (tz_cl hi.1).2; omega)
theorem id_get {v : Int64} {i : Int32} (h : ∃ f, idP f ∧ v = f i.toNatClampNeg) (hi : 0 ≤ i.toInt ∧ i.toInt < 9) : (-1000000000 ≤ v.toInt ∧ v.toInt ≤ 1000000000) ∧ (i.toInt = 0 → v.toInt = 1) := by
  obtain ⟨f, hf, rfl⟩ := h
  refine ⟨hf.1 _ (by have := (tz_cl hi.1).2; omega), fun h2 => ?_⟩
  rw [cl_of (z := 0) h2]; exact hf.2
theorem o_get {F s : Int} {v : Int64} {i : Int32} (h : ∃ f, oP F s f ∧ v = f i.toNatClampNeg) (hi : i.toInt = 0) : F = 1 → 0 ≤ v.toInt ∧ (1 ≤ s → 1 ≤ v.toInt) := by
  obtain ⟨f, hf, rfl⟩ := h
  rw [cl_of (z := 0) hi]; exact hf
theorem f1_get {v : Int64} {i : Int32} (h : ∃ f, f1P f ∧ v = f i.toNatClampNeg) (hi : i.toInt = 0) : 1 ≤ v.toInt := by
  obtain ⟨f, hf, rfl⟩ := h
  rw [cl_of (z := 0) hi]; exact hf
theorem rd_same {P : (Nat → Int64) → Prop} {v w : Int64} {i i2 : Int32} (h : ∃ f, rdJ P i v f ∧ w = f i2.toNatClampNeg) (hi : i2.toInt = i.toInt) : v = w := by
  obtain ⟨f, hf, rfl⟩ := h
  rw [Int32.toInt_inj.mp hi]; exact hf.2.symm
theorem lk_put {k k' : Int} {i : Int32} {x : Int64} (h : i.toInt = k ∧ 0 ≤ k ∧ k' = k + 1 ∧ -1000000000 ≤ x.toInt ∧ x.toInt ≤ 1000000000 ∧ (k = 0 → x.toInt = 1)) : ∀ f, lkP k f → lkP k' (vp_updL f i.toNatClampNeg x) := by
  intro f hf
  have hc := (tz_cl (show 0 ≤ i.toInt by omega)).2
  refine ⟨fun j => ?_, fun h1 => ?_⟩
  · by_cases hj : j = i.toNatClampNeg
    · rw [hj, pk_uLs]; omega
    · rw [pk_uLn hj]; exact hf.1 j
  · by_cases hk : k = 0
    · rw [show (0 : Nat) = i.toNatClampNeg by omega, pk_uLs]; exact h.2.2.2.2.2 hk
    · rw [pk_uLn (by omega)]; exact hf.2 (by omega)
theorem l1_put {i : Int32} {x : Int64} (h : 1 ≤ i.toInt ∧ -1000000000 ≤ x.toInt ∧ x.toInt ≤ 1000000000) : ∀ f, l1P f → l1P (vp_updL f i.toNatClampNeg x) := by
  intro f hf
  have hc := (tz_cl (show 0 ≤ i.toInt by omega)).2
  refine ⟨fun j => ?_, ?_⟩
  · by_cases hj : j = i.toNatClampNeg
    · rw [hj, pk_uLs]; omega
    · rw [pk_uLn hj]; exact hf.1 j
  · rw [pk_uLn (by omega)]; exact hf.2
theorem zk_put {k k' : Int} {i : Int32} (h : i.toInt = k ∧ 0 ≤ k ∧ k' = k + 1) : ∀ f, zkP k f → zkP k' (vp_updL f i.toNatClampNeg 0) := by
  intro f hf j hj
  have hc := (tz_cl (show 0 ≤ i.toInt by omega)).2
  by_cases hji : j = i.toNatClampNeg
  · rw [hji, pk_uLs]
  · rw [pk_uLn hji]; exact hf j (by omega)
theorem fi_put {k k' : Int} {i : Int32} (h : i.toInt = 4 * k ∧ 0 ≤ k ∧ k' = k + 1) : ∀ f, fiP k f → fiP k' (vp_updL f i.toNatClampNeg 1) := by
  intro f hf
  have hc := (tz_cl (show 0 ≤ i.toInt by omega)).2
  have h1 : (1 : Int64).toInt = 1 := by decide +kernel
  refine ⟨fun j hj => ?_, fun _ => ?_⟩
  · by_cases hji : j = i.toNatClampNeg
    · rw [hji, pk_uLs]; omega
    · rw [pk_uLn hji]; exact hf.1 j hj
  · by_cases hk : k = 0
    · rw [show (0 : Nat) = i.toNatClampNeg by omega, pk_uLs]; exact h1
    · rw [pk_uLn (by omega)]; exact hf.2 (by omega)
theorem ek_put {z k k' : Int} {i : Int32} {x : Int64} (h : i.toInt = k ∧ 0 ≤ k ∧ k' = k + 1 ∧ -1000000000 ≤ x.toInt ∧ x.toInt ≤ 1000000000 ∧ (z = 1 → k = 0 → x.toInt = 1)) : ∀ f, ekP z k f → ekP z k' (vp_updL f i.toNatClampNeg x) := by
  intro f hf
  have hc := (tz_cl (show 0 ≤ i.toInt by omega)).2
  refine ⟨fun j hj => ?_, fun h0 h1 => ?_⟩
  · by_cases hji : j = i.toNatClampNeg
    · rw [hji, pk_uLs]; omega
    · rw [pk_uLn hji]; exact hf.1 j (by omega)
  · by_cases hk : k = 0
    · rw [show (0 : Nat) = i.toNatClampNeg by omega, pk_uLs]; exact h.2.2.2.2.2 h0 hk
    · rw [pk_uLn (by omega)]; exact hf.2 h0 (by omega)
theorem o_put0 {F s F' s' : Int} {i : Int32} {x : Int64} (hi : i.toInt = 0) (h : F' = 1 → 1 ≤ x.toInt) : ∀ f, oP F s f → oP F' s' (vp_updL f i.toNatClampNeg x) := by
  intro f _ hF
  rw [cl_of (z := 0) hi, pk_uLs]
  have := h hF
  exact ⟨by omega, fun _ => this⟩
theorem o_putr {F s F' s' : Int} {P : (Nat → Int64) → Prop} {i : Int32} {x v : Int64} {i0 : Int32} (hi : i.toInt = 0) (h : F' = 1 → 1 ≤ x.toInt) : ∀ f, rdJ (oP F s) i0 v f → oP F' s' (vp_updL f i.toNatClampNeg x) := fun f hf => o_put0 hi h f hf.1
theorem o_putx {F s F' s' : Int} {i : Int32} {x : Int64} (hi : 1 ≤ i.toInt) (h : (F' = 1 → F = 1) ∧ s' = s) : ∀ f, oP F s f → oP F' s' (vp_updL f i.toNatClampNeg x) := by
  intro f hf hF
  have hc := (tz_cl (show 0 ≤ i.toInt by omega)).2
  rw [pk_uLn (by omega), h.2]
  exact hf (h.1 hF)
theorem al_sq {p v : Int64} (h : p = v * v) (hb : -1000000000 ≤ v.toInt ∧ v.toInt ≤ 1000000000) : 0 ≤ p.toInt ∧ p.toInt ≤ 1000000000000000000 ∧ (v.toInt = 1 → p.toInt = 1) := by
  have e0 : 0 ≤ v.toInt * v.toInt := by
    rcases Int.le_total 0 v.toInt with q | q
    · exact Int.mul_nonneg q q
    · exact Int.mul_nonneg_of_nonpos_of_nonpos q q
  have e1 : v.toInt * v.toInt ≤ 1000000000 * 1000000000 := by
    rcases Int.le_total 0 v.toInt with q | q
    · exact Int.mul_le_mul hb.2 hb.2 q (by decide)
    · have : (-v.toInt) * (-v.toInt) ≤ 1000000000 * 1000000000 := Int.mul_le_mul (by omega) (by omega) (by omega) (by decide)
      rwa [Int.neg_mul_neg] at this
  have e2 : p.toInt = v.toInt * v.toInt := by rw [h, Int64.toInt_mul, ai_bmL (by omega)]
  rw [e2]
  exact ⟨e0, by omega, fun q => by rw [q]; rfl⟩
theorem al_addnn {s a b : Int64} (h : s = a + b) (ha : 0 ≤ a.toInt) (hb : 0 ≤ b.toInt) (hs : 0 ≤ s.toInt) : s.toInt = a.toInt + b.toInt := by
  have h1 := Int64.toInt_lt a
  have h2 := Int64.toInt_lt b
  have e : s.toInt = (a.toInt + b.toInt).bmod (2 ^ 64) := by rw [h, Int64.toInt_add]
  by_cases hh : a.toInt + b.toInt < 9223372036854775808
  · rw [e, ai_bmL (by omega)]
  · exfalso
    have : (a.toInt + b.toInt).bmod (2 ^ 64) = a.toInt + b.toInt - 18446744073709551616 := by
      rw [← Int.sub_bmod_right, Int.bmod_eq_of_le (by omega) (by omega)] <;> omega
    omega
theorem al_negz {v a : Int64} (h : v = -a) : v.toInt = 0 → a.toInt = 0 := by
  intro h0
  have h1 : v = 0 := Int64.toInt_inj.mp h0
  have h2 : - -a = a := Int64.neg_neg
  have : a = 0 := by rw [← h2, ← h, h1]; rfl
  rw [this]; rfl
section TZK
variable {p : Program} {l : Launch} {e : Env} {R : Room} {s : State} {m : MethodId} {args : Array Value} {below : List Frame} {meth : Method} {c : Code} {H : Heap} {locs : List Loc} {cells slots : Nat} {Q : State → Prop} {cc : ByteArray} {pc : Nat} {ls : Array Slot} {rest : List Value} {D : va_G} {k : Nat → ClassId} {T : TT} {A : Nat → Prop} {a : Nat}
/-- a place is read, and what was read is known of the row -/
theorem tz_laldS (hx : p.tables.exec = Jvm.exec) (hb : c.code = cc) (hK : kX D k s) (hT : TP D A T H) (q0 : Nat) {n : Nat} {P : (Nat → Int64) → Prop} (ha : T[q0]? = some (a, aJ (k 1) n P)) {i : Int32} (hin : 0 ≤ i.toInt ∧ i.toInt < (n : Int)) (hdg : decode cc pc = .ok (.laload, 1))
    (kk : ∀ v : Int64, (∃ f, P f ∧ v = f i.toNatClampNeg) → TP D A (T.set q0 (a, aJ (k 1) n (rdJ P i v))) H → W p l e R s m args below meth c H locs cells slots Q (F0 m (pc + 1) ls (.long v :: rest))) : W p l e R s m args below meth c H locs cells slots Q (F0 m pc ls (.int i :: .ref a :: rest)) := by
  obtain ⟨ws, hC, hP, hD⟩ := hT
  obtain ⟨e1, h1, f, hf, rfl⟩ := hC.2 q0 _ _ ha
  exact va_lald hx hb hK.1 hP q0 1 h1 rfl (vp_in_iff.mpr hin) hdg (kk _ ⟨f, hf, rfl⟩ ⟨_, hC.set ha ⟨f, ⟨hf, rfl⟩, rfl⟩, by
    have e2 : ws.set q0 (a, .inl (k 1, n, .inr (.inl f))) = ws := by
      apply List.ext_getElem?
      intro j
      by_cases hj : j = q0
      · rw [hj, h1, List.getElem?_set_self ((List.getElem?_eq_some_iff.mp h1).1)]
      · rw [List.getElem?_set_ne (Ne.symm hj)]
    rw [e2]; exact hP, hD.set h1⟩)
end TZK
/-! put and sheet by one function each -/
def Frow (s l i : Int) : Int := if s = -1 then -11 else if i < 0 ∨ l ≤ i then -12 else 1
def FPi (sh i s0 s1 s2 s3 l0 l1 l2 l3 : Int) : Int := if sh = 0 then Frow s0 l0 i else if sh = 1 then Frow s1 l1 i else if sh = 2 then Frow s2 l2 i else if sh = 3 then Frow s3 l3 i else -1
def GSi (k sh so n s : Int) : Int := if sh = k ∧ (so = -1 ∨ (0 ≤ so ∧ so ≤ 2 ∧ 0 ≤ n ∧ n ≤ 40)) then so else s
def GLi (k sh so n l : Int) : Int := if sh = k ∧ so = -1 then 0 else if sh = k ∧ 0 ≤ so ∧ so ≤ 2 ∧ 0 ≤ n ∧ n ≤ 40 then n else l
theorem gt_cv {c : ClassId} {n : Nat} {om m cl om' m' cl' : Int} (h : om' = 0 ∨ (om' = om ∧ m' = m ∧ cl' = cl)) : ∀ e, aI c n (gtP om m cl) e → aI c n (gtP om' m' cl') e := by
  rintro e ⟨f, hf, rfl⟩
  refine ⟨f, fun h1 a c h2 h3 => ?_, rfl⟩
  rcases h with h | ⟨rfl, rfl, rfl⟩
  · exfalso; omega
  · exact hf h1 a c h2 h3
theorem ls_cv {c : ClassId} {n : Nat} {L L' : Int} (h : L' = 0 ∨ L' = L) : ∀ e, aJ c n (lsP L) e → aJ c n (lsP L') e := mapJ fun _ hf => ⟨hf.1, fun q => hf.2 (by omega)⟩
theorem scr_eq {xs : Nat → Int32} {v i j : Int32} (h : v = xs i.toNatClampNeg) (hi : j.toInt = i.toInt) : xs j.toNatClampNeg = v := by
  rw [h, Int32.toInt_inj.mp hi]
