/-! special kinds: chains of a roll; a row filled exactly -/
def pfI (C : Int) (f : Nat → Int32) : Prop := ∀ j : Nat, (j : Int) < C → -1 ≤ (f j).toInt ∧ (f j).toInt < C
theorem pf_0 {c : ClassId} {n : Nat} : ∀ e, aI c n anI e → aI c n (pfI 0) e := by
  rintro e ⟨f, -, rfl⟩
  exact ⟨f, fun j hj => absurd hj (by omega), rfl⟩
theorem pf_get {C : Int} {v i : Int32} (h : ∃ f, pfI C f ∧ v = f i.toNatClampNeg) (hi : 0 ≤ i.toInt ∧ i.toInt < C) : -1 ≤ v.toInt ∧ v.toInt < C := by
  obtain ⟨f, hf, rfl⟩ := h
  exact hf _ (by have := (tz_cl hi.1).2; omega)
theorem pf_put {C C' : Int} {i x : Int32} (hi : i.toInt = C ∧ C' = C + 1) (hx : -1 ≤ x.toInt ∧ x.toInt < C') : ∀ f, pfI C f → pfI C' (upd f i.toNatClampNeg x) := by
  intro f hf j hj
  by_cases hji : j = i.toNatClampNeg
  · rw [hji, pk_us]; exact hx
  · rw [pk_un hji]
    by_cases h0 : 0 ≤ i.toInt
    · have hc := (tz_cl h0).2
      have := hf j (by omega)
      omega
    · exact absurd hj (by omega)
theorem pf_eq {c : ClassId} {n : Nat} {C C' : Int} (h : C = C') : ∀ e, aI c n (pfI C) e → aI c n (pfI C') e := by
  subst h; exact fun _ h => h
theorem sl_eq {c : ClassId} {n : Nat} {C C' : Int} (h : C = C') : ∀ e, aI c n (rgI (-1) (C - 1)) e → aI c n (rgI (-1) (C' - 1)) e := by
  subst h; exact fun _ h => h
theorem an_I {c : ClassId} {n : Nat} {P : (Nat → Int32) → Prop} : ∀ e, aI c n P e → aI c n anI e := by
  rintro e ⟨f, -, rfl⟩
  exact ⟨f, trivial, rfl⟩
theorem an_J {c : ClassId} {n : Nat} {P : (Nat → Int64) → Prop} : ∀ e, aJ c n P e → aJ c n anJ e := by
  rintro e ⟨f, -, rfl⟩
  exact ⟨f, trivial, rfl⟩
theorem rg_put2 {lo hi hi' : Int} {x : Int32} {i : Nat} (h : lo ≤ x.toInt ∧ x.toInt ≤ hi' ∧ hi ≤ hi') : ∀ f, rgI lo hi f → rgI lo hi' (upd f i x) := by
  intro f hf j
  by_cases hj : j = i
  · rw [hj, pk_us]; omega
  · rw [pk_un hj]; have := hf j; omega
/-- what stands beyond an array's length says nothing -/
theorem TP.re {D : va_G} {A : Nat → Prop} {T : TT} {H : Heap} {k : Nat → ClassId} {q a n t : Nat} {P P' : (Nat → Int32) → Prop} (h : TP D A T H) (hq : T[q]? = some (a, aI (k t) n P)) (hP : ∀ f, P f → ∃ g, P' g ∧ ∀ j, j < n → f j = g j) : TP D A (T.set q (a, aI (k t) n P')) H := by
  obtain ⟨ws, hC, hPw, hD⟩ := h
  obtain ⟨e1, h1, f, hf, rfl⟩ := hC.2 q _ _ hq
  obtain ⟨g, g1, g2⟩ := hP f hf
  exact ⟨_, hC.set hq ⟨g, g1, rfl⟩, re_i (k := k) (t := t) hPw h1 g2, hD.set h1⟩
abbrev Rm_fillX : Room := { frames := 0, cells := 0, slots := 0, locals := 0 }
def upI (v : Int32) (i : Int) (f : Nat → Int32) : Prop := ∀ q : Nat, (q : Int) < i → f q = v
abbrev B_fillX (D : va_G) (k : Nat → ClassId) (h0 n : Nat) (v : Int32) (A : Nat → Prop) (H : Heap) : Prop := TP D A [(h0, aI (k 0) n (rgI v.toInt v.toInt))] H
set_option maxHeartbeats 4000000 in
set_option maxRecDepth 100000 in
theorem c_fillX (l : Launch) (D : va_G) (k : Nat → ClassId) (sz : Nat) (h0 n : Nat) (v : Int32) (hn : n < 2 ^ 31) : Met l yJ7_fill_53178 (Cond.code yJ7_fill_53178 cJ7_fill_53178 4 none :: uw) Rm_fillX (pT D k sz [.ref h0, .int v] [(h0, aI (k 0) n anI)]) (qV (B_fillX D k h0 n v (zA [h0] sz)) (zA [h0] sz)) 0 0 (zA [h0] sz) := by
  refine tz_begin (as := [h0]) (Qc := fun A => qV (B_fillX D k h0 n v A) A) (by decide +kernel) rfl (Nat.le_of_ble_eq_true rfl) ?_
  intro p e s m args below meth c ls A Q hx hb hr hml hown hlocks hin hU hK hT hS hA hl hQ
  have hl : lv_has ls 4 [(0, .ref h0), (1, .int v)] := hl
  have hT : TP D A [(h0, aI (k 0) n anI)] s.heap := hT
  have hnI : (nI n).toInt = (n : Int) := nI_toInt hn
  have lp : ∀ (j : Nat) (i : Int32) (H : Heap) (locs : List Loc) (ls : Array Slot), (0 ≤ i.toInt ∧ i.toInt + j = n) → TP D A [(h0, aI (k 0) n (upI v i.toInt))] H → va_S A s.heap H locs → lv_has ls 4 [(2, .int i), (3, .int (nI n)), (0, .ref h0), (1, .int v)] → W p l e Rm_fillX s m args below meth c H locs 0 0 Q (F0 m 5 ls []) := by
    intro j
    induction j with
    | zero =>
      intro i H locs ls hi hT hS hl
      refine lv_iload_n hx hb dJ7_fill_53178_5 rfl (lv_at hl 0 rfl) ?_
      refine lv_iload_n hx hb dJ7_fill_53178_6 rfl (lv_at hl 1 rfl) ?_
      refine lv_icmp_ge (tgt := 20) hx hb dJ7_fill_53178_7 (by decide) (fun c1 => ?_) (fun c1 => ?_)
      · have hT := hT.re (q := 0) (P' := rgI v.toInt v.toInt) rfl (fun f hf => ⟨fun _ => v, fun _ => ⟨Int.le_refl _, Int.le_refl _⟩, fun j hj => hf j (by omega)⟩)
        exact tz_retV (B := B_fillX D k h0 n v) hQ hx hb hr hlocks hS (Nat.le_refl _) (Nat.le_refl _) dJ7_fill_53178_20 hT
      · have c1 := ni_nle c1 hnI rfl
        exfalso; omega
    | succ j ih =>
      intro i H locs ls hi hT hS hl
      refine lv_iload_n hx hb dJ7_fill_53178_5 rfl (lv_at hl 0 rfl) ?_
      refine lv_iload_n hx hb dJ7_fill_53178_6 rfl (lv_at hl 1 rfl) ?_
      refine lv_icmp_ge (tgt := 20) hx hb dJ7_fill_53178_7 (by decide) (fun c1 => ?_) (fun c1 => ?_)
      · have c1 := ni_le c1 hnI rfl
        exfalso; omega
      · refine lv_aload_n hx hb dJ7_fill_53178_10 rfl (lv_at hl 2 rfl) ?_
        refine lv_iload_n hx hb dJ7_fill_53178_11 rfl (lv_at hl 0 rfl) ?_
        refine lv_iload_n hx hb dJ7_fill_53178_12 rfl (lv_at hl 3 rfl) ?_
        obtain ⟨i2, e2⟩ : ∃ x : Int32, x = i + Int32.ofInt 1 := ⟨_, rfl⟩
        have f2 := e2.symm
        have e2 : i2.toInt = i.toInt + 1 := ai_add e2 rfl (show (Int32.ofInt 1).toInt = 1 from (by decide +kernel)) (by omega)
        refine tz_iastP hx hb hK hT hS 0 (upI v i2.toInt) rfl (by omega) (fun f hf q hq => ?_) dJ7_fill_53178_13 (fun H locs hT hS => ?_)
        · have hc := (tz_cl hi.1).2
          by_cases hqi : q = i.toNatClampNeg
          · rw [hqi]; exact pk_us
          · rw [pk_un hqi]; exact hf q (by omega)
        have hT : TP D A [(h0, aI (k 0) n (upI v i2.toInt))] H := hT
        refine lv_iinc (v := i2) (lv' := [(2, .int i2), (3, .int (nI n)), (0, .ref h0), (1, .int v)]) hx hb dJ7_fill_53178_14 hl (k := 0) rfl f2 (by decide) rfl (fun ls hl => ?_)
        refine lv_goto (tgt := 5) hx hb dJ7_fill_53178_17 (by decide) ?_
        exact ih i2 H locs ls (by omega) hT hS hl
  have hT := hT.wk (q := 0) (P' := aI (k 0) n (upI v 0)) rfl (by rintro e ⟨f, -, rfl⟩; exact ⟨f, fun q hq => absurd hq (by omega), rfl⟩)
  refine lv_iconst (v := 0) hx hb dJ7_fill_53178_0 (by decide) ?_
  refine lv_istore_n (lv' := [(2, .int 0), (0, .ref h0), (1, .int v)]) hx hb dJ7_fill_53178_1 rfl hl (by decide) rfl (fun ls hl => ?_)
  refine lv_aload_n hx hb dJ7_fill_53178_2 rfl (lv_at hl 1 rfl) ?_
  refine tz_aleni (v := nI n) hx hb hK hT 0 rfl rfl dJ7_fill_53178_3 ?_
  refine lv_istore_n (lv' := [(3, .int (nI n)), (2, .int 0), (0, .ref h0), (1, .int v)]) hx hb dJ7_fill_53178_4 rfl hl (by decide) rfl (fun ls hl => ?_)
  exact lp n 0 _ _ ls (by have : (0 : Int32).toInt = 0 := rfl; omega) hT hS (lv_sub hl [1, 0, 2, 3] rfl)
