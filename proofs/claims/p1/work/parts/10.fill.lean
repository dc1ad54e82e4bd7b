section FILL
set_option maxHeartbeats 4000000 in
set_option maxRecDepth 100000 in
theorem c_fillI (l : Launch) (D : va_G) (k : Nat → ClassId) (sz : Nat) (h0 n : Nat) (f : Nat → Int32) (v : Int32) (hn : n < 2 ^ 31) : Met l yJ7_fill_53178 (Cond.code yJ7_fill_53178 cJ7_fill_53178 4 none :: uw) ({ frames := 0, cells := 0, slots := 0, locals := 0 }) (pC D k sz [.ref h0, .int v] [(h0, .inl (k 0, n, .inl f))]) (qV (fun H => va_P D cl0 [(h0, .inl (k 0, n, .inl (tI [] v)))] H ∧ va_D (va_A [(h0, .inl (k 0, n, .inl f))] sz) [(h0, .inl (k 0, n, .inl (tI [] v)))]) (va_A [(h0, .inl (k 0, n, .inl f))] sz)) 0 0 (va_A [(h0, .inl (k 0, n, .inl f))] sz) := by
  refine begin_ (Qc := fun A => qV (fun H => va_P D cl0 [(h0, .inl (k 0, n, .inl (tI [] v)))] H ∧ va_D A [(h0, .inl (k 0, n, .inl (tI [] v)))]) A) (by decide) (Nat.le_of_ble_eq_true rfl) ?_
  intro p e s m below meth c ls A hx hb hr hml hown hlocks hin hU hK hsz hP hD hS hA hl
  have hl : lv_has ls 4 [(0, .ref h0), (1, .int v)] := hl
  have key : ∀ (j i : Nat) (g : Nat → Int32) (H : Heap) (locs : List Loc) (ls : Array Slot), i + j = n → (∀ q, q < i → g q = v) → va_P D cl0 [(h0, .inl (k 0, n, .inl g))] H → va_D A [(h0, .inl (k 0, n, .inl g))] → va_S A s.heap H locs → lv_has ls 4 [(2, .int (nI i)), (3, .int (nI n)), (0, .ref h0), (1, .int v)] → W p l e ({ frames := 0, cells := 0, slots := 0, locals := 0 } : Room) s m ([.ref h0, .int v] : List Value).toArray below meth c H locs 0 0 (MQ below (qV (fun H => va_P D cl0 [(h0, .inl (k 0, n, .inl (tI [] v)))] H ∧ va_D A [(h0, .inl (k 0, n, .inl (tI [] v)))]) A) ([.ref h0, .int v] : List Value).toArray s 0 0 A) (F0 m 5 ls []) := by
    intro j
    induction j with
    | zero =>
      intro i g H locs ls hij hg hP hD hS hl
      refine lv_iload_n hx hb dJ7_fill_53178_5 rfl (lv_at hl 0 rfl) ?_
      refine lv_iload_n hx hb dJ7_fill_53178_6 rfl (lv_at hl 1 rfl) ?_
      refine lv_icmp_ge (tgt := 20) hx hb dJ7_fill_53178_7 (by decide) (fun _ => ?_) (fun c1 => absurd ((nI_leI hn (by omega)).mpr (by omega)) c1)
      refine retV hx hb hr hlocks hS ⟨?_, ?_⟩ dJ7_fill_53178_20
      · exact re_i (t := 0) (g := tI [] v) hP (q0 := 0) rfl (fun q hq => hg q (by omega))
      · exact va_D.set (e := .inl (k 0, n, .inl (tI [] v))) hD (p := 0) rfl
    | succ j ih =>
      intro i g H locs ls hij hg hP hD hS hl
      refine lv_iload_n hx hb dJ7_fill_53178_5 rfl (lv_at hl 0 rfl) ?_
      refine lv_iload_n hx hb dJ7_fill_53178_6 rfl (lv_at hl 1 rfl) ?_
      refine lv_icmp_ge (tgt := 20) hx hb dJ7_fill_53178_7 (by decide) (fun c1 => absurd ((nI_leI hn (by omega)).mp c1) (by omega)) (fun _ => ?_)
      refine lv_aload_n hx hb dJ7_fill_53178_10 rfl (lv_at hl 2 rfl) ?_
      refine lv_iload_n hx hb dJ7_fill_53178_11 rfl (lv_at hl 0 rfl) ?_
      refine lv_iload_n hx hb dJ7_fill_53178_12 rfl (lv_at hl 3 rfl) ?_
      refine va_iast hx hb hK.1 hP hD hS 0 0 rfl rfl (vp_in_nI (by omega) hn) dJ7_fill_53178_13 (fun H locs hP hD hS => ?_)
      rw [nI_clamp (by omega)] at hP hD
      refine lv_iinc (v := nI (i + 1)) (lv' := [(2, .int (nI (i + 1))), (3, .int (nI n)), (0, .ref h0), (1, .int v)]) hx hb dJ7_fill_53178_14 hl (k := 0) rfl (by rw [nI_succ]; rfl) (by decide) rfl (fun ls hl => ?_)
      refine lv_goto (tgt := 5) hx hb dJ7_fill_53178_17 (by decide) ?_
      refine ih (i + 1) (upd g i v) H locs ls (by omega) (fun q hq => ?_) hP hD hS hl
      by_cases hqi : q = i
      · rw [hqi]; exact pk_us
      · rw [pk_un hqi]; exact hg q (by omega)
  refine lv_iconst (v := nI 0) hx hb dJ7_fill_53178_0 (by decide) ?_
  refine lv_istore_n (lv' := [(2, .int (nI 0)), (0, .ref h0), (1, .int v)]) hx hb dJ7_fill_53178_1 rfl hl (by decide) rfl (fun ls hl => ?_)
  refine lv_aload_n hx hb dJ7_fill_53178_2 rfl (lv_at hl 1 rfl) ?_
  refine va_alen (v := nI n) hx hb hK.1 hP 0 0 rfl rfl rfl dJ7_fill_53178_3 ?_
  refine lv_istore_n (lv' := [(3, .int (nI n)), (2, .int (nI 0)), (0, .ref h0), (1, .int v)]) hx hb dJ7_fill_53178_4 rfl hl (by decide) rfl (fun ls hl => ?_)
  exact key n 0 f _ _ ls (by omega) (fun q hq => absurd hq (by omega)) hP hD hS (lv_sub hl [1, 0, 2, 3] rfl)
set_option maxHeartbeats 4000000 in
set_option maxRecDepth 100000 in
theorem c_fillL (l : Launch) (D : va_G) (k : Nat → ClassId) (sz : Nat) (h0 n : Nat) (f : Nat → Int64) (v : Int64) (hn : n < 2 ^ 31) : Met l yJ7_fill_d0a16 (Cond.code yJ7_fill_d0a16 cJ7_fill_d0a16 5 none :: uw) ({ frames := 0, cells := 0, slots := 0, locals := 0 }) (pC D k sz [.ref h0, .long v] [(h0, .inl (k 1, n, .inr (.inl f)))]) (qV (fun H => va_P D cl0 [(h0, .inl (k 1, n, .inr (.inl (tL [] v))))] H ∧ va_D (va_A [(h0, .inl (k 1, n, .inr (.inl f)))] sz) [(h0, .inl (k 1, n, .inr (.inl (tL [] v))))]) (va_A [(h0, .inl (k 1, n, .inr (.inl f)))] sz)) 0 0 (va_A [(h0, .inl (k 1, n, .inr (.inl f)))] sz) := by
  refine begin_ (Qc := fun A => qV (fun H => va_P D cl0 [(h0, .inl (k 1, n, .inr (.inl (tL [] v))))] H ∧ va_D A [(h0, .inl (k 1, n, .inr (.inl (tL [] v))))]) A) (by decide) (Nat.le_of_ble_eq_true rfl) ?_
  intro p e s m below meth c ls A hx hb hr hml hown hlocks hin hU hK hsz hP hD hS hA hl
  have hl : lv_has ls 5 [(0, .ref h0), (1, .long v)] := hl
  have key : ∀ (j i : Nat) (g : Nat → Int64) (H : Heap) (locs : List Loc) (ls : Array Slot), i + j = n → (∀ q, q < i → g q = v) → va_P D cl0 [(h0, .inl (k 1, n, .inr (.inl g)))] H → va_D A [(h0, .inl (k 1, n, .inr (.inl g)))] → va_S A s.heap H locs → lv_has ls 5 [(3, .int (nI i)), (4, .int (nI n)), (0, .ref h0), (1, .long v)] → W p l e ({ frames := 0, cells := 0, slots := 0, locals := 0 } : Room) s m ([.ref h0, .long v] : List Value).toArray below meth c H locs 0 0 (MQ below (qV (fun H => va_P D cl0 [(h0, .inl (k 1, n, .inr (.inl (tL [] v))))] H ∧ va_D A [(h0, .inl (k 1, n, .inr (.inl (tL [] v))))]) A) ([.ref h0, .long v] : List Value).toArray s 0 0 A) (F0 m 6 ls []) := by
    intro j
    induction j with
    | zero =>
      intro i g H locs ls hij hg hP hD hS hl
      refine lv_iload_n hx hb dJ7_fill_d0a16_6 rfl (lv_at hl 0 rfl) ?_
      refine lv_iload hx hb dJ7_fill_d0a16_7 (lv_at hl 1 rfl) ?_
      refine lv_icmp_ge (tgt := 22) hx hb dJ7_fill_d0a16_9 (by decide) (fun _ => ?_) (fun c1 => absurd ((nI_leI hn (by omega)).mpr (by omega)) c1)
      refine retV hx hb hr hlocks hS ⟨?_, ?_⟩ dJ7_fill_d0a16_22
      · exact re_l (g := tL [] v) hP (q0 := 0) rfl (fun q hq => hg q (by omega))
      · exact va_D.set (e := .inl (k 1, n, .inr (.inl (tL [] v)))) hD (p := 0) rfl
    | succ j ih =>
      intro i g H locs ls hij hg hP hD hS hl
      refine lv_iload_n hx hb dJ7_fill_d0a16_6 rfl (lv_at hl 0 rfl) ?_
      refine lv_iload hx hb dJ7_fill_d0a16_7 (lv_at hl 1 rfl) ?_
      refine lv_icmp_ge (tgt := 22) hx hb dJ7_fill_d0a16_9 (by decide) (fun c1 => absurd ((nI_leI hn (by omega)).mp c1) (by omega)) (fun _ => ?_)
      refine lv_aload_n hx hb dJ7_fill_d0a16_12 rfl (lv_at hl 2 rfl) ?_
      refine lv_iload_n hx hb dJ7_fill_d0a16_13 rfl (lv_at hl 0 rfl) ?_
      refine lv_lload_n hx hb dJ7_fill_d0a16_14 rfl (lv_at hl 3 rfl) ?_
      refine va_last hx hb hK.1 hP hD hS 0 1 rfl rfl (vp_in_nI (by omega) hn) dJ7_fill_d0a16_15 (fun H locs hP hD hS => ?_)
      rw [nI_clamp (by omega)] at hP hD
      refine lv_iinc (v := nI (i + 1)) (lv' := [(3, .int (nI (i + 1))), (4, .int (nI n)), (0, .ref h0), (1, .long v)]) hx hb dJ7_fill_d0a16_16 hl (k := 0) rfl (by rw [nI_succ]; rfl) (by decide) rfl (fun ls hl => ?_)
      refine lv_goto (tgt := 6) hx hb dJ7_fill_d0a16_19 (by decide) ?_
      refine ih (i + 1) (vp_updL g i v) H locs ls (by omega) (fun q hq => ?_) hP hD hS hl
      by_cases hqi : q = i
      · rw [hqi]; exact pk_uLs
      · rw [pk_uLn hqi]; exact hg q (by omega)
  refine lv_iconst (v := nI 0) hx hb dJ7_fill_d0a16_0 (by decide) ?_
  refine lv_istore_n (lv' := [(3, .int (nI 0)), (0, .ref h0), (1, .long v)]) hx hb dJ7_fill_d0a16_1 rfl hl (by decide) rfl (fun ls hl => ?_)
  refine lv_aload_n hx hb dJ7_fill_d0a16_2 rfl (lv_at hl 1 rfl) ?_
  refine va_alen (v := nI n) hx hb hK.1 hP 0 1 rfl rfl rfl dJ7_fill_d0a16_3 ?_
  refine lv_istore (lv' := [(4, .int (nI n)), (3, .int (nI 0)), (0, .ref h0), (1, .long v)]) hx hb dJ7_fill_d0a16_4 hl (by decide) rfl (fun ls hl => ?_)
  exact key n 0 f _ _ ls (by omega) (fun q hq => absurd hq (by omega)) hP hD hS (lv_sub hl [1, 0, 2, 3] rfl)
end FILL
section LOOPS
variable {p : Program} {l : Launch} {e : Env} {R : Room} {s : State} {m : MethodId} {args : Array Value} {below : List Frame} {meth : Method} {c : Code} {D : va_G} {k : Nat → ClassId} {A : Nat → Prop}
set_option maxHeartbeats 4000000 in
set_option maxRecDepth 100000 in
/-- the reference's found: once a digit told no generator, the rest of the digits is only counted -/
theorem foundM_loop {B : Int32 → Heap → Prop} {H : Heap} {locs : List Loc} {h0 : Nat} {x0 : Int32} (hx : p.tables.exec = Jvm.exec) (hb : c.code = cX11_found) (hr : meth.sig.returnType = some .int) (hlocks : meth.locks = false) (hS : va_S A s.heap H locs) (hB : B (-1) H) :
    ∀ (n : Nat) (len left : Int32) (ls : Array Slot), left.toInt < n → lv_has ls 7 [(0, .ref h0), (1, .int x0), (2, .int len), (3, .int 0), (4, .int left)] → W p l e R s m args below meth c H locs 0 0 (MQ below (qI B A) args s 0 0 A) (F0 m 15 ls []) := by
  intro n
  induction n with
  | zero =>
    intro len left ls hlt hl
    refine lv_iload hx hb dX11_found_15 (lv_at hl 4 rfl) ?_
    refine lv_if_le (tgt := 61) hx hb dX11_found_17 (by decide) (fun _ => ?_) (fun c1 => absurd (Int32.le_iff_toInt_le.mpr (by rw [Int32.toInt_zero]; omega)) c1)
    refine lv_iload_n hx hb dX11_found_61 rfl (lv_at hl 3 rfl) ?_
    refine lv_if_eq (tgt := 71) hx hb dX11_found_62 (by decide) (fun _ => ?_) (fun c1 => absurd rfl c1)
    refine lv_iconst (v := -1) hx hb dX11_found_71 (by decide) ?_
    exact retI hx hb hr hlocks hS hB dX11_found_72
  | succ n ih =>
    intro len left ls hlt hl
    refine lv_iload hx hb dX11_found_15 (lv_at hl 4 rfl) ?_
    refine lv_if_le (tgt := 61) hx hb dX11_found_17 (by decide) (fun _ => ?_) (fun c1 => ?_)
    · refine lv_iload_n hx hb dX11_found_61 rfl (lv_at hl 3 rfl) ?_
      refine lv_if_eq (tgt := 71) hx hb dX11_found_62 (by decide) (fun _ => ?_) (fun c1 => absurd rfl c1)
      refine lv_iconst (v := -1) hx hb dX11_found_71 (by decide) ?_
      exact retI hx hb hr hlocks hS hB dX11_found_72
    · refine lv_iload_n hx hb dX11_found_20 rfl (lv_at hl 3 rfl) ?_
      refine lv_if_eq (tgt := 46) hx hb dX11_found_21 (by decide) (fun _ => ?_) (fun c1 => absurd rfl c1)
      refine lv_iconst (v := 0) hx hb dX11_found_46 (by decide) ?_
      refine lv_istore_n (lv' := [(3, .int 0), (0, .ref h0), (1, .int x0), (2, .int len), (4, .int left)]) hx hb dX11_found_47 rfl hl (by decide) rfl (fun ls hl => ?_)
      refine lv_iinc (v := len + 1) (lv' := [(2, .int (len + 1)), (3, .int 0), (0, .ref h0), (1, .int x0), (4, .int left)]) hx hb dX11_found_48 hl (k := 3) rfl rfl (by decide) rfl (fun ls hl => ?_)
      refine lv_iload hx hb dX11_found_51 (lv_at hl 4 rfl) ?_
      refine lv_bipush (v := 10) hx hb dX11_found_53 (by decide) ?_
      refine lv_idiv hx hb dX11_found_55 (by decide +kernel) ?_
      refine lv_istore (lv' := [(4, .int (left / 10)), (2, .int (len + 1)), (3, .int 0), (0, .ref h0), (1, .int x0)]) hx hb dX11_found_56 hl (by decide) rfl (fun ls hl => ?_)
      refine lv_goto (tgt := 15) hx hb dX11_found_58 (by decide) ?_
      refine ih (len + 1) (left / 10) ls ?_ (lv_sub hl [3, 4, 1, 2, 0] rfl)
      have hp : ¬ left < 0 := fun h => c1 (Int32.le_of_lt h)
      obtain ⟨j, hj, rfl⟩ := nI_of hp
      have h10 : (10 : Int32) = nI 10 := by decide
      have hne : ¬ j = 0 := fun h => c1 (by rw [h]; exact Int32.le_refl _)
      rw [h10, pk_div hj (by omega) (by omega), nI_toInt (by omega)]
      rw [nI_toInt hj] at hlt
      omega
set_option maxHeartbeats 4000000 in
set_option maxRecDepth 100000 in
/-- the reference's sheet: its last loop -/
theorem sheetM_loop {B : Int32 → Heap → Prop} {h0 h1 q0 q1 sn : Nat} {fs : List Value} {x1 x2 : Int32} (hx : p.tables.exec = Jvm.exec) (hb : c.code = cX11_sheet) (hr : meth.sig.returnType = some .int) (hlocks : meth.locks = false) (hown : s.vm.findClass RX11 = some m.cls) (hU : ∀ w ∈ uw, w.before args s = true) (hK : kX D k s) (hB : ∀ H, B 1 H) (hsn : sn < 4) (hq : q0 ≠ q1) (hf : fs[34]? = some (.ref h1)) :
    ∀ (j i : Nat) (f : Nat → Int64) (ws : va_W) (H : Heap) (locs : List Loc) (ls : Array Slot), i + j = 40 → ws[q0]? = some (h0, .inr (8, fs)) → ws[q1]? = some (h1, .inl (k 1, 160, .inr (.inl f))) → va_P D cl0 ws H → va_D A ws → va_S A s.heap H locs → lv_has ls 5 [(4, .int (nI i)), (0, .ref h0), (1, .int (nI sn)), (2, .int x1), (3, .int x2)] → W p l e R s m args below meth c H locs 0 0 (MQ below (qI B A) args s 0 0 A) (F0 m 69 ls []) := by
  intro j
  induction j with
  | zero =>
    intro i f ws H locs ls hij he0 he1 hP hD hS hl
    obtain rfl : i = 40 := by omega
    refine lv_iload hx hb dX11_sheet_69 (lv_at hl 0 rfl) ?_
    refine lv_bipush (v := nI 40) hx hb dX11_sheet_71 (by decide) ?_
    refine lv_icmp_ge (tgt := 95) hx hb dX11_sheet_73 (by decide) (fun _ => ?_) (fun c1 => absurd (Int32.le_refl _) c1)
    refine lv_iconst (v := 1) hx hb dX11_sheet_95 (by decide) ?_
    exact retI hx hb hr hlocks hS (hB _) dX11_sheet_96
  | succ j ih =>
    intro i f ws H locs ls hij he0 he1 hP hD hS hl
    refine lv_iload hx hb dX11_sheet_69 (lv_at hl 0 rfl) ?_
    refine lv_bipush (v := nI 40) hx hb dX11_sheet_71 (by decide) ?_
    refine lv_icmp_ge (tgt := 95) hx hb dX11_sheet_73 (by decide) (fun c1 => absurd ((nI_leI (by omega) (by omega)).mp c1) (by omega)) (fun _ => ?_)
    refine lv_aload_n hx hb dX11_sheet_76 rfl (lv_at hl 1 rfl) ?_
    refine va_get (D := D) (ci := 8) (v := .ref h1) (C := RX11) (T := TX11) (N := 36) hx hb hU iX11 hown hK.1 hP q0 he0 rfl 34 (by decide) (hU _ wM75) (fun _ h9 => h9) hf dX11_sheet_77 ?_
    refine lv_bipush (v := nI 40) hx hb dX11_sheet_80 (by decide) ?_
    refine lv_iload_n hx hb dX11_sheet_82 rfl (lv_at hl 2 rfl) ?_
    refine lv_imul hx hb dX11_sheet_83 ?_
    refine lv_iload hx hb dX11_sheet_84 (lv_at hl 0 rfl) ?_
    refine lv_iadd hx hb dX11_sheet_86 (sv_i (v := nI (40 * sn + i)) (by rw [pk_mul, nI_add]) ?_)
    refine lv_lconst (v := 0) hx hb dX11_sheet_87 (by decide) ?_
    refine va_last hx hb hK.1 hP hD hS q1 1 he1 rfl (vp_in_nI (by omega) (by omega)) dX11_sheet_88 (fun H locs hP hD hS => ?_)
    refine lv_iinc (v := nI (i + 1)) (lv' := [(4, .int (nI (i + 1))), (0, .ref h0), (1, .int (nI sn)), (2, .int x1), (3, .int x2)]) hx hb dX11_sheet_89 hl (k := 0) rfl (by rw [nI_succ]; rfl) (by decide) rfl (fun ls hl => ?_)
    refine lv_goto (tgt := 69) hx hb dX11_sheet_92 (by decide) ?_
    have hlq := (List.getElem?_eq_some_iff.mp he1).1
    exact ih (i + 1) _ _ H locs ls (by omega) (by rw [List.getElem?_set_ne (Ne.symm hq)]; exact he0) (List.getElem?_set_self hlq) hP hD hS hl
end LOOPS
