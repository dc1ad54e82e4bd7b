theorem nest_ok {args : Array Value} {s : State} (hts : ∀ w ∈ lw_tbl, w.before args s = true) : kN s := by
  intro q hq
  simp only [nestL, List.mem_cons, List.not_mem_nil, or_false] at hq
  rcases hq with rfl | rfl | rfl | rfl | rfl | rfl
  · exact va_Nw.of rfl (hts _ (List.mem_of_getElem? (i := 88) (by decide +kernel)))
  · exact va_Nw.of rfl (hts _ (List.mem_of_getElem? (i := 116) (by decide +kernel)))
  · exact va_Nw.of rfl (hts _ (List.mem_of_getElem? (i := 200) (by decide +kernel)))
  · exact va_Nw.of rfl (hts _ (List.mem_of_getElem? (i := 217) (by decide +kernel)))
  · exact va_Nw.of rfl (hts _ (List.mem_of_getElem? (i := 227) (by decide +kernel)))
  · exact va_Nw.of rfl (hts _ (List.mem_of_getElem? (i := 233) (by decide +kernel)))
set_option maxHeartbeats 8000000 in
set_option maxRecDepth 100000 in
theorem world_known {args : Array Value} {s : State} (hts : ∀ w ∈ lw_tbl, w.before args s = true) : ∃ (D : va_G) (k : Nat → ClassId), kX D k s := by
  have hU : ∀ w ∈ uw, w.before args s = true := fun w h => hts w (List.mem_filter.mp h).1
  have hAO : va_AO "FiniteMatrices$Sheet" s := va_AO.of (hts _ (List.mem_of_getElem? (i := 142) (by decide +kernel)))
  obtain ⟨k0, a0, b0⟩ := arr_of (hU _ w194) (fun C h => by cases h)
  obtain ⟨k1, a1, b1⟩ := arr_of (hU _ w113) (fun C h => by cases h)
  obtain ⟨k2, a2, b2⟩ := arr_of (hU _ w140) (fun C h => by cases h)
  obtain ⟨k3, a3, b3⟩ := arr_ofO hAO
  obtain ⟨c0, i0, n0⟩ := u_known (C := RX0) (T := TX0) (N := 1) (n := 1) hU iX0 (hU _ w223)
  obtain ⟨c1, i1, n1⟩ := u_known (C := RX1) (T := TX1) (N := 1) (n := 1) hU iX1 (hU _ w213)
  obtain ⟨c2, i2, n2⟩ := u_known (C := RX2) (T := TX2) (N := 2) (n := 2) hU iX2 (hU _ w196)
  obtain ⟨c3, i3, n3⟩ := u_known (C := RX4) (T := TX4) (N := 12) (n := 12) hU iX4 (hU _ w144)
  obtain ⟨c4, i4, n4⟩ := u_known (C := RX5) (T := TX5) (N := 4) (n := 4) hU iX5 (hU _ w87)
  obtain ⟨c5, i5, n5⟩ := u_known (C := RX6) (T := TX6) (N := 3) (n := 3) hU iX6 (hU _ w232)
  obtain ⟨c6, i6, n6⟩ := u_known (C := RX9) (T := TX9) (N := 5) (n := 5) hU iX9 (hU _ w115)
  obtain ⟨c7, i7, n7⟩ := u_known (C := RX10) (T := TX10) (N := 17) (n := 17) hU iX10 (hU _ w79)
  obtain ⟨c8, i8, n8⟩ := u_known (C := RX11) (T := TX11) (N := 36) (n := 36) hU iX11 (hU _ w780)
  refine ⟨(fun j => [c0, c1, c2, c3, c4, c5, c6, c7, c8].getD j 0, fun j => [i0, i1, i2, i3, i4, i5, i6, i7, i8].getD j (fun _ => 0)), fun j => [k0, k1, k2, k3].getD j 0, ⟨⟨?_, ?_⟩, nest_ok hts, hAO, va_Nw.of rfl (hts _ (List.mem_of_getElem? (i := 525) (by decide +kernel)))⟩⟩
  · intro j q hq
    match j, hq with
    | 0, hq => cases hq; exact n0
    | 1, hq => cases hq; exact n1
    | 2, hq => cases hq; exact n2
    | 3, hq => cases hq; exact n3
    | 4, hq => cases hq; exact n4
    | 5, hq => cases hq; exact n5
    | 6, hq => cases hq; exact n6
    | 7, hq => cases hq; exact n7
    | 8, hq => cases hq; exact n8
    | j + 9, hq => simp [cl0] at hq
  · intro j q hq
    match j, hq with
    | 0, hq => cases hq; exact ⟨a0, b0⟩
    | 1, hq => cases hq; exact ⟨a1, b1⟩
    | 2, hq => cases hq; exact ⟨a2, b2⟩
    | 3, hq => cases hq; exact ⟨a3, b3⟩
    | j + 4, hq => simp at hq
set_option maxHeartbeats 8000000 in
set_option maxRecDepth 100000 in
theorem zs_known {b : Nat} {s : State} {A : Nat → Prop} (hts : ∀ w ∈ lw_tbl, w.before #[Value.ref b] s = true) (hgv : (Jvm.Cond.and given_1 narrow_1).before #[Value.ref b] s = true) (hA : ∀ a : Nat, a < s.heap.size → ¬ A a) : ∃ t0 t1 t2 : Nat, Zs t0 t1 t2 A s s.heap := by
  have hs := flat_of_before _ hgv
  have a0 : (Cond.arrayOf (Term.static "FiniteMatrices$Polynomials" "FACTOR_DEGREE" "[I") .int).before #[Value.ref b] s = true := hs _ (by decide +kernel)
  have l0 : (Cond.eq (.length (Term.static "FiniteMatrices$Polynomials" "FACTOR_DEGREE" "[I")) (.int 7)).before #[Value.ref b] s = true := hs _ (by decide +kernel)
  have e00 : (Cond.eq (.elem (Term.static "FiniteMatrices$Polynomials" "FACTOR_DEGREE" "[I") (.int 0)) (.int 0)).before #[Value.ref b] s = true := hs _ (by decide +kernel)
  have e01 : (Cond.eq (.elem (Term.static "FiniteMatrices$Polynomials" "FACTOR_DEGREE" "[I") (.int 1)) (.int 1)).before #[Value.ref b] s = true := hs _ (by decide +kernel)
  have e02 : (Cond.eq (.elem (Term.static "FiniteMatrices$Polynomials" "FACTOR_DEGREE" "[I") (.int 2)) (.int 1)).before #[Value.ref b] s = true := hs _ (by decide +kernel)
  have e03 : (Cond.eq (.elem (Term.static "FiniteMatrices$Polynomials" "FACTOR_DEGREE" "[I") (.int 3)) (.int 2)).before #[Value.ref b] s = true := hs _ (by decide +kernel)
  have e04 : (Cond.eq (.elem (Term.static "FiniteMatrices$Polynomials" "FACTOR_DEGREE" "[I") (.int 4)) (.int 2)).before #[Value.ref b] s = true := hs _ (by decide +kernel)
  have e05 : (Cond.eq (.elem (Term.static "FiniteMatrices$Polynomials" "FACTOR_DEGREE" "[I") (.int 5)) (.int 0)).before #[Value.ref b] s = true := hs _ (by decide +kernel)
  have e06 : (Cond.eq (.elem (Term.static "FiniteMatrices$Polynomials" "FACTOR_DEGREE" "[I") (.int 6)) (.int 2)).before #[Value.ref b] s = true := hs _ (by decide +kernel)
  obtain ⟨t0, h0, v0⟩ := va_Tof (N := 7) (f := fun j => .int (fd0 j)) (A := A) (by decide) a0 (va_eqt l0) (fun j hj => by
    match j, hj with
    | 0, _ => exact va_eqt e00
    | 1, _ => exact va_eqt e01
    | 2, _ => exact va_eqt e02
    | 3, _ => exact va_eqt e03
    | 4, _ => exact va_eqt e04
    | 5, _ => exact va_eqt e05
    | 6, _ => exact va_eqt e06
    | j + 7, h => exact absurd h (by omega)) hA
  have z0 : va_Z RX3 "FACTOR_DEGREE" "[I" (.ref t0) A s s.heap := va_Zof (hts _ (List.mem_of_getElem? (i := 434) (by decide +kernel))) (hts _ (List.mem_of_getElem? (i := 76) (by decide +kernel))) h0 hA
  have a1 : (Cond.arrayOf (Term.static "FiniteMatrices$Polynomials" "FACTOR_OF_ONE" "[I") .int).before #[Value.ref b] s = true := hs _ (by decide +kernel)
  have l1 : (Cond.eq (.length (Term.static "FiniteMatrices$Polynomials" "FACTOR_OF_ONE" "[I")) (.int 7)).before #[Value.ref b] s = true := hs _ (by decide +kernel)
  have e10 : (Cond.eq (.elem (Term.static "FiniteMatrices$Polynomials" "FACTOR_OF_ONE" "[I") (.int 0)) (.int 0)).before #[Value.ref b] s = true := hs _ (by decide +kernel)
  have e11 : (Cond.eq (.elem (Term.static "FiniteMatrices$Polynomials" "FACTOR_OF_ONE" "[I") (.int 1)) (.int (-1))).before #[Value.ref b] s = true := hs _ (by decide +kernel)
  have e12 : (Cond.eq (.elem (Term.static "FiniteMatrices$Polynomials" "FACTOR_OF_ONE" "[I") (.int 2)) (.int 1)).before #[Value.ref b] s = true := hs _ (by decide +kernel)
  have e13 : (Cond.eq (.elem (Term.static "FiniteMatrices$Polynomials" "FACTOR_OF_ONE" "[I") (.int 3)) (.int 1)).before #[Value.ref b] s = true := hs _ (by decide +kernel)
  have e14 : (Cond.eq (.elem (Term.static "FiniteMatrices$Polynomials" "FACTOR_OF_ONE" "[I") (.int 4)) (.int 1)).before #[Value.ref b] s = true := hs _ (by decide +kernel)
  have e15 : (Cond.eq (.elem (Term.static "FiniteMatrices$Polynomials" "FACTOR_OF_ONE" "[I") (.int 5)) (.int 0)).before #[Value.ref b] s = true := hs _ (by decide +kernel)
  have e16 : (Cond.eq (.elem (Term.static "FiniteMatrices$Polynomials" "FACTOR_OF_ONE" "[I") (.int 6)) (.int 1)).before #[Value.ref b] s = true := hs _ (by decide +kernel)
  obtain ⟨t1, h1, v1⟩ := va_Tof (N := 7) (f := fun j => .int (fd1 j)) (A := A) (by decide) a1 (va_eqt l1) (fun j hj => by
    match j, hj with
    | 0, _ => exact va_eqt e10
    | 1, _ => exact va_eqt e11
    | 2, _ => exact va_eqt e12
    | 3, _ => exact va_eqt e13
    | 4, _ => exact va_eqt e14
    | 5, _ => exact va_eqt e15
    | 6, _ => exact va_eqt e16
    | j + 7, h => exact absurd h (by omega)) hA
  have z1 : va_Z RX3 "FACTOR_OF_ONE" "[I" (.ref t1) A s s.heap := va_Zof (hts _ (List.mem_of_getElem? (i := 442) (by decide +kernel))) (hts _ (List.mem_of_getElem? (i := 76) (by decide +kernel))) h1 hA
  have a2 : (Cond.arrayOf (Term.static "FiniteMatrices$Polynomials" "FACTOR_OF_X" "[I") .int).before #[Value.ref b] s = true := hs _ (by decide +kernel)
  have l2 : (Cond.eq (.length (Term.static "FiniteMatrices$Polynomials" "FACTOR_OF_X" "[I")) (.int 7)).before #[Value.ref b] s = true := hs _ (by decide +kernel)
  have e20 : (Cond.eq (.elem (Term.static "FiniteMatrices$Polynomials" "FACTOR_OF_X" "[I") (.int 0)) (.int 0)).before #[Value.ref b] s = true := hs _ (by decide +kernel)
  have e21 : (Cond.eq (.elem (Term.static "FiniteMatrices$Polynomials" "FACTOR_OF_X" "[I") (.int 1)) (.int 1)).before #[Value.ref b] s = true := hs _ (by decide +kernel)
  have e22 : (Cond.eq (.elem (Term.static "FiniteMatrices$Polynomials" "FACTOR_OF_X" "[I") (.int 2)) (.int 1)).before #[Value.ref b] s = true := hs _ (by decide +kernel)
  have e23 : (Cond.eq (.elem (Term.static "FiniteMatrices$Polynomials" "FACTOR_OF_X" "[I") (.int 3)) (.int 1)).before #[Value.ref b] s = true := hs _ (by decide +kernel)
  have e24 : (Cond.eq (.elem (Term.static "FiniteMatrices$Polynomials" "FACTOR_OF_X" "[I") (.int 4)) (.int 0)).before #[Value.ref b] s = true := hs _ (by decide +kernel)
  have e25 : (Cond.eq (.elem (Term.static "FiniteMatrices$Polynomials" "FACTOR_OF_X" "[I") (.int 5)) (.int 0)).before #[Value.ref b] s = true := hs _ (by decide +kernel)
  have e26 : (Cond.eq (.elem (Term.static "FiniteMatrices$Polynomials" "FACTOR_OF_X" "[I") (.int 6)) (.int (-1))).before #[Value.ref b] s = true := hs _ (by decide +kernel)
  obtain ⟨t2, h2, v2⟩ := va_Tof (N := 7) (f := fun j => .int (fd2 j)) (A := A) (by decide) a2 (va_eqt l2) (fun j hj => by
    match j, hj with
    | 0, _ => exact va_eqt e20
    | 1, _ => exact va_eqt e21
    | 2, _ => exact va_eqt e22
    | 3, _ => exact va_eqt e23
    | 4, _ => exact va_eqt e24
    | 5, _ => exact va_eqt e25
    | 6, _ => exact va_eqt e26
    | j + 7, h => exact absurd h (by omega)) hA
  have z2 : va_Z RX3 "FACTOR_OF_X" "[I" (.ref t2) A s s.heap := va_Zof (hts _ (List.mem_of_getElem? (i := 444) (by decide +kernel))) (hts _ (List.mem_of_getElem? (i := 76) (by decide +kernel))) h2 hA
  exact ⟨t0, t1, t2, ⟨z0, v0⟩, ⟨z1, v1⟩, ⟨z2, v2⟩⟩
set_option maxHeartbeats 8000000 in
set_option maxRecDepth 100000 in
/-- behind a call: the next one -/
theorem law_next {p : Program} {e : Env} {s : State} {m : MethodId} {below : List Frame} {meth : Method} {c : Code} (l : Launch) {b L : Nat} {xs : Nat → Int32} (C0 : lw_At p s m meth c b L xs) (hL : L ≤ 3072) {H : Heap} {locs : List Loc} {ls : Array Slot} {cells slots : Nat} {Q : State → Prop} {i : Int32} {qx0 qm0 : Nat} (hi : 0 ≤ i.toInt ∧ i.toInt ≤ (L : Int)) (hl : lv_has ls 4 [(3, .int i), (2, .ref qm0), (1, .ref qx0), (0, .ref b)])
    (kk : ∀ (i2 : Int32) (ls : Array Slot), i2.toInt = i.toInt + 6 → lv_has ls 4 [(3, .int i2), (2, .ref qm0), (1, .ref qx0), (0, .ref b)] → W p l e room_1 s m #[Value.ref b] below meth c H locs cells slots Q (F0 m 18 ls [])) : W p l e room_1 s m #[Value.ref b] below meth c H locs cells slots Q (F0 m 1330 ls []) := by
  obtain ⟨hx, hb, hr, hml, hown, hts, hX, hbl, hlocks, hgv⟩ := id C0
  obtain ⟨i2, e2⟩ : ∃ x : Int32, x = i + Int32.ofInt 6 := ⟨_, rfl⟩
  have f2 := e2.symm
  have e2 : i2.toInt = i.toInt + 6 := ai_add e2 rfl (show (Int32.ofInt 6).toInt = 6 from (by decide +kernel)) (by omega)
  refine lv_iinc (v := i2) (lv' := [(3, .int i2), (2, .ref qm0), (1, .ref qx0), (0, .ref b)]) hx hb dL_law_1330 hl (k := 0) rfl f2 (by decide) rfl (fun ls hl => ?_)
  refine lv_goto (tgt := 18) hx hb dL_law_1333 (by decide) ?_
  exact kk i2 ls e2 hl
set_option maxHeartbeats 16000000 in
set_option maxRecDepth 100000 in
theorem law_loop1 {p : Program} {e : Env} {s : State} {m : MethodId} {below : List Frame} {meth : Method} {c : Code} (l : Launch) {b L : Nat} {xs : Nat → Int32} (C0 : lw_At p s m meth c b L xs) (hL : L ≤ 3072) {D : va_G} {k : Nat → ClassId} (hK : kX D k s) {A : Nat → Prop} (hA : ∀ q, s.heap.size ≤ q → A q) (hbA : ¬ A b) {t0 t1 t2 : Nat} (hZ : Zs t0 t1 t2 A s s.heap) (qx qm qb : Nat → Nat) (hA' : ∀ q, A q → s.heap.size ≤ q) : ∀ (n : Nat) (H : Heap) (locs : List Loc) (ls : Array Slot) (cells slots : Nat) (i : Int32), (0 ≤ i.toInt ∧ i.toInt ≤ (L : Int) + 6 ∧ (L : Int) < i.toInt + 6 * n) → (cells + 2 * n + 200 ≤ 600000 ∧ slots + 128 * n + 40000 ≤ 7302250) → WX1 D A k qx qm qb H → va_S A s.heap H locs → lv_has ls 4 [(3, .int i), (2, .ref (qm 0)), (1, .ref (qx 0)), (0, .ref b)] → W p l e room_1 s m #[Value.ref b] below meth c H locs cells slots (lw_Z below #[Value.ref b] s) (F0 m 18 ls []) := by
  obtain ⟨hx, hb, hr, hml, hown, hts, hX, hbl, hlocks, hgv⟩ := id C0
  intro n
  induction n with
  | zero =>
    intro H locs ls cells slots i hi hc hW hS hl
    refine lv_iload_n hx hb dL_law_18 rfl (lv_at hl 0 rfl) ?_
    refine lv_aload_n hx hb dL_law_19 rfl (lv_at hl 3 rfl) ?_
    refine va_slen hx hb hX hbl hbA hS dL_law_20 ?_
    refine lv_bipush (v := 6) hx hb dL_law_21 (by decide) ?_
    refine lv_isub hx hb dL_law_23 (lv_topi (fun v e_v => ?_))
    have e_v := ai_sub e_v (nI_toInt (n := L) (by omega)) li_6 (by omega)
    refine lv_icmp_gt (tgt := 1336) hx hb dL_law_24 (by decide) (fun c1 => ?_) (fun c1 => ?_)
    · refine lv_iconst (v := 1) hx hb dL_law_1336 (by decide) ?_
      refine va_forget (fun q hq => hA' _ (hS.2.2 q hq)) ?_
      refine W.widen (k := 600000) (n := 7302250) (by omega) (by omega) ?_
      exact lw_ret hx hb hr hlocks dL_law_1337
    · have c1 := ni_nlt c1 e_v rfl
      exfalso; omega
  | succ n ih =>
    intro H locs ls cells slots i hi hc hW hS hl
    refine lv_iload_n hx hb dL_law_18 rfl (lv_at hl 0 rfl) ?_
    refine lv_aload_n hx hb dL_law_19 rfl (lv_at hl 3 rfl) ?_
    refine va_slen hx hb hX hbl hbA hS dL_law_20 ?_
    refine lv_bipush (v := 6) hx hb dL_law_21 (by decide) ?_
    refine lv_isub hx hb dL_law_23 (lv_topi (fun v e_v => ?_))
    have e_v := ai_sub e_v (nI_toInt (n := L) (by omega)) li_6 (by omega)
    refine lv_icmp_gt (tgt := 1336) hx hb dL_law_24 (by decide) (fun c1 => ?_) (fun c1 => ?_)
    · refine lv_iconst (v := 1) hx hb dL_law_1336 (by decide) ?_
      refine va_forget (fun q hq => hA' _ (hS.2.2 q hq)) ?_
      refine W.widen (k := 600000) (n := 7302250) (by omega) (by omega) ?_
      exact lw_ret hx hb hr hlocks dL_law_1337
    · have c1 := ni_nlt c1 e_v rfl
      have hi6 : 0 ≤ i.toInt ∧ i.toInt + 6 ≤ (L : Int) := by omega
      have kk : ∀ (H : Heap) (locs : List Loc) (ls : Array Slot), WX1 D A k qx qm qb H → va_S A s.heap H locs → lv_has ls 4 [(3, .int i), (2, .ref (qm 0)), (1, .ref (qx 0)), (0, .ref b)] → W p l e room_1 s m #[Value.ref b] below meth c H locs (cells + 2) (slots + 128) (lw_Z below #[Value.ref b] s) (F0 m 1330 ls []) := fun H locs ls hW hS hl => law_next l C0 hL (by omega) hl (fun i2 ls e2 hl => ih H locs ls _ _ i2 (by omega) (by omega) hW hS hl)
      refine lv_aload_n hx hb dL_law_27 rfl (lv_at hl 3 rfl) ?_
      refine lv_iload_n hx hb dL_law_28 rfl (lv_at hl 0 rfl) ?_
      refine va_sld hx hb hX hbl hbA hS (vp_in_iff.mpr (by omega)) dL_law_29 ?_
      refine lv_bipush (v := 63) hx hb dL_law_30 (by decide) ?_
      refine lv_iand hx hb dL_law_32 (lv_topi (fun w e_w => ?_))
      have e_w := ai_and 6 e_w (by decide +kernel) (by decide)
      rcases (show w.toInt = 0 ∨ w.toInt = 1 ∨ w.toInt = 2 ∨ w.toInt = 3 ∨ w.toInt = 4 ∨ w.toInt = 5 ∨ w.toInt = 6 ∨ w.toInt = 7 ∨ w.toInt = 8 ∨ w.toInt = 9 ∨ w.toInt = 10 ∨ w.toInt = 11 ∨ w.toInt = 12 ∨ w.toInt = 13 ∨ w.toInt = 14 ∨ w.toInt = 15 ∨ w.toInt = 16 ∨ w.toInt = 17 ∨ w.toInt = 18 ∨ w.toInt = 19 ∨ w.toInt = 20 ∨ w.toInt = 21 ∨ w.toInt = 22 ∨ w.toInt = 23 ∨ w.toInt = 24 ∨ w.toInt = 25 ∨ w.toInt = 26 ∨ w.toInt = 27 ∨ w.toInt = 28 ∨ w.toInt = 29 ∨ w.toInt = 30 ∨ w.toInt = 31 ∨ w.toInt = 32 ∨ w.toInt = 33 ∨ w.toInt = 34 ∨ w.toInt = 35 ∨ 36 ≤ w.toInt by omega) with h | h | h | h | h | h | h | h | h | h | h | h | h | h | h | h | h | h | h | h | h | h | h | h | h | h | h | h | h | h | h | h | h | h | h | h | h
      · refine lv_tableIn (tgt := 192) (off := 159) hx hb dL_law_33 (by omega) (by omega) (by rw [h]; decide +kernel) (by decide) ?_
        exact lc1_size l C0 hL hK hA hbA hZ qx qm qb hi6 (by omega) hW hS hl kk
      · refine lv_tableIn (tgt := 215) (off := 182) hx hb dL_law_33 (by omega) (by omega) (by rw [h]; decide +kernel) (by decide) ?_
        exact lc1_unit l C0 hL hK hA hbA hZ qx qm qb hi6 (by omega) hW hS hl kk
      · refine lv_tableIn (tgt := 258) (off := 225) hx hb dL_law_33 (by omega) (by omega) (by rw [h]; decide +kernel) (by decide) ?_
        exact lc1_made l C0 hL hK hA hbA hZ qx qm qb hi6 (by omega) hW hS hl kk
      · refine lv_tableIn (tgt := 301) (off := 268) hx hb dL_law_33 (by omega) (by omega) (by rw [h]; decide +kernel) (by decide) ?_
        exact lc1_drop l C0 hL hK hA hbA hZ qx qm qb hi6 (by omega) hW hS hl kk
      · refine lv_tableIn (tgt := 314) (off := 281) hx hb dL_law_33 (by omega) (by omega) (by rw [h]; decide +kernel) (by decide) ?_
        exact lc1_at l C0 hL hK hA hbA hZ qx qm qb hi6 (by omega) hW hS hl kk
      · refine lv_tableIn (tgt := 357) (off := 324) hx hb dL_law_33 (by omega) (by omega) (by rw [h]; decide +kernel) (by decide) ?_
        exact lc1_of l C0 hL hK hA hbA hZ qx qm qb hi6 (by omega) hW hS hl kk
      · refine lv_tableIn (tgt := 390) (off := 357) hx hb dL_law_33 (by omega) (by omega) (by rw [h]; decide +kernel) (by decide) ?_
        exact lc1_character l C0 hL hK hA hbA hZ qx qm qb hi6 (by omega) hW hS hl kk
      · refine lv_tableIn (tgt := 423) (off := 390) hx hb dL_law_33 (by omega) (by omega) (by rw [h]; decide +kernel) (by decide) ?_
        exact lc1_factor l C0 hL hK hA hbA hZ qx qm qb hi6 (by omega) hW hS hl kk
      · refine lv_tableIn (tgt := 456) (off := 423) hx hb dL_law_33 (by omega) (by omega) (by rw [h]; decide +kernel) (by decide) ?_
        exact lc1_feed l C0 hL hK hA hbA hZ qx qm qb hi6 (by omega) hW hS hl kk
      · refine lv_tableIn (tgt := 519) (off := 486) hx hb dL_law_33 (by omega) (by omega) (by rw [h]; decide +kernel) (by decide) ?_
        exact lc1_text l C0 hL hK hA hbA hZ qx qm qb hi6 (by omega) hW hS hl kk
      · refine lv_tableIn (tgt := 532) (off := 499) hx hb dL_law_33 (by omega) (by omega) (by rw [h]; decide +kernel) (by decide) ?_
        exact lc1_listed l C0 hL hK hA hbA hZ qx qm qb hi6 (by omega) hW hS hl kk
      · refine lv_tableIn (tgt := 545) (off := 512) hx hb dL_law_33 (by omega) (by omega) (by rw [h]; decide +kernel) (by decide) ?_
        exact lc1_whole l C0 hL hK hA hbA hZ qx qm qb hi6 (by omega) hW hS hl kk
      · refine lv_tableIn (tgt := 558) (off := 525) hx hb dL_law_33 (by omega) (by omega) (by rw [h]; decide +kernel) (by decide) ?_
        exact lc1_element l C0 hL hK hA hbA hZ qx qm qb hi6 (by omega) hW hS hl kk
      · refine lv_tableIn (tgt := 601) (off := 568) hx hb dL_law_33 (by omega) (by omega) (by rw [h]; decide +kernel) (by decide) ?_
        exact lc1_about l C0 hL hK hA hbA hZ qx qm qb hi6 (by omega) hW hS hl kk
      · refine lv_tableIn (tgt := 634) (off := 601) hx hb dL_law_33 (by omega) (by omega) (by rw [h]; decide +kernel) (by decide) ?_
        exact lc1_witness l C0 hL hK hA hbA hZ qx qm qb hi6 (by omega) hW hS hl kk
      · refine lv_tableIn (tgt := 647) (off := 614) hx hb dL_law_33 (by omega) (by omega) (by rw [h]; decide +kernel) (by decide) ?_
        exact lc1_found l C0 hL hK hA hbA hZ qx qm qb hi6 (by omega) hW hS hl kk
      · refine lv_tableIn (tgt := 670) (off := 637) hx hb dL_law_33 (by omega) (by omega) (by rw [h]; decide +kernel) (by decide) ?_
        exact lc1_middle l C0 hL hK hA hbA hZ qx qm qb hi6 (by omega) hW hS hl kk
      · refine lv_tableIn (tgt := 683) (off := 650) hx hb dL_law_33 (by omega) (by omega) (by rw [h]; decide +kernel) (by decide) ?_
        exact lc1_form l C0 hL hK hA hbA hZ qx qm qb hi6 (by omega) hW hS hl kk
      · refine lv_tableIn (tgt := 716) (off := 683) hx hb dL_law_33 (by omega) (by omega) (by rw [h]; decide +kernel) (by decide) ?_
        exact lc1_keeps l C0 hL hK hA hbA hZ qx qm qb hi6 (by omega) hW hS hl kk
      · refine lv_tableIn (tgt := 749) (off := 716) hx hb dL_law_33 (by omega) (by omega) (by rw [h]; decide +kernel) (by decide) ?_
        exact lc1_image l C0 hL hK hA hbA hZ qx qm qb hi6 (by omega) hW hS hl kk
      · refine lv_tableIn (tgt := 772) (off := 739) hx hb dL_law_33 (by omega) (by omega) (by rw [h]; decide +kernel) (by decide) ?_
        exact lc1_faithful l C0 hL hK hA hbA hZ qx qm qb hi6 (by omega) hW hS hl kk
      · refine lv_tableIn (tgt := 795) (off := 762) hx hb dL_law_33 (by omega) (by omega) (by rw [h]; decide +kernel) (by decide) ?_
        exact lc1_orbit l C0 hL hK hA hbA hZ qx qm qb hi6 (by omega) hW hS hl kk
      · refine lv_tableIn (tgt := 838) (off := 805) hx hb dL_law_33 (by omega) (by omega) (by rw [h]; decide +kernel) (by decide) ?_
        exact lc1_point l C0 hL hK hA hbA hZ qx qm qb hi6 (by omega) hW hS hl kk
      · refine lv_tableIn (tgt := 871) (off := 838) hx hb dL_law_33 (by omega) (by omega) (by rw [h]; decide +kernel) (by decide) ?_
        exact lc1_round l C0 hL hK hA hbA hZ qx qm qb hi6 (by omega) hW hS hl kk
      · refine lv_tableIn (tgt := 894) (off := 861) hx hb dL_law_33 (by omega) (by omega) (by rw [h]; decide +kernel) (by decide) ?_
        exact lc1_still l C0 hL hK hA hbA hZ qx qm qb hi6 (by omega) hW hS hl kk
      · refine lv_tableIn (tgt := 937) (off := 904) hx hb dL_law_33 (by omega) (by omega) (by rw [h]; decide +kernel) (by decide) ?_
        exact lc1_seed l C0 hL hK hA hbA hZ qx qm qb hi6 (by omega) hW hS hl kk
      · refine lv_tableIn (tgt := 960) (off := 927) hx hb dL_law_33 (by omega) (by omega) (by rw [h]; decide +kernel) (by decide) ?_
        exact lc1_lot l C0 hL hK hA hbA hZ qx qm qb hi6 (by omega) hW hS hl kk
      · refine lv_tableIn (tgt := 983) (off := 950) hx hb dL_law_33 (by omega) (by omega) (by rw [h]; decide +kernel) (by decide) ?_
        exact lc1_sheet l C0 hL hK hA hbA hZ qx qm qb hi6 (by omega) hW hS hl kk
      · refine lv_tableIn (tgt := 1026) (off := 993) hx hb dL_law_33 (by omega) (by omega) (by rw [h]; decide +kernel) (by decide) ?_
        exact lc1_put l C0 hL hK hA hbA hZ qx qm qb hi6 (by omega) hW hS hl kk
      · refine lv_tableIn (tgt := 1099) (off := 1066) hx hb dL_law_33 (by omega) (by omega) (by rw [h]; decide +kernel) (by decide) ?_
        exact lc1_item l C0 hL hK hA hbA hZ qx qm qb hi6 (by omega) hW hS hl kk
      · refine lv_tableIn (tgt := 1142) (off := 1109) hx hb dL_law_33 (by omega) (by omega) (by rw [h]; decide +kernel) (by decide) ?_
        exact lc1_copy l C0 hL hK hA hbA hZ qx qm qb hi6 (by omega) hW hS hl kk
      · refine lv_tableIn (tgt := 1205) (off := 1172) hx hb dL_law_33 (by omega) (by omega) (by rw [h]; decide +kernel) (by decide) ?_
        exact lc1_lay l C0 hL hK hA hbA hZ qx qm qb hi6 (by omega) hW hS hl kk
      · refine lv_tableIn (tgt := 1248) (off := 1215) hx hb dL_law_33 (by omega) (by omega) (by rw [h]; decide +kernel) (by decide) ?_
        exact lc1_take l C0 hL hK hA hbA hZ qx qm qb hi6 (by omega) hW hS hl kk
      · refine lv_tableIn (tgt := 1281) (off := 1248) hx hb dL_law_33 (by omega) (by omega) (by rw [h]; decide +kernel) (by decide) ?_
        exact lc1_many l C0 hL hK hA hbA hZ qx qm qb hi6 (by omega) hW hS hl kk
      · refine lv_tableIn (tgt := 1304) (off := 1271) hx hb dL_law_33 (by omega) (by omega) (by rw [h]; decide +kernel) (by decide) ?_
        exact lc1_keep l C0 hL hK hA hbA hZ qx qm qb hi6 (by omega) hW hS hl kk
      · refine lv_tableIn (tgt := 1317) (off := 1284) hx hb dL_law_33 (by omega) (by omega) (by rw [h]; decide +kernel) (by decide) ?_
        exact lc1_again l C0 hL hK hA hbA hZ qx qm qb hi6 (by omega) hW hS hl kk
      · refine lv_tableOut (tgt := 1330) hx hb dL_law_33 (Or.inr (by omega)) (by decide) ?_
        refine W.widen (k := cells + 2) (n := slots + 128) (by omega) (by omega) ?_
        exact kk H locs ls hW hS hl
set_option maxHeartbeats 16000000 in
set_option maxRecDepth 100000 in
theorem law_loop0 {p : Program} {e : Env} {s : State} {m : MethodId} {below : List Frame} {meth : Method} {c : Code} (l : Launch) {b L : Nat} {xs : Nat → Int32} (C0 : lw_At p s m meth c b L xs) (hL : L ≤ 3072) {D : va_G} {k : Nat → ClassId} (hK : kX D k s) {A : Nat → Prop} (hA : ∀ q, s.heap.size ≤ q → A q) (hbA : ¬ A b) {t0 t1 t2 : Nat} (hZ : Zs t0 t1 t2 A s s.heap) (qx qm : Nat → Nat) (hA' : ∀ q, A q → s.heap.size ≤ q) : ∀ (n : Nat) (H : Heap) (locs : List Loc) (ls : Array Slot) (cells slots : Nat) (i : Int32), (0 ≤ i.toInt ∧ i.toInt ≤ (L : Int) + 6 ∧ (L : Int) < i.toInt + 6 * n) → (cells + 2 * n + 400 ≤ 600000 ∧ slots + 128 * n + 80000 ≤ 7302250) → WX0 D A k qx qm H → va_S A s.heap H locs → lv_has ls 4 [(3, .int i), (2, .ref (qm 0)), (1, .ref (qx 0)), (0, .ref b)] → W p l e room_1 s m #[Value.ref b] below meth c H locs cells slots (lw_Z below #[Value.ref b] s) (F0 m 18 ls []) := by
  obtain ⟨hx, hb, hr, hml, hown, hts, hX, hbl, hlocks, hgv⟩ := id C0
  intro n
  induction n with
  | zero =>
    intro H locs ls cells slots i hi hc hW hS hl
    refine lv_iload_n hx hb dL_law_18 rfl (lv_at hl 0 rfl) ?_
    refine lv_aload_n hx hb dL_law_19 rfl (lv_at hl 3 rfl) ?_
    refine va_slen hx hb hX hbl hbA hS dL_law_20 ?_
    refine lv_bipush (v := 6) hx hb dL_law_21 (by decide) ?_
    refine lv_isub hx hb dL_law_23 (lv_topi (fun v e_v => ?_))
    have e_v := ai_sub e_v (nI_toInt (n := L) (by omega)) li_6 (by omega)
    refine lv_icmp_gt (tgt := 1336) hx hb dL_law_24 (by decide) (fun c1 => ?_) (fun c1 => ?_)
    · refine lv_iconst (v := 1) hx hb dL_law_1336 (by decide) ?_
      refine va_forget (fun q hq => hA' _ (hS.2.2 q hq)) ?_
      refine W.widen (k := 600000) (n := 7302250) (by omega) (by omega) ?_
      exact lw_ret hx hb hr hlocks dL_law_1337
    · have c1 := ni_nlt c1 e_v rfl
      exfalso; omega
  | succ n ih =>
    intro H locs ls cells slots i hi hc hW hS hl
    refine lv_iload_n hx hb dL_law_18 rfl (lv_at hl 0 rfl) ?_
    refine lv_aload_n hx hb dL_law_19 rfl (lv_at hl 3 rfl) ?_
    refine va_slen hx hb hX hbl hbA hS dL_law_20 ?_
    refine lv_bipush (v := 6) hx hb dL_law_21 (by decide) ?_
    refine lv_isub hx hb dL_law_23 (lv_topi (fun v e_v => ?_))
    have e_v := ai_sub e_v (nI_toInt (n := L) (by omega)) li_6 (by omega)
    refine lv_icmp_gt (tgt := 1336) hx hb dL_law_24 (by decide) (fun c1 => ?_) (fun c1 => ?_)
    · refine lv_iconst (v := 1) hx hb dL_law_1336 (by decide) ?_
      refine va_forget (fun q hq => hA' _ (hS.2.2 q hq)) ?_
      refine W.widen (k := 600000) (n := 7302250) (by omega) (by omega) ?_
      exact lw_ret hx hb hr hlocks dL_law_1337
    · have c1 := ni_nlt c1 e_v rfl
      have hi6 : 0 ≤ i.toInt ∧ i.toInt + 6 ≤ (L : Int) := by omega
      have kk : ∀ (H : Heap) (locs : List Loc) (ls : Array Slot), WX0 D A k qx qm H → va_S A s.heap H locs → lv_has ls 4 [(3, .int i), (2, .ref (qm 0)), (1, .ref (qx 0)), (0, .ref b)] → W p l e room_1 s m #[Value.ref b] below meth c H locs (cells + 2) (slots + 128) (lw_Z below #[Value.ref b] s) (F0 m 1330 ls []) := fun H locs ls hW hS hl => law_next l C0 hL (by omega) hl (fun i2 ls e2 hl => ih H locs ls _ _ i2 (by omega) (by omega) hW hS hl)
      have kk1 : ∀ (qb : Nat → Nat) (H : Heap) (locs : List Loc) (ls : Array Slot), WX1 D A k qx qm qb H → va_S A s.heap H locs → lv_has ls 4 [(3, .int i), (2, .ref (qm 0)), (1, .ref (qx 0)), (0, .ref b)] → W p l e room_1 s m #[Value.ref b] below meth c H locs (cells + 20) (slots + 17000) (lw_Z below #[Value.ref b] s) (F0 m 1330 ls []) := fun qb H locs ls hW hS hl => law_next l C0 hL (by omega) hl (fun i2 ls e2 hl => law_loop1 l C0 hL hK hA hbA hZ qx qm qb hA' n H locs ls _ _ i2 (by omega) (by omega) hW hS hl)
      refine lv_aload_n hx hb dL_law_27 rfl (lv_at hl 3 rfl) ?_
      refine lv_iload_n hx hb dL_law_28 rfl (lv_at hl 0 rfl) ?_
      refine va_sld hx hb hX hbl hbA hS (vp_in_iff.mpr (by omega)) dL_law_29 ?_
      refine lv_bipush (v := 63) hx hb dL_law_30 (by decide) ?_
      refine lv_iand hx hb dL_law_32 (lv_topi (fun w e_w => ?_))
      have e_w := ai_and 6 e_w (by decide +kernel) (by decide)
      rcases (show w.toInt = 0 ∨ w.toInt = 1 ∨ w.toInt = 2 ∨ w.toInt = 3 ∨ w.toInt = 4 ∨ w.toInt = 5 ∨ w.toInt = 6 ∨ w.toInt = 7 ∨ w.toInt = 8 ∨ w.toInt = 9 ∨ w.toInt = 10 ∨ w.toInt = 11 ∨ w.toInt = 12 ∨ w.toInt = 13 ∨ w.toInt = 14 ∨ w.toInt = 15 ∨ w.toInt = 16 ∨ w.toInt = 17 ∨ w.toInt = 18 ∨ w.toInt = 19 ∨ w.toInt = 20 ∨ w.toInt = 21 ∨ w.toInt = 22 ∨ w.toInt = 23 ∨ w.toInt = 24 ∨ w.toInt = 25 ∨ w.toInt = 26 ∨ w.toInt = 27 ∨ w.toInt = 28 ∨ w.toInt = 29 ∨ w.toInt = 30 ∨ w.toInt = 31 ∨ w.toInt = 32 ∨ w.toInt = 33 ∨ w.toInt = 34 ∨ w.toInt = 35 ∨ 36 ≤ w.toInt by omega) with h | h | h | h | h | h | h | h | h | h | h | h | h | h | h | h | h | h | h | h | h | h | h | h | h | h | h | h | h | h | h | h | h | h | h | h | h
      · refine lv_tableIn (tgt := 192) (off := 159) hx hb dL_law_33 (by omega) (by omega) (by rw [h]; decide +kernel) (by decide) ?_
        exact lc0_size l C0 hL hK hA hbA hZ qx qm hi6 (by omega) hW hS hl kk kk1
      · refine lv_tableIn (tgt := 215) (off := 182) hx hb dL_law_33 (by omega) (by omega) (by rw [h]; decide +kernel) (by decide) ?_
        exact lc0_unit l C0 hL hK hA hbA hZ qx qm hi6 (by omega) hW hS hl kk kk1
      · refine lv_tableIn (tgt := 258) (off := 225) hx hb dL_law_33 (by omega) (by omega) (by rw [h]; decide +kernel) (by decide) ?_
        exact lc0_made l C0 hL hK hA hbA hZ qx qm hi6 (by omega) hW hS hl kk kk1
      · refine lv_tableIn (tgt := 301) (off := 268) hx hb dL_law_33 (by omega) (by omega) (by rw [h]; decide +kernel) (by decide) ?_
        exact lc0_drop l C0 hL hK hA hbA hZ qx qm hi6 (by omega) hW hS hl kk kk1
      · refine lv_tableIn (tgt := 314) (off := 281) hx hb dL_law_33 (by omega) (by omega) (by rw [h]; decide +kernel) (by decide) ?_
        exact lc0_at l C0 hL hK hA hbA hZ qx qm hi6 (by omega) hW hS hl kk kk1
      · refine lv_tableIn (tgt := 357) (off := 324) hx hb dL_law_33 (by omega) (by omega) (by rw [h]; decide +kernel) (by decide) ?_
        exact lc0_of l C0 hL hK hA hbA hZ qx qm hi6 (by omega) hW hS hl kk kk1
      · refine lv_tableIn (tgt := 390) (off := 357) hx hb dL_law_33 (by omega) (by omega) (by rw [h]; decide +kernel) (by decide) ?_
        exact lc0_character l C0 hL hK hA hbA hZ qx qm hi6 (by omega) hW hS hl kk kk1
      · refine lv_tableIn (tgt := 423) (off := 390) hx hb dL_law_33 (by omega) (by omega) (by rw [h]; decide +kernel) (by decide) ?_
        exact lc0_factor l C0 hL hK hA hbA hZ qx qm hi6 (by omega) hW hS hl kk kk1
      · refine lv_tableIn (tgt := 456) (off := 423) hx hb dL_law_33 (by omega) (by omega) (by rw [h]; decide +kernel) (by decide) ?_
        exact lc0_feed l C0 hL hK hA hbA hZ qx qm hi6 (by omega) hW hS hl kk kk1
      · refine lv_tableIn (tgt := 519) (off := 486) hx hb dL_law_33 (by omega) (by omega) (by rw [h]; decide +kernel) (by decide) ?_
        exact lc0_text l C0 hL hK hA hbA hZ qx qm hi6 (by omega) hW hS hl kk kk1
      · refine lv_tableIn (tgt := 532) (off := 499) hx hb dL_law_33 (by omega) (by omega) (by rw [h]; decide +kernel) (by decide) ?_
        exact lc0_listed l C0 hL hK hA hbA hZ qx qm hi6 (by omega) hW hS hl kk kk1
      · refine lv_tableIn (tgt := 545) (off := 512) hx hb dL_law_33 (by omega) (by omega) (by rw [h]; decide +kernel) (by decide) ?_
        exact lc0_whole l C0 hL hK hA hbA hZ qx qm hi6 (by omega) hW hS hl kk kk1
      · refine lv_tableIn (tgt := 558) (off := 525) hx hb dL_law_33 (by omega) (by omega) (by rw [h]; decide +kernel) (by decide) ?_
        exact lc0_element l C0 hL hK hA hbA hZ qx qm hi6 (by omega) hW hS hl kk kk1
      · refine lv_tableIn (tgt := 601) (off := 568) hx hb dL_law_33 (by omega) (by omega) (by rw [h]; decide +kernel) (by decide) ?_
        exact lc0_about l C0 hL hK hA hbA hZ qx qm hi6 (by omega) hW hS hl kk kk1
      · refine lv_tableIn (tgt := 634) (off := 601) hx hb dL_law_33 (by omega) (by omega) (by rw [h]; decide +kernel) (by decide) ?_
        exact lc0_witness l C0 hL hK hA hbA hZ qx qm hi6 (by omega) hW hS hl kk kk1
      · refine lv_tableIn (tgt := 647) (off := 614) hx hb dL_law_33 (by omega) (by omega) (by rw [h]; decide +kernel) (by decide) ?_
        exact lc0_found l C0 hL hK hA hbA hZ qx qm hi6 (by omega) hW hS hl kk kk1
      · refine lv_tableIn (tgt := 670) (off := 637) hx hb dL_law_33 (by omega) (by omega) (by rw [h]; decide +kernel) (by decide) ?_
        exact lc0_middle l C0 hL hK hA hbA hZ qx qm hi6 (by omega) hW hS hl kk kk1
      · refine lv_tableIn (tgt := 683) (off := 650) hx hb dL_law_33 (by omega) (by omega) (by rw [h]; decide +kernel) (by decide) ?_
        exact lc0_form l C0 hL hK hA hbA hZ qx qm hi6 (by omega) hW hS hl kk kk1
      · refine lv_tableIn (tgt := 716) (off := 683) hx hb dL_law_33 (by omega) (by omega) (by rw [h]; decide +kernel) (by decide) ?_
        exact lc0_keeps l C0 hL hK hA hbA hZ qx qm hi6 (by omega) hW hS hl kk kk1
      · refine lv_tableIn (tgt := 749) (off := 716) hx hb dL_law_33 (by omega) (by omega) (by rw [h]; decide +kernel) (by decide) ?_
        exact lc0_image l C0 hL hK hA hbA hZ qx qm hi6 (by omega) hW hS hl kk kk1
      · refine lv_tableIn (tgt := 772) (off := 739) hx hb dL_law_33 (by omega) (by omega) (by rw [h]; decide +kernel) (by decide) ?_
        exact lc0_faithful l C0 hL hK hA hbA hZ qx qm hi6 (by omega) hW hS hl kk kk1
      · refine lv_tableIn (tgt := 795) (off := 762) hx hb dL_law_33 (by omega) (by omega) (by rw [h]; decide +kernel) (by decide) ?_
        exact lc0_orbit l C0 hL hK hA hbA hZ qx qm hi6 (by omega) hW hS hl kk kk1
      · refine lv_tableIn (tgt := 838) (off := 805) hx hb dL_law_33 (by omega) (by omega) (by rw [h]; decide +kernel) (by decide) ?_
        exact lc0_point l C0 hL hK hA hbA hZ qx qm hi6 (by omega) hW hS hl kk kk1
      · refine lv_tableIn (tgt := 871) (off := 838) hx hb dL_law_33 (by omega) (by omega) (by rw [h]; decide +kernel) (by decide) ?_
        exact lc0_round l C0 hL hK hA hbA hZ qx qm hi6 (by omega) hW hS hl kk kk1
      · refine lv_tableIn (tgt := 894) (off := 861) hx hb dL_law_33 (by omega) (by omega) (by rw [h]; decide +kernel) (by decide) ?_
        exact lc0_still l C0 hL hK hA hbA hZ qx qm hi6 (by omega) hW hS hl kk kk1
      · refine lv_tableIn (tgt := 937) (off := 904) hx hb dL_law_33 (by omega) (by omega) (by rw [h]; decide +kernel) (by decide) ?_
        exact lc0_seed l C0 hL hK hA hbA hZ qx qm hi6 (by omega) hW hS hl kk kk1
      · refine lv_tableIn (tgt := 960) (off := 927) hx hb dL_law_33 (by omega) (by omega) (by rw [h]; decide +kernel) (by decide) ?_
        exact lc0_lot l C0 hL hK hA hbA hZ qx qm hi6 (by omega) hW hS hl kk kk1
      · refine lv_tableIn (tgt := 983) (off := 950) hx hb dL_law_33 (by omega) (by omega) (by rw [h]; decide +kernel) (by decide) ?_
        exact lc0_sheet l C0 hL hK hA hbA hZ qx qm hi6 (by omega) hW hS hl kk kk1
      · refine lv_tableIn (tgt := 1026) (off := 993) hx hb dL_law_33 (by omega) (by omega) (by rw [h]; decide +kernel) (by decide) ?_
        exact lc0_put l C0 hL hK hA hbA hZ qx qm hi6 (by omega) hW hS hl kk kk1
      · refine lv_tableIn (tgt := 1099) (off := 1066) hx hb dL_law_33 (by omega) (by omega) (by rw [h]; decide +kernel) (by decide) ?_
        exact lc0_item l C0 hL hK hA hbA hZ qx qm hi6 (by omega) hW hS hl kk kk1
      · refine lv_tableIn (tgt := 1142) (off := 1109) hx hb dL_law_33 (by omega) (by omega) (by rw [h]; decide +kernel) (by decide) ?_
        exact lc0_copy l C0 hL hK hA hbA hZ qx qm hi6 (by omega) hW hS hl kk kk1
      · refine lv_tableIn (tgt := 1205) (off := 1172) hx hb dL_law_33 (by omega) (by omega) (by rw [h]; decide +kernel) (by decide) ?_
        exact lc0_lay l C0 hL hK hA hbA hZ qx qm hi6 (by omega) hW hS hl kk kk1
      · refine lv_tableIn (tgt := 1248) (off := 1215) hx hb dL_law_33 (by omega) (by omega) (by rw [h]; decide +kernel) (by decide) ?_
        exact lc0_take l C0 hL hK hA hbA hZ qx qm hi6 (by omega) hW hS hl kk kk1
      · refine lv_tableIn (tgt := 1281) (off := 1248) hx hb dL_law_33 (by omega) (by omega) (by rw [h]; decide +kernel) (by decide) ?_
        exact lc0_many l C0 hL hK hA hbA hZ qx qm hi6 (by omega) hW hS hl kk kk1
      · refine lv_tableIn (tgt := 1304) (off := 1271) hx hb dL_law_33 (by omega) (by omega) (by rw [h]; decide +kernel) (by decide) ?_
        exact lc0_keep l C0 hL hK hA hbA hZ qx qm hi6 (by omega) hW hS hl kk kk1
      · refine lv_tableIn (tgt := 1317) (off := 1284) hx hb dL_law_33 (by omega) (by omega) (by rw [h]; decide +kernel) (by decide) ?_
        exact lc0_again l C0 hL hK hA hbA hZ qx qm hi6 (by omega) hW hS hl kk kk1
      · refine lv_tableOut (tgt := 1330) hx hb dL_law_33 (Or.inr (by omega)) (by decide) ?_
        refine W.widen (k := cells + 2) (n := slots + 128) (by omega) (by omega) ?_
        exact kk H locs ls hW hS hl
