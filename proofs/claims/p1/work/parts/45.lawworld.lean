theorem nest_ok {args : Array Value} {s : State} (hts : ∀ w ∈ lw_tbl, w.before args s = true) : kN s := by
  intro q hq
  simp only [nestL, List.mem_cons, List.not_mem_nil, or_false] at hq
  rcases hq with rfl | rfl | rfl | rfl | rfl | rfl
  · exact va_Nw.of rfl (hts _ (List.mem_of_getElem? (i := 88) (by decide +kernel)))
  · exact va_Nw.of rfl (hts _ (List.mem_of_getElem? (i := 116) (by decide +kernel)))
  · exact va_Nw.of rfl (hts _ (List.mem_of_getElem? (i := 200) (by decide +kernel)))
  · exact va_Nw.of rfl (hts _ (List.mem_of_getElem? (i := 217) (by decide +kernel)))
  · exact va_Nw.of rfl (hts _ (List.mem_of_getElem? (i := 227) (by decide +kernel)))
  · exact va_Nw.of rfl (hts _ (List.mem_of_getElem? (i := 233) (by decide +kernel)))
set_option maxHeartbeats 8000000 in
set_option maxRecDepth 100000 in
theorem world_known {args : Array Value} {s : State} (hts : ∀ w ∈ lw_tbl, w.before args s = true) : ∃ (D : va_G) (k : Nat → ClassId), kX D k s := by
  have hU : ∀ w ∈ uw, w.before args s = true := fun w h => hts w (List.mem_filter.mp h).1
  have hAO : va_AO "FiniteMatrices$Sheet" s := va_AO.of (hts _ (List.mem_of_getElem? (i := 142) (by decide +kernel)))
  obtain ⟨k0, a0, b0⟩ := arr_of (hU _ w194) (fun C h => by cases h)
  obtain ⟨k1, a1, b1⟩ := arr_of (hU _ w113) (fun C h => by cases h)
  obtain ⟨k2, a2, b2⟩ := arr_of (hU _ w140) (fun C h => by cases h)
  obtain ⟨k3, a3, b3⟩ := arr_ofO hAO
  obtain ⟨c0, i0, n0⟩ := u_known (C := RX0) (T := TX0) (N := 1) (n := 1) hU iX0 (hU _ w223)
  obtain ⟨c1, i1, n1⟩ := u_known (C := RX1) (T := TX1) (N := 1) (n := 1) hU iX1 (hU _ w213)
  obtain ⟨c2, i2, n2⟩ := u_known (C := RX2) (T := TX2) (N := 2) (n := 2) hU iX2 (hU _ w196)
  obtain ⟨c3, i3, n3⟩ := u_known (C := RX4) (T := TX4) (N := 12) (n := 12) hU iX4 (hU _ w144)
  obtain ⟨c4, i4, n4⟩ := u_known (C := RX5) (T := TX5) (N := 4) (n := 4) hU iX5 (hU _ w87)
  obtain ⟨c5, i5, n5⟩ := u_known (C := RX6) (T := TX6) (N := 3) (n := 3) hU iX6 (hU _ w232)
  obtain ⟨c6, i6, n6⟩ := u_known (C := RX9) (T := TX9) (N := 5) (n := 5) hU iX9 (hU _ w115)
  obtain ⟨c7, i7, n7⟩ := u_known (C := RX10) (T := TX10) (N := 17) (n := 17) hU iX10 (hU _ w79)
  obtain ⟨c8, i8, n8⟩ := u_known (C := RX11) (T := TX11) (N := 36) (n := 36) hU iX11 (hU _ w780)
  refine ⟨(fun j => [c0, c1, c2, c3, c4, c5, c6, c7, c8].getD j 0, fun j => [i0, i1, i2, i3, i4, i5, i6, i7, i8].getD j (fun _ => 0)), fun j => [k0, k1, k2, k3].getD j 0, ⟨⟨?_, ?_⟩, nest_ok hts, hAO⟩⟩
  · intro j q hq
    match j, hq with
    | 0, hq => cases hq; exact n0
    | 1, hq => cases hq; exact n1
    | 2, hq => cases hq; exact n2
    | 3, hq => cases hq; exact n3
    | 4, hq => cases hq; exact n4
    | 5, hq => cases hq; exact n5
    | 6, hq => cases hq; exact n6
    | 7, hq => cases hq; exact n7
    | 8, hq => cases hq; exact n8
    | j + 9, hq => simp [cl0] at hq
  · intro j q hq
    match j, hq with
    | 0, hq => cases hq; exact ⟨a0, b0⟩
    | 1, hq => cases hq; exact ⟨a1, b1⟩
    | 2, hq => cases hq; exact ⟨a2, b2⟩
    | 3, hq => cases hq; exact ⟨a3, b3⟩
    | j + 4, hq => simp at hq
set_option maxHeartbeats 8000000 in
set_option maxRecDepth 100000 in
theorem law_head {p : Program} {e : Env} {s : State} {m : MethodId} {below : List Frame} {meth : Method} {c : Code} (l : Launch) {b L : Nat} {xs : Nat → Int32} (hL : L ≤ 6) (C0 : lw_At p s m meth c b L xs) {D : va_G} {k : Nat → ClassId} (hK : kX D k s) {A : Nat → Prop} (hA : ∀ q, s.heap.size ≤ q → A q) (hA' : ∀ q, A q → s.heap.size ≤ q) (hbA : ¬ A b) (qx qm : Nat → Nat) (H : Heap) (locs : List Loc) (ls : Array Slot) (hP : va_P D cl0 (XW k qx ++ MW k qm) H) (hD : va_D A (XW k qx ++ MW k qm)) (hS : va_S A s.heap H locs) (hl : lv_has ls 4 [(3, .int 0), (2, .ref (qm 0)), (1, .ref (qx 0)), (0, .ref b)]) : W p l e room_1 s m #[Value.ref b] below meth c H locs 63 17884 (lw_Z below #[Value.ref b] s) (F0 m 18 ls []) := by
  obtain ⟨hx, hb, hr, hml, hown, hts, hX, hbl, hlocks, hgv⟩ := id C0
  rcases (show L < 6 ∨ L = 6 by omega) with h6 | h6
  · have hlt : Int32.ofNat L - 6 < 0 := by
      rcases (show L = 0 ∨ L = 1 ∨ L = 2 ∨ L = 3 ∨ L = 4 ∨ L = 5 by omega) with rfl | rfl | rfl | rfl | rfl | rfl <;> decide +kernel
    refine lv_iload_n hx hb dL_law_18 rfl (lv_at hl 0 rfl) ?_
    refine lv_aload_n hx hb dL_law_19 rfl (lv_at hl 3 rfl) ?_
    refine va_slen hx hb hX hbl hbA hS dL_law_20 ?_
    refine lv_bipush (v := 6) hx hb dL_law_21 (by decide) ?_
    refine lv_isub hx hb dL_law_23 ?_
    refine lv_icmp_gt (tgt := 1339) hx hb dL_law_24 (by decide) (fun _ => ?_) (fun cc => absurd hlt cc)
    refine lv_iconst (v := 1) hx hb dL_law_1339 (by decide) ?_
    refine va_forget (fun q hq => hA' _ (hS.2.2 q hq)) ?_
    refine W.widen (k := 600000) (n := 7302250) (Nat.le_of_ble_eq_true rfl) (Nat.le_of_ble_eq_true rfl) ?_
    exact lw_ret hx hb hr hlocks dL_law_1340
  · subst h6
    refine lv_iload_n hx hb dL_law_18 rfl (lv_at hl 0 rfl) ?_
    refine lv_aload_n hx hb dL_law_19 rfl (lv_at hl 3 rfl) ?_
    refine va_slen hx hb hX hbl hbA hS dL_law_20 ?_
    refine lv_bipush (v := 6) hx hb dL_law_21 (by decide) ?_
    refine lv_isub hx hb dL_law_23 (sv_i (v := 0) (by decide +kernel) ?_)
    refine lv_icmp_gt (tgt := 1339) hx hb dL_law_24 (by decide) (fun cc => absurd cc (by decide +kernel)) (fun _ => ?_)
    refine lv_aload_n hx hb dL_law_27 rfl (lv_at hl 3 rfl) ?_
    refine lv_iload_n hx hb dL_law_28 rfl (lv_at hl 0 rfl) ?_
    refine va_sld hx hb hX hbl hbA hS (ix_in (j := 0) (by decide +kernel)).1 dL_law_29 ?_
    refine lv_bipush (v := 63) hx hb dL_law_30 (by decide) ?_
    refine lv_iand hx hb dL_law_32 ?_
    obtain ⟨j, hj, hop⟩ := pk_andE (xs (Int32.toNatClampNeg 0)) (m := 63) 6 (by decide +kernel)
    refine sv_i hop ?_
    rcases (show j = 0 ∨ j = 1 ∨ j = 2 ∨ j = 3 ∨ j = 4 ∨ j = 5 ∨ j = 6 ∨ j = 7 ∨ j = 8 ∨ j = 9 ∨ j = 10 ∨ j = 11 ∨ j = 12 ∨ j = 13 ∨ j = 14 ∨ j = 15 ∨ j = 16 ∨ j = 17 ∨ j = 18 ∨ j = 19 ∨ j = 20 ∨ j = 21 ∨ j = 22 ∨ j = 23 ∨ j = 24 ∨ j = 25 ∨ j = 26 ∨ j = 27 ∨ j = 28 ∨ j = 29 ∨ j = 30 ∨ j = 31 ∨ j = 32 ∨ j = 33 ∨ j = 34 ∨ j = 35 ∨ 36 ≤ j by omega) with rfl | rfl | rfl | rfl | rfl | rfl | rfl | rfl | rfl | rfl | rfl | rfl | rfl | rfl | rfl | rfl | rfl | rfl | rfl | rfl | rfl | rfl | rfl | rfl | rfl | rfl | rfl | rfl | rfl | rfl | rfl | rfl | rfl | rfl | rfl | rfl | hj36
    · refine lv_tableIn (tgt := 192) (off := 159) hx hb dL_law_33 (by decide +kernel) (by decide +kernel) (by decide +kernel) (by decide) ?_
      exact law_size l C0 hK hA hA' hbA qx qm hP hD hS hl
    · refine lv_tableIn (tgt := 215) (off := 182) hx hb dL_law_33 (by decide +kernel) (by decide +kernel) (by decide +kernel) (by decide) ?_
      exact law_unit l C0 hK hA hA' hbA qx qm hP hD hS hl
    · refine lv_tableIn (tgt := 258) (off := 225) hx hb dL_law_33 (by decide +kernel) (by decide +kernel) (by decide +kernel) (by decide) ?_
      exact law_made l C0 hK hA hA' hbA qx qm hP hD hS hl
    · refine lv_tableIn (tgt := 301) (off := 268) hx hb dL_law_33 (by decide +kernel) (by decide +kernel) (by decide +kernel) (by decide) ?_
      exact law_drop l C0 hK hA hA' hbA qx qm hP hD hS hl
    · refine lv_tableIn (tgt := 314) (off := 281) hx hb dL_law_33 (by decide +kernel) (by decide +kernel) (by decide +kernel) (by decide) ?_
      exact law_at l C0 hK hA hA' hbA qx qm hP hD hS hl
    · refine lv_tableIn (tgt := 357) (off := 324) hx hb dL_law_33 (by decide +kernel) (by decide +kernel) (by decide +kernel) (by decide) ?_
      exact law_of l C0 hK hA hA' hbA qx qm hP hD hS hl
    · refine lv_tableIn (tgt := 390) (off := 357) hx hb dL_law_33 (by decide +kernel) (by decide +kernel) (by decide +kernel) (by decide) ?_
      exact law_character l C0 hK hA hA' hbA qx qm hP hD hS hl
    · refine lv_tableIn (tgt := 423) (off := 390) hx hb dL_law_33 (by decide +kernel) (by decide +kernel) (by decide +kernel) (by decide) ?_
      exact law_factor l C0 hK hA hA' hbA qx qm hP hD hS hl
    · refine lv_tableIn (tgt := 456) (off := 423) hx hb dL_law_33 (by decide +kernel) (by decide +kernel) (by decide +kernel) (by decide) ?_
      exact law_feed l C0 hK hA hA' hbA qx qm hP hD hS hl
    · refine lv_tableIn (tgt := 519) (off := 486) hx hb dL_law_33 (by decide +kernel) (by decide +kernel) (by decide +kernel) (by decide) ?_
      exact law_text l C0 hK hA hA' hbA qx qm hP hD hS hl
    · refine lv_tableIn (tgt := 532) (off := 499) hx hb dL_law_33 (by decide +kernel) (by decide +kernel) (by decide +kernel) (by decide) ?_
      exact law_listed l C0 hK hA hA' hbA qx qm hP hD hS hl
    · refine lv_tableIn (tgt := 545) (off := 512) hx hb dL_law_33 (by decide +kernel) (by decide +kernel) (by decide +kernel) (by decide) ?_
      exact law_whole l C0 hK hA hA' hbA qx qm hP hD hS hl
    · refine lv_tableIn (tgt := 558) (off := 525) hx hb dL_law_33 (by decide +kernel) (by decide +kernel) (by decide +kernel) (by decide) ?_
      exact law_element l C0 hK hA hA' hbA qx qm hP hD hS hl
    · refine lv_tableIn (tgt := 602) (off := 569) hx hb dL_law_33 (by decide +kernel) (by decide +kernel) (by decide +kernel) (by decide) ?_
      exact law_about l C0 hK hA hA' hbA qx qm hP hD hS hl
    · refine lv_tableIn (tgt := 635) (off := 602) hx hb dL_law_33 (by decide +kernel) (by decide +kernel) (by decide +kernel) (by decide) ?_
      exact law_witness l C0 hK hA hA' hbA qx qm hP hD hS hl
    · refine lv_tableIn (tgt := 648) (off := 615) hx hb dL_law_33 (by decide +kernel) (by decide +kernel) (by decide +kernel) (by decide) ?_
      exact law_found l C0 hK hA hA' hbA qx qm hP hD hS hl
    · refine lv_tableIn (tgt := 671) (off := 638) hx hb dL_law_33 (by decide +kernel) (by decide +kernel) (by decide +kernel) (by decide) ?_
      exact law_middle l C0 hK hA hA' hbA qx qm hP hD hS hl
    · refine lv_tableIn (tgt := 684) (off := 651) hx hb dL_law_33 (by decide +kernel) (by decide +kernel) (by decide +kernel) (by decide) ?_
      exact law_form l C0 hK hA hA' hbA qx qm hP hD hS hl
    · refine lv_tableIn (tgt := 718) (off := 685) hx hb dL_law_33 (by decide +kernel) (by decide +kernel) (by decide +kernel) (by decide) ?_
      exact law_keeps l C0 hK hA hA' hbA qx qm hP hD hS hl
    · refine lv_tableIn (tgt := 751) (off := 718) hx hb dL_law_33 (by decide +kernel) (by decide +kernel) (by decide +kernel) (by decide) ?_
      exact law_image l C0 hK hA hA' hbA qx qm hP hD hS hl
    · refine lv_tableIn (tgt := 774) (off := 741) hx hb dL_law_33 (by decide +kernel) (by decide +kernel) (by decide +kernel) (by decide) ?_
      exact law_faithful l C0 hK hA hA' hbA qx qm hP hD hS hl
    · refine lv_tableIn (tgt := 797) (off := 764) hx hb dL_law_33 (by decide +kernel) (by decide +kernel) (by decide +kernel) (by decide) ?_
      exact law_orbit l C0 hK hA hA' hbA qx qm hP hD hS hl
    · refine lv_tableIn (tgt := 840) (off := 807) hx hb dL_law_33 (by decide +kernel) (by decide +kernel) (by decide +kernel) (by decide) ?_
      exact law_point l C0 hK hA hA' hbA qx qm hP hD hS hl
    · refine lv_tableIn (tgt := 874) (off := 841) hx hb dL_law_33 (by decide +kernel) (by decide +kernel) (by decide +kernel) (by decide) ?_
      exact law_round l C0 hK hA hA' hbA qx qm hP hD hS hl
    · refine lv_tableIn (tgt := 897) (off := 864) hx hb dL_law_33 (by decide +kernel) (by decide +kernel) (by decide +kernel) (by decide) ?_
      exact law_still l C0 hK hA hA' hbA qx qm hP hD hS hl
    · refine lv_tableIn (tgt := 940) (off := 907) hx hb dL_law_33 (by decide +kernel) (by decide +kernel) (by decide +kernel) (by decide) ?_
      exact law_seed l C0 hK hA hA' hbA qx qm hP hD hS hl
    · refine lv_tableIn (tgt := 963) (off := 930) hx hb dL_law_33 (by decide +kernel) (by decide +kernel) (by decide +kernel) (by decide) ?_
      exact law_lot l C0 hK hA hA' hbA qx qm hP hD hS hl
    · refine lv_tableIn (tgt := 986) (off := 953) hx hb dL_law_33 (by decide +kernel) (by decide +kernel) (by decide +kernel) (by decide) ?_
      exact law_sheet l C0 hK hA hA' hbA qx qm hP hD hS hl
    · refine lv_tableIn (tgt := 1029) (off := 996) hx hb dL_law_33 (by decide +kernel) (by decide +kernel) (by decide +kernel) (by decide) ?_
      exact law_put l C0 hK hA hA' hbA qx qm hP hD hS hl
    · refine lv_tableIn (tgt := 1102) (off := 1069) hx hb dL_law_33 (by decide +kernel) (by decide +kernel) (by decide +kernel) (by decide) ?_
      exact law_item l C0 hK hA hA' hbA qx qm hP hD hS hl
    · refine lv_tableIn (tgt := 1145) (off := 1112) hx hb dL_law_33 (by decide +kernel) (by decide +kernel) (by decide +kernel) (by decide) ?_
      exact law_copy l C0 hK hA hA' hbA qx qm hP hD hS hl
    · refine lv_tableIn (tgt := 1208) (off := 1175) hx hb dL_law_33 (by decide +kernel) (by decide +kernel) (by decide +kernel) (by decide) ?_
      exact law_lay l C0 hK hA hA' hbA qx qm hP hD hS hl
    · refine lv_tableIn (tgt := 1251) (off := 1218) hx hb dL_law_33 (by decide +kernel) (by decide +kernel) (by decide +kernel) (by decide) ?_
      exact law_take l C0 hK hA hA' hbA qx qm hP hD hS hl
    · refine lv_tableIn (tgt := 1284) (off := 1251) hx hb dL_law_33 (by decide +kernel) (by decide +kernel) (by decide +kernel) (by decide) ?_
      exact law_many l C0 hK hA hA' hbA qx qm hP hD hS hl
    · refine lv_tableIn (tgt := 1307) (off := 1274) hx hb dL_law_33 (by decide +kernel) (by decide +kernel) (by decide +kernel) (by decide) ?_
      exact law_keep l C0 hK hA hA' hbA qx qm hP hD hS hl
    · refine lv_tableIn (tgt := 1320) (off := 1287) hx hb dL_law_33 (by decide +kernel) (by decide +kernel) (by decide +kernel) (by decide) ?_
      exact law_again l C0 hK hA hA' hbA qx qm hP hD hS hl
    · refine lv_tableOut (tgt := 1333) hx hb dL_law_33 (Or.inr (by rw [nI_toInt (by omega)]; omega)) (by decide) ?_
      exact law_end l C0 hA' hbA (Nat.le_of_ble_eq_true rfl) (Nat.le_of_ble_eq_true rfl) hS (lv_sub hl [0, 3] rfl)
