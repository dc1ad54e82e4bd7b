set_option maxHeartbeats 4000000 in
set_option maxRecDepth 100000 in
theorem law_element {p : Program} {e : Env} {s : State} {m : MethodId} {below : List Frame} {meth : Method} {c : Code} (l : Launch) {b : Nat} {xs : Nat → Int32} (C0 : lw_At p s m meth c b 6 xs) {D : va_G} {k : Nat → ClassId} (hK : kX D k s) {A : Nat → Prop} (hA : ∀ q, s.heap.size ≤ q → A q) (hA' : ∀ q, A q → s.heap.size ≤ q) (hbA : ¬ A b) (qx qm : Nat → Nat) {H : Heap} {locs : List Loc} {ls : Array Slot} (hP : va_P D cl0 (XW k qx ++ MW k qm) H) (hD : va_D A (XW k qx ++ MW k qm)) (hS : va_S A s.heap H locs) (hl : lv_has ls 4 [(3, .int 0), (2, .ref (qm 0)), (1, .ref (qx 0)), (0, .ref b)]) : W p l e room_1 s m #[Value.ref b] below meth c H locs 63 17884 (lw_Z below #[Value.ref b] s) (F0 m 558 ls []) := by
  obtain ⟨hx, hb, hr, hml, hown, hts, hX, hbl, hlocks, hgv⟩ := id C0
  have hU : ∀ w ∈ uw, w.before #[Value.ref b] s = true := fun w h => hts w (List.mem_filter.mp h).1
  refine lv_aload_n hx hb dL_law_558 rfl (lv_at hl 2 rfl) ?_
  refine lv_aload_n hx hb dL_law_559 rfl (lv_at hl 3 rfl) ?_
  refine lv_iload_n hx hb dL_law_560 rfl (lv_at hl 0 rfl) ?_
  refine lv_iconst (v := 1) hx hb dL_law_561 (by decide) ?_
  refine lv_iadd hx hb dL_law_562 (sv_i (v := 1) (by decide +kernel) ?_)
  refine va_sld hx hb hX hbl hbA hS (ix_in (j := 1) (by decide +kernel)).1 dL_law_563 (sv_i (v := xs 1) (by rw [(ix_in (j := 1) (n := 6) (by decide +kernel)).2]) ?_)
  refine lv_aload_n hx hb dL_law_564 rfl (lv_at hl 3 rfl) ?_
  refine lv_iload_n hx hb dL_law_565 rfl (lv_at hl 0 rfl) ?_
  refine lv_iconst (v := 2) hx hb dL_law_566 (by decide) ?_
  refine lv_iadd hx hb dL_law_567 (sv_i (v := 2) (by decide +kernel) ?_)
  refine va_sld hx hb hX hbl hbA hS (ix_in (j := 2) (by decide +kernel)).1 dL_law_568 (sv_i (v := xs 2) (by rw [(ix_in (j := 2) (n := 6) (by decide +kernel)).2]) ?_)
  refine lv_aload_n hx hb dL_law_569 rfl (lv_at hl 3 rfl) ?_
  refine lv_iload_n hx hb dL_law_570 rfl (lv_at hl 0 rfl) ?_
  refine lv_iconst (v := 3) hx hb dL_law_571 (by decide) ?_
  refine lv_iadd hx hb dL_law_572 (sv_i (v := 3) (by decide +kernel) ?_)
  refine va_sld hx hb hX hbl hbA hS (ix_in (j := 3) (by decide +kernel)).1 dL_law_573 (sv_i (v := xs 3) (by rw [(ix_in (j := 3) (n := 6) (by decide +kernel)).2]) ?_)
  refine cL (rV (q0 := 0) (ci := 7) (As := [.int (xs 1), .int (xs 2), .int (xs 3)]) (rest := []) (wc := [((qx 0), .inr (7, [.ref (qx 1), .ref (qx 3), .int 0, .ref (qx 5), .ref (qx 8), .ref (qx 9), .int 0, .ref (qx 18), .int 0, .null, .ref (qx 27), .int 0, .ref (qx 28), .ref (qx 29), .ref (qx 30), .ref (qx 31), .ref (qx 32)])), ((qx 1), .inr (4, [.int 2, .int 0, .int 1, .ref (qx 2)])), ((qx 9), .inr (3, [.ref (qx 11), .ref (qx 12), .ref (qx 13), .ref (qx 14), .ref (qx 15), .ref (qx 16), .ref (qx 17), .ref (qx 10), .int 0, .int 0, .int 0, .int 0])), ((qx 11), .inl (k 1, 900, .inr (.inl (tL [] 0)))), ((qx 12), .inl (k 0, 100, .inl (tI [] 0))), ((qx 13), .inl (k 0, 100, .inl (tI [] 0))), ((qx 14), .inl (k 0, 100, .inl (tI [] 0))), ((qx 16), .inl (k 0, 256, .inl (tI [] 0))), ((qx 17), .inl (k 0, 100, .inl (tI [] 0))), ((qx 28), .inr (2, [.ref (qx 1), .int 0])), ((qx 31), .inl (k 1, 9, .inr (.inl (tL [] 0))))]) hx hb hml hown hU hK hP hD rfl rfl [0, 1, 9, 11, 12, 13, 14, 16, 17, 28, 31] rfl (by decide) (cX10_element_1 l D k _ (qx 0) (qx 1) (qx 9) (qx 11) (qx 12) (qx 13) (qx 14) (qx 16) (qx 17) (qx 28) (qx 31) (qx 3) (qx 5) (qx 8) (qx 18) (qx 27) (qx 29) (qx 30) (qx 32) (qx 2) (qx 15) (qx 10) ((xs 1)) ((xs 2)) ((xs 3))) w568 w565 w566 w567 w63 hdX10_element ⟨rfl, rfl⟩ ⟨Nat.le_of_ble_eq_true rfl, Nat.le_of_ble_eq_true rfl⟩ rfl hl.1 (Nat.le_of_ble_eq_true rfl) dL_law_574 ⟨Nat.le_of_ble_eq_true rfl, Nat.le_of_ble_eq_true rfl⟩) hP hD hS hA (wr := MW k qm) [0, 1, 9, 11, 12, 13, 14, 16, 17, 28, 31] [41, 42, 43, 44, 45, 46, 47, 48, 49, 50, 51, 52, 53, 54, 55, 56, 57, 58, 59, 60, 61, 62] rfl rfl (by decide) (by decide) (fun r1 H locs hB J hS => ?_)
  obtain rfl := hB
  obtain ⟨hP, hD⟩ := J.nil
  refine lv_aload_n hx hb dL_law_577 rfl (lv_at hl 1 rfl) ?_
  refine lv_aload_n hx hb dL_law_578 rfl (lv_at hl 3 rfl) ?_
  refine lv_iload_n hx hb dL_law_579 rfl (lv_at hl 0 rfl) ?_
  refine lv_iconst (v := 1) hx hb dL_law_580 (by decide) ?_
  refine lv_iadd hx hb dL_law_581 (sv_i (v := 1) (by decide +kernel) ?_)
  refine va_sld hx hb hX hbl hbA hS (ix_in (j := 1) (by decide +kernel)).1 dL_law_582 (sv_i (v := xs 1) (by rw [(ix_in (j := 1) (n := 6) (by decide +kernel)).2]) ?_)
  refine lv_aload_n hx hb dL_law_583 rfl (lv_at hl 3 rfl) ?_
  refine lv_iload_n hx hb dL_law_584 rfl (lv_at hl 0 rfl) ?_
  refine lv_iconst (v := 2) hx hb dL_law_585 (by decide) ?_
  refine lv_iadd hx hb dL_law_586 (sv_i (v := 2) (by decide +kernel) ?_)
  refine va_sld hx hb hX hbl hbA hS (ix_in (j := 2) (by decide +kernel)).1 dL_law_587 (sv_i (v := xs 2) (by rw [(ix_in (j := 2) (n := 6) (by decide +kernel)).2]) ?_)
  refine lv_aload_n hx hb dL_law_588 rfl (lv_at hl 3 rfl) ?_
  refine lv_iload_n hx hb dL_law_589 rfl (lv_at hl 0 rfl) ?_
  refine lv_iconst (v := 3) hx hb dL_law_590 (by decide) ?_
  refine lv_iadd hx hb dL_law_591 (sv_i (v := 3) (by decide +kernel) ?_)
  refine va_sld hx hb hX hbl hbA hS (ix_in (j := 3) (by decide +kernel)).1 dL_law_592 (sv_i (v := xs 3) (by rw [(ix_in (j := 3) (n := 6) (by decide +kernel)).2]) ?_)
  refine cL (rV (q0 := 0) (ci := 8) (As := [.int (xs 1), .int (xs 2), .int (xs 3)]) (rest := [.long (F_element ((xs 1)) ((xs 2)) ((xs 3)))]) (wc := [((qm 0), .inr (8, [.int 2, .int 0, .int 1, .int 0, .int 0, .int 0, .ref (qm 1), .ref (qm 2), .int 0, .int 0, .ref (qm 3), .ref (qm 4), .ref (qm 5), .ref (qm 6), .ref (qm 7), .ref (qm 8), .ref (qm 9), .int 0, .int 0, .int 0, .ref (qm 10), .ref (qm 11), .ref (qm 12), .ref (qm 13), .int 0, .int 0, .ref (qm 14), .ref (qm 15), .ref (qm 16), .ref (qm 17), .int 0, .int 0, .ref (qm 18), .ref (qm 19), .ref (qm 20), .ref (qm 21)])), ((qm 4), .inl (k 1, 9, .inr (.inl (tL [] 0)))), ((qm 10), .inl (k 1, 900, .inr (.inl (tL [] 0)))), ((qm 11), .inl (k 0, 100, .inl (tI [] 0))), ((qm 12), .inl (k 0, 100, .inl (tI [] 0))), ((qm 13), .inl (k 0, 100, .inl (tI [] 0)))]) hx hb hml hown hU hK hP hD rfl rfl [0, 4, 10, 11, 12, 13] rfl (by decide) (cX11_element_1 l D k _ (qm 0) (qm 4) (qm 10) (qm 11) (qm 12) (qm 13) (qm 1) (qm 2) (qm 3) (qm 5) (qm 6) (qm 7) (qm 8) (qm 9) (qm 14) (qm 15) (qm 16) (qm 17) (qm 18) (qm 19) (qm 20) (qm 21) ((xs 1)) ((xs 2)) ((xs 3))) w1059 w1056 w1057 w1058 w72 hdX11_element ⟨rfl, rfl⟩ ⟨Nat.le_of_ble_eq_true rfl, Nat.le_of_ble_eq_true rfl⟩ rfl hl.1 (Nat.le_of_ble_eq_true rfl) dL_law_593 ⟨Nat.le_of_ble_eq_true rfl, Nat.le_of_ble_eq_true rfl⟩) hP hD hS hA (wr := []) [0, 4, 10, 11, 12, 13] [] rfl rfl (by decide) (by decide) (fun r2 H locs hB J hS => ?_)
  obtain rfl := hB
  refine W.lcmp hx hb dL_law_596 (sv_i (v := 0) ((lg_cmp_eq _ _).mpr rfl) ?_)
  refine lv_if_eq (tgt := 1333) hx hb dL_law_597 (by decide) (fun _ => ?_) (fun cc => absurd rfl cc)
  exact law_end l C0 hA' hbA (Nat.le_of_ble_eq_true rfl) (Nat.le_of_ble_eq_true rfl) hS (lv_sub hl [0, 3] rfl)
set_option maxHeartbeats 4000000 in
set_option maxRecDepth 100000 in
theorem law_about {p : Program} {e : Env} {s : State} {m : MethodId} {below : List Frame} {meth : Method} {c : Code} (l : Launch) {b : Nat} {xs : Nat → Int32} (C0 : lw_At p s m meth c b 6 xs) {D : va_G} {k : Nat → ClassId} (hK : kX D k s) {A : Nat → Prop} (hA : ∀ q, s.heap.size ≤ q → A q) (hA' : ∀ q, A q → s.heap.size ≤ q) (hbA : ¬ A b) (qx qm : Nat → Nat) {H : Heap} {locs : List Loc} {ls : Array Slot} (hP : va_P D cl0 (XW k qx ++ MW k qm) H) (hD : va_D A (XW k qx ++ MW k qm)) (hS : va_S A s.heap H locs) (hl : lv_has ls 4 [(3, .int 0), (2, .ref (qm 0)), (1, .ref (qx 0)), (0, .ref b)]) : W p l e room_1 s m #[Value.ref b] below meth c H locs 63 17884 (lw_Z below #[Value.ref b] s) (F0 m 602 ls []) := by
  obtain ⟨hx, hb, hr, hml, hown, hts, hX, hbl, hlocks, hgv⟩ := id C0
  have hU : ∀ w ∈ uw, w.before #[Value.ref b] s = true := fun w h => hts w (List.mem_filter.mp h).1
  refine lv_aload_n hx hb dL_law_602 rfl (lv_at hl 2 rfl) ?_
  refine lv_aload_n hx hb dL_law_603 rfl (lv_at hl 3 rfl) ?_
  refine lv_iload_n hx hb dL_law_604 rfl (lv_at hl 0 rfl) ?_
  refine lv_iconst (v := 1) hx hb dL_law_605 (by decide) ?_
  refine lv_iadd hx hb dL_law_606 (sv_i (v := 1) (by decide +kernel) ?_)
  refine va_sld hx hb hX hbl hbA hS (ix_in (j := 1) (by decide +kernel)).1 dL_law_607 (sv_i (v := xs 1) (by rw [(ix_in (j := 1) (n := 6) (by decide +kernel)).2]) ?_)
  refine lv_aload_n hx hb dL_law_608 rfl (lv_at hl 3 rfl) ?_
  refine lv_iload_n hx hb dL_law_609 rfl (lv_at hl 0 rfl) ?_
  refine lv_iconst (v := 2) hx hb dL_law_610 (by decide) ?_
  refine lv_iadd hx hb dL_law_611 (sv_i (v := 2) (by decide +kernel) ?_)
  refine va_sld hx hb hX hbl hbA hS (ix_in (j := 2) (by decide +kernel)).1 dL_law_612 (sv_i (v := xs 2) (by rw [(ix_in (j := 2) (n := 6) (by decide +kernel)).2]) ?_)
  refine cI (rV (q0 := 0) (ci := 7) (As := [.int (xs 1), .int (xs 2)]) (rest := []) (wc := [((qx 0), .inr (7, [.ref (qx 1), .ref (qx 3), .int 0, .ref (qx 5), .ref (qx 8), .ref (qx 9), .int 0, .ref (qx 18), .int 0, .null, .ref (qx 27), .int 0, .ref (qx 28), .ref (qx 29), .ref (qx 30), .ref (qx 31), .ref (qx 32)])), ((qx 1), .inr (4, [.int 2, .int 0, .int 1, .ref (qx 2)])), ((qx 9), .inr (3, [.ref (qx 11), .ref (qx 12), .ref (qx 13), .ref (qx 14), .ref (qx 15), .ref (qx 16), .ref (qx 17), .ref (qx 10), .int 0, .int 0, .int 0, .int 0])), ((qx 11), .inl (k 1, 900, .inr (.inl (tL [] 0)))), ((qx 12), .inl (k 0, 100, .inl (tI [] 0))), ((qx 13), .inl (k 0, 100, .inl (tI [] 0))), ((qx 14), .inl (k 0, 100, .inl (tI [] 0))), ((qx 16), .inl (k 0, 256, .inl (tI [] 0))), ((qx 17), .inl (k 0, 100, .inl (tI [] 0))), ((qx 28), .inr (2, [.ref (qx 1), .int 0])), ((qx 31), .inl (k 1, 9, .inr (.inl (tL [] 0))))]) hx hb hml hown hU hK hP hD rfl rfl [0, 1, 9, 11, 12, 13, 14, 16, 17, 28, 31] rfl (by decide) (cX10_about_1 l D k _ (qx 0) (qx 1) (qx 9) (qx 11) (qx 12) (qx 13) (qx 14) (qx 16) (qx 17) (qx 28) (qx 31) (qx 3) (qx 5) (qx 8) (qx 18) (qx 27) (qx 29) (qx 30) (qx 32) (qx 2) (qx 15) (qx 10) ((xs 1)) ((xs 2))) w578 w575 w576 w577 w63 hdX10_about ⟨rfl, rfl⟩ ⟨Nat.le_of_ble_eq_true rfl, Nat.le_of_ble_eq_true rfl⟩ rfl hl.1 (Nat.le_of_ble_eq_true rfl) dL_law_613 ⟨Nat.le_of_ble_eq_true rfl, Nat.le_of_ble_eq_true rfl⟩) hP hD hS hA (wr := MW k qm) [0, 1, 9, 11, 12, 13, 14, 16, 17, 28, 31] [41, 42, 43, 44, 45, 46, 47, 48, 49, 50, 51, 52, 53, 54, 55, 56, 57, 58, 59, 60, 61, 62] rfl rfl (by decide) (by decide) (fun r1 H locs hB J hS => ?_)
  obtain rfl := hB
  obtain ⟨hP, hD⟩ := J.nil
  refine lv_aload_n hx hb dL_law_616 rfl (lv_at hl 1 rfl) ?_
  refine lv_aload_n hx hb dL_law_617 rfl (lv_at hl 3 rfl) ?_
  refine lv_iload_n hx hb dL_law_618 rfl (lv_at hl 0 rfl) ?_
  refine lv_iconst (v := 1) hx hb dL_law_619 (by decide) ?_
  refine lv_iadd hx hb dL_law_620 (sv_i (v := 1) (by decide +kernel) ?_)
  refine va_sld hx hb hX hbl hbA hS (ix_in (j := 1) (by decide +kernel)).1 dL_law_621 (sv_i (v := xs 1) (by rw [(ix_in (j := 1) (n := 6) (by decide +kernel)).2]) ?_)
  refine lv_aload_n hx hb dL_law_622 rfl (lv_at hl 3 rfl) ?_
  refine lv_iload_n hx hb dL_law_623 rfl (lv_at hl 0 rfl) ?_
  refine lv_iconst (v := 2) hx hb dL_law_624 (by decide) ?_
  refine lv_iadd hx hb dL_law_625 (sv_i (v := 2) (by decide +kernel) ?_)
  refine va_sld hx hb hX hbl hbA hS (ix_in (j := 2) (by decide +kernel)).1 dL_law_626 (sv_i (v := xs 2) (by rw [(ix_in (j := 2) (n := 6) (by decide +kernel)).2]) ?_)
  refine cI (rV (q0 := 0) (ci := 8) (As := [.int (xs 1), .int (xs 2)]) (rest := [.int (F_about ((xs 1)) ((xs 2)))]) (wc := [((qm 0), .inr (8, [.int 2, .int 0, .int 1, .int 0, .int 0, .int 0, .ref (qm 1), .ref (qm 2), .int 0, .int 0, .ref (qm 3), .ref (qm 4), .ref (qm 5), .ref (qm 6), .ref (qm 7), .ref (qm 8), .ref (qm 9), .int 0, .int 0, .int 0, .ref (qm 10), .ref (qm 11), .ref (qm 12), .ref (qm 13), .int 0, .int 0, .ref (qm 14), .ref (qm 15), .ref (qm 16), .ref (qm 17), .int 0, .int 0, .ref (qm 18), .ref (qm 19), .ref (qm 20), .ref (qm 21)])), ((qm 3), .inl (k 1, 9, .inr (.inl (tL [] 0)))), ((qm 4), .inl (k 1, 9, .inr (.inl (tL [] 0)))), ((qm 5), .inl (k 1, 9, .inr (.inl (tL [] 0)))), ((qm 6), .inl (k 1, 9, .inr (.inl (tL [] 0)))), ((qm 10), .inl (k 1, 900, .inr (.inl (tL [] 0)))), ((qm 11), .inl (k 0, 100, .inl (tI [] 0))), ((qm 12), .inl (k 0, 100, .inl (tI [] 0))), ((qm 13), .inl (k 0, 100, .inl (tI [] 0)))]) hx hb hml hown hU hK hP hD rfl rfl [0, 3, 4, 5, 6, 10, 11, 12, 13] rfl (by decide) (cX11_about_1 l D k _ (qm 0) (qm 3) (qm 4) (qm 5) (qm 6) (qm 10) (qm 11) (qm 12) (qm 13) (qm 1) (qm 2) (qm 7) (qm 8) (qm 9) (qm 14) (qm 15) (qm 16) (qm 17) (qm 18) (qm 19) (qm 20) (qm 21) ((xs 1)) ((xs 2))) w1067 w1064 w1065 w1066 w72 hdX11_about ⟨rfl, rfl⟩ ⟨Nat.le_of_ble_eq_true rfl, Nat.le_of_ble_eq_true rfl⟩ rfl hl.1 (Nat.le_of_ble_eq_true rfl) dL_law_627 ⟨Nat.le_of_ble_eq_true rfl, Nat.le_of_ble_eq_true rfl⟩) hP hD hS hA (wr := []) [0, 3, 4, 5, 6, 10, 11, 12, 13] [] rfl rfl (by decide) (by decide) (fun r2 H locs hB J hS => ?_)
  obtain rfl := hB
  refine lv_icmp_eq (tgt := 1333) hx hb dL_law_630 (by decide) (fun _ => ?_) (fun cc => absurd rfl cc)
  exact law_end l C0 hA' hbA (Nat.le_of_ble_eq_true rfl) (Nat.le_of_ble_eq_true rfl) hS (lv_sub hl [0, 3] rfl)
set_option maxHeartbeats 4000000 in
set_option maxRecDepth 100000 in
theorem law_witness {p : Program} {e : Env} {s : State} {m : MethodId} {below : List Frame} {meth : Method} {c : Code} (l : Launch) {b : Nat} {xs : Nat → Int32} (C0 : lw_At p s m meth c b 6 xs) {D : va_G} {k : Nat → ClassId} (hK : kX D k s) {A : Nat → Prop} (hA : ∀ q, s.heap.size ≤ q → A q) (hA' : ∀ q, A q → s.heap.size ≤ q) (hbA : ¬ A b) (qx qm : Nat → Nat) {H : Heap} {locs : List Loc} {ls : Array Slot} (hP : va_P D cl0 (XW k qx ++ MW k qm) H) (hD : va_D A (XW k qx ++ MW k qm)) (hS : va_S A s.heap H locs) (hl : lv_has ls 4 [(3, .int 0), (2, .ref (qm 0)), (1, .ref (qx 0)), (0, .ref b)]) : W p l e room_1 s m #[Value.ref b] below meth c H locs 63 17884 (lw_Z below #[Value.ref b] s) (F0 m 635 ls []) := by
  obtain ⟨hx, hb, hr, hml, hown, hts, hX, hbl, hlocks, hgv⟩ := id C0
  have hU : ∀ w ∈ uw, w.before #[Value.ref b] s = true := fun w h => hts w (List.mem_filter.mp h).1
  refine lv_aload_n hx hb dL_law_635 rfl (lv_at hl 2 rfl) ?_
  refine cI (rV (q0 := 0) (ci := 7) (As := []) (rest := []) (wc := [((qx 0), .inr (7, [.ref (qx 1), .ref (qx 3), .int 0, .ref (qx 5), .ref (qx 8), .ref (qx 9), .int 0, .ref (qx 18), .int 0, .null, .ref (qx 27), .int 0, .ref (qx 28), .ref (qx 29), .ref (qx 30), .ref (qx 31), .ref (qx 32)])), ((qx 1), .inr (4, [.int 2, .int 0, .int 1, .ref (qx 2)])), ((qx 9), .inr (3, [.ref (qx 11), .ref (qx 12), .ref (qx 13), .ref (qx 14), .ref (qx 15), .ref (qx 16), .ref (qx 17), .ref (qx 10), .int 0, .int 0, .int 0, .int 0])), ((qx 11), .inl (k 1, 900, .inr (.inl (tL [] 0)))), ((qx 12), .inl (k 0, 100, .inl (tI [] 0))), ((qx 13), .inl (k 0, 100, .inl (tI [] 0))), ((qx 14), .inl (k 0, 100, .inl (tI [] 0))), ((qx 16), .inl (k 0, 256, .inl (tI [] 0))), ((qx 17), .inl (k 0, 100, .inl (tI [] 0))), ((qx 28), .inr (2, [.ref (qx 1), .int 0])), ((qx 31), .inl (k 1, 9, .inr (.inl (tL [] 0))))]) hx hb hml hown hU hK hP hD rfl rfl [0, 1, 9, 11, 12, 13, 14, 16, 17, 28, 31] rfl (by decide) (cX10_witness_1 l D k _ (qx 0) (qx 1) (qx 9) (qx 11) (qx 12) (qx 13) (qx 14) (qx 16) (qx 17) (qx 28) (qx 31) (qx 3) (qx 5) (qx 8) (qx 18) (qx 27) (qx 29) (qx 30) (qx 32) (qx 2) (qx 15) (qx 10)) w582 w579 w580 w581 w63 hdX10_witness ⟨rfl, rfl⟩ ⟨Nat.le_of_ble_eq_true rfl, Nat.le_of_ble_eq_true rfl⟩ rfl hl.1 (Nat.le_of_ble_eq_true rfl) dL_law_636 ⟨Nat.le_of_ble_eq_true rfl, Nat.le_of_ble_eq_true rfl⟩) hP hD hS hA (wr := MW k qm) [0, 1, 9, 11, 12, 13, 14, 16, 17, 28, 31] [41, 42, 43, 44, 45, 46, 47, 48, 49, 50, 51, 52, 53, 54, 55, 56, 57, 58, 59, 60, 61, 62] rfl rfl (by decide) (by decide) (fun r1 H locs hB J hS => ?_)
  obtain rfl := hB
  obtain ⟨hP, hD⟩ := J.nil
  refine lv_aload_n hx hb dL_law_639 rfl (lv_at hl 1 rfl) ?_
  refine cI (rV (q0 := 0) (ci := 8) (As := []) (rest := [.int (F_witness)]) (wc := [((qm 0), .inr (8, [.int 2, .int 0, .int 1, .int 0, .int 0, .int 0, .ref (qm 1), .ref (qm 2), .int 0, .int 0, .ref (qm 3), .ref (qm 4), .ref (qm 5), .ref (qm 6), .ref (qm 7), .ref (qm 8), .ref (qm 9), .int 0, .int 0, .int 0, .ref (qm 10), .ref (qm 11), .ref (qm 12), .ref (qm 13), .int 0, .int 0, .ref (qm 14), .ref (qm 15), .ref (qm 16), .ref (qm 17), .int 0, .int 0, .ref (qm 18), .ref (qm 19), .ref (qm 20), .ref (qm 21)])), ((qm 3), .inl (k 1, 9, .inr (.inl (tL [] 0)))), ((qm 4), .inl (k 1, 9, .inr (.inl (tL [] 0)))), ((qm 5), .inl (k 1, 9, .inr (.inl (tL [] 0)))), ((qm 6), .inl (k 1, 9, .inr (.inl (tL [] 0)))), ((qm 10), .inl (k 1, 900, .inr (.inl (tL [] 0)))), ((qm 11), .inl (k 0, 100, .inl (tI [] 0))), ((qm 12), .inl (k 0, 100, .inl (tI [] 0))), ((qm 13), .inl (k 0, 100, .inl (tI [] 0)))]) hx hb hml hown hU hK hP hD rfl rfl [0, 3, 4, 5, 6, 10, 11, 12, 13] rfl (by decide) (cX11_witness_1 l D k _ (qm 0) (qm 3) (qm 4) (qm 5) (qm 6) (qm 10) (qm 11) (qm 12) (qm 13) (qm 1) (qm 2) (qm 7) (qm 8) (qm 9) (qm 14) (qm 15) (qm 16) (qm 17) (qm 18) (qm 19) (qm 20) (qm 21)) w1075 w1072 w1073 w1074 w72 hdX11_witness ⟨rfl, rfl⟩ ⟨Nat.le_of_ble_eq_true rfl, Nat.le_of_ble_eq_true rfl⟩ rfl hl.1 (Nat.le_of_ble_eq_true rfl) dL_law_640 ⟨Nat.le_of_ble_eq_true rfl, Nat.le_of_ble_eq_true rfl⟩) hP hD hS hA (wr := []) [0, 3, 4, 5, 6, 10, 11, 12, 13] [] rfl rfl (by decide) (by decide) (fun r2 H locs hB J hS => ?_)
  obtain rfl := hB
  refine lv_icmp_eq (tgt := 1333) hx hb dL_law_643 (by decide) (fun _ => ?_) (fun cc => absurd rfl cc)
  exact law_end l C0 hA' hbA (Nat.le_of_ble_eq_true rfl) (Nat.le_of_ble_eq_true rfl) hS (lv_sub hl [0, 3] rfl)
set_option maxHeartbeats 4000000 in
set_option maxRecDepth 100000 in
theorem law_found {p : Program} {e : Env} {s : State} {m : MethodId} {below : List Frame} {meth : Method} {c : Code} (l : Launch) {b : Nat} {xs : Nat → Int32} (C0 : lw_At p s m meth c b 6 xs) {D : va_G} {k : Nat → ClassId} (hK : kX D k s) {A : Nat → Prop} (hA : ∀ q, s.heap.size ≤ q → A q) (hA' : ∀ q, A q → s.heap.size ≤ q) (hbA : ¬ A b) (qx qm : Nat → Nat) {H : Heap} {locs : List Loc} {ls : Array Slot} (hP : va_P D cl0 (XW k qx ++ MW k qm) H) (hD : va_D A (XW k qx ++ MW k qm)) (hS : va_S A s.heap H locs) (hl : lv_has ls 4 [(3, .int 0), (2, .ref (qm 0)), (1, .ref (qx 0)), (0, .ref b)]) : W p l e room_1 s m #[Value.ref b] below meth c H locs 63 17884 (lw_Z below #[Value.ref b] s) (F0 m 648 ls []) := by
  obtain ⟨hx, hb, hr, hml, hown, hts, hX, hbl, hlocks, hgv⟩ := id C0
  have hU : ∀ w ∈ uw, w.before #[Value.ref b] s = true := fun w h => hts w (List.mem_filter.mp h).1
  refine lv_aload_n hx hb dL_law_648 rfl (lv_at hl 2 rfl) ?_
  refine lv_aload_n hx hb dL_law_649 rfl (lv_at hl 3 rfl) ?_
  refine lv_iload_n hx hb dL_law_650 rfl (lv_at hl 0 rfl) ?_
  refine lv_iconst (v := 1) hx hb dL_law_651 (by decide) ?_
  refine lv_iadd hx hb dL_law_652 (sv_i (v := 1) (by decide +kernel) ?_)
  refine va_sld hx hb hX hbl hbA hS (ix_in (j := 1) (by decide +kernel)).1 dL_law_653 (sv_i (v := xs 1) (by rw [(ix_in (j := 1) (n := 6) (by decide +kernel)).2]) ?_)
  refine cI (rV (q0 := 0) (ci := 7) (As := [.int (xs 1)]) (rest := []) (wc := [((qx 0), .inr (7, [.ref (qx 1), .ref (qx 3), .int 0, .ref (qx 5), .ref (qx 8), .ref (qx 9), .int 0, .ref (qx 18), .int 0, .null, .ref (qx 27), .int 0, .ref (qx 28), .ref (qx 29), .ref (qx 30), .ref (qx 31), .ref (qx 32)])), ((qx 1), .inr (4, [.int 2, .int 0, .int 1, .ref (qx 2)])), ((qx 9), .inr (3, [.ref (qx 11), .ref (qx 12), .ref (qx 13), .ref (qx 14), .ref (qx 15), .ref (qx 16), .ref (qx 17), .ref (qx 10), .int 0, .int 0, .int 0, .int 0])), ((qx 11), .inl (k 1, 900, .inr (.inl (tL [] 0)))), ((qx 12), .inl (k 0, 100, .inl (tI [] 0))), ((qx 13), .inl (k 0, 100, .inl (tI [] 0))), ((qx 14), .inl (k 0, 100, .inl (tI [] 0))), ((qx 16), .inl (k 0, 256, .inl (tI [] 0))), ((qx 17), .inl (k 0, 100, .inl (tI [] 0))), ((qx 28), .inr (2, [.ref (qx 1), .int 0])), ((qx 31), .inl (k 1, 9, .inr (.inl (tL [] 0))))]) hx hb hml hown hU hK hP hD rfl rfl [0, 1, 9, 11, 12, 13, 14, 16, 17, 28, 31] rfl (by decide) (cX10_found_1 l D k _ (qx 0) (qx 1) (qx 9) (qx 11) (qx 12) (qx 13) (qx 14) (qx 16) (qx 17) (qx 28) (qx 31) (qx 3) (qx 5) (qx 8) (qx 18) (qx 27) (qx 29) (qx 30) (qx 32) (qx 2) (qx 15) (qx 10) ((xs 1))) w586 w583 w584 w585 w63 hdX10_found ⟨rfl, rfl⟩ ⟨Nat.le_of_ble_eq_true rfl, Nat.le_of_ble_eq_true rfl⟩ rfl hl.1 (Nat.le_of_ble_eq_true rfl) dL_law_654 ⟨Nat.le_of_ble_eq_true rfl, Nat.le_of_ble_eq_true rfl⟩) hP hD hS hA (wr := MW k qm) [0, 1, 9, 11, 12, 13, 14, 16, 17, 28, 31] [41, 42, 43, 44, 45, 46, 47, 48, 49, 50, 51, 52, 53, 54, 55, 56, 57, 58, 59, 60, 61, 62] rfl rfl (by decide) (by decide) (fun r1 H locs hB J hS => ?_)
  obtain rfl := hB
  obtain ⟨hP, hD⟩ := J.nil
  refine lv_aload_n hx hb dL_law_657 rfl (lv_at hl 1 rfl) ?_
  refine lv_aload_n hx hb dL_law_658 rfl (lv_at hl 3 rfl) ?_
  refine lv_iload_n hx hb dL_law_659 rfl (lv_at hl 0 rfl) ?_
  refine lv_iconst (v := 1) hx hb dL_law_660 (by decide) ?_
  refine lv_iadd hx hb dL_law_661 (sv_i (v := 1) (by decide +kernel) ?_)
  refine va_sld hx hb hX hbl hbA hS (ix_in (j := 1) (by decide +kernel)).1 dL_law_662 (sv_i (v := xs 1) (by rw [(ix_in (j := 1) (n := 6) (by decide +kernel)).2]) ?_)
  refine cI (rV (q0 := 0) (ci := 8) (As := [.int (xs 1)]) (rest := [.int (F_found ((xs 1)))]) (wc := [((qm 0), .inr (8, [.int 2, .int 0, .int 1, .int 0, .int 0, .int 0, .ref (qm 1), .ref (qm 2), .int 0, .int 0, .ref (qm 3), .ref (qm 4), .ref (qm 5), .ref (qm 6), .ref (qm 7), .ref (qm 8), .ref (qm 9), .int 0, .int 0, .int 0, .ref (qm 10), .ref (qm 11), .ref (qm 12), .ref (qm 13), .int 0, .int 0, .ref (qm 14), .ref (qm 15), .ref (qm 16), .ref (qm 17), .int 0, .int 0, .ref (qm 18), .ref (qm 19), .ref (qm 20), .ref (qm 21)])), ((qm 4), .inl (k 1, 9, .inr (.inl (tL [] 0)))), ((qm 10), .inl (k 1, 900, .inr (.inl (tL [] 0)))), ((qm 11), .inl (k 0, 100, .inl (tI [] 0))), ((qm 12), .inl (k 0, 100, .inl (tI [] 0))), ((qm 13), .inl (k 0, 100, .inl (tI [] 0)))]) hx hb hml hown hU hK hP hD rfl rfl [0, 4, 10, 11, 12, 13] rfl (by decide) (cX11_found_1 l D k _ (qm 0) (qm 4) (qm 10) (qm 11) (qm 12) (qm 13) (qm 1) (qm 2) (qm 3) (qm 5) (qm 6) (qm 7) (qm 8) (qm 9) (qm 14) (qm 15) (qm 16) (qm 17) (qm 18) (qm 19) (qm 20) (qm 21) ((xs 1))) w1079 w1076 w1077 w1078 w72 hdX11_found ⟨rfl, rfl⟩ ⟨Nat.le_of_ble_eq_true rfl, Nat.le_of_ble_eq_true rfl⟩ rfl hl.1 (Nat.le_of_ble_eq_true rfl) dL_law_663 ⟨Nat.le_of_ble_eq_true rfl, Nat.le_of_ble_eq_true rfl⟩) hP hD hS hA (wr := []) [0, 4, 10, 11, 12, 13] [] rfl rfl (by decide) (by decide) (fun r2 H locs hB J hS => ?_)
  obtain rfl := hB
  refine lv_icmp_eq (tgt := 1333) hx hb dL_law_666 (by decide) (fun _ => ?_) (fun cc => absurd rfl cc)
  exact law_end l C0 hA' hbA (Nat.le_of_ble_eq_true rfl) (Nat.le_of_ble_eq_true rfl) hS (lv_sub hl [0, 3] rfl)
set_option maxHeartbeats 4000000 in
set_option maxRecDepth 100000 in
theorem law_middle {p : Program} {e : Env} {s : State} {m : MethodId} {below : List Frame} {meth : Method} {c : Code} (l : Launch) {b : Nat} {xs : Nat → Int32} (C0 : lw_At p s m meth c b 6 xs) {D : va_G} {k : Nat → ClassId} (hK : kX D k s) {A : Nat → Prop} (hA : ∀ q, s.heap.size ≤ q → A q) (hA' : ∀ q, A q → s.heap.size ≤ q) (hbA : ¬ A b) (qx qm : Nat → Nat) {H : Heap} {locs : List Loc} {ls : Array Slot} (hP : va_P D cl0 (XW k qx ++ MW k qm) H) (hD : va_D A (XW k qx ++ MW k qm)) (hS : va_S A s.heap H locs) (hl : lv_has ls 4 [(3, .int 0), (2, .ref (qm 0)), (1, .ref (qx 0)), (0, .ref b)]) : W p l e room_1 s m #[Value.ref b] below meth c H locs 63 17884 (lw_Z below #[Value.ref b] s) (F0 m 671 ls []) := by
  obtain ⟨hx, hb, hr, hml, hown, hts, hX, hbl, hlocks, hgv⟩ := id C0
  have hU : ∀ w ∈ uw, w.before #[Value.ref b] s = true := fun w h => hts w (List.mem_filter.mp h).1
  refine lv_aload_n hx hb dL_law_671 rfl (lv_at hl 2 rfl) ?_
  refine cI (rV (q0 := 0) (ci := 7) (As := []) (rest := []) (wc := [((qx 0), .inr (7, [.ref (qx 1), .ref (qx 3), .int 0, .ref (qx 5), .ref (qx 8), .ref (qx 9), .int 0, .ref (qx 18), .int 0, .null, .ref (qx 27), .int 0, .ref (qx 28), .ref (qx 29), .ref (qx 30), .ref (qx 31), .ref (qx 32)])), ((qx 1), .inr (4, [.int 2, .int 0, .int 1, .ref (qx 2)])), ((qx 9), .inr (3, [.ref (qx 11), .ref (qx 12), .ref (qx 13), .ref (qx 14), .ref (qx 15), .ref (qx 16), .ref (qx 17), .ref (qx 10), .int 0, .int 0, .int 0, .int 0])), ((qx 11), .inl (k 1, 900, .inr (.inl (tL [] 0)))), ((qx 12), .inl (k 0, 100, .inl (tI [] 0))), ((qx 13), .inl (k 0, 100, .inl (tI [] 0))), ((qx 14), .inl (k 0, 100, .inl (tI [] 0))), ((qx 16), .inl (k 0, 256, .inl (tI [] 0))), ((qx 17), .inl (k 0, 100, .inl (tI [] 0))), ((qx 28), .inr (2, [.ref (qx 1), .int 0])), ((qx 31), .inl (k 1, 9, .inr (.inl (tL [] 0))))]) hx hb hml hown hU hK hP hD rfl rfl [0, 1, 9, 11, 12, 13, 14, 16, 17, 28, 31] rfl (by decide) (cX10_middle_1 l D k _ (qx 0) (qx 1) (qx 9) (qx 11) (qx 12) (qx 13) (qx 14) (qx 16) (qx 17) (qx 28) (qx 31) (qx 3) (qx 5) (qx 8) (qx 18) (qx 27) (qx 29) (qx 30) (qx 32) (qx 2) (qx 15) (qx 10)) w601 w598 w599 w600 w63 hdX10_middle ⟨rfl, rfl⟩ ⟨Nat.le_of_ble_eq_true rfl, Nat.le_of_ble_eq_true rfl⟩ rfl hl.1 (Nat.le_of_ble_eq_true rfl) dL_law_672 ⟨Nat.le_of_ble_eq_true rfl, Nat.le_of_ble_eq_true rfl⟩) hP hD hS hA (wr := MW k qm) [0, 1, 9, 11, 12, 13, 14, 16, 17, 28, 31] [41, 42, 43, 44, 45, 46, 47, 48, 49, 50, 51, 52, 53, 54, 55, 56, 57, 58, 59, 60, 61, 62] rfl rfl (by decide) (by decide) (fun r1 H locs hB J hS => ?_)
  obtain rfl := hB
  obtain ⟨hP, hD⟩ := J.nil
  refine lv_aload_n hx hb dL_law_675 rfl (lv_at hl 1 rfl) ?_
  refine cI (rV (q0 := 0) (ci := 8) (As := []) (rest := [.int (F_middle)]) (wc := [((qm 0), .inr (8, [.int 2, .int 0, .int 1, .int 0, .int 0, .int 0, .ref (qm 1), .ref (qm 2), .int 0, .int 0, .ref (qm 3), .ref (qm 4), .ref (qm 5), .ref (qm 6), .ref (qm 7), .ref (qm 8), .ref (qm 9), .int 0, .int 0, .int 0, .ref (qm 10), .ref (qm 11), .ref (qm 12), .ref (qm 13), .int 0, .int 0, .ref (qm 14), .ref (qm 15), .ref (qm 16), .ref (qm 17), .int 0, .int 0, .ref (qm 18), .ref (qm 19), .ref (qm 20), .ref (qm 21)])), ((qm 4), .inl (k 1, 9, .inr (.inl (tL [] 0)))), ((qm 10), .inl (k 1, 900, .inr (.inl (tL [] 0)))), ((qm 11), .inl (k 0, 100, .inl (tI [] 0))), ((qm 12), .inl (k 0, 100, .inl (tI [] 0))), ((qm 13), .inl (k 0, 100, .inl (tI [] 0)))]) hx hb hml hown hU hK hP hD rfl rfl [0, 4, 10, 11, 12, 13] rfl (by decide) (cX11_middle_1 l D k _ (qm 0) (qm 4) (qm 10) (qm 11) (qm 12) (qm 13) (qm 1) (qm 2) (qm 3) (qm 5) (qm 6) (qm 7) (qm 8) (qm 9) (qm 14) (qm 15) (qm 16) (qm 17) (qm 18) (qm 19) (qm 20) (qm 21)) w1083 w1080 w1081 w1082 w72 hdX11_middle ⟨rfl, rfl⟩ ⟨Nat.le_of_ble_eq_true rfl, Nat.le_of_ble_eq_true rfl⟩ rfl hl.1 (Nat.le_of_ble_eq_true rfl) dL_law_676 ⟨Nat.le_of_ble_eq_true rfl, Nat.le_of_ble_eq_true rfl⟩) hP hD hS hA (wr := []) [0, 4, 10, 11, 12, 13] [] rfl rfl (by decide) (by decide) (fun r2 H locs hB J hS => ?_)
  obtain rfl := hB
  refine lv_icmp_eq (tgt := 1333) hx hb dL_law_679 (by decide) (fun _ => ?_) (fun cc => absurd rfl cc)
  exact law_end l C0 hA' hbA (Nat.le_of_ble_eq_true rfl) (Nat.le_of_ble_eq_true rfl) hS (lv_sub hl [0, 3] rfl)
set_option maxHeartbeats 4000000 in
set_option maxRecDepth 100000 in
theorem law_form {p : Program} {e : Env} {s : State} {m : MethodId} {below : List Frame} {meth : Method} {c : Code} (l : Launch) {b : Nat} {xs : Nat → Int32} (C0 : lw_At p s m meth c b 6 xs) {D : va_G} {k : Nat → ClassId} (hK : kX D k s) {A : Nat → Prop} (hA : ∀ q, s.heap.size ≤ q → A q) (hA' : ∀ q, A q → s.heap.size ≤ q) (hbA : ¬ A b) (qx qm : Nat → Nat) {H : Heap} {locs : List Loc} {ls : Array Slot} (hP : va_P D cl0 (XW k qx ++ MW k qm) H) (hD : va_D A (XW k qx ++ MW k qm)) (hS : va_S A s.heap H locs) (hl : lv_has ls 4 [(3, .int 0), (2, .ref (qm 0)), (1, .ref (qx 0)), (0, .ref b)]) : W p l e room_1 s m #[Value.ref b] below meth c H locs 63 17884 (lw_Z below #[Value.ref b] s) (F0 m 684 ls []) := by
  obtain ⟨hx, hb, hr, hml, hown, hts, hX, hbl, hlocks, hgv⟩ := id C0
  have hU : ∀ w ∈ uw, w.before #[Value.ref b] s = true := fun w h => hts w (List.mem_filter.mp h).1
  refine lv_aload_n hx hb dL_law_684 rfl (lv_at hl 2 rfl) ?_
  refine lv_aload_n hx hb dL_law_685 rfl (lv_at hl 3 rfl) ?_
  refine lv_iload_n hx hb dL_law_686 rfl (lv_at hl 0 rfl) ?_
  refine lv_iconst (v := 1) hx hb dL_law_687 (by decide) ?_
  refine lv_iadd hx hb dL_law_688 (sv_i (v := 1) (by decide +kernel) ?_)
  refine va_sld hx hb hX hbl hbA hS (ix_in (j := 1) (by decide +kernel)).1 dL_law_689 (sv_i (v := xs 1) (by rw [(ix_in (j := 1) (n := 6) (by decide +kernel)).2]) ?_)
  refine lv_aload_n hx hb dL_law_690 rfl (lv_at hl 3 rfl) ?_
  refine lv_iload_n hx hb dL_law_691 rfl (lv_at hl 0 rfl) ?_
  refine lv_iconst (v := 2) hx hb dL_law_692 (by decide) ?_
  refine lv_iadd hx hb dL_law_693 (sv_i (v := 2) (by decide +kernel) ?_)
  refine va_sld hx hb hX hbl hbA hS (ix_in (j := 2) (by decide +kernel)).1 dL_law_694 (sv_i (v := xs 2) (by rw [(ix_in (j := 2) (n := 6) (by decide +kernel)).2]) ?_)
  refine cL (rV (q0 := 0) (ci := 7) (As := [.int (xs 1), .int (xs 2)]) (rest := []) (wc := [((qx 0), .inr (7, [.ref (qx 1), .ref (qx 3), .int 0, .ref (qx 5), .ref (qx 8), .ref (qx 9), .int 0, .ref (qx 18), .int 0, .null, .ref (qx 27), .int 0, .ref (qx 28), .ref (qx 29), .ref (qx 30), .ref (qx 31), .ref (qx 32)])), ((qx 1), .inr (4, [.int 2, .int 0, .int 1, .ref (qx 2)])), ((qx 9), .inr (3, [.ref (qx 11), .ref (qx 12), .ref (qx 13), .ref (qx 14), .ref (qx 15), .ref (qx 16), .ref (qx 17), .ref (qx 10), .int 0, .int 0, .int 0, .int 0])), ((qx 11), .inl (k 1, 900, .inr (.inl (tL [] 0)))), ((qx 12), .inl (k 0, 100, .inl (tI [] 0))), ((qx 13), .inl (k 0, 100, .inl (tI [] 0))), ((qx 14), .inl (k 0, 100, .inl (tI [] 0))), ((qx 16), .inl (k 0, 256, .inl (tI [] 0))), ((qx 17), .inl (k 0, 100, .inl (tI [] 0))), ((qx 28), .inr (2, [.ref (qx 1), .int 0])), ((qx 31), .inl (k 1, 9, .inr (.inl (tL [] 0)))), ((qx 32), .inl (k 1, 9, .inr (.inl (tL [] 0))))]) hx hb hml hown hU hK hP hD rfl rfl [0, 1, 9, 11, 12, 13, 14, 16, 17, 28, 31, 32] rfl (by decide) (cX10_form_1 l D k _ (qx 0) (qx 1) (qx 9) (qx 11) (qx 12) (qx 13) (qx 14) (qx 16) (qx 17) (qx 28) (qx 31) (qx 32) (qx 3) (qx 5) (qx 8) (qx 18) (qx 27) (qx 29) (qx 30) (qx 2) (qx 15) (qx 10) ((xs 1)) ((xs 2))) w612 w609 w610 w611 w63 hdX10_form ⟨rfl, rfl⟩ ⟨Nat.le_of_ble_eq_true rfl, Nat.le_of_ble_eq_true rfl⟩ rfl hl.1 (Nat.le_of_ble_eq_true rfl) dL_law_695 ⟨Nat.le_of_ble_eq_true rfl, Nat.le_of_ble_eq_true rfl⟩) hP hD hS hA (wr := MW k qm) [0, 1, 9, 11, 12, 13, 14, 16, 17, 28, 31, 32] [41, 42, 43, 44, 45, 46, 47, 48, 49, 50, 51, 52, 53, 54, 55, 56, 57, 58, 59, 60, 61, 62] rfl rfl (by decide) (by decide) (fun r1 H locs hB J hS => ?_)
  obtain rfl := hB
  obtain ⟨hP, hD⟩ := J.nil
  refine lv_aload_n hx hb dL_law_698 rfl (lv_at hl 1 rfl) ?_
  refine lv_aload_n hx hb dL_law_699 rfl (lv_at hl 3 rfl) ?_
  refine lv_iload_n hx hb dL_law_700 rfl (lv_at hl 0 rfl) ?_
  refine lv_iconst (v := 1) hx hb dL_law_701 (by decide) ?_
  refine lv_iadd hx hb dL_law_702 (sv_i (v := 1) (by decide +kernel) ?_)
  refine va_sld hx hb hX hbl hbA hS (ix_in (j := 1) (by decide +kernel)).1 dL_law_703 (sv_i (v := xs 1) (by rw [(ix_in (j := 1) (n := 6) (by decide +kernel)).2]) ?_)
  refine lv_aload_n hx hb dL_law_704 rfl (lv_at hl 3 rfl) ?_
  refine lv_iload_n hx hb dL_law_705 rfl (lv_at hl 0 rfl) ?_
  refine lv_iconst (v := 2) hx hb dL_law_706 (by decide) ?_
  refine lv_iadd hx hb dL_law_707 (sv_i (v := 2) (by decide +kernel) ?_)
  refine va_sld hx hb hX hbl hbA hS (ix_in (j := 2) (by decide +kernel)).1 dL_law_708 (sv_i (v := xs 2) (by rw [(ix_in (j := 2) (n := 6) (by decide +kernel)).2]) ?_)
  refine cL (rV (q0 := 0) (ci := 8) (As := [.int (xs 1), .int (xs 2)]) (rest := [.long (F_form ((xs 1)) ((xs 2)))]) (wc := [((qm 0), .inr (8, [.int 2, .int 0, .int 1, .int 0, .int 0, .int 0, .ref (qm 1), .ref (qm 2), .int 0, .int 0, .ref (qm 3), .ref (qm 4), .ref (qm 5), .ref (qm 6), .ref (qm 7), .ref (qm 8), .ref (qm 9), .int 0, .int 0, .int 0, .ref (qm 10), .ref (qm 11), .ref (qm 12), .ref (qm 13), .int 0, .int 0, .ref (qm 14), .ref (qm 15), .ref (qm 16), .ref (qm 17), .int 0, .int 0, .ref (qm 18), .ref (qm 19), .ref (qm 20), .ref (qm 21)])), ((qm 4), .inl (k 1, 9, .inr (.inl (tL [] 0)))), ((qm 5), .inl (k 1, 9, .inr (.inl (tL [] 0)))), ((qm 10), .inl (k 1, 900, .inr (.inl (tL [] 0)))), ((qm 11), .inl (k 0, 100, .inl (tI [] 0))), ((qm 12), .inl (k 0, 100, .inl (tI [] 0))), ((qm 13), .inl (k 0, 100, .inl (tI [] 0)))]) hx hb hml hown hU hK hP hD rfl rfl [0, 4, 5, 10, 11, 12, 13] rfl (by decide) (cX11_form_1 l D k _ (qm 0) (qm 4) (qm 5) (qm 10) (qm 11) (qm 12) (qm 13) (qm 1) (qm 2) (qm 3) (qm 6) (qm 7) (qm 8) (qm 9) (qm 14) (qm 15) (qm 16) (qm 17) (qm 18) (qm 19) (qm 20) (qm 21) ((xs 1)) ((xs 2))) w1087 w1084 w1085 w1086 w72 hdX11_form ⟨rfl, rfl⟩ ⟨Nat.le_of_ble_eq_true rfl, Nat.le_of_ble_eq_true rfl⟩ rfl hl.1 (Nat.le_of_ble_eq_true rfl) dL_law_709 ⟨Nat.le_of_ble_eq_true rfl, Nat.le_of_ble_eq_true rfl⟩) hP hD hS hA (wr := []) [0, 4, 5, 10, 11, 12, 13] [] rfl rfl (by decide) (by decide) (fun r2 H locs hB J hS => ?_)
  obtain rfl := hB
  refine W.lcmp hx hb dL_law_712 (sv_i (v := 0) ((lg_cmp_eq _ _).mpr rfl) ?_)
  refine lv_if_eq (tgt := 1333) hx hb dL_law_713 (by decide) (fun _ => ?_) (fun cc => absurd rfl cc)
  exact law_end l C0 hA' hbA (Nat.le_of_ble_eq_true rfl) (Nat.le_of_ble_eq_true rfl) hS (lv_sub hl [0, 3] rfl)
set_option maxHeartbeats 4000000 in
set_option maxRecDepth 100000 in
theorem law_keeps {p : Program} {e : Env} {s : State} {m : MethodId} {below : List Frame} {meth : Method} {c : Code} (l : Launch) {b : Nat} {xs : Nat → Int32} (C0 : lw_At p s m meth c b 6 xs) {D : va_G} {k : Nat → ClassId} (hK : kX D k s) {A : Nat → Prop} (hA : ∀ q, s.heap.size ≤ q → A q) (hA' : ∀ q, A q → s.heap.size ≤ q) (hbA : ¬ A b) (qx qm : Nat → Nat) {H : Heap} {locs : List Loc} {ls : Array Slot} (hP : va_P D cl0 (XW k qx ++ MW k qm) H) (hD : va_D A (XW k qx ++ MW k qm)) (hS : va_S A s.heap H locs) (hl : lv_has ls 4 [(3, .int 0), (2, .ref (qm 0)), (1, .ref (qx 0)), (0, .ref b)]) : W p l e room_1 s m #[Value.ref b] below meth c H locs 63 17884 (lw_Z below #[Value.ref b] s) (F0 m 718 ls []) := by
  obtain ⟨hx, hb, hr, hml, hown, hts, hX, hbl, hlocks, hgv⟩ := id C0
  have hU : ∀ w ∈ uw, w.before #[Value.ref b] s = true := fun w h => hts w (List.mem_filter.mp h).1
  refine lv_aload_n hx hb dL_law_718 rfl (lv_at hl 2 rfl) ?_
  refine lv_aload_n hx hb dL_law_719 rfl (lv_at hl 3 rfl) ?_
  refine lv_iload_n hx hb dL_law_720 rfl (lv_at hl 0 rfl) ?_
  refine lv_iconst (v := 1) hx hb dL_law_721 (by decide) ?_
  refine lv_iadd hx hb dL_law_722 (sv_i (v := 1) (by decide +kernel) ?_)
  refine va_sld hx hb hX hbl hbA hS (ix_in (j := 1) (by decide +kernel)).1 dL_law_723 (sv_i (v := xs 1) (by rw [(ix_in (j := 1) (n := 6) (by decide +kernel)).2]) ?_)
  refine lv_aload_n hx hb dL_law_724 rfl (lv_at hl 3 rfl) ?_
  refine lv_iload_n hx hb dL_law_725 rfl (lv_at hl 0 rfl) ?_
  refine lv_iconst (v := 2) hx hb dL_law_726 (by decide) ?_
  refine lv_iadd hx hb dL_law_727 (sv_i (v := 2) (by decide +kernel) ?_)
  refine va_sld hx hb hX hbl hbA hS (ix_in (j := 2) (by decide +kernel)).1 dL_law_728 (sv_i (v := xs 2) (by rw [(ix_in (j := 2) (n := 6) (by decide +kernel)).2]) ?_)
  refine cI (rV (q0 := 0) (ci := 7) (As := [.int (xs 1), .int (xs 2)]) (rest := []) (wc := [((qx 0), .inr (7, [.ref (qx 1), .ref (qx 3), .int 0, .ref (qx 5), .ref (qx 8), .ref (qx 9), .int 0, .ref (qx 18), .int 0, .null, .ref (qx 27), .int 0, .ref (qx 28), .ref (qx 29), .ref (qx 30), .ref (qx 31), .ref (qx 32)])), ((qx 8), .inl (k 3, 4, .inr (.inr (.inr (.inr (va_up (va_up (va_up (va_up (fun _ => none) 0 (some (qx 33))) 1 (some (qx 35))) 2 (some (qx 37))) 3 (some (qx 39)))))))), ((qx 33), .inr (5, [.int (-1), .int 0, .ref (qx 34)])), ((qx 35), .inr (5, [.int (-1), .int 0, .ref (qx 36)])), ((qx 37), .inr (5, [.int (-1), .int 0, .ref (qx 38)])), ((qx 39), .inr (5, [.int (-1), .int 0, .ref (qx 40)]))]) hx hb hml hown hU hK hP hD rfl rfl [0, 8, 33, 35, 37, 39] rfl (by decide) (cX10_keeps_1 l D k _ (qx 0) (qx 8) (qx 33) (qx 35) (qx 37) (qx 39) (qx 1) (qx 3) (qx 5) (qx 9) (qx 18) (qx 27) (qx 28) (qx 29) (qx 30) (qx 31) (qx 32) (qx 34) (qx 36) (qx 38) (qx 40) ((xs 1)) ((xs 2))) w633 w630 w631 w632 w63 hdX10_keeps ⟨rfl, rfl⟩ ⟨Nat.le_of_ble_eq_true rfl, Nat.le_of_ble_eq_true rfl⟩ rfl hl.1 (Nat.le_of_ble_eq_true rfl) dL_law_729 ⟨Nat.le_of_ble_eq_true rfl, Nat.le_of_ble_eq_true rfl⟩) hP hD hS hA (wr := MW k qm) [0, 8, 33, 35, 37, 39] [41, 42, 43, 44, 45, 46, 47, 48, 49, 50, 51, 52, 53, 54, 55, 56, 57, 58, 59, 60, 61, 62] rfl rfl (by decide) (by decide) (fun r1 H locs hB J hS => ?_)
  obtain rfl := hB
  obtain ⟨hP, hD⟩ := J.nil
  refine lv_aload_n hx hb dL_law_732 rfl (lv_at hl 1 rfl) ?_
  refine lv_aload_n hx hb dL_law_733 rfl (lv_at hl 3 rfl) ?_
  refine lv_iload_n hx hb dL_law_734 rfl (lv_at hl 0 rfl) ?_
  refine lv_iconst (v := 1) hx hb dL_law_735 (by decide) ?_
  refine lv_iadd hx hb dL_law_736 (sv_i (v := 1) (by decide +kernel) ?_)
  refine va_sld hx hb hX hbl hbA hS (ix_in (j := 1) (by decide +kernel)).1 dL_law_737 (sv_i (v := xs 1) (by rw [(ix_in (j := 1) (n := 6) (by decide +kernel)).2]) ?_)
  refine lv_aload_n hx hb dL_law_738 rfl (lv_at hl 3 rfl) ?_
  refine lv_iload_n hx hb dL_law_739 rfl (lv_at hl 0 rfl) ?_
  refine lv_iconst (v := 2) hx hb dL_law_740 (by decide) ?_
  refine lv_iadd hx hb dL_law_741 (sv_i (v := 2) (by decide +kernel) ?_)
  refine va_sld hx hb hX hbl hbA hS (ix_in (j := 2) (by decide +kernel)).1 dL_law_742 (sv_i (v := xs 2) (by rw [(ix_in (j := 2) (n := 6) (by decide +kernel)).2]) ?_)
  refine cI (rV (q0 := 0) (ci := 8) (As := [.int (xs 1), .int (xs 2)]) (rest := [.int (F_keeps ((xs 1)) ((xs 2)))]) (wc := [((qm 0), .inr (8, [.int 2, .int 0, .int 1, .int 0, .int 0, .int 0, .ref (qm 1), .ref (qm 2), .int 0, .int 0, .ref (qm 3), .ref (qm 4), .ref (qm 5), .ref (qm 6), .ref (qm 7), .ref (qm 8), .ref (qm 9), .int 0, .int 0, .int 0, .ref (qm 10), .ref (qm 11), .ref (qm 12), .ref (qm 13), .int 0, .int 0, .ref (qm 14), .ref (qm 15), .ref (qm 16), .ref (qm 17), .int 0, .int 0, .ref (qm 18), .ref (qm 19), .ref (qm 20), .ref (qm 21)])), ((qm 18), .inl (k 0, 4, .inl (tI [(-1), (-1), (-1), (-1)] 0)))]) hx hb hml hown hU hK hP hD rfl rfl [0, 18] rfl (by decide) (cX11_keeps_1 l D k _ (qm 0) (qm 18) (qm 1) (qm 2) (qm 3) (qm 4) (qm 5) (qm 6) (qm 7) (qm 8) (qm 9) (qm 10) (qm 11) (qm 12) (qm 13) (qm 14) (qm 15) (qm 16) (qm 17) (qm 19) (qm 20) (qm 21) ((xs 1)) ((xs 2))) w1098 w1095 w1096 w1097 w72 hdX11_keeps ⟨rfl, rfl⟩ ⟨Nat.le_of_ble_eq_true rfl, Nat.le_of_ble_eq_true rfl⟩ rfl hl.1 (Nat.le_of_ble_eq_true rfl) dL_law_743 ⟨Nat.le_of_ble_eq_true rfl, Nat.le_of_ble_eq_true rfl⟩) hP hD hS hA (wr := []) [0, 18] [] rfl rfl (by decide) (by decide) (fun r2 H locs hB J hS => ?_)
  obtain rfl := hB
  refine lv_icmp_eq (tgt := 1333) hx hb dL_law_746 (by decide) (fun _ => ?_) (fun cc => absurd rfl cc)
  exact law_end l C0 hA' hbA (Nat.le_of_ble_eq_true rfl) (Nat.le_of_ble_eq_true rfl) hS (lv_sub hl [0, 3] rfl)
set_option maxHeartbeats 4000000 in
set_option maxRecDepth 100000 in
theorem law_image {p : Program} {e : Env} {s : State} {m : MethodId} {below : List Frame} {meth : Method} {c : Code} (l : Launch) {b : Nat} {xs : Nat → Int32} (C0 : lw_At p s m meth c b 6 xs) {D : va_G} {k : Nat → ClassId} (hK : kX D k s) {A : Nat → Prop} (hA : ∀ q, s.heap.size ≤ q → A q) (hA' : ∀ q, A q → s.heap.size ≤ q) (hbA : ¬ A b) (qx qm : Nat → Nat) {H : Heap} {locs : List Loc} {ls : Array Slot} (hP : va_P D cl0 (XW k qx ++ MW k qm) H) (hD : va_D A (XW k qx ++ MW k qm)) (hS : va_S A s.heap H locs) (hl : lv_has ls 4 [(3, .int 0), (2, .ref (qm 0)), (1, .ref (qx 0)), (0, .ref b)]) : W p l e room_1 s m #[Value.ref b] below meth c H locs 63 17884 (lw_Z below #[Value.ref b] s) (F0 m 751 ls []) := by
  obtain ⟨hx, hb, hr, hml, hown, hts, hX, hbl, hlocks, hgv⟩ := id C0
  have hU : ∀ w ∈ uw, w.before #[Value.ref b] s = true := fun w h => hts w (List.mem_filter.mp h).1
  refine lv_aload_n hx hb dL_law_751 rfl (lv_at hl 2 rfl) ?_
  refine lv_aload_n hx hb dL_law_752 rfl (lv_at hl 3 rfl) ?_
  refine lv_iload_n hx hb dL_law_753 rfl (lv_at hl 0 rfl) ?_
  refine lv_iconst (v := 1) hx hb dL_law_754 (by decide) ?_
  refine lv_iadd hx hb dL_law_755 (sv_i (v := 1) (by decide +kernel) ?_)
  refine va_sld hx hb hX hbl hbA hS (ix_in (j := 1) (by decide +kernel)).1 dL_law_756 (sv_i (v := xs 1) (by rw [(ix_in (j := 1) (n := 6) (by decide +kernel)).2]) ?_)
  refine cI (rV (q0 := 0) (ci := 7) (As := [.int (xs 1)]) (rest := []) (wc := [((qx 0), .inr (7, [.ref (qx 1), .ref (qx 3), .int 0, .ref (qx 5), .ref (qx 8), .ref (qx 9), .int 0, .ref (qx 18), .int 0, .null, .ref (qx 27), .int 0, .ref (qx 28), .ref (qx 29), .ref (qx 30), .ref (qx 31), .ref (qx 32)])), ((qx 1), .inr (4, [.int 2, .int 0, .int 1, .ref (qx 2)])), ((qx 27), .inl (k 0, 8, .inl (tI [] 0))), ((qx 28), .inr (2, [.ref (qx 1), .int 0])), ((qx 31), .inl (k 1, 9, .inr (.inl (tL [] 0))))]) hx hb hml hown hU hK hP hD rfl rfl [0, 1, 27, 28, 31] rfl (by decide) (cX10_image_1 l D k _ (qx 0) (qx 1) (qx 27) (qx 28) (qx 31) (qx 3) (qx 5) (qx 8) (qx 9) (qx 18) (qx 29) (qx 30) (qx 32) (qx 2) ((xs 1))) w661 w658 w659 w660 w63 hdX10_image ⟨rfl, rfl⟩ ⟨Nat.le_of_ble_eq_true rfl, Nat.le_of_ble_eq_true rfl⟩ rfl hl.1 (Nat.le_of_ble_eq_true rfl) dL_law_757 ⟨Nat.le_of_ble_eq_true rfl, Nat.le_of_ble_eq_true rfl⟩) hP hD hS hA (wr := MW k qm) [0, 1, 27, 28, 31] [41, 42, 43, 44, 45, 46, 47, 48, 49, 50, 51, 52, 53, 54, 55, 56, 57, 58, 59, 60, 61, 62] rfl rfl (by decide) (by decide) (fun r1 H locs hB J hS => ?_)
  obtain rfl := hB
  obtain ⟨hP, hD⟩ := J.nil
  refine lv_aload_n hx hb dL_law_760 rfl (lv_at hl 1 rfl) ?_
  refine lv_aload_n hx hb dL_law_761 rfl (lv_at hl 3 rfl) ?_
  refine lv_iload_n hx hb dL_law_762 rfl (lv_at hl 0 rfl) ?_
  refine lv_iconst (v := 1) hx hb dL_law_763 (by decide) ?_
  refine lv_iadd hx hb dL_law_764 (sv_i (v := 1) (by decide +kernel) ?_)
  refine va_sld hx hb hX hbl hbA hS (ix_in (j := 1) (by decide +kernel)).1 dL_law_765 (sv_i (v := xs 1) (by rw [(ix_in (j := 1) (n := 6) (by decide +kernel)).2]) ?_)
  refine cI (rV (q0 := 0) (ci := 8) (As := [.int (xs 1)]) (rest := [.int (F_image ((xs 1)))]) (wc := [((qm 0), .inr (8, [.int 2, .int 0, .int 1, .int 0, .int 0, .int 0, .ref (qm 1), .ref (qm 2), .int 0, .int 0, .ref (qm 3), .ref (qm 4), .ref (qm 5), .ref (qm 6), .ref (qm 7), .ref (qm 8), .ref (qm 9), .int 0, .int 0, .int 0, .ref (qm 10), .ref (qm 11), .ref (qm 12), .ref (qm 13), .int 0, .int 0, .ref (qm 14), .ref (qm 15), .ref (qm 16), .ref (qm 17), .int 0, .int 0, .ref (qm 18), .ref (qm 19), .ref (qm 20), .ref (qm 21)])), ((qm 4), .inl (k 1, 9, .inr (.inl (tL [] 0)))), ((qm 14), .inl (k 0, 400, .inl (tI [] 0)))]) hx hb hml hown hU hK hP hD rfl rfl [0, 4, 14] rfl (by decide) (cX11_image_1 l D k _ (qm 0) (qm 4) (qm 14) (qm 1) (qm 2) (qm 3) (qm 5) (qm 6) (qm 7) (qm 8) (qm 9) (qm 10) (qm 11) (qm 12) (qm 13) (qm 15) (qm 16) (qm 17) (qm 18) (qm 19) (qm 20) (qm 21) ((xs 1))) w1115 w1112 w1113 w1114 w72 hdX11_image ⟨rfl, rfl⟩ ⟨Nat.le_of_ble_eq_true rfl, Nat.le_of_ble_eq_true rfl⟩ rfl hl.1 (Nat.le_of_ble_eq_true rfl) dL_law_766 ⟨Nat.le_of_ble_eq_true rfl, Nat.le_of_ble_eq_true rfl⟩) hP hD hS hA (wr := []) [0, 4, 14] [] rfl rfl (by decide) (by decide) (fun r2 H locs hB J hS => ?_)
  obtain rfl := hB
  refine lv_icmp_eq (tgt := 1333) hx hb dL_law_769 (by decide) (fun _ => ?_) (fun cc => absurd rfl cc)
  exact law_end l C0 hA' hbA (Nat.le_of_ble_eq_true rfl) (Nat.le_of_ble_eq_true rfl) hS (lv_sub hl [0, 3] rfl)
set_option maxHeartbeats 4000000 in
set_option maxRecDepth 100000 in
theorem law_faithful {p : Program} {e : Env} {s : State} {m : MethodId} {below : List Frame} {meth : Method} {c : Code} (l : Launch) {b : Nat} {xs : Nat → Int32} (C0 : lw_At p s m meth c b 6 xs) {D : va_G} {k : Nat → ClassId} (hK : kX D k s) {A : Nat → Prop} (hA : ∀ q, s.heap.size ≤ q → A q) (hA' : ∀ q, A q → s.heap.size ≤ q) (hbA : ¬ A b) (qx qm : Nat → Nat) {H : Heap} {locs : List Loc} {ls : Array Slot} (hP : va_P D cl0 (XW k qx ++ MW k qm) H) (hD : va_D A (XW k qx ++ MW k qm)) (hS : va_S A s.heap H locs) (hl : lv_has ls 4 [(3, .int 0), (2, .ref (qm 0)), (1, .ref (qx 0)), (0, .ref b)]) : W p l e room_1 s m #[Value.ref b] below meth c H locs 63 17884 (lw_Z below #[Value.ref b] s) (F0 m 774 ls []) := by
  obtain ⟨hx, hb, hr, hml, hown, hts, hX, hbl, hlocks, hgv⟩ := id C0
  have hU : ∀ w ∈ uw, w.before #[Value.ref b] s = true := fun w h => hts w (List.mem_filter.mp h).1
  refine lv_aload_n hx hb dL_law_774 rfl (lv_at hl 2 rfl) ?_
  refine lv_aload_n hx hb dL_law_775 rfl (lv_at hl 3 rfl) ?_
  refine lv_iload_n hx hb dL_law_776 rfl (lv_at hl 0 rfl) ?_
  refine lv_iconst (v := 1) hx hb dL_law_777 (by decide) ?_
  refine lv_iadd hx hb dL_law_778 (sv_i (v := 1) (by decide +kernel) ?_)
  refine va_sld hx hb hX hbl hbA hS (ix_in (j := 1) (by decide +kernel)).1 dL_law_779 (sv_i (v := xs 1) (by rw [(ix_in (j := 1) (n := 6) (by decide +kernel)).2]) ?_)
  refine cI (rV (q0 := 0) (ci := 7) (As := [.int (xs 1)]) (rest := []) (wc := [((qx 0), .inr (7, [.ref (qx 1), .ref (qx 3), .int 0, .ref (qx 5), .ref (qx 8), .ref (qx 9), .int 0, .ref (qx 18), .int 0, .null, .ref (qx 27), .int 0, .ref (qx 28), .ref (qx 29), .ref (qx 30), .ref (qx 31), .ref (qx 32)])), ((qx 1), .inr (4, [.int 2, .int 0, .int 1, .ref (qx 2)])), ((qx 9), .inr (3, [.ref (qx 11), .ref (qx 12), .ref (qx 13), .ref (qx 14), .ref (qx 15), .ref (qx 16), .ref (qx 17), .ref (qx 10), .int 0, .int 0, .int 0, .int 0])), ((qx 11), .inl (k 1, 900, .inr (.inl (tL [] 0)))), ((qx 12), .inl (k 0, 100, .inl (tI [] 0))), ((qx 13), .inl (k 0, 100, .inl (tI [] 0))), ((qx 14), .inl (k 0, 100, .inl (tI [] 0))), ((qx 16), .inl (k 0, 256, .inl (tI [] 0))), ((qx 17), .inl (k 0, 100, .inl (tI [] 0))), ((qx 28), .inr (2, [.ref (qx 1), .int 0])), ((qx 31), .inl (k 1, 9, .inr (.inl (tL [] 0))))]) hx hb hml hown hU hK hP hD rfl rfl [0, 1, 9, 11, 12, 13, 14, 16, 17, 28, 31] rfl (by decide) (cX10_faithful_1 l D k _ (qx 0) (qx 1) (qx 9) (qx 11) (qx 12) (qx 13) (qx 14) (qx 16) (qx 17) (qx 28) (qx 31) (qx 3) (qx 5) (qx 8) (qx 18) (qx 27) (qx 29) (qx 30) (qx 32) (qx 2) (qx 15) (qx 10) ((xs 1))) w676 w673 w674 w675 w63 hdX10_faithful ⟨rfl, rfl⟩ ⟨Nat.le_of_ble_eq_true rfl, Nat.le_of_ble_eq_true rfl⟩ rfl hl.1 (Nat.le_of_ble_eq_true rfl) dL_law_780 ⟨Nat.le_of_ble_eq_true rfl, Nat.le_of_ble_eq_true rfl⟩) hP hD hS hA (wr := MW k qm) [0, 1, 9, 11, 12, 13, 14, 16, 17, 28, 31] [41, 42, 43, 44, 45, 46, 47, 48, 49, 50, 51, 52, 53, 54, 55, 56, 57, 58, 59, 60, 61, 62] rfl rfl (by decide) (by decide) (fun r1 H locs hB J hS => ?_)
  obtain rfl := hB
  obtain ⟨hP, hD⟩ := J.nil
  refine lv_aload_n hx hb dL_law_783 rfl (lv_at hl 1 rfl) ?_
  refine lv_aload_n hx hb dL_law_784 rfl (lv_at hl 3 rfl) ?_
  refine lv_iload_n hx hb dL_law_785 rfl (lv_at hl 0 rfl) ?_
  refine lv_iconst (v := 1) hx hb dL_law_786 (by decide) ?_
  refine lv_iadd hx hb dL_law_787 (sv_i (v := 1) (by decide +kernel) ?_)
  refine va_sld hx hb hX hbl hbA hS (ix_in (j := 1) (by decide +kernel)).1 dL_law_788 (sv_i (v := xs 1) (by rw [(ix_in (j := 1) (n := 6) (by decide +kernel)).2]) ?_)
  refine cI (rV (q0 := 0) (ci := 8) (As := [.int (xs 1)]) (rest := [.int (F_faithful ((xs 1)))]) (wc := [((qm 0), .inr (8, [.int 2, .int 0, .int 1, .int 0, .int 0, .int 0, .ref (qm 1), .ref (qm 2), .int 0, .int 0, .ref (qm 3), .ref (qm 4), .ref (qm 5), .ref (qm 6), .ref (qm 7), .ref (qm 8), .ref (qm 9), .int 0, .int 0, .int 0, .ref (qm 10), .ref (qm 11), .ref (qm 12), .ref (qm 13), .int 0, .int 0, .ref (qm 14), .ref (qm 15), .ref (qm 16), .ref (qm 17), .int 0, .int 0, .ref (qm 18), .ref (qm 19), .ref (qm 20), .ref (qm 21)])), ((qm 4), .inl (k 1, 9, .inr (.inl (tL [] 0)))), ((qm 10), .inl (k 1, 900, .inr (.inl (tL [] 0)))), ((qm 11), .inl (k 0, 100, .inl (tI [] 0))), ((qm 12), .inl (k 0, 100, .inl (tI [] 0))), ((qm 13), .inl (k 0, 100, .inl (tI [] 0))), ((qm 14), .inl (k 0, 400, .inl (tI [] 0)))]) hx hb hml hown hU hK hP hD rfl rfl [0, 4, 10, 11, 12, 13, 14] rfl (by decide) (cX11_faithful_1 l D k _ (qm 0) (qm 4) (qm 10) (qm 11) (qm 12) (qm 13) (qm 14) (qm 1) (qm 2) (qm 3) (qm 5) (qm 6) (qm 7) (qm 8) (qm 9) (qm 15) (qm 16) (qm 17) (qm 18) (qm 19) (qm 20) (qm 21) ((xs 1))) w1130 w1127 w1128 w1129 w72 hdX11_faithful ⟨rfl, rfl⟩ ⟨Nat.le_of_ble_eq_true rfl, Nat.le_of_ble_eq_true rfl⟩ rfl hl.1 (Nat.le_of_ble_eq_true rfl) dL_law_789 ⟨Nat.le_of_ble_eq_true rfl, Nat.le_of_ble_eq_true rfl⟩) hP hD hS hA (wr := []) [0, 4, 10, 11, 12, 13, 14] [] rfl rfl (by decide) (by decide) (fun r2 H locs hB J hS => ?_)
  obtain rfl := hB
  refine lv_icmp_eq (tgt := 1333) hx hb dL_law_792 (by decide) (fun _ => ?_) (fun cc => absurd rfl cc)
  exact law_end l C0 hA' hbA (Nat.le_of_ble_eq_true rfl) (Nat.le_of_ble_eq_true rfl) hS (lv_sub hl [0, 3] rfl)
set_option maxHeartbeats 4000000 in
set_option maxRecDepth 100000 in
theorem law_orbit {p : Program} {e : Env} {s : State} {m : MethodId} {below : List Frame} {meth : Method} {c : Code} (l : Launch) {b : Nat} {xs : Nat → Int32} (C0 : lw_At p s m meth c b 6 xs) {D : va_G} {k : Nat → ClassId} (hK : kX D k s) {A : Nat → Prop} (hA : ∀ q, s.heap.size ≤ q → A q) (hA' : ∀ q, A q → s.heap.size ≤ q) (hbA : ¬ A b) (qx qm : Nat → Nat) {H : Heap} {locs : List Loc} {ls : Array Slot} (hP : va_P D cl0 (XW k qx ++ MW k qm) H) (hD : va_D A (XW k qx ++ MW k qm)) (hS : va_S A s.heap H locs) (hl : lv_has ls 4 [(3, .int 0), (2, .ref (qm 0)), (1, .ref (qx 0)), (0, .ref b)]) : W p l e room_1 s m #[Value.ref b] below meth c H locs 63 17884 (lw_Z below #[Value.ref b] s) (F0 m 797 ls []) := by
  obtain ⟨hx, hb, hr, hml, hown, hts, hX, hbl, hlocks, hgv⟩ := id C0
  have hU : ∀ w ∈ uw, w.before #[Value.ref b] s = true := fun w h => hts w (List.mem_filter.mp h).1
  refine lv_aload_n hx hb dL_law_797 rfl (lv_at hl 2 rfl) ?_
  refine lv_aload_n hx hb dL_law_798 rfl (lv_at hl 3 rfl) ?_
  refine lv_iload_n hx hb dL_law_799 rfl (lv_at hl 0 rfl) ?_
  refine lv_iconst (v := 1) hx hb dL_law_800 (by decide) ?_
  refine lv_iadd hx hb dL_law_801 (sv_i (v := 1) (by decide +kernel) ?_)
  refine va_sld hx hb hX hbl hbA hS (ix_in (j := 1) (by decide +kernel)).1 dL_law_802 (sv_i (v := xs 1) (by rw [(ix_in (j := 1) (n := 6) (by decide +kernel)).2]) ?_)
  refine lv_aload_n hx hb dL_law_803 rfl (lv_at hl 3 rfl) ?_
  refine lv_iload_n hx hb dL_law_804 rfl (lv_at hl 0 rfl) ?_
  refine lv_iconst (v := 2) hx hb dL_law_805 (by decide) ?_
  refine lv_iadd hx hb dL_law_806 (sv_i (v := 2) (by decide +kernel) ?_)
  refine va_sld hx hb hX hbl hbA hS (ix_in (j := 2) (by decide +kernel)).1 dL_law_807 (sv_i (v := xs 2) (by rw [(ix_in (j := 2) (n := 6) (by decide +kernel)).2]) ?_)
  refine lv_aload_n hx hb dL_law_808 rfl (lv_at hl 3 rfl) ?_
  refine lv_iload_n hx hb dL_law_809 rfl (lv_at hl 0 rfl) ?_
  refine lv_iconst (v := 3) hx hb dL_law_810 (by decide) ?_
  refine lv_iadd hx hb dL_law_811 (sv_i (v := 3) (by decide +kernel) ?_)
  refine va_sld hx hb hX hbl hbA hS (ix_in (j := 3) (by decide +kernel)).1 dL_law_812 (sv_i (v := xs 3) (by rw [(ix_in (j := 3) (n := 6) (by decide +kernel)).2]) ?_)
  refine cI (rV (q0 := 0) (ci := 7) (As := [.int (xs 1), .int (xs 2), .int (xs 3)]) (rest := []) (wc := [((qx 0), .inr (7, [.ref (qx 1), .ref (qx 3), .int 0, .ref (qx 5), .ref (qx 8), .ref (qx 9), .int 0, .ref (qx 18), .int 0, .null, .ref (qx 27), .int 0, .ref (qx 28), .ref (qx 29), .ref (qx 30), .ref (qx 31), .ref (qx 32)])), ((qx 1), .inr (4, [.int 2, .int 0, .int 1, .ref (qx 2)])), ((qx 18), .inr (3, [.ref (qx 20), .ref (qx 21), .ref (qx 22), .ref (qx 23), .ref (qx 24), .ref (qx 25), .ref (qx 26), .ref (qx 19), .int 0, .int 0, .int 0, .int 0])), ((qx 20), .inl (k 1, 180, .inr (.inl (tL [] 0)))), ((qx 21), .inl (k 0, 60, .inl (tI [] 0))), ((qx 22), .inl (k 0, 60, .inl (tI [] 0))), ((qx 23), .inl (k 0, 60, .inl (tI [] 0))), ((qx 25), .inl (k 0, 128, .inl (tI [] 0))), ((qx 26), .inl (k 0, 60, .inl (tI [] 0))), ((qx 31), .inl (k 1, 9, .inr (.inl (tL [] 0))))]) hx hb hml hown hU hK hP hD rfl rfl [0, 1, 18, 20, 21, 22, 23, 25, 26, 31] rfl (by decide) (cX10_orbit_1 l D k _ (qx 0) (qx 1) (qx 18) (qx 20) (qx 21) (qx 22) (qx 23) (qx 25) (qx 26) (qx 31) (qx 3) (qx 5) (qx 8) (qx 9) (qx 27) (qx 28) (qx 29) (qx 30) (qx 32) (qx 2) (qx 24) (qx 19) ((xs 1)) ((xs 2)) ((xs 3))) w685 w682 w683 w684 w63 hdX10_orbit ⟨rfl, rfl⟩ ⟨Nat.le_of_ble_eq_true rfl, Nat.le_of_ble_eq_true rfl⟩ rfl hl.1 (Nat.le_of_ble_eq_true rfl) dL_law_813 ⟨Nat.le_of_ble_eq_true rfl, Nat.le_of_ble_eq_true rfl⟩) hP hD hS hA (wr := MW k qm) [0, 1, 18, 20, 21, 22, 23, 25, 26, 31] [41, 42, 43, 44, 45, 46, 47, 48, 49, 50, 51, 52, 53, 54, 55, 56, 57, 58, 59, 60, 61, 62] rfl rfl (by decide) (by decide) (fun r1 H locs hB J hS => ?_)
  obtain rfl := hB
  obtain ⟨hP, hD⟩ := J.nil
  refine lv_aload_n hx hb dL_law_816 rfl (lv_at hl 1 rfl) ?_
  refine lv_aload_n hx hb dL_law_817 rfl (lv_at hl 3 rfl) ?_
  refine lv_iload_n hx hb dL_law_818 rfl (lv_at hl 0 rfl) ?_
  refine lv_iconst (v := 1) hx hb dL_law_819 (by decide) ?_
  refine lv_iadd hx hb dL_law_820 (sv_i (v := 1) (by decide +kernel) ?_)
  refine va_sld hx hb hX hbl hbA hS (ix_in (j := 1) (by decide +kernel)).1 dL_law_821 (sv_i (v := xs 1) (by rw [(ix_in (j := 1) (n := 6) (by decide +kernel)).2]) ?_)
  refine lv_aload_n hx hb dL_law_822 rfl (lv_at hl 3 rfl) ?_
  refine lv_iload_n hx hb dL_law_823 rfl (lv_at hl 0 rfl) ?_
  refine lv_iconst (v := 2) hx hb dL_law_824 (by decide) ?_
  refine lv_iadd hx hb dL_law_825 (sv_i (v := 2) (by decide +kernel) ?_)
  refine va_sld hx hb hX hbl hbA hS (ix_in (j := 2) (by decide +kernel)).1 dL_law_826 (sv_i (v := xs 2) (by rw [(ix_in (j := 2) (n := 6) (by decide +kernel)).2]) ?_)
  refine lv_aload_n hx hb dL_law_827 rfl (lv_at hl 3 rfl) ?_
  refine lv_iload_n hx hb dL_law_828 rfl (lv_at hl 0 rfl) ?_
  refine lv_iconst (v := 3) hx hb dL_law_829 (by decide) ?_
  refine lv_iadd hx hb dL_law_830 (sv_i (v := 3) (by decide +kernel) ?_)
  refine va_sld hx hb hX hbl hbA hS (ix_in (j := 3) (by decide +kernel)).1 dL_law_831 (sv_i (v := xs 3) (by rw [(ix_in (j := 3) (n := 6) (by decide +kernel)).2]) ?_)
  refine cI (rV (q0 := 0) (ci := 8) (As := [.int (xs 1), .int (xs 2), .int (xs 3)]) (rest := [.int (F_orbit ((xs 1)) ((xs 2)) ((xs 3)))]) (wc := [((qm 0), .inr (8, [.int 2, .int 0, .int 1, .int 0, .int 0, .int 0, .ref (qm 1), .ref (qm 2), .int 0, .int 0, .ref (qm 3), .ref (qm 4), .ref (qm 5), .ref (qm 6), .ref (qm 7), .ref (qm 8), .ref (qm 9), .int 0, .int 0, .int 0, .ref (qm 10), .ref (qm 11), .ref (qm 12), .ref (qm 13), .int 0, .int 0, .ref (qm 14), .ref (qm 15), .ref (qm 16), .ref (qm 17), .int 0, .int 0, .ref (qm 18), .ref (qm 19), .ref (qm 20), .ref (qm 21)])), ((qm 15), .inl (k 1, 180, .inr (.inl (tL [] 0))))]) hx hb hml hown hU hK hP hD rfl rfl [0, 15] rfl (by decide) (cX11_orbit_1 l D k _ (qm 0) (qm 15) (qm 1) (qm 2) (qm 3) (qm 4) (qm 5) (qm 6) (qm 7) (qm 8) (qm 9) (qm 10) (qm 11) (qm 12) (qm 13) (qm 14) (qm 16) (qm 17) (qm 18) (qm 19) (qm 20) (qm 21) ((xs 1)) ((xs 2)) ((xs 3))) w1134 w1131 w1132 w1133 w72 hdX11_orbit ⟨rfl, rfl⟩ ⟨Nat.le_of_ble_eq_true rfl, Nat.le_of_ble_eq_true rfl⟩ rfl hl.1 (Nat.le_of_ble_eq_true rfl) dL_law_832 ⟨Nat.le_of_ble_eq_true rfl, Nat.le_of_ble_eq_true rfl⟩) hP hD hS hA (wr := []) [0, 15] [] rfl rfl (by decide) (by decide) (fun r2 H locs hB J hS => ?_)
  obtain rfl := hB
  refine lv_icmp_eq (tgt := 1333) hx hb dL_law_835 (by decide) (fun _ => ?_) (fun cc => absurd rfl cc)
  exact law_end l C0 hA' hbA (Nat.le_of_ble_eq_true rfl) (Nat.le_of_ble_eq_true rfl) hS (lv_sub hl [0, 3] rfl)
set_option maxHeartbeats 4000000 in
set_option maxRecDepth 100000 in
theorem law_point {p : Program} {e : Env} {s : State} {m : MethodId} {below : List Frame} {meth : Method} {c : Code} (l : Launch) {b : Nat} {xs : Nat → Int32} (C0 : lw_At p s m meth c b 6 xs) {D : va_G} {k : Nat → ClassId} (hK : kX D k s) {A : Nat → Prop} (hA : ∀ q, s.heap.size ≤ q → A q) (hA' : ∀ q, A q → s.heap.size ≤ q) (hbA : ¬ A b) (qx qm : Nat → Nat) {H : Heap} {locs : List Loc} {ls : Array Slot} (hP : va_P D cl0 (XW k qx ++ MW k qm) H) (hD : va_D A (XW k qx ++ MW k qm)) (hS : va_S A s.heap H locs) (hl : lv_has ls 4 [(3, .int 0), (2, .ref (qm 0)), (1, .ref (qx 0)), (0, .ref b)]) : W p l e room_1 s m #[Value.ref b] below meth c H locs 63 17884 (lw_Z below #[Value.ref b] s) (F0 m 840 ls []) := by
  obtain ⟨hx, hb, hr, hml, hown, hts, hX, hbl, hlocks, hgv⟩ := id C0
  have hU : ∀ w ∈ uw, w.before #[Value.ref b] s = true := fun w h => hts w (List.mem_filter.mp h).1
  refine lv_aload_n hx hb dL_law_840 rfl (lv_at hl 2 rfl) ?_
  refine lv_aload_n hx hb dL_law_841 rfl (lv_at hl 3 rfl) ?_
  refine lv_iload_n hx hb dL_law_842 rfl (lv_at hl 0 rfl) ?_
  refine lv_iconst (v := 1) hx hb dL_law_843 (by decide) ?_
  refine lv_iadd hx hb dL_law_844 (sv_i (v := 1) (by decide +kernel) ?_)
  refine va_sld hx hb hX hbl hbA hS (ix_in (j := 1) (by decide +kernel)).1 dL_law_845 (sv_i (v := xs 1) (by rw [(ix_in (j := 1) (n := 6) (by decide +kernel)).2]) ?_)
  refine lv_aload_n hx hb dL_law_846 rfl (lv_at hl 3 rfl) ?_
  refine lv_iload_n hx hb dL_law_847 rfl (lv_at hl 0 rfl) ?_
  refine lv_iconst (v := 2) hx hb dL_law_848 (by decide) ?_
  refine lv_iadd hx hb dL_law_849 (sv_i (v := 2) (by decide +kernel) ?_)
  refine va_sld hx hb hX hbl hbA hS (ix_in (j := 2) (by decide +kernel)).1 dL_law_850 (sv_i (v := xs 2) (by rw [(ix_in (j := 2) (n := 6) (by decide +kernel)).2]) ?_)
  refine cL (rV (q0 := 0) (ci := 7) (As := [.int (xs 1), .int (xs 2)]) (rest := []) (wc := [((qx 0), .inr (7, [.ref (qx 1), .ref (qx 3), .int 0, .ref (qx 5), .ref (qx 8), .ref (qx 9), .int 0, .ref (qx 18), .int 0, .null, .ref (qx 27), .int 0, .ref (qx 28), .ref (qx 29), .ref (qx 30), .ref (qx 31), .ref (qx 32)]))]) hx hb hml hown hU hK hP hD rfl rfl [0] rfl (by decide) (cX10_point_1 l D k _ (qx 0) (qx 1) (qx 3) (qx 5) (qx 8) (qx 9) (qx 18) (qx 27) (qx 28) (qx 29) (qx 30) (qx 31) (qx 32) ((xs 1)) ((xs 2))) w699 w696 w697 w698 w63 hdX10_point ⟨rfl, rfl⟩ ⟨Nat.le_of_ble_eq_true rfl, Nat.le_of_ble_eq_true rfl⟩ rfl hl.1 (Nat.le_of_ble_eq_true rfl) dL_law_851 ⟨Nat.le_of_ble_eq_true rfl, Nat.le_of_ble_eq_true rfl⟩) hP hD hS hA (wr := MW k qm) [0] [41, 42, 43, 44, 45, 46, 47, 48, 49, 50, 51, 52, 53, 54, 55, 56, 57, 58, 59, 60, 61, 62] rfl rfl (by decide) (by decide) (fun r1 H locs hB J hS => ?_)
  obtain rfl := hB
  obtain ⟨hP, hD⟩ := J.nil
  refine lv_aload_n hx hb dL_law_854 rfl (lv_at hl 1 rfl) ?_
  refine lv_aload_n hx hb dL_law_855 rfl (lv_at hl 3 rfl) ?_
  refine lv_iload_n hx hb dL_law_856 rfl (lv_at hl 0 rfl) ?_
  refine lv_iconst (v := 1) hx hb dL_law_857 (by decide) ?_
  refine lv_iadd hx hb dL_law_858 (sv_i (v := 1) (by decide +kernel) ?_)
  refine va_sld hx hb hX hbl hbA hS (ix_in (j := 1) (by decide +kernel)).1 dL_law_859 (sv_i (v := xs 1) (by rw [(ix_in (j := 1) (n := 6) (by decide +kernel)).2]) ?_)
  refine lv_aload_n hx hb dL_law_860 rfl (lv_at hl 3 rfl) ?_
  refine lv_iload_n hx hb dL_law_861 rfl (lv_at hl 0 rfl) ?_
  refine lv_iconst (v := 2) hx hb dL_law_862 (by decide) ?_
  refine lv_iadd hx hb dL_law_863 (sv_i (v := 2) (by decide +kernel) ?_)
  refine va_sld hx hb hX hbl hbA hS (ix_in (j := 2) (by decide +kernel)).1 dL_law_864 (sv_i (v := xs 2) (by rw [(ix_in (j := 2) (n := 6) (by decide +kernel)).2]) ?_)
  refine cL (rV (q0 := 0) (ci := 8) (As := [.int (xs 1), .int (xs 2)]) (rest := [.long (F_point ((xs 1)) ((xs 2)))]) (wc := [((qm 0), .inr (8, [.int 2, .int 0, .int 1, .int 0, .int 0, .int 0, .ref (qm 1), .ref (qm 2), .int 0, .int 0, .ref (qm 3), .ref (qm 4), .ref (qm 5), .ref (qm 6), .ref (qm 7), .ref (qm 8), .ref (qm 9), .int 0, .int 0, .int 0, .ref (qm 10), .ref (qm 11), .ref (qm 12), .ref (qm 13), .int 0, .int 0, .ref (qm 14), .ref (qm 15), .ref (qm 16), .ref (qm 17), .int 0, .int 0, .ref (qm 18), .ref (qm 19), .ref (qm 20), .ref (qm 21)]))]) hx hb hml hown hU hK hP hD rfl rfl [0] rfl (by decide) (cX11_point_1 l D k _ (qm 0) (qm 1) (qm 2) (qm 3) (qm 4) (qm 5) (qm 6) (qm 7) (qm 8) (qm 9) (qm 10) (qm 11) (qm 12) (qm 13) (qm 14) (qm 15) (qm 16) (qm 17) (qm 18) (qm 19) (qm 20) (qm 21) ((xs 1)) ((xs 2))) w1151 w1148 w1149 w1150 w72 hdX11_point ⟨rfl, rfl⟩ ⟨Nat.le_of_ble_eq_true rfl, Nat.le_of_ble_eq_true rfl⟩ rfl hl.1 (Nat.le_of_ble_eq_true rfl) dL_law_865 ⟨Nat.le_of_ble_eq_true rfl, Nat.le_of_ble_eq_true rfl⟩) hP hD hS hA (wr := []) [0] [] rfl rfl (by decide) (by decide) (fun r2 H locs hB J hS => ?_)
  obtain rfl := hB
  refine W.lcmp hx hb dL_law_868 (sv_i (v := 0) ((lg_cmp_eq _ _).mpr rfl) ?_)
  refine lv_if_eq (tgt := 1333) hx hb dL_law_869 (by decide) (fun _ => ?_) (fun cc => absurd rfl cc)
  exact law_end l C0 hA' hbA (Nat.le_of_ble_eq_true rfl) (Nat.le_of_ble_eq_true rfl) hS (lv_sub hl [0, 3] rfl)
set_option maxHeartbeats 4000000 in
set_option maxRecDepth 100000 in
theorem law_round {p : Program} {e : Env} {s : State} {m : MethodId} {below : List Frame} {meth : Method} {c : Code} (l : Launch) {b : Nat} {xs : Nat → Int32} (C0 : lw_At p s m meth c b 6 xs) {D : va_G} {k : Nat → ClassId} (hK : kX D k s) {A : Nat → Prop} (hA : ∀ q, s.heap.size ≤ q → A q) (hA' : ∀ q, A q → s.heap.size ≤ q) (hbA : ¬ A b) (qx qm : Nat → Nat) {H : Heap} {locs : List Loc} {ls : Array Slot} (hP : va_P D cl0 (XW k qx ++ MW k qm) H) (hD : va_D A (XW k qx ++ MW k qm)) (hS : va_S A s.heap H locs) (hl : lv_has ls 4 [(3, .int 0), (2, .ref (qm 0)), (1, .ref (qx 0)), (0, .ref b)]) : W p l e room_1 s m #[Value.ref b] below meth c H locs 63 17884 (lw_Z below #[Value.ref b] s) (F0 m 874 ls []) := by
  obtain ⟨hx, hb, hr, hml, hown, hts, hX, hbl, hlocks, hgv⟩ := id C0
  have hU : ∀ w ∈ uw, w.before #[Value.ref b] s = true := fun w h => hts w (List.mem_filter.mp h).1
  refine lv_aload_n hx hb dL_law_874 rfl (lv_at hl 2 rfl) ?_
  refine lv_aload_n hx hb dL_law_875 rfl (lv_at hl 3 rfl) ?_
  refine lv_iload_n hx hb dL_law_876 rfl (lv_at hl 0 rfl) ?_
  refine lv_iconst (v := 1) hx hb dL_law_877 (by decide) ?_
  refine lv_iadd hx hb dL_law_878 (sv_i (v := 1) (by decide +kernel) ?_)
  refine va_sld hx hb hX hbl hbA hS (ix_in (j := 1) (by decide +kernel)).1 dL_law_879 (sv_i (v := xs 1) (by rw [(ix_in (j := 1) (n := 6) (by decide +kernel)).2]) ?_)
  refine cI (rV (q0 := 0) (ci := 7) (As := [.int (xs 1)]) (rest := []) (wc := [((qx 0), .inr (7, [.ref (qx 1), .ref (qx 3), .int 0, .ref (qx 5), .ref (qx 8), .ref (qx 9), .int 0, .ref (qx 18), .int 0, .null, .ref (qx 27), .int 0, .ref (qx 28), .ref (qx 29), .ref (qx 30), .ref (qx 31), .ref (qx 32)]))]) hx hb hml hown hU hK hP hD rfl rfl [0] rfl (by decide) (cX10_round_1 l D k _ (qx 0) (qx 1) (qx 3) (qx 5) (qx 8) (qx 9) (qx 18) (qx 27) (qx 28) (qx 29) (qx 30) (qx 31) (qx 32) ((xs 1))) w703 w700 w701 w702 w63 hdX10_round ⟨rfl, rfl⟩ ⟨Nat.le_of_ble_eq_true rfl, Nat.le_of_ble_eq_true rfl⟩ rfl hl.1 (Nat.le_of_ble_eq_true rfl) dL_law_880 ⟨Nat.le_of_ble_eq_true rfl, Nat.le_of_ble_eq_true rfl⟩) hP hD hS hA (wr := MW k qm) [0] [41, 42, 43, 44, 45, 46, 47, 48, 49, 50, 51, 52, 53, 54, 55, 56, 57, 58, 59, 60, 61, 62] rfl rfl (by decide) (by decide) (fun r1 H locs hB J hS => ?_)
  obtain rfl := hB
  obtain ⟨hP, hD⟩ := J.nil
  refine lv_aload_n hx hb dL_law_883 rfl (lv_at hl 1 rfl) ?_
  refine lv_aload_n hx hb dL_law_884 rfl (lv_at hl 3 rfl) ?_
  refine lv_iload_n hx hb dL_law_885 rfl (lv_at hl 0 rfl) ?_
  refine lv_iconst (v := 1) hx hb dL_law_886 (by decide) ?_
  refine lv_iadd hx hb dL_law_887 (sv_i (v := 1) (by decide +kernel) ?_)
  refine va_sld hx hb hX hbl hbA hS (ix_in (j := 1) (by decide +kernel)).1 dL_law_888 (sv_i (v := xs 1) (by rw [(ix_in (j := 1) (n := 6) (by decide +kernel)).2]) ?_)
  refine cI (rV (q0 := 0) (ci := 8) (As := [.int (xs 1)]) (rest := [.int (F_round ((xs 1)))]) (wc := [((qm 0), .inr (8, [.int 2, .int 0, .int 1, .int 0, .int 0, .int 0, .ref (qm 1), .ref (qm 2), .int 0, .int 0, .ref (qm 3), .ref (qm 4), .ref (qm 5), .ref (qm 6), .ref (qm 7), .ref (qm 8), .ref (qm 9), .int 0, .int 0, .int 0, .ref (qm 10), .ref (qm 11), .ref (qm 12), .ref (qm 13), .int 0, .int 0, .ref (qm 14), .ref (qm 15), .ref (qm 16), .ref (qm 17), .int 0, .int 0, .ref (qm 18), .ref (qm 19), .ref (qm 20), .ref (qm 21)]))]) hx hb hml hown hU hK hP hD rfl rfl [0] rfl (by decide) (cX11_round_1 l D k _ (qm 0) (qm 1) (qm 2) (qm 3) (qm 4) (qm 5) (qm 6) (qm 7) (qm 8) (qm 9) (qm 10) (qm 11) (qm 12) (qm 13) (qm 14) (qm 15) (qm 16) (qm 17) (qm 18) (qm 19) (qm 20) (qm 21) ((xs 1))) w1155 w1152 w1153 w1154 w72 hdX11_round ⟨rfl, rfl⟩ ⟨Nat.le_of_ble_eq_true rfl, Nat.le_of_ble_eq_true rfl⟩ rfl hl.1 (Nat.le_of_ble_eq_true rfl) dL_law_889 ⟨Nat.le_of_ble_eq_true rfl, Nat.le_of_ble_eq_true rfl⟩) hP hD hS hA (wr := []) [0] [] rfl rfl (by decide) (by decide) (fun r2 H locs hB J hS => ?_)
  obtain rfl := hB
  refine lv_icmp_eq (tgt := 1333) hx hb dL_law_892 (by decide) (fun _ => ?_) (fun cc => absurd rfl cc)
  exact law_end l C0 hA' hbA (Nat.le_of_ble_eq_true rfl) (Nat.le_of_ble_eq_true rfl) hS (lv_sub hl [0, 3] rfl)
