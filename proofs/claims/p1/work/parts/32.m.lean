abbrev BX11_first_6 (D : va_G) (k : Nat → ClassId) (h0 h1 h2 h3 h4 h5 h6 h7 h8 h9 h10 h11 h12 h13 h14 h15 h16 h17 h18 h19 h20 h21 : Nat) (A : Nat → Prop) (H : Heap) : Prop := va_P D cl0 [(h1, .inr (8, [.int 2, .int 0, .int 1, .int 0, .int 0, .int 0, .ref h2, .ref h3, .int 0, .int 0, .ref h4, .ref h0, .ref h5, .ref h6, .ref h7, .ref h8, .ref h9, .int 0, .int 0, .int 0, .ref h10, .ref h11, .ref h12, .ref h13, .int 0, .int 0, .ref h14, .ref h15, .ref h16, .ref h17, .int 0, .int 0, .ref h18, .ref h19, .ref h20, .ref h21])), (h0, .inl (k 1, 9, .inr (.inl (tL [1, 0, 0, 0, 1, 0, 0, 0, 0] 0))))] H ∧ va_D A [(h1, .inr (8, [.int 2, .int 0, .int 1, .int 0, .int 0, .int 0, .ref h2, .ref h3, .int 0, .int 0, .ref h4, .ref h0, .ref h5, .ref h6, .ref h7, .ref h8, .ref h9, .int 0, .int 0, .int 0, .ref h10, .ref h11, .ref h12, .ref h13, .int 0, .int 0, .ref h14, .ref h15, .ref h16, .ref h17, .int 0, .int 0, .ref h18, .ref h19, .ref h20, .ref h21])), (h0, .inl (k 1, 9, .inr (.inl (tL [1, 0, 0, 0, 1, 0, 0, 0, 0] 0))))]
set_option maxHeartbeats 4000000 in
set_option maxRecDepth 100000 in
theorem cX11_first_6 (l : Launch) (D : va_G) (k : Nat → ClassId) (sz : Nat) (h0 h1 h2 h3 h4 h5 h6 h7 h8 h9 h10 h11 h12 h13 h14 h15 h16 h17 h18 h19 h20 h21 : Nat) : Met l yX11_first (Cond.code yX11_first cX11_first 3 none :: uw) ({ frames := 1, cells := 0, slots := 0, locals := 22 }) (pC D k sz [.ref h1, .ref h0] [(h0, .inl (k 1, 9, .inr (.inl (tL [] 0)))), (h1, .inr (8, [.int 2, .int 0, .int 1, .int 0, .int 0, .int 0, .ref h2, .ref h3, .int 0, .int 0, .ref h4, .ref h0, .ref h5, .ref h6, .ref h7, .ref h8, .ref h9, .int 0, .int 0, .int 0, .ref h10, .ref h11, .ref h12, .ref h13, .int 0, .int 0, .ref h14, .ref h15, .ref h16, .ref h17, .int 0, .int 0, .ref h18, .ref h19, .ref h20, .ref h21]))]) (qV (BX11_first_6 D k h0 h1 h2 h3 h4 h5 h6 h7 h8 h9 h10 h11 h12 h13 h14 h15 h16 h17 h18 h19 h20 h21 (va_A [(h0, .inl (k 1, 9, .inr (.inl (tL [] 0)))), (h1, .inr (8, [.int 2, .int 0, .int 1, .int 0, .int 0, .int 0, .ref h2, .ref h3, .int 0, .int 0, .ref h4, .ref h0, .ref h5, .ref h6, .ref h7, .ref h8, .ref h9, .int 0, .int 0, .int 0, .ref h10, .ref h11, .ref h12, .ref h13, .int 0, .int 0, .ref h14, .ref h15, .ref h16, .ref h17, .int 0, .int 0, .ref h18, .ref h19, .ref h20, .ref h21]))] sz)) (va_A [(h0, .inl (k 1, 9, .inr (.inl (tL [] 0)))), (h1, .inr (8, [.int 2, .int 0, .int 1, .int 0, .int 0, .int 0, .ref h2, .ref h3, .int 0, .int 0, .ref h4, .ref h0, .ref h5, .ref h6, .ref h7, .ref h8, .ref h9, .int 0, .int 0, .int 0, .ref h10, .ref h11, .ref h12, .ref h13, .int 0, .int 0, .ref h14, .ref h15, .ref h16, .ref h17, .int 0, .int 0, .ref h18, .ref h19, .ref h20, .ref h21]))] sz)) 0 0 (va_A [(h0, .inl (k 1, 9, .inr (.inl (tL [] 0)))), (h1, .inr (8, [.int 2, .int 0, .int 1, .int 0, .int 0, .int 0, .ref h2, .ref h3, .int 0, .int 0, .ref h4, .ref h0, .ref h5, .ref h6, .ref h7, .ref h8, .ref h9, .int 0, .int 0, .int 0, .ref h10, .ref h11, .ref h12, .ref h13, .int 0, .int 0, .ref h14, .ref h15, .ref h16, .ref h17, .int 0, .int 0, .ref h18, .ref h19, .ref h20, .ref h21]))] sz) := by
  refine begin_ (Qc := fun A => qV (BX11_first_6 D k h0 h1 h2 h3 h4 h5 h6 h7 h8 h9 h10 h11 h12 h13 h14 h15 h16 h17 h18 h19 h20 h21 A) A) (by decide) (Nat.le_of_ble_eq_true rfl) ?_
  intro p e s m below meth c ls A hx hb hr hml hown hlocks hin hU hK hsz hP hD hS hA hl
  have hl : lv_has ls 3 [(0, .ref h1), (1, .ref h0)] := hl
  clear hsz
  refine lv_aload_n hx hb dX11_first_0 rfl (lv_at hl 0 rfl) ?_
  refine lv_aload_n hx hb dX11_first_1 rfl (lv_at hl 1 rfl) ?_
  refine cV (rV (q0 := 1) (ci := 8) (As := [.ref h0]) (rest := []) (wc := [(h0, .inl (k 1, 9, .inr (.inl (tL [] 0))))]) hx hb hml hown hU hK hP hD rfl rfl [0] rfl (by decide) (cX11_clears_1 l D k _ h0 h1) w923 w920 w922 w29 w72 hdX11_clears ⟨rfl, rfl⟩ ⟨Nat.le_of_ble_eq_true rfl, Nat.le_of_ble_eq_true rfl⟩ rfl hl.1 (Nat.le_of_ble_eq_true rfl) dX11_first_2 ⟨Nat.le_of_ble_eq_true rfl, Nat.le_of_ble_eq_true rfl⟩) hP hD hS hA (wr := [(h1, .inr (8, [.int 2, .int 0, .int 1, .int 0, .int 0, .int 0, .ref h2, .ref h3, .int 0, .int 0, .ref h4, .ref h0, .ref h5, .ref h6, .ref h7, .ref h8, .ref h9, .int 0, .int 0, .int 0, .ref h10, .ref h11, .ref h12, .ref h13, .int 0, .int 0, .ref h14, .ref h15, .ref h16, .ref h17, .int 0, .int 0, .ref h18, .ref h19, .ref h20, .ref h21]))]) [0] [1] rfl rfl (by decide) (by decide) (fun H locs hB J hS => ?_)
  obtain ⟨hP1, hD1⟩ := hB
  obtain ⟨hP, hD⟩ := J _ hP1 hD1
  have hP : va_P D cl0 [(h1, .inr (8, [.int 2, .int 0, .int 1, .int 0, .int 0, .int 0, .ref h2, .ref h3, .int 0, .int 0, .ref h4, .ref h0, .ref h5, .ref h6, .ref h7, .ref h8, .ref h9, .int 0, .int 0, .int 0, .ref h10, .ref h11, .ref h12, .ref h13, .int 0, .int 0, .ref h14, .ref h15, .ref h16, .ref h17, .int 0, .int 0, .ref h18, .ref h19, .ref h20, .ref h21])), (h0, .inl (k 1, 9, .inr (.inl (tL [0, 0, 0, 0, 0, 0, 0, 0, 0] 0))))] H := hP
  have hD : va_D A [(h1, .inr (8, [.int 2, .int 0, .int 1, .int 0, .int 0, .int 0, .ref h2, .ref h3, .int 0, .int 0, .ref h4, .ref h0, .ref h5, .ref h6, .ref h7, .ref h8, .ref h9, .int 0, .int 0, .int 0, .ref h10, .ref h11, .ref h12, .ref h13, .int 0, .int 0, .ref h14, .ref h15, .ref h16, .ref h17, .int 0, .int 0, .ref h18, .ref h19, .ref h20, .ref h21])), (h0, .inl (k 1, 9, .inr (.inl (tL [0, 0, 0, 0, 0, 0, 0, 0, 0] 0))))] := hD
  refine lv_iconst (v := 0) hx hb dX11_first_5 (by decide) ?_
  refine lv_istore_n (lv' := [(2, .int 0), (0, .ref h1), (1, .ref h0)]) hx hb dX11_first_6 rfl hl (by decide) rfl (fun ls hl => ?_)
  refine lv_iload_n hx hb dX11_first_7 rfl (lv_at hl 0 rfl) ?_
  refine lv_aload_n hx hb dX11_first_8 rfl (lv_at hl 1 rfl) ?_
  refine va_get (D := D) (ci := 8) (v := .int 2) (C := RX11) (T := TX11) (N := 36) hx hb hU iX11 hown hK.1 hP 0 rfl rfl 0 (by decide) (hU _ w785) (fun _ h9 => h9) rfl dX11_first_9 ?_
  refine lv_icmp_ge (tgt := 27) hx hb dX11_first_12 (by decide) (fun cc => absurd cc (by decide +kernel)) (fun _ => ?_)
  refine lv_aload_n hx hb dX11_first_15 rfl (lv_at hl 2 rfl) ?_
  refine lv_iconst (v := 4) hx hb dX11_first_16 (by decide) ?_
  refine lv_iload_n hx hb dX11_first_17 rfl (lv_at hl 0 rfl) ?_
  refine lv_imul hx hb dX11_first_18 (sv_i (v := 0) (by decide +kernel) ?_)
  refine lv_lconst (v := 1) hx hb dX11_first_19 (by decide) ?_
  refine st_l (j := 0) (g := tL [1, 0, 0, 0, 0, 0, 0, 0, 0] 0) hx hb hK hP hD hS 1 rfl (by decide +kernel) upd_tL dX11_first_20 (fun H locs hP hD hS => ?_)
  have hP : va_P D cl0 [(h1, .inr (8, [.int 2, .int 0, .int 1, .int 0, .int 0, .int 0, .ref h2, .ref h3, .int 0, .int 0, .ref h4, .ref h0, .ref h5, .ref h6, .ref h7, .ref h8, .ref h9, .int 0, .int 0, .int 0, .ref h10, .ref h11, .ref h12, .ref h13, .int 0, .int 0, .ref h14, .ref h15, .ref h16, .ref h17, .int 0, .int 0, .ref h18, .ref h19, .ref h20, .ref h21])), (h0, .inl (k 1, 9, .inr (.inl (tL [1, 0, 0, 0, 0, 0, 0, 0, 0] 0))))] H := hP
  have hD : va_D A [(h1, .inr (8, [.int 2, .int 0, .int 1, .int 0, .int 0, .int 0, .ref h2, .ref h3, .int 0, .int 0, .ref h4, .ref h0, .ref h5, .ref h6, .ref h7, .ref h8, .ref h9, .int 0, .int 0, .int 0, .ref h10, .ref h11, .ref h12, .ref h13, .int 0, .int 0, .ref h14, .ref h15, .ref h16, .ref h17, .int 0, .int 0, .ref h18, .ref h19, .ref h20, .ref h21])), (h0, .inl (k 1, 9, .inr (.inl (tL [1, 0, 0, 0, 0, 0, 0, 0, 0] 0))))] := hD
  refine lv_iinc (v := 1) (lv' := [(2, .int 1), (0, .ref h1), (1, .ref h0)]) hx hb dX11_first_21 hl (k := 0) rfl (by decide) (by decide) rfl (fun ls hl => ?_)
  refine lv_goto (tgt := 7) hx hb dX11_first_24 (by decide) ?_
  refine lv_iload_n hx hb dX11_first_7 rfl (lv_at hl 0 rfl) ?_
  refine lv_aload_n hx hb dX11_first_8 rfl (lv_at hl 1 rfl) ?_
  refine va_get (D := D) (ci := 8) (v := .int 2) (C := RX11) (T := TX11) (N := 36) hx hb hU iX11 hown hK.1 hP 0 rfl rfl 0 (by decide) (hU _ w785) (fun _ h9 => h9) rfl dX11_first_9 ?_
  refine lv_icmp_ge (tgt := 27) hx hb dX11_first_12 (by decide) (fun cc => absurd cc (by decide +kernel)) (fun _ => ?_)
  refine lv_aload_n hx hb dX11_first_15 rfl (lv_at hl 2 rfl) ?_
  refine lv_iconst (v := 4) hx hb dX11_first_16 (by decide) ?_
  refine lv_iload_n hx hb dX11_first_17 rfl (lv_at hl 0 rfl) ?_
  refine lv_imul hx hb dX11_first_18 (sv_i (v := 4) (by decide +kernel) ?_)
  refine lv_lconst (v := 1) hx hb dX11_first_19 (by decide) ?_
  refine st_l (j := 4) (g := tL [1, 0, 0, 0, 1, 0, 0, 0, 0] 0) hx hb hK hP hD hS 1 rfl (by decide +kernel) upd_tL dX11_first_20 (fun H locs hP hD hS => ?_)
  have hP : va_P D cl0 [(h1, .inr (8, [.int 2, .int 0, .int 1, .int 0, .int 0, .int 0, .ref h2, .ref h3, .int 0, .int 0, .ref h4, .ref h0, .ref h5, .ref h6, .ref h7, .ref h8, .ref h9, .int 0, .int 0, .int 0, .ref h10, .ref h11, .ref h12, .ref h13, .int 0, .int 0, .ref h14, .ref h15, .ref h16, .ref h17, .int 0, .int 0, .ref h18, .ref h19, .ref h20, .ref h21])), (h0, .inl (k 1, 9, .inr (.inl (tL [1, 0, 0, 0, 1, 0, 0, 0, 0] 0))))] H := hP
  have hD : va_D A [(h1, .inr (8, [.int 2, .int 0, .int 1, .int 0, .int 0, .int 0, .ref h2, .ref h3, .int 0, .int 0, .ref h4, .ref h0, .ref h5, .ref h6, .ref h7, .ref h8, .ref h9, .int 0, .int 0, .int 0, .ref h10, .ref h11, .ref h12, .ref h13, .int 0, .int 0, .ref h14, .ref h15, .ref h16, .ref h17, .int 0, .int 0, .ref h18, .ref h19, .ref h20, .ref h21])), (h0, .inl (k 1, 9, .inr (.inl (tL [1, 0, 0, 0, 1, 0, 0, 0, 0] 0))))] := hD
  refine lv_iinc (v := 2) (lv' := [(2, .int 2), (0, .ref h1), (1, .ref h0)]) hx hb dX11_first_21 hl (k := 0) rfl (by decide) (by decide) rfl (fun ls hl => ?_)
  refine lv_goto (tgt := 7) hx hb dX11_first_24 (by decide) ?_
  refine lv_iload_n hx hb dX11_first_7 rfl (lv_at hl 0 rfl) ?_
  refine lv_aload_n hx hb dX11_first_8 rfl (lv_at hl 1 rfl) ?_
  refine va_get (D := D) (ci := 8) (v := .int 2) (C := RX11) (T := TX11) (N := 36) hx hb hU iX11 hown hK.1 hP 0 rfl rfl 0 (by decide) (hU _ w785) (fun _ h9 => h9) rfl dX11_first_9 ?_
  refine lv_icmp_ge (tgt := 27) hx hb dX11_first_12 (by decide) (fun _ => ?_) (fun cc => absurd (by decide +kernel) cc)
  exact retV hx hb hr hlocks hS (⟨hP, hD⟩) dX11_first_27
abbrev BX11_lists_1 (D : va_G) (k : Nat → ClassId) (h0 h1 h2 h3 h4 h5 h6 h7 h8 h9 h10 h11 h12 h13 h14 h15 h16 h17 h18 h19 h20 h21 : Nat) (A : Nat → Prop) (H : Heap) : Prop := va_P D cl0 [(h0, .inr (8, [.int 2, .int 0, .int 1, .int 0, .int 0, .int 0, .ref h6, .ref h7, .int 0, .int 0, .ref h8, .ref h1, .ref h9, .ref h10, .ref h11, .ref h12, .ref h13, .int 0, .int 0, .int 0, .ref h2, .ref h3, .ref h4, .ref h5, .int 1, .int 0, .ref h14, .ref h15, .ref h16, .ref h17, .int 0, .int 0, .ref h18, .ref h19, .ref h20, .ref h21])), (h1, .inl (k 1, 9, .inr (.inl (tL [1, 0, 0, 0, 1, 0, 0, 0, 0] 0)))), (h2, .inl (k 1, 900, .inr (.inl (tL [1, 0, 0, 0, 1, 0, 0, 0, 0] 0)))), (h3, .inl (k 0, 100, .inl (tI [(-3)] 0))), (h4, .inl (k 0, 100, .inl (tI [(-3)] 0))), (h5, .inl (k 0, 100, .inl (tI [0] 0)))] H ∧ va_D A [(h0, .inr (8, [.int 2, .int 0, .int 1, .int 0, .int 0, .int 0, .ref h6, .ref h7, .int 0, .int 0, .ref h8, .ref h1, .ref h9, .ref h10, .ref h11, .ref h12, .ref h13, .int 0, .int 0, .int 0, .ref h2, .ref h3, .ref h4, .ref h5, .int 1, .int 0, .ref h14, .ref h15, .ref h16, .ref h17, .int 0, .int 0, .ref h18, .ref h19, .ref h20, .ref h21])), (h1, .inl (k 1, 9, .inr (.inl (tL [1, 0, 0, 0, 1, 0, 0, 0, 0] 0)))), (h2, .inl (k 1, 900, .inr (.inl (tL [1, 0, 0, 0, 1, 0, 0, 0, 0] 0)))), (h3, .inl (k 0, 100, .inl (tI [(-3)] 0))), (h4, .inl (k 0, 100, .inl (tI [(-3)] 0))), (h5, .inl (k 0, 100, .inl (tI [0] 0)))]
set_option maxHeartbeats 4000000 in
set_option maxRecDepth 100000 in
theorem cX11_lists_1 (l : Launch) (D : va_G) (k : Nat → ClassId) (sz : Nat) (h0 h1 h2 h3 h4 h5 h6 h7 h8 h9 h10 h11 h12 h13 h14 h15 h16 h17 h18 h19 h20 h21 : Nat) : Met l yX11_lists (Cond.code yX11_lists cX11_lists 5 none :: uw) ({ frames := 0, cells := 0, slots := 0, locals := 0 }) (pC D k sz [.ref h0, .ref h1, .int (-3), .int (-3)] [(h0, .inr (8, [.int 2, .int 0, .int 1, .int 0, .int 0, .int 0, .ref h6, .ref h7, .int 0, .int 0, .ref h8, .ref h1, .ref h9, .ref h10, .ref h11, .ref h12, .ref h13, .int 0, .int 0, .int 0, .ref h2, .ref h3, .ref h4, .ref h5, .int 0, .int 0, .ref h14, .ref h15, .ref h16, .ref h17, .int 0, .int 0, .ref h18, .ref h19, .ref h20, .ref h21])), (h1, .inl (k 1, 9, .inr (.inl (tL [1, 0, 0, 0, 1, 0, 0, 0, 0] 0)))), (h2, .inl (k 1, 900, .inr (.inl (tL [] 0)))), (h3, .inl (k 0, 100, .inl (tI [] 0))), (h4, .inl (k 0, 100, .inl (tI [] 0))), (h5, .inl (k 0, 100, .inl (tI [] 0)))]) (qV (BX11_lists_1 D k h0 h1 h2 h3 h4 h5 h6 h7 h8 h9 h10 h11 h12 h13 h14 h15 h16 h17 h18 h19 h20 h21 (va_A [(h0, .inr (8, [.int 2, .int 0, .int 1, .int 0, .int 0, .int 0, .ref h6, .ref h7, .int 0, .int 0, .ref h8, .ref h1, .ref h9, .ref h10, .ref h11, .ref h12, .ref h13, .int 0, .int 0, .int 0, .ref h2, .ref h3, .ref h4, .ref h5, .int 0, .int 0, .ref h14, .ref h15, .ref h16, .ref h17, .int 0, .int 0, .ref h18, .ref h19, .ref h20, .ref h21])), (h1, .inl (k 1, 9, .inr (.inl (tL [1, 0, 0, 0, 1, 0, 0, 0, 0] 0)))), (h2, .inl (k 1, 900, .inr (.inl (tL [] 0)))), (h3, .inl (k 0, 100, .inl (tI [] 0))), (h4, .inl (k 0, 100, .inl (tI [] 0))), (h5, .inl (k 0, 100, .inl (tI [] 0)))] sz)) (va_A [(h0, .inr (8, [.int 2, .int 0, .int 1, .int 0, .int 0, .int 0, .ref h6, .ref h7, .int 0, .int 0, .ref h8, .ref h1, .ref h9, .ref h10, .ref h11, .ref h12, .ref h13, .int 0, .int 0, .int 0, .ref h2, .ref h3, .ref h4, .ref h5, .int 0, .int 0, .ref h14, .ref h15, .ref h16, .ref h17, .int 0, .int 0, .ref h18, .ref h19, .ref h20, .ref h21])), (h1, .inl (k 1, 9, .inr (.inl (tL [1, 0, 0, 0, 1, 0, 0, 0, 0] 0)))), (h2, .inl (k 1, 900, .inr (.inl (tL [] 0)))), (h3, .inl (k 0, 100, .inl (tI [] 0))), (h4, .inl (k 0, 100, .inl (tI [] 0))), (h5, .inl (k 0, 100, .inl (tI [] 0)))] sz)) 0 0 (va_A [(h0, .inr (8, [.int 2, .int 0, .int 1, .int 0, .int 0, .int 0, .ref h6, .ref h7, .int 0, .int 0, .ref h8, .ref h1, .ref h9, .ref h10, .ref h11, .ref h12, .ref h13, .int 0, .int 0, .int 0, .ref h2, .ref h3, .ref h4, .ref h5, .int 0, .int 0, .ref h14, .ref h15, .ref h16, .ref h17, .int 0, .int 0, .ref h18, .ref h19, .ref h20, .ref h21])), (h1, .inl (k 1, 9, .inr (.inl (tL [1, 0, 0, 0, 1, 0, 0, 0, 0] 0)))), (h2, .inl (k 1, 900, .inr (.inl (tL [] 0)))), (h3, .inl (k 0, 100, .inl (tI [] 0))), (h4, .inl (k 0, 100, .inl (tI [] 0))), (h5, .inl (k 0, 100, .inl (tI [] 0)))] sz) := by
  refine begin_ (Qc := fun A => qV (BX11_lists_1 D k h0 h1 h2 h3 h4 h5 h6 h7 h8 h9 h10 h11 h12 h13 h14 h15 h16 h17 h18 h19 h20 h21 A) A) (by decide) (Nat.le_of_ble_eq_true rfl) ?_
  intro p e s m below meth c ls A hx hb hr hml hown hlocks hin hU hK hsz hP hD hS hA hl
  have hl : lv_has ls 5 [(0, .ref h0), (1, .ref h1), (2, .int (-3)), (3, .int (-3))] := hl
  clear hsz
  refine lv_iconst (v := 0) hx hb dX11_lists_0 (by decide) ?_
  refine lv_istore (lv' := [(4, .int 0), (0, .ref h0), (1, .ref h1), (2, .int (-3)), (3, .int (-3))]) hx hb dX11_lists_1 hl (by decide) rfl (fun ls hl => ?_)
  refine lv_iload hx hb dX11_lists_3 (lv_at hl 0 rfl) ?_
  refine lv_bipush (v := 9) hx hb dX11_lists_5 (by decide) ?_
  refine lv_icmp_ge (tgt := 35) hx hb dX11_lists_7 (by decide) (fun cc => absurd cc (by decide +kernel)) (fun _ => ?_)
  refine lv_aload_n hx hb dX11_lists_10 rfl (lv_at hl 1 rfl) ?_
  refine va_get (D := D) (ci := 8) (v := .ref h2) (C := RX11) (T := TX11) (N := 36) hx hb hU iX11 hown hK.1 hP 0 rfl rfl 20 (by decide) (hU _ w805) (fun _ h9 => h9) rfl dX11_lists_11 ?_
  refine lv_bipush (v := 9) hx hb dX11_lists_14 (by decide) ?_
  refine lv_aload_n hx hb dX11_lists_16 rfl (lv_at hl 1 rfl) ?_
  refine va_get (D := D) (ci := 8) (v := .int 0) (C := RX11) (T := TX11) (N := 36) hx hb hU iX11 hown hK.1 hP 0 rfl rfl 24 (by decide) (hU _ w809) (fun _ h9 => h9) rfl dX11_lists_17 ?_
  refine lv_imul hx hb dX11_lists_20 (sv_i (v := 0) (by decide +kernel) ?_)
  refine lv_iload hx hb dX11_lists_21 (lv_at hl 0 rfl) ?_
  refine lv_iadd hx hb dX11_lists_23 (sv_i (v := 0) (by decide +kernel) ?_)
  refine lv_aload_n hx hb dX11_lists_24 rfl (lv_at hl 2 rfl) ?_
  refine lv_iload hx hb dX11_lists_25 (lv_at hl 0 rfl) ?_
  refine ld_l (j := 0) (v := 1) hx hb hK hP 1 rfl (by decide +kernel) rfl dX11_lists_27 ?_
  refine st_l (j := 0) (g := tL [1] 0) hx hb hK hP hD hS 2 rfl (by decide +kernel) upd_tL dX11_lists_28 (fun H locs hP hD hS => ?_)
  have hP : va_P D cl0 [(h0, .inr (8, [.int 2, .int 0, .int 1, .int 0, .int 0, .int 0, .ref h6, .ref h7, .int 0, .int 0, .ref h8, .ref h1, .ref h9, .ref h10, .ref h11, .ref h12, .ref h13, .int 0, .int 0, .int 0, .ref h2, .ref h3, .ref h4, .ref h5, .int 0, .int 0, .ref h14, .ref h15, .ref h16, .ref h17, .int 0, .int 0, .ref h18, .ref h19, .ref h20, .ref h21])), (h1, .inl (k 1, 9, .inr (.inl (tL [1, 0, 0, 0, 1, 0, 0, 0, 0] 0)))), (h2, .inl (k 1, 900, .inr (.inl (tL [1] 0)))), (h3, .inl (k 0, 100, .inl (tI [] 0))), (h4, .inl (k 0, 100, .inl (tI [] 0))), (h5, .inl (k 0, 100, .inl (tI [] 0)))] H := hP
  have hD : va_D A [(h0, .inr (8, [.int 2, .int 0, .int 1, .int 0, .int 0, .int 0, .ref h6, .ref h7, .int 0, .int 0, .ref h8, .ref h1, .ref h9, .ref h10, .ref h11, .ref h12, .ref h13, .int 0, .int 0, .int 0, .ref h2, .ref h3, .ref h4, .ref h5, .int 0, .int 0, .ref h14, .ref h15, .ref h16, .ref h17, .int 0, .int 0, .ref h18, .ref h19, .ref h20, .ref h21])), (h1, .inl (k 1, 9, .inr (.inl (tL [1, 0, 0, 0, 1, 0, 0, 0, 0] 0)))), (h2, .inl (k 1, 900, .inr (.inl (tL [1] 0)))), (h3, .inl (k 0, 100, .inl (tI [] 0))), (h4, .inl (k 0, 100, .inl (tI [] 0))), (h5, .inl (k 0, 100, .inl (tI [] 0)))] := hD
  refine lv_iinc (v := 1) (lv' := [(4, .int 1), (0, .ref h0), (1, .ref h1), (2, .int (-3)), (3, .int (-3))]) hx hb dX11_lists_29 hl (k := 0) rfl (by decide) (by decide) rfl (fun ls hl => ?_)
  refine lv_goto (tgt := 3) hx hb dX11_lists_32 (by decide) ?_
  refine lv_iload hx hb dX11_lists_3 (lv_at hl 0 rfl) ?_
  refine lv_bipush (v := 9) hx hb dX11_lists_5 (by decide) ?_
  refine lv_icmp_ge (tgt := 35) hx hb dX11_lists_7 (by decide) (fun cc => absurd cc (by decide +kernel)) (fun _ => ?_)
  refine lv_aload_n hx hb dX11_lists_10 rfl (lv_at hl 1 rfl) ?_
  refine va_get (D := D) (ci := 8) (v := .ref h2) (C := RX11) (T := TX11) (N := 36) hx hb hU iX11 hown hK.1 hP 0 rfl rfl 20 (by decide) (hU _ w805) (fun _ h9 => h9) rfl dX11_lists_11 ?_
  refine lv_bipush (v := 9) hx hb dX11_lists_14 (by decide) ?_
  refine lv_aload_n hx hb dX11_lists_16 rfl (lv_at hl 1 rfl) ?_
  refine va_get (D := D) (ci := 8) (v := .int 0) (C := RX11) (T := TX11) (N := 36) hx hb hU iX11 hown hK.1 hP 0 rfl rfl 24 (by decide) (hU _ w809) (fun _ h9 => h9) rfl dX11_lists_17 ?_
  refine lv_imul hx hb dX11_lists_20 (sv_i (v := 0) (by decide +kernel) ?_)
  refine lv_iload hx hb dX11_lists_21 (lv_at hl 0 rfl) ?_
  refine lv_iadd hx hb dX11_lists_23 (sv_i (v := 1) (by decide +kernel) ?_)
  refine lv_aload_n hx hb dX11_lists_24 rfl (lv_at hl 2 rfl) ?_
  refine lv_iload hx hb dX11_lists_25 (lv_at hl 0 rfl) ?_
  refine ld_l (j := 1) (v := 0) hx hb hK hP 1 rfl (by decide +kernel) rfl dX11_lists_27 ?_
  refine st_l (j := 1) (g := tL [1, 0] 0) hx hb hK hP hD hS 2 rfl (by decide +kernel) upd_tL dX11_lists_28 (fun H locs hP hD hS => ?_)
  have hP : va_P D cl0 [(h0, .inr (8, [.int 2, .int 0, .int 1, .int 0, .int 0, .int 0, .ref h6, .ref h7, .int 0, .int 0, .ref h8, .ref h1, .ref h9, .ref h10, .ref h11, .ref h12, .ref h13, .int 0, .int 0, .int 0, .ref h2, .ref h3, .ref h4, .ref h5, .int 0, .int 0, .ref h14, .ref h15, .ref h16, .ref h17, .int 0, .int 0, .ref h18, .ref h19, .ref h20, .ref h21])), (h1, .inl (k 1, 9, .inr (.inl (tL [1, 0, 0, 0, 1, 0, 0, 0, 0] 0)))), (h2, .inl (k 1, 900, .inr (.inl (tL [1, 0] 0)))), (h3, .inl (k 0, 100, .inl (tI [] 0))), (h4, .inl (k 0, 100, .inl (tI [] 0))), (h5, .inl (k 0, 100, .inl (tI [] 0)))] H := hP
  have hD : va_D A [(h0, .inr (8, [.int 2, .int 0, .int 1, .int 0, .int 0, .int 0, .ref h6, .ref h7, .int 0, .int 0, .ref h8, .ref h1, .ref h9, .ref h10, .ref h11, .ref h12, .ref h13, .int 0, .int 0, .int 0, .ref h2, .ref h3, .ref h4, .ref h5, .int 0, .int 0, .ref h14, .ref h15, .ref h16, .ref h17, .int 0, .int 0, .ref h18, .ref h19, .ref h20, .ref h21])), (h1, .inl (k 1, 9, .inr (.inl (tL [1, 0, 0, 0, 1, 0, 0, 0, 0] 0)))), (h2, .inl (k 1, 900, .inr (.inl (tL [1, 0] 0)))), (h3, .inl (k 0, 100, .inl (tI [] 0))), (h4, .inl (k 0, 100, .inl (tI [] 0))), (h5, .inl (k 0, 100, .inl (tI [] 0)))] := hD
  refine lv_iinc (v := 2) (lv' := [(4, .int 2), (0, .ref h0), (1, .ref h1), (2, .int (-3)), (3, .int (-3))]) hx hb dX11_lists_29 hl (k := 0) rfl (by decide) (by decide) rfl (fun ls hl => ?_)
  refine lv_goto (tgt := 3) hx hb dX11_lists_32 (by decide) ?_
  refine lv_iload hx hb dX11_lists_3 (lv_at hl 0 rfl) ?_
  refine lv_bipush (v := 9) hx hb dX11_lists_5 (by decide) ?_
  refine lv_icmp_ge (tgt := 35) hx hb dX11_lists_7 (by decide) (fun cc => absurd cc (by decide +kernel)) (fun _ => ?_)
  refine lv_aload_n hx hb dX11_lists_10 rfl (lv_at hl 1 rfl) ?_
  refine va_get (D := D) (ci := 8) (v := .ref h2) (C := RX11) (T := TX11) (N := 36) hx hb hU iX11 hown hK.1 hP 0 rfl rfl 20 (by decide) (hU _ w805) (fun _ h9 => h9) rfl dX11_lists_11 ?_
  refine lv_bipush (v := 9) hx hb dX11_lists_14 (by decide) ?_
  refine lv_aload_n hx hb dX11_lists_16 rfl (lv_at hl 1 rfl) ?_
  refine va_get (D := D) (ci := 8) (v := .int 0) (C := RX11) (T := TX11) (N := 36) hx hb hU iX11 hown hK.1 hP 0 rfl rfl 24 (by decide) (hU _ w809) (fun _ h9 => h9) rfl dX11_lists_17 ?_
  refine lv_imul hx hb dX11_lists_20 (sv_i (v := 0) (by decide +kernel) ?_)
  refine lv_iload hx hb dX11_lists_21 (lv_at hl 0 rfl) ?_
  refine lv_iadd hx hb dX11_lists_23 (sv_i (v := 2) (by decide +kernel) ?_)
  refine lv_aload_n hx hb dX11_lists_24 rfl (lv_at hl 2 rfl) ?_
  refine lv_iload hx hb dX11_lists_25 (lv_at hl 0 rfl) ?_
  refine ld_l (j := 2) (v := 0) hx hb hK hP 1 rfl (by decide +kernel) rfl dX11_lists_27 ?_
  refine st_l (j := 2) (g := tL [1, 0, 0] 0) hx hb hK hP hD hS 2 rfl (by decide +kernel) upd_tL dX11_lists_28 (fun H locs hP hD hS => ?_)
  have hP : va_P D cl0 [(h0, .inr (8, [.int 2, .int 0, .int 1, .int 0, .int 0, .int 0, .ref h6, .ref h7, .int 0, .int 0, .ref h8, .ref h1, .ref h9, .ref h10, .ref h11, .ref h12, .ref h13, .int 0, .int 0, .int 0, .ref h2, .ref h3, .ref h4, .ref h5, .int 0, .int 0, .ref h14, .ref h15, .ref h16, .ref h17, .int 0, .int 0, .ref h18, .ref h19, .ref h20, .ref h21])), (h1, .inl (k 1, 9, .inr (.inl (tL [1, 0, 0, 0, 1, 0, 0, 0, 0] 0)))), (h2, .inl (k 1, 900, .inr (.inl (tL [1, 0, 0] 0)))), (h3, .inl (k 0, 100, .inl (tI [] 0))), (h4, .inl (k 0, 100, .inl (tI [] 0))), (h5, .inl (k 0, 100, .inl (tI [] 0)))] H := hP
  have hD : va_D A [(h0, .inr (8, [.int 2, .int 0, .int 1, .int 0, .int 0, .int 0, .ref h6, .ref h7, .int 0, .int 0, .ref h8, .ref h1, .ref h9, .ref h10, .ref h11, .ref h12, .ref h13, .int 0, .int 0, .int 0, .ref h2, .ref h3, .ref h4, .ref h5, .int 0, .int 0, .ref h14, .ref h15, .ref h16, .ref h17, .int 0, .int 0, .ref h18, .ref h19, .ref h20, .ref h21])), (h1, .inl (k 1, 9, .inr (.inl (tL [1, 0, 0, 0, 1, 0, 0, 0, 0] 0)))), (h2, .inl (k 1, 900, .inr (.inl (tL [1, 0, 0] 0)))), (h3, .inl (k 0, 100, .inl (tI [] 0))), (h4, .inl (k 0, 100, .inl (tI [] 0))), (h5, .inl (k 0, 100, .inl (tI [] 0)))] := hD
  refine lv_iinc (v := 3) (lv' := [(4, .int 3), (0, .ref h0), (1, .ref h1), (2, .int (-3)), (3, .int (-3))]) hx hb dX11_lists_29 hl (k := 0) rfl (by decide) (by decide) rfl (fun ls hl => ?_)
  refine lv_goto (tgt := 3) hx hb dX11_lists_32 (by decide) ?_
  refine lv_iload hx hb dX11_lists_3 (lv_at hl 0 rfl) ?_
  refine lv_bipush (v := 9) hx hb dX11_lists_5 (by decide) ?_
  refine lv_icmp_ge (tgt := 35) hx hb dX11_lists_7 (by decide) (fun cc => absurd cc (by decide +kernel)) (fun _ => ?_)
  refine lv_aload_n hx hb dX11_lists_10 rfl (lv_at hl 1 rfl) ?_
  refine va_get (D := D) (ci := 8) (v := .ref h2) (C := RX11) (T := TX11) (N := 36) hx hb hU iX11 hown hK.1 hP 0 rfl rfl 20 (by decide) (hU _ w805) (fun _ h9 => h9) rfl dX11_lists_11 ?_
  refine lv_bipush (v := 9) hx hb dX11_lists_14 (by decide) ?_
  refine lv_aload_n hx hb dX11_lists_16 rfl (lv_at hl 1 rfl) ?_
  refine va_get (D := D) (ci := 8) (v := .int 0) (C := RX11) (T := TX11) (N := 36) hx hb hU iX11 hown hK.1 hP 0 rfl rfl 24 (by decide) (hU _ w809) (fun _ h9 => h9) rfl dX11_lists_17 ?_
  refine lv_imul hx hb dX11_lists_20 (sv_i (v := 0) (by decide +kernel) ?_)
  refine lv_iload hx hb dX11_lists_21 (lv_at hl 0 rfl) ?_
  refine lv_iadd hx hb dX11_lists_23 (sv_i (v := 3) (by decide +kernel) ?_)
  refine lv_aload_n hx hb dX11_lists_24 rfl (lv_at hl 2 rfl) ?_
  refine lv_iload hx hb dX11_lists_25 (lv_at hl 0 rfl) ?_
  refine ld_l (j := 3) (v := 0) hx hb hK hP 1 rfl (by decide +kernel) rfl dX11_lists_27 ?_
  refine st_l (j := 3) (g := tL [1, 0, 0, 0] 0) hx hb hK hP hD hS 2 rfl (by decide +kernel) upd_tL dX11_lists_28 (fun H locs hP hD hS => ?_)
  have hP : va_P D cl0 [(h0, .inr (8, [.int 2, .int 0, .int 1, .int 0, .int 0, .int 0, .ref h6, .ref h7, .int 0, .int 0, .ref h8, .ref h1, .ref h9, .ref h10, .ref h11, .ref h12, .ref h13, .int 0, .int 0, .int 0, .ref h2, .ref h3, .ref h4, .ref h5, .int 0, .int 0, .ref h14, .ref h15, .ref h16, .ref h17, .int 0, .int 0, .ref h18, .ref h19, .ref h20, .ref h21])), (h1, .inl (k 1, 9, .inr (.inl (tL [1, 0, 0, 0, 1, 0, 0, 0, 0] 0)))), (h2, .inl (k 1, 900, .inr (.inl (tL [1, 0, 0, 0] 0)))), (h3, .inl (k 0, 100, .inl (tI [] 0))), (h4, .inl (k 0, 100, .inl (tI [] 0))), (h5, .inl (k 0, 100, .inl (tI [] 0)))] H := hP
  have hD : va_D A [(h0, .inr (8, [.int 2, .int 0, .int 1, .int 0, .int 0, .int 0, .ref h6, .ref h7, .int 0, .int 0, .ref h8, .ref h1, .ref h9, .ref h10, .ref h11, .ref h12, .ref h13, .int 0, .int 0, .int 0, .ref h2, .ref h3, .ref h4, .ref h5, .int 0, .int 0, .ref h14, .ref h15, .ref h16, .ref h17, .int 0, .int 0, .ref h18, .ref h19, .ref h20, .ref h21])), (h1, .inl (k 1, 9, .inr (.inl (tL [1, 0, 0, 0, 1, 0, 0, 0, 0] 0)))), (h2, .inl (k 1, 900, .inr (.inl (tL [1, 0, 0, 0] 0)))), (h3, .inl (k 0, 100, .inl (tI [] 0))), (h4, .inl (k 0, 100, .inl (tI [] 0))), (h5, .inl (k 0, 100, .inl (tI [] 0)))] := hD
  refine lv_iinc (v := 4) (lv' := [(4, .int 4), (0, .ref h0), (1, .ref h1), (2, .int (-3)), (3, .int (-3))]) hx hb dX11_lists_29 hl (k := 0) rfl (by decide) (by decide) rfl (fun ls hl => ?_)
  refine lv_goto (tgt := 3) hx hb dX11_lists_32 (by decide) ?_
  refine lv_iload hx hb dX11_lists_3 (lv_at hl 0 rfl) ?_
  refine lv_bipush (v := 9) hx hb dX11_lists_5 (by decide) ?_
  refine lv_icmp_ge (tgt := 35) hx hb dX11_lists_7 (by decide) (fun cc => absurd cc (by decide +kernel)) (fun _ => ?_)
  refine lv_aload_n hx hb dX11_lists_10 rfl (lv_at hl 1 rfl) ?_
  refine va_get (D := D) (ci := 8) (v := .ref h2) (C := RX11) (T := TX11) (N := 36) hx hb hU iX11 hown hK.1 hP 0 rfl rfl 20 (by decide) (hU _ w805) (fun _ h9 => h9) rfl dX11_lists_11 ?_
  refine lv_bipush (v := 9) hx hb dX11_lists_14 (by decide) ?_
  refine lv_aload_n hx hb dX11_lists_16 rfl (lv_at hl 1 rfl) ?_
  refine va_get (D := D) (ci := 8) (v := .int 0) (C := RX11) (T := TX11) (N := 36) hx hb hU iX11 hown hK.1 hP 0 rfl rfl 24 (by decide) (hU _ w809) (fun _ h9 => h9) rfl dX11_lists_17 ?_
  refine lv_imul hx hb dX11_lists_20 (sv_i (v := 0) (by decide +kernel) ?_)
  refine lv_iload hx hb dX11_lists_21 (lv_at hl 0 rfl) ?_
  refine lv_iadd hx hb dX11_lists_23 (sv_i (v := 4) (by decide +kernel) ?_)
  refine lv_aload_n hx hb dX11_lists_24 rfl (lv_at hl 2 rfl) ?_
  refine lv_iload hx hb dX11_lists_25 (lv_at hl 0 rfl) ?_
  refine ld_l (j := 4) (v := 1) hx hb hK hP 1 rfl (by decide +kernel) rfl dX11_lists_27 ?_
  refine st_l (j := 4) (g := tL [1, 0, 0, 0, 1] 0) hx hb hK hP hD hS 2 rfl (by decide +kernel) upd_tL dX11_lists_28 (fun H locs hP hD hS => ?_)
  have hP : va_P D cl0 [(h0, .inr (8, [.int 2, .int 0, .int 1, .int 0, .int 0, .int 0, .ref h6, .ref h7, .int 0, .int 0, .ref h8, .ref h1, .ref h9, .ref h10, .ref h11, .ref h12, .ref h13, .int 0, .int 0, .int 0, .ref h2, .ref h3, .ref h4, .ref h5, .int 0, .int 0, .ref h14, .ref h15, .ref h16, .ref h17, .int 0, .int 0, .ref h18, .ref h19, .ref h20, .ref h21])), (h1, .inl (k 1, 9, .inr (.inl (tL [1, 0, 0, 0, 1, 0, 0, 0, 0] 0)))), (h2, .inl (k 1, 900, .inr (.inl (tL [1, 0, 0, 0, 1] 0)))), (h3, .inl (k 0, 100, .inl (tI [] 0))), (h4, .inl (k 0, 100, .inl (tI [] 0))), (h5, .inl (k 0, 100, .inl (tI [] 0)))] H := hP
  have hD : va_D A [(h0, .inr (8, [.int 2, .int 0, .int 1, .int 0, .int 0, .int 0, .ref h6, .ref h7, .int 0, .int 0, .ref h8, .ref h1, .ref h9, .ref h10, .ref h11, .ref h12, .ref h13, .int 0, .int 0, .int 0, .ref h2, .ref h3, .ref h4, .ref h5, .int 0, .int 0, .ref h14, .ref h15, .ref h16, .ref h17, .int 0, .int 0, .ref h18, .ref h19, .ref h20, .ref h21])), (h1, .inl (k 1, 9, .inr (.inl (tL [1, 0, 0, 0, 1, 0, 0, 0, 0] 0)))), (h2, .inl (k 1, 900, .inr (.inl (tL [1, 0, 0, 0, 1] 0)))), (h3, .inl (k 0, 100, .inl (tI [] 0))), (h4, .inl (k 0, 100, .inl (tI [] 0))), (h5, .inl (k 0, 100, .inl (tI [] 0)))] := hD
  refine lv_iinc (v := 5) (lv' := [(4, .int 5), (0, .ref h0), (1, .ref h1), (2, .int (-3)), (3, .int (-3))]) hx hb dX11_lists_29 hl (k := 0) rfl (by decide) (by decide) rfl (fun ls hl => ?_)
  refine lv_goto (tgt := 3) hx hb dX11_lists_32 (by decide) ?_
  refine lv_iload hx hb dX11_lists_3 (lv_at hl 0 rfl) ?_
  refine lv_bipush (v := 9) hx hb dX11_lists_5 (by decide) ?_
  refine lv_icmp_ge (tgt := 35) hx hb dX11_lists_7 (by decide) (fun cc => absurd cc (by decide +kernel)) (fun _ => ?_)
  refine lv_aload_n hx hb dX11_lists_10 rfl (lv_at hl 1 rfl) ?_
  refine va_get (D := D) (ci := 8) (v := .ref h2) (C := RX11) (T := TX11) (N := 36) hx hb hU iX11 hown hK.1 hP 0 rfl rfl 20 (by decide) (hU _ w805) (fun _ h9 => h9) rfl dX11_lists_11 ?_
  refine lv_bipush (v := 9) hx hb dX11_lists_14 (by decide) ?_
  refine lv_aload_n hx hb dX11_lists_16 rfl (lv_at hl 1 rfl) ?_
  refine va_get (D := D) (ci := 8) (v := .int 0) (C := RX11) (T := TX11) (N := 36) hx hb hU iX11 hown hK.1 hP 0 rfl rfl 24 (by decide) (hU _ w809) (fun _ h9 => h9) rfl dX11_lists_17 ?_
  refine lv_imul hx hb dX11_lists_20 (sv_i (v := 0) (by decide +kernel) ?_)
  refine lv_iload hx hb dX11_lists_21 (lv_at hl 0 rfl) ?_
  refine lv_iadd hx hb dX11_lists_23 (sv_i (v := 5) (by decide +kernel) ?_)
  refine lv_aload_n hx hb dX11_lists_24 rfl (lv_at hl 2 rfl) ?_
  refine lv_iload hx hb dX11_lists_25 (lv_at hl 0 rfl) ?_
  refine ld_l (j := 5) (v := 0) hx hb hK hP 1 rfl (by decide +kernel) rfl dX11_lists_27 ?_
  refine st_l (j := 5) (g := tL [1, 0, 0, 0, 1, 0] 0) hx hb hK hP hD hS 2 rfl (by decide +kernel) upd_tL dX11_lists_28 (fun H locs hP hD hS => ?_)
  have hP : va_P D cl0 [(h0, .inr (8, [.int 2, .int 0, .int 1, .int 0, .int 0, .int 0, .ref h6, .ref h7, .int 0, .int 0, .ref h8, .ref h1, .ref h9, .ref h10, .ref h11, .ref h12, .ref h13, .int 0, .int 0, .int 0, .ref h2, .ref h3, .ref h4, .ref h5, .int 0, .int 0, .ref h14, .ref h15, .ref h16, .ref h17, .int 0, .int 0, .ref h18, .ref h19, .ref h20, .ref h21])), (h1, .inl (k 1, 9, .inr (.inl (tL [1, 0, 0, 0, 1, 0, 0, 0, 0] 0)))), (h2, .inl (k 1, 900, .inr (.inl (tL [1, 0, 0, 0, 1, 0] 0)))), (h3, .inl (k 0, 100, .inl (tI [] 0))), (h4, .inl (k 0, 100, .inl (tI [] 0))), (h5, .inl (k 0, 100, .inl (tI [] 0)))] H := hP
  have hD : va_D A [(h0, .inr (8, [.int 2, .int 0, .int 1, .int 0, .int 0, .int 0, .ref h6, .ref h7, .int 0, .int 0, .ref h8, .ref h1, .ref h9, .ref h10, .ref h11, .ref h12, .ref h13, .int 0, .int 0, .int 0, .ref h2, .ref h3, .ref h4, .ref h5, .int 0, .int 0, .ref h14, .ref h15, .ref h16, .ref h17, .int 0, .int 0, .ref h18, .ref h19, .ref h20, .ref h21])), (h1, .inl (k 1, 9, .inr (.inl (tL [1, 0, 0, 0, 1, 0, 0, 0, 0] 0)))), (h2, .inl (k 1, 900, .inr (.inl (tL [1, 0, 0, 0, 1, 0] 0)))), (h3, .inl (k 0, 100, .inl (tI [] 0))), (h4, .inl (k 0, 100, .inl (tI [] 0))), (h5, .inl (k 0, 100, .inl (tI [] 0)))] := hD
  refine lv_iinc (v := 6) (lv' := [(4, .int 6), (0, .ref h0), (1, .ref h1), (2, .int (-3)), (3, .int (-3))]) hx hb dX11_lists_29 hl (k := 0) rfl (by decide) (by decide) rfl (fun ls hl => ?_)
  refine lv_goto (tgt := 3) hx hb dX11_lists_32 (by decide) ?_
  refine lv_iload hx hb dX11_lists_3 (lv_at hl 0 rfl) ?_
  refine lv_bipush (v := 9) hx hb dX11_lists_5 (by decide) ?_
  refine lv_icmp_ge (tgt := 35) hx hb dX11_lists_7 (by decide) (fun cc => absurd cc (by decide +kernel)) (fun _ => ?_)
  refine lv_aload_n hx hb dX11_lists_10 rfl (lv_at hl 1 rfl) ?_
  refine va_get (D := D) (ci := 8) (v := .ref h2) (C := RX11) (T := TX11) (N := 36) hx hb hU iX11 hown hK.1 hP 0 rfl rfl 20 (by decide) (hU _ w805) (fun _ h9 => h9) rfl dX11_lists_11 ?_
  refine lv_bipush (v := 9) hx hb dX11_lists_14 (by decide) ?_
  refine lv_aload_n hx hb dX11_lists_16 rfl (lv_at hl 1 rfl) ?_
  refine va_get (D := D) (ci := 8) (v := .int 0) (C := RX11) (T := TX11) (N := 36) hx hb hU iX11 hown hK.1 hP 0 rfl rfl 24 (by decide) (hU _ w809) (fun _ h9 => h9) rfl dX11_lists_17 ?_
  refine lv_imul hx hb dX11_lists_20 (sv_i (v := 0) (by decide +kernel) ?_)
  refine lv_iload hx hb dX11_lists_21 (lv_at hl 0 rfl) ?_
  refine lv_iadd hx hb dX11_lists_23 (sv_i (v := 6) (by decide +kernel) ?_)
  refine lv_aload_n hx hb dX11_lists_24 rfl (lv_at hl 2 rfl) ?_
  refine lv_iload hx hb dX11_lists_25 (lv_at hl 0 rfl) ?_
  refine ld_l (j := 6) (v := 0) hx hb hK hP 1 rfl (by decide +kernel) rfl dX11_lists_27 ?_
  refine st_l (j := 6) (g := tL [1, 0, 0, 0, 1, 0, 0] 0) hx hb hK hP hD hS 2 rfl (by decide +kernel) upd_tL dX11_lists_28 (fun H locs hP hD hS => ?_)
  have hP : va_P D cl0 [(h0, .inr (8, [.int 2, .int 0, .int 1, .int 0, .int 0, .int 0, .ref h6, .ref h7, .int 0, .int 0, .ref h8, .ref h1, .ref h9, .ref h10, .ref h11, .ref h12, .ref h13, .int 0, .int 0, .int 0, .ref h2, .ref h3, .ref h4, .ref h5, .int 0, .int 0, .ref h14, .ref h15, .ref h16, .ref h17, .int 0, .int 0, .ref h18, .ref h19, .ref h20, .ref h21])), (h1, .inl (k 1, 9, .inr (.inl (tL [1, 0, 0, 0, 1, 0, 0, 0, 0] 0)))), (h2, .inl (k 1, 900, .inr (.inl (tL [1, 0, 0, 0, 1, 0, 0] 0)))), (h3, .inl (k 0, 100, .inl (tI [] 0))), (h4, .inl (k 0, 100, .inl (tI [] 0))), (h5, .inl (k 0, 100, .inl (tI [] 0)))] H := hP
  have hD : va_D A [(h0, .inr (8, [.int 2, .int 0, .int 1, .int 0, .int 0, .int 0, .ref h6, .ref h7, .int 0, .int 0, .ref h8, .ref h1, .ref h9, .ref h10, .ref h11, .ref h12, .ref h13, .int 0, .int 0, .int 0, .ref h2, .ref h3, .ref h4, .ref h5, .int 0, .int 0, .ref h14, .ref h15, .ref h16, .ref h17, .int 0, .int 0, .ref h18, .ref h19, .ref h20, .ref h21])), (h1, .inl (k 1, 9, .inr (.inl (tL [1, 0, 0, 0, 1, 0, 0, 0, 0] 0)))), (h2, .inl (k 1, 900, .inr (.inl (tL [1, 0, 0, 0, 1, 0, 0] 0)))), (h3, .inl (k 0, 100, .inl (tI [] 0))), (h4, .inl (k 0, 100, .inl (tI [] 0))), (h5, .inl (k 0, 100, .inl (tI [] 0)))] := hD
  refine lv_iinc (v := 7) (lv' := [(4, .int 7), (0, .ref h0), (1, .ref h1), (2, .int (-3)), (3, .int (-3))]) hx hb dX11_lists_29 hl (k := 0) rfl (by decide) (by decide) rfl (fun ls hl => ?_)
  refine lv_goto (tgt := 3) hx hb dX11_lists_32 (by decide) ?_
  refine lv_iload hx hb dX11_lists_3 (lv_at hl 0 rfl) ?_
  refine lv_bipush (v := 9) hx hb dX11_lists_5 (by decide) ?_
  refine lv_icmp_ge (tgt := 35) hx hb dX11_lists_7 (by decide) (fun cc => absurd cc (by decide +kernel)) (fun _ => ?_)
  refine lv_aload_n hx hb dX11_lists_10 rfl (lv_at hl 1 rfl) ?_
  refine va_get (D := D) (ci := 8) (v := .ref h2) (C := RX11) (T := TX11) (N := 36) hx hb hU iX11 hown hK.1 hP 0 rfl rfl 20 (by decide) (hU _ w805) (fun _ h9 => h9) rfl dX11_lists_11 ?_
  refine lv_bipush (v := 9) hx hb dX11_lists_14 (by decide) ?_
  refine lv_aload_n hx hb dX11_lists_16 rfl (lv_at hl 1 rfl) ?_
  refine va_get (D := D) (ci := 8) (v := .int 0) (C := RX11) (T := TX11) (N := 36) hx hb hU iX11 hown hK.1 hP 0 rfl rfl 24 (by decide) (hU _ w809) (fun _ h9 => h9) rfl dX11_lists_17 ?_
  refine lv_imul hx hb dX11_lists_20 (sv_i (v := 0) (by decide +kernel) ?_)
  refine lv_iload hx hb dX11_lists_21 (lv_at hl 0 rfl) ?_
  refine lv_iadd hx hb dX11_lists_23 (sv_i (v := 7) (by decide +kernel) ?_)
  refine lv_aload_n hx hb dX11_lists_24 rfl (lv_at hl 2 rfl) ?_
  refine lv_iload hx hb dX11_lists_25 (lv_at hl 0 rfl) ?_
  refine ld_l (j := 7) (v := 0) hx hb hK hP 1 rfl (by decide +kernel) rfl dX11_lists_27 ?_
  refine st_l (j := 7) (g := tL [1, 0, 0, 0, 1, 0, 0, 0] 0) hx hb hK hP hD hS 2 rfl (by decide +kernel) upd_tL dX11_lists_28 (fun H locs hP hD hS => ?_)
  have hP : va_P D cl0 [(h0, .inr (8, [.int 2, .int 0, .int 1, .int 0, .int 0, .int 0, .ref h6, .ref h7, .int 0, .int 0, .ref h8, .ref h1, .ref h9, .ref h10, .ref h11, .ref h12, .ref h13, .int 0, .int 0, .int 0, .ref h2, .ref h3, .ref h4, .ref h5, .int 0, .int 0, .ref h14, .ref h15, .ref h16, .ref h17, .int 0, .int 0, .ref h18, .ref h19, .ref h20, .ref h21])), (h1, .inl (k 1, 9, .inr (.inl (tL [1, 0, 0, 0, 1, 0, 0, 0, 0] 0)))), (h2, .inl (k 1, 900, .inr (.inl (tL [1, 0, 0, 0, 1, 0, 0, 0] 0)))), (h3, .inl (k 0, 100, .inl (tI [] 0))), (h4, .inl (k 0, 100, .inl (tI [] 0))), (h5, .inl (k 0, 100, .inl (tI [] 0)))] H := hP
  have hD : va_D A [(h0, .inr (8, [.int 2, .int 0, .int 1, .int 0, .int 0, .int 0, .ref h6, .ref h7, .int 0, .int 0, .ref h8, .ref h1, .ref h9, .ref h10, .ref h11, .ref h12, .ref h13, .int 0, .int 0, .int 0, .ref h2, .ref h3, .ref h4, .ref h5, .int 0, .int 0, .ref h14, .ref h15, .ref h16, .ref h17, .int 0, .int 0, .ref h18, .ref h19, .ref h20, .ref h21])), (h1, .inl (k 1, 9, .inr (.inl (tL [1, 0, 0, 0, 1, 0, 0, 0, 0] 0)))), (h2, .inl (k 1, 900, .inr (.inl (tL [1, 0, 0, 0, 1, 0, 0, 0] 0)))), (h3, .inl (k 0, 100, .inl (tI [] 0))), (h4, .inl (k 0, 100, .inl (tI [] 0))), (h5, .inl (k 0, 100, .inl (tI [] 0)))] := hD
  refine lv_iinc (v := 8) (lv' := [(4, .int 8), (0, .ref h0), (1, .ref h1), (2, .int (-3)), (3, .int (-3))]) hx hb dX11_lists_29 hl (k := 0) rfl (by decide) (by decide) rfl (fun ls hl => ?_)
  refine lv_goto (tgt := 3) hx hb dX11_lists_32 (by decide) ?_
  refine lv_iload hx hb dX11_lists_3 (lv_at hl 0 rfl) ?_
  refine lv_bipush (v := 9) hx hb dX11_lists_5 (by decide) ?_
  refine lv_icmp_ge (tgt := 35) hx hb dX11_lists_7 (by decide) (fun cc => absurd cc (by decide +kernel)) (fun _ => ?_)
  refine lv_aload_n hx hb dX11_lists_10 rfl (lv_at hl 1 rfl) ?_
  refine va_get (D := D) (ci := 8) (v := .ref h2) (C := RX11) (T := TX11) (N := 36) hx hb hU iX11 hown hK.1 hP 0 rfl rfl 20 (by decide) (hU _ w805) (fun _ h9 => h9) rfl dX11_lists_11 ?_
  refine lv_bipush (v := 9) hx hb dX11_lists_14 (by decide) ?_
  refine lv_aload_n hx hb dX11_lists_16 rfl (lv_at hl 1 rfl) ?_
  refine va_get (D := D) (ci := 8) (v := .int 0) (C := RX11) (T := TX11) (N := 36) hx hb hU iX11 hown hK.1 hP 0 rfl rfl 24 (by decide) (hU _ w809) (fun _ h9 => h9) rfl dX11_lists_17 ?_
  refine lv_imul hx hb dX11_lists_20 (sv_i (v := 0) (by decide +kernel) ?_)
  refine lv_iload hx hb dX11_lists_21 (lv_at hl 0 rfl) ?_
  refine lv_iadd hx hb dX11_lists_23 (sv_i (v := 8) (by decide +kernel) ?_)
  refine lv_aload_n hx hb dX11_lists_24 rfl (lv_at hl 2 rfl) ?_
  refine lv_iload hx hb dX11_lists_25 (lv_at hl 0 rfl) ?_
  refine ld_l (j := 8) (v := 0) hx hb hK hP 1 rfl (by decide +kernel) rfl dX11_lists_27 ?_
  refine st_l (j := 8) (g := tL [1, 0, 0, 0, 1, 0, 0, 0, 0] 0) hx hb hK hP hD hS 2 rfl (by decide +kernel) upd_tL dX11_lists_28 (fun H locs hP hD hS => ?_)
  have hP : va_P D cl0 [(h0, .inr (8, [.int 2, .int 0, .int 1, .int 0, .int 0, .int 0, .ref h6, .ref h7, .int 0, .int 0, .ref h8, .ref h1, .ref h9, .ref h10, .ref h11, .ref h12, .ref h13, .int 0, .int 0, .int 0, .ref h2, .ref h3, .ref h4, .ref h5, .int 0, .int 0, .ref h14, .ref h15, .ref h16, .ref h17, .int 0, .int 0, .ref h18, .ref h19, .ref h20, .ref h21])), (h1, .inl (k 1, 9, .inr (.inl (tL [1, 0, 0, 0, 1, 0, 0, 0, 0] 0)))), (h2, .inl (k 1, 900, .inr (.inl (tL [1, 0, 0, 0, 1, 0, 0, 0, 0] 0)))), (h3, .inl (k 0, 100, .inl (tI [] 0))), (h4, .inl (k 0, 100, .inl (tI [] 0))), (h5, .inl (k 0, 100, .inl (tI [] 0)))] H := hP
  have hD : va_D A [(h0, .inr (8, [.int 2, .int 0, .int 1, .int 0, .int 0, .int 0, .ref h6, .ref h7, .int 0, .int 0, .ref h8, .ref h1, .ref h9, .ref h10, .ref h11, .ref h12, .ref h13, .int 0, .int 0, .int 0, .ref h2, .ref h3, .ref h4, .ref h5, .int 0, .int 0, .ref h14, .ref h15, .ref h16, .ref h17, .int 0, .int 0, .ref h18, .ref h19, .ref h20, .ref h21])), (h1, .inl (k 1, 9, .inr (.inl (tL [1, 0, 0, 0, 1, 0, 0, 0, 0] 0)))), (h2, .inl (k 1, 900, .inr (.inl (tL [1, 0, 0, 0, 1, 0, 0, 0, 0] 0)))), (h3, .inl (k 0, 100, .inl (tI [] 0))), (h4, .inl (k 0, 100, .inl (tI [] 0))), (h5, .inl (k 0, 100, .inl (tI [] 0)))] := hD
  refine lv_iinc (v := 9) (lv' := [(4, .int 9), (0, .ref h0), (1, .ref h1), (2, .int (-3)), (3, .int (-3))]) hx hb dX11_lists_29 hl (k := 0) rfl (by decide) (by decide) rfl (fun ls hl => ?_)
  refine lv_goto (tgt := 3) hx hb dX11_lists_32 (by decide) ?_
  refine lv_iload hx hb dX11_lists_3 (lv_at hl 0 rfl) ?_
  refine lv_bipush (v := 9) hx hb dX11_lists_5 (by decide) ?_
  refine lv_icmp_ge (tgt := 35) hx hb dX11_lists_7 (by decide) (fun _ => ?_) (fun cc => absurd (by decide +kernel) cc)
  refine lv_aload_n hx hb dX11_lists_35 rfl (lv_at hl 1 rfl) ?_
  refine va_get (D := D) (ci := 8) (v := .ref h3) (C := RX11) (T := TX11) (N := 36) hx hb hU iX11 hown hK.1 hP 0 rfl rfl 21 (by decide) (hU _ w806) (fun _ h9 => h9) rfl dX11_lists_36 ?_
  refine lv_aload_n hx hb dX11_lists_39 rfl (lv_at hl 1 rfl) ?_
  refine va_get (D := D) (ci := 8) (v := .int 0) (C := RX11) (T := TX11) (N := 36) hx hb hU iX11 hown hK.1 hP 0 rfl rfl 24 (by decide) (hU _ w809) (fun _ h9 => h9) rfl dX11_lists_40 ?_
  refine lv_iload_n hx hb dX11_lists_43 rfl (lv_at hl 3 rfl) ?_
  refine st_i (j := 0) (g := tI [(-3)] 0) hx hb hK hP hD hS 3 rfl (by decide +kernel) upd_tI dX11_lists_44 (fun H locs hP hD hS => ?_)
  have hP : va_P D cl0 [(h0, .inr (8, [.int 2, .int 0, .int 1, .int 0, .int 0, .int 0, .ref h6, .ref h7, .int 0, .int 0, .ref h8, .ref h1, .ref h9, .ref h10, .ref h11, .ref h12, .ref h13, .int 0, .int 0, .int 0, .ref h2, .ref h3, .ref h4, .ref h5, .int 0, .int 0, .ref h14, .ref h15, .ref h16, .ref h17, .int 0, .int 0, .ref h18, .ref h19, .ref h20, .ref h21])), (h1, .inl (k 1, 9, .inr (.inl (tL [1, 0, 0, 0, 1, 0, 0, 0, 0] 0)))), (h2, .inl (k 1, 900, .inr (.inl (tL [1, 0, 0, 0, 1, 0, 0, 0, 0] 0)))), (h3, .inl (k 0, 100, .inl (tI [(-3)] 0))), (h4, .inl (k 0, 100, .inl (tI [] 0))), (h5, .inl (k 0, 100, .inl (tI [] 0)))] H := hP
  have hD : va_D A [(h0, .inr (8, [.int 2, .int 0, .int 1, .int 0, .int 0, .int 0, .ref h6, .ref h7, .int 0, .int 0, .ref h8, .ref h1, .ref h9, .ref h10, .ref h11, .ref h12, .ref h13, .int 0, .int 0, .int 0, .ref h2, .ref h3, .ref h4, .ref h5, .int 0, .int 0, .ref h14, .ref h15, .ref h16, .ref h17, .int 0, .int 0, .ref h18, .ref h19, .ref h20, .ref h21])), (h1, .inl (k 1, 9, .inr (.inl (tL [1, 0, 0, 0, 1, 0, 0, 0, 0] 0)))), (h2, .inl (k 1, 900, .inr (.inl (tL [1, 0, 0, 0, 1, 0, 0, 0, 0] 0)))), (h3, .inl (k 0, 100, .inl (tI [(-3)] 0))), (h4, .inl (k 0, 100, .inl (tI [] 0))), (h5, .inl (k 0, 100, .inl (tI [] 0)))] := hD
  refine lv_aload_n hx hb dX11_lists_45 rfl (lv_at hl 1 rfl) ?_
  refine va_get (D := D) (ci := 8) (v := .ref h4) (C := RX11) (T := TX11) (N := 36) hx hb hU iX11 hown hK.1 hP 0 rfl rfl 22 (by decide) (hU _ w807) (fun _ h9 => h9) rfl dX11_lists_46 ?_
  refine lv_aload_n hx hb dX11_lists_49 rfl (lv_at hl 1 rfl) ?_
  refine va_get (D := D) (ci := 8) (v := .int 0) (C := RX11) (T := TX11) (N := 36) hx hb hU iX11 hown hK.1 hP 0 rfl rfl 24 (by decide) (hU _ w809) (fun _ h9 => h9) rfl dX11_lists_50 ?_
  refine lv_iload_n hx hb dX11_lists_53 rfl (lv_at hl 4 rfl) ?_
  refine st_i (j := 0) (g := tI [(-3)] 0) hx hb hK hP hD hS 4 rfl (by decide +kernel) upd_tI dX11_lists_54 (fun H locs hP hD hS => ?_)
  have hP : va_P D cl0 [(h0, .inr (8, [.int 2, .int 0, .int 1, .int 0, .int 0, .int 0, .ref h6, .ref h7, .int 0, .int 0, .ref h8, .ref h1, .ref h9, .ref h10, .ref h11, .ref h12, .ref h13, .int 0, .int 0, .int 0, .ref h2, .ref h3, .ref h4, .ref h5, .int 0, .int 0, .ref h14, .ref h15, .ref h16, .ref h17, .int 0, .int 0, .ref h18, .ref h19, .ref h20, .ref h21])), (h1, .inl (k 1, 9, .inr (.inl (tL [1, 0, 0, 0, 1, 0, 0, 0, 0] 0)))), (h2, .inl (k 1, 900, .inr (.inl (tL [1, 0, 0, 0, 1, 0, 0, 0, 0] 0)))), (h3, .inl (k 0, 100, .inl (tI [(-3)] 0))), (h4, .inl (k 0, 100, .inl (tI [(-3)] 0))), (h5, .inl (k 0, 100, .inl (tI [] 0)))] H := hP
  have hD : va_D A [(h0, .inr (8, [.int 2, .int 0, .int 1, .int 0, .int 0, .int 0, .ref h6, .ref h7, .int 0, .int 0, .ref h8, .ref h1, .ref h9, .ref h10, .ref h11, .ref h12, .ref h13, .int 0, .int 0, .int 0, .ref h2, .ref h3, .ref h4, .ref h5, .int 0, .int 0, .ref h14, .ref h15, .ref h16, .ref h17, .int 0, .int 0, .ref h18, .ref h19, .ref h20, .ref h21])), (h1, .inl (k 1, 9, .inr (.inl (tL [1, 0, 0, 0, 1, 0, 0, 0, 0] 0)))), (h2, .inl (k 1, 900, .inr (.inl (tL [1, 0, 0, 0, 1, 0, 0, 0, 0] 0)))), (h3, .inl (k 0, 100, .inl (tI [(-3)] 0))), (h4, .inl (k 0, 100, .inl (tI [(-3)] 0))), (h5, .inl (k 0, 100, .inl (tI [] 0)))] := hD
  refine lv_aload_n hx hb dX11_lists_55 rfl (lv_at hl 1 rfl) ?_
  refine va_get (D := D) (ci := 8) (v := .ref h5) (C := RX11) (T := TX11) (N := 36) hx hb hU iX11 hown hK.1 hP 0 rfl rfl 23 (by decide) (hU _ w808) (fun _ h9 => h9) rfl dX11_lists_56 ?_
  refine lv_aload_n hx hb dX11_lists_59 rfl (lv_at hl 1 rfl) ?_
  refine va_get (D := D) (ci := 8) (v := .int 0) (C := RX11) (T := TX11) (N := 36) hx hb hU iX11 hown hK.1 hP 0 rfl rfl 24 (by decide) (hU _ w809) (fun _ h9 => h9) rfl dX11_lists_60 ?_
  refine lv_iload_n hx hb dX11_lists_63 rfl (lv_at hl 3 rfl) ?_
  refine lv_if_ge (tgt := 71) hx hb dX11_lists_64 (by decide) (fun cc => absurd cc (by decide +kernel)) (fun _ => ?_)
  refine lv_iconst (v := 0) hx hb dX11_lists_67 (by decide) ?_
  refine lv_goto (tgt := 79) hx hb dX11_lists_68 (by decide) ?_
  refine st_i (j := 0) (g := tI [0] 0) hx hb hK hP hD hS 5 rfl (by decide +kernel) upd_tI dX11_lists_79 (fun H locs hP hD hS => ?_)
  have hP : va_P D cl0 [(h0, .inr (8, [.int 2, .int 0, .int 1, .int 0, .int 0, .int 0, .ref h6, .ref h7, .int 0, .int 0, .ref h8, .ref h1, .ref h9, .ref h10, .ref h11, .ref h12, .ref h13, .int 0, .int 0, .int 0, .ref h2, .ref h3, .ref h4, .ref h5, .int 0, .int 0, .ref h14, .ref h15, .ref h16, .ref h17, .int 0, .int 0, .ref h18, .ref h19, .ref h20, .ref h21])), (h1, .inl (k 1, 9, .inr (.inl (tL [1, 0, 0, 0, 1, 0, 0, 0, 0] 0)))), (h2, .inl (k 1, 900, .inr (.inl (tL [1, 0, 0, 0, 1, 0, 0, 0, 0] 0)))), (h3, .inl (k 0, 100, .inl (tI [(-3)] 0))), (h4, .inl (k 0, 100, .inl (tI [(-3)] 0))), (h5, .inl (k 0, 100, .inl (tI [0] 0)))] H := hP
  have hD : va_D A [(h0, .inr (8, [.int 2, .int 0, .int 1, .int 0, .int 0, .int 0, .ref h6, .ref h7, .int 0, .int 0, .ref h8, .ref h1, .ref h9, .ref h10, .ref h11, .ref h12, .ref h13, .int 0, .int 0, .int 0, .ref h2, .ref h3, .ref h4, .ref h5, .int 0, .int 0, .ref h14, .ref h15, .ref h16, .ref h17, .int 0, .int 0, .ref h18, .ref h19, .ref h20, .ref h21])), (h1, .inl (k 1, 9, .inr (.inl (tL [1, 0, 0, 0, 1, 0, 0, 0, 0] 0)))), (h2, .inl (k 1, 900, .inr (.inl (tL [1, 0, 0, 0, 1, 0, 0, 0, 0] 0)))), (h3, .inl (k 0, 100, .inl (tI [(-3)] 0))), (h4, .inl (k 0, 100, .inl (tI [(-3)] 0))), (h5, .inl (k 0, 100, .inl (tI [0] 0)))] := hD
  refine lv_aload_n hx hb dX11_lists_80 rfl (lv_at hl 1 rfl) ?_
  refine lv_dup hx hb dX11_lists_81 rfl ?_
  refine va_get (D := D) (ci := 8) (v := .int 0) (C := RX11) (T := TX11) (N := 36) hx hb hU iX11 hown hK.1 hP 0 rfl rfl 24 (by decide) (hU _ w809) (fun _ h9 => h9) rfl dX11_lists_82 ?_
  refine lv_iconst (v := 1) hx hb dX11_lists_85 (by decide) ?_
  refine lv_iadd hx hb dX11_lists_86 (sv_i (v := 1) (by decide +kernel) ?_)
  refine va_put (D := D) (ci := 8) (v := .int 1) (ty := .int) (C := RX11) (T := TX11) (N := 36) hx hb hU iX11 tyX11 tyX11_ok nmX11 hown hK.1 hP hD hS 0 rfl rfl 24 (by decide) (hU _ w809) (fun _ h9 => h9) rfl (by decide +kernel) rfl rfl (Nat.le_of_ble_eq_true rfl) dX11_lists_87 (fun H locs hP hD hS => ?_)
  have hP : va_P D cl0 [(h0, .inr (8, [.int 2, .int 0, .int 1, .int 0, .int 0, .int 0, .ref h6, .ref h7, .int 0, .int 0, .ref h8, .ref h1, .ref h9, .ref h10, .ref h11, .ref h12, .ref h13, .int 0, .int 0, .int 0, .ref h2, .ref h3, .ref h4, .ref h5, .int 1, .int 0, .ref h14, .ref h15, .ref h16, .ref h17, .int 0, .int 0, .ref h18, .ref h19, .ref h20, .ref h21])), (h1, .inl (k 1, 9, .inr (.inl (tL [1, 0, 0, 0, 1, 0, 0, 0, 0] 0)))), (h2, .inl (k 1, 900, .inr (.inl (tL [1, 0, 0, 0, 1, 0, 0, 0, 0] 0)))), (h3, .inl (k 0, 100, .inl (tI [(-3)] 0))), (h4, .inl (k 0, 100, .inl (tI [(-3)] 0))), (h5, .inl (k 0, 100, .inl (tI [0] 0)))] H := hP
  have hD : va_D A [(h0, .inr (8, [.int 2, .int 0, .int 1, .int 0, .int 0, .int 0, .ref h6, .ref h7, .int 0, .int 0, .ref h8, .ref h1, .ref h9, .ref h10, .ref h11, .ref h12, .ref h13, .int 0, .int 0, .int 0, .ref h2, .ref h3, .ref h4, .ref h5, .int 1, .int 0, .ref h14, .ref h15, .ref h16, .ref h17, .int 0, .int 0, .ref h18, .ref h19, .ref h20, .ref h21])), (h1, .inl (k 1, 9, .inr (.inl (tL [1, 0, 0, 0, 1, 0, 0, 0, 0] 0)))), (h2, .inl (k 1, 900, .inr (.inl (tL [1, 0, 0, 0, 1, 0, 0, 0, 0] 0)))), (h3, .inl (k 0, 100, .inl (tI [(-3)] 0))), (h4, .inl (k 0, 100, .inl (tI [(-3)] 0))), (h5, .inl (k 0, 100, .inl (tI [0] 0)))] := hD
  exact retV hx hb hr hlocks hS (⟨hP, hD⟩) dX11_lists_90
abbrev BX11_findList_1 (D : va_G) (k : Nat → ClassId) (h0 h1 h2 h3 h4 h5 h6 h7 h8 h9 h10 h11 h12 h13 h14 h15 h16 h17 h18 h19 h20 h21 : Nat) (A : Nat → Prop) (H : Heap) : Prop := va_P D cl0 [(h0, .inr (8, [.int 2, .int 0, .int 1, .int 0, .int 0, .int 0, .ref h6, .ref h7, .int 0, .int 1, .ref h8, .ref h1, .ref h9, .ref h10, .ref h11, .ref h12, .ref h13, .int 0, .int 0, .int 0, .ref h2, .ref h3, .ref h4, .ref h5, .int 1, .int 1, .ref h14, .ref h15, .ref h16, .ref h17, .int 0, .int 0, .ref h18, .ref h19, .ref h20, .ref h21])), (h1, .inl (k 1, 9, .inr (.inl (tL [1, 0, 0, 0, 1, 0, 0, 0, 0] 0)))), (h2, .inl (k 1, 900, .inr (.inl (tL [1, 0, 0, 0, 1, 0, 0, 0, 0] 0)))), (h3, .inl (k 0, 100, .inl (tI [(-3)] 0))), (h4, .inl (k 0, 100, .inl (tI [(-3)] 0))), (h5, .inl (k 0, 100, .inl (tI [0] 0)))] H ∧ va_D A [(h0, .inr (8, [.int 2, .int 0, .int 1, .int 0, .int 0, .int 0, .ref h6, .ref h7, .int 0, .int 1, .ref h8, .ref h1, .ref h9, .ref h10, .ref h11, .ref h12, .ref h13, .int 0, .int 0, .int 0, .ref h2, .ref h3, .ref h4, .ref h5, .int 1, .int 1, .ref h14, .ref h15, .ref h16, .ref h17, .int 0, .int 0, .ref h18, .ref h19, .ref h20, .ref h21])), (h1, .inl (k 1, 9, .inr (.inl (tL [1, 0, 0, 0, 1, 0, 0, 0, 0] 0)))), (h2, .inl (k 1, 900, .inr (.inl (tL [1, 0, 0, 0, 1, 0, 0, 0, 0] 0)))), (h3, .inl (k 0, 100, .inl (tI [(-3)] 0))), (h4, .inl (k 0, 100, .inl (tI [(-3)] 0))), (h5, .inl (k 0, 100, .inl (tI [0] 0)))]
set_option maxHeartbeats 4000000 in
set_option maxRecDepth 100000 in
theorem cX11_findList_1 (l : Launch) (D : va_G) (k : Nat → ClassId) (sz : Nat) (h0 h1 h2 h3 h4 h5 h6 h7 h8 h9 h10 h11 h12 h13 h14 h15 h16 h17 h18 h19 h20 h21 : Nat) : Met l yX11_findList (Cond.code yX11_findList cX11_findList 3 none :: uw) ({ frames := 2, cells := 0, slots := 0, locals := 44 }) (pC D k sz [.ref h0] [(h0, .inr (8, [.int 2, .int 0, .int 1, .int 0, .int 0, .int 0, .ref h6, .ref h7, .int 0, .int 0, .ref h8, .ref h1, .ref h9, .ref h10, .ref h11, .ref h12, .ref h13, .int 0, .int 0, .int 0, .ref h2, .ref h3, .ref h4, .ref h5, .int 0, .int 0, .ref h14, .ref h15, .ref h16, .ref h17, .int 0, .int 0, .ref h18, .ref h19, .ref h20, .ref h21])), (h1, .inl (k 1, 9, .inr (.inl (tL [] 0)))), (h2, .inl (k 1, 900, .inr (.inl (tL [] 0)))), (h3, .inl (k 0, 100, .inl (tI [] 0))), (h4, .inl (k 0, 100, .inl (tI [] 0))), (h5, .inl (k 0, 100, .inl (tI [] 0)))]) (qV (BX11_findList_1 D k h0 h1 h2 h3 h4 h5 h6 h7 h8 h9 h10 h11 h12 h13 h14 h15 h16 h17 h18 h19 h20 h21 (va_A [(h0, .inr (8, [.int 2, .int 0, .int 1, .int 0, .int 0, .int 0, .ref h6, .ref h7, .int 0, .int 0, .ref h8, .ref h1, .ref h9, .ref h10, .ref h11, .ref h12, .ref h13, .int 0, .int 0, .int 0, .ref h2, .ref h3, .ref h4, .ref h5, .int 0, .int 0, .ref h14, .ref h15, .ref h16, .ref h17, .int 0, .int 0, .ref h18, .ref h19, .ref h20, .ref h21])), (h1, .inl (k 1, 9, .inr (.inl (tL [] 0)))), (h2, .inl (k 1, 900, .inr (.inl (tL [] 0)))), (h3, .inl (k 0, 100, .inl (tI [] 0))), (h4, .inl (k 0, 100, .inl (tI [] 0))), (h5, .inl (k 0, 100, .inl (tI [] 0)))] sz)) (va_A [(h0, .inr (8, [.int 2, .int 0, .int 1, .int 0, .int 0, .int 0, .ref h6, .ref h7, .int 0, .int 0, .ref h8, .ref h1, .ref h9, .ref h10, .ref h11, .ref h12, .ref h13, .int 0, .int 0, .int 0, .ref h2, .ref h3, .ref h4, .ref h5, .int 0, .int 0, .ref h14, .ref h15, .ref h16, .ref h17, .int 0, .int 0, .ref h18, .ref h19, .ref h20, .ref h21])), (h1, .inl (k 1, 9, .inr (.inl (tL [] 0)))), (h2, .inl (k 1, 900, .inr (.inl (tL [] 0)))), (h3, .inl (k 0, 100, .inl (tI [] 0))), (h4, .inl (k 0, 100, .inl (tI [] 0))), (h5, .inl (k 0, 100, .inl (tI [] 0)))] sz)) 0 0 (va_A [(h0, .inr (8, [.int 2, .int 0, .int 1, .int 0, .int 0, .int 0, .ref h6, .ref h7, .int 0, .int 0, .ref h8, .ref h1, .ref h9, .ref h10, .ref h11, .ref h12, .ref h13, .int 0, .int 0, .int 0, .ref h2, .ref h3, .ref h4, .ref h5, .int 0, .int 0, .ref h14, .ref h15, .ref h16, .ref h17, .int 0, .int 0, .ref h18, .ref h19, .ref h20, .ref h21])), (h1, .inl (k 1, 9, .inr (.inl (tL [] 0)))), (h2, .inl (k 1, 900, .inr (.inl (tL [] 0)))), (h3, .inl (k 0, 100, .inl (tI [] 0))), (h4, .inl (k 0, 100, .inl (tI [] 0))), (h5, .inl (k 0, 100, .inl (tI [] 0)))] sz) := by
  refine begin_ (Qc := fun A => qV (BX11_findList_1 D k h0 h1 h2 h3 h4 h5 h6 h7 h8 h9 h10 h11 h12 h13 h14 h15 h16 h17 h18 h19 h20 h21 A) A) (by decide) (Nat.le_of_ble_eq_true rfl) ?_
  intro p e s m below meth c ls A hx hb hr hml hown hlocks hin hU hK hsz hP hD hS hA hl
  have hl : lv_has ls 3 [(0, .ref h0)] := hl
  clear hsz
  refine lv_aload_n hx hb dX11_findList_0 rfl (lv_at hl 0 rfl) ?_
  refine va_get (D := D) (ci := 8) (v := .int 0) (C := RX11) (T := TX11) (N := 36) hx hb hU iX11 hown hK.1 hP 0 rfl rfl 9 (by decide) (hU _ w794) (fun _ h9 => h9) rfl dX11_findList_1 ?_
  refine lv_if_eq (tgt := 8) hx hb dX11_findList_4 (by decide) (fun _ => ?_) (fun cc => absurd (by decide +kernel) cc)
  refine lv_aload_n hx hb dX11_findList_8 rfl (lv_at hl 0 rfl) ?_
  refine lv_iconst (v := 0) hx hb dX11_findList_9 (by decide) ?_
  refine va_put (D := D) (ci := 8) (v := .int 0) (ty := .int) (C := RX11) (T := TX11) (N := 36) hx hb hU iX11 tyX11 tyX11_ok nmX11 hown hK.1 hP hD hS 0 rfl rfl 24 (by decide) (hU _ w809) (fun _ h9 => h9) rfl (by decide +kernel) rfl rfl (Nat.le_of_ble_eq_true rfl) dX11_findList_10 (fun H locs hP hD hS => ?_)
  have hP : va_P D cl0 [(h0, .inr (8, [.int 2, .int 0, .int 1, .int 0, .int 0, .int 0, .ref h6, .ref h7, .int 0, .int 0, .ref h8, .ref h1, .ref h9, .ref h10, .ref h11, .ref h12, .ref h13, .int 0, .int 0, .int 0, .ref h2, .ref h3, .ref h4, .ref h5, .int 0, .int 0, .ref h14, .ref h15, .ref h16, .ref h17, .int 0, .int 0, .ref h18, .ref h19, .ref h20, .ref h21])), (h1, .inl (k 1, 9, .inr (.inl (tL [] 0)))), (h2, .inl (k 1, 900, .inr (.inl (tL [] 0)))), (h3, .inl (k 0, 100, .inl (tI [] 0))), (h4, .inl (k 0, 100, .inl (tI [] 0))), (h5, .inl (k 0, 100, .inl (tI [] 0)))] H := hP
  have hD : va_D A [(h0, .inr (8, [.int 2, .int 0, .int 1, .int 0, .int 0, .int 0, .ref h6, .ref h7, .int 0, .int 0, .ref h8, .ref h1, .ref h9, .ref h10, .ref h11, .ref h12, .ref h13, .int 0, .int 0, .int 0, .ref h2, .ref h3, .ref h4, .ref h5, .int 0, .int 0, .ref h14, .ref h15, .ref h16, .ref h17, .int 0, .int 0, .ref h18, .ref h19, .ref h20, .ref h21])), (h1, .inl (k 1, 9, .inr (.inl (tL [] 0)))), (h2, .inl (k 1, 900, .inr (.inl (tL [] 0)))), (h3, .inl (k 0, 100, .inl (tI [] 0))), (h4, .inl (k 0, 100, .inl (tI [] 0))), (h5, .inl (k 0, 100, .inl (tI [] 0)))] := hD
  refine lv_aload_n hx hb dX11_findList_13 rfl (lv_at hl 0 rfl) ?_
  refine lv_aload_n hx hb dX11_findList_14 rfl (lv_at hl 0 rfl) ?_
  refine va_get (D := D) (ci := 8) (v := .ref h1) (C := RX11) (T := TX11) (N := 36) hx hb hU iX11 hown hK.1 hP 0 rfl rfl 11 (by decide) (hU _ w796) (fun _ h9 => h9) rfl dX11_findList_15 ?_
  refine cV (rV (q0 := 0) (ci := 8) (As := [.ref h1]) (rest := []) (wc := [(h1, .inl (k 1, 9, .inr (.inl (tL [] 0)))), (h0, .inr (8, [.int 2, .int 0, .int 1, .int 0, .int 0, .int 0, .ref h6, .ref h7, .int 0, .int 0, .ref h8, .ref h1, .ref h9, .ref h10, .ref h11, .ref h12, .ref h13, .int 0, .int 0, .int 0, .ref h2, .ref h3, .ref h4, .ref h5, .int 0, .int 0, .ref h14, .ref h15, .ref h16, .ref h17, .int 0, .int 0, .ref h18, .ref h19, .ref h20, .ref h21]))]) hx hb hml hown hU hK hP hD rfl rfl [1, 0] rfl (by decide) (cX11_first_6 l D k _ h1 h0 h6 h7 h8 h9 h10 h11 h12 h13 h2 h3 h4 h5 h14 h15 h16 h17 h18 h19 h20 h21) w919 w916 w918 w28 w72 hdX11_first ⟨rfl, rfl⟩ ⟨Nat.le_of_ble_eq_true rfl, Nat.le_of_ble_eq_true rfl⟩ rfl hl.1 (Nat.le_of_ble_eq_true rfl) dX11_findList_18 ⟨Nat.le_of_ble_eq_true rfl, Nat.le_of_ble_eq_true rfl⟩) hP hD hS hA (wr := [(h2, .inl (k 1, 900, .inr (.inl (tL [] 0)))), (h3, .inl (k 0, 100, .inl (tI [] 0))), (h4, .inl (k 0, 100, .inl (tI [] 0))), (h5, .inl (k 0, 100, .inl (tI [] 0)))]) [1, 0] [2, 3, 4, 5] rfl rfl (by decide) (by decide) (fun H locs hB J hS => ?_)
  obtain ⟨hP1, hD1⟩ := hB
  obtain ⟨hP, hD⟩ := J _ hP1 hD1
  have hP : va_P D cl0 [(h2, .inl (k 1, 900, .inr (.inl (tL [] 0)))), (h3, .inl (k 0, 100, .inl (tI [] 0))), (h4, .inl (k 0, 100, .inl (tI [] 0))), (h5, .inl (k 0, 100, .inl (tI [] 0))), (h0, .inr (8, [.int 2, .int 0, .int 1, .int 0, .int 0, .int 0, .ref h6, .ref h7, .int 0, .int 0, .ref h8, .ref h1, .ref h9, .ref h10, .ref h11, .ref h12, .ref h13, .int 0, .int 0, .int 0, .ref h2, .ref h3, .ref h4, .ref h5, .int 0, .int 0, .ref h14, .ref h15, .ref h16, .ref h17, .int 0, .int 0, .ref h18, .ref h19, .ref h20, .ref h21])), (h1, .inl (k 1, 9, .inr (.inl (tL [1, 0, 0, 0, 1, 0, 0, 0, 0] 0))))] H := hP
  have hD : va_D A [(h2, .inl (k 1, 900, .inr (.inl (tL [] 0)))), (h3, .inl (k 0, 100, .inl (tI [] 0))), (h4, .inl (k 0, 100, .inl (tI [] 0))), (h5, .inl (k 0, 100, .inl (tI [] 0))), (h0, .inr (8, [.int 2, .int 0, .int 1, .int 0, .int 0, .int 0, .ref h6, .ref h7, .int 0, .int 0, .ref h8, .ref h1, .ref h9, .ref h10, .ref h11, .ref h12, .ref h13, .int 0, .int 0, .int 0, .ref h2, .ref h3, .ref h4, .ref h5, .int 0, .int 0, .ref h14, .ref h15, .ref h16, .ref h17, .int 0, .int 0, .ref h18, .ref h19, .ref h20, .ref h21])), (h1, .inl (k 1, 9, .inr (.inl (tL [1, 0, 0, 0, 1, 0, 0, 0, 0] 0))))] := hD
  refine lv_aload_n hx hb dX11_findList_21 rfl (lv_at hl 0 rfl) ?_
  refine lv_aload_n hx hb dX11_findList_22 rfl (lv_at hl 0 rfl) ?_
  refine va_get (D := D) (ci := 8) (v := .ref h1) (C := RX11) (T := TX11) (N := 36) hx hb hU iX11 hown hK.1 hP 4 rfl rfl 11 (by decide) (hU _ w796) (fun _ h9 => h9) rfl dX11_findList_23 ?_
  refine lv_bipush (v := (-3)) hx hb dX11_findList_26 (by decide) ?_
  refine lv_bipush (v := (-3)) hx hb dX11_findList_28 (by decide) ?_
  refine cV (rV (q0 := 4) (ci := 8) (As := [.ref h1, .int (-3), .int (-3)]) (rest := []) (wc := [(h0, .inr (8, [.int 2, .int 0, .int 1, .int 0, .int 0, .int 0, .ref h6, .ref h7, .int 0, .int 0, .ref h8, .ref h1, .ref h9, .ref h10, .ref h11, .ref h12, .ref h13, .int 0, .int 0, .int 0, .ref h2, .ref h3, .ref h4, .ref h5, .int 0, .int 0, .ref h14, .ref h15, .ref h16, .ref h17, .int 0, .int 0, .ref h18, .ref h19, .ref h20, .ref h21])), (h1, .inl (k 1, 9, .inr (.inl (tL [1, 0, 0, 0, 1, 0, 0, 0, 0] 0)))), (h2, .inl (k 1, 900, .inr (.inl (tL [] 0)))), (h3, .inl (k 0, 100, .inl (tI [] 0))), (h4, .inl (k 0, 100, .inl (tI [] 0))), (h5, .inl (k 0, 100, .inl (tI [] 0)))]) hx hb hml hown hU hK hP hD rfl rfl [4, 5, 0, 1, 2, 3] rfl (by decide) (cX11_lists_1 l D k _ h0 h1 h2 h3 h4 h5 h6 h7 h8 h9 h10 h11 h12 h13 h14 h15 h16 h17 h18 h19 h20 h21) w1043 w1040 w1042 w48 w72 hdX11_lists ⟨rfl, rfl⟩ ⟨Nat.le_of_ble_eq_true rfl, Nat.le_of_ble_eq_true rfl⟩ rfl hl.1 (Nat.le_of_ble_eq_true rfl) dX11_findList_30 ⟨Nat.le_of_ble_eq_true rfl, Nat.le_of_ble_eq_true rfl⟩) hP hD hS hA (wr := []) [4, 5, 0, 1, 2, 3] [] rfl rfl (by decide) (by decide) (fun H locs hB J hS => ?_)
  obtain ⟨hP1, hD1⟩ := hB
  obtain ⟨hP, hD⟩ := J _ hP1 hD1
  have hP : va_P D cl0 [(h0, .inr (8, [.int 2, .int 0, .int 1, .int 0, .int 0, .int 0, .ref h6, .ref h7, .int 0, .int 0, .ref h8, .ref h1, .ref h9, .ref h10, .ref h11, .ref h12, .ref h13, .int 0, .int 0, .int 0, .ref h2, .ref h3, .ref h4, .ref h5, .int 1, .int 0, .ref h14, .ref h15, .ref h16, .ref h17, .int 0, .int 0, .ref h18, .ref h19, .ref h20, .ref h21])), (h1, .inl (k 1, 9, .inr (.inl (tL [1, 0, 0, 0, 1, 0, 0, 0, 0] 0)))), (h2, .inl (k 1, 900, .inr (.inl (tL [1, 0, 0, 0, 1, 0, 0, 0, 0] 0)))), (h3, .inl (k 0, 100, .inl (tI [(-3)] 0))), (h4, .inl (k 0, 100, .inl (tI [(-3)] 0))), (h5, .inl (k 0, 100, .inl (tI [0] 0)))] H := hP
  have hD : va_D A [(h0, .inr (8, [.int 2, .int 0, .int 1, .int 0, .int 0, .int 0, .ref h6, .ref h7, .int 0, .int 0, .ref h8, .ref h1, .ref h9, .ref h10, .ref h11, .ref h12, .ref h13, .int 0, .int 0, .int 0, .ref h2, .ref h3, .ref h4, .ref h5, .int 1, .int 0, .ref h14, .ref h15, .ref h16, .ref h17, .int 0, .int 0, .ref h18, .ref h19, .ref h20, .ref h21])), (h1, .inl (k 1, 9, .inr (.inl (tL [1, 0, 0, 0, 1, 0, 0, 0, 0] 0)))), (h2, .inl (k 1, 900, .inr (.inl (tL [1, 0, 0, 0, 1, 0, 0, 0, 0] 0)))), (h3, .inl (k 0, 100, .inl (tI [(-3)] 0))), (h4, .inl (k 0, 100, .inl (tI [(-3)] 0))), (h5, .inl (k 0, 100, .inl (tI [0] 0)))] := hD
  refine lv_iconst (v := 0) hx hb dX11_findList_33 (by decide) ?_
  refine lv_istore_n (lv' := [(1, .int 0), (0, .ref h0)]) hx hb dX11_findList_34 rfl hl (by decide) rfl (fun ls hl => ?_)
  refine lv_iload_n hx hb dX11_findList_35 rfl (lv_at hl 0 rfl) ?_
  refine lv_aload_n hx hb dX11_findList_36 rfl (lv_at hl 1 rfl) ?_
  refine va_get (D := D) (ci := 8) (v := .int 1) (C := RX11) (T := TX11) (N := 36) hx hb hU iX11 hown hK.1 hP 0 rfl rfl 24 (by decide) (hU _ w809) (fun _ h9 => h9) rfl dX11_findList_37 ?_
  refine lv_icmp_ge (tgt := 140) hx hb dX11_findList_40 (by decide) (fun cc => absurd cc (by decide +kernel)) (fun _ => ?_)
  refine lv_iconst (v := 0) hx hb dX11_findList_43 (by decide) ?_
  refine lv_istore_n (lv' := [(2, .int 0), (1, .int 0), (0, .ref h0)]) hx hb dX11_findList_44 rfl hl (by decide) rfl (fun ls hl => ?_)
  refine lv_iload_n hx hb dX11_findList_45 rfl (lv_at hl 0 rfl) ?_
  refine lv_aload_n hx hb dX11_findList_46 rfl (lv_at hl 2 rfl) ?_
  refine va_get (D := D) (ci := 8) (v := .int 0) (C := RX11) (T := TX11) (N := 36) hx hb hU iX11 hown hK.1 hP 0 rfl rfl 1 (by decide) (hU _ w786) (fun _ h9 => h9) rfl dX11_findList_47 ?_
  refine lv_icmp_ge (tgt := 134) hx hb dX11_findList_50 (by decide) (fun _ => ?_) (fun cc => absurd (by decide +kernel) cc)
  refine lv_iinc (v := 1) (lv' := [(1, .int 1), (2, .int 0), (0, .ref h0)]) hx hb dX11_findList_134 hl (k := 1) rfl (by decide) (by decide) rfl (fun ls hl => ?_)
  refine lv_goto (tgt := 35) hx hb dX11_findList_137 (by decide) ?_
  refine lv_iload_n hx hb dX11_findList_35 rfl (lv_at hl 0 rfl) ?_
  refine lv_aload_n hx hb dX11_findList_36 rfl (lv_at hl 2 rfl) ?_
  refine va_get (D := D) (ci := 8) (v := .int 1) (C := RX11) (T := TX11) (N := 36) hx hb hU iX11 hown hK.1 hP 0 rfl rfl 24 (by decide) (hU _ w809) (fun _ h9 => h9) rfl dX11_findList_37 ?_
  refine lv_icmp_ge (tgt := 140) hx hb dX11_findList_40 (by decide) (fun _ => ?_) (fun cc => absurd (by decide +kernel) cc)
  refine lv_aload_n hx hb dX11_findList_140 rfl (lv_at hl 2 rfl) ?_
  refine lv_iconst (v := 1) hx hb dX11_findList_141 (by decide) ?_
  refine va_put (D := D) (ci := 8) (v := .int 1) (ty := .boolean) (C := RX11) (T := TX11) (N := 36) hx hb hU iX11 tyX11 tyX11_ok nmX11 hown hK.1 hP hD hS 0 rfl rfl 25 (by decide) (hU _ w810) (fun _ h9 => h9) rfl (by decide +kernel) rfl rfl (Nat.le_of_ble_eq_true rfl) dX11_findList_142 (fun H locs hP hD hS => ?_)
  have hP : va_P D cl0 [(h0, .inr (8, [.int 2, .int 0, .int 1, .int 0, .int 0, .int 0, .ref h6, .ref h7, .int 0, .int 0, .ref h8, .ref h1, .ref h9, .ref h10, .ref h11, .ref h12, .ref h13, .int 0, .int 0, .int 0, .ref h2, .ref h3, .ref h4, .ref h5, .int 1, .int 1, .ref h14, .ref h15, .ref h16, .ref h17, .int 0, .int 0, .ref h18, .ref h19, .ref h20, .ref h21])), (h1, .inl (k 1, 9, .inr (.inl (tL [1, 0, 0, 0, 1, 0, 0, 0, 0] 0)))), (h2, .inl (k 1, 900, .inr (.inl (tL [1, 0, 0, 0, 1, 0, 0, 0, 0] 0)))), (h3, .inl (k 0, 100, .inl (tI [(-3)] 0))), (h4, .inl (k 0, 100, .inl (tI [(-3)] 0))), (h5, .inl (k 0, 100, .inl (tI [0] 0)))] H := hP
  have hD : va_D A [(h0, .inr (8, [.int 2, .int 0, .int 1, .int 0, .int 0, .int 0, .ref h6, .ref h7, .int 0, .int 0, .ref h8, .ref h1, .ref h9, .ref h10, .ref h11, .ref h12, .ref h13, .int 0, .int 0, .int 0, .ref h2, .ref h3, .ref h4, .ref h5, .int 1, .int 1, .ref h14, .ref h15, .ref h16, .ref h17, .int 0, .int 0, .ref h18, .ref h19, .ref h20, .ref h21])), (h1, .inl (k 1, 9, .inr (.inl (tL [1, 0, 0, 0, 1, 0, 0, 0, 0] 0)))), (h2, .inl (k 1, 900, .inr (.inl (tL [1, 0, 0, 0, 1, 0, 0, 0, 0] 0)))), (h3, .inl (k 0, 100, .inl (tI [(-3)] 0))), (h4, .inl (k 0, 100, .inl (tI [(-3)] 0))), (h5, .inl (k 0, 100, .inl (tI [0] 0)))] := hD
  refine lv_iconst (v := 0) hx hb dX11_findList_145 (by decide) ?_
  refine lv_istore_n (lv' := [(1, .int 0), (2, .int 0), (0, .ref h0)]) hx hb dX11_findList_146 rfl hl (by decide) rfl (fun ls hl => ?_)
  refine lv_iload_n hx hb dX11_findList_147 rfl (lv_at hl 0 rfl) ?_
  refine lv_aload_n hx hb dX11_findList_148 rfl (lv_at hl 2 rfl) ?_
  refine va_get (D := D) (ci := 8) (v := .int 1) (C := RX11) (T := TX11) (N := 36) hx hb hU iX11 hown hK.1 hP 0 rfl rfl 24 (by decide) (hU _ w809) (fun _ h9 => h9) rfl dX11_findList_149 ?_
  refine lv_icmp_ge (tgt := 238) hx hb dX11_findList_152 (by decide) (fun cc => absurd cc (by decide +kernel)) (fun _ => ?_)
  refine lv_iconst (v := 0) hx hb dX11_findList_155 (by decide) ?_
  refine lv_istore_n (lv' := [(2, .int 0), (1, .int 0), (0, .ref h0)]) hx hb dX11_findList_156 rfl hl (by decide) rfl (fun ls hl => ?_)
  refine lv_iload_n hx hb dX11_findList_157 rfl (lv_at hl 0 rfl) ?_
  refine lv_aload_n hx hb dX11_findList_158 rfl (lv_at hl 2 rfl) ?_
  refine va_get (D := D) (ci := 8) (v := .int 0) (C := RX11) (T := TX11) (N := 36) hx hb hU iX11 hown hK.1 hP 0 rfl rfl 1 (by decide) (hU _ w786) (fun _ h9 => h9) rfl dX11_findList_159 ?_
  refine lv_icmp_ge (tgt := 232) hx hb dX11_findList_162 (by decide) (fun _ => ?_) (fun cc => absurd (by decide +kernel) cc)
  refine lv_iinc (v := 1) (lv' := [(1, .int 1), (2, .int 0), (0, .ref h0)]) hx hb dX11_findList_232 hl (k := 1) rfl (by decide) (by decide) rfl (fun ls hl => ?_)
  refine lv_goto (tgt := 147) hx hb dX11_findList_235 (by decide) ?_
  refine lv_iload_n hx hb dX11_findList_147 rfl (lv_at hl 0 rfl) ?_
  refine lv_aload_n hx hb dX11_findList_148 rfl (lv_at hl 2 rfl) ?_
  refine va_get (D := D) (ci := 8) (v := .int 1) (C := RX11) (T := TX11) (N := 36) hx hb hU iX11 hown hK.1 hP 0 rfl rfl 24 (by decide) (hU _ w809) (fun _ h9 => h9) rfl dX11_findList_149 ?_
  refine lv_icmp_ge (tgt := 238) hx hb dX11_findList_152 (by decide) (fun _ => ?_) (fun cc => absurd (by decide +kernel) cc)
  refine lv_aload_n hx hb dX11_findList_238 rfl (lv_at hl 2 rfl) ?_
  refine lv_iconst (v := 1) hx hb dX11_findList_239 (by decide) ?_
  refine va_put (D := D) (ci := 8) (v := .int 1) (ty := .boolean) (C := RX11) (T := TX11) (N := 36) hx hb hU iX11 tyX11 tyX11_ok nmX11 hown hK.1 hP hD hS 0 rfl rfl 9 (by decide) (hU _ w794) (fun _ h9 => h9) rfl (by decide +kernel) rfl rfl (Nat.le_of_ble_eq_true rfl) dX11_findList_240 (fun H locs hP hD hS => ?_)
  have hP : va_P D cl0 [(h0, .inr (8, [.int 2, .int 0, .int 1, .int 0, .int 0, .int 0, .ref h6, .ref h7, .int 0, .int 1, .ref h8, .ref h1, .ref h9, .ref h10, .ref h11, .ref h12, .ref h13, .int 0, .int 0, .int 0, .ref h2, .ref h3, .ref h4, .ref h5, .int 1, .int 1, .ref h14, .ref h15, .ref h16, .ref h17, .int 0, .int 0, .ref h18, .ref h19, .ref h20, .ref h21])), (h1, .inl (k 1, 9, .inr (.inl (tL [1, 0, 0, 0, 1, 0, 0, 0, 0] 0)))), (h2, .inl (k 1, 900, .inr (.inl (tL [1, 0, 0, 0, 1, 0, 0, 0, 0] 0)))), (h3, .inl (k 0, 100, .inl (tI [(-3)] 0))), (h4, .inl (k 0, 100, .inl (tI [(-3)] 0))), (h5, .inl (k 0, 100, .inl (tI [0] 0)))] H := hP
  have hD : va_D A [(h0, .inr (8, [.int 2, .int 0, .int 1, .int 0, .int 0, .int 0, .ref h6, .ref h7, .int 0, .int 1, .ref h8, .ref h1, .ref h9, .ref h10, .ref h11, .ref h12, .ref h13, .int 0, .int 0, .int 0, .ref h2, .ref h3, .ref h4, .ref h5, .int 1, .int 1, .ref h14, .ref h15, .ref h16, .ref h17, .int 0, .int 0, .ref h18, .ref h19, .ref h20, .ref h21])), (h1, .inl (k 1, 9, .inr (.inl (tL [1, 0, 0, 0, 1, 0, 0, 0, 0] 0)))), (h2, .inl (k 1, 900, .inr (.inl (tL [1, 0, 0, 0, 1, 0, 0, 0, 0] 0)))), (h3, .inl (k 0, 100, .inl (tI [(-3)] 0))), (h4, .inl (k 0, 100, .inl (tI [(-3)] 0))), (h5, .inl (k 0, 100, .inl (tI [0] 0)))] := hD
  exact retV hx hb hr hlocks hS (⟨hP, hD⟩) dX11_findList_243
abbrev BX11_listed_1 (D : va_G) (k : Nat → ClassId) (a0 a4 a10 a11 a12 a13 a1 a2 a3 a5 a6 a7 a8 a9 a14 a15 a16 a17 a18 a19 a20 a21 : Nat) (A : Nat → Prop) (r : Int32) (H : Heap) : Prop := r = F_listed
set_option maxHeartbeats 4000000 in
set_option maxRecDepth 100000 in
theorem cX11_listed_1 (l : Launch) (D : va_G) (k : Nat → ClassId) (sz : Nat) (a0 a4 a10 a11 a12 a13 a1 a2 a3 a5 a6 a7 a8 a9 a14 a15 a16 a17 a18 a19 a20 a21 : Nat) : Met l yX11_listed (Cond.code yX11_listed cX11_listed 1 (some .int) :: uw) ({ frames := 3, cells := 0, slots := 0, locals := 66 }) (pC D k sz [.ref a0] [(a0, .inr (8, [.int 2, .int 0, .int 1, .int 0, .int 0, .int 0, .ref a1, .ref a2, .int 0, .int 0, .ref a3, .ref a4, .ref a5, .ref a6, .ref a7, .ref a8, .ref a9, .int 0, .int 0, .int 0, .ref a10, .ref a11, .ref a12, .ref a13, .int 0, .int 0, .ref a14, .ref a15, .ref a16, .ref a17, .int 0, .int 0, .ref a18, .ref a19, .ref a20, .ref a21])), (a4, .inl (k 1, 9, .inr (.inl (tL [] 0)))), (a10, .inl (k 1, 900, .inr (.inl (tL [] 0)))), (a11, .inl (k 0, 100, .inl (tI [] 0))), (a12, .inl (k 0, 100, .inl (tI [] 0))), (a13, .inl (k 0, 100, .inl (tI [] 0)))]) (qI (BX11_listed_1 D k a0 a4 a10 a11 a12 a13 a1 a2 a3 a5 a6 a7 a8 a9 a14 a15 a16 a17 a18 a19 a20 a21 (va_A [(a0, .inr (8, [.int 2, .int 0, .int 1, .int 0, .int 0, .int 0, .ref a1, .ref a2, .int 0, .int 0, .ref a3, .ref a4, .ref a5, .ref a6, .ref a7, .ref a8, .ref a9, .int 0, .int 0, .int 0, .ref a10, .ref a11, .ref a12, .ref a13, .int 0, .int 0, .ref a14, .ref a15, .ref a16, .ref a17, .int 0, .int 0, .ref a18, .ref a19, .ref a20, .ref a21])), (a4, .inl (k 1, 9, .inr (.inl (tL [] 0)))), (a10, .inl (k 1, 900, .inr (.inl (tL [] 0)))), (a11, .inl (k 0, 100, .inl (tI [] 0))), (a12, .inl (k 0, 100, .inl (tI [] 0))), (a13, .inl (k 0, 100, .inl (tI [] 0)))] sz)) (va_A [(a0, .inr (8, [.int 2, .int 0, .int 1, .int 0, .int 0, .int 0, .ref a1, .ref a2, .int 0, .int 0, .ref a3, .ref a4, .ref a5, .ref a6, .ref a7, .ref a8, .ref a9, .int 0, .int 0, .int 0, .ref a10, .ref a11, .ref a12, .ref a13, .int 0, .int 0, .ref a14, .ref a15, .ref a16, .ref a17, .int 0, .int 0, .ref a18, .ref a19, .ref a20, .ref a21])), (a4, .inl (k 1, 9, .inr (.inl (tL [] 0)))), (a10, .inl (k 1, 900, .inr (.inl (tL [] 0)))), (a11, .inl (k 0, 100, .inl (tI [] 0))), (a12, .inl (k 0, 100, .inl (tI [] 0))), (a13, .inl (k 0, 100, .inl (tI [] 0)))] sz)) 0 0 (va_A [(a0, .inr (8, [.int 2, .int 0, .int 1, .int 0, .int 0, .int 0, .ref a1, .ref a2, .int 0, .int 0, .ref a3, .ref a4, .ref a5, .ref a6, .ref a7, .ref a8, .ref a9, .int 0, .int 0, .int 0, .ref a10, .ref a11, .ref a12, .ref a13, .int 0, .int 0, .ref a14, .ref a15, .ref a16, .ref a17, .int 0, .int 0, .ref a18, .ref a19, .ref a20, .ref a21])), (a4, .inl (k 1, 9, .inr (.inl (tL [] 0)))), (a10, .inl (k 1, 900, .inr (.inl (tL [] 0)))), (a11, .inl (k 0, 100, .inl (tI [] 0))), (a12, .inl (k 0, 100, .inl (tI [] 0))), (a13, .inl (k 0, 100, .inl (tI [] 0)))] sz) := by
  refine begin_ (Qc := fun A => qI (BX11_listed_1 D k a0 a4 a10 a11 a12 a13 a1 a2 a3 a5 a6 a7 a8 a9 a14 a15 a16 a17 a18 a19 a20 a21 A) A) (by decide) (Nat.le_of_ble_eq_true rfl) ?_
  intro p e s m below meth c ls A hx hb hr hml hown hlocks hin hU hK hsz hP hD hS hA hl
  have hl : lv_has ls 1 [(0, .ref a0)] := hl
  clear hsz
  refine lv_aload_n hx hb dX11_listed_0 rfl (lv_at hl 0 rfl) ?_
  refine cV (rV (q0 := 0) (ci := 8) (As := []) (rest := []) (wc := [(a0, .inr (8, [.int 2, .int 0, .int 1, .int 0, .int 0, .int 0, .ref a1, .ref a2, .int 0, .int 0, .ref a3, .ref a4, .ref a5, .ref a6, .ref a7, .ref a8, .ref a9, .int 0, .int 0, .int 0, .ref a10, .ref a11, .ref a12, .ref a13, .int 0, .int 0, .ref a14, .ref a15, .ref a16, .ref a17, .int 0, .int 0, .ref a18, .ref a19, .ref a20, .ref a21])), (a4, .inl (k 1, 9, .inr (.inl (tL [] 0)))), (a10, .inl (k 1, 900, .inr (.inl (tL [] 0)))), (a11, .inl (k 0, 100, .inl (tI [] 0))), (a12, .inl (k 0, 100, .inl (tI [] 0))), (a13, .inl (k 0, 100, .inl (tI [] 0)))]) hx hb hml hown hU hK hP hD rfl rfl [0, 1, 2, 3, 4, 5] rfl (by decide) (cX11_findList_1 l D k _ a0 a4 a10 a11 a12 a13 a1 a2 a3 a5 a6 a7 a8 a9 a14 a15 a16 a17 a18 a19 a20 a21) w1039 w1036 w1038 w47 w72 hdX11_findList ⟨rfl, rfl⟩ ⟨Nat.le_of_ble_eq_true rfl, Nat.le_of_ble_eq_true rfl⟩ rfl hl.1 (Nat.le_of_ble_eq_true rfl) dX11_listed_1 ⟨Nat.le_of_ble_eq_true rfl, Nat.le_of_ble_eq_true rfl⟩) hP hD hS hA (wr := []) [0, 1, 2, 3, 4, 5] [] rfl rfl (by decide) (by decide) (fun H locs hB J hS => ?_)
  obtain ⟨hP1, hD1⟩ := hB
  obtain ⟨hP, hD⟩ := J _ hP1 hD1
  have hP : va_P D cl0 [(a0, .inr (8, [.int 2, .int 0, .int 1, .int 0, .int 0, .int 0, .ref a1, .ref a2, .int 0, .int 1, .ref a3, .ref a4, .ref a5, .ref a6, .ref a7, .ref a8, .ref a9, .int 0, .int 0, .int 0, .ref a10, .ref a11, .ref a12, .ref a13, .int 1, .int 1, .ref a14, .ref a15, .ref a16, .ref a17, .int 0, .int 0, .ref a18, .ref a19, .ref a20, .ref a21])), (a4, .inl (k 1, 9, .inr (.inl (tL [1, 0, 0, 0, 1, 0, 0, 0, 0] 0)))), (a10, .inl (k 1, 900, .inr (.inl (tL [1, 0, 0, 0, 1, 0, 0, 0, 0] 0)))), (a11, .inl (k 0, 100, .inl (tI [(-3)] 0))), (a12, .inl (k 0, 100, .inl (tI [(-3)] 0))), (a13, .inl (k 0, 100, .inl (tI [0] 0)))] H := hP
  have hD : va_D A [(a0, .inr (8, [.int 2, .int 0, .int 1, .int 0, .int 0, .int 0, .ref a1, .ref a2, .int 0, .int 1, .ref a3, .ref a4, .ref a5, .ref a6, .ref a7, .ref a8, .ref a9, .int 0, .int 0, .int 0, .ref a10, .ref a11, .ref a12, .ref a13, .int 1, .int 1, .ref a14, .ref a15, .ref a16, .ref a17, .int 0, .int 0, .ref a18, .ref a19, .ref a20, .ref a21])), (a4, .inl (k 1, 9, .inr (.inl (tL [1, 0, 0, 0, 1, 0, 0, 0, 0] 0)))), (a10, .inl (k 1, 900, .inr (.inl (tL [1, 0, 0, 0, 1, 0, 0, 0, 0] 0)))), (a11, .inl (k 0, 100, .inl (tI [(-3)] 0))), (a12, .inl (k 0, 100, .inl (tI [(-3)] 0))), (a13, .inl (k 0, 100, .inl (tI [0] 0)))] := hD
  refine lv_aload_n hx hb dX11_listed_4 rfl (lv_at hl 0 rfl) ?_
  refine va_get (D := D) (ci := 8) (v := .int 1) (C := RX11) (T := TX11) (N := 36) hx hb hU iX11 hown hK.1 hP 0 rfl rfl 24 (by decide) (hU _ w809) (fun _ h9 => h9) rfl dX11_listed_5 ?_
  exact retI (v := 1) hx hb hr hlocks hS (show (1 : Int32) = F_listed by rfl) dX11_listed_8
abbrev BX11_whole_1 (D : va_G) (k : Nat → ClassId) (a0 a4 a10 a11 a12 a13 a1 a2 a3 a5 a6 a7 a8 a9 a14 a15 a16 a17 a18 a19 a20 a21 : Nat) (A : Nat → Prop) (r : Int32) (H : Heap) : Prop := r = F_whole
set_option maxHeartbeats 4000000 in
set_option maxRecDepth 100000 in
theorem cX11_whole_1 (l : Launch) (D : va_G) (k : Nat → ClassId) (sz : Nat) (a0 a4 a10 a11 a12 a13 a1 a2 a3 a5 a6 a7 a8 a9 a14 a15 a16 a17 a18 a19 a20 a21 : Nat) : Met l yX11_whole (Cond.code yX11_whole cX11_whole 1 (some .int) :: uw) ({ frames := 3, cells := 0, slots := 0, locals := 66 }) (pC D k sz [.ref a0] [(a0, .inr (8, [.int 2, .int 0, .int 1, .int 0, .int 0, .int 0, .ref a1, .ref a2, .int 0, .int 0, .ref a3, .ref a4, .ref a5, .ref a6, .ref a7, .ref a8, .ref a9, .int 0, .int 0, .int 0, .ref a10, .ref a11, .ref a12, .ref a13, .int 0, .int 0, .ref a14, .ref a15, .ref a16, .ref a17, .int 0, .int 0, .ref a18, .ref a19, .ref a20, .ref a21])), (a4, .inl (k 1, 9, .inr (.inl (tL [] 0)))), (a10, .inl (k 1, 900, .inr (.inl (tL [] 0)))), (a11, .inl (k 0, 100, .inl (tI [] 0))), (a12, .inl (k 0, 100, .inl (tI [] 0))), (a13, .inl (k 0, 100, .inl (tI [] 0)))]) (qI (BX11_whole_1 D k a0 a4 a10 a11 a12 a13 a1 a2 a3 a5 a6 a7 a8 a9 a14 a15 a16 a17 a18 a19 a20 a21 (va_A [(a0, .inr (8, [.int 2, .int 0, .int 1, .int 0, .int 0, .int 0, .ref a1, .ref a2, .int 0, .int 0, .ref a3, .ref a4, .ref a5, .ref a6, .ref a7, .ref a8, .ref a9, .int 0, .int 0, .int 0, .ref a10, .ref a11, .ref a12, .ref a13, .int 0, .int 0, .ref a14, .ref a15, .ref a16, .ref a17, .int 0, .int 0, .ref a18, .ref a19, .ref a20, .ref a21])), (a4, .inl (k 1, 9, .inr (.inl (tL [] 0)))), (a10, .inl (k 1, 900, .inr (.inl (tL [] 0)))), (a11, .inl (k 0, 100, .inl (tI [] 0))), (a12, .inl (k 0, 100, .inl (tI [] 0))), (a13, .inl (k 0, 100, .inl (tI [] 0)))] sz)) (va_A [(a0, .inr (8, [.int 2, .int 0, .int 1, .int 0, .int 0, .int 0, .ref a1, .ref a2, .int 0, .int 0, .ref a3, .ref a4, .ref a5, .ref a6, .ref a7, .ref a8, .ref a9, .int 0, .int 0, .int 0, .ref a10, .ref a11, .ref a12, .ref a13, .int 0, .int 0, .ref a14, .ref a15, .ref a16, .ref a17, .int 0, .int 0, .ref a18, .ref a19, .ref a20, .ref a21])), (a4, .inl (k 1, 9, .inr (.inl (tL [] 0)))), (a10, .inl (k 1, 900, .inr (.inl (tL [] 0)))), (a11, .inl (k 0, 100, .inl (tI [] 0))), (a12, .inl (k 0, 100, .inl (tI [] 0))), (a13, .inl (k 0, 100, .inl (tI [] 0)))] sz)) 0 0 (va_A [(a0, .inr (8, [.int 2, .int 0, .int 1, .int 0, .int 0, .int 0, .ref a1, .ref a2, .int 0, .int 0, .ref a3, .ref a4, .ref a5, .ref a6, .ref a7, .ref a8, .ref a9, .int 0, .int 0, .int 0, .ref a10, .ref a11, .ref a12, .ref a13, .int 0, .int 0, .ref a14, .ref a15, .ref a16, .ref a17, .int 0, .int 0, .ref a18, .ref a19, .ref a20, .ref a21])), (a4, .inl (k 1, 9, .inr (.inl (tL [] 0)))), (a10, .inl (k 1, 900, .inr (.inl (tL [] 0)))), (a11, .inl (k 0, 100, .inl (tI [] 0))), (a12, .inl (k 0, 100, .inl (tI [] 0))), (a13, .inl (k 0, 100, .inl (tI [] 0)))] sz) := by
  refine begin_ (Qc := fun A => qI (BX11_whole_1 D k a0 a4 a10 a11 a12 a13 a1 a2 a3 a5 a6 a7 a8 a9 a14 a15 a16 a17 a18 a19 a20 a21 A) A) (by decide) (Nat.le_of_ble_eq_true rfl) ?_
  intro p e s m below meth c ls A hx hb hr hml hown hlocks hin hU hK hsz hP hD hS hA hl
  have hl : lv_has ls 1 [(0, .ref a0)] := hl
  clear hsz
  refine lv_aload_n hx hb dX11_whole_0 rfl (lv_at hl 0 rfl) ?_
  refine cV (rV (q0 := 0) (ci := 8) (As := []) (rest := []) (wc := [(a0, .inr (8, [.int 2, .int 0, .int 1, .int 0, .int 0, .int 0, .ref a1, .ref a2, .int 0, .int 0, .ref a3, .ref a4, .ref a5, .ref a6, .ref a7, .ref a8, .ref a9, .int 0, .int 0, .int 0, .ref a10, .ref a11, .ref a12, .ref a13, .int 0, .int 0, .ref a14, .ref a15, .ref a16, .ref a17, .int 0, .int 0, .ref a18, .ref a19, .ref a20, .ref a21])), (a4, .inl (k 1, 9, .inr (.inl (tL [] 0)))), (a10, .inl (k 1, 900, .inr (.inl (tL [] 0)))), (a11, .inl (k 0, 100, .inl (tI [] 0))), (a12, .inl (k 0, 100, .inl (tI [] 0))), (a13, .inl (k 0, 100, .inl (tI [] 0)))]) hx hb hml hown hU hK hP hD rfl rfl [0, 1, 2, 3, 4, 5] rfl (by decide) (cX11_findList_1 l D k _ a0 a4 a10 a11 a12 a13 a1 a2 a3 a5 a6 a7 a8 a9 a14 a15 a16 a17 a18 a19 a20 a21) w1039 w1036 w1038 w47 w72 hdX11_findList ⟨rfl, rfl⟩ ⟨Nat.le_of_ble_eq_true rfl, Nat.le_of_ble_eq_true rfl⟩ rfl hl.1 (Nat.le_of_ble_eq_true rfl) dX11_whole_1 ⟨Nat.le_of_ble_eq_true rfl, Nat.le_of_ble_eq_true rfl⟩) hP hD hS hA (wr := []) [0, 1, 2, 3, 4, 5] [] rfl rfl (by decide) (by decide) (fun H locs hB J hS => ?_)
  obtain ⟨hP1, hD1⟩ := hB
  obtain ⟨hP, hD⟩ := J _ hP1 hD1
  have hP : va_P D cl0 [(a0, .inr (8, [.int 2, .int 0, .int 1, .int 0, .int 0, .int 0, .ref a1, .ref a2, .int 0, .int 1, .ref a3, .ref a4, .ref a5, .ref a6, .ref a7, .ref a8, .ref a9, .int 0, .int 0, .int 0, .ref a10, .ref a11, .ref a12, .ref a13, .int 1, .int 1, .ref a14, .ref a15, .ref a16, .ref a17, .int 0, .int 0, .ref a18, .ref a19, .ref a20, .ref a21])), (a4, .inl (k 1, 9, .inr (.inl (tL [1, 0, 0, 0, 1, 0, 0, 0, 0] 0)))), (a10, .inl (k 1, 900, .inr (.inl (tL [1, 0, 0, 0, 1, 0, 0, 0, 0] 0)))), (a11, .inl (k 0, 100, .inl (tI [(-3)] 0))), (a12, .inl (k 0, 100, .inl (tI [(-3)] 0))), (a13, .inl (k 0, 100, .inl (tI [0] 0)))] H := hP
  have hD : va_D A [(a0, .inr (8, [.int 2, .int 0, .int 1, .int 0, .int 0, .int 0, .ref a1, .ref a2, .int 0, .int 1, .ref a3, .ref a4, .ref a5, .ref a6, .ref a7, .ref a8, .ref a9, .int 0, .int 0, .int 0, .ref a10, .ref a11, .ref a12, .ref a13, .int 1, .int 1, .ref a14, .ref a15, .ref a16, .ref a17, .int 0, .int 0, .ref a18, .ref a19, .ref a20, .ref a21])), (a4, .inl (k 1, 9, .inr (.inl (tL [1, 0, 0, 0, 1, 0, 0, 0, 0] 0)))), (a10, .inl (k 1, 900, .inr (.inl (tL [1, 0, 0, 0, 1, 0, 0, 0, 0] 0)))), (a11, .inl (k 0, 100, .inl (tI [(-3)] 0))), (a12, .inl (k 0, 100, .inl (tI [(-3)] 0))), (a13, .inl (k 0, 100, .inl (tI [0] 0)))] := hD
  refine lv_aload_n hx hb dX11_whole_4 rfl (lv_at hl 0 rfl) ?_
  refine va_get (D := D) (ci := 8) (v := .int 1) (C := RX11) (T := TX11) (N := 36) hx hb hU iX11 hown hK.1 hP 0 rfl rfl 25 (by decide) (hU _ w810) (fun _ h9 => h9) rfl dX11_whole_5 ?_
  refine lv_if_eq (tgt := 15) hx hb dX11_whole_8 (by decide) (fun cc => absurd cc (by decide +kernel)) (fun _ => ?_)
  refine lv_iconst (v := 1) hx hb dX11_whole_11 (by decide) ?_
  refine lv_goto (tgt := 16) hx hb dX11_whole_12 (by decide) ?_
  exact retI (v := 1) hx hb hr hlocks hS (show (1 : Int32) = F_whole by rfl) dX11_whole_16
abbrev BX11_in_10 (D : va_G) (k : Nat → ClassId) (x0 : Int64) (A : Nat → Prop) (r : Int32) (H : Heap) : Prop := (x0 < 0 ∧ 0 = r ∧ va_P D cl0 [] H ∧ va_D A []) ∨ (¬ (x0 < 0) ∧ 0 < x0 ∧ 0 = r ∧ va_P D cl0 [] H ∧ va_D A []) ∨ (¬ (x0 < 0) ∧ ¬ (0 < x0) ∧ 1 = r ∧ va_P D cl0 [] H ∧ va_D A [])
set_option maxHeartbeats 4000000 in
set_option maxRecDepth 100000 in
theorem cX11_in_10 (l : Launch) (D : va_G) (k : Nat → ClassId) (sz : Nat) (x0 : Int64) : Met l yX11_in (Cond.code yX11_in cX11_in 6 (some .boolean) :: uw) ({ frames := 0, cells := 0, slots := 0, locals := 0 }) (pC D k sz [.long x0, .long 0, .long 0] []) (qI (BX11_in_10 D k x0 (va_A [] sz)) (va_A [] sz)) 0 0 (va_A [] sz) := by
  refine begin_ (Qc := fun A => qI (BX11_in_10 D k x0 A) A) (by decide) (Nat.le_of_ble_eq_true rfl) ?_
  intro p e s m below meth c ls A hx hb hr hml hown hlocks hin hU hK hsz hP hD hS hA hl
  have hl : lv_has ls 6 [(0, .long x0), (2, .long 0), (4, .long 0)] := hl
  clear hsz
  refine lv_lload_n hx hb dX11_in_0 rfl (lv_at hl 0 rfl) ?_
  refine lv_lload_n hx hb dX11_in_1 rfl (lv_at hl 1 rfl) ?_
  refine W.lcmp hx hb dX11_in_2 ?_
  refine lv_if_lt (tgt := 17) hx hb dX11_in_3 (by decide) (fun c_1 => ?_) (fun c_1 => ?_)
  · skip
    have c_1 := (lg_cmp_lt _ _).mp c_1
    refine lv_iconst (v := 0) hx hb dX11_in_17 (by decide) ?_
    exact retZ (v := 0) hx hb hr hlocks hS (Or.inl ⟨c_1, rfl, hP, hD⟩) dX11_in_18 (by decide +kernel)
  · skip
    have c_1 := fun h9 => c_1 ((lg_cmp_lt _ _).mpr h9)
    refine lv_lload_n hx hb dX11_in_6 rfl (lv_at hl 0 rfl) ?_
    refine lv_lload hx hb dX11_in_7 (lv_at hl 2 rfl) ?_
    refine W.lcmp hx hb dX11_in_9 ?_
    refine lv_if_gt (tgt := 17) hx hb dX11_in_10 (by decide) (fun c_2 => ?_) (fun c_2 => ?_)
    · skip
      have c_2 := (lg_cmp_gt _ _).mp c_2
      refine lv_iconst (v := 0) hx hb dX11_in_17 (by decide) ?_
      exact retZ (v := 0) hx hb hr hlocks hS (Or.inr (Or.inl ⟨c_1, c_2, rfl, hP, hD⟩)) dX11_in_18 (by decide +kernel)
    · skip
      have c_2 := fun h9 => c_2 ((lg_cmp_gt _ _).mpr h9)
      refine lv_iconst (v := 1) hx hb dX11_in_13 (by decide) ?_
      refine lv_goto (tgt := 18) hx hb dX11_in_14 (by decide) ?_
      exact retZ (v := 1) hx hb hr hlocks hS (Or.inr (Or.inr (⟨c_1, c_2, rfl, hP, hD⟩))) dX11_in_18 (by decide +kernel)
abbrev BX11_isPlace_2 (D : va_G) (k : Nat → ClassId) (h0 h1 h2 h3 h4 h5 h6 h7 h8 h9 h10 h11 h12 h13 h14 h15 h16 h17 h18 h19 h20 h21 : Nat) (x0 : Int32) (A : Nat → Prop) (r : Int32) (H : Heap) : Prop := (x0.toInt64 < 0 ∧ 0 = r ∧ va_P D cl0 [(h0, .inr (8, [.int 2, .int 0, .int 1, .int 0, .int 0, .int 0, .ref h1, .ref h2, .int 0, .int 1, .ref h3, .ref h4, .ref h5, .ref h6, .ref h7, .ref h8, .ref h9, .int 0, .int 0, .int 0, .ref h10, .ref h11, .ref h12, .ref h13, .int 1, .int 1, .ref h14, .ref h15, .ref h16, .ref h17, .int 0, .int 0, .ref h18, .ref h19, .ref h20, .ref h21]))] H ∧ va_D A [(h0, .inr (8, [.int 2, .int 0, .int 1, .int 0, .int 0, .int 0, .ref h1, .ref h2, .int 0, .int 1, .ref h3, .ref h4, .ref h5, .ref h6, .ref h7, .ref h8, .ref h9, .int 0, .int 0, .int 0, .ref h10, .ref h11, .ref h12, .ref h13, .int 1, .int 1, .ref h14, .ref h15, .ref h16, .ref h17, .int 0, .int 0, .ref h18, .ref h19, .ref h20, .ref h21]))]) ∨ (¬ (x0.toInt64 < 0) ∧ 1 < x0.toInt64 ∧ 0 = r ∧ va_P D cl0 [(h0, .inr (8, [.int 2, .int 0, .int 1, .int 0, .int 0, .int 0, .ref h1, .ref h2, .int 0, .int 1, .ref h3, .ref h4, .ref h5, .ref h6, .ref h7, .ref h8, .ref h9, .int 0, .int 0, .int 0, .ref h10, .ref h11, .ref h12, .ref h13, .int 1, .int 1, .ref h14, .ref h15, .ref h16, .ref h17, .int 0, .int 0, .ref h18, .ref h19, .ref h20, .ref h21]))] H ∧ va_D A [(h0, .inr (8, [.int 2, .int 0, .int 1, .int 0, .int 0, .int 0, .ref h1, .ref h2, .int 0, .int 1, .ref h3, .ref h4, .ref h5, .ref h6, .ref h7, .ref h8, .ref h9, .int 0, .int 0, .int 0, .ref h10, .ref h11, .ref h12, .ref h13, .int 1, .int 1, .ref h14, .ref h15, .ref h16, .ref h17, .int 0, .int 0, .ref h18, .ref h19, .ref h20, .ref h21]))]) ∨ (¬ (x0.toInt64 < 0) ∧ ¬ (1 < x0.toInt64) ∧ 1 = r ∧ va_P D cl0 [(h0, .inr (8, [.int 2, .int 0, .int 1, .int 0, .int 0, .int 0, .ref h1, .ref h2, .int 0, .int 1, .ref h3, .ref h4, .ref h5, .ref h6, .ref h7, .ref h8, .ref h9, .int 0, .int 0, .int 0, .ref h10, .ref h11, .ref h12, .ref h13, .int 1, .int 1, .ref h14, .ref h15, .ref h16, .ref h17, .int 0, .int 0, .ref h18, .ref h19, .ref h20, .ref h21]))] H ∧ va_D A [(h0, .inr (8, [.int 2, .int 0, .int 1, .int 0, .int 0, .int 0, .ref h1, .ref h2, .int 0, .int 1, .ref h3, .ref h4, .ref h5, .ref h6, .ref h7, .ref h8, .ref h9, .int 0, .int 0, .int 0, .ref h10, .ref h11, .ref h12, .ref h13, .int 1, .int 1, .ref h14, .ref h15, .ref h16, .ref h17, .int 0, .int 0, .ref h18, .ref h19, .ref h20, .ref h21]))])
set_option maxHeartbeats 4000000 in
set_option maxRecDepth 100000 in
theorem cX11_isPlace_2 (l : Launch) (D : va_G) (k : Nat → ClassId) (sz : Nat) (h0 h1 h2 h3 h4 h5 h6 h7 h8 h9 h10 h11 h12 h13 h14 h15 h16 h17 h18 h19 h20 h21 : Nat) (x0 : Int32) : Met l yX11_isPlace (Cond.code yX11_isPlace cX11_isPlace 2 (some .boolean) :: uw) ({ frames := 1, cells := 0, slots := 0, locals := 25 }) (pC D k sz [.ref h0, .int x0] [(h0, .inr (8, [.int 2, .int 0, .int 1, .int 0, .int 0, .int 0, .ref h1, .ref h2, .int 0, .int 1, .ref h3, .ref h4, .ref h5, .ref h6, .ref h7, .ref h8, .ref h9, .int 0, .int 0, .int 0, .ref h10, .ref h11, .ref h12, .ref h13, .int 1, .int 1, .ref h14, .ref h15, .ref h16, .ref h17, .int 0, .int 0, .ref h18, .ref h19, .ref h20, .ref h21]))]) (qI (BX11_isPlace_2 D k h0 h1 h2 h3 h4 h5 h6 h7 h8 h9 h10 h11 h12 h13 h14 h15 h16 h17 h18 h19 h20 h21 x0 (va_A [(h0, .inr (8, [.int 2, .int 0, .int 1, .int 0, .int 0, .int 0, .ref h1, .ref h2, .int 0, .int 1, .ref h3, .ref h4, .ref h5, .ref h6, .ref h7, .ref h8, .ref h9, .int 0, .int 0, .int 0, .ref h10, .ref h11, .ref h12, .ref h13, .int 1, .int 1, .ref h14, .ref h15, .ref h16, .ref h17, .int 0, .int 0, .ref h18, .ref h19, .ref h20, .ref h21]))] sz)) (va_A [(h0, .inr (8, [.int 2, .int 0, .int 1, .int 0, .int 0, .int 0, .ref h1, .ref h2, .int 0, .int 1, .ref h3, .ref h4, .ref h5, .ref h6, .ref h7, .ref h8, .ref h9, .int 0, .int 0, .int 0, .ref h10, .ref h11, .ref h12, .ref h13, .int 1, .int 1, .ref h14, .ref h15, .ref h16, .ref h17, .int 0, .int 0, .ref h18, .ref h19, .ref h20, .ref h21]))] sz)) 0 0 (va_A [(h0, .inr (8, [.int 2, .int 0, .int 1, .int 0, .int 0, .int 0, .ref h1, .ref h2, .int 0, .int 1, .ref h3, .ref h4, .ref h5, .ref h6, .ref h7, .ref h8, .ref h9, .int 0, .int 0, .int 0, .ref h10, .ref h11, .ref h12, .ref h13, .int 1, .int 1, .ref h14, .ref h15, .ref h16, .ref h17, .int 0, .int 0, .ref h18, .ref h19, .ref h20, .ref h21]))] sz) := by
  refine begin_ (Qc := fun A => qI (BX11_isPlace_2 D k h0 h1 h2 h3 h4 h5 h6 h7 h8 h9 h10 h11 h12 h13 h14 h15 h16 h17 h18 h19 h20 h21 x0 A) A) (by decide) (Nat.le_of_ble_eq_true rfl) ?_
  intro p e s m below meth c ls A hx hb hr hml hown hlocks hin hU hK hsz hP hD hS hA hl
  have hl : lv_has ls 2 [(0, .ref h0), (1, .int x0)] := hl
  clear hsz
  refine lv_iload_n hx hb dX11_isPlace_0 rfl (lv_at hl 1 rfl) ?_
  refine lv_i2l (v := x0.toInt64) hx hb dX11_isPlace_1 rfl ?_
  refine lv_lconst (v := 0) hx hb dX11_isPlace_2 (by decide) ?_
  refine lv_aload_n hx hb dX11_isPlace_3 rfl (lv_at hl 0 rfl) ?_
  refine va_get (D := D) (ci := 8) (v := .int 2) (C := RX11) (T := TX11) (N := 36) hx hb hU iX11 hown hK.1 hP 0 rfl rfl 0 (by decide) (hU _ w785) (fun _ h9 => h9) rfl dX11_isPlace_4 ?_
  refine lv_iconst (v := 1) hx hb dX11_isPlace_7 (by decide) ?_
  refine lv_isub hx hb dX11_isPlace_8 (sv_i (v := 1) (by decide +kernel) ?_)
  refine lv_i2l (v := 1) hx hb dX11_isPlace_9 (by decide +kernel) ?_
  refine cI (rS (As := [.long x0.toInt64, .long 0, .long 1]) (rest := []) (wc := []) hx hb hml hown hU hK hP hD [] rfl (by decide) (cX11_in_5 l D k _ (x0.toInt64)) w901 w899 w900 w72 hdX11_in ⟨rfl, rfl⟩ ⟨Nat.le_of_ble_eq_true rfl, Nat.le_of_ble_eq_true rfl⟩ rfl hl.1 (Nat.le_of_ble_eq_true rfl) dX11_isPlace_10 ⟨Nat.le_of_ble_eq_true rfl, Nat.le_of_ble_eq_true rfl⟩) hP hD hS hA (wr := [(h0, .inr (8, [.int 2, .int 0, .int 1, .int 0, .int 0, .int 0, .ref h1, .ref h2, .int 0, .int 1, .ref h3, .ref h4, .ref h5, .ref h6, .ref h7, .ref h8, .ref h9, .int 0, .int 0, .int 0, .ref h10, .ref h11, .ref h12, .ref h13, .int 1, .int 1, .ref h14, .ref h15, .ref h16, .ref h17, .int 0, .int 0, .ref h18, .ref h19, .ref h20, .ref h21]))]) [] [0] rfl rfl (by decide) (by decide) (fun r1 H locs hB J hS => ?_)
  rcases hB with ⟨c_2, rfl, hP1, hD1⟩ | ⟨c_3, c_4, rfl, hP1, hD1⟩ | ⟨c_5, c_6, rfl, hP1, hD1⟩
  · skip
    obtain ⟨hP, hD⟩ := J _ hP1 hD1
    have hP : va_P D cl0 [(h0, .inr (8, [.int 2, .int 0, .int 1, .int 0, .int 0, .int 0, .ref h1, .ref h2, .int 0, .int 1, .ref h3, .ref h4, .ref h5, .ref h6, .ref h7, .ref h8, .ref h9, .int 0, .int 0, .int 0, .ref h10, .ref h11, .ref h12, .ref h13, .int 1, .int 1, .ref h14, .ref h15, .ref h16, .ref h17, .int 0, .int 0, .ref h18, .ref h19, .ref h20, .ref h21]))] H := hP
    have hD : va_D A [(h0, .inr (8, [.int 2, .int 0, .int 1, .int 0, .int 0, .int 0, .ref h1, .ref h2, .int 0, .int 1, .ref h3, .ref h4, .ref h5, .ref h6, .ref h7, .ref h8, .ref h9, .int 0, .int 0, .int 0, .ref h10, .ref h11, .ref h12, .ref h13, .int 1, .int 1, .ref h14, .ref h15, .ref h16, .ref h17, .int 0, .int 0, .ref h18, .ref h19, .ref h20, .ref h21]))] := hD
    exact retZ (v := 0) hx hb hr hlocks hS (Or.inl ⟨c_2, rfl, hP, hD⟩) dX11_isPlace_13 (by decide +kernel)
  · skip
    obtain ⟨hP, hD⟩ := J _ hP1 hD1
    have hP : va_P D cl0 [(h0, .inr (8, [.int 2, .int 0, .int 1, .int 0, .int 0, .int 0, .ref h1, .ref h2, .int 0, .int 1, .ref h3, .ref h4, .ref h5, .ref h6, .ref h7, .ref h8, .ref h9, .int 0, .int 0, .int 0, .ref h10, .ref h11, .ref h12, .ref h13, .int 1, .int 1, .ref h14, .ref h15, .ref h16, .ref h17, .int 0, .int 0, .ref h18, .ref h19, .ref h20, .ref h21]))] H := hP
    have hD : va_D A [(h0, .inr (8, [.int 2, .int 0, .int 1, .int 0, .int 0, .int 0, .ref h1, .ref h2, .int 0, .int 1, .ref h3, .ref h4, .ref h5, .ref h6, .ref h7, .ref h8, .ref h9, .int 0, .int 0, .int 0, .ref h10, .ref h11, .ref h12, .ref h13, .int 1, .int 1, .ref h14, .ref h15, .ref h16, .ref h17, .int 0, .int 0, .ref h18, .ref h19, .ref h20, .ref h21]))] := hD
    exact retZ (v := 0) hx hb hr hlocks hS (Or.inr (Or.inl ⟨c_3, c_4, rfl, hP, hD⟩)) dX11_isPlace_13 (by decide +kernel)
  · skip
    obtain ⟨hP, hD⟩ := J _ hP1 hD1
    have hP : va_P D cl0 [(h0, .inr (8, [.int 2, .int 0, .int 1, .int 0, .int 0, .int 0, .ref h1, .ref h2, .int 0, .int 1, .ref h3, .ref h4, .ref h5, .ref h6, .ref h7, .ref h8, .ref h9, .int 0, .int 0, .int 0, .ref h10, .ref h11, .ref h12, .ref h13, .int 1, .int 1, .ref h14, .ref h15, .ref h16, .ref h17, .int 0, .int 0, .ref h18, .ref h19, .ref h20, .ref h21]))] H := hP
    have hD : va_D A [(h0, .inr (8, [.int 2, .int 0, .int 1, .int 0, .int 0, .int 0, .ref h1, .ref h2, .int 0, .int 1, .ref h3, .ref h4, .ref h5, .ref h6, .ref h7, .ref h8, .ref h9, .int 0, .int 0, .int 0, .ref h10, .ref h11, .ref h12, .ref h13, .int 1, .int 1, .ref h14, .ref h15, .ref h16, .ref h17, .int 0, .int 0, .ref h18, .ref h19, .ref h20, .ref h21]))] := hD
    exact retZ (v := 1) hx hb hr hlocks hS (Or.inr (Or.inr (⟨c_5, c_6, rfl, hP, hD⟩))) dX11_isPlace_13 (by decide +kernel)
abbrev BX11_element_1 (D : va_G) (k : Nat → ClassId) (a0 a4 a10 a11 a12 a13 a1 a2 a3 a5 a6 a7 a8 a9 a14 a15 a16 a17 a18 a19 a20 a21 : Nat) (x0 : Int32) (x1 : Int32) (x2 : Int32) (A : Nat → Prop) (r : Int64) (H : Heap) : Prop := r = F_element x0 x1 x2
set_option maxHeartbeats 4000000 in
set_option maxRecDepth 100000 in
theorem cX11_element_1 (l : Launch) (D : va_G) (k : Nat → ClassId) (sz : Nat) (a0 a4 a10 a11 a12 a13 a1 a2 a3 a5 a6 a7 a8 a9 a14 a15 a16 a17 a18 a19 a20 a21 : Nat) (x0 : Int32) (x1 : Int32) (x2 : Int32) : Met l yX11_element (Cond.code yX11_element cX11_element 4 (some .long) :: uw) ({ frames := 3, cells := 0, slots := 0, locals := 66 }) (pC D k sz [.ref a0, .int x0, .int x1, .int x2] [(a0, .inr (8, [.int 2, .int 0, .int 1, .int 0, .int 0, .int 0, .ref a1, .ref a2, .int 0, .int 0, .ref a3, .ref a4, .ref a5, .ref a6, .ref a7, .ref a8, .ref a9, .int 0, .int 0, .int 0, .ref a10, .ref a11, .ref a12, .ref a13, .int 0, .int 0, .ref a14, .ref a15, .ref a16, .ref a17, .int 0, .int 0, .ref a18, .ref a19, .ref a20, .ref a21])), (a4, .inl (k 1, 9, .inr (.inl (tL [] 0)))), (a10, .inl (k 1, 900, .inr (.inl (tL [] 0)))), (a11, .inl (k 0, 100, .inl (tI [] 0))), (a12, .inl (k 0, 100, .inl (tI [] 0))), (a13, .inl (k 0, 100, .inl (tI [] 0)))]) (qL (BX11_element_1 D k a0 a4 a10 a11 a12 a13 a1 a2 a3 a5 a6 a7 a8 a9 a14 a15 a16 a17 a18 a19 a20 a21 x0 x1 x2 (va_A [(a0, .inr (8, [.int 2, .int 0, .int 1, .int 0, .int 0, .int 0, .ref a1, .ref a2, .int 0, .int 0, .ref a3, .ref a4, .ref a5, .ref a6, .ref a7, .ref a8, .ref a9, .int 0, .int 0, .int 0, .ref a10, .ref a11, .ref a12, .ref a13, .int 0, .int 0, .ref a14, .ref a15, .ref a16, .ref a17, .int 0, .int 0, .ref a18, .ref a19, .ref a20, .ref a21])), (a4, .inl (k 1, 9, .inr (.inl (tL [] 0)))), (a10, .inl (k 1, 900, .inr (.inl (tL [] 0)))), (a11, .inl (k 0, 100, .inl (tI [] 0))), (a12, .inl (k 0, 100, .inl (tI [] 0))), (a13, .inl (k 0, 100, .inl (tI [] 0)))] sz)) (va_A [(a0, .inr (8, [.int 2, .int 0, .int 1, .int 0, .int 0, .int 0, .ref a1, .ref a2, .int 0, .int 0, .ref a3, .ref a4, .ref a5, .ref a6, .ref a7, .ref a8, .ref a9, .int 0, .int 0, .int 0, .ref a10, .ref a11, .ref a12, .ref a13, .int 0, .int 0, .ref a14, .ref a15, .ref a16, .ref a17, .int 0, .int 0, .ref a18, .ref a19, .ref a20, .ref a21])), (a4, .inl (k 1, 9, .inr (.inl (tL [] 0)))), (a10, .inl (k 1, 900, .inr (.inl (tL [] 0)))), (a11, .inl (k 0, 100, .inl (tI [] 0))), (a12, .inl (k 0, 100, .inl (tI [] 0))), (a13, .inl (k 0, 100, .inl (tI [] 0)))] sz)) 0 0 (va_A [(a0, .inr (8, [.int 2, .int 0, .int 1, .int 0, .int 0, .int 0, .ref a1, .ref a2, .int 0, .int 0, .ref a3, .ref a4, .ref a5, .ref a6, .ref a7, .ref a8, .ref a9, .int 0, .int 0, .int 0, .ref a10, .ref a11, .ref a12, .ref a13, .int 0, .int 0, .ref a14, .ref a15, .ref a16, .ref a17, .int 0, .int 0, .ref a18, .ref a19, .ref a20, .ref a21])), (a4, .inl (k 1, 9, .inr (.inl (tL [] 0)))), (a10, .inl (k 1, 900, .inr (.inl (tL [] 0)))), (a11, .inl (k 0, 100, .inl (tI [] 0))), (a12, .inl (k 0, 100, .inl (tI [] 0))), (a13, .inl (k 0, 100, .inl (tI [] 0)))] sz) := by
  refine begin_ (Qc := fun A => qL (BX11_element_1 D k a0 a4 a10 a11 a12 a13 a1 a2 a3 a5 a6 a7 a8 a9 a14 a15 a16 a17 a18 a19 a20 a21 x0 x1 x2 A) A) (by decide) (Nat.le_of_ble_eq_true rfl) ?_
  intro p e s m below meth c ls A hx hb hr hml hown hlocks hin hU hK hsz hP hD hS hA hl
  have hl : lv_has ls 4 [(0, .ref a0), (1, .int x0), (2, .int x1), (3, .int x2)] := hl
  clear hsz
  refine lv_aload_n hx hb dX11_element_0 rfl (lv_at hl 0 rfl) ?_
  refine cV (rV (q0 := 0) (ci := 8) (As := []) (rest := []) (wc := [(a0, .inr (8, [.int 2, .int 0, .int 1, .int 0, .int 0, .int 0, .ref a1, .ref a2, .int 0, .int 0, .ref a3, .ref a4, .ref a5, .ref a6, .ref a7, .ref a8, .ref a9, .int 0, .int 0, .int 0, .ref a10, .ref a11, .ref a12, .ref a13, .int 0, .int 0, .ref a14, .ref a15, .ref a16, .ref a17, .int 0, .int 0, .ref a18, .ref a19, .ref a20, .ref a21])), (a4, .inl (k 1, 9, .inr (.inl (tL [] 0)))), (a10, .inl (k 1, 900, .inr (.inl (tL [] 0)))), (a11, .inl (k 0, 100, .inl (tI [] 0))), (a12, .inl (k 0, 100, .inl (tI [] 0))), (a13, .inl (k 0, 100, .inl (tI [] 0)))]) hx hb hml hown hU hK hP hD rfl rfl [0, 1, 2, 3, 4, 5] rfl (by decide) (cX11_findList_1 l D k _ a0 a4 a10 a11 a12 a13 a1 a2 a3 a5 a6 a7 a8 a9 a14 a15 a16 a17 a18 a19 a20 a21) w1039 w1036 w1038 w47 w72 hdX11_findList ⟨rfl, rfl⟩ ⟨Nat.le_of_ble_eq_true rfl, Nat.le_of_ble_eq_true rfl⟩ rfl hl.1 (Nat.le_of_ble_eq_true rfl) dX11_element_1 ⟨Nat.le_of_ble_eq_true rfl, Nat.le_of_ble_eq_true rfl⟩) hP hD hS hA (wr := []) [0, 1, 2, 3, 4, 5] [] rfl rfl (by decide) (by decide) (fun H locs hB J hS => ?_)
  obtain ⟨hP1, hD1⟩ := hB
  obtain ⟨hP, hD⟩ := J _ hP1 hD1
  have hP : va_P D cl0 [(a0, .inr (8, [.int 2, .int 0, .int 1, .int 0, .int 0, .int 0, .ref a1, .ref a2, .int 0, .int 1, .ref a3, .ref a4, .ref a5, .ref a6, .ref a7, .ref a8, .ref a9, .int 0, .int 0, .int 0, .ref a10, .ref a11, .ref a12, .ref a13, .int 1, .int 1, .ref a14, .ref a15, .ref a16, .ref a17, .int 0, .int 0, .ref a18, .ref a19, .ref a20, .ref a21])), (a4, .inl (k 1, 9, .inr (.inl (tL [1, 0, 0, 0, 1, 0, 0, 0, 0] 0)))), (a10, .inl (k 1, 900, .inr (.inl (tL [1, 0, 0, 0, 1, 0, 0, 0, 0] 0)))), (a11, .inl (k 0, 100, .inl (tI [(-3)] 0))), (a12, .inl (k 0, 100, .inl (tI [(-3)] 0))), (a13, .inl (k 0, 100, .inl (tI [0] 0)))] H := hP
  have hD : va_D A [(a0, .inr (8, [.int 2, .int 0, .int 1, .int 0, .int 0, .int 0, .ref a1, .ref a2, .int 0, .int 1, .ref a3, .ref a4, .ref a5, .ref a6, .ref a7, .ref a8, .ref a9, .int 0, .int 0, .int 0, .ref a10, .ref a11, .ref a12, .ref a13, .int 1, .int 1, .ref a14, .ref a15, .ref a16, .ref a17, .int 0, .int 0, .ref a18, .ref a19, .ref a20, .ref a21])), (a4, .inl (k 1, 9, .inr (.inl (tL [1, 0, 0, 0, 1, 0, 0, 0, 0] 0)))), (a10, .inl (k 1, 900, .inr (.inl (tL [1, 0, 0, 0, 1, 0, 0, 0, 0] 0)))), (a11, .inl (k 0, 100, .inl (tI [(-3)] 0))), (a12, .inl (k 0, 100, .inl (tI [(-3)] 0))), (a13, .inl (k 0, 100, .inl (tI [0] 0)))] := hD
  refine lv_iload_n hx hb dX11_element_4 rfl (lv_at hl 1 rfl) ?_
  refine lv_i2l (v := x0.toInt64) hx hb dX11_element_5 rfl ?_
  refine lv_lconst (v := 0) hx hb dX11_element_6 (by decide) ?_
  refine lv_aload_n hx hb dX11_element_7 rfl (lv_at hl 0 rfl) ?_
  refine va_get (D := D) (ci := 8) (v := .int 1) (C := RX11) (T := TX11) (N := 36) hx hb hU iX11 hown hK.1 hP 0 rfl rfl 24 (by decide) (hU _ w809) (fun _ h9 => h9) rfl dX11_element_8 ?_
  refine lv_iconst (v := 1) hx hb dX11_element_11 (by decide) ?_
  refine lv_isub hx hb dX11_element_12 (sv_i (v := 0) (by decide +kernel) ?_)
  refine lv_i2l (v := 0) hx hb dX11_element_13 (by decide +kernel) ?_
  refine cI (rS (As := [.long x0.toInt64, .long 0, .long 0]) (rest := []) (wc := []) hx hb hml hown hU hK hP hD [] rfl (by decide) (cX11_in_10 l D k _ (x0.toInt64)) w901 w899 w900 w72 hdX11_in ⟨rfl, rfl⟩ ⟨Nat.le_of_ble_eq_true rfl, Nat.le_of_ble_eq_true rfl⟩ rfl hl.1 (Nat.le_of_ble_eq_true rfl) dX11_element_14 ⟨Nat.le_of_ble_eq_true rfl, Nat.le_of_ble_eq_true rfl⟩) hP hD hS hA (wr := [(a0, .inr (8, [.int 2, .int 0, .int 1, .int 0, .int 0, .int 0, .ref a1, .ref a2, .int 0, .int 1, .ref a3, .ref a4, .ref a5, .ref a6, .ref a7, .ref a8, .ref a9, .int 0, .int 0, .int 0, .ref a10, .ref a11, .ref a12, .ref a13, .int 1, .int 1, .ref a14, .ref a15, .ref a16, .ref a17, .int 0, .int 0, .ref a18, .ref a19, .ref a20, .ref a21])), (a4, .inl (k 1, 9, .inr (.inl (tL [1, 0, 0, 0, 1, 0, 0, 0, 0] 0)))), (a10, .inl (k 1, 900, .inr (.inl (tL [1, 0, 0, 0, 1, 0, 0, 0, 0] 0)))), (a11, .inl (k 0, 100, .inl (tI [(-3)] 0))), (a12, .inl (k 0, 100, .inl (tI [(-3)] 0))), (a13, .inl (k 0, 100, .inl (tI [0] 0)))]) [] [0, 1, 2, 3, 4, 5] rfl rfl (by decide) (by decide) (fun r2 H locs hB J hS => ?_)
  rcases hB with ⟨c_3, rfl, hP1, hD1⟩ | ⟨c_4, c_5, rfl, hP1, hD1⟩ | ⟨c_6, c_7, rfl, hP1, hD1⟩
  · skip
    obtain ⟨hP, hD⟩ := J _ hP1 hD1
    have hP : va_P D cl0 [(a0, .inr (8, [.int 2, .int 0, .int 1, .int 0, .int 0, .int 0, .ref a1, .ref a2, .int 0, .int 1, .ref a3, .ref a4, .ref a5, .ref a6, .ref a7, .ref a8, .ref a9, .int 0, .int 0, .int 0, .ref a10, .ref a11, .ref a12, .ref a13, .int 1, .int 1, .ref a14, .ref a15, .ref a16, .ref a17, .int 0, .int 0, .ref a18, .ref a19, .ref a20, .ref a21])), (a4, .inl (k 1, 9, .inr (.inl (tL [1, 0, 0, 0, 1, 0, 0, 0, 0] 0)))), (a10, .inl (k 1, 900, .inr (.inl (tL [1, 0, 0, 0, 1, 0, 0, 0, 0] 0)))), (a11, .inl (k 0, 100, .inl (tI [(-3)] 0))), (a12, .inl (k 0, 100, .inl (tI [(-3)] 0))), (a13, .inl (k 0, 100, .inl (tI [0] 0)))] H := hP
    have hD : va_D A [(a0, .inr (8, [.int 2, .int 0, .int 1, .int 0, .int 0, .int 0, .ref a1, .ref a2, .int 0, .int 1, .ref a3, .ref a4, .ref a5, .ref a6, .ref a7, .ref a8, .ref a9, .int 0, .int 0, .int 0, .ref a10, .ref a11, .ref a12, .ref a13, .int 1, .int 1, .ref a14, .ref a15, .ref a16, .ref a17, .int 0, .int 0, .ref a18, .ref a19, .ref a20, .ref a21])), (a4, .inl (k 1, 9, .inr (.inl (tL [1, 0, 0, 0, 1, 0, 0, 0, 0] 0)))), (a10, .inl (k 1, 900, .inr (.inl (tL [1, 0, 0, 0, 1, 0, 0, 0, 0] 0)))), (a11, .inl (k 0, 100, .inl (tI [(-3)] 0))), (a12, .inl (k 0, 100, .inl (tI [(-3)] 0))), (a13, .inl (k 0, 100, .inl (tI [0] 0)))] := hD
    refine lv_if_eq (tgt := 54) hx hb dX11_element_17 (by decide) (fun _ => ?_) (fun cc => absurd (by decide +kernel) cc)
    refine lv_iconst (v := (-1)) hx hb dX11_element_54 (by decide) ?_
    refine cL (rS (As := [.int (-1)]) (rest := []) (wc := []) hx hb hml hown hU hK hP hD [] rfl (by decide) (cX11_far_1 l D k _ ) w1062 w1060 w1061 w72 hdX11_far ⟨rfl, rfl⟩ ⟨Nat.le_of_ble_eq_true rfl, Nat.le_of_ble_eq_true rfl⟩ rfl hl.1 (Nat.le_of_ble_eq_true rfl) dX11_element_55 ⟨Nat.le_of_ble_eq_true rfl, Nat.le_of_ble_eq_true rfl⟩) hP hD hS hA (wr := [(a0, .inr (8, [.int 2, .int 0, .int 1, .int 0, .int 0, .int 0, .ref a1, .ref a2, .int 0, .int 1, .ref a3, .ref a4, .ref a5, .ref a6, .ref a7, .ref a8, .ref a9, .int 0, .int 0, .int 0, .ref a10, .ref a11, .ref a12, .ref a13, .int 1, .int 1, .ref a14, .ref a15, .ref a16, .ref a17, .int 0, .int 0, .ref a18, .ref a19, .ref a20, .ref a21])), (a4, .inl (k 1, 9, .inr (.inl (tL [1, 0, 0, 0, 1, 0, 0, 0, 0] 0)))), (a10, .inl (k 1, 900, .inr (.inl (tL [1, 0, 0, 0, 1, 0, 0, 0, 0] 0)))), (a11, .inl (k 0, 100, .inl (tI [(-3)] 0))), (a12, .inl (k 0, 100, .inl (tI [(-3)] 0))), (a13, .inl (k 0, 100, .inl (tI [0] 0)))]) [] [0, 1, 2, 3, 4, 5] rfl rfl (by decide) (by decide) (fun r8 H locs hB J hS => ?_)
    obtain ⟨rfl, hP1, hD1⟩ := hB
    obtain ⟨hP, hD⟩ := J _ hP1 hD1
    have hP : va_P D cl0 [(a0, .inr (8, [.int 2, .int 0, .int 1, .int 0, .int 0, .int 0, .ref a1, .ref a2, .int 0, .int 1, .ref a3, .ref a4, .ref a5, .ref a6, .ref a7, .ref a8, .ref a9, .int 0, .int 0, .int 0, .ref a10, .ref a11, .ref a12, .ref a13, .int 1, .int 1, .ref a14, .ref a15, .ref a16, .ref a17, .int 0, .int 0, .ref a18, .ref a19, .ref a20, .ref a21])), (a4, .inl (k 1, 9, .inr (.inl (tL [1, 0, 0, 0, 1, 0, 0, 0, 0] 0)))), (a10, .inl (k 1, 900, .inr (.inl (tL [1, 0, 0, 0, 1, 0, 0, 0, 0] 0)))), (a11, .inl (k 0, 100, .inl (tI [(-3)] 0))), (a12, .inl (k 0, 100, .inl (tI [(-3)] 0))), (a13, .inl (k 0, 100, .inl (tI [0] 0)))] H := hP
    have hD : va_D A [(a0, .inr (8, [.int 2, .int 0, .int 1, .int 0, .int 0, .int 0, .ref a1, .ref a2, .int 0, .int 1, .ref a3, .ref a4, .ref a5, .ref a6, .ref a7, .ref a8, .ref a9, .int 0, .int 0, .int 0, .ref a10, .ref a11, .ref a12, .ref a13, .int 1, .int 1, .ref a14, .ref a15, .ref a16, .ref a17, .int 0, .int 0, .ref a18, .ref a19, .ref a20, .ref a21])), (a4, .inl (k 1, 9, .inr (.inl (tL [1, 0, 0, 0, 1, 0, 0, 0, 0] 0)))), (a10, .inl (k 1, 900, .inr (.inl (tL [1, 0, 0, 0, 1, 0, 0, 0, 0] 0)))), (a11, .inl (k 0, 100, .inl (tI [(-3)] 0))), (a12, .inl (k 0, 100, .inl (tI [(-3)] 0))), (a13, .inl (k 0, 100, .inl (tI [0] 0)))] := hD
    exact retL (v := (-4000000000000000001)) hx hb hr hlocks hS (show ((-4000000000000000001) : Int64) = F_element x0 x1 x2 by first | decide +kernel | (have f0 := dv_lt (x := x0.toInt) (y := 0) c_3 (wd x0) (by decide +kernel); unfold F_element; (repeat (first | rw [if_pos (by omega)] | rw [if_neg (by omega)])))) dX11_element_58
  · skip
    obtain ⟨hP, hD⟩ := J _ hP1 hD1
    have hP : va_P D cl0 [(a0, .inr (8, [.int 2, .int 0, .int 1, .int 0, .int 0, .int 0, .ref a1, .ref a2, .int 0, .int 1, .ref a3, .ref a4, .ref a5, .ref a6, .ref a7, .ref a8, .ref a9, .int 0, .int 0, .int 0, .ref a10, .ref a11, .ref a12, .ref a13, .int 1, .int 1, .ref a14, .ref a15, .ref a16, .ref a17, .int 0, .int 0, .ref a18, .ref a19, .ref a20, .ref a21])), (a4, .inl (k 1, 9, .inr (.inl (tL [1, 0, 0, 0, 1, 0, 0, 0, 0] 0)))), (a10, .inl (k 1, 900, .inr (.inl (tL [1, 0, 0, 0, 1, 0, 0, 0, 0] 0)))), (a11, .inl (k 0, 100, .inl (tI [(-3)] 0))), (a12, .inl (k 0, 100, .inl (tI [(-3)] 0))), (a13, .inl (k 0, 100, .inl (tI [0] 0)))] H := hP
    have hD : va_D A [(a0, .inr (8, [.int 2, .int 0, .int 1, .int 0, .int 0, .int 0, .ref a1, .ref a2, .int 0, .int 1, .ref a3, .ref a4, .ref a5, .ref a6, .ref a7, .ref a8, .ref a9, .int 0, .int 0, .int 0, .ref a10, .ref a11, .ref a12, .ref a13, .int 1, .int 1, .ref a14, .ref a15, .ref a16, .ref a17, .int 0, .int 0, .ref a18, .ref a19, .ref a20, .ref a21])), (a4, .inl (k 1, 9, .inr (.inl (tL [1, 0, 0, 0, 1, 0, 0, 0, 0] 0)))), (a10, .inl (k 1, 900, .inr (.inl (tL [1, 0, 0, 0, 1, 0, 0, 0, 0] 0)))), (a11, .inl (k 0, 100, .inl (tI [(-3)] 0))), (a12, .inl (k 0, 100, .inl (tI [(-3)] 0))), (a13, .inl (k 0, 100, .inl (tI [0] 0)))] := hD
    refine lv_if_eq (tgt := 54) hx hb dX11_element_17 (by decide) (fun _ => ?_) (fun cc => absurd (by decide +kernel) cc)
    refine lv_iconst (v := (-1)) hx hb dX11_element_54 (by decide) ?_
    refine cL (rS (As := [.int (-1)]) (rest := []) (wc := []) hx hb hml hown hU hK hP hD [] rfl (by decide) (cX11_far_1 l D k _ ) w1062 w1060 w1061 w72 hdX11_far ⟨rfl, rfl⟩ ⟨Nat.le_of_ble_eq_true rfl, Nat.le_of_ble_eq_true rfl⟩ rfl hl.1 (Nat.le_of_ble_eq_true rfl) dX11_element_55 ⟨Nat.le_of_ble_eq_true rfl, Nat.le_of_ble_eq_true rfl⟩) hP hD hS hA (wr := [(a0, .inr (8, [.int 2, .int 0, .int 1, .int 0, .int 0, .int 0, .ref a1, .ref a2, .int 0, .int 1, .ref a3, .ref a4, .ref a5, .ref a6, .ref a7, .ref a8, .ref a9, .int 0, .int 0, .int 0, .ref a10, .ref a11, .ref a12, .ref a13, .int 1, .int 1, .ref a14, .ref a15, .ref a16, .ref a17, .int 0, .int 0, .ref a18, .ref a19, .ref a20, .ref a21])), (a4, .inl (k 1, 9, .inr (.inl (tL [1, 0, 0, 0, 1, 0, 0, 0, 0] 0)))), (a10, .inl (k 1, 900, .inr (.inl (tL [1, 0, 0, 0, 1, 0, 0, 0, 0] 0)))), (a11, .inl (k 0, 100, .inl (tI [(-3)] 0))), (a12, .inl (k 0, 100, .inl (tI [(-3)] 0))), (a13, .inl (k 0, 100, .inl (tI [0] 0)))]) [] [0, 1, 2, 3, 4, 5] rfl rfl (by decide) (by decide) (fun r9 H locs hB J hS => ?_)
    obtain ⟨rfl, hP1, hD1⟩ := hB
    obtain ⟨hP, hD⟩ := J _ hP1 hD1
    have hP : va_P D cl0 [(a0, .inr (8, [.int 2, .int 0, .int 1, .int 0, .int 0, .int 0, .ref a1, .ref a2, .int 0, .int 1, .ref a3, .ref a4, .ref a5, .ref a6, .ref a7, .ref a8, .ref a9, .int 0, .int 0, .int 0, .ref a10, .ref a11, .ref a12, .ref a13, .int 1, .int 1, .ref a14, .ref a15, .ref a16, .ref a17, .int 0, .int 0, .ref a18, .ref a19, .ref a20, .ref a21])), (a4, .inl (k 1, 9, .inr (.inl (tL [1, 0, 0, 0, 1, 0, 0, 0, 0] 0)))), (a10, .inl (k 1, 900, .inr (.inl (tL [1, 0, 0, 0, 1, 0, 0, 0, 0] 0)))), (a11, .inl (k 0, 100, .inl (tI [(-3)] 0))), (a12, .inl (k 0, 100, .inl (tI [(-3)] 0))), (a13, .inl (k 0, 100, .inl (tI [0] 0)))] H := hP
    have hD : va_D A [(a0, .inr (8, [.int 2, .int 0, .int 1, .int 0, .int 0, .int 0, .ref a1, .ref a2, .int 0, .int 1, .ref a3, .ref a4, .ref a5, .ref a6, .ref a7, .ref a8, .ref a9, .int 0, .int 0, .int 0, .ref a10, .ref a11, .ref a12, .ref a13, .int 1, .int 1, .ref a14, .ref a15, .ref a16, .ref a17, .int 0, .int 0, .ref a18, .ref a19, .ref a20, .ref a21])), (a4, .inl (k 1, 9, .inr (.inl (tL [1, 0, 0, 0, 1, 0, 0, 0, 0] 0)))), (a10, .inl (k 1, 900, .inr (.inl (tL [1, 0, 0, 0, 1, 0, 0, 0, 0] 0)))), (a11, .inl (k 0, 100, .inl (tI [(-3)] 0))), (a12, .inl (k 0, 100, .inl (tI [(-3)] 0))), (a13, .inl (k 0, 100, .inl (tI [0] 0)))] := hD
    exact retL (v := (-4000000000000000001)) hx hb hr hlocks hS (show ((-4000000000000000001) : Int64) = F_element x0 x1 x2 by first | decide +kernel | (have f0 := dv_nlt (x := x0.toInt) (y := 0) c_4 (wd x0) (by decide +kernel); have f1 := dv_lt (x := 0) (y := x0.toInt) c_5 (by decide +kernel) (wd x0); unfold F_element; (repeat (first | rw [if_pos (by omega)] | rw [if_neg (by omega)])))) dX11_element_58
  · skip
    obtain ⟨hP, hD⟩ := J _ hP1 hD1
    have hP : va_P D cl0 [(a0, .inr (8, [.int 2, .int 0, .int 1, .int 0, .int 0, .int 0, .ref a1, .ref a2, .int 0, .int 1, .ref a3, .ref a4, .ref a5, .ref a6, .ref a7, .ref a8, .ref a9, .int 0, .int 0, .int 0, .ref a10, .ref a11, .ref a12, .ref a13, .int 1, .int 1, .ref a14, .ref a15, .ref a16, .ref a17, .int 0, .int 0, .ref a18, .ref a19, .ref a20, .ref a21])), (a4, .inl (k 1, 9, .inr (.inl (tL [1, 0, 0, 0, 1, 0, 0, 0, 0] 0)))), (a10, .inl (k 1, 900, .inr (.inl (tL [1, 0, 0, 0, 1, 0, 0, 0, 0] 0)))), (a11, .inl (k 0, 100, .inl (tI [(-3)] 0))), (a12, .inl (k 0, 100, .inl (tI [(-3)] 0))), (a13, .inl (k 0, 100, .inl (tI [0] 0)))] H := hP
    have hD : va_D A [(a0, .inr (8, [.int 2, .int 0, .int 1, .int 0, .int 0, .int 0, .ref a1, .ref a2, .int 0, .int 1, .ref a3, .ref a4, .ref a5, .ref a6, .ref a7, .ref a8, .ref a9, .int 0, .int 0, .int 0, .ref a10, .ref a11, .ref a12, .ref a13, .int 1, .int 1, .ref a14, .ref a15, .ref a16, .ref a17, .int 0, .int 0, .ref a18, .ref a19, .ref a20, .ref a21])), (a4, .inl (k 1, 9, .inr (.inl (tL [1, 0, 0, 0, 1, 0, 0, 0, 0] 0)))), (a10, .inl (k 1, 900, .inr (.inl (tL [1, 0, 0, 0, 1, 0, 0, 0, 0] 0)))), (a11, .inl (k 0, 100, .inl (tI [(-3)] 0))), (a12, .inl (k 0, 100, .inl (tI [(-3)] 0))), (a13, .inl (k 0, 100, .inl (tI [0] 0)))] := hD
    refine lv_if_eq (tgt := 54) hx hb dX11_element_17 (by decide) (fun cc => absurd cc (by decide +kernel)) (fun _ => ?_)
    refine lv_aload_n hx hb dX11_element_20 rfl (lv_at hl 0 rfl) ?_
    refine lv_iload_n hx hb dX11_element_21 rfl (lv_at hl 2 rfl) ?_
    refine cI (rV (q0 := 0) (ci := 8) (As := [.int x1]) (rest := []) (wc := [(a0, .inr (8, [.int 2, .int 0, .int 1, .int 0, .int 0, .int 0, .ref a1, .ref a2, .int 0, .int 1, .ref a3, .ref a4, .ref a5, .ref a6, .ref a7, .ref a8, .ref a9, .int 0, .int 0, .int 0, .ref a10, .ref a11, .ref a12, .ref a13, .int 1, .int 1, .ref a14, .ref a15, .ref a16, .ref a17, .int 0, .int 0, .ref a18, .ref a19, .ref a20, .ref a21]))]) hx hb hml hown hU hK hP hD rfl rfl [0] rfl (by decide) (cX11_isPlace_2 l D k _ a0 a1 a2 a3 a4 a5 a6 a7 a8 a9 a10 a11 a12 a13 a14 a15 a16 a17 a18 a19 a20 a21 (x1)) w909 w906 w908 w26 w72 hdX11_isPlace ⟨rfl, rfl⟩ ⟨Nat.le_of_ble_eq_true rfl, Nat.le_of_ble_eq_true rfl⟩ rfl hl.1 (Nat.le_of_ble_eq_true rfl) dX11_element_22 ⟨Nat.le_of_ble_eq_true rfl, Nat.le_of_ble_eq_true rfl⟩) hP hD hS hA (wr := [(a4, .inl (k 1, 9, .inr (.inl (tL [1, 0, 0, 0, 1, 0, 0, 0, 0] 0)))), (a10, .inl (k 1, 900, .inr (.inl (tL [1, 0, 0, 0, 1, 0, 0, 0, 0] 0)))), (a11, .inl (k 0, 100, .inl (tI [(-3)] 0))), (a12, .inl (k 0, 100, .inl (tI [(-3)] 0))), (a13, .inl (k 0, 100, .inl (tI [0] 0)))]) [0] [1, 2, 3, 4, 5] rfl rfl (by decide) (by decide) (fun r10 H locs hB J hS => ?_)
    rcases hB with ⟨c_11, rfl, hP1, hD1⟩ | ⟨c_12, c_13, rfl, hP1, hD1⟩ | ⟨c_14, c_15, rfl, hP1, hD1⟩
    · skip
      obtain ⟨hP, hD⟩ := J _ hP1 hD1
      have hP : va_P D cl0 [(a4, .inl (k 1, 9, .inr (.inl (tL [1, 0, 0, 0, 1, 0, 0, 0, 0] 0)))), (a10, .inl (k 1, 900, .inr (.inl (tL [1, 0, 0, 0, 1, 0, 0, 0, 0] 0)))), (a11, .inl (k 0, 100, .inl (tI [(-3)] 0))), (a12, .inl (k 0, 100, .inl (tI [(-3)] 0))), (a13, .inl (k 0, 100, .inl (tI [0] 0))), (a0, .inr (8, [.int 2, .int 0, .int 1, .int 0, .int 0, .int 0, .ref a1, .ref a2, .int 0, .int 1, .ref a3, .ref a4, .ref a5, .ref a6, .ref a7, .ref a8, .ref a9, .int 0, .int 0, .int 0, .ref a10, .ref a11, .ref a12, .ref a13, .int 1, .int 1, .ref a14, .ref a15, .ref a16, .ref a17, .int 0, .int 0, .ref a18, .ref a19, .ref a20, .ref a21]))] H := hP
      have hD : va_D A [(a4, .inl (k 1, 9, .inr (.inl (tL [1, 0, 0, 0, 1, 0, 0, 0, 0] 0)))), (a10, .inl (k 1, 900, .inr (.inl (tL [1, 0, 0, 0, 1, 0, 0, 0, 0] 0)))), (a11, .inl (k 0, 100, .inl (tI [(-3)] 0))), (a12, .inl (k 0, 100, .inl (tI [(-3)] 0))), (a13, .inl (k 0, 100, .inl (tI [0] 0))), (a0, .inr (8, [.int 2, .int 0, .int 1, .int 0, .int 0, .int 0, .ref a1, .ref a2, .int 0, .int 1, .ref a3, .ref a4, .ref a5, .ref a6, .ref a7, .ref a8, .ref a9, .int 0, .int 0, .int 0, .ref a10, .ref a11, .ref a12, .ref a13, .int 1, .int 1, .ref a14, .ref a15, .ref a16, .ref a17, .int 0, .int 0, .ref a18, .ref a19, .ref a20, .ref a21]))] := hD
      refine lv_if_eq (tgt := 54) hx hb dX11_element_25 (by decide) (fun _ => ?_) (fun cc => absurd (by decide +kernel) cc)
      refine lv_iconst (v := (-1)) hx hb dX11_element_54 (by decide) ?_
      refine cL (rS (As := [.int (-1)]) (rest := []) (wc := []) hx hb hml hown hU hK hP hD [] rfl (by decide) (cX11_far_1 l D k _ ) w1062 w1060 w1061 w72 hdX11_far ⟨rfl, rfl⟩ ⟨Nat.le_of_ble_eq_true rfl, Nat.le_of_ble_eq_true rfl⟩ rfl hl.1 (Nat.le_of_ble_eq_true rfl) dX11_element_55 ⟨Nat.le_of_ble_eq_true rfl, Nat.le_of_ble_eq_true rfl⟩) hP hD hS hA (wr := [(a4, .inl (k 1, 9, .inr (.inl (tL [1, 0, 0, 0, 1, 0, 0, 0, 0] 0)))), (a10, .inl (k 1, 900, .inr (.inl (tL [1, 0, 0, 0, 1, 0, 0, 0, 0] 0)))), (a11, .inl (k 0, 100, .inl (tI [(-3)] 0))), (a12, .inl (k 0, 100, .inl (tI [(-3)] 0))), (a13, .inl (k 0, 100, .inl (tI [0] 0))), (a0, .inr (8, [.int 2, .int 0, .int 1, .int 0, .int 0, .int 0, .ref a1, .ref a2, .int 0, .int 1, .ref a3, .ref a4, .ref a5, .ref a6, .ref a7, .ref a8, .ref a9, .int 0, .int 0, .int 0, .ref a10, .ref a11, .ref a12, .ref a13, .int 1, .int 1, .ref a14, .ref a15, .ref a16, .ref a17, .int 0, .int 0, .ref a18, .ref a19, .ref a20, .ref a21]))]) [] [0, 1, 2, 3, 4, 5] rfl rfl (by decide) (by decide) (fun r16 H locs hB J hS => ?_)
      obtain ⟨rfl, hP1, hD1⟩ := hB
      obtain ⟨hP, hD⟩ := J _ hP1 hD1
      have hP : va_P D cl0 [(a4, .inl (k 1, 9, .inr (.inl (tL [1, 0, 0, 0, 1, 0, 0, 0, 0] 0)))), (a10, .inl (k 1, 900, .inr (.inl (tL [1, 0, 0, 0, 1, 0, 0, 0, 0] 0)))), (a11, .inl (k 0, 100, .inl (tI [(-3)] 0))), (a12, .inl (k 0, 100, .inl (tI [(-3)] 0))), (a13, .inl (k 0, 100, .inl (tI [0] 0))), (a0, .inr (8, [.int 2, .int 0, .int 1, .int 0, .int 0, .int 0, .ref a1, .ref a2, .int 0, .int 1, .ref a3, .ref a4, .ref a5, .ref a6, .ref a7, .ref a8, .ref a9, .int 0, .int 0, .int 0, .ref a10, .ref a11, .ref a12, .ref a13, .int 1, .int 1, .ref a14, .ref a15, .ref a16, .ref a17, .int 0, .int 0, .ref a18, .ref a19, .ref a20, .ref a21]))] H := hP
      have hD : va_D A [(a4, .inl (k 1, 9, .inr (.inl (tL [1, 0, 0, 0, 1, 0, 0, 0, 0] 0)))), (a10, .inl (k 1, 900, .inr (.inl (tL [1, 0, 0, 0, 1, 0, 0, 0, 0] 0)))), (a11, .inl (k 0, 100, .inl (tI [(-3)] 0))), (a12, .inl (k 0, 100, .inl (tI [(-3)] 0))), (a13, .inl (k 0, 100, .inl (tI [0] 0))), (a0, .inr (8, [.int 2, .int 0, .int 1, .int 0, .int 0, .int 0, .ref a1, .ref a2, .int 0, .int 1, .ref a3, .ref a4, .ref a5, .ref a6, .ref a7, .ref a8, .ref a9, .int 0, .int 0, .int 0, .ref a10, .ref a11, .ref a12, .ref a13, .int 1, .int 1, .ref a14, .ref a15, .ref a16, .ref a17, .int 0, .int 0, .ref a18, .ref a19, .ref a20, .ref a21]))] := hD
      exact retL (v := (-4000000000000000001)) hx hb hr hlocks hS (show ((-4000000000000000001) : Int64) = F_element x0 x1 x2 by first | decide +kernel | (have f0 := dv_nlt (x := x0.toInt) (y := 0) c_6 (wd x0) (by decide +kernel); have f1 := dv_nlt (x := 0) (y := x0.toInt) c_7 (by decide +kernel) (wd x0); have f2 := dv_lt (x := x1.toInt) (y := 0) c_11 (wd x1) (by decide +kernel); unfold F_element; (repeat (first | rw [if_pos (by omega)] | rw [if_neg (by omega)])))) dX11_element_58
    · skip
      obtain ⟨hP, hD⟩ := J _ hP1 hD1
      have hP : va_P D cl0 [(a4, .inl (k 1, 9, .inr (.inl (tL [1, 0, 0, 0, 1, 0, 0, 0, 0] 0)))), (a10, .inl (k 1, 900, .inr (.inl (tL [1, 0, 0, 0, 1, 0, 0, 0, 0] 0)))), (a11, .inl (k 0, 100, .inl (tI [(-3)] 0))), (a12, .inl (k 0, 100, .inl (tI [(-3)] 0))), (a13, .inl (k 0, 100, .inl (tI [0] 0))), (a0, .inr (8, [.int 2, .int 0, .int 1, .int 0, .int 0, .int 0, .ref a1, .ref a2, .int 0, .int 1, .ref a3, .ref a4, .ref a5, .ref a6, .ref a7, .ref a8, .ref a9, .int 0, .int 0, .int 0, .ref a10, .ref a11, .ref a12, .ref a13, .int 1, .int 1, .ref a14, .ref a15, .ref a16, .ref a17, .int 0, .int 0, .ref a18, .ref a19, .ref a20, .ref a21]))] H := hP
      have hD : va_D A [(a4, .inl (k 1, 9, .inr (.inl (tL [1, 0, 0, 0, 1, 0, 0, 0, 0] 0)))), (a10, .inl (k 1, 900, .inr (.inl (tL [1, 0, 0, 0, 1, 0, 0, 0, 0] 0)))), (a11, .inl (k 0, 100, .inl (tI [(-3)] 0))), (a12, .inl (k 0, 100, .inl (tI [(-3)] 0))), (a13, .inl (k 0, 100, .inl (tI [0] 0))), (a0, .inr (8, [.int 2, .int 0, .int 1, .int 0, .int 0, .int 0, .ref a1, .ref a2, .int 0, .int 1, .ref a3, .ref a4, .ref a5, .ref a6, .ref a7, .ref a8, .ref a9, .int 0, .int 0, .int 0, .ref a10, .ref a11, .ref a12, .ref a13, .int 1, .int 1, .ref a14, .ref a15, .ref a16, .ref a17, .int 0, .int 0, .ref a18, .ref a19, .ref a20, .ref a21]))] := hD
      refine lv_if_eq (tgt := 54) hx hb dX11_element_25 (by decide) (fun _ => ?_) (fun cc => absurd (by decide +kernel) cc)
      refine lv_iconst (v := (-1)) hx hb dX11_element_54 (by decide) ?_
      refine cL (rS (As := [.int (-1)]) (rest := []) (wc := []) hx hb hml hown hU hK hP hD [] rfl (by decide) (cX11_far_1 l D k _ ) w1062 w1060 w1061 w72 hdX11_far ⟨rfl, rfl⟩ ⟨Nat.le_of_ble_eq_true rfl, Nat.le_of_ble_eq_true rfl⟩ rfl hl.1 (Nat.le_of_ble_eq_true rfl) dX11_element_55 ⟨Nat.le_of_ble_eq_true rfl, Nat.le_of_ble_eq_true rfl⟩) hP hD hS hA (wr := [(a4, .inl (k 1, 9, .inr (.inl (tL [1, 0, 0, 0, 1, 0, 0, 0, 0] 0)))), (a10, .inl (k 1, 900, .inr (.inl (tL [1, 0, 0, 0, 1, 0, 0, 0, 0] 0)))), (a11, .inl (k 0, 100, .inl (tI [(-3)] 0))), (a12, .inl (k 0, 100, .inl (tI [(-3)] 0))), (a13, .inl (k 0, 100, .inl (tI [0] 0))), (a0, .inr (8, [.int 2, .int 0, .int 1, .int 0, .int 0, .int 0, .ref a1, .ref a2, .int 0, .int 1, .ref a3, .ref a4, .ref a5, .ref a6, .ref a7, .ref a8, .ref a9, .int 0, .int 0, .int 0, .ref a10, .ref a11, .ref a12, .ref a13, .int 1, .int 1, .ref a14, .ref a15, .ref a16, .ref a17, .int 0, .int 0, .ref a18, .ref a19, .ref a20, .ref a21]))]) [] [0, 1, 2, 3, 4, 5] rfl rfl (by decide) (by decide) (fun r17 H locs hB J hS => ?_)
      obtain ⟨rfl, hP1, hD1⟩ := hB
      obtain ⟨hP, hD⟩ := J _ hP1 hD1
      have hP : va_P D cl0 [(a4, .inl (k 1, 9, .inr (.inl (tL [1, 0, 0, 0, 1, 0, 0, 0, 0] 0)))), (a10, .inl (k 1, 900, .inr (.inl (tL [1, 0, 0, 0, 1, 0, 0, 0, 0] 0)))), (a11, .inl (k 0, 100, .inl (tI [(-3)] 0))), (a12, .inl (k 0, 100, .inl (tI [(-3)] 0))), (a13, .inl (k 0, 100, .inl (tI [0] 0))), (a0, .inr (8, [.int 2, .int 0, .int 1, .int 0, .int 0, .int 0, .ref a1, .ref a2, .int 0, .int 1, .ref a3, .ref a4, .ref a5, .ref a6, .ref a7, .ref a8, .ref a9, .int 0, .int 0, .int 0, .ref a10, .ref a11, .ref a12, .ref a13, .int 1, .int 1, .ref a14, .ref a15, .ref a16, .ref a17, .int 0, .int 0, .ref a18, .ref a19, .ref a20, .ref a21]))] H := hP
      have hD : va_D A [(a4, .inl (k 1, 9, .inr (.inl (tL [1, 0, 0, 0, 1, 0, 0, 0, 0] 0)))), (a10, .inl (k 1, 900, .inr (.inl (tL [1, 0, 0, 0, 1, 0, 0, 0, 0] 0)))), (a11, .inl (k 0, 100, .inl (tI [(-3)] 0))), (a12, .inl (k 0, 100, .inl (tI [(-3)] 0))), (a13, .inl (k 0, 100, .inl (tI [0] 0))), (a0, .inr (8, [.int 2, .int 0, .int 1, .int 0, .int 0, .int 0, .ref a1, .ref a2, .int 0, .int 1, .ref a3, .ref a4, .ref a5, .ref a6, .ref a7, .ref a8, .ref a9, .int 0, .int 0, .int 0, .ref a10, .ref a11, .ref a12, .ref a13, .int 1, .int 1, .ref a14, .ref a15, .ref a16, .ref a17, .int 0, .int 0, .ref a18, .ref a19, .ref a20, .ref a21]))] := hD
      exact retL (v := (-4000000000000000001)) hx hb hr hlocks hS (show ((-4000000000000000001) : Int64) = F_element x0 x1 x2 by first | decide +kernel | (have f0 := dv_nlt (x := x0.toInt) (y := 0) c_6 (wd x0) (by decide +kernel); have f1 := dv_nlt (x := 0) (y := x0.toInt) c_7 (by decide +kernel) (wd x0); have f2 := dv_nlt (x := x1.toInt) (y := 0) c_12 (wd x1) (by decide +kernel); have f3 := dv_lt (x := 1) (y := x1.toInt) c_13 (by decide +kernel) (wd x1); unfold F_element; (repeat (first | rw [if_pos (by omega)] | rw [if_neg (by omega)])))) dX11_element_58
    · skip
      obtain ⟨hP, hD⟩ := J _ hP1 hD1
      have hP : va_P D cl0 [(a4, .inl (k 1, 9, .inr (.inl (tL [1, 0, 0, 0, 1, 0, 0, 0, 0] 0)))), (a10, .inl (k 1, 900, .inr (.inl (tL [1, 0, 0, 0, 1, 0, 0, 0, 0] 0)))), (a11, .inl (k 0, 100, .inl (tI [(-3)] 0))), (a12, .inl (k 0, 100, .inl (tI [(-3)] 0))), (a13, .inl (k 0, 100, .inl (tI [0] 0))), (a0, .inr (8, [.int 2, .int 0, .int 1, .int 0, .int 0, .int 0, .ref a1, .ref a2, .int 0, .int 1, .ref a3, .ref a4, .ref a5, .ref a6, .ref a7, .ref a8, .ref a9, .int 0, .int 0, .int 0, .ref a10, .ref a11, .ref a12, .ref a13, .int 1, .int 1, .ref a14, .ref a15, .ref a16, .ref a17, .int 0, .int 0, .ref a18, .ref a19, .ref a20, .ref a21]))] H := hP
      have hD : va_D A [(a4, .inl (k 1, 9, .inr (.inl (tL [1, 0, 0, 0, 1, 0, 0, 0, 0] 0)))), (a10, .inl (k 1, 900, .inr (.inl (tL [1, 0, 0, 0, 1, 0, 0, 0, 0] 0)))), (a11, .inl (k 0, 100, .inl (tI [(-3)] 0))), (a12, .inl (k 0, 100, .inl (tI [(-3)] 0))), (a13, .inl (k 0, 100, .inl (tI [0] 0))), (a0, .inr (8, [.int 2, .int 0, .int 1, .int 0, .int 0, .int 0, .ref a1, .ref a2, .int 0, .int 1, .ref a3, .ref a4, .ref a5, .ref a6, .ref a7, .ref a8, .ref a9, .int 0, .int 0, .int 0, .ref a10, .ref a11, .ref a12, .ref a13, .int 1, .int 1, .ref a14, .ref a15, .ref a16, .ref a17, .int 0, .int 0, .ref a18, .ref a19, .ref a20, .ref a21]))] := hD
      refine lv_if_eq (tgt := 54) hx hb dX11_element_25 (by decide) (fun cc => absurd cc (by decide +kernel)) (fun _ => ?_)
      refine lv_aload_n hx hb dX11_element_28 rfl (lv_at hl 0 rfl) ?_
      refine lv_iload_n hx hb dX11_element_29 rfl (lv_at hl 3 rfl) ?_
      refine cI (rV (q0 := 5) (ci := 8) (As := [.int x2]) (rest := []) (wc := [(a0, .inr (8, [.int 2, .int 0, .int 1, .int 0, .int 0, .int 0, .ref a1, .ref a2, .int 0, .int 1, .ref a3, .ref a4, .ref a5, .ref a6, .ref a7, .ref a8, .ref a9, .int 0, .int 0, .int 0, .ref a10, .ref a11, .ref a12, .ref a13, .int 1, .int 1, .ref a14, .ref a15, .ref a16, .ref a17, .int 0, .int 0, .ref a18, .ref a19, .ref a20, .ref a21]))]) hx hb hml hown hU hK hP hD rfl rfl [5] rfl (by decide) (cX11_isPlace_2 l D k _ a0 a1 a2 a3 a4 a5 a6 a7 a8 a9 a10 a11 a12 a13 a14 a15 a16 a17 a18 a19 a20 a21 (x2)) w909 w906 w908 w26 w72 hdX11_isPlace ⟨rfl, rfl⟩ ⟨Nat.le_of_ble_eq_true rfl, Nat.le_of_ble_eq_true rfl⟩ rfl hl.1 (Nat.le_of_ble_eq_true rfl) dX11_element_30 ⟨Nat.le_of_ble_eq_true rfl, Nat.le_of_ble_eq_true rfl⟩) hP hD hS hA (wr := [(a4, .inl (k 1, 9, .inr (.inl (tL [1, 0, 0, 0, 1, 0, 0, 0, 0] 0)))), (a10, .inl (k 1, 900, .inr (.inl (tL [1, 0, 0, 0, 1, 0, 0, 0, 0] 0)))), (a11, .inl (k 0, 100, .inl (tI [(-3)] 0))), (a12, .inl (k 0, 100, .inl (tI [(-3)] 0))), (a13, .inl (k 0, 100, .inl (tI [0] 0)))]) [5] [0, 1, 2, 3, 4] rfl rfl (by decide) (by decide) (fun r18 H locs hB J hS => ?_)
      rcases hB with ⟨c_19, rfl, hP1, hD1⟩ | ⟨c_20, c_21, rfl, hP1, hD1⟩ | ⟨c_22, c_23, rfl, hP1, hD1⟩
      · skip
        obtain ⟨hP, hD⟩ := J _ hP1 hD1
        have hP : va_P D cl0 [(a4, .inl (k 1, 9, .inr (.inl (tL [1, 0, 0, 0, 1, 0, 0, 0, 0] 0)))), (a10, .inl (k 1, 900, .inr (.inl (tL [1, 0, 0, 0, 1, 0, 0, 0, 0] 0)))), (a11, .inl (k 0, 100, .inl (tI [(-3)] 0))), (a12, .inl (k 0, 100, .inl (tI [(-3)] 0))), (a13, .inl (k 0, 100, .inl (tI [0] 0))), (a0, .inr (8, [.int 2, .int 0, .int 1, .int 0, .int 0, .int 0, .ref a1, .ref a2, .int 0, .int 1, .ref a3, .ref a4, .ref a5, .ref a6, .ref a7, .ref a8, .ref a9, .int 0, .int 0, .int 0, .ref a10, .ref a11, .ref a12, .ref a13, .int 1, .int 1, .ref a14, .ref a15, .ref a16, .ref a17, .int 0, .int 0, .ref a18, .ref a19, .ref a20, .ref a21]))] H := hP
        have hD : va_D A [(a4, .inl (k 1, 9, .inr (.inl (tL [1, 0, 0, 0, 1, 0, 0, 0, 0] 0)))), (a10, .inl (k 1, 900, .inr (.inl (tL [1, 0, 0, 0, 1, 0, 0, 0, 0] 0)))), (a11, .inl (k 0, 100, .inl (tI [(-3)] 0))), (a12, .inl (k 0, 100, .inl (tI [(-3)] 0))), (a13, .inl (k 0, 100, .inl (tI [0] 0))), (a0, .inr (8, [.int 2, .int 0, .int 1, .int 0, .int 0, .int 0, .ref a1, .ref a2, .int 0, .int 1, .ref a3, .ref a4, .ref a5, .ref a6, .ref a7, .ref a8, .ref a9, .int 0, .int 0, .int 0, .ref a10, .ref a11, .ref a12, .ref a13, .int 1, .int 1, .ref a14, .ref a15, .ref a16, .ref a17, .int 0, .int 0, .ref a18, .ref a19, .ref a20, .ref a21]))] := hD
        refine lv_if_eq (tgt := 54) hx hb dX11_element_33 (by decide) (fun _ => ?_) (fun cc => absurd (by decide +kernel) cc)
        refine lv_iconst (v := (-1)) hx hb dX11_element_54 (by decide) ?_
        refine cL (rS (As := [.int (-1)]) (rest := []) (wc := []) hx hb hml hown hU hK hP hD [] rfl (by decide) (cX11_far_1 l D k _ ) w1062 w1060 w1061 w72 hdX11_far ⟨rfl, rfl⟩ ⟨Nat.le_of_ble_eq_true rfl, Nat.le_of_ble_eq_true rfl⟩ rfl hl.1 (Nat.le_of_ble_eq_true rfl) dX11_element_55 ⟨Nat.le_of_ble_eq_true rfl, Nat.le_of_ble_eq_true rfl⟩) hP hD hS hA (wr := [(a4, .inl (k 1, 9, .inr (.inl (tL [1, 0, 0, 0, 1, 0, 0, 0, 0] 0)))), (a10, .inl (k 1, 900, .inr (.inl (tL [1, 0, 0, 0, 1, 0, 0, 0, 0] 0)))), (a11, .inl (k 0, 100, .inl (tI [(-3)] 0))), (a12, .inl (k 0, 100, .inl (tI [(-3)] 0))), (a13, .inl (k 0, 100, .inl (tI [0] 0))), (a0, .inr (8, [.int 2, .int 0, .int 1, .int 0, .int 0, .int 0, .ref a1, .ref a2, .int 0, .int 1, .ref a3, .ref a4, .ref a5, .ref a6, .ref a7, .ref a8, .ref a9, .int 0, .int 0, .int 0, .ref a10, .ref a11, .ref a12, .ref a13, .int 1, .int 1, .ref a14, .ref a15, .ref a16, .ref a17, .int 0, .int 0, .ref a18, .ref a19, .ref a20, .ref a21]))]) [] [0, 1, 2, 3, 4, 5] rfl rfl (by decide) (by decide) (fun r24 H locs hB J hS => ?_)
        obtain ⟨rfl, hP1, hD1⟩ := hB
        obtain ⟨hP, hD⟩ := J _ hP1 hD1
        have hP : va_P D cl0 [(a4, .inl (k 1, 9, .inr (.inl (tL [1, 0, 0, 0, 1, 0, 0, 0, 0] 0)))), (a10, .inl (k 1, 900, .inr (.inl (tL [1, 0, 0, 0, 1, 0, 0, 0, 0] 0)))), (a11, .inl (k 0, 100, .inl (tI [(-3)] 0))), (a12, .inl (k 0, 100, .inl (tI [(-3)] 0))), (a13, .inl (k 0, 100, .inl (tI [0] 0))), (a0, .inr (8, [.int 2, .int 0, .int 1, .int 0, .int 0, .int 0, .ref a1, .ref a2, .int 0, .int 1, .ref a3, .ref a4, .ref a5, .ref a6, .ref a7, .ref a8, .ref a9, .int 0, .int 0, .int 0, .ref a10, .ref a11, .ref a12, .ref a13, .int 1, .int 1, .ref a14, .ref a15, .ref a16, .ref a17, .int 0, .int 0, .ref a18, .ref a19, .ref a20, .ref a21]))] H := hP
        have hD : va_D A [(a4, .inl (k 1, 9, .inr (.inl (tL [1, 0, 0, 0, 1, 0, 0, 0, 0] 0)))), (a10, .inl (k 1, 900, .inr (.inl (tL [1, 0, 0, 0, 1, 0, 0, 0, 0] 0)))), (a11, .inl (k 0, 100, .inl (tI [(-3)] 0))), (a12, .inl (k 0, 100, .inl (tI [(-3)] 0))), (a13, .inl (k 0, 100, .inl (tI [0] 0))), (a0, .inr (8, [.int 2, .int 0, .int 1, .int 0, .int 0, .int 0, .ref a1, .ref a2, .int 0, .int 1, .ref a3, .ref a4, .ref a5, .ref a6, .ref a7, .ref a8, .ref a9, .int 0, .int 0, .int 0, .ref a10, .ref a11, .ref a12, .ref a13, .int 1, .int 1, .ref a14, .ref a15, .ref a16, .ref a17, .int 0, .int 0, .ref a18, .ref a19, .ref a20, .ref a21]))] := hD
        exact retL (v := (-4000000000000000001)) hx hb hr hlocks hS (show ((-4000000000000000001) : Int64) = F_element x0 x1 x2 by first | decide +kernel | (have f0 := dv_nlt (x := x0.toInt) (y := 0) c_6 (wd x0) (by decide +kernel); have f1 := dv_nlt (x := 0) (y := x0.toInt) c_7 (by decide +kernel) (wd x0); have f2 := dv_nlt (x := x1.toInt) (y := 0) c_14 (wd x1) (by decide +kernel); have f3 := dv_nlt (x := 1) (y := x1.toInt) c_15 (by decide +kernel) (wd x1); have f4 := dv_lt (x := x2.toInt) (y := 0) c_19 (wd x2) (by decide +kernel); unfold F_element; (repeat (first | rw [if_pos (by omega)] | rw [if_neg (by omega)])))) dX11_element_58
      · skip
        obtain ⟨hP, hD⟩ := J _ hP1 hD1
        have hP : va_P D cl0 [(a4, .inl (k 1, 9, .inr (.inl (tL [1, 0, 0, 0, 1, 0, 0, 0, 0] 0)))), (a10, .inl (k 1, 900, .inr (.inl (tL [1, 0, 0, 0, 1, 0, 0, 0, 0] 0)))), (a11, .inl (k 0, 100, .inl (tI [(-3)] 0))), (a12, .inl (k 0, 100, .inl (tI [(-3)] 0))), (a13, .inl (k 0, 100, .inl (tI [0] 0))), (a0, .inr (8, [.int 2, .int 0, .int 1, .int 0, .int 0, .int 0, .ref a1, .ref a2, .int 0, .int 1, .ref a3, .ref a4, .ref a5, .ref a6, .ref a7, .ref a8, .ref a9, .int 0, .int 0, .int 0, .ref a10, .ref a11, .ref a12, .ref a13, .int 1, .int 1, .ref a14, .ref a15, .ref a16, .ref a17, .int 0, .int 0, .ref a18, .ref a19, .ref a20, .ref a21]))] H := hP
        have hD : va_D A [(a4, .inl (k 1, 9, .inr (.inl (tL [1, 0, 0, 0, 1, 0, 0, 0, 0] 0)))), (a10, .inl (k 1, 900, .inr (.inl (tL [1, 0, 0, 0, 1, 0, 0, 0, 0] 0)))), (a11, .inl (k 0, 100, .inl (tI [(-3)] 0))), (a12, .inl (k 0, 100, .inl (tI [(-3)] 0))), (a13, .inl (k 0, 100, .inl (tI [0] 0))), (a0, .inr (8, [.int 2, .int 0, .int 1, .int 0, .int 0, .int 0, .ref a1, .ref a2, .int 0, .int 1, .ref a3, .ref a4, .ref a5, .ref a6, .ref a7, .ref a8, .ref a9, .int 0, .int 0, .int 0, .ref a10, .ref a11, .ref a12, .ref a13, .int 1, .int 1, .ref a14, .ref a15, .ref a16, .ref a17, .int 0, .int 0, .ref a18, .ref a19, .ref a20, .ref a21]))] := hD
        refine lv_if_eq (tgt := 54) hx hb dX11_element_33 (by decide) (fun _ => ?_) (fun cc => absurd (by decide +kernel) cc)
        refine lv_iconst (v := (-1)) hx hb dX11_element_54 (by decide) ?_
        refine cL (rS (As := [.int (-1)]) (rest := []) (wc := []) hx hb hml hown hU hK hP hD [] rfl (by decide) (cX11_far_1 l D k _ ) w1062 w1060 w1061 w72 hdX11_far ⟨rfl, rfl⟩ ⟨Nat.le_of_ble_eq_true rfl, Nat.le_of_ble_eq_true rfl⟩ rfl hl.1 (Nat.le_of_ble_eq_true rfl) dX11_element_55 ⟨Nat.le_of_ble_eq_true rfl, Nat.le_of_ble_eq_true rfl⟩) hP hD hS hA (wr := [(a4, .inl (k 1, 9, .inr (.inl (tL [1, 0, 0, 0, 1, 0, 0, 0, 0] 0)))), (a10, .inl (k 1, 900, .inr (.inl (tL [1, 0, 0, 0, 1, 0, 0, 0, 0] 0)))), (a11, .inl (k 0, 100, .inl (tI [(-3)] 0))), (a12, .inl (k 0, 100, .inl (tI [(-3)] 0))), (a13, .inl (k 0, 100, .inl (tI [0] 0))), (a0, .inr (8, [.int 2, .int 0, .int 1, .int 0, .int 0, .int 0, .ref a1, .ref a2, .int 0, .int 1, .ref a3, .ref a4, .ref a5, .ref a6, .ref a7, .ref a8, .ref a9, .int 0, .int 0, .int 0, .ref a10, .ref a11, .ref a12, .ref a13, .int 1, .int 1, .ref a14, .ref a15, .ref a16, .ref a17, .int 0, .int 0, .ref a18, .ref a19, .ref a20, .ref a21]))]) [] [0, 1, 2, 3, 4, 5] rfl rfl (by decide) (by decide) (fun r25 H locs hB J hS => ?_)
        obtain ⟨rfl, hP1, hD1⟩ := hB
        obtain ⟨hP, hD⟩ := J _ hP1 hD1
        have hP : va_P D cl0 [(a4, .inl (k 1, 9, .inr (.inl (tL [1, 0, 0, 0, 1, 0, 0, 0, 0] 0)))), (a10, .inl (k 1, 900, .inr (.inl (tL [1, 0, 0, 0, 1, 0, 0, 0, 0] 0)))), (a11, .inl (k 0, 100, .inl (tI [(-3)] 0))), (a12, .inl (k 0, 100, .inl (tI [(-3)] 0))), (a13, .inl (k 0, 100, .inl (tI [0] 0))), (a0, .inr (8, [.int 2, .int 0, .int 1, .int 0, .int 0, .int 0, .ref a1, .ref a2, .int 0, .int 1, .ref a3, .ref a4, .ref a5, .ref a6, .ref a7, .ref a8, .ref a9, .int 0, .int 0, .int 0, .ref a10, .ref a11, .ref a12, .ref a13, .int 1, .int 1, .ref a14, .ref a15, .ref a16, .ref a17, .int 0, .int 0, .ref a18, .ref a19, .ref a20, .ref a21]))] H := hP
        have hD : va_D A [(a4, .inl (k 1, 9, .inr (.inl (tL [1, 0, 0, 0, 1, 0, 0, 0, 0] 0)))), (a10, .inl (k 1, 900, .inr (.inl (tL [1, 0, 0, 0, 1, 0, 0, 0, 0] 0)))), (a11, .inl (k 0, 100, .inl (tI [(-3)] 0))), (a12, .inl (k 0, 100, .inl (tI [(-3)] 0))), (a13, .inl (k 0, 100, .inl (tI [0] 0))), (a0, .inr (8, [.int 2, .int 0, .int 1, .int 0, .int 0, .int 0, .ref a1, .ref a2, .int 0, .int 1, .ref a3, .ref a4, .ref a5, .ref a6, .ref a7, .ref a8, .ref a9, .int 0, .int 0, .int 0, .ref a10, .ref a11, .ref a12, .ref a13, .int 1, .int 1, .ref a14, .ref a15, .ref a16, .ref a17, .int 0, .int 0, .ref a18, .ref a19, .ref a20, .ref a21]))] := hD
        exact retL (v := (-4000000000000000001)) hx hb hr hlocks hS (show ((-4000000000000000001) : Int64) = F_element x0 x1 x2 by first | decide +kernel | (have f0 := dv_nlt (x := x0.toInt) (y := 0) c_6 (wd x0) (by decide +kernel); have f1 := dv_nlt (x := 0) (y := x0.toInt) c_7 (by decide +kernel) (wd x0); have f2 := dv_nlt (x := x1.toInt) (y := 0) c_14 (wd x1) (by decide +kernel); have f3 := dv_nlt (x := 1) (y := x1.toInt) c_15 (by decide +kernel) (wd x1); have f4 := dv_nlt (x := x2.toInt) (y := 0) c_20 (wd x2) (by decide +kernel); have f5 := dv_lt (x := 1) (y := x2.toInt) c_21 (by decide +kernel) (wd x2); unfold F_element; (repeat (first | rw [if_pos (by omega)] | rw [if_neg (by omega)])))) dX11_element_58
      · skip
        obtain ⟨hP, hD⟩ := J _ hP1 hD1
        have hP : va_P D cl0 [(a4, .inl (k 1, 9, .inr (.inl (tL [1, 0, 0, 0, 1, 0, 0, 0, 0] 0)))), (a10, .inl (k 1, 900, .inr (.inl (tL [1, 0, 0, 0, 1, 0, 0, 0, 0] 0)))), (a11, .inl (k 0, 100, .inl (tI [(-3)] 0))), (a12, .inl (k 0, 100, .inl (tI [(-3)] 0))), (a13, .inl (k 0, 100, .inl (tI [0] 0))), (a0, .inr (8, [.int 2, .int 0, .int 1, .int 0, .int 0, .int 0, .ref a1, .ref a2, .int 0, .int 1, .ref a3, .ref a4, .ref a5, .ref a6, .ref a7, .ref a8, .ref a9, .int 0, .int 0, .int 0, .ref a10, .ref a11, .ref a12, .ref a13, .int 1, .int 1, .ref a14, .ref a15, .ref a16, .ref a17, .int 0, .int 0, .ref a18, .ref a19, .ref a20, .ref a21]))] H := hP
        have hD : va_D A [(a4, .inl (k 1, 9, .inr (.inl (tL [1, 0, 0, 0, 1, 0, 0, 0, 0] 0)))), (a10, .inl (k 1, 900, .inr (.inl (tL [1, 0, 0, 0, 1, 0, 0, 0, 0] 0)))), (a11, .inl (k 0, 100, .inl (tI [(-3)] 0))), (a12, .inl (k 0, 100, .inl (tI [(-3)] 0))), (a13, .inl (k 0, 100, .inl (tI [0] 0))), (a0, .inr (8, [.int 2, .int 0, .int 1, .int 0, .int 0, .int 0, .ref a1, .ref a2, .int 0, .int 1, .ref a3, .ref a4, .ref a5, .ref a6, .ref a7, .ref a8, .ref a9, .int 0, .int 0, .int 0, .ref a10, .ref a11, .ref a12, .ref a13, .int 1, .int 1, .ref a14, .ref a15, .ref a16, .ref a17, .int 0, .int 0, .ref a18, .ref a19, .ref a20, .ref a21]))] := hD
        refine lv_if_eq (tgt := 54) hx hb dX11_element_33 (by decide) (fun cc => absurd cc (by decide +kernel)) (fun _ => ?_)
        refine lv_aload_n hx hb dX11_element_36 rfl (lv_at hl 0 rfl) ?_
        refine va_get (D := D) (ci := 8) (v := .ref a10) (C := RX11) (T := TX11) (N := 36) hx hb hU iX11 hown hK.1 hP 5 rfl rfl 20 (by decide) (hU _ w805) (fun _ h9 => h9) rfl dX11_element_37 ?_
        refine lv_bipush (v := 9) hx hb dX11_element_40 (by decide) ?_
        refine lv_iload_n hx hb dX11_element_42 rfl (lv_at hl 1 rfl) ?_
        refine lv_imul hx hb dX11_element_43 ?_
        refine lv_iconst (v := 3) hx hb dX11_element_44 (by decide) ?_
        refine lv_iload_n hx hb dX11_element_45 rfl (lv_at hl 2 rfl) ?_
        refine lv_imul hx hb dX11_element_46 ?_
        refine lv_iadd hx hb dX11_element_47 ?_
        refine lv_iload_n hx hb dX11_element_48 rfl (lv_at hl 3 rfl) ?_
        refine lv_iadd hx hb dX11_element_49 ?_
        have hsp : x0.toInt = 0 := by
          have f0 := dv_nlt (x := x0.toInt) (y := 0) c_6 (wd x0) (by decide +kernel)
          have f1 := dv_nlt (x := 0) (y := x0.toInt) c_7 (by decide +kernel) (wd x0)
          have f2 := dv_nlt (x := x1.toInt) (y := 0) c_14 (wd x1) (by decide +kernel)
          have f3 := dv_nlt (x := 1) (y := x1.toInt) c_15 (by decide +kernel) (wd x1)
          have f4 := dv_nlt (x := x2.toInt) (y := 0) c_22 (wd x2) (by decide +kernel)
          have f5 := dv_nlt (x := 1) (y := x2.toInt) c_23 (by decide +kernel) (wd x2)
          omega
        obtain rfl : x0 = 0 := eq32 hsp (by decide +kernel)
        have hsp : x1.toInt = 0 ∨ x1.toInt = 1 := by
          have f2 := dv_nlt (x := x1.toInt) (y := 0) c_14 (wd x1) (by decide +kernel)
          have f3 := dv_nlt (x := 1) (y := x1.toInt) c_15 (by decide +kernel) (wd x1)
          have f4 := dv_nlt (x := x2.toInt) (y := 0) c_22 (wd x2) (by decide +kernel)
          have f5 := dv_nlt (x := 1) (y := x2.toInt) c_23 (by decide +kernel) (wd x2)
          have g_0 : (0 : Int32).toInt = 0 := (by decide +kernel)
          omega
        rcases hsp with hsp | hsp
        · skip
          obtain rfl : x1 = 0 := eq32 hsp (by decide +kernel)
          have hsp : x2.toInt = 0 ∨ x2.toInt = 1 := by
            have f4 := dv_nlt (x := x2.toInt) (y := 0) c_22 (wd x2) (by decide +kernel)
            have f5 := dv_nlt (x := 1) (y := x2.toInt) c_23 (by decide +kernel) (wd x2)
            have g_0 : (0 : Int32).toInt = 0 := (by decide +kernel)
            omega
          rcases hsp with hsp | hsp
          · skip
            obtain rfl : x2 = 0 := eq32 hsp (by decide +kernel)
            refine sv_i (v := 0) (by decide +kernel) ?_
            refine ld_l (j := 0) (v := 1) hx hb hK hP 1 rfl (by decide +kernel) rfl dX11_element_50 ?_
            refine lv_goto (tgt := 58) hx hb dX11_element_51 (by decide) ?_
            exact retL (v := 1) hx hb hr hlocks hS (show (1 : Int64) = F_element 0 0 0 by first | decide +kernel | (have g_0 : (0 : Int32).toInt = 0 := (by decide +kernel); unfold F_element; (repeat (first | rw [if_pos (by omega)] | rw [if_neg (by omega)])))) dX11_element_58
          · skip
            obtain rfl : x2 = 1 := eq32 hsp (by decide +kernel)
            refine sv_i (v := 1) (by decide +kernel) ?_
            refine ld_l (j := 1) (v := 0) hx hb hK hP 1 rfl (by decide +kernel) rfl dX11_element_50 ?_
            refine lv_goto (tgt := 58) hx hb dX11_element_51 (by decide) ?_
            exact retL (v := 0) hx hb hr hlocks hS (show (0 : Int64) = F_element 0 0 1 by first | decide +kernel | (have g_0 : (0 : Int32).toInt = 0 := (by decide +kernel); have g_1 : (1 : Int32).toInt = 1 := (by decide +kernel); unfold F_element; (repeat (first | rw [if_pos (by omega)] | rw [if_neg (by omega)])))) dX11_element_58
        · skip
          obtain rfl : x1 = 1 := eq32 hsp (by decide +kernel)
          have hsp : x2.toInt = 0 ∨ x2.toInt = 1 := by
            have f4 := dv_nlt (x := x2.toInt) (y := 0) c_22 (wd x2) (by decide +kernel)
            have f5 := dv_nlt (x := 1) (y := x2.toInt) c_23 (by decide +kernel) (wd x2)
            have g_0 : (0 : Int32).toInt = 0 := (by decide +kernel)
            have g_1 : (1 : Int32).toInt = 1 := (by decide +kernel)
            omega
          rcases hsp with hsp | hsp
          · skip
            obtain rfl : x2 = 0 := eq32 hsp (by decide +kernel)
            refine sv_i (v := 3) (by decide +kernel) ?_
            refine ld_l (j := 3) (v := 0) hx hb hK hP 1 rfl (by decide +kernel) rfl dX11_element_50 ?_
            refine lv_goto (tgt := 58) hx hb dX11_element_51 (by decide) ?_
            exact retL (v := 0) hx hb hr hlocks hS (show (0 : Int64) = F_element 0 1 0 by first | decide +kernel | (have g_0 : (0 : Int32).toInt = 0 := (by decide +kernel); have g_1 : (1 : Int32).toInt = 1 := (by decide +kernel); unfold F_element; (repeat (first | rw [if_pos (by omega)] | rw [if_neg (by omega)])))) dX11_element_58
          · skip
            obtain rfl : x2 = 1 := eq32 hsp (by decide +kernel)
            refine sv_i (v := 4) (by decide +kernel) ?_
            refine ld_l (j := 4) (v := 1) hx hb hK hP 1 rfl (by decide +kernel) rfl dX11_element_50 ?_
            refine lv_goto (tgt := 58) hx hb dX11_element_51 (by decide) ?_
            exact retL (v := 1) hx hb hr hlocks hS (show (1 : Int64) = F_element 0 1 1 by first | decide +kernel | (have g_0 : (0 : Int32).toInt = 0 := (by decide +kernel); have g_1 : (1 : Int32).toInt = 1 := (by decide +kernel); unfold F_element; (repeat (first | rw [if_pos (by omega)] | rw [if_neg (by omega)])))) dX11_element_58
abbrev BX11_takesElement_1 (D : va_G) (k : Nat → ClassId) (h0 h1 h2 h3 h4 h5 h6 h7 h8 h9 h10 h11 h12 h13 h14 h15 h16 h17 h18 h19 h20 h21 : Nat) (A : Nat → Prop) (H : Heap) : Prop := va_P D cl0 [(h0, .inr (8, [.int 2, .int 0, .int 1, .int 0, .int 0, .int 0, .ref h3, .ref h4, .int 0, .int 1, .ref h5, .ref h2, .ref h6, .ref h7, .ref h8, .ref h9, .ref h10, .int 0, .int 0, .int 0, .ref h1, .ref h11, .ref h12, .ref h13, .int 1, .int 1, .ref h14, .ref h15, .ref h16, .ref h17, .int 0, .int 0, .ref h18, .ref h19, .ref h20, .ref h21])), (h1, .inl (k 1, 900, .inr (.inl (tL [1, 0, 0, 0, 1, 0, 0, 0, 0] 0)))), (h2, .inl (k 1, 9, .inr (.inl (tL [1, 0, 0, 0, 1, 0, 0, 0, 0] 0))))] H ∧ va_D A [(h0, .inr (8, [.int 2, .int 0, .int 1, .int 0, .int 0, .int 0, .ref h3, .ref h4, .int 0, .int 1, .ref h5, .ref h2, .ref h6, .ref h7, .ref h8, .ref h9, .ref h10, .int 0, .int 0, .int 0, .ref h1, .ref h11, .ref h12, .ref h13, .int 1, .int 1, .ref h14, .ref h15, .ref h16, .ref h17, .int 0, .int 0, .ref h18, .ref h19, .ref h20, .ref h21])), (h1, .inl (k 1, 900, .inr (.inl (tL [1, 0, 0, 0, 1, 0, 0, 0, 0] 0)))), (h2, .inl (k 1, 9, .inr (.inl (tL [1, 0, 0, 0, 1, 0, 0, 0, 0] 0))))]
set_option maxHeartbeats 4000000 in
set_option maxRecDepth 100000 in
theorem cX11_takesElement_1 (l : Launch) (D : va_G) (k : Nat → ClassId) (sz : Nat) (h0 h1 h2 h3 h4 h5 h6 h7 h8 h9 h10 h11 h12 h13 h14 h15 h16 h17 h18 h19 h20 h21 : Nat) : Met l yX11_takesElement (Cond.code yX11_takesElement cX11_takesElement 4 none :: uw) ({ frames := 0, cells := 0, slots := 0, locals := 0 }) (pC D k sz [.ref h0, .int 0, .ref h2] [(h0, .inr (8, [.int 2, .int 0, .int 1, .int 0, .int 0, .int 0, .ref h3, .ref h4, .int 0, .int 1, .ref h5, .ref h2, .ref h6, .ref h7, .ref h8, .ref h9, .ref h10, .int 0, .int 0, .int 0, .ref h1, .ref h11, .ref h12, .ref h13, .int 1, .int 1, .ref h14, .ref h15, .ref h16, .ref h17, .int 0, .int 0, .ref h18, .ref h19, .ref h20, .ref h21])), (h1, .inl (k 1, 900, .inr (.inl (tL [1, 0, 0, 0, 1, 0, 0, 0, 0] 0)))), (h2, .inl (k 1, 9, .inr (.inl (tL [1, 0, 0, 0, 1, 0, 0, 0, 0] 0))))]) (qV (BX11_takesElement_1 D k h0 h1 h2 h3 h4 h5 h6 h7 h8 h9 h10 h11 h12 h13 h14 h15 h16 h17 h18 h19 h20 h21 (va_A [(h0, .inr (8, [.int 2, .int 0, .int 1, .int 0, .int 0, .int 0, .ref h3, .ref h4, .int 0, .int 1, .ref h5, .ref h2, .ref h6, .ref h7, .ref h8, .ref h9, .ref h10, .int 0, .int 0, .int 0, .ref h1, .ref h11, .ref h12, .ref h13, .int 1, .int 1, .ref h14, .ref h15, .ref h16, .ref h17, .int 0, .int 0, .ref h18, .ref h19, .ref h20, .ref h21])), (h1, .inl (k 1, 900, .inr (.inl (tL [1, 0, 0, 0, 1, 0, 0, 0, 0] 0)))), (h2, .inl (k 1, 9, .inr (.inl (tL [1, 0, 0, 0, 1, 0, 0, 0, 0] 0))))] sz)) (va_A [(h0, .inr (8, [.int 2, .int 0, .int 1, .int 0, .int 0, .int 0, .ref h3, .ref h4, .int 0, .int 1, .ref h5, .ref h2, .ref h6, .ref h7, .ref h8, .ref h9, .ref h10, .int 0, .int 0, .int 0, .ref h1, .ref h11, .ref h12, .ref h13, .int 1, .int 1, .ref h14, .ref h15, .ref h16, .ref h17, .int 0, .int 0, .ref h18, .ref h19, .ref h20, .ref h21])), (h1, .inl (k 1, 900, .inr (.inl (tL [1, 0, 0, 0, 1, 0, 0, 0, 0] 0)))), (h2, .inl (k 1, 9, .inr (.inl (tL [1, 0, 0, 0, 1, 0, 0, 0, 0] 0))))] sz)) 0 0 (va_A [(h0, .inr (8, [.int 2, .int 0, .int 1, .int 0, .int 0, .int 0, .ref h3, .ref h4, .int 0, .int 1, .ref h5, .ref h2, .ref h6, .ref h7, .ref h8, .ref h9, .ref h10, .int 0, .int 0, .int 0, .ref h1, .ref h11, .ref h12, .ref h13, .int 1, .int 1, .ref h14, .ref h15, .ref h16, .ref h17, .int 0, .int 0, .ref h18, .ref h19, .ref h20, .ref h21])), (h1, .inl (k 1, 900, .inr (.inl (tL [1, 0, 0, 0, 1, 0, 0, 0, 0] 0)))), (h2, .inl (k 1, 9, .inr (.inl (tL [1, 0, 0, 0, 1, 0, 0, 0, 0] 0))))] sz) := by
  refine begin_ (Qc := fun A => qV (BX11_takesElement_1 D k h0 h1 h2 h3 h4 h5 h6 h7 h8 h9 h10 h11 h12 h13 h14 h15 h16 h17 h18 h19 h20 h21 A) A) (by decide) (Nat.le_of_ble_eq_true rfl) ?_
  intro p e s m below meth c ls A hx hb hr hml hown hlocks hin hU hK hsz hP hD hS hA hl
  have hl : lv_has ls 4 [(0, .ref h0), (1, .int 0), (2, .ref h2)] := hl
  clear hsz
  refine lv_iconst (v := 0) hx hb dX11_takesElement_0 (by decide) ?_
  refine lv_istore_n (lv' := [(3, .int 0), (0, .ref h0), (1, .int 0), (2, .ref h2)]) hx hb dX11_takesElement_1 rfl hl (by decide) rfl (fun ls hl => ?_)
  refine lv_iload_n hx hb dX11_takesElement_2 rfl (lv_at hl 0 rfl) ?_
  refine lv_bipush (v := 9) hx hb dX11_takesElement_3 (by decide) ?_
  refine lv_icmp_ge (tgt := 28) hx hb dX11_takesElement_5 (by decide) (fun cc => absurd cc (by decide +kernel)) (fun _ => ?_)
  refine lv_aload_n hx hb dX11_takesElement_8 rfl (lv_at hl 3 rfl) ?_
  refine lv_iload_n hx hb dX11_takesElement_9 rfl (lv_at hl 0 rfl) ?_
  refine lv_aload_n hx hb dX11_takesElement_10 rfl (lv_at hl 1 rfl) ?_
  refine va_get (D := D) (ci := 8) (v := .ref h1) (C := RX11) (T := TX11) (N := 36) hx hb hU iX11 hown hK.1 hP 0 rfl rfl 20 (by decide) (hU _ w805) (fun _ h9 => h9) rfl dX11_takesElement_11 ?_
  refine lv_bipush (v := 9) hx hb dX11_takesElement_14 (by decide) ?_
  refine lv_iload_n hx hb dX11_takesElement_16 rfl (lv_at hl 2 rfl) ?_
  refine lv_imul hx hb dX11_takesElement_17 (sv_i (v := 0) (by decide +kernel) ?_)
  refine lv_iload_n hx hb dX11_takesElement_18 rfl (lv_at hl 0 rfl) ?_
  refine lv_iadd hx hb dX11_takesElement_19 (sv_i (v := 0) (by decide +kernel) ?_)
  refine ld_l (j := 0) (v := 1) hx hb hK hP 1 rfl (by decide +kernel) rfl dX11_takesElement_20 ?_
  refine st_l (j := 0) (g := tL [1, 0, 0, 0, 1, 0, 0, 0, 0] 0) hx hb hK hP hD hS 2 rfl (by decide +kernel) upd_tL dX11_takesElement_21 (fun H locs hP hD hS => ?_)
  have hP : va_P D cl0 [(h0, .inr (8, [.int 2, .int 0, .int 1, .int 0, .int 0, .int 0, .ref h3, .ref h4, .int 0, .int 1, .ref h5, .ref h2, .ref h6, .ref h7, .ref h8, .ref h9, .ref h10, .int 0, .int 0, .int 0, .ref h1, .ref h11, .ref h12, .ref h13, .int 1, .int 1, .ref h14, .ref h15, .ref h16, .ref h17, .int 0, .int 0, .ref h18, .ref h19, .ref h20, .ref h21])), (h1, .inl (k 1, 900, .inr (.inl (tL [1, 0, 0, 0, 1, 0, 0, 0, 0] 0)))), (h2, .inl (k 1, 9, .inr (.inl (tL [1, 0, 0, 0, 1, 0, 0, 0, 0] 0))))] H := hP
  have hD : va_D A [(h0, .inr (8, [.int 2, .int 0, .int 1, .int 0, .int 0, .int 0, .ref h3, .ref h4, .int 0, .int 1, .ref h5, .ref h2, .ref h6, .ref h7, .ref h8, .ref h9, .ref h10, .int 0, .int 0, .int 0, .ref h1, .ref h11, .ref h12, .ref h13, .int 1, .int 1, .ref h14, .ref h15, .ref h16, .ref h17, .int 0, .int 0, .ref h18, .ref h19, .ref h20, .ref h21])), (h1, .inl (k 1, 900, .inr (.inl (tL [1, 0, 0, 0, 1, 0, 0, 0, 0] 0)))), (h2, .inl (k 1, 9, .inr (.inl (tL [1, 0, 0, 0, 1, 0, 0, 0, 0] 0))))] := hD
  refine lv_iinc (v := 1) (lv' := [(3, .int 1), (0, .ref h0), (1, .int 0), (2, .ref h2)]) hx hb dX11_takesElement_22 hl (k := 0) rfl (by decide) (by decide) rfl (fun ls hl => ?_)
  refine lv_goto (tgt := 2) hx hb dX11_takesElement_25 (by decide) ?_
  refine lv_iload_n hx hb dX11_takesElement_2 rfl (lv_at hl 0 rfl) ?_
  refine lv_bipush (v := 9) hx hb dX11_takesElement_3 (by decide) ?_
  refine lv_icmp_ge (tgt := 28) hx hb dX11_takesElement_5 (by decide) (fun cc => absurd cc (by decide +kernel)) (fun _ => ?_)
  refine lv_aload_n hx hb dX11_takesElement_8 rfl (lv_at hl 3 rfl) ?_
  refine lv_iload_n hx hb dX11_takesElement_9 rfl (lv_at hl 0 rfl) ?_
  refine lv_aload_n hx hb dX11_takesElement_10 rfl (lv_at hl 1 rfl) ?_
  refine va_get (D := D) (ci := 8) (v := .ref h1) (C := RX11) (T := TX11) (N := 36) hx hb hU iX11 hown hK.1 hP 0 rfl rfl 20 (by decide) (hU _ w805) (fun _ h9 => h9) rfl dX11_takesElement_11 ?_
  refine lv_bipush (v := 9) hx hb dX11_takesElement_14 (by decide) ?_
  refine lv_iload_n hx hb dX11_takesElement_16 rfl (lv_at hl 2 rfl) ?_
  refine lv_imul hx hb dX11_takesElement_17 (sv_i (v := 0) (by decide +kernel) ?_)
  refine lv_iload_n hx hb dX11_takesElement_18 rfl (lv_at hl 0 rfl) ?_
  refine lv_iadd hx hb dX11_takesElement_19 (sv_i (v := 1) (by decide +kernel) ?_)
  refine ld_l (j := 1) (v := 0) hx hb hK hP 1 rfl (by decide +kernel) rfl dX11_takesElement_20 ?_
  refine st_l (j := 1) (g := tL [1, 0, 0, 0, 1, 0, 0, 0, 0] 0) hx hb hK hP hD hS 2 rfl (by decide +kernel) upd_tL dX11_takesElement_21 (fun H locs hP hD hS => ?_)
  have hP : va_P D cl0 [(h0, .inr (8, [.int 2, .int 0, .int 1, .int 0, .int 0, .int 0, .ref h3, .ref h4, .int 0, .int 1, .ref h5, .ref h2, .ref h6, .ref h7, .ref h8, .ref h9, .ref h10, .int 0, .int 0, .int 0, .ref h1, .ref h11, .ref h12, .ref h13, .int 1, .int 1, .ref h14, .ref h15, .ref h16, .ref h17, .int 0, .int 0, .ref h18, .ref h19, .ref h20, .ref h21])), (h1, .inl (k 1, 900, .inr (.inl (tL [1, 0, 0, 0, 1, 0, 0, 0, 0] 0)))), (h2, .inl (k 1, 9, .inr (.inl (tL [1, 0, 0, 0, 1, 0, 0, 0, 0] 0))))] H := hP
  have hD : va_D A [(h0, .inr (8, [.int 2, .int 0, .int 1, .int 0, .int 0, .int 0, .ref h3, .ref h4, .int 0, .int 1, .ref h5, .ref h2, .ref h6, .ref h7, .ref h8, .ref h9, .ref h10, .int 0, .int 0, .int 0, .ref h1, .ref h11, .ref h12, .ref h13, .int 1, .int 1, .ref h14, .ref h15, .ref h16, .ref h17, .int 0, .int 0, .ref h18, .ref h19, .ref h20, .ref h21])), (h1, .inl (k 1, 900, .inr (.inl (tL [1, 0, 0, 0, 1, 0, 0, 0, 0] 0)))), (h2, .inl (k 1, 9, .inr (.inl (tL [1, 0, 0, 0, 1, 0, 0, 0, 0] 0))))] := hD
  refine lv_iinc (v := 2) (lv' := [(3, .int 2), (0, .ref h0), (1, .int 0), (2, .ref h2)]) hx hb dX11_takesElement_22 hl (k := 0) rfl (by decide) (by decide) rfl (fun ls hl => ?_)
  refine lv_goto (tgt := 2) hx hb dX11_takesElement_25 (by decide) ?_
  refine lv_iload_n hx hb dX11_takesElement_2 rfl (lv_at hl 0 rfl) ?_
  refine lv_bipush (v := 9) hx hb dX11_takesElement_3 (by decide) ?_
  refine lv_icmp_ge (tgt := 28) hx hb dX11_takesElement_5 (by decide) (fun cc => absurd cc (by decide +kernel)) (fun _ => ?_)
  refine lv_aload_n hx hb dX11_takesElement_8 rfl (lv_at hl 3 rfl) ?_
  refine lv_iload_n hx hb dX11_takesElement_9 rfl (lv_at hl 0 rfl) ?_
  refine lv_aload_n hx hb dX11_takesElement_10 rfl (lv_at hl 1 rfl) ?_
  refine va_get (D := D) (ci := 8) (v := .ref h1) (C := RX11) (T := TX11) (N := 36) hx hb hU iX11 hown hK.1 hP 0 rfl rfl 20 (by decide) (hU _ w805) (fun _ h9 => h9) rfl dX11_takesElement_11 ?_
  refine lv_bipush (v := 9) hx hb dX11_takesElement_14 (by decide) ?_
  refine lv_iload_n hx hb dX11_takesElement_16 rfl (lv_at hl 2 rfl) ?_
  refine lv_imul hx hb dX11_takesElement_17 (sv_i (v := 0) (by decide +kernel) ?_)
  refine lv_iload_n hx hb dX11_takesElement_18 rfl (lv_at hl 0 rfl) ?_
  refine lv_iadd hx hb dX11_takesElement_19 (sv_i (v := 2) (by decide +kernel) ?_)
  refine ld_l (j := 2) (v := 0) hx hb hK hP 1 rfl (by decide +kernel) rfl dX11_takesElement_20 ?_
  refine st_l (j := 2) (g := tL [1, 0, 0, 0, 1, 0, 0, 0, 0] 0) hx hb hK hP hD hS 2 rfl (by decide +kernel) upd_tL dX11_takesElement_21 (fun H locs hP hD hS => ?_)
  have hP : va_P D cl0 [(h0, .inr (8, [.int 2, .int 0, .int 1, .int 0, .int 0, .int 0, .ref h3, .ref h4, .int 0, .int 1, .ref h5, .ref h2, .ref h6, .ref h7, .ref h8, .ref h9, .ref h10, .int 0, .int 0, .int 0, .ref h1, .ref h11, .ref h12, .ref h13, .int 1, .int 1, .ref h14, .ref h15, .ref h16, .ref h17, .int 0, .int 0, .ref h18, .ref h19, .ref h20, .ref h21])), (h1, .inl (k 1, 900, .inr (.inl (tL [1, 0, 0, 0, 1, 0, 0, 0, 0] 0)))), (h2, .inl (k 1, 9, .inr (.inl (tL [1, 0, 0, 0, 1, 0, 0, 0, 0] 0))))] H := hP
  have hD : va_D A [(h0, .inr (8, [.int 2, .int 0, .int 1, .int 0, .int 0, .int 0, .ref h3, .ref h4, .int 0, .int 1, .ref h5, .ref h2, .ref h6, .ref h7, .ref h8, .ref h9, .ref h10, .int 0, .int 0, .int 0, .ref h1, .ref h11, .ref h12, .ref h13, .int 1, .int 1, .ref h14, .ref h15, .ref h16, .ref h17, .int 0, .int 0, .ref h18, .ref h19, .ref h20, .ref h21])), (h1, .inl (k 1, 900, .inr (.inl (tL [1, 0, 0, 0, 1, 0, 0, 0, 0] 0)))), (h2, .inl (k 1, 9, .inr (.inl (tL [1, 0, 0, 0, 1, 0, 0, 0, 0] 0))))] := hD
  refine lv_iinc (v := 3) (lv' := [(3, .int 3), (0, .ref h0), (1, .int 0), (2, .ref h2)]) hx hb dX11_takesElement_22 hl (k := 0) rfl (by decide) (by decide) rfl (fun ls hl => ?_)
  refine lv_goto (tgt := 2) hx hb dX11_takesElement_25 (by decide) ?_
  refine lv_iload_n hx hb dX11_takesElement_2 rfl (lv_at hl 0 rfl) ?_
  refine lv_bipush (v := 9) hx hb dX11_takesElement_3 (by decide) ?_
  refine lv_icmp_ge (tgt := 28) hx hb dX11_takesElement_5 (by decide) (fun cc => absurd cc (by decide +kernel)) (fun _ => ?_)
  refine lv_aload_n hx hb dX11_takesElement_8 rfl (lv_at hl 3 rfl) ?_
  refine lv_iload_n hx hb dX11_takesElement_9 rfl (lv_at hl 0 rfl) ?_
  refine lv_aload_n hx hb dX11_takesElement_10 rfl (lv_at hl 1 rfl) ?_
  refine va_get (D := D) (ci := 8) (v := .ref h1) (C := RX11) (T := TX11) (N := 36) hx hb hU iX11 hown hK.1 hP 0 rfl rfl 20 (by decide) (hU _ w805) (fun _ h9 => h9) rfl dX11_takesElement_11 ?_
  refine lv_bipush (v := 9) hx hb dX11_takesElement_14 (by decide) ?_
  refine lv_iload_n hx hb dX11_takesElement_16 rfl (lv_at hl 2 rfl) ?_
  refine lv_imul hx hb dX11_takesElement_17 (sv_i (v := 0) (by decide +kernel) ?_)
  refine lv_iload_n hx hb dX11_takesElement_18 rfl (lv_at hl 0 rfl) ?_
  refine lv_iadd hx hb dX11_takesElement_19 (sv_i (v := 3) (by decide +kernel) ?_)
  refine ld_l (j := 3) (v := 0) hx hb hK hP 1 rfl (by decide +kernel) rfl dX11_takesElement_20 ?_
  refine st_l (j := 3) (g := tL [1, 0, 0, 0, 1, 0, 0, 0, 0] 0) hx hb hK hP hD hS 2 rfl (by decide +kernel) upd_tL dX11_takesElement_21 (fun H locs hP hD hS => ?_)
  have hP : va_P D cl0 [(h0, .inr (8, [.int 2, .int 0, .int 1, .int 0, .int 0, .int 0, .ref h3, .ref h4, .int 0, .int 1, .ref h5, .ref h2, .ref h6, .ref h7, .ref h8, .ref h9, .ref h10, .int 0, .int 0, .int 0, .ref h1, .ref h11, .ref h12, .ref h13, .int 1, .int 1, .ref h14, .ref h15, .ref h16, .ref h17, .int 0, .int 0, .ref h18, .ref h19, .ref h20, .ref h21])), (h1, .inl (k 1, 900, .inr (.inl (tL [1, 0, 0, 0, 1, 0, 0, 0, 0] 0)))), (h2, .inl (k 1, 9, .inr (.inl (tL [1, 0, 0, 0, 1, 0, 0, 0, 0] 0))))] H := hP
  have hD : va_D A [(h0, .inr (8, [.int 2, .int 0, .int 1, .int 0, .int 0, .int 0, .ref h3, .ref h4, .int 0, .int 1, .ref h5, .ref h2, .ref h6, .ref h7, .ref h8, .ref h9, .ref h10, .int 0, .int 0, .int 0, .ref h1, .ref h11, .ref h12, .ref h13, .int 1, .int 1, .ref h14, .ref h15, .ref h16, .ref h17, .int 0, .int 0, .ref h18, .ref h19, .ref h20, .ref h21])), (h1, .inl (k 1, 900, .inr (.inl (tL [1, 0, 0, 0, 1, 0, 0, 0, 0] 0)))), (h2, .inl (k 1, 9, .inr (.inl (tL [1, 0, 0, 0, 1, 0, 0, 0, 0] 0))))] := hD
  refine lv_iinc (v := 4) (lv' := [(3, .int 4), (0, .ref h0), (1, .int 0), (2, .ref h2)]) hx hb dX11_takesElement_22 hl (k := 0) rfl (by decide) (by decide) rfl (fun ls hl => ?_)
  refine lv_goto (tgt := 2) hx hb dX11_takesElement_25 (by decide) ?_
  refine lv_iload_n hx hb dX11_takesElement_2 rfl (lv_at hl 0 rfl) ?_
  refine lv_bipush (v := 9) hx hb dX11_takesElement_3 (by decide) ?_
  refine lv_icmp_ge (tgt := 28) hx hb dX11_takesElement_5 (by decide) (fun cc => absurd cc (by decide +kernel)) (fun _ => ?_)
  refine lv_aload_n hx hb dX11_takesElement_8 rfl (lv_at hl 3 rfl) ?_
  refine lv_iload_n hx hb dX11_takesElement_9 rfl (lv_at hl 0 rfl) ?_
  refine lv_aload_n hx hb dX11_takesElement_10 rfl (lv_at hl 1 rfl) ?_
  refine va_get (D := D) (ci := 8) (v := .ref h1) (C := RX11) (T := TX11) (N := 36) hx hb hU iX11 hown hK.1 hP 0 rfl rfl 20 (by decide) (hU _ w805) (fun _ h9 => h9) rfl dX11_takesElement_11 ?_
  refine lv_bipush (v := 9) hx hb dX11_takesElement_14 (by decide) ?_
  refine lv_iload_n hx hb dX11_takesElement_16 rfl (lv_at hl 2 rfl) ?_
  refine lv_imul hx hb dX11_takesElement_17 (sv_i (v := 0) (by decide +kernel) ?_)
  refine lv_iload_n hx hb dX11_takesElement_18 rfl (lv_at hl 0 rfl) ?_
  refine lv_iadd hx hb dX11_takesElement_19 (sv_i (v := 4) (by decide +kernel) ?_)
  refine ld_l (j := 4) (v := 1) hx hb hK hP 1 rfl (by decide +kernel) rfl dX11_takesElement_20 ?_
  refine st_l (j := 4) (g := tL [1, 0, 0, 0, 1, 0, 0, 0, 0] 0) hx hb hK hP hD hS 2 rfl (by decide +kernel) upd_tL dX11_takesElement_21 (fun H locs hP hD hS => ?_)
  have hP : va_P D cl0 [(h0, .inr (8, [.int 2, .int 0, .int 1, .int 0, .int 0, .int 0, .ref h3, .ref h4, .int 0, .int 1, .ref h5, .ref h2, .ref h6, .ref h7, .ref h8, .ref h9, .ref h10, .int 0, .int 0, .int 0, .ref h1, .ref h11, .ref h12, .ref h13, .int 1, .int 1, .ref h14, .ref h15, .ref h16, .ref h17, .int 0, .int 0, .ref h18, .ref h19, .ref h20, .ref h21])), (h1, .inl (k 1, 900, .inr (.inl (tL [1, 0, 0, 0, 1, 0, 0, 0, 0] 0)))), (h2, .inl (k 1, 9, .inr (.inl (tL [1, 0, 0, 0, 1, 0, 0, 0, 0] 0))))] H := hP
  have hD : va_D A [(h0, .inr (8, [.int 2, .int 0, .int 1, .int 0, .int 0, .int 0, .ref h3, .ref h4, .int 0, .int 1, .ref h5, .ref h2, .ref h6, .ref h7, .ref h8, .ref h9, .ref h10, .int 0, .int 0, .int 0, .ref h1, .ref h11, .ref h12, .ref h13, .int 1, .int 1, .ref h14, .ref h15, .ref h16, .ref h17, .int 0, .int 0, .ref h18, .ref h19, .ref h20, .ref h21])), (h1, .inl (k 1, 900, .inr (.inl (tL [1, 0, 0, 0, 1, 0, 0, 0, 0] 0)))), (h2, .inl (k 1, 9, .inr (.inl (tL [1, 0, 0, 0, 1, 0, 0, 0, 0] 0))))] := hD
  refine lv_iinc (v := 5) (lv' := [(3, .int 5), (0, .ref h0), (1, .int 0), (2, .ref h2)]) hx hb dX11_takesElement_22 hl (k := 0) rfl (by decide) (by decide) rfl (fun ls hl => ?_)
  refine lv_goto (tgt := 2) hx hb dX11_takesElement_25 (by decide) ?_
  refine lv_iload_n hx hb dX11_takesElement_2 rfl (lv_at hl 0 rfl) ?_
  refine lv_bipush (v := 9) hx hb dX11_takesElement_3 (by decide) ?_
  refine lv_icmp_ge (tgt := 28) hx hb dX11_takesElement_5 (by decide) (fun cc => absurd cc (by decide +kernel)) (fun _ => ?_)
  refine lv_aload_n hx hb dX11_takesElement_8 rfl (lv_at hl 3 rfl) ?_
  refine lv_iload_n hx hb dX11_takesElement_9 rfl (lv_at hl 0 rfl) ?_
  refine lv_aload_n hx hb dX11_takesElement_10 rfl (lv_at hl 1 rfl) ?_
  refine va_get (D := D) (ci := 8) (v := .ref h1) (C := RX11) (T := TX11) (N := 36) hx hb hU iX11 hown hK.1 hP 0 rfl rfl 20 (by decide) (hU _ w805) (fun _ h9 => h9) rfl dX11_takesElement_11 ?_
  refine lv_bipush (v := 9) hx hb dX11_takesElement_14 (by decide) ?_
  refine lv_iload_n hx hb dX11_takesElement_16 rfl (lv_at hl 2 rfl) ?_
  refine lv_imul hx hb dX11_takesElement_17 (sv_i (v := 0) (by decide +kernel) ?_)
  refine lv_iload_n hx hb dX11_takesElement_18 rfl (lv_at hl 0 rfl) ?_
  refine lv_iadd hx hb dX11_takesElement_19 (sv_i (v := 5) (by decide +kernel) ?_)
  refine ld_l (j := 5) (v := 0) hx hb hK hP 1 rfl (by decide +kernel) rfl dX11_takesElement_20 ?_
  refine st_l (j := 5) (g := tL [1, 0, 0, 0, 1, 0, 0, 0, 0] 0) hx hb hK hP hD hS 2 rfl (by decide +kernel) upd_tL dX11_takesElement_21 (fun H locs hP hD hS => ?_)
  have hP : va_P D cl0 [(h0, .inr (8, [.int 2, .int 0, .int 1, .int 0, .int 0, .int 0, .ref h3, .ref h4, .int 0, .int 1, .ref h5, .ref h2, .ref h6, .ref h7, .ref h8, .ref h9, .ref h10, .int 0, .int 0, .int 0, .ref h1, .ref h11, .ref h12, .ref h13, .int 1, .int 1, .ref h14, .ref h15, .ref h16, .ref h17, .int 0, .int 0, .ref h18, .ref h19, .ref h20, .ref h21])), (h1, .inl (k 1, 900, .inr (.inl (tL [1, 0, 0, 0, 1, 0, 0, 0, 0] 0)))), (h2, .inl (k 1, 9, .inr (.inl (tL [1, 0, 0, 0, 1, 0, 0, 0, 0] 0))))] H := hP
  have hD : va_D A [(h0, .inr (8, [.int 2, .int 0, .int 1, .int 0, .int 0, .int 0, .ref h3, .ref h4, .int 0, .int 1, .ref h5, .ref h2, .ref h6, .ref h7, .ref h8, .ref h9, .ref h10, .int 0, .int 0, .int 0, .ref h1, .ref h11, .ref h12, .ref h13, .int 1, .int 1, .ref h14, .ref h15, .ref h16, .ref h17, .int 0, .int 0, .ref h18, .ref h19, .ref h20, .ref h21])), (h1, .inl (k 1, 900, .inr (.inl (tL [1, 0, 0, 0, 1, 0, 0, 0, 0] 0)))), (h2, .inl (k 1, 9, .inr (.inl (tL [1, 0, 0, 0, 1, 0, 0, 0, 0] 0))))] := hD
  refine lv_iinc (v := 6) (lv' := [(3, .int 6), (0, .ref h0), (1, .int 0), (2, .ref h2)]) hx hb dX11_takesElement_22 hl (k := 0) rfl (by decide) (by decide) rfl (fun ls hl => ?_)
  refine lv_goto (tgt := 2) hx hb dX11_takesElement_25 (by decide) ?_
  refine lv_iload_n hx hb dX11_takesElement_2 rfl (lv_at hl 0 rfl) ?_
  refine lv_bipush (v := 9) hx hb dX11_takesElement_3 (by decide) ?_
  refine lv_icmp_ge (tgt := 28) hx hb dX11_takesElement_5 (by decide) (fun cc => absurd cc (by decide +kernel)) (fun _ => ?_)
  refine lv_aload_n hx hb dX11_takesElement_8 rfl (lv_at hl 3 rfl) ?_
  refine lv_iload_n hx hb dX11_takesElement_9 rfl (lv_at hl 0 rfl) ?_
  refine lv_aload_n hx hb dX11_takesElement_10 rfl (lv_at hl 1 rfl) ?_
  refine va_get (D := D) (ci := 8) (v := .ref h1) (C := RX11) (T := TX11) (N := 36) hx hb hU iX11 hown hK.1 hP 0 rfl rfl 20 (by decide) (hU _ w805) (fun _ h9 => h9) rfl dX11_takesElement_11 ?_
  refine lv_bipush (v := 9) hx hb dX11_takesElement_14 (by decide) ?_
  refine lv_iload_n hx hb dX11_takesElement_16 rfl (lv_at hl 2 rfl) ?_
  refine lv_imul hx hb dX11_takesElement_17 (sv_i (v := 0) (by decide +kernel) ?_)
  refine lv_iload_n hx hb dX11_takesElement_18 rfl (lv_at hl 0 rfl) ?_
  refine lv_iadd hx hb dX11_takesElement_19 (sv_i (v := 6) (by decide +kernel) ?_)
  refine ld_l (j := 6) (v := 0) hx hb hK hP 1 rfl (by decide +kernel) rfl dX11_takesElement_20 ?_
  refine st_l (j := 6) (g := tL [1, 0, 0, 0, 1, 0, 0, 0, 0] 0) hx hb hK hP hD hS 2 rfl (by decide +kernel) upd_tL dX11_takesElement_21 (fun H locs hP hD hS => ?_)
  have hP : va_P D cl0 [(h0, .inr (8, [.int 2, .int 0, .int 1, .int 0, .int 0, .int 0, .ref h3, .ref h4, .int 0, .int 1, .ref h5, .ref h2, .ref h6, .ref h7, .ref h8, .ref h9, .ref h10, .int 0, .int 0, .int 0, .ref h1, .ref h11, .ref h12, .ref h13, .int 1, .int 1, .ref h14, .ref h15, .ref h16, .ref h17, .int 0, .int 0, .ref h18, .ref h19, .ref h20, .ref h21])), (h1, .inl (k 1, 900, .inr (.inl (tL [1, 0, 0, 0, 1, 0, 0, 0, 0] 0)))), (h2, .inl (k 1, 9, .inr (.inl (tL [1, 0, 0, 0, 1, 0, 0, 0, 0] 0))))] H := hP
  have hD : va_D A [(h0, .inr (8, [.int 2, .int 0, .int 1, .int 0, .int 0, .int 0, .ref h3, .ref h4, .int 0, .int 1, .ref h5, .ref h2, .ref h6, .ref h7, .ref h8, .ref h9, .ref h10, .int 0, .int 0, .int 0, .ref h1, .ref h11, .ref h12, .ref h13, .int 1, .int 1, .ref h14, .ref h15, .ref h16, .ref h17, .int 0, .int 0, .ref h18, .ref h19, .ref h20, .ref h21])), (h1, .inl (k 1, 900, .inr (.inl (tL [1, 0, 0, 0, 1, 0, 0, 0, 0] 0)))), (h2, .inl (k 1, 9, .inr (.inl (tL [1, 0, 0, 0, 1, 0, 0, 0, 0] 0))))] := hD
  refine lv_iinc (v := 7) (lv' := [(3, .int 7), (0, .ref h0), (1, .int 0), (2, .ref h2)]) hx hb dX11_takesElement_22 hl (k := 0) rfl (by decide) (by decide) rfl (fun ls hl => ?_)
  refine lv_goto (tgt := 2) hx hb dX11_takesElement_25 (by decide) ?_
  refine lv_iload_n hx hb dX11_takesElement_2 rfl (lv_at hl 0 rfl) ?_
  refine lv_bipush (v := 9) hx hb dX11_takesElement_3 (by decide) ?_
  refine lv_icmp_ge (tgt := 28) hx hb dX11_takesElement_5 (by decide) (fun cc => absurd cc (by decide +kernel)) (fun _ => ?_)
  refine lv_aload_n hx hb dX11_takesElement_8 rfl (lv_at hl 3 rfl) ?_
  refine lv_iload_n hx hb dX11_takesElement_9 rfl (lv_at hl 0 rfl) ?_
  refine lv_aload_n hx hb dX11_takesElement_10 rfl (lv_at hl 1 rfl) ?_
  refine va_get (D := D) (ci := 8) (v := .ref h1) (C := RX11) (T := TX11) (N := 36) hx hb hU iX11 hown hK.1 hP 0 rfl rfl 20 (by decide) (hU _ w805) (fun _ h9 => h9) rfl dX11_takesElement_11 ?_
  refine lv_bipush (v := 9) hx hb dX11_takesElement_14 (by decide) ?_
  refine lv_iload_n hx hb dX11_takesElement_16 rfl (lv_at hl 2 rfl) ?_
  refine lv_imul hx hb dX11_takesElement_17 (sv_i (v := 0) (by decide +kernel) ?_)
  refine lv_iload_n hx hb dX11_takesElement_18 rfl (lv_at hl 0 rfl) ?_
  refine lv_iadd hx hb dX11_takesElement_19 (sv_i (v := 7) (by decide +kernel) ?_)
  refine ld_l (j := 7) (v := 0) hx hb hK hP 1 rfl (by decide +kernel) rfl dX11_takesElement_20 ?_
  refine st_l (j := 7) (g := tL [1, 0, 0, 0, 1, 0, 0, 0, 0] 0) hx hb hK hP hD hS 2 rfl (by decide +kernel) upd_tL dX11_takesElement_21 (fun H locs hP hD hS => ?_)
  have hP : va_P D cl0 [(h0, .inr (8, [.int 2, .int 0, .int 1, .int 0, .int 0, .int 0, .ref h3, .ref h4, .int 0, .int 1, .ref h5, .ref h2, .ref h6, .ref h7, .ref h8, .ref h9, .ref h10, .int 0, .int 0, .int 0, .ref h1, .ref h11, .ref h12, .ref h13, .int 1, .int 1, .ref h14, .ref h15, .ref h16, .ref h17, .int 0, .int 0, .ref h18, .ref h19, .ref h20, .ref h21])), (h1, .inl (k 1, 900, .inr (.inl (tL [1, 0, 0, 0, 1, 0, 0, 0, 0] 0)))), (h2, .inl (k 1, 9, .inr (.inl (tL [1, 0, 0, 0, 1, 0, 0, 0, 0] 0))))] H := hP
  have hD : va_D A [(h0, .inr (8, [.int 2, .int 0, .int 1, .int 0, .int 0, .int 0, .ref h3, .ref h4, .int 0, .int 1, .ref h5, .ref h2, .ref h6, .ref h7, .ref h8, .ref h9, .ref h10, .int 0, .int 0, .int 0, .ref h1, .ref h11, .ref h12, .ref h13, .int 1, .int 1, .ref h14, .ref h15, .ref h16, .ref h17, .int 0, .int 0, .ref h18, .ref h19, .ref h20, .ref h21])), (h1, .inl (k 1, 900, .inr (.inl (tL [1, 0, 0, 0, 1, 0, 0, 0, 0] 0)))), (h2, .inl (k 1, 9, .inr (.inl (tL [1, 0, 0, 0, 1, 0, 0, 0, 0] 0))))] := hD
  refine lv_iinc (v := 8) (lv' := [(3, .int 8), (0, .ref h0), (1, .int 0), (2, .ref h2)]) hx hb dX11_takesElement_22 hl (k := 0) rfl (by decide) (by decide) rfl (fun ls hl => ?_)
  refine lv_goto (tgt := 2) hx hb dX11_takesElement_25 (by decide) ?_
  refine lv_iload_n hx hb dX11_takesElement_2 rfl (lv_at hl 0 rfl) ?_
  refine lv_bipush (v := 9) hx hb dX11_takesElement_3 (by decide) ?_
  refine lv_icmp_ge (tgt := 28) hx hb dX11_takesElement_5 (by decide) (fun cc => absurd cc (by decide +kernel)) (fun _ => ?_)
  refine lv_aload_n hx hb dX11_takesElement_8 rfl (lv_at hl 3 rfl) ?_
  refine lv_iload_n hx hb dX11_takesElement_9 rfl (lv_at hl 0 rfl) ?_
  refine lv_aload_n hx hb dX11_takesElement_10 rfl (lv_at hl 1 rfl) ?_
  refine va_get (D := D) (ci := 8) (v := .ref h1) (C := RX11) (T := TX11) (N := 36) hx hb hU iX11 hown hK.1 hP 0 rfl rfl 20 (by decide) (hU _ w805) (fun _ h9 => h9) rfl dX11_takesElement_11 ?_
  refine lv_bipush (v := 9) hx hb dX11_takesElement_14 (by decide) ?_
  refine lv_iload_n hx hb dX11_takesElement_16 rfl (lv_at hl 2 rfl) ?_
  refine lv_imul hx hb dX11_takesElement_17 (sv_i (v := 0) (by decide +kernel) ?_)
  refine lv_iload_n hx hb dX11_takesElement_18 rfl (lv_at hl 0 rfl) ?_
  refine lv_iadd hx hb dX11_takesElement_19 (sv_i (v := 8) (by decide +kernel) ?_)
  refine ld_l (j := 8) (v := 0) hx hb hK hP 1 rfl (by decide +kernel) rfl dX11_takesElement_20 ?_
  refine st_l (j := 8) (g := tL [1, 0, 0, 0, 1, 0, 0, 0, 0] 0) hx hb hK hP hD hS 2 rfl (by decide +kernel) upd_tL dX11_takesElement_21 (fun H locs hP hD hS => ?_)
  have hP : va_P D cl0 [(h0, .inr (8, [.int 2, .int 0, .int 1, .int 0, .int 0, .int 0, .ref h3, .ref h4, .int 0, .int 1, .ref h5, .ref h2, .ref h6, .ref h7, .ref h8, .ref h9, .ref h10, .int 0, .int 0, .int 0, .ref h1, .ref h11, .ref h12, .ref h13, .int 1, .int 1, .ref h14, .ref h15, .ref h16, .ref h17, .int 0, .int 0, .ref h18, .ref h19, .ref h20, .ref h21])), (h1, .inl (k 1, 900, .inr (.inl (tL [1, 0, 0, 0, 1, 0, 0, 0, 0] 0)))), (h2, .inl (k 1, 9, .inr (.inl (tL [1, 0, 0, 0, 1, 0, 0, 0, 0] 0))))] H := hP
  have hD : va_D A [(h0, .inr (8, [.int 2, .int 0, .int 1, .int 0, .int 0, .int 0, .ref h3, .ref h4, .int 0, .int 1, .ref h5, .ref h2, .ref h6, .ref h7, .ref h8, .ref h9, .ref h10, .int 0, .int 0, .int 0, .ref h1, .ref h11, .ref h12, .ref h13, .int 1, .int 1, .ref h14, .ref h15, .ref h16, .ref h17, .int 0, .int 0, .ref h18, .ref h19, .ref h20, .ref h21])), (h1, .inl (k 1, 900, .inr (.inl (tL [1, 0, 0, 0, 1, 0, 0, 0, 0] 0)))), (h2, .inl (k 1, 9, .inr (.inl (tL [1, 0, 0, 0, 1, 0, 0, 0, 0] 0))))] := hD
  refine lv_iinc (v := 9) (lv' := [(3, .int 9), (0, .ref h0), (1, .int 0), (2, .ref h2)]) hx hb dX11_takesElement_22 hl (k := 0) rfl (by decide) (by decide) rfl (fun ls hl => ?_)
  refine lv_goto (tgt := 2) hx hb dX11_takesElement_25 (by decide) ?_
  refine lv_iload_n hx hb dX11_takesElement_2 rfl (lv_at hl 0 rfl) ?_
  refine lv_bipush (v := 9) hx hb dX11_takesElement_3 (by decide) ?_
  refine lv_icmp_ge (tgt := 28) hx hb dX11_takesElement_5 (by decide) (fun _ => ?_) (fun cc => absurd (by decide +kernel) cc)
  exact retV hx hb hr hlocks hS (⟨hP, hD⟩) dX11_takesElement_28
abbrev BX11_first_7 (D : va_G) (k : Nat → ClassId) (h0 h1 h2 h3 h4 h5 h6 h7 h8 h9 h10 h11 h12 h13 h14 h15 h16 h17 h18 h19 h20 h21 : Nat) (A : Nat → Prop) (H : Heap) : Prop := va_P D cl0 [(h1, .inr (8, [.int 2, .int 0, .int 1, .int 0, .int 0, .int 0, .ref h2, .ref h3, .int 0, .int 1, .ref h4, .ref h5, .ref h0, .ref h6, .ref h7, .ref h8, .ref h9, .int 0, .int 0, .int 0, .ref h10, .ref h11, .ref h12, .ref h13, .int 1, .int 1, .ref h14, .ref h15, .ref h16, .ref h17, .int 0, .int 0, .ref h18, .ref h19, .ref h20, .ref h21])), (h0, .inl (k 1, 9, .inr (.inl (tL [1, 0, 0, 0, 1, 0, 0, 0, 0] 0))))] H ∧ va_D A [(h1, .inr (8, [.int 2, .int 0, .int 1, .int 0, .int 0, .int 0, .ref h2, .ref h3, .int 0, .int 1, .ref h4, .ref h5, .ref h0, .ref h6, .ref h7, .ref h8, .ref h9, .int 0, .int 0, .int 0, .ref h10, .ref h11, .ref h12, .ref h13, .int 1, .int 1, .ref h14, .ref h15, .ref h16, .ref h17, .int 0, .int 0, .ref h18, .ref h19, .ref h20, .ref h21])), (h0, .inl (k 1, 9, .inr (.inl (tL [1, 0, 0, 0, 1, 0, 0, 0, 0] 0))))]
set_option maxHeartbeats 4000000 in
set_option maxRecDepth 100000 in
theorem cX11_first_7 (l : Launch) (D : va_G) (k : Nat → ClassId) (sz : Nat) (h0 h1 h2 h3 h4 h5 h6 h7 h8 h9 h10 h11 h12 h13 h14 h15 h16 h17 h18 h19 h20 h21 : Nat) : Met l yX11_first (Cond.code yX11_first cX11_first 3 none :: uw) ({ frames := 1, cells := 0, slots := 0, locals := 22 }) (pC D k sz [.ref h1, .ref h0] [(h0, .inl (k 1, 9, .inr (.inl (tL [] 0)))), (h1, .inr (8, [.int 2, .int 0, .int 1, .int 0, .int 0, .int 0, .ref h2, .ref h3, .int 0, .int 1, .ref h4, .ref h5, .ref h0, .ref h6, .ref h7, .ref h8, .ref h9, .int 0, .int 0, .int 0, .ref h10, .ref h11, .ref h12, .ref h13, .int 1, .int 1, .ref h14, .ref h15, .ref h16, .ref h17, .int 0, .int 0, .ref h18, .ref h19, .ref h20, .ref h21]))]) (qV (BX11_first_7 D k h0 h1 h2 h3 h4 h5 h6 h7 h8 h9 h10 h11 h12 h13 h14 h15 h16 h17 h18 h19 h20 h21 (va_A [(h0, .inl (k 1, 9, .inr (.inl (tL [] 0)))), (h1, .inr (8, [.int 2, .int 0, .int 1, .int 0, .int 0, .int 0, .ref h2, .ref h3, .int 0, .int 1, .ref h4, .ref h5, .ref h0, .ref h6, .ref h7, .ref h8, .ref h9, .int 0, .int 0, .int 0, .ref h10, .ref h11, .ref h12, .ref h13, .int 1, .int 1, .ref h14, .ref h15, .ref h16, .ref h17, .int 0, .int 0, .ref h18, .ref h19, .ref h20, .ref h21]))] sz)) (va_A [(h0, .inl (k 1, 9, .inr (.inl (tL [] 0)))), (h1, .inr (8, [.int 2, .int 0, .int 1, .int 0, .int 0, .int 0, .ref h2, .ref h3, .int 0, .int 1, .ref h4, .ref h5, .ref h0, .ref h6, .ref h7, .ref h8, .ref h9, .int 0, .int 0, .int 0, .ref h10, .ref h11, .ref h12, .ref h13, .int 1, .int 1, .ref h14, .ref h15, .ref h16, .ref h17, .int 0, .int 0, .ref h18, .ref h19, .ref h20, .ref h21]))] sz)) 0 0 (va_A [(h0, .inl (k 1, 9, .inr (.inl (tL [] 0)))), (h1, .inr (8, [.int 2, .int 0, .int 1, .int 0, .int 0, .int 0, .ref h2, .ref h3, .int 0, .int 1, .ref h4, .ref h5, .ref h0, .ref h6, .ref h7, .ref h8, .ref h9, .int 0, .int 0, .int 0, .ref h10, .ref h11, .ref h12, .ref h13, .int 1, .int 1, .ref h14, .ref h15, .ref h16, .ref h17, .int 0, .int 0, .ref h18, .ref h19, .ref h20, .ref h21]))] sz) := by
  refine begin_ (Qc := fun A => qV (BX11_first_7 D k h0 h1 h2 h3 h4 h5 h6 h7 h8 h9 h10 h11 h12 h13 h14 h15 h16 h17 h18 h19 h20 h21 A) A) (by decide) (Nat.le_of_ble_eq_true rfl) ?_
  intro p e s m below meth c ls A hx hb hr hml hown hlocks hin hU hK hsz hP hD hS hA hl
  have hl : lv_has ls 3 [(0, .ref h1), (1, .ref h0)] := hl
  clear hsz
  refine lv_aload_n hx hb dX11_first_0 rfl (lv_at hl 0 rfl) ?_
  refine lv_aload_n hx hb dX11_first_1 rfl (lv_at hl 1 rfl) ?_
  refine cV (rV (q0 := 1) (ci := 8) (As := [.ref h0]) (rest := []) (wc := [(h0, .inl (k 1, 9, .inr (.inl (tL [] 0))))]) hx hb hml hown hU hK hP hD rfl rfl [0] rfl (by decide) (cX11_clears_1 l D k _ h0 h1) w923 w920 w922 w29 w72 hdX11_clears ⟨rfl, rfl⟩ ⟨Nat.le_of_ble_eq_true rfl, Nat.le_of_ble_eq_true rfl⟩ rfl hl.1 (Nat.le_of_ble_eq_true rfl) dX11_first_2 ⟨Nat.le_of_ble_eq_true rfl, Nat.le_of_ble_eq_true rfl⟩) hP hD hS hA (wr := [(h1, .inr (8, [.int 2, .int 0, .int 1, .int 0, .int 0, .int 0, .ref h2, .ref h3, .int 0, .int 1, .ref h4, .ref h5, .ref h0, .ref h6, .ref h7, .ref h8, .ref h9, .int 0, .int 0, .int 0, .ref h10, .ref h11, .ref h12, .ref h13, .int 1, .int 1, .ref h14, .ref h15, .ref h16, .ref h17, .int 0, .int 0, .ref h18, .ref h19, .ref h20, .ref h21]))]) [0] [1] rfl rfl (by decide) (by decide) (fun H locs hB J hS => ?_)
  obtain ⟨hP1, hD1⟩ := hB
  obtain ⟨hP, hD⟩ := J _ hP1 hD1
  have hP : va_P D cl0 [(h1, .inr (8, [.int 2, .int 0, .int 1, .int 0, .int 0, .int 0, .ref h2, .ref h3, .int 0, .int 1, .ref h4, .ref h5, .ref h0, .ref h6, .ref h7, .ref h8, .ref h9, .int 0, .int 0, .int 0, .ref h10, .ref h11, .ref h12, .ref h13, .int 1, .int 1, .ref h14, .ref h15, .ref h16, .ref h17, .int 0, .int 0, .ref h18, .ref h19, .ref h20, .ref h21])), (h0, .inl (k 1, 9, .inr (.inl (tL [0, 0, 0, 0, 0, 0, 0, 0, 0] 0))))] H := hP
  have hD : va_D A [(h1, .inr (8, [.int 2, .int 0, .int 1, .int 0, .int 0, .int 0, .ref h2, .ref h3, .int 0, .int 1, .ref h4, .ref h5, .ref h0, .ref h6, .ref h7, .ref h8, .ref h9, .int 0, .int 0, .int 0, .ref h10, .ref h11, .ref h12, .ref h13, .int 1, .int 1, .ref h14, .ref h15, .ref h16, .ref h17, .int 0, .int 0, .ref h18, .ref h19, .ref h20, .ref h21])), (h0, .inl (k 1, 9, .inr (.inl (tL [0, 0, 0, 0, 0, 0, 0, 0, 0] 0))))] := hD
  refine lv_iconst (v := 0) hx hb dX11_first_5 (by decide) ?_
  refine lv_istore_n (lv' := [(2, .int 0), (0, .ref h1), (1, .ref h0)]) hx hb dX11_first_6 rfl hl (by decide) rfl (fun ls hl => ?_)
  refine lv_iload_n hx hb dX11_first_7 rfl (lv_at hl 0 rfl) ?_
  refine lv_aload_n hx hb dX11_first_8 rfl (lv_at hl 1 rfl) ?_
  refine va_get (D := D) (ci := 8) (v := .int 2) (C := RX11) (T := TX11) (N := 36) hx hb hU iX11 hown hK.1 hP 0 rfl rfl 0 (by decide) (hU _ w785) (fun _ h9 => h9) rfl dX11_first_9 ?_
  refine lv_icmp_ge (tgt := 27) hx hb dX11_first_12 (by decide) (fun cc => absurd cc (by decide +kernel)) (fun _ => ?_)
  refine lv_aload_n hx hb dX11_first_15 rfl (lv_at hl 2 rfl) ?_
  refine lv_iconst (v := 4) hx hb dX11_first_16 (by decide) ?_
  refine lv_iload_n hx hb dX11_first_17 rfl (lv_at hl 0 rfl) ?_
  refine lv_imul hx hb dX11_first_18 (sv_i (v := 0) (by decide +kernel) ?_)
  refine lv_lconst (v := 1) hx hb dX11_first_19 (by decide) ?_
  refine st_l (j := 0) (g := tL [1, 0, 0, 0, 0, 0, 0, 0, 0] 0) hx hb hK hP hD hS 1 rfl (by decide +kernel) upd_tL dX11_first_20 (fun H locs hP hD hS => ?_)
  have hP : va_P D cl0 [(h1, .inr (8, [.int 2, .int 0, .int 1, .int 0, .int 0, .int 0, .ref h2, .ref h3, .int 0, .int 1, .ref h4, .ref h5, .ref h0, .ref h6, .ref h7, .ref h8, .ref h9, .int 0, .int 0, .int 0, .ref h10, .ref h11, .ref h12, .ref h13, .int 1, .int 1, .ref h14, .ref h15, .ref h16, .ref h17, .int 0, .int 0, .ref h18, .ref h19, .ref h20, .ref h21])), (h0, .inl (k 1, 9, .inr (.inl (tL [1, 0, 0, 0, 0, 0, 0, 0, 0] 0))))] H := hP
  have hD : va_D A [(h1, .inr (8, [.int 2, .int 0, .int 1, .int 0, .int 0, .int 0, .ref h2, .ref h3, .int 0, .int 1, .ref h4, .ref h5, .ref h0, .ref h6, .ref h7, .ref h8, .ref h9, .int 0, .int 0, .int 0, .ref h10, .ref h11, .ref h12, .ref h13, .int 1, .int 1, .ref h14, .ref h15, .ref h16, .ref h17, .int 0, .int 0, .ref h18, .ref h19, .ref h20, .ref h21])), (h0, .inl (k 1, 9, .inr (.inl (tL [1, 0, 0, 0, 0, 0, 0, 0, 0] 0))))] := hD
  refine lv_iinc (v := 1) (lv' := [(2, .int 1), (0, .ref h1), (1, .ref h0)]) hx hb dX11_first_21 hl (k := 0) rfl (by decide) (by decide) rfl (fun ls hl => ?_)
  refine lv_goto (tgt := 7) hx hb dX11_first_24 (by decide) ?_
  refine lv_iload_n hx hb dX11_first_7 rfl (lv_at hl 0 rfl) ?_
  refine lv_aload_n hx hb dX11_first_8 rfl (lv_at hl 1 rfl) ?_
  refine va_get (D := D) (ci := 8) (v := .int 2) (C := RX11) (T := TX11) (N := 36) hx hb hU iX11 hown hK.1 hP 0 rfl rfl 0 (by decide) (hU _ w785) (fun _ h9 => h9) rfl dX11_first_9 ?_
  refine lv_icmp_ge (tgt := 27) hx hb dX11_first_12 (by decide) (fun cc => absurd cc (by decide +kernel)) (fun _ => ?_)
  refine lv_aload_n hx hb dX11_first_15 rfl (lv_at hl 2 rfl) ?_
  refine lv_iconst (v := 4) hx hb dX11_first_16 (by decide) ?_
  refine lv_iload_n hx hb dX11_first_17 rfl (lv_at hl 0 rfl) ?_
  refine lv_imul hx hb dX11_first_18 (sv_i (v := 4) (by decide +kernel) ?_)
  refine lv_lconst (v := 1) hx hb dX11_first_19 (by decide) ?_
  refine st_l (j := 4) (g := tL [1, 0, 0, 0, 1, 0, 0, 0, 0] 0) hx hb hK hP hD hS 1 rfl (by decide +kernel) upd_tL dX11_first_20 (fun H locs hP hD hS => ?_)
  have hP : va_P D cl0 [(h1, .inr (8, [.int 2, .int 0, .int 1, .int 0, .int 0, .int 0, .ref h2, .ref h3, .int 0, .int 1, .ref h4, .ref h5, .ref h0, .ref h6, .ref h7, .ref h8, .ref h9, .int 0, .int 0, .int 0, .ref h10, .ref h11, .ref h12, .ref h13, .int 1, .int 1, .ref h14, .ref h15, .ref h16, .ref h17, .int 0, .int 0, .ref h18, .ref h19, .ref h20, .ref h21])), (h0, .inl (k 1, 9, .inr (.inl (tL [1, 0, 0, 0, 1, 0, 0, 0, 0] 0))))] H := hP
  have hD : va_D A [(h1, .inr (8, [.int 2, .int 0, .int 1, .int 0, .int 0, .int 0, .ref h2, .ref h3, .int 0, .int 1, .ref h4, .ref h5, .ref h0, .ref h6, .ref h7, .ref h8, .ref h9, .int 0, .int 0, .int 0, .ref h10, .ref h11, .ref h12, .ref h13, .int 1, .int 1, .ref h14, .ref h15, .ref h16, .ref h17, .int 0, .int 0, .ref h18, .ref h19, .ref h20, .ref h21])), (h0, .inl (k 1, 9, .inr (.inl (tL [1, 0, 0, 0, 1, 0, 0, 0, 0] 0))))] := hD
  refine lv_iinc (v := 2) (lv' := [(2, .int 2), (0, .ref h1), (1, .ref h0)]) hx hb dX11_first_21 hl (k := 0) rfl (by decide) (by decide) rfl (fun ls hl => ?_)
  refine lv_goto (tgt := 7) hx hb dX11_first_24 (by decide) ?_
  refine lv_iload_n hx hb dX11_first_7 rfl (lv_at hl 0 rfl) ?_
  refine lv_aload_n hx hb dX11_first_8 rfl (lv_at hl 1 rfl) ?_
  refine va_get (D := D) (ci := 8) (v := .int 2) (C := RX11) (T := TX11) (N := 36) hx hb hU iX11 hown hK.1 hP 0 rfl rfl 0 (by decide) (hU _ w785) (fun _ h9 => h9) rfl dX11_first_9 ?_
  refine lv_icmp_ge (tgt := 27) hx hb dX11_first_12 (by decide) (fun _ => ?_) (fun cc => absurd (by decide +kernel) cc)
  exact retV hx hb hr hlocks hS (⟨hP, hD⟩) dX11_first_27
abbrev BX11_times_1 (D : va_G) (k : Nat → ClassId) (h0 h1 h2 h3 h4 h5 h6 h7 h8 h9 h10 h11 h12 h13 h14 h15 h16 h17 h18 h19 h20 h21 : Nat) (A : Nat → Prop) (H : Heap) : Prop := va_P D cl0 [(h1, .inr (8, [.int 2, .int 0, .int 1, .int 0, .int 0, .int 0, .ref h4, .ref h5, .int 0, .int 1, .ref h0, .ref h3, .ref h2, .ref h6, .ref h7, .ref h8, .ref h9, .int 0, .int 0, .int 0, .ref h10, .ref h11, .ref h12, .ref h13, .int 1, .int 1, .ref h14, .ref h15, .ref h16, .ref h17, .int 0, .int 0, .ref h18, .ref h19, .ref h20, .ref h21])), (h2, .inl (k 1, 9, .inr (.inl (tL [1, 0, 0, 0, 1, 0, 0, 0, 0] 0)))), (h3, .inl (k 1, 9, .inr (.inl (tL [1, 0, 0, 0, 1, 0, 0, 0, 0] 0)))), (h0, .inl (k 1, 9, .inr (.inl (tL [1, 0, 0, 0, 1, 0, 0, 0, 0] 0))))] H ∧ va_D A [(h1, .inr (8, [.int 2, .int 0, .int 1, .int 0, .int 0, .int 0, .ref h4, .ref h5, .int 0, .int 1, .ref h0, .ref h3, .ref h2, .ref h6, .ref h7, .ref h8, .ref h9, .int 0, .int 0, .int 0, .ref h10, .ref h11, .ref h12, .ref h13, .int 1, .int 1, .ref h14, .ref h15, .ref h16, .ref h17, .int 0, .int 0, .ref h18, .ref h19, .ref h20, .ref h21])), (h2, .inl (k 1, 9, .inr (.inl (tL [1, 0, 0, 0, 1, 0, 0, 0, 0] 0)))), (h3, .inl (k 1, 9, .inr (.inl (tL [1, 0, 0, 0, 1, 0, 0, 0, 0] 0)))), (h0, .inl (k 1, 9, .inr (.inl (tL [1, 0, 0, 0, 1, 0, 0, 0, 0] 0))))]
set_option maxHeartbeats 4000000 in
set_option maxRecDepth 100000 in
theorem cX11_times_1 (l : Launch) (D : va_G) (k : Nat → ClassId) (sz : Nat) (h0 h1 h2 h3 h4 h5 h6 h7 h8 h9 h10 h11 h12 h13 h14 h15 h16 h17 h18 h19 h20 h21 : Nat) : Met l yX11_times (Cond.code yX11_times cX11_times 7 none :: uw) ({ frames := 1, cells := 0, slots := 0, locals := 22 }) (pC D k sz [.ref h1, .ref h2, .ref h3, .ref h0] [(h0, .inl (k 1, 9, .inr (.inl (tL [] 0)))), (h1, .inr (8, [.int 2, .int 0, .int 1, .int 0, .int 0, .int 0, .ref h4, .ref h5, .int 0, .int 1, .ref h0, .ref h3, .ref h2, .ref h6, .ref h7, .ref h8, .ref h9, .int 0, .int 0, .int 0, .ref h10, .ref h11, .ref h12, .ref h13, .int 1, .int 1, .ref h14, .ref h15, .ref h16, .ref h17, .int 0, .int 0, .ref h18, .ref h19, .ref h20, .ref h21])), (h2, .inl (k 1, 9, .inr (.inl (tL [1, 0, 0, 0, 1, 0, 0, 0, 0] 0)))), (h3, .inl (k 1, 9, .inr (.inl (tL [1, 0, 0, 0, 1, 0, 0, 0, 0] 0))))]) (qV (BX11_times_1 D k h0 h1 h2 h3 h4 h5 h6 h7 h8 h9 h10 h11 h12 h13 h14 h15 h16 h17 h18 h19 h20 h21 (va_A [(h0, .inl (k 1, 9, .inr (.inl (tL [] 0)))), (h1, .inr (8, [.int 2, .int 0, .int 1, .int 0, .int 0, .int 0, .ref h4, .ref h5, .int 0, .int 1, .ref h0, .ref h3, .ref h2, .ref h6, .ref h7, .ref h8, .ref h9, .int 0, .int 0, .int 0, .ref h10, .ref h11, .ref h12, .ref h13, .int 1, .int 1, .ref h14, .ref h15, .ref h16, .ref h17, .int 0, .int 0, .ref h18, .ref h19, .ref h20, .ref h21])), (h2, .inl (k 1, 9, .inr (.inl (tL [1, 0, 0, 0, 1, 0, 0, 0, 0] 0)))), (h3, .inl (k 1, 9, .inr (.inl (tL [1, 0, 0, 0, 1, 0, 0, 0, 0] 0))))] sz)) (va_A [(h0, .inl (k 1, 9, .inr (.inl (tL [] 0)))), (h1, .inr (8, [.int 2, .int 0, .int 1, .int 0, .int 0, .int 0, .ref h4, .ref h5, .int 0, .int 1, .ref h0, .ref h3, .ref h2, .ref h6, .ref h7, .ref h8, .ref h9, .int 0, .int 0, .int 0, .ref h10, .ref h11, .ref h12, .ref h13, .int 1, .int 1, .ref h14, .ref h15, .ref h16, .ref h17, .int 0, .int 0, .ref h18, .ref h19, .ref h20, .ref h21])), (h2, .inl (k 1, 9, .inr (.inl (tL [1, 0, 0, 0, 1, 0, 0, 0, 0] 0)))), (h3, .inl (k 1, 9, .inr (.inl (tL [1, 0, 0, 0, 1, 0, 0, 0, 0] 0))))] sz)) 0 0 (va_A [(h0, .inl (k 1, 9, .inr (.inl (tL [] 0)))), (h1, .inr (8, [.int 2, .int 0, .int 1, .int 0, .int 0, .int 0, .ref h4, .ref h5, .int 0, .int 1, .ref h0, .ref h3, .ref h2, .ref h6, .ref h7, .ref h8, .ref h9, .int 0, .int 0, .int 0, .ref h10, .ref h11, .ref h12, .ref h13, .int 1, .int 1, .ref h14, .ref h15, .ref h16, .ref h17, .int 0, .int 0, .ref h18, .ref h19, .ref h20, .ref h21])), (h2, .inl (k 1, 9, .inr (.inl (tL [1, 0, 0, 0, 1, 0, 0, 0, 0] 0)))), (h3, .inl (k 1, 9, .inr (.inl (tL [1, 0, 0, 0, 1, 0, 0, 0, 0] 0))))] sz) := by
  refine begin_ (Qc := fun A => qV (BX11_times_1 D k h0 h1 h2 h3 h4 h5 h6 h7 h8 h9 h10 h11 h12 h13 h14 h15 h16 h17 h18 h19 h20 h21 A) A) (by decide) (Nat.le_of_ble_eq_true rfl) ?_
  intro p e s m below meth c ls A hx hb hr hml hown hlocks hin hU hK hsz hP hD hS hA hl
  have hl : lv_has ls 7 [(0, .ref h1), (1, .ref h2), (2, .ref h3), (3, .ref h0)] := hl
  clear hsz
  refine lv_aload_n hx hb dX11_times_0 rfl (lv_at hl 0 rfl) ?_
  refine lv_aload_n hx hb dX11_times_1 rfl (lv_at hl 3 rfl) ?_
  refine cV (rV (q0 := 1) (ci := 8) (As := [.ref h0]) (rest := []) (wc := [(h0, .inl (k 1, 9, .inr (.inl (tL [] 0))))]) hx hb hml hown hU hK hP hD rfl rfl [0] rfl (by decide) (cX11_clears_1 l D k _ h0 h1) w923 w920 w922 w29 w72 hdX11_clears ⟨rfl, rfl⟩ ⟨Nat.le_of_ble_eq_true rfl, Nat.le_of_ble_eq_true rfl⟩ rfl hl.1 (Nat.le_of_ble_eq_true rfl) dX11_times_2 ⟨Nat.le_of_ble_eq_true rfl, Nat.le_of_ble_eq_true rfl⟩) hP hD hS hA (wr := [(h1, .inr (8, [.int 2, .int 0, .int 1, .int 0, .int 0, .int 0, .ref h4, .ref h5, .int 0, .int 1, .ref h0, .ref h3, .ref h2, .ref h6, .ref h7, .ref h8, .ref h9, .int 0, .int 0, .int 0, .ref h10, .ref h11, .ref h12, .ref h13, .int 1, .int 1, .ref h14, .ref h15, .ref h16, .ref h17, .int 0, .int 0, .ref h18, .ref h19, .ref h20, .ref h21])), (h2, .inl (k 1, 9, .inr (.inl (tL [1, 0, 0, 0, 1, 0, 0, 0, 0] 0)))), (h3, .inl (k 1, 9, .inr (.inl (tL [1, 0, 0, 0, 1, 0, 0, 0, 0] 0))))]) [0] [1, 2, 3] rfl rfl (by decide) (by decide) (fun H locs hB J hS => ?_)
  obtain ⟨hP1, hD1⟩ := hB
  obtain ⟨hP, hD⟩ := J _ hP1 hD1
  have hP : va_P D cl0 [(h1, .inr (8, [.int 2, .int 0, .int 1, .int 0, .int 0, .int 0, .ref h4, .ref h5, .int 0, .int 1, .ref h0, .ref h3, .ref h2, .ref h6, .ref h7, .ref h8, .ref h9, .int 0, .int 0, .int 0, .ref h10, .ref h11, .ref h12, .ref h13, .int 1, .int 1, .ref h14, .ref h15, .ref h16, .ref h17, .int 0, .int 0, .ref h18, .ref h19, .ref h20, .ref h21])), (h2, .inl (k 1, 9, .inr (.inl (tL [1, 0, 0, 0, 1, 0, 0, 0, 0] 0)))), (h3, .inl (k 1, 9, .inr (.inl (tL [1, 0, 0, 0, 1, 0, 0, 0, 0] 0)))), (h0, .inl (k 1, 9, .inr (.inl (tL [0, 0, 0, 0, 0, 0, 0, 0, 0] 0))))] H := hP
  have hD : va_D A [(h1, .inr (8, [.int 2, .int 0, .int 1, .int 0, .int 0, .int 0, .ref h4, .ref h5, .int 0, .int 1, .ref h0, .ref h3, .ref h2, .ref h6, .ref h7, .ref h8, .ref h9, .int 0, .int 0, .int 0, .ref h10, .ref h11, .ref h12, .ref h13, .int 1, .int 1, .ref h14, .ref h15, .ref h16, .ref h17, .int 0, .int 0, .ref h18, .ref h19, .ref h20, .ref h21])), (h2, .inl (k 1, 9, .inr (.inl (tL [1, 0, 0, 0, 1, 0, 0, 0, 0] 0)))), (h3, .inl (k 1, 9, .inr (.inl (tL [1, 0, 0, 0, 1, 0, 0, 0, 0] 0)))), (h0, .inl (k 1, 9, .inr (.inl (tL [0, 0, 0, 0, 0, 0, 0, 0, 0] 0))))] := hD
  refine lv_iconst (v := 0) hx hb dX11_times_5 (by decide) ?_
  refine lv_istore (lv' := [(4, .int 0), (0, .ref h1), (1, .ref h2), (2, .ref h3), (3, .ref h0)]) hx hb dX11_times_6 hl (by decide) rfl (fun ls hl => ?_)
  refine lv_iload hx hb dX11_times_8 (lv_at hl 0 rfl) ?_
  refine lv_aload_n hx hb dX11_times_10 rfl (lv_at hl 1 rfl) ?_
  refine va_get (D := D) (ci := 8) (v := .int 2) (C := RX11) (T := TX11) (N := 36) hx hb hU iX11 hown hK.1 hP 0 rfl rfl 0 (by decide) (hU _ w785) (fun _ h9 => h9) rfl dX11_times_11 ?_
  refine lv_icmp_ge (tgt := 90) hx hb dX11_times_14 (by decide) (fun cc => absurd cc (by decide +kernel)) (fun _ => ?_)
  refine lv_iconst (v := 0) hx hb dX11_times_17 (by decide) ?_
  refine lv_istore (lv' := [(5, .int 0), (4, .int 0), (0, .ref h1), (1, .ref h2), (2, .ref h3), (3, .ref h0)]) hx hb dX11_times_18 hl (by decide) rfl (fun ls hl => ?_)
  refine lv_iload hx hb dX11_times_20 (lv_at hl 0 rfl) ?_
  refine lv_aload_n hx hb dX11_times_22 rfl (lv_at hl 2 rfl) ?_
  refine va_get (D := D) (ci := 8) (v := .int 2) (C := RX11) (T := TX11) (N := 36) hx hb hU iX11 hown hK.1 hP 0 rfl rfl 0 (by decide) (hU _ w785) (fun _ h9 => h9) rfl dX11_times_23 ?_
  refine lv_icmp_ge (tgt := 84) hx hb dX11_times_26 (by decide) (fun cc => absurd cc (by decide +kernel)) (fun _ => ?_)
  refine lv_iconst (v := 0) hx hb dX11_times_29 (by decide) ?_
  refine lv_istore (lv' := [(6, .int 0), (5, .int 0), (4, .int 0), (0, .ref h1), (1, .ref h2), (2, .ref h3), (3, .ref h0)]) hx hb dX11_times_30 hl (by decide) rfl (fun ls hl => ?_)
  refine lv_iload hx hb dX11_times_32 (lv_at hl 0 rfl) ?_
  refine lv_aload_n hx hb dX11_times_34 rfl (lv_at hl 3 rfl) ?_
  refine va_get (D := D) (ci := 8) (v := .int 2) (C := RX11) (T := TX11) (N := 36) hx hb hU iX11 hown hK.1 hP 0 rfl rfl 0 (by decide) (hU _ w785) (fun _ h9 => h9) rfl dX11_times_35 ?_
  refine lv_icmp_ge (tgt := 78) hx hb dX11_times_38 (by decide) (fun cc => absurd cc (by decide +kernel)) (fun _ => ?_)
  refine lv_aload_n hx hb dX11_times_41 rfl (lv_at hl 6 rfl) ?_
  refine lv_iconst (v := 3) hx hb dX11_times_42 (by decide) ?_
  refine lv_iload hx hb dX11_times_43 (lv_at hl 2 rfl) ?_
  refine lv_imul hx hb dX11_times_45 (sv_i (v := 0) (by decide +kernel) ?_)
  refine lv_iload hx hb dX11_times_46 (lv_at hl 1 rfl) ?_
  refine lv_iadd hx hb dX11_times_48 (sv_i (v := 0) (by decide +kernel) ?_)
  refine lv_dup2_11 hx hb dX11_times_49 rfl rfl ?_
  refine ld_l (j := 0) (v := 0) hx hb hK hP 3 rfl (by decide +kernel) rfl dX11_times_50 ?_
  refine lv_aload_n hx hb dX11_times_51 rfl (lv_at hl 4 rfl) ?_
  refine lv_iconst (v := 3) hx hb dX11_times_52 (by decide) ?_
  refine lv_iload hx hb dX11_times_53 (lv_at hl 2 rfl) ?_
  refine lv_imul hx hb dX11_times_55 (sv_i (v := 0) (by decide +kernel) ?_)
  refine lv_iload hx hb dX11_times_56 (lv_at hl 0 rfl) ?_
  refine lv_iadd hx hb dX11_times_58 (sv_i (v := 0) (by decide +kernel) ?_)
  refine ld_l (j := 0) (v := 1) hx hb hK hP 1 rfl (by decide +kernel) rfl dX11_times_59 ?_
  refine lv_aload_n hx hb dX11_times_60 rfl (lv_at hl 5 rfl) ?_
  refine lv_iconst (v := 3) hx hb dX11_times_61 (by decide) ?_
  refine lv_iload hx hb dX11_times_62 (lv_at hl 0 rfl) ?_
  refine lv_imul hx hb dX11_times_64 (sv_i (v := 0) (by decide +kernel) ?_)
  refine lv_iload hx hb dX11_times_65 (lv_at hl 1 rfl) ?_
  refine lv_iadd hx hb dX11_times_67 (sv_i (v := 0) (by decide +kernel) ?_)
  refine ld_l (j := 0) (v := 1) hx hb hK hP 2 rfl (by decide +kernel) rfl dX11_times_68 ?_
  refine lv_lmul hx hb dX11_times_69 (sv_l (v := 1) (by decide +kernel) ?_)
  refine lv_ladd hx hb dX11_times_70 (sv_l (v := 1) (by decide +kernel) ?_)
  refine st_l (j := 0) (g := tL [1, 0, 0, 0, 0, 0, 0, 0, 0] 0) hx hb hK hP hD hS 3 rfl (by decide +kernel) upd_tL dX11_times_71 (fun H locs hP hD hS => ?_)
  have hP : va_P D cl0 [(h1, .inr (8, [.int 2, .int 0, .int 1, .int 0, .int 0, .int 0, .ref h4, .ref h5, .int 0, .int 1, .ref h0, .ref h3, .ref h2, .ref h6, .ref h7, .ref h8, .ref h9, .int 0, .int 0, .int 0, .ref h10, .ref h11, .ref h12, .ref h13, .int 1, .int 1, .ref h14, .ref h15, .ref h16, .ref h17, .int 0, .int 0, .ref h18, .ref h19, .ref h20, .ref h21])), (h2, .inl (k 1, 9, .inr (.inl (tL [1, 0, 0, 0, 1, 0, 0, 0, 0] 0)))), (h3, .inl (k 1, 9, .inr (.inl (tL [1, 0, 0, 0, 1, 0, 0, 0, 0] 0)))), (h0, .inl (k 1, 9, .inr (.inl (tL [1, 0, 0, 0, 0, 0, 0, 0, 0] 0))))] H := hP
  have hD : va_D A [(h1, .inr (8, [.int 2, .int 0, .int 1, .int 0, .int 0, .int 0, .ref h4, .ref h5, .int 0, .int 1, .ref h0, .ref h3, .ref h2, .ref h6, .ref h7, .ref h8, .ref h9, .int 0, .int 0, .int 0, .ref h10, .ref h11, .ref h12, .ref h13, .int 1, .int 1, .ref h14, .ref h15, .ref h16, .ref h17, .int 0, .int 0, .ref h18, .ref h19, .ref h20, .ref h21])), (h2, .inl (k 1, 9, .inr (.inl (tL [1, 0, 0, 0, 1, 0, 0, 0, 0] 0)))), (h3, .inl (k 1, 9, .inr (.inl (tL [1, 0, 0, 0, 1, 0, 0, 0, 0] 0)))), (h0, .inl (k 1, 9, .inr (.inl (tL [1, 0, 0, 0, 0, 0, 0, 0, 0] 0))))] := hD
  refine lv_iinc (v := 1) (lv' := [(6, .int 1), (5, .int 0), (4, .int 0), (0, .ref h1), (1, .ref h2), (2, .ref h3), (3, .ref h0)]) hx hb dX11_times_72 hl (k := 0) rfl (by decide) (by decide) rfl (fun ls hl => ?_)
  refine lv_goto (tgt := 32) hx hb dX11_times_75 (by decide) ?_
  refine lv_iload hx hb dX11_times_32 (lv_at hl 0 rfl) ?_
  refine lv_aload_n hx hb dX11_times_34 rfl (lv_at hl 3 rfl) ?_
  refine va_get (D := D) (ci := 8) (v := .int 2) (C := RX11) (T := TX11) (N := 36) hx hb hU iX11 hown hK.1 hP 0 rfl rfl 0 (by decide) (hU _ w785) (fun _ h9 => h9) rfl dX11_times_35 ?_
  refine lv_icmp_ge (tgt := 78) hx hb dX11_times_38 (by decide) (fun cc => absurd cc (by decide +kernel)) (fun _ => ?_)
  refine lv_aload_n hx hb dX11_times_41 rfl (lv_at hl 6 rfl) ?_
  refine lv_iconst (v := 3) hx hb dX11_times_42 (by decide) ?_
  refine lv_iload hx hb dX11_times_43 (lv_at hl 2 rfl) ?_
  refine lv_imul hx hb dX11_times_45 (sv_i (v := 0) (by decide +kernel) ?_)
  refine lv_iload hx hb dX11_times_46 (lv_at hl 1 rfl) ?_
  refine lv_iadd hx hb dX11_times_48 (sv_i (v := 0) (by decide +kernel) ?_)
  refine lv_dup2_11 hx hb dX11_times_49 rfl rfl ?_
  refine ld_l (j := 0) (v := 1) hx hb hK hP 3 rfl (by decide +kernel) rfl dX11_times_50 ?_
  refine lv_aload_n hx hb dX11_times_51 rfl (lv_at hl 4 rfl) ?_
  refine lv_iconst (v := 3) hx hb dX11_times_52 (by decide) ?_
  refine lv_iload hx hb dX11_times_53 (lv_at hl 2 rfl) ?_
  refine lv_imul hx hb dX11_times_55 (sv_i (v := 0) (by decide +kernel) ?_)
  refine lv_iload hx hb dX11_times_56 (lv_at hl 0 rfl) ?_
  refine lv_iadd hx hb dX11_times_58 (sv_i (v := 1) (by decide +kernel) ?_)
  refine ld_l (j := 1) (v := 0) hx hb hK hP 1 rfl (by decide +kernel) rfl dX11_times_59 ?_
  refine lv_aload_n hx hb dX11_times_60 rfl (lv_at hl 5 rfl) ?_
  refine lv_iconst (v := 3) hx hb dX11_times_61 (by decide) ?_
  refine lv_iload hx hb dX11_times_62 (lv_at hl 0 rfl) ?_
  refine lv_imul hx hb dX11_times_64 (sv_i (v := 3) (by decide +kernel) ?_)
  refine lv_iload hx hb dX11_times_65 (lv_at hl 1 rfl) ?_
  refine lv_iadd hx hb dX11_times_67 (sv_i (v := 3) (by decide +kernel) ?_)
  refine ld_l (j := 3) (v := 0) hx hb hK hP 2 rfl (by decide +kernel) rfl dX11_times_68 ?_
  refine lv_lmul hx hb dX11_times_69 (sv_l (v := 0) (by decide +kernel) ?_)
  refine lv_ladd hx hb dX11_times_70 (sv_l (v := 1) (by decide +kernel) ?_)
  refine st_l (j := 0) (g := tL [1, 0, 0, 0, 0, 0, 0, 0, 0] 0) hx hb hK hP hD hS 3 rfl (by decide +kernel) upd_tL dX11_times_71 (fun H locs hP hD hS => ?_)
  have hP : va_P D cl0 [(h1, .inr (8, [.int 2, .int 0, .int 1, .int 0, .int 0, .int 0, .ref h4, .ref h5, .int 0, .int 1, .ref h0, .ref h3, .ref h2, .ref h6, .ref h7, .ref h8, .ref h9, .int 0, .int 0, .int 0, .ref h10, .ref h11, .ref h12, .ref h13, .int 1, .int 1, .ref h14, .ref h15, .ref h16, .ref h17, .int 0, .int 0, .ref h18, .ref h19, .ref h20, .ref h21])), (h2, .inl (k 1, 9, .inr (.inl (tL [1, 0, 0, 0, 1, 0, 0, 0, 0] 0)))), (h3, .inl (k 1, 9, .inr (.inl (tL [1, 0, 0, 0, 1, 0, 0, 0, 0] 0)))), (h0, .inl (k 1, 9, .inr (.inl (tL [1, 0, 0, 0, 0, 0, 0, 0, 0] 0))))] H := hP
  have hD : va_D A [(h1, .inr (8, [.int 2, .int 0, .int 1, .int 0, .int 0, .int 0, .ref h4, .ref h5, .int 0, .int 1, .ref h0, .ref h3, .ref h2, .ref h6, .ref h7, .ref h8, .ref h9, .int 0, .int 0, .int 0, .ref h10, .ref h11, .ref h12, .ref h13, .int 1, .int 1, .ref h14, .ref h15, .ref h16, .ref h17, .int 0, .int 0, .ref h18, .ref h19, .ref h20, .ref h21])), (h2, .inl (k 1, 9, .inr (.inl (tL [1, 0, 0, 0, 1, 0, 0, 0, 0] 0)))), (h3, .inl (k 1, 9, .inr (.inl (tL [1, 0, 0, 0, 1, 0, 0, 0, 0] 0)))), (h0, .inl (k 1, 9, .inr (.inl (tL [1, 0, 0, 0, 0, 0, 0, 0, 0] 0))))] := hD
  refine lv_iinc (v := 2) (lv' := [(6, .int 2), (5, .int 0), (4, .int 0), (0, .ref h1), (1, .ref h2), (2, .ref h3), (3, .ref h0)]) hx hb dX11_times_72 hl (k := 0) rfl (by decide) (by decide) rfl (fun ls hl => ?_)
  refine lv_goto (tgt := 32) hx hb dX11_times_75 (by decide) ?_
  refine lv_iload hx hb dX11_times_32 (lv_at hl 0 rfl) ?_
  refine lv_aload_n hx hb dX11_times_34 rfl (lv_at hl 3 rfl) ?_
  refine va_get (D := D) (ci := 8) (v := .int 2) (C := RX11) (T := TX11) (N := 36) hx hb hU iX11 hown hK.1 hP 0 rfl rfl 0 (by decide) (hU _ w785) (fun _ h9 => h9) rfl dX11_times_35 ?_
  refine lv_icmp_ge (tgt := 78) hx hb dX11_times_38 (by decide) (fun _ => ?_) (fun cc => absurd (by decide +kernel) cc)
  refine lv_iinc (v := 1) (lv' := [(5, .int 1), (6, .int 2), (4, .int 0), (0, .ref h1), (1, .ref h2), (2, .ref h3), (3, .ref h0)]) hx hb dX11_times_78 hl (k := 1) rfl (by decide) (by decide) rfl (fun ls hl => ?_)
  refine lv_goto (tgt := 20) hx hb dX11_times_81 (by decide) ?_
  refine lv_iload hx hb dX11_times_20 (lv_at hl 0 rfl) ?_
  refine lv_aload_n hx hb dX11_times_22 rfl (lv_at hl 3 rfl) ?_
  refine va_get (D := D) (ci := 8) (v := .int 2) (C := RX11) (T := TX11) (N := 36) hx hb hU iX11 hown hK.1 hP 0 rfl rfl 0 (by decide) (hU _ w785) (fun _ h9 => h9) rfl dX11_times_23 ?_
  refine lv_icmp_ge (tgt := 84) hx hb dX11_times_26 (by decide) (fun cc => absurd cc (by decide +kernel)) (fun _ => ?_)
  refine lv_iconst (v := 0) hx hb dX11_times_29 (by decide) ?_
  refine lv_istore (lv' := [(6, .int 0), (5, .int 1), (4, .int 0), (0, .ref h1), (1, .ref h2), (2, .ref h3), (3, .ref h0)]) hx hb dX11_times_30 hl (by decide) rfl (fun ls hl => ?_)
  refine lv_iload hx hb dX11_times_32 (lv_at hl 0 rfl) ?_
  refine lv_aload_n hx hb dX11_times_34 rfl (lv_at hl 3 rfl) ?_
  refine va_get (D := D) (ci := 8) (v := .int 2) (C := RX11) (T := TX11) (N := 36) hx hb hU iX11 hown hK.1 hP 0 rfl rfl 0 (by decide) (hU _ w785) (fun _ h9 => h9) rfl dX11_times_35 ?_
  refine lv_icmp_ge (tgt := 78) hx hb dX11_times_38 (by decide) (fun cc => absurd cc (by decide +kernel)) (fun _ => ?_)
  refine lv_aload_n hx hb dX11_times_41 rfl (lv_at hl 6 rfl) ?_
  refine lv_iconst (v := 3) hx hb dX11_times_42 (by decide) ?_
  refine lv_iload hx hb dX11_times_43 (lv_at hl 2 rfl) ?_
  refine lv_imul hx hb dX11_times_45 (sv_i (v := 0) (by decide +kernel) ?_)
  refine lv_iload hx hb dX11_times_46 (lv_at hl 1 rfl) ?_
  refine lv_iadd hx hb dX11_times_48 (sv_i (v := 1) (by decide +kernel) ?_)
  refine lv_dup2_11 hx hb dX11_times_49 rfl rfl ?_
  refine ld_l (j := 1) (v := 0) hx hb hK hP 3 rfl (by decide +kernel) rfl dX11_times_50 ?_
  refine lv_aload_n hx hb dX11_times_51 rfl (lv_at hl 4 rfl) ?_
  refine lv_iconst (v := 3) hx hb dX11_times_52 (by decide) ?_
  refine lv_iload hx hb dX11_times_53 (lv_at hl 2 rfl) ?_
  refine lv_imul hx hb dX11_times_55 (sv_i (v := 0) (by decide +kernel) ?_)
  refine lv_iload hx hb dX11_times_56 (lv_at hl 0 rfl) ?_
  refine lv_iadd hx hb dX11_times_58 (sv_i (v := 0) (by decide +kernel) ?_)
  refine ld_l (j := 0) (v := 1) hx hb hK hP 1 rfl (by decide +kernel) rfl dX11_times_59 ?_
  refine lv_aload_n hx hb dX11_times_60 rfl (lv_at hl 5 rfl) ?_
  refine lv_iconst (v := 3) hx hb dX11_times_61 (by decide) ?_
  refine lv_iload hx hb dX11_times_62 (lv_at hl 0 rfl) ?_
  refine lv_imul hx hb dX11_times_64 (sv_i (v := 0) (by decide +kernel) ?_)
  refine lv_iload hx hb dX11_times_65 (lv_at hl 1 rfl) ?_
  refine lv_iadd hx hb dX11_times_67 (sv_i (v := 1) (by decide +kernel) ?_)
  refine ld_l (j := 1) (v := 0) hx hb hK hP 2 rfl (by decide +kernel) rfl dX11_times_68 ?_
  refine lv_lmul hx hb dX11_times_69 (sv_l (v := 0) (by decide +kernel) ?_)
  refine lv_ladd hx hb dX11_times_70 (sv_l (v := 0) (by decide +kernel) ?_)
  refine st_l (j := 1) (g := tL [1, 0, 0, 0, 0, 0, 0, 0, 0] 0) hx hb hK hP hD hS 3 rfl (by decide +kernel) upd_tL dX11_times_71 (fun H locs hP hD hS => ?_)
  have hP : va_P D cl0 [(h1, .inr (8, [.int 2, .int 0, .int 1, .int 0, .int 0, .int 0, .ref h4, .ref h5, .int 0, .int 1, .ref h0, .ref h3, .ref h2, .ref h6, .ref h7, .ref h8, .ref h9, .int 0, .int 0, .int 0, .ref h10, .ref h11, .ref h12, .ref h13, .int 1, .int 1, .ref h14, .ref h15, .ref h16, .ref h17, .int 0, .int 0, .ref h18, .ref h19, .ref h20, .ref h21])), (h2, .inl (k 1, 9, .inr (.inl (tL [1, 0, 0, 0, 1, 0, 0, 0, 0] 0)))), (h3, .inl (k 1, 9, .inr (.inl (tL [1, 0, 0, 0, 1, 0, 0, 0, 0] 0)))), (h0, .inl (k 1, 9, .inr (.inl (tL [1, 0, 0, 0, 0, 0, 0, 0, 0] 0))))] H := hP
  have hD : va_D A [(h1, .inr (8, [.int 2, .int 0, .int 1, .int 0, .int 0, .int 0, .ref h4, .ref h5, .int 0, .int 1, .ref h0, .ref h3, .ref h2, .ref h6, .ref h7, .ref h8, .ref h9, .int 0, .int 0, .int 0, .ref h10, .ref h11, .ref h12, .ref h13, .int 1, .int 1, .ref h14, .ref h15, .ref h16, .ref h17, .int 0, .int 0, .ref h18, .ref h19, .ref h20, .ref h21])), (h2, .inl (k 1, 9, .inr (.inl (tL [1, 0, 0, 0, 1, 0, 0, 0, 0] 0)))), (h3, .inl (k 1, 9, .inr (.inl (tL [1, 0, 0, 0, 1, 0, 0, 0, 0] 0)))), (h0, .inl (k 1, 9, .inr (.inl (tL [1, 0, 0, 0, 0, 0, 0, 0, 0] 0))))] := hD
  refine lv_iinc (v := 1) (lv' := [(6, .int 1), (5, .int 1), (4, .int 0), (0, .ref h1), (1, .ref h2), (2, .ref h3), (3, .ref h0)]) hx hb dX11_times_72 hl (k := 0) rfl (by decide) (by decide) rfl (fun ls hl => ?_)
  refine lv_goto (tgt := 32) hx hb dX11_times_75 (by decide) ?_
  refine lv_iload hx hb dX11_times_32 (lv_at hl 0 rfl) ?_
  refine lv_aload_n hx hb dX11_times_34 rfl (lv_at hl 3 rfl) ?_
  refine va_get (D := D) (ci := 8) (v := .int 2) (C := RX11) (T := TX11) (N := 36) hx hb hU iX11 hown hK.1 hP 0 rfl rfl 0 (by decide) (hU _ w785) (fun _ h9 => h9) rfl dX11_times_35 ?_
  refine lv_icmp_ge (tgt := 78) hx hb dX11_times_38 (by decide) (fun cc => absurd cc (by decide +kernel)) (fun _ => ?_)
  refine lv_aload_n hx hb dX11_times_41 rfl (lv_at hl 6 rfl) ?_
  refine lv_iconst (v := 3) hx hb dX11_times_42 (by decide) ?_
  refine lv_iload hx hb dX11_times_43 (lv_at hl 2 rfl) ?_
  refine lv_imul hx hb dX11_times_45 (sv_i (v := 0) (by decide +kernel) ?_)
  refine lv_iload hx hb dX11_times_46 (lv_at hl 1 rfl) ?_
  refine lv_iadd hx hb dX11_times_48 (sv_i (v := 1) (by decide +kernel) ?_)
  refine lv_dup2_11 hx hb dX11_times_49 rfl rfl ?_
  refine ld_l (j := 1) (v := 0) hx hb hK hP 3 rfl (by decide +kernel) rfl dX11_times_50 ?_
  refine lv_aload_n hx hb dX11_times_51 rfl (lv_at hl 4 rfl) ?_
  refine lv_iconst (v := 3) hx hb dX11_times_52 (by decide) ?_
  refine lv_iload hx hb dX11_times_53 (lv_at hl 2 rfl) ?_
  refine lv_imul hx hb dX11_times_55 (sv_i (v := 0) (by decide +kernel) ?_)
  refine lv_iload hx hb dX11_times_56 (lv_at hl 0 rfl) ?_
  refine lv_iadd hx hb dX11_times_58 (sv_i (v := 1) (by decide +kernel) ?_)
  refine ld_l (j := 1) (v := 0) hx hb hK hP 1 rfl (by decide +kernel) rfl dX11_times_59 ?_
  refine lv_aload_n hx hb dX11_times_60 rfl (lv_at hl 5 rfl) ?_
  refine lv_iconst (v := 3) hx hb dX11_times_61 (by decide) ?_
  refine lv_iload hx hb dX11_times_62 (lv_at hl 0 rfl) ?_
  refine lv_imul hx hb dX11_times_64 (sv_i (v := 3) (by decide +kernel) ?_)
  refine lv_iload hx hb dX11_times_65 (lv_at hl 1 rfl) ?_
  refine lv_iadd hx hb dX11_times_67 (sv_i (v := 4) (by decide +kernel) ?_)
  refine ld_l (j := 4) (v := 1) hx hb hK hP 2 rfl (by decide +kernel) rfl dX11_times_68 ?_
  refine lv_lmul hx hb dX11_times_69 (sv_l (v := 0) (by decide +kernel) ?_)
  refine lv_ladd hx hb dX11_times_70 (sv_l (v := 0) (by decide +kernel) ?_)
  refine st_l (j := 1) (g := tL [1, 0, 0, 0, 0, 0, 0, 0, 0] 0) hx hb hK hP hD hS 3 rfl (by decide +kernel) upd_tL dX11_times_71 (fun H locs hP hD hS => ?_)
  have hP : va_P D cl0 [(h1, .inr (8, [.int 2, .int 0, .int 1, .int 0, .int 0, .int 0, .ref h4, .ref h5, .int 0, .int 1, .ref h0, .ref h3, .ref h2, .ref h6, .ref h7, .ref h8, .ref h9, .int 0, .int 0, .int 0, .ref h10, .ref h11, .ref h12, .ref h13, .int 1, .int 1, .ref h14, .ref h15, .ref h16, .ref h17, .int 0, .int 0, .ref h18, .ref h19, .ref h20, .ref h21])), (h2, .inl (k 1, 9, .inr (.inl (tL [1, 0, 0, 0, 1, 0, 0, 0, 0] 0)))), (h3, .inl (k 1, 9, .inr (.inl (tL [1, 0, 0, 0, 1, 0, 0, 0, 0] 0)))), (h0, .inl (k 1, 9, .inr (.inl (tL [1, 0, 0, 0, 0, 0, 0, 0, 0] 0))))] H := hP
  have hD : va_D A [(h1, .inr (8, [.int 2, .int 0, .int 1, .int 0, .int 0, .int 0, .ref h4, .ref h5, .int 0, .int 1, .ref h0, .ref h3, .ref h2, .ref h6, .ref h7, .ref h8, .ref h9, .int 0, .int 0, .int 0, .ref h10, .ref h11, .ref h12, .ref h13, .int 1, .int 1, .ref h14, .ref h15, .ref h16, .ref h17, .int 0, .int 0, .ref h18, .ref h19, .ref h20, .ref h21])), (h2, .inl (k 1, 9, .inr (.inl (tL [1, 0, 0, 0, 1, 0, 0, 0, 0] 0)))), (h3, .inl (k 1, 9, .inr (.inl (tL [1, 0, 0, 0, 1, 0, 0, 0, 0] 0)))), (h0, .inl (k 1, 9, .inr (.inl (tL [1, 0, 0, 0, 0, 0, 0, 0, 0] 0))))] := hD
  refine lv_iinc (v := 2) (lv' := [(6, .int 2), (5, .int 1), (4, .int 0), (0, .ref h1), (1, .ref h2), (2, .ref h3), (3, .ref h0)]) hx hb dX11_times_72 hl (k := 0) rfl (by decide) (by decide) rfl (fun ls hl => ?_)
  refine lv_goto (tgt := 32) hx hb dX11_times_75 (by decide) ?_
  refine lv_iload hx hb dX11_times_32 (lv_at hl 0 rfl) ?_
  refine lv_aload_n hx hb dX11_times_34 rfl (lv_at hl 3 rfl) ?_
  refine va_get (D := D) (ci := 8) (v := .int 2) (C := RX11) (T := TX11) (N := 36) hx hb hU iX11 hown hK.1 hP 0 rfl rfl 0 (by decide) (hU _ w785) (fun _ h9 => h9) rfl dX11_times_35 ?_
  refine lv_icmp_ge (tgt := 78) hx hb dX11_times_38 (by decide) (fun _ => ?_) (fun cc => absurd (by decide +kernel) cc)
  refine lv_iinc (v := 2) (lv' := [(5, .int 2), (6, .int 2), (4, .int 0), (0, .ref h1), (1, .ref h2), (2, .ref h3), (3, .ref h0)]) hx hb dX11_times_78 hl (k := 1) rfl (by decide) (by decide) rfl (fun ls hl => ?_)
  refine lv_goto (tgt := 20) hx hb dX11_times_81 (by decide) ?_
  refine lv_iload hx hb dX11_times_20 (lv_at hl 0 rfl) ?_
  refine lv_aload_n hx hb dX11_times_22 rfl (lv_at hl 3 rfl) ?_
  refine va_get (D := D) (ci := 8) (v := .int 2) (C := RX11) (T := TX11) (N := 36) hx hb hU iX11 hown hK.1 hP 0 rfl rfl 0 (by decide) (hU _ w785) (fun _ h9 => h9) rfl dX11_times_23 ?_
  refine lv_icmp_ge (tgt := 84) hx hb dX11_times_26 (by decide) (fun _ => ?_) (fun cc => absurd (by decide +kernel) cc)
  refine lv_iinc (v := 1) (lv' := [(4, .int 1), (5, .int 2), (6, .int 2), (0, .ref h1), (1, .ref h2), (2, .ref h3), (3, .ref h0)]) hx hb dX11_times_84 hl (k := 2) rfl (by decide) (by decide) rfl (fun ls hl => ?_)
  refine lv_goto (tgt := 8) hx hb dX11_times_87 (by decide) ?_
  refine lv_iload hx hb dX11_times_8 (lv_at hl 0 rfl) ?_
  refine lv_aload_n hx hb dX11_times_10 rfl (lv_at hl 3 rfl) ?_
  refine va_get (D := D) (ci := 8) (v := .int 2) (C := RX11) (T := TX11) (N := 36) hx hb hU iX11 hown hK.1 hP 0 rfl rfl 0 (by decide) (hU _ w785) (fun _ h9 => h9) rfl dX11_times_11 ?_
  refine lv_icmp_ge (tgt := 90) hx hb dX11_times_14 (by decide) (fun cc => absurd cc (by decide +kernel)) (fun _ => ?_)
  refine lv_iconst (v := 0) hx hb dX11_times_17 (by decide) ?_
  refine lv_istore (lv' := [(5, .int 0), (4, .int 1), (6, .int 2), (0, .ref h1), (1, .ref h2), (2, .ref h3), (3, .ref h0)]) hx hb dX11_times_18 hl (by decide) rfl (fun ls hl => ?_)
  refine lv_iload hx hb dX11_times_20 (lv_at hl 0 rfl) ?_
  refine lv_aload_n hx hb dX11_times_22 rfl (lv_at hl 3 rfl) ?_
  refine va_get (D := D) (ci := 8) (v := .int 2) (C := RX11) (T := TX11) (N := 36) hx hb hU iX11 hown hK.1 hP 0 rfl rfl 0 (by decide) (hU _ w785) (fun _ h9 => h9) rfl dX11_times_23 ?_
  refine lv_icmp_ge (tgt := 84) hx hb dX11_times_26 (by decide) (fun cc => absurd cc (by decide +kernel)) (fun _ => ?_)
  refine lv_iconst (v := 0) hx hb dX11_times_29 (by decide) ?_
  refine lv_istore (lv' := [(6, .int 0), (5, .int 0), (4, .int 1), (0, .ref h1), (1, .ref h2), (2, .ref h3), (3, .ref h0)]) hx hb dX11_times_30 hl (by decide) rfl (fun ls hl => ?_)
  refine lv_iload hx hb dX11_times_32 (lv_at hl 0 rfl) ?_
  refine lv_aload_n hx hb dX11_times_34 rfl (lv_at hl 3 rfl) ?_
  refine va_get (D := D) (ci := 8) (v := .int 2) (C := RX11) (T := TX11) (N := 36) hx hb hU iX11 hown hK.1 hP 0 rfl rfl 0 (by decide) (hU _ w785) (fun _ h9 => h9) rfl dX11_times_35 ?_
  refine lv_icmp_ge (tgt := 78) hx hb dX11_times_38 (by decide) (fun cc => absurd cc (by decide +kernel)) (fun _ => ?_)
  refine lv_aload_n hx hb dX11_times_41 rfl (lv_at hl 6 rfl) ?_
  refine lv_iconst (v := 3) hx hb dX11_times_42 (by decide) ?_
  refine lv_iload hx hb dX11_times_43 (lv_at hl 2 rfl) ?_
  refine lv_imul hx hb dX11_times_45 (sv_i (v := 3) (by decide +kernel) ?_)
  refine lv_iload hx hb dX11_times_46 (lv_at hl 1 rfl) ?_
  refine lv_iadd hx hb dX11_times_48 (sv_i (v := 3) (by decide +kernel) ?_)
  refine lv_dup2_11 hx hb dX11_times_49 rfl rfl ?_
  refine ld_l (j := 3) (v := 0) hx hb hK hP 3 rfl (by decide +kernel) rfl dX11_times_50 ?_
  refine lv_aload_n hx hb dX11_times_51 rfl (lv_at hl 4 rfl) ?_
  refine lv_iconst (v := 3) hx hb dX11_times_52 (by decide) ?_
  refine lv_iload hx hb dX11_times_53 (lv_at hl 2 rfl) ?_
  refine lv_imul hx hb dX11_times_55 (sv_i (v := 3) (by decide +kernel) ?_)
  refine lv_iload hx hb dX11_times_56 (lv_at hl 0 rfl) ?_
  refine lv_iadd hx hb dX11_times_58 (sv_i (v := 3) (by decide +kernel) ?_)
  refine ld_l (j := 3) (v := 0) hx hb hK hP 1 rfl (by decide +kernel) rfl dX11_times_59 ?_
  refine lv_aload_n hx hb dX11_times_60 rfl (lv_at hl 5 rfl) ?_
  refine lv_iconst (v := 3) hx hb dX11_times_61 (by decide) ?_
  refine lv_iload hx hb dX11_times_62 (lv_at hl 0 rfl) ?_
  refine lv_imul hx hb dX11_times_64 (sv_i (v := 0) (by decide +kernel) ?_)
  refine lv_iload hx hb dX11_times_65 (lv_at hl 1 rfl) ?_
  refine lv_iadd hx hb dX11_times_67 (sv_i (v := 0) (by decide +kernel) ?_)
  refine ld_l (j := 0) (v := 1) hx hb hK hP 2 rfl (by decide +kernel) rfl dX11_times_68 ?_
  refine lv_lmul hx hb dX11_times_69 (sv_l (v := 0) (by decide +kernel) ?_)
  refine lv_ladd hx hb dX11_times_70 (sv_l (v := 0) (by decide +kernel) ?_)
  refine st_l (j := 3) (g := tL [1, 0, 0, 0, 0, 0, 0, 0, 0] 0) hx hb hK hP hD hS 3 rfl (by decide +kernel) upd_tL dX11_times_71 (fun H locs hP hD hS => ?_)
  have hP : va_P D cl0 [(h1, .inr (8, [.int 2, .int 0, .int 1, .int 0, .int 0, .int 0, .ref h4, .ref h5, .int 0, .int 1, .ref h0, .ref h3, .ref h2, .ref h6, .ref h7, .ref h8, .ref h9, .int 0, .int 0, .int 0, .ref h10, .ref h11, .ref h12, .ref h13, .int 1, .int 1, .ref h14, .ref h15, .ref h16, .ref h17, .int 0, .int 0, .ref h18, .ref h19, .ref h20, .ref h21])), (h2, .inl (k 1, 9, .inr (.inl (tL [1, 0, 0, 0, 1, 0, 0, 0, 0] 0)))), (h3, .inl (k 1, 9, .inr (.inl (tL [1, 0, 0, 0, 1, 0, 0, 0, 0] 0)))), (h0, .inl (k 1, 9, .inr (.inl (tL [1, 0, 0, 0, 0, 0, 0, 0, 0] 0))))] H := hP
  have hD : va_D A [(h1, .inr (8, [.int 2, .int 0, .int 1, .int 0, .int 0, .int 0, .ref h4, .ref h5, .int 0, .int 1, .ref h0, .ref h3, .ref h2, .ref h6, .ref h7, .ref h8, .ref h9, .int 0, .int 0, .int 0, .ref h10, .ref h11, .ref h12, .ref h13, .int 1, .int 1, .ref h14, .ref h15, .ref h16, .ref h17, .int 0, .int 0, .ref h18, .ref h19, .ref h20, .ref h21])), (h2, .inl (k 1, 9, .inr (.inl (tL [1, 0, 0, 0, 1, 0, 0, 0, 0] 0)))), (h3, .inl (k 1, 9, .inr (.inl (tL [1, 0, 0, 0, 1, 0, 0, 0, 0] 0)))), (h0, .inl (k 1, 9, .inr (.inl (tL [1, 0, 0, 0, 0, 0, 0, 0, 0] 0))))] := hD
  refine lv_iinc (v := 1) (lv' := [(6, .int 1), (5, .int 0), (4, .int 1), (0, .ref h1), (1, .ref h2), (2, .ref h3), (3, .ref h0)]) hx hb dX11_times_72 hl (k := 0) rfl (by decide) (by decide) rfl (fun ls hl => ?_)
  refine lv_goto (tgt := 32) hx hb dX11_times_75 (by decide) ?_
  refine lv_iload hx hb dX11_times_32 (lv_at hl 0 rfl) ?_
  refine lv_aload_n hx hb dX11_times_34 rfl (lv_at hl 3 rfl) ?_
  refine va_get (D := D) (ci := 8) (v := .int 2) (C := RX11) (T := TX11) (N := 36) hx hb hU iX11 hown hK.1 hP 0 rfl rfl 0 (by decide) (hU _ w785) (fun _ h9 => h9) rfl dX11_times_35 ?_
  refine lv_icmp_ge (tgt := 78) hx hb dX11_times_38 (by decide) (fun cc => absurd cc (by decide +kernel)) (fun _ => ?_)
  refine lv_aload_n hx hb dX11_times_41 rfl (lv_at hl 6 rfl) ?_
  refine lv_iconst (v := 3) hx hb dX11_times_42 (by decide) ?_
  refine lv_iload hx hb dX11_times_43 (lv_at hl 2 rfl) ?_
  refine lv_imul hx hb dX11_times_45 (sv_i (v := 3) (by decide +kernel) ?_)
  refine lv_iload hx hb dX11_times_46 (lv_at hl 1 rfl) ?_
  refine lv_iadd hx hb dX11_times_48 (sv_i (v := 3) (by decide +kernel) ?_)
  refine lv_dup2_11 hx hb dX11_times_49 rfl rfl ?_
  refine ld_l (j := 3) (v := 0) hx hb hK hP 3 rfl (by decide +kernel) rfl dX11_times_50 ?_
  refine lv_aload_n hx hb dX11_times_51 rfl (lv_at hl 4 rfl) ?_
  refine lv_iconst (v := 3) hx hb dX11_times_52 (by decide) ?_
  refine lv_iload hx hb dX11_times_53 (lv_at hl 2 rfl) ?_
  refine lv_imul hx hb dX11_times_55 (sv_i (v := 3) (by decide +kernel) ?_)
  refine lv_iload hx hb dX11_times_56 (lv_at hl 0 rfl) ?_
  refine lv_iadd hx hb dX11_times_58 (sv_i (v := 4) (by decide +kernel) ?_)
  refine ld_l (j := 4) (v := 1) hx hb hK hP 1 rfl (by decide +kernel) rfl dX11_times_59 ?_
  refine lv_aload_n hx hb dX11_times_60 rfl (lv_at hl 5 rfl) ?_
  refine lv_iconst (v := 3) hx hb dX11_times_61 (by decide) ?_
  refine lv_iload hx hb dX11_times_62 (lv_at hl 0 rfl) ?_
  refine lv_imul hx hb dX11_times_64 (sv_i (v := 3) (by decide +kernel) ?_)
  refine lv_iload hx hb dX11_times_65 (lv_at hl 1 rfl) ?_
  refine lv_iadd hx hb dX11_times_67 (sv_i (v := 3) (by decide +kernel) ?_)
  refine ld_l (j := 3) (v := 0) hx hb hK hP 2 rfl (by decide +kernel) rfl dX11_times_68 ?_
  refine lv_lmul hx hb dX11_times_69 (sv_l (v := 0) (by decide +kernel) ?_)
  refine lv_ladd hx hb dX11_times_70 (sv_l (v := 0) (by decide +kernel) ?_)
  refine st_l (j := 3) (g := tL [1, 0, 0, 0, 0, 0, 0, 0, 0] 0) hx hb hK hP hD hS 3 rfl (by decide +kernel) upd_tL dX11_times_71 (fun H locs hP hD hS => ?_)
  have hP : va_P D cl0 [(h1, .inr (8, [.int 2, .int 0, .int 1, .int 0, .int 0, .int 0, .ref h4, .ref h5, .int 0, .int 1, .ref h0, .ref h3, .ref h2, .ref h6, .ref h7, .ref h8, .ref h9, .int 0, .int 0, .int 0, .ref h10, .ref h11, .ref h12, .ref h13, .int 1, .int 1, .ref h14, .ref h15, .ref h16, .ref h17, .int 0, .int 0, .ref h18, .ref h19, .ref h20, .ref h21])), (h2, .inl (k 1, 9, .inr (.inl (tL [1, 0, 0, 0, 1, 0, 0, 0, 0] 0)))), (h3, .inl (k 1, 9, .inr (.inl (tL [1, 0, 0, 0, 1, 0, 0, 0, 0] 0)))), (h0, .inl (k 1, 9, .inr (.inl (tL [1, 0, 0, 0, 0, 0, 0, 0, 0] 0))))] H := hP
  have hD : va_D A [(h1, .inr (8, [.int 2, .int 0, .int 1, .int 0, .int 0, .int 0, .ref h4, .ref h5, .int 0, .int 1, .ref h0, .ref h3, .ref h2, .ref h6, .ref h7, .ref h8, .ref h9, .int 0, .int 0, .int 0, .ref h10, .ref h11, .ref h12, .ref h13, .int 1, .int 1, .ref h14, .ref h15, .ref h16, .ref h17, .int 0, .int 0, .ref h18, .ref h19, .ref h20, .ref h21])), (h2, .inl (k 1, 9, .inr (.inl (tL [1, 0, 0, 0, 1, 0, 0, 0, 0] 0)))), (h3, .inl (k 1, 9, .inr (.inl (tL [1, 0, 0, 0, 1, 0, 0, 0, 0] 0)))), (h0, .inl (k 1, 9, .inr (.inl (tL [1, 0, 0, 0, 0, 0, 0, 0, 0] 0))))] := hD
  refine lv_iinc (v := 2) (lv' := [(6, .int 2), (5, .int 0), (4, .int 1), (0, .ref h1), (1, .ref h2), (2, .ref h3), (3, .ref h0)]) hx hb dX11_times_72 hl (k := 0) rfl (by decide) (by decide) rfl (fun ls hl => ?_)
  refine lv_goto (tgt := 32) hx hb dX11_times_75 (by decide) ?_
  refine lv_iload hx hb dX11_times_32 (lv_at hl 0 rfl) ?_
  refine lv_aload_n hx hb dX11_times_34 rfl (lv_at hl 3 rfl) ?_
  refine va_get (D := D) (ci := 8) (v := .int 2) (C := RX11) (T := TX11) (N := 36) hx hb hU iX11 hown hK.1 hP 0 rfl rfl 0 (by decide) (hU _ w785) (fun _ h9 => h9) rfl dX11_times_35 ?_
  refine lv_icmp_ge (tgt := 78) hx hb dX11_times_38 (by decide) (fun _ => ?_) (fun cc => absurd (by decide +kernel) cc)
  refine lv_iinc (v := 1) (lv' := [(5, .int 1), (6, .int 2), (4, .int 1), (0, .ref h1), (1, .ref h2), (2, .ref h3), (3, .ref h0)]) hx hb dX11_times_78 hl (k := 1) rfl (by decide) (by decide) rfl (fun ls hl => ?_)
  refine lv_goto (tgt := 20) hx hb dX11_times_81 (by decide) ?_
  refine lv_iload hx hb dX11_times_20 (lv_at hl 0 rfl) ?_
  refine lv_aload_n hx hb dX11_times_22 rfl (lv_at hl 3 rfl) ?_
  refine va_get (D := D) (ci := 8) (v := .int 2) (C := RX11) (T := TX11) (N := 36) hx hb hU iX11 hown hK.1 hP 0 rfl rfl 0 (by decide) (hU _ w785) (fun _ h9 => h9) rfl dX11_times_23 ?_
  refine lv_icmp_ge (tgt := 84) hx hb dX11_times_26 (by decide) (fun cc => absurd cc (by decide +kernel)) (fun _ => ?_)
  refine lv_iconst (v := 0) hx hb dX11_times_29 (by decide) ?_
  refine lv_istore (lv' := [(6, .int 0), (5, .int 1), (4, .int 1), (0, .ref h1), (1, .ref h2), (2, .ref h3), (3, .ref h0)]) hx hb dX11_times_30 hl (by decide) rfl (fun ls hl => ?_)
  refine lv_iload hx hb dX11_times_32 (lv_at hl 0 rfl) ?_
  refine lv_aload_n hx hb dX11_times_34 rfl (lv_at hl 3 rfl) ?_
  refine va_get (D := D) (ci := 8) (v := .int 2) (C := RX11) (T := TX11) (N := 36) hx hb hU iX11 hown hK.1 hP 0 rfl rfl 0 (by decide) (hU _ w785) (fun _ h9 => h9) rfl dX11_times_35 ?_
  refine lv_icmp_ge (tgt := 78) hx hb dX11_times_38 (by decide) (fun cc => absurd cc (by decide +kernel)) (fun _ => ?_)
  refine lv_aload_n hx hb dX11_times_41 rfl (lv_at hl 6 rfl) ?_
  refine lv_iconst (v := 3) hx hb dX11_times_42 (by decide) ?_
  refine lv_iload hx hb dX11_times_43 (lv_at hl 2 rfl) ?_
  refine lv_imul hx hb dX11_times_45 (sv_i (v := 3) (by decide +kernel) ?_)
  refine lv_iload hx hb dX11_times_46 (lv_at hl 1 rfl) ?_
  refine lv_iadd hx hb dX11_times_48 (sv_i (v := 4) (by decide +kernel) ?_)
  refine lv_dup2_11 hx hb dX11_times_49 rfl rfl ?_
  refine ld_l (j := 4) (v := 0) hx hb hK hP 3 rfl (by decide +kernel) rfl dX11_times_50 ?_
  refine lv_aload_n hx hb dX11_times_51 rfl (lv_at hl 4 rfl) ?_
  refine lv_iconst (v := 3) hx hb dX11_times_52 (by decide) ?_
  refine lv_iload hx hb dX11_times_53 (lv_at hl 2 rfl) ?_
  refine lv_imul hx hb dX11_times_55 (sv_i (v := 3) (by decide +kernel) ?_)
  refine lv_iload hx hb dX11_times_56 (lv_at hl 0 rfl) ?_
  refine lv_iadd hx hb dX11_times_58 (sv_i (v := 3) (by decide +kernel) ?_)
  refine ld_l (j := 3) (v := 0) hx hb hK hP 1 rfl (by decide +kernel) rfl dX11_times_59 ?_
  refine lv_aload_n hx hb dX11_times_60 rfl (lv_at hl 5 rfl) ?_
  refine lv_iconst (v := 3) hx hb dX11_times_61 (by decide) ?_
  refine lv_iload hx hb dX11_times_62 (lv_at hl 0 rfl) ?_
  refine lv_imul hx hb dX11_times_64 (sv_i (v := 0) (by decide +kernel) ?_)
  refine lv_iload hx hb dX11_times_65 (lv_at hl 1 rfl) ?_
  refine lv_iadd hx hb dX11_times_67 (sv_i (v := 1) (by decide +kernel) ?_)
  refine ld_l (j := 1) (v := 0) hx hb hK hP 2 rfl (by decide +kernel) rfl dX11_times_68 ?_
  refine lv_lmul hx hb dX11_times_69 (sv_l (v := 0) (by decide +kernel) ?_)
  refine lv_ladd hx hb dX11_times_70 (sv_l (v := 0) (by decide +kernel) ?_)
  refine st_l (j := 4) (g := tL [1, 0, 0, 0, 0, 0, 0, 0, 0] 0) hx hb hK hP hD hS 3 rfl (by decide +kernel) upd_tL dX11_times_71 (fun H locs hP hD hS => ?_)
  have hP : va_P D cl0 [(h1, .inr (8, [.int 2, .int 0, .int 1, .int 0, .int 0, .int 0, .ref h4, .ref h5, .int 0, .int 1, .ref h0, .ref h3, .ref h2, .ref h6, .ref h7, .ref h8, .ref h9, .int 0, .int 0, .int 0, .ref h10, .ref h11, .ref h12, .ref h13, .int 1, .int 1, .ref h14, .ref h15, .ref h16, .ref h17, .int 0, .int 0, .ref h18, .ref h19, .ref h20, .ref h21])), (h2, .inl (k 1, 9, .inr (.inl (tL [1, 0, 0, 0, 1, 0, 0, 0, 0] 0)))), (h3, .inl (k 1, 9, .inr (.inl (tL [1, 0, 0, 0, 1, 0, 0, 0, 0] 0)))), (h0, .inl (k 1, 9, .inr (.inl (tL [1, 0, 0, 0, 0, 0, 0, 0, 0] 0))))] H := hP
  have hD : va_D A [(h1, .inr (8, [.int 2, .int 0, .int 1, .int 0, .int 0, .int 0, .ref h4, .ref h5, .int 0, .int 1, .ref h0, .ref h3, .ref h2, .ref h6, .ref h7, .ref h8, .ref h9, .int 0, .int 0, .int 0, .ref h10, .ref h11, .ref h12, .ref h13, .int 1, .int 1, .ref h14, .ref h15, .ref h16, .ref h17, .int 0, .int 0, .ref h18, .ref h19, .ref h20, .ref h21])), (h2, .inl (k 1, 9, .inr (.inl (tL [1, 0, 0, 0, 1, 0, 0, 0, 0] 0)))), (h3, .inl (k 1, 9, .inr (.inl (tL [1, 0, 0, 0, 1, 0, 0, 0, 0] 0)))), (h0, .inl (k 1, 9, .inr (.inl (tL [1, 0, 0, 0, 0, 0, 0, 0, 0] 0))))] := hD
  refine lv_iinc (v := 1) (lv' := [(6, .int 1), (5, .int 1), (4, .int 1), (0, .ref h1), (1, .ref h2), (2, .ref h3), (3, .ref h0)]) hx hb dX11_times_72 hl (k := 0) rfl (by decide) (by decide) rfl (fun ls hl => ?_)
  refine lv_goto (tgt := 32) hx hb dX11_times_75 (by decide) ?_
  refine lv_iload hx hb dX11_times_32 (lv_at hl 0 rfl) ?_
  refine lv_aload_n hx hb dX11_times_34 rfl (lv_at hl 3 rfl) ?_
  refine va_get (D := D) (ci := 8) (v := .int 2) (C := RX11) (T := TX11) (N := 36) hx hb hU iX11 hown hK.1 hP 0 rfl rfl 0 (by decide) (hU _ w785) (fun _ h9 => h9) rfl dX11_times_35 ?_
  refine lv_icmp_ge (tgt := 78) hx hb dX11_times_38 (by decide) (fun cc => absurd cc (by decide +kernel)) (fun _ => ?_)
  refine lv_aload_n hx hb dX11_times_41 rfl (lv_at hl 6 rfl) ?_
  refine lv_iconst (v := 3) hx hb dX11_times_42 (by decide) ?_
  refine lv_iload hx hb dX11_times_43 (lv_at hl 2 rfl) ?_
  refine lv_imul hx hb dX11_times_45 (sv_i (v := 3) (by decide +kernel) ?_)
  refine lv_iload hx hb dX11_times_46 (lv_at hl 1 rfl) ?_
  refine lv_iadd hx hb dX11_times_48 (sv_i (v := 4) (by decide +kernel) ?_)
  refine lv_dup2_11 hx hb dX11_times_49 rfl rfl ?_
  refine ld_l (j := 4) (v := 0) hx hb hK hP 3 rfl (by decide +kernel) rfl dX11_times_50 ?_
  refine lv_aload_n hx hb dX11_times_51 rfl (lv_at hl 4 rfl) ?_
  refine lv_iconst (v := 3) hx hb dX11_times_52 (by decide) ?_
  refine lv_iload hx hb dX11_times_53 (lv_at hl 2 rfl) ?_
  refine lv_imul hx hb dX11_times_55 (sv_i (v := 3) (by decide +kernel) ?_)
  refine lv_iload hx hb dX11_times_56 (lv_at hl 0 rfl) ?_
  refine lv_iadd hx hb dX11_times_58 (sv_i (v := 4) (by decide +kernel) ?_)
  refine ld_l (j := 4) (v := 1) hx hb hK hP 1 rfl (by decide +kernel) rfl dX11_times_59 ?_
  refine lv_aload_n hx hb dX11_times_60 rfl (lv_at hl 5 rfl) ?_
  refine lv_iconst (v := 3) hx hb dX11_times_61 (by decide) ?_
  refine lv_iload hx hb dX11_times_62 (lv_at hl 0 rfl) ?_
  refine lv_imul hx hb dX11_times_64 (sv_i (v := 3) (by decide +kernel) ?_)
  refine lv_iload hx hb dX11_times_65 (lv_at hl 1 rfl) ?_
  refine lv_iadd hx hb dX11_times_67 (sv_i (v := 4) (by decide +kernel) ?_)
  refine ld_l (j := 4) (v := 1) hx hb hK hP 2 rfl (by decide +kernel) rfl dX11_times_68 ?_
  refine lv_lmul hx hb dX11_times_69 (sv_l (v := 1) (by decide +kernel) ?_)
  refine lv_ladd hx hb dX11_times_70 (sv_l (v := 1) (by decide +kernel) ?_)
  refine st_l (j := 4) (g := tL [1, 0, 0, 0, 1, 0, 0, 0, 0] 0) hx hb hK hP hD hS 3 rfl (by decide +kernel) upd_tL dX11_times_71 (fun H locs hP hD hS => ?_)
  have hP : va_P D cl0 [(h1, .inr (8, [.int 2, .int 0, .int 1, .int 0, .int 0, .int 0, .ref h4, .ref h5, .int 0, .int 1, .ref h0, .ref h3, .ref h2, .ref h6, .ref h7, .ref h8, .ref h9, .int 0, .int 0, .int 0, .ref h10, .ref h11, .ref h12, .ref h13, .int 1, .int 1, .ref h14, .ref h15, .ref h16, .ref h17, .int 0, .int 0, .ref h18, .ref h19, .ref h20, .ref h21])), (h2, .inl (k 1, 9, .inr (.inl (tL [1, 0, 0, 0, 1, 0, 0, 0, 0] 0)))), (h3, .inl (k 1, 9, .inr (.inl (tL [1, 0, 0, 0, 1, 0, 0, 0, 0] 0)))), (h0, .inl (k 1, 9, .inr (.inl (tL [1, 0, 0, 0, 1, 0, 0, 0, 0] 0))))] H := hP
  have hD : va_D A [(h1, .inr (8, [.int 2, .int 0, .int 1, .int 0, .int 0, .int 0, .ref h4, .ref h5, .int 0, .int 1, .ref h0, .ref h3, .ref h2, .ref h6, .ref h7, .ref h8, .ref h9, .int 0, .int 0, .int 0, .ref h10, .ref h11, .ref h12, .ref h13, .int 1, .int 1, .ref h14, .ref h15, .ref h16, .ref h17, .int 0, .int 0, .ref h18, .ref h19, .ref h20, .ref h21])), (h2, .inl (k 1, 9, .inr (.inl (tL [1, 0, 0, 0, 1, 0, 0, 0, 0] 0)))), (h3, .inl (k 1, 9, .inr (.inl (tL [1, 0, 0, 0, 1, 0, 0, 0, 0] 0)))), (h0, .inl (k 1, 9, .inr (.inl (tL [1, 0, 0, 0, 1, 0, 0, 0, 0] 0))))] := hD
  refine lv_iinc (v := 2) (lv' := [(6, .int 2), (5, .int 1), (4, .int 1), (0, .ref h1), (1, .ref h2), (2, .ref h3), (3, .ref h0)]) hx hb dX11_times_72 hl (k := 0) rfl (by decide) (by decide) rfl (fun ls hl => ?_)
  refine lv_goto (tgt := 32) hx hb dX11_times_75 (by decide) ?_
  refine lv_iload hx hb dX11_times_32 (lv_at hl 0 rfl) ?_
  refine lv_aload_n hx hb dX11_times_34 rfl (lv_at hl 3 rfl) ?_
  refine va_get (D := D) (ci := 8) (v := .int 2) (C := RX11) (T := TX11) (N := 36) hx hb hU iX11 hown hK.1 hP 0 rfl rfl 0 (by decide) (hU _ w785) (fun _ h9 => h9) rfl dX11_times_35 ?_
  refine lv_icmp_ge (tgt := 78) hx hb dX11_times_38 (by decide) (fun _ => ?_) (fun cc => absurd (by decide +kernel) cc)
  refine lv_iinc (v := 2) (lv' := [(5, .int 2), (6, .int 2), (4, .int 1), (0, .ref h1), (1, .ref h2), (2, .ref h3), (3, .ref h0)]) hx hb dX11_times_78 hl (k := 1) rfl (by decide) (by decide) rfl (fun ls hl => ?_)
  refine lv_goto (tgt := 20) hx hb dX11_times_81 (by decide) ?_
  refine lv_iload hx hb dX11_times_20 (lv_at hl 0 rfl) ?_
  refine lv_aload_n hx hb dX11_times_22 rfl (lv_at hl 3 rfl) ?_
  refine va_get (D := D) (ci := 8) (v := .int 2) (C := RX11) (T := TX11) (N := 36) hx hb hU iX11 hown hK.1 hP 0 rfl rfl 0 (by decide) (hU _ w785) (fun _ h9 => h9) rfl dX11_times_23 ?_
  refine lv_icmp_ge (tgt := 84) hx hb dX11_times_26 (by decide) (fun _ => ?_) (fun cc => absurd (by decide +kernel) cc)
  refine lv_iinc (v := 2) (lv' := [(4, .int 2), (5, .int 2), (6, .int 2), (0, .ref h1), (1, .ref h2), (2, .ref h3), (3, .ref h0)]) hx hb dX11_times_84 hl (k := 2) rfl (by decide) (by decide) rfl (fun ls hl => ?_)
  refine lv_goto (tgt := 8) hx hb dX11_times_87 (by decide) ?_
  refine lv_iload hx hb dX11_times_8 (lv_at hl 0 rfl) ?_
  refine lv_aload_n hx hb dX11_times_10 rfl (lv_at hl 3 rfl) ?_
  refine va_get (D := D) (ci := 8) (v := .int 2) (C := RX11) (T := TX11) (N := 36) hx hb hU iX11 hown hK.1 hP 0 rfl rfl 0 (by decide) (hU _ w785) (fun _ h9 => h9) rfl dX11_times_11 ?_
  refine lv_icmp_ge (tgt := 90) hx hb dX11_times_14 (by decide) (fun _ => ?_) (fun cc => absurd (by decide +kernel) cc)
  exact retV hx hb hr hlocks hS (⟨hP, hD⟩) dX11_times_90
abbrev BX11_first_8 (D : va_G) (k : Nat → ClassId) (h0 h1 h2 h3 h4 h5 h6 h7 h8 h9 h10 h11 h12 h13 h14 h15 h16 h17 h18 h19 h20 h21 : Nat) (A : Nat → Prop) (H : Heap) : Prop := va_P D cl0 [(h1, .inr (8, [.int 2, .int 0, .int 1, .int 0, .int 0, .int 0, .ref h2, .ref h3, .int 0, .int 1, .ref h4, .ref h5, .ref h6, .ref h0, .ref h7, .ref h8, .ref h9, .int 0, .int 0, .int 0, .ref h10, .ref h11, .ref h12, .ref h13, .int 1, .int 1, .ref h14, .ref h15, .ref h16, .ref h17, .int 0, .int 0, .ref h18, .ref h19, .ref h20, .ref h21])), (h0, .inl (k 1, 9, .inr (.inl (tL [1, 0, 0, 0, 1, 0, 0, 0, 0] 0))))] H ∧ va_D A [(h1, .inr (8, [.int 2, .int 0, .int 1, .int 0, .int 0, .int 0, .ref h2, .ref h3, .int 0, .int 1, .ref h4, .ref h5, .ref h6, .ref h0, .ref h7, .ref h8, .ref h9, .int 0, .int 0, .int 0, .ref h10, .ref h11, .ref h12, .ref h13, .int 1, .int 1, .ref h14, .ref h15, .ref h16, .ref h17, .int 0, .int 0, .ref h18, .ref h19, .ref h20, .ref h21])), (h0, .inl (k 1, 9, .inr (.inl (tL [1, 0, 0, 0, 1, 0, 0, 0, 0] 0))))]
set_option maxHeartbeats 4000000 in
set_option maxRecDepth 100000 in
theorem cX11_first_8 (l : Launch) (D : va_G) (k : Nat → ClassId) (sz : Nat) (h0 h1 h2 h3 h4 h5 h6 h7 h8 h9 h10 h11 h12 h13 h14 h15 h16 h17 h18 h19 h20 h21 : Nat) : Met l yX11_first (Cond.code yX11_first cX11_first 3 none :: uw) ({ frames := 1, cells := 0, slots := 0, locals := 22 }) (pC D k sz [.ref h1, .ref h0] [(h0, .inl (k 1, 9, .inr (.inl (tL [] 0)))), (h1, .inr (8, [.int 2, .int 0, .int 1, .int 0, .int 0, .int 0, .ref h2, .ref h3, .int 0, .int 1, .ref h4, .ref h5, .ref h6, .ref h0, .ref h7, .ref h8, .ref h9, .int 0, .int 0, .int 0, .ref h10, .ref h11, .ref h12, .ref h13, .int 1, .int 1, .ref h14, .ref h15, .ref h16, .ref h17, .int 0, .int 0, .ref h18, .ref h19, .ref h20, .ref h21]))]) (qV (BX11_first_8 D k h0 h1 h2 h3 h4 h5 h6 h7 h8 h9 h10 h11 h12 h13 h14 h15 h16 h17 h18 h19 h20 h21 (va_A [(h0, .inl (k 1, 9, .inr (.inl (tL [] 0)))), (h1, .inr (8, [.int 2, .int 0, .int 1, .int 0, .int 0, .int 0, .ref h2, .ref h3, .int 0, .int 1, .ref h4, .ref h5, .ref h6, .ref h0, .ref h7, .ref h8, .ref h9, .int 0, .int 0, .int 0, .ref h10, .ref h11, .ref h12, .ref h13, .int 1, .int 1, .ref h14, .ref h15, .ref h16, .ref h17, .int 0, .int 0, .ref h18, .ref h19, .ref h20, .ref h21]))] sz)) (va_A [(h0, .inl (k 1, 9, .inr (.inl (tL [] 0)))), (h1, .inr (8, [.int 2, .int 0, .int 1, .int 0, .int 0, .int 0, .ref h2, .ref h3, .int 0, .int 1, .ref h4, .ref h5, .ref h6, .ref h0, .ref h7, .ref h8, .ref h9, .int 0, .int 0, .int 0, .ref h10, .ref h11, .ref h12, .ref h13, .int 1, .int 1, .ref h14, .ref h15, .ref h16, .ref h17, .int 0, .int 0, .ref h18, .ref h19, .ref h20, .ref h21]))] sz)) 0 0 (va_A [(h0, .inl (k 1, 9, .inr (.inl (tL [] 0)))), (h1, .inr (8, [.int 2, .int 0, .int 1, .int 0, .int 0, .int 0, .ref h2, .ref h3, .int 0, .int 1, .ref h4, .ref h5, .ref h6, .ref h0, .ref h7, .ref h8, .ref h9, .int 0, .int 0, .int 0, .ref h10, .ref h11, .ref h12, .ref h13, .int 1, .int 1, .ref h14, .ref h15, .ref h16, .ref h17, .int 0, .int 0, .ref h18, .ref h19, .ref h20, .ref h21]))] sz) := by
  refine begin_ (Qc := fun A => qV (BX11_first_8 D k h0 h1 h2 h3 h4 h5 h6 h7 h8 h9 h10 h11 h12 h13 h14 h15 h16 h17 h18 h19 h20 h21 A) A) (by decide) (Nat.le_of_ble_eq_true rfl) ?_
  intro p e s m below meth c ls A hx hb hr hml hown hlocks hin hU hK hsz hP hD hS hA hl
  have hl : lv_has ls 3 [(0, .ref h1), (1, .ref h0)] := hl
  clear hsz
  refine lv_aload_n hx hb dX11_first_0 rfl (lv_at hl 0 rfl) ?_
  refine lv_aload_n hx hb dX11_first_1 rfl (lv_at hl 1 rfl) ?_
  refine cV (rV (q0 := 1) (ci := 8) (As := [.ref h0]) (rest := []) (wc := [(h0, .inl (k 1, 9, .inr (.inl (tL [] 0))))]) hx hb hml hown hU hK hP hD rfl rfl [0] rfl (by decide) (cX11_clears_1 l D k _ h0 h1) w923 w920 w922 w29 w72 hdX11_clears ⟨rfl, rfl⟩ ⟨Nat.le_of_ble_eq_true rfl, Nat.le_of_ble_eq_true rfl⟩ rfl hl.1 (Nat.le_of_ble_eq_true rfl) dX11_first_2 ⟨Nat.le_of_ble_eq_true rfl, Nat.le_of_ble_eq_true rfl⟩) hP hD hS hA (wr := [(h1, .inr (8, [.int 2, .int 0, .int 1, .int 0, .int 0, .int 0, .ref h2, .ref h3, .int 0, .int 1, .ref h4, .ref h5, .ref h6, .ref h0, .ref h7, .ref h8, .ref h9, .int 0, .int 0, .int 0, .ref h10, .ref h11, .ref h12, .ref h13, .int 1, .int 1, .ref h14, .ref h15, .ref h16, .ref h17, .int 0, .int 0, .ref h18, .ref h19, .ref h20, .ref h21]))]) [0] [1] rfl rfl (by decide) (by decide) (fun H locs hB J hS => ?_)
  obtain ⟨hP1, hD1⟩ := hB
  obtain ⟨hP, hD⟩ := J _ hP1 hD1
  have hP : va_P D cl0 [(h1, .inr (8, [.int 2, .int 0, .int 1, .int 0, .int 0, .int 0, .ref h2, .ref h3, .int 0, .int 1, .ref h4, .ref h5, .ref h6, .ref h0, .ref h7, .ref h8, .ref h9, .int 0, .int 0, .int 0, .ref h10, .ref h11, .ref h12, .ref h13, .int 1, .int 1, .ref h14, .ref h15, .ref h16, .ref h17, .int 0, .int 0, .ref h18, .ref h19, .ref h20, .ref h21])), (h0, .inl (k 1, 9, .inr (.inl (tL [0, 0, 0, 0, 0, 0, 0, 0, 0] 0))))] H := hP
  have hD : va_D A [(h1, .inr (8, [.int 2, .int 0, .int 1, .int 0, .int 0, .int 0, .ref h2, .ref h3, .int 0, .int 1, .ref h4, .ref h5, .ref h6, .ref h0, .ref h7, .ref h8, .ref h9, .int 0, .int 0, .int 0, .ref h10, .ref h11, .ref h12, .ref h13, .int 1, .int 1, .ref h14, .ref h15, .ref h16, .ref h17, .int 0, .int 0, .ref h18, .ref h19, .ref h20, .ref h21])), (h0, .inl (k 1, 9, .inr (.inl (tL [0, 0, 0, 0, 0, 0, 0, 0, 0] 0))))] := hD
  refine lv_iconst (v := 0) hx hb dX11_first_5 (by decide) ?_
  refine lv_istore_n (lv' := [(2, .int 0), (0, .ref h1), (1, .ref h0)]) hx hb dX11_first_6 rfl hl (by decide) rfl (fun ls hl => ?_)
  refine lv_iload_n hx hb dX11_first_7 rfl (lv_at hl 0 rfl) ?_
  refine lv_aload_n hx hb dX11_first_8 rfl (lv_at hl 1 rfl) ?_
  refine va_get (D := D) (ci := 8) (v := .int 2) (C := RX11) (T := TX11) (N := 36) hx hb hU iX11 hown hK.1 hP 0 rfl rfl 0 (by decide) (hU _ w785) (fun _ h9 => h9) rfl dX11_first_9 ?_
  refine lv_icmp_ge (tgt := 27) hx hb dX11_first_12 (by decide) (fun cc => absurd cc (by decide +kernel)) (fun _ => ?_)
  refine lv_aload_n hx hb dX11_first_15 rfl (lv_at hl 2 rfl) ?_
  refine lv_iconst (v := 4) hx hb dX11_first_16 (by decide) ?_
  refine lv_iload_n hx hb dX11_first_17 rfl (lv_at hl 0 rfl) ?_
  refine lv_imul hx hb dX11_first_18 (sv_i (v := 0) (by decide +kernel) ?_)
  refine lv_lconst (v := 1) hx hb dX11_first_19 (by decide) ?_
  refine st_l (j := 0) (g := tL [1, 0, 0, 0, 0, 0, 0, 0, 0] 0) hx hb hK hP hD hS 1 rfl (by decide +kernel) upd_tL dX11_first_20 (fun H locs hP hD hS => ?_)
  have hP : va_P D cl0 [(h1, .inr (8, [.int 2, .int 0, .int 1, .int 0, .int 0, .int 0, .ref h2, .ref h3, .int 0, .int 1, .ref h4, .ref h5, .ref h6, .ref h0, .ref h7, .ref h8, .ref h9, .int 0, .int 0, .int 0, .ref h10, .ref h11, .ref h12, .ref h13, .int 1, .int 1, .ref h14, .ref h15, .ref h16, .ref h17, .int 0, .int 0, .ref h18, .ref h19, .ref h20, .ref h21])), (h0, .inl (k 1, 9, .inr (.inl (tL [1, 0, 0, 0, 0, 0, 0, 0, 0] 0))))] H := hP
  have hD : va_D A [(h1, .inr (8, [.int 2, .int 0, .int 1, .int 0, .int 0, .int 0, .ref h2, .ref h3, .int 0, .int 1, .ref h4, .ref h5, .ref h6, .ref h0, .ref h7, .ref h8, .ref h9, .int 0, .int 0, .int 0, .ref h10, .ref h11, .ref h12, .ref h13, .int 1, .int 1, .ref h14, .ref h15, .ref h16, .ref h17, .int 0, .int 0, .ref h18, .ref h19, .ref h20, .ref h21])), (h0, .inl (k 1, 9, .inr (.inl (tL [1, 0, 0, 0, 0, 0, 0, 0, 0] 0))))] := hD
  refine lv_iinc (v := 1) (lv' := [(2, .int 1), (0, .ref h1), (1, .ref h0)]) hx hb dX11_first_21 hl (k := 0) rfl (by decide) (by decide) rfl (fun ls hl => ?_)
  refine lv_goto (tgt := 7) hx hb dX11_first_24 (by decide) ?_
  refine lv_iload_n hx hb dX11_first_7 rfl (lv_at hl 0 rfl) ?_
  refine lv_aload_n hx hb dX11_first_8 rfl (lv_at hl 1 rfl) ?_
  refine va_get (D := D) (ci := 8) (v := .int 2) (C := RX11) (T := TX11) (N := 36) hx hb hU iX11 hown hK.1 hP 0 rfl rfl 0 (by decide) (hU _ w785) (fun _ h9 => h9) rfl dX11_first_9 ?_
  refine lv_icmp_ge (tgt := 27) hx hb dX11_first_12 (by decide) (fun cc => absurd cc (by decide +kernel)) (fun _ => ?_)
  refine lv_aload_n hx hb dX11_first_15 rfl (lv_at hl 2 rfl) ?_
  refine lv_iconst (v := 4) hx hb dX11_first_16 (by decide) ?_
  refine lv_iload_n hx hb dX11_first_17 rfl (lv_at hl 0 rfl) ?_
  refine lv_imul hx hb dX11_first_18 (sv_i (v := 4) (by decide +kernel) ?_)
  refine lv_lconst (v := 1) hx hb dX11_first_19 (by decide) ?_
  refine st_l (j := 4) (g := tL [1, 0, 0, 0, 1, 0, 0, 0, 0] 0) hx hb hK hP hD hS 1 rfl (by decide +kernel) upd_tL dX11_first_20 (fun H locs hP hD hS => ?_)
  have hP : va_P D cl0 [(h1, .inr (8, [.int 2, .int 0, .int 1, .int 0, .int 0, .int 0, .ref h2, .ref h3, .int 0, .int 1, .ref h4, .ref h5, .ref h6, .ref h0, .ref h7, .ref h8, .ref h9, .int 0, .int 0, .int 0, .ref h10, .ref h11, .ref h12, .ref h13, .int 1, .int 1, .ref h14, .ref h15, .ref h16, .ref h17, .int 0, .int 0, .ref h18, .ref h19, .ref h20, .ref h21])), (h0, .inl (k 1, 9, .inr (.inl (tL [1, 0, 0, 0, 1, 0, 0, 0, 0] 0))))] H := hP
  have hD : va_D A [(h1, .inr (8, [.int 2, .int 0, .int 1, .int 0, .int 0, .int 0, .ref h2, .ref h3, .int 0, .int 1, .ref h4, .ref h5, .ref h6, .ref h0, .ref h7, .ref h8, .ref h9, .int 0, .int 0, .int 0, .ref h10, .ref h11, .ref h12, .ref h13, .int 1, .int 1, .ref h14, .ref h15, .ref h16, .ref h17, .int 0, .int 0, .ref h18, .ref h19, .ref h20, .ref h21])), (h0, .inl (k 1, 9, .inr (.inl (tL [1, 0, 0, 0, 1, 0, 0, 0, 0] 0))))] := hD
  refine lv_iinc (v := 2) (lv' := [(2, .int 2), (0, .ref h1), (1, .ref h0)]) hx hb dX11_first_21 hl (k := 0) rfl (by decide) (by decide) rfl (fun ls hl => ?_)
  refine lv_goto (tgt := 7) hx hb dX11_first_24 (by decide) ?_
  refine lv_iload_n hx hb dX11_first_7 rfl (lv_at hl 0 rfl) ?_
  refine lv_aload_n hx hb dX11_first_8 rfl (lv_at hl 1 rfl) ?_
  refine va_get (D := D) (ci := 8) (v := .int 2) (C := RX11) (T := TX11) (N := 36) hx hb hU iX11 hown hK.1 hP 0 rfl rfl 0 (by decide) (hU _ w785) (fun _ h9 => h9) rfl dX11_first_9 ?_
  refine lv_icmp_ge (tgt := 27) hx hb dX11_first_12 (by decide) (fun _ => ?_) (fun cc => absurd (by decide +kernel) cc)
  exact retV hx hb hr hlocks hS (⟨hP, hD⟩) dX11_first_27
abbrev BX11_isFirst_1 (D : va_G) (k : Nat → ClassId) (h0 h1 h2 h3 h4 h5 h6 h7 h8 h9 h10 h11 h12 h13 h14 h15 h16 h17 h18 h19 h20 h21 : Nat) (A : Nat → Prop) (r : Int32) (H : Heap) : Prop := 1 = r ∧ va_P D cl0 [(h2, .inl (k 1, 9, .inr (.inl (tL [1, 0, 0, 0, 1, 0, 0, 0, 0] 0)))), (h0, .inr (8, [.int 2, .int 0, .int 1, .int 0, .int 0, .int 0, .ref h3, .ref h4, .int 0, .int 1, .ref h5, .ref h6, .ref h2, .ref h1, .ref h7, .ref h8, .ref h9, .int 0, .int 0, .int 0, .ref h10, .ref h11, .ref h12, .ref h13, .int 1, .int 1, .ref h14, .ref h15, .ref h16, .ref h17, .int 0, .int 0, .ref h18, .ref h19, .ref h20, .ref h21])), (h1, .inl (k 1, 9, .inr (.inl (tL [1, 0, 0, 0, 1, 0, 0, 0, 0] 0))))] H ∧ va_D A [(h2, .inl (k 1, 9, .inr (.inl (tL [1, 0, 0, 0, 1, 0, 0, 0, 0] 0)))), (h0, .inr (8, [.int 2, .int 0, .int 1, .int 0, .int 0, .int 0, .ref h3, .ref h4, .int 0, .int 1, .ref h5, .ref h6, .ref h2, .ref h1, .ref h7, .ref h8, .ref h9, .int 0, .int 0, .int 0, .ref h10, .ref h11, .ref h12, .ref h13, .int 1, .int 1, .ref h14, .ref h15, .ref h16, .ref h17, .int 0, .int 0, .ref h18, .ref h19, .ref h20, .ref h21])), (h1, .inl (k 1, 9, .inr (.inl (tL [1, 0, 0, 0, 1, 0, 0, 0, 0] 0))))]
set_option maxHeartbeats 4000000 in
set_option maxRecDepth 100000 in
theorem cX11_isFirst_1 (l : Launch) (D : va_G) (k : Nat → ClassId) (sz : Nat) (h0 h1 h2 h3 h4 h5 h6 h7 h8 h9 h10 h11 h12 h13 h14 h15 h16 h17 h18 h19 h20 h21 : Nat) : Met l yX11_isFirst (Cond.code yX11_isFirst cX11_isFirst 4 (some .boolean) :: uw) ({ frames := 2, cells := 0, slots := 0, locals := 44 }) (pC D k sz [.ref h0, .ref h2] [(h0, .inr (8, [.int 2, .int 0, .int 1, .int 0, .int 0, .int 0, .ref h3, .ref h4, .int 0, .int 1, .ref h5, .ref h6, .ref h2, .ref h1, .ref h7, .ref h8, .ref h9, .int 0, .int 0, .int 0, .ref h10, .ref h11, .ref h12, .ref h13, .int 1, .int 1, .ref h14, .ref h15, .ref h16, .ref h17, .int 0, .int 0, .ref h18, .ref h19, .ref h20, .ref h21])), (h1, .inl (k 1, 9, .inr (.inl (tL [] 0)))), (h2, .inl (k 1, 9, .inr (.inl (tL [1, 0, 0, 0, 1, 0, 0, 0, 0] 0))))]) (qI (BX11_isFirst_1 D k h0 h1 h2 h3 h4 h5 h6 h7 h8 h9 h10 h11 h12 h13 h14 h15 h16 h17 h18 h19 h20 h21 (va_A [(h0, .inr (8, [.int 2, .int 0, .int 1, .int 0, .int 0, .int 0, .ref h3, .ref h4, .int 0, .int 1, .ref h5, .ref h6, .ref h2, .ref h1, .ref h7, .ref h8, .ref h9, .int 0, .int 0, .int 0, .ref h10, .ref h11, .ref h12, .ref h13, .int 1, .int 1, .ref h14, .ref h15, .ref h16, .ref h17, .int 0, .int 0, .ref h18, .ref h19, .ref h20, .ref h21])), (h1, .inl (k 1, 9, .inr (.inl (tL [] 0)))), (h2, .inl (k 1, 9, .inr (.inl (tL [1, 0, 0, 0, 1, 0, 0, 0, 0] 0))))] sz)) (va_A [(h0, .inr (8, [.int 2, .int 0, .int 1, .int 0, .int 0, .int 0, .ref h3, .ref h4, .int 0, .int 1, .ref h5, .ref h6, .ref h2, .ref h1, .ref h7, .ref h8, .ref h9, .int 0, .int 0, .int 0, .ref h10, .ref h11, .ref h12, .ref h13, .int 1, .int 1, .ref h14, .ref h15, .ref h16, .ref h17, .int 0, .int 0, .ref h18, .ref h19, .ref h20, .ref h21])), (h1, .inl (k 1, 9, .inr (.inl (tL [] 0)))), (h2, .inl (k 1, 9, .inr (.inl (tL [1, 0, 0, 0, 1, 0, 0, 0, 0] 0))))] sz)) 0 0 (va_A [(h0, .inr (8, [.int 2, .int 0, .int 1, .int 0, .int 0, .int 0, .ref h3, .ref h4, .int 0, .int 1, .ref h5, .ref h6, .ref h2, .ref h1, .ref h7, .ref h8, .ref h9, .int 0, .int 0, .int 0, .ref h10, .ref h11, .ref h12, .ref h13, .int 1, .int 1, .ref h14, .ref h15, .ref h16, .ref h17, .int 0, .int 0, .ref h18, .ref h19, .ref h20, .ref h21])), (h1, .inl (k 1, 9, .inr (.inl (tL [] 0)))), (h2, .inl (k 1, 9, .inr (.inl (tL [1, 0, 0, 0, 1, 0, 0, 0, 0] 0))))] sz) := by
  refine begin_ (Qc := fun A => qI (BX11_isFirst_1 D k h0 h1 h2 h3 h4 h5 h6 h7 h8 h9 h10 h11 h12 h13 h14 h15 h16 h17 h18 h19 h20 h21 A) A) (by decide) (Nat.le_of_ble_eq_true rfl) ?_
  intro p e s m below meth c ls A hx hb hr hml hown hlocks hin hU hK hsz hP hD hS hA hl
  have hl : lv_has ls 4 [(0, .ref h0), (1, .ref h2)] := hl
  clear hsz
  refine lv_aload_n hx hb dX11_isFirst_0 rfl (lv_at hl 0 rfl) ?_
  refine lv_aload_n hx hb dX11_isFirst_1 rfl (lv_at hl 0 rfl) ?_
  refine va_get (D := D) (ci := 8) (v := .ref h1) (C := RX11) (T := TX11) (N := 36) hx hb hU iX11 hown hK.1 hP 0 rfl rfl 13 (by decide) (hU _ w798) (fun _ h9 => h9) rfl dX11_isFirst_2 ?_
  refine cV (rV (q0 := 0) (ci := 8) (As := [.ref h1]) (rest := []) (wc := [(h1, .inl (k 1, 9, .inr (.inl (tL [] 0)))), (h0, .inr (8, [.int 2, .int 0, .int 1, .int 0, .int 0, .int 0, .ref h3, .ref h4, .int 0, .int 1, .ref h5, .ref h6, .ref h2, .ref h1, .ref h7, .ref h8, .ref h9, .int 0, .int 0, .int 0, .ref h10, .ref h11, .ref h12, .ref h13, .int 1, .int 1, .ref h14, .ref h15, .ref h16, .ref h17, .int 0, .int 0, .ref h18, .ref h19, .ref h20, .ref h21]))]) hx hb hml hown hU hK hP hD rfl rfl [1, 0] rfl (by decide) (cX11_first_8 l D k _ h1 h0 h3 h4 h5 h6 h2 h7 h8 h9 h10 h11 h12 h13 h14 h15 h16 h17 h18 h19 h20 h21) w919 w916 w918 w28 w72 hdX11_first ⟨rfl, rfl⟩ ⟨Nat.le_of_ble_eq_true rfl, Nat.le_of_ble_eq_true rfl⟩ rfl hl.1 (Nat.le_of_ble_eq_true rfl) dX11_isFirst_5 ⟨Nat.le_of_ble_eq_true rfl, Nat.le_of_ble_eq_true rfl⟩) hP hD hS hA (wr := [(h2, .inl (k 1, 9, .inr (.inl (tL [1, 0, 0, 0, 1, 0, 0, 0, 0] 0))))]) [1, 0] [2] rfl rfl (by decide) (by decide) (fun H locs hB J hS => ?_)
  obtain ⟨hP1, hD1⟩ := hB
  obtain ⟨hP, hD⟩ := J _ hP1 hD1
  have hP : va_P D cl0 [(h2, .inl (k 1, 9, .inr (.inl (tL [1, 0, 0, 0, 1, 0, 0, 0, 0] 0)))), (h0, .inr (8, [.int 2, .int 0, .int 1, .int 0, .int 0, .int 0, .ref h3, .ref h4, .int 0, .int 1, .ref h5, .ref h6, .ref h2, .ref h1, .ref h7, .ref h8, .ref h9, .int 0, .int 0, .int 0, .ref h10, .ref h11, .ref h12, .ref h13, .int 1, .int 1, .ref h14, .ref h15, .ref h16, .ref h17, .int 0, .int 0, .ref h18, .ref h19, .ref h20, .ref h21])), (h1, .inl (k 1, 9, .inr (.inl (tL [1, 0, 0, 0, 1, 0, 0, 0, 0] 0))))] H := hP
  have hD : va_D A [(h2, .inl (k 1, 9, .inr (.inl (tL [1, 0, 0, 0, 1, 0, 0, 0, 0] 0)))), (h0, .inr (8, [.int 2, .int 0, .int 1, .int 0, .int 0, .int 0, .ref h3, .ref h4, .int 0, .int 1, .ref h5, .ref h6, .ref h2, .ref h1, .ref h7, .ref h8, .ref h9, .int 0, .int 0, .int 0, .ref h10, .ref h11, .ref h12, .ref h13, .int 1, .int 1, .ref h14, .ref h15, .ref h16, .ref h17, .int 0, .int 0, .ref h18, .ref h19, .ref h20, .ref h21])), (h1, .inl (k 1, 9, .inr (.inl (tL [1, 0, 0, 0, 1, 0, 0, 0, 0] 0))))] := hD
  refine lv_iconst (v := 1) hx hb dX11_isFirst_8 (by decide) ?_
  refine lv_istore_n (lv' := [(2, .int 1), (0, .ref h0), (1, .ref h2)]) hx hb dX11_isFirst_9 rfl hl (by decide) rfl (fun ls hl => ?_)
  refine lv_iconst (v := 0) hx hb dX11_isFirst_10 (by decide) ?_
  refine lv_istore_n (lv' := [(3, .int 0), (2, .int 1), (0, .ref h0), (1, .ref h2)]) hx hb dX11_isFirst_11 rfl hl (by decide) rfl (fun ls hl => ?_)
  refine lv_iload_n hx hb dX11_isFirst_12 rfl (lv_at hl 0 rfl) ?_
  refine lv_bipush (v := 9) hx hb dX11_isFirst_13 (by decide) ?_
  refine lv_icmp_ge (tgt := 47) hx hb dX11_isFirst_15 (by decide) (fun cc => absurd cc (by decide +kernel)) (fun _ => ?_)
  refine lv_iload_n hx hb dX11_isFirst_18 rfl (lv_at hl 1 rfl) ?_
  refine lv_if_eq (tgt := 39) hx hb dX11_isFirst_19 (by decide) (fun cc => absurd cc (by decide +kernel)) (fun _ => ?_)
  refine lv_aload_n hx hb dX11_isFirst_22 rfl (lv_at hl 3 rfl) ?_
  refine lv_iload_n hx hb dX11_isFirst_23 rfl (lv_at hl 0 rfl) ?_
  refine ld_l (j := 0) (v := 1) hx hb hK hP 0 rfl (by decide +kernel) rfl dX11_isFirst_24 ?_
  refine lv_aload_n hx hb dX11_isFirst_25 rfl (lv_at hl 2 rfl) ?_
  refine va_get (D := D) (ci := 8) (v := .ref h1) (C := RX11) (T := TX11) (N := 36) hx hb hU iX11 hown hK.1 hP 1 rfl rfl 13 (by decide) (hU _ w798) (fun _ h9 => h9) rfl dX11_isFirst_26 ?_
  refine lv_iload_n hx hb dX11_isFirst_29 rfl (lv_at hl 0 rfl) ?_
  refine ld_l (j := 0) (v := 1) hx hb hK hP 2 rfl (by decide +kernel) rfl dX11_isFirst_30 ?_
  refine W.lcmp hx hb dX11_isFirst_31 (sv_i (v := 0) (by decide +kernel) ?_)
  refine lv_if_ne (tgt := 39) hx hb dX11_isFirst_32 (by decide) (fun cc => absurd (by decide +kernel) cc) (fun _ => ?_)
  refine lv_iconst (v := 1) hx hb dX11_isFirst_35 (by decide) ?_
  refine lv_goto (tgt := 40) hx hb dX11_isFirst_36 (by decide) ?_
  refine lv_istore_n (lv' := [(2, .int 1), (3, .int 0), (0, .ref h0), (1, .ref h2)]) hx hb dX11_isFirst_40 rfl hl (by decide) rfl (fun ls hl => ?_)
  refine lv_iinc (v := 1) (lv' := [(3, .int 1), (2, .int 1), (0, .ref h0), (1, .ref h2)]) hx hb dX11_isFirst_41 hl (k := 1) rfl (by decide) (by decide) rfl (fun ls hl => ?_)
  refine lv_goto (tgt := 12) hx hb dX11_isFirst_44 (by decide) ?_
  refine lv_iload_n hx hb dX11_isFirst_12 rfl (lv_at hl 0 rfl) ?_
  refine lv_bipush (v := 9) hx hb dX11_isFirst_13 (by decide) ?_
  refine lv_icmp_ge (tgt := 47) hx hb dX11_isFirst_15 (by decide) (fun cc => absurd cc (by decide +kernel)) (fun _ => ?_)
  refine lv_iload_n hx hb dX11_isFirst_18 rfl (lv_at hl 1 rfl) ?_
  refine lv_if_eq (tgt := 39) hx hb dX11_isFirst_19 (by decide) (fun cc => absurd cc (by decide +kernel)) (fun _ => ?_)
  refine lv_aload_n hx hb dX11_isFirst_22 rfl (lv_at hl 3 rfl) ?_
  refine lv_iload_n hx hb dX11_isFirst_23 rfl (lv_at hl 0 rfl) ?_
  refine ld_l (j := 1) (v := 0) hx hb hK hP 0 rfl (by decide +kernel) rfl dX11_isFirst_24 ?_
  refine lv_aload_n hx hb dX11_isFirst_25 rfl (lv_at hl 2 rfl) ?_
  refine va_get (D := D) (ci := 8) (v := .ref h1) (C := RX11) (T := TX11) (N := 36) hx hb hU iX11 hown hK.1 hP 1 rfl rfl 13 (by decide) (hU _ w798) (fun _ h9 => h9) rfl dX11_isFirst_26 ?_
  refine lv_iload_n hx hb dX11_isFirst_29 rfl (lv_at hl 0 rfl) ?_
  refine ld_l (j := 1) (v := 0) hx hb hK hP 2 rfl (by decide +kernel) rfl dX11_isFirst_30 ?_
  refine W.lcmp hx hb dX11_isFirst_31 (sv_i (v := 0) (by decide +kernel) ?_)
  refine lv_if_ne (tgt := 39) hx hb dX11_isFirst_32 (by decide) (fun cc => absurd (by decide +kernel) cc) (fun _ => ?_)
  refine lv_iconst (v := 1) hx hb dX11_isFirst_35 (by decide) ?_
  refine lv_goto (tgt := 40) hx hb dX11_isFirst_36 (by decide) ?_
  refine lv_istore_n (lv' := [(2, .int 1), (3, .int 1), (0, .ref h0), (1, .ref h2)]) hx hb dX11_isFirst_40 rfl hl (by decide) rfl (fun ls hl => ?_)
  refine lv_iinc (v := 2) (lv' := [(3, .int 2), (2, .int 1), (0, .ref h0), (1, .ref h2)]) hx hb dX11_isFirst_41 hl (k := 1) rfl (by decide) (by decide) rfl (fun ls hl => ?_)
  refine lv_goto (tgt := 12) hx hb dX11_isFirst_44 (by decide) ?_
  refine lv_iload_n hx hb dX11_isFirst_12 rfl (lv_at hl 0 rfl) ?_
  refine lv_bipush (v := 9) hx hb dX11_isFirst_13 (by decide) ?_
  refine lv_icmp_ge (tgt := 47) hx hb dX11_isFirst_15 (by decide) (fun cc => absurd cc (by decide +kernel)) (fun _ => ?_)
  refine lv_iload_n hx hb dX11_isFirst_18 rfl (lv_at hl 1 rfl) ?_
  refine lv_if_eq (tgt := 39) hx hb dX11_isFirst_19 (by decide) (fun cc => absurd cc (by decide +kernel)) (fun _ => ?_)
  refine lv_aload_n hx hb dX11_isFirst_22 rfl (lv_at hl 3 rfl) ?_
  refine lv_iload_n hx hb dX11_isFirst_23 rfl (lv_at hl 0 rfl) ?_
  refine ld_l (j := 2) (v := 0) hx hb hK hP 0 rfl (by decide +kernel) rfl dX11_isFirst_24 ?_
  refine lv_aload_n hx hb dX11_isFirst_25 rfl (lv_at hl 2 rfl) ?_
  refine va_get (D := D) (ci := 8) (v := .ref h1) (C := RX11) (T := TX11) (N := 36) hx hb hU iX11 hown hK.1 hP 1 rfl rfl 13 (by decide) (hU _ w798) (fun _ h9 => h9) rfl dX11_isFirst_26 ?_
  refine lv_iload_n hx hb dX11_isFirst_29 rfl (lv_at hl 0 rfl) ?_
  refine ld_l (j := 2) (v := 0) hx hb hK hP 2 rfl (by decide +kernel) rfl dX11_isFirst_30 ?_
  refine W.lcmp hx hb dX11_isFirst_31 (sv_i (v := 0) (by decide +kernel) ?_)
  refine lv_if_ne (tgt := 39) hx hb dX11_isFirst_32 (by decide) (fun cc => absurd (by decide +kernel) cc) (fun _ => ?_)
  refine lv_iconst (v := 1) hx hb dX11_isFirst_35 (by decide) ?_
  refine lv_goto (tgt := 40) hx hb dX11_isFirst_36 (by decide) ?_
  refine lv_istore_n (lv' := [(2, .int 1), (3, .int 2), (0, .ref h0), (1, .ref h2)]) hx hb dX11_isFirst_40 rfl hl (by decide) rfl (fun ls hl => ?_)
  refine lv_iinc (v := 3) (lv' := [(3, .int 3), (2, .int 1), (0, .ref h0), (1, .ref h2)]) hx hb dX11_isFirst_41 hl (k := 1) rfl (by decide) (by decide) rfl (fun ls hl => ?_)
  refine lv_goto (tgt := 12) hx hb dX11_isFirst_44 (by decide) ?_
  refine lv_iload_n hx hb dX11_isFirst_12 rfl (lv_at hl 0 rfl) ?_
  refine lv_bipush (v := 9) hx hb dX11_isFirst_13 (by decide) ?_
  refine lv_icmp_ge (tgt := 47) hx hb dX11_isFirst_15 (by decide) (fun cc => absurd cc (by decide +kernel)) (fun _ => ?_)
  refine lv_iload_n hx hb dX11_isFirst_18 rfl (lv_at hl 1 rfl) ?_
  refine lv_if_eq (tgt := 39) hx hb dX11_isFirst_19 (by decide) (fun cc => absurd cc (by decide +kernel)) (fun _ => ?_)
  refine lv_aload_n hx hb dX11_isFirst_22 rfl (lv_at hl 3 rfl) ?_
  refine lv_iload_n hx hb dX11_isFirst_23 rfl (lv_at hl 0 rfl) ?_
  refine ld_l (j := 3) (v := 0) hx hb hK hP 0 rfl (by decide +kernel) rfl dX11_isFirst_24 ?_
  refine lv_aload_n hx hb dX11_isFirst_25 rfl (lv_at hl 2 rfl) ?_
  refine va_get (D := D) (ci := 8) (v := .ref h1) (C := RX11) (T := TX11) (N := 36) hx hb hU iX11 hown hK.1 hP 1 rfl rfl 13 (by decide) (hU _ w798) (fun _ h9 => h9) rfl dX11_isFirst_26 ?_
  refine lv_iload_n hx hb dX11_isFirst_29 rfl (lv_at hl 0 rfl) ?_
  refine ld_l (j := 3) (v := 0) hx hb hK hP 2 rfl (by decide +kernel) rfl dX11_isFirst_30 ?_
  refine W.lcmp hx hb dX11_isFirst_31 (sv_i (v := 0) (by decide +kernel) ?_)
  refine lv_if_ne (tgt := 39) hx hb dX11_isFirst_32 (by decide) (fun cc => absurd (by decide +kernel) cc) (fun _ => ?_)
  refine lv_iconst (v := 1) hx hb dX11_isFirst_35 (by decide) ?_
  refine lv_goto (tgt := 40) hx hb dX11_isFirst_36 (by decide) ?_
  refine lv_istore_n (lv' := [(2, .int 1), (3, .int 3), (0, .ref h0), (1, .ref h2)]) hx hb dX11_isFirst_40 rfl hl (by decide) rfl (fun ls hl => ?_)
  refine lv_iinc (v := 4) (lv' := [(3, .int 4), (2, .int 1), (0, .ref h0), (1, .ref h2)]) hx hb dX11_isFirst_41 hl (k := 1) rfl (by decide) (by decide) rfl (fun ls hl => ?_)
  refine lv_goto (tgt := 12) hx hb dX11_isFirst_44 (by decide) ?_
  refine lv_iload_n hx hb dX11_isFirst_12 rfl (lv_at hl 0 rfl) ?_
  refine lv_bipush (v := 9) hx hb dX11_isFirst_13 (by decide) ?_
  refine lv_icmp_ge (tgt := 47) hx hb dX11_isFirst_15 (by decide) (fun cc => absurd cc (by decide +kernel)) (fun _ => ?_)
  refine lv_iload_n hx hb dX11_isFirst_18 rfl (lv_at hl 1 rfl) ?_
  refine lv_if_eq (tgt := 39) hx hb dX11_isFirst_19 (by decide) (fun cc => absurd cc (by decide +kernel)) (fun _ => ?_)
  refine lv_aload_n hx hb dX11_isFirst_22 rfl (lv_at hl 3 rfl) ?_
  refine lv_iload_n hx hb dX11_isFirst_23 rfl (lv_at hl 0 rfl) ?_
  refine ld_l (j := 4) (v := 1) hx hb hK hP 0 rfl (by decide +kernel) rfl dX11_isFirst_24 ?_
  refine lv_aload_n hx hb dX11_isFirst_25 rfl (lv_at hl 2 rfl) ?_
  refine va_get (D := D) (ci := 8) (v := .ref h1) (C := RX11) (T := TX11) (N := 36) hx hb hU iX11 hown hK.1 hP 1 rfl rfl 13 (by decide) (hU _ w798) (fun _ h9 => h9) rfl dX11_isFirst_26 ?_
  refine lv_iload_n hx hb dX11_isFirst_29 rfl (lv_at hl 0 rfl) ?_
  refine ld_l (j := 4) (v := 1) hx hb hK hP 2 rfl (by decide +kernel) rfl dX11_isFirst_30 ?_
  refine W.lcmp hx hb dX11_isFirst_31 (sv_i (v := 0) (by decide +kernel) ?_)
  refine lv_if_ne (tgt := 39) hx hb dX11_isFirst_32 (by decide) (fun cc => absurd (by decide +kernel) cc) (fun _ => ?_)
  refine lv_iconst (v := 1) hx hb dX11_isFirst_35 (by decide) ?_
  refine lv_goto (tgt := 40) hx hb dX11_isFirst_36 (by decide) ?_
  refine lv_istore_n (lv' := [(2, .int 1), (3, .int 4), (0, .ref h0), (1, .ref h2)]) hx hb dX11_isFirst_40 rfl hl (by decide) rfl (fun ls hl => ?_)
  refine lv_iinc (v := 5) (lv' := [(3, .int 5), (2, .int 1), (0, .ref h0), (1, .ref h2)]) hx hb dX11_isFirst_41 hl (k := 1) rfl (by decide) (by decide) rfl (fun ls hl => ?_)
  refine lv_goto (tgt := 12) hx hb dX11_isFirst_44 (by decide) ?_
  refine lv_iload_n hx hb dX11_isFirst_12 rfl (lv_at hl 0 rfl) ?_
  refine lv_bipush (v := 9) hx hb dX11_isFirst_13 (by decide) ?_
  refine lv_icmp_ge (tgt := 47) hx hb dX11_isFirst_15 (by decide) (fun cc => absurd cc (by decide +kernel)) (fun _ => ?_)
  refine lv_iload_n hx hb dX11_isFirst_18 rfl (lv_at hl 1 rfl) ?_
  refine lv_if_eq (tgt := 39) hx hb dX11_isFirst_19 (by decide) (fun cc => absurd cc (by decide +kernel)) (fun _ => ?_)
  refine lv_aload_n hx hb dX11_isFirst_22 rfl (lv_at hl 3 rfl) ?_
  refine lv_iload_n hx hb dX11_isFirst_23 rfl (lv_at hl 0 rfl) ?_
  refine ld_l (j := 5) (v := 0) hx hb hK hP 0 rfl (by decide +kernel) rfl dX11_isFirst_24 ?_
  refine lv_aload_n hx hb dX11_isFirst_25 rfl (lv_at hl 2 rfl) ?_
  refine va_get (D := D) (ci := 8) (v := .ref h1) (C := RX11) (T := TX11) (N := 36) hx hb hU iX11 hown hK.1 hP 1 rfl rfl 13 (by decide) (hU _ w798) (fun _ h9 => h9) rfl dX11_isFirst_26 ?_
  refine lv_iload_n hx hb dX11_isFirst_29 rfl (lv_at hl 0 rfl) ?_
  refine ld_l (j := 5) (v := 0) hx hb hK hP 2 rfl (by decide +kernel) rfl dX11_isFirst_30 ?_
  refine W.lcmp hx hb dX11_isFirst_31 (sv_i (v := 0) (by decide +kernel) ?_)
  refine lv_if_ne (tgt := 39) hx hb dX11_isFirst_32 (by decide) (fun cc => absurd (by decide +kernel) cc) (fun _ => ?_)
  refine lv_iconst (v := 1) hx hb dX11_isFirst_35 (by decide) ?_
  refine lv_goto (tgt := 40) hx hb dX11_isFirst_36 (by decide) ?_
  refine lv_istore_n (lv' := [(2, .int 1), (3, .int 5), (0, .ref h0), (1, .ref h2)]) hx hb dX11_isFirst_40 rfl hl (by decide) rfl (fun ls hl => ?_)
  refine lv_iinc (v := 6) (lv' := [(3, .int 6), (2, .int 1), (0, .ref h0), (1, .ref h2)]) hx hb dX11_isFirst_41 hl (k := 1) rfl (by decide) (by decide) rfl (fun ls hl => ?_)
  refine lv_goto (tgt := 12) hx hb dX11_isFirst_44 (by decide) ?_
  refine lv_iload_n hx hb dX11_isFirst_12 rfl (lv_at hl 0 rfl) ?_
  refine lv_bipush (v := 9) hx hb dX11_isFirst_13 (by decide) ?_
  refine lv_icmp_ge (tgt := 47) hx hb dX11_isFirst_15 (by decide) (fun cc => absurd cc (by decide +kernel)) (fun _ => ?_)
  refine lv_iload_n hx hb dX11_isFirst_18 rfl (lv_at hl 1 rfl) ?_
  refine lv_if_eq (tgt := 39) hx hb dX11_isFirst_19 (by decide) (fun cc => absurd cc (by decide +kernel)) (fun _ => ?_)
  refine lv_aload_n hx hb dX11_isFirst_22 rfl (lv_at hl 3 rfl) ?_
  refine lv_iload_n hx hb dX11_isFirst_23 rfl (lv_at hl 0 rfl) ?_
  refine ld_l (j := 6) (v := 0) hx hb hK hP 0 rfl (by decide +kernel) rfl dX11_isFirst_24 ?_
  refine lv_aload_n hx hb dX11_isFirst_25 rfl (lv_at hl 2 rfl) ?_
  refine va_get (D := D) (ci := 8) (v := .ref h1) (C := RX11) (T := TX11) (N := 36) hx hb hU iX11 hown hK.1 hP 1 rfl rfl 13 (by decide) (hU _ w798) (fun _ h9 => h9) rfl dX11_isFirst_26 ?_
  refine lv_iload_n hx hb dX11_isFirst_29 rfl (lv_at hl 0 rfl) ?_
  refine ld_l (j := 6) (v := 0) hx hb hK hP 2 rfl (by decide +kernel) rfl dX11_isFirst_30 ?_
  refine W.lcmp hx hb dX11_isFirst_31 (sv_i (v := 0) (by decide +kernel) ?_)
  refine lv_if_ne (tgt := 39) hx hb dX11_isFirst_32 (by decide) (fun cc => absurd (by decide +kernel) cc) (fun _ => ?_)
  refine lv_iconst (v := 1) hx hb dX11_isFirst_35 (by decide) ?_
  refine lv_goto (tgt := 40) hx hb dX11_isFirst_36 (by decide) ?_
  refine lv_istore_n (lv' := [(2, .int 1), (3, .int 6), (0, .ref h0), (1, .ref h2)]) hx hb dX11_isFirst_40 rfl hl (by decide) rfl (fun ls hl => ?_)
  refine lv_iinc (v := 7) (lv' := [(3, .int 7), (2, .int 1), (0, .ref h0), (1, .ref h2)]) hx hb dX11_isFirst_41 hl (k := 1) rfl (by decide) (by decide) rfl (fun ls hl => ?_)
  refine lv_goto (tgt := 12) hx hb dX11_isFirst_44 (by decide) ?_
  refine lv_iload_n hx hb dX11_isFirst_12 rfl (lv_at hl 0 rfl) ?_
  refine lv_bipush (v := 9) hx hb dX11_isFirst_13 (by decide) ?_
  refine lv_icmp_ge (tgt := 47) hx hb dX11_isFirst_15 (by decide) (fun cc => absurd cc (by decide +kernel)) (fun _ => ?_)
  refine lv_iload_n hx hb dX11_isFirst_18 rfl (lv_at hl 1 rfl) ?_
  refine lv_if_eq (tgt := 39) hx hb dX11_isFirst_19 (by decide) (fun cc => absurd cc (by decide +kernel)) (fun _ => ?_)
  refine lv_aload_n hx hb dX11_isFirst_22 rfl (lv_at hl 3 rfl) ?_
  refine lv_iload_n hx hb dX11_isFirst_23 rfl (lv_at hl 0 rfl) ?_
  refine ld_l (j := 7) (v := 0) hx hb hK hP 0 rfl (by decide +kernel) rfl dX11_isFirst_24 ?_
  refine lv_aload_n hx hb dX11_isFirst_25 rfl (lv_at hl 2 rfl) ?_
  refine va_get (D := D) (ci := 8) (v := .ref h1) (C := RX11) (T := TX11) (N := 36) hx hb hU iX11 hown hK.1 hP 1 rfl rfl 13 (by decide) (hU _ w798) (fun _ h9 => h9) rfl dX11_isFirst_26 ?_
  refine lv_iload_n hx hb dX11_isFirst_29 rfl (lv_at hl 0 rfl) ?_
  refine ld_l (j := 7) (v := 0) hx hb hK hP 2 rfl (by decide +kernel) rfl dX11_isFirst_30 ?_
  refine W.lcmp hx hb dX11_isFirst_31 (sv_i (v := 0) (by decide +kernel) ?_)
  refine lv_if_ne (tgt := 39) hx hb dX11_isFirst_32 (by decide) (fun cc => absurd (by decide +kernel) cc) (fun _ => ?_)
  refine lv_iconst (v := 1) hx hb dX11_isFirst_35 (by decide) ?_
  refine lv_goto (tgt := 40) hx hb dX11_isFirst_36 (by decide) ?_
  refine lv_istore_n (lv' := [(2, .int 1), (3, .int 7), (0, .ref h0), (1, .ref h2)]) hx hb dX11_isFirst_40 rfl hl (by decide) rfl (fun ls hl => ?_)
  refine lv_iinc (v := 8) (lv' := [(3, .int 8), (2, .int 1), (0, .ref h0), (1, .ref h2)]) hx hb dX11_isFirst_41 hl (k := 1) rfl (by decide) (by decide) rfl (fun ls hl => ?_)
  refine lv_goto (tgt := 12) hx hb dX11_isFirst_44 (by decide) ?_
  refine lv_iload_n hx hb dX11_isFirst_12 rfl (lv_at hl 0 rfl) ?_
  refine lv_bipush (v := 9) hx hb dX11_isFirst_13 (by decide) ?_
  refine lv_icmp_ge (tgt := 47) hx hb dX11_isFirst_15 (by decide) (fun cc => absurd cc (by decide +kernel)) (fun _ => ?_)
  refine lv_iload_n hx hb dX11_isFirst_18 rfl (lv_at hl 1 rfl) ?_
  refine lv_if_eq (tgt := 39) hx hb dX11_isFirst_19 (by decide) (fun cc => absurd cc (by decide +kernel)) (fun _ => ?_)
  refine lv_aload_n hx hb dX11_isFirst_22 rfl (lv_at hl 3 rfl) ?_
  refine lv_iload_n hx hb dX11_isFirst_23 rfl (lv_at hl 0 rfl) ?_
  refine ld_l (j := 8) (v := 0) hx hb hK hP 0 rfl (by decide +kernel) rfl dX11_isFirst_24 ?_
  refine lv_aload_n hx hb dX11_isFirst_25 rfl (lv_at hl 2 rfl) ?_
  refine va_get (D := D) (ci := 8) (v := .ref h1) (C := RX11) (T := TX11) (N := 36) hx hb hU iX11 hown hK.1 hP 1 rfl rfl 13 (by decide) (hU _ w798) (fun _ h9 => h9) rfl dX11_isFirst_26 ?_
  refine lv_iload_n hx hb dX11_isFirst_29 rfl (lv_at hl 0 rfl) ?_
  refine ld_l (j := 8) (v := 0) hx hb hK hP 2 rfl (by decide +kernel) rfl dX11_isFirst_30 ?_
  refine W.lcmp hx hb dX11_isFirst_31 (sv_i (v := 0) (by decide +kernel) ?_)
  refine lv_if_ne (tgt := 39) hx hb dX11_isFirst_32 (by decide) (fun cc => absurd (by decide +kernel) cc) (fun _ => ?_)
  refine lv_iconst (v := 1) hx hb dX11_isFirst_35 (by decide) ?_
  refine lv_goto (tgt := 40) hx hb dX11_isFirst_36 (by decide) ?_
  refine lv_istore_n (lv' := [(2, .int 1), (3, .int 8), (0, .ref h0), (1, .ref h2)]) hx hb dX11_isFirst_40 rfl hl (by decide) rfl (fun ls hl => ?_)
  refine lv_iinc (v := 9) (lv' := [(3, .int 9), (2, .int 1), (0, .ref h0), (1, .ref h2)]) hx hb dX11_isFirst_41 hl (k := 1) rfl (by decide) (by decide) rfl (fun ls hl => ?_)
  refine lv_goto (tgt := 12) hx hb dX11_isFirst_44 (by decide) ?_
  refine lv_iload_n hx hb dX11_isFirst_12 rfl (lv_at hl 0 rfl) ?_
  refine lv_bipush (v := 9) hx hb dX11_isFirst_13 (by decide) ?_
  refine lv_icmp_ge (tgt := 47) hx hb dX11_isFirst_15 (by decide) (fun _ => ?_) (fun cc => absurd (by decide +kernel) cc)
  refine lv_iload_n hx hb dX11_isFirst_47 rfl (lv_at hl 1 rfl) ?_
  exact retZ (v := 1) hx hb hr hlocks hS (⟨rfl, hP, hD⟩) dX11_isFirst_48 (by decide +kernel)
abbrev BX11_order_1 (D : va_G) (k : Nat → ClassId) (h0 h1 h2 h3 h4 h5 h6 h7 h8 h9 h10 h11 h12 h13 h14 h15 h16 h17 h18 h19 h20 h21 : Nat) (A : Nat → Prop) (r : Int32) (H : Heap) : Prop := 1 = r ∧ va_P D cl0 [(h3, .inl (k 1, 9, .inr (.inl (tL [1, 0, 0, 0, 1, 0, 0, 0, 0] 0)))), (h2, .inl (k 1, 9, .inr (.inl (tL [1, 0, 0, 0, 1, 0, 0, 0, 0] 0)))), (h1, .inl (k 1, 9, .inr (.inl (tL [1, 0, 0, 0, 1, 0, 0, 0, 0] 0)))), (h0, .inr (8, [.int 2, .int 0, .int 1, .int 0, .int 0, .int 0, .ref h5, .ref h6, .int 0, .int 1, .ref h2, .ref h3, .ref h1, .ref h4, .ref h7, .ref h8, .ref h9, .int 0, .int 0, .int 0, .ref h10, .ref h11, .ref h12, .ref h13, .int 1, .int 1, .ref h14, .ref h15, .ref h16, .ref h17, .int 0, .int 0, .ref h18, .ref h19, .ref h20, .ref h21])), (h4, .inl (k 1, 9, .inr (.inl (tL [1, 0, 0, 0, 1, 0, 0, 0, 0] 0))))] H ∧ va_D A [(h3, .inl (k 1, 9, .inr (.inl (tL [1, 0, 0, 0, 1, 0, 0, 0, 0] 0)))), (h2, .inl (k 1, 9, .inr (.inl (tL [1, 0, 0, 0, 1, 0, 0, 0, 0] 0)))), (h1, .inl (k 1, 9, .inr (.inl (tL [1, 0, 0, 0, 1, 0, 0, 0, 0] 0)))), (h0, .inr (8, [.int 2, .int 0, .int 1, .int 0, .int 0, .int 0, .ref h5, .ref h6, .int 0, .int 1, .ref h2, .ref h3, .ref h1, .ref h4, .ref h7, .ref h8, .ref h9, .int 0, .int 0, .int 0, .ref h10, .ref h11, .ref h12, .ref h13, .int 1, .int 1, .ref h14, .ref h15, .ref h16, .ref h17, .int 0, .int 0, .ref h18, .ref h19, .ref h20, .ref h21])), (h4, .inl (k 1, 9, .inr (.inl (tL [1, 0, 0, 0, 1, 0, 0, 0, 0] 0))))]
set_option maxHeartbeats 4000000 in
set_option maxRecDepth 100000 in
theorem cX11_order_1 (l : Launch) (D : va_G) (k : Nat → ClassId) (sz : Nat) (h0 h1 h2 h3 h4 h5 h6 h7 h8 h9 h10 h11 h12 h13 h14 h15 h16 h17 h18 h19 h20 h21 : Nat) : Met l yX11_order (Cond.code yX11_order cX11_order 5 (some .int) :: uw) ({ frames := 3, cells := 0, slots := 0, locals := 67 }) (pC D k sz [.ref h0] [(h0, .inr (8, [.int 2, .int 0, .int 1, .int 0, .int 0, .int 0, .ref h5, .ref h6, .int 0, .int 1, .ref h2, .ref h3, .ref h1, .ref h4, .ref h7, .ref h8, .ref h9, .int 0, .int 0, .int 0, .ref h10, .ref h11, .ref h12, .ref h13, .int 1, .int 1, .ref h14, .ref h15, .ref h16, .ref h17, .int 0, .int 0, .ref h18, .ref h19, .ref h20, .ref h21])), (h1, .inl (k 1, 9, .inr (.inl (tL [] 0)))), (h2, .inl (k 1, 9, .inr (.inl (tL [] 0)))), (h3, .inl (k 1, 9, .inr (.inl (tL [1, 0, 0, 0, 1, 0, 0, 0, 0] 0)))), (h4, .inl (k 1, 9, .inr (.inl (tL [] 0))))]) (qI (BX11_order_1 D k h0 h1 h2 h3 h4 h5 h6 h7 h8 h9 h10 h11 h12 h13 h14 h15 h16 h17 h18 h19 h20 h21 (va_A [(h0, .inr (8, [.int 2, .int 0, .int 1, .int 0, .int 0, .int 0, .ref h5, .ref h6, .int 0, .int 1, .ref h2, .ref h3, .ref h1, .ref h4, .ref h7, .ref h8, .ref h9, .int 0, .int 0, .int 0, .ref h10, .ref h11, .ref h12, .ref h13, .int 1, .int 1, .ref h14, .ref h15, .ref h16, .ref h17, .int 0, .int 0, .ref h18, .ref h19, .ref h20, .ref h21])), (h1, .inl (k 1, 9, .inr (.inl (tL [] 0)))), (h2, .inl (k 1, 9, .inr (.inl (tL [] 0)))), (h3, .inl (k 1, 9, .inr (.inl (tL [1, 0, 0, 0, 1, 0, 0, 0, 0] 0)))), (h4, .inl (k 1, 9, .inr (.inl (tL [] 0))))] sz)) (va_A [(h0, .inr (8, [.int 2, .int 0, .int 1, .int 0, .int 0, .int 0, .ref h5, .ref h6, .int 0, .int 1, .ref h2, .ref h3, .ref h1, .ref h4, .ref h7, .ref h8, .ref h9, .int 0, .int 0, .int 0, .ref h10, .ref h11, .ref h12, .ref h13, .int 1, .int 1, .ref h14, .ref h15, .ref h16, .ref h17, .int 0, .int 0, .ref h18, .ref h19, .ref h20, .ref h21])), (h1, .inl (k 1, 9, .inr (.inl (tL [] 0)))), (h2, .inl (k 1, 9, .inr (.inl (tL [] 0)))), (h3, .inl (k 1, 9, .inr (.inl (tL [1, 0, 0, 0, 1, 0, 0, 0, 0] 0)))), (h4, .inl (k 1, 9, .inr (.inl (tL [] 0))))] sz)) 0 0 (va_A [(h0, .inr (8, [.int 2, .int 0, .int 1, .int 0, .int 0, .int 0, .ref h5, .ref h6, .int 0, .int 1, .ref h2, .ref h3, .ref h1, .ref h4, .ref h7, .ref h8, .ref h9, .int 0, .int 0, .int 0, .ref h10, .ref h11, .ref h12, .ref h13, .int 1, .int 1, .ref h14, .ref h15, .ref h16, .ref h17, .int 0, .int 0, .ref h18, .ref h19, .ref h20, .ref h21])), (h1, .inl (k 1, 9, .inr (.inl (tL [] 0)))), (h2, .inl (k 1, 9, .inr (.inl (tL [] 0)))), (h3, .inl (k 1, 9, .inr (.inl (tL [1, 0, 0, 0, 1, 0, 0, 0, 0] 0)))), (h4, .inl (k 1, 9, .inr (.inl (tL [] 0))))] sz) := by
  refine begin_ (Qc := fun A => qI (BX11_order_1 D k h0 h1 h2 h3 h4 h5 h6 h7 h8 h9 h10 h11 h12 h13 h14 h15 h16 h17 h18 h19 h20 h21 A) A) (by decide) (Nat.le_of_ble_eq_true rfl) ?_
  intro p e s m below meth c ls A hx hb hr hml hown hlocks hin hU hK hsz hP hD hS hA hl
  have hl : lv_has ls 5 [(0, .ref h0)] := hl
  clear hsz
  refine lv_aload_n hx hb dX11_order_0 rfl (lv_at hl 0 rfl) ?_
  refine va_get (D := D) (ci := 8) (v := .ref h1) (C := RX11) (T := TX11) (N := 36) hx hb hU iX11 hown hK.1 hP 0 rfl rfl 12 (by decide) (hU _ w797) (fun _ h9 => h9) rfl dX11_order_1 ?_
  refine lv_astore_n (lv' := [(1, .ref h1), (0, .ref h0)]) hx hb dX11_order_4 rfl hl (by decide) rfl (fun ls hl => ?_)
  refine lv_aload_n hx hb dX11_order_5 rfl (lv_at hl 1 rfl) ?_
  refine va_get (D := D) (ci := 8) (v := .ref h2) (C := RX11) (T := TX11) (N := 36) hx hb hU iX11 hown hK.1 hP 0 rfl rfl 10 (by decide) (hU _ w795) (fun _ h9 => h9) rfl dX11_order_6 ?_
  refine lv_astore_n (lv' := [(2, .ref h2), (1, .ref h1), (0, .ref h0)]) hx hb dX11_order_9 rfl hl (by decide) rfl (fun ls hl => ?_)
  refine lv_aload_n hx hb dX11_order_10 rfl (lv_at hl 2 rfl) ?_
  refine lv_aload_n hx hb dX11_order_11 rfl (lv_at hl 1 rfl) ?_
  refine cV (rV (q0 := 0) (ci := 8) (As := [.ref h1]) (rest := []) (wc := [(h1, .inl (k 1, 9, .inr (.inl (tL [] 0)))), (h0, .inr (8, [.int 2, .int 0, .int 1, .int 0, .int 0, .int 0, .ref h5, .ref h6, .int 0, .int 1, .ref h2, .ref h3, .ref h1, .ref h4, .ref h7, .ref h8, .ref h9, .int 0, .int 0, .int 0, .ref h10, .ref h11, .ref h12, .ref h13, .int 1, .int 1, .ref h14, .ref h15, .ref h16, .ref h17, .int 0, .int 0, .ref h18, .ref h19, .ref h20, .ref h21]))]) hx hb hml hown hU hK hP hD rfl rfl [1, 0] rfl (by decide) (cX11_first_7 l D k _ h1 h0 h5 h6 h2 h3 h4 h7 h8 h9 h10 h11 h12 h13 h14 h15 h16 h17 h18 h19 h20 h21) w919 w916 w918 w28 w72 hdX11_first ⟨rfl, rfl⟩ ⟨Nat.le_of_ble_eq_true rfl, Nat.le_of_ble_eq_true rfl⟩ rfl hl.1 (Nat.le_of_ble_eq_true rfl) dX11_order_12 ⟨Nat.le_of_ble_eq_true rfl, Nat.le_of_ble_eq_true rfl⟩) hP hD hS hA (wr := [(h2, .inl (k 1, 9, .inr (.inl (tL [] 0)))), (h3, .inl (k 1, 9, .inr (.inl (tL [1, 0, 0, 0, 1, 0, 0, 0, 0] 0)))), (h4, .inl (k 1, 9, .inr (.inl (tL [] 0))))]) [1, 0] [2, 3, 4] rfl rfl (by decide) (by decide) (fun H locs hB J hS => ?_)
  obtain ⟨hP1, hD1⟩ := hB
  obtain ⟨hP, hD⟩ := J _ hP1 hD1
  have hP : va_P D cl0 [(h2, .inl (k 1, 9, .inr (.inl (tL [] 0)))), (h3, .inl (k 1, 9, .inr (.inl (tL [1, 0, 0, 0, 1, 0, 0, 0, 0] 0)))), (h4, .inl (k 1, 9, .inr (.inl (tL [] 0)))), (h0, .inr (8, [.int 2, .int 0, .int 1, .int 0, .int 0, .int 0, .ref h5, .ref h6, .int 0, .int 1, .ref h2, .ref h3, .ref h1, .ref h4, .ref h7, .ref h8, .ref h9, .int 0, .int 0, .int 0, .ref h10, .ref h11, .ref h12, .ref h13, .int 1, .int 1, .ref h14, .ref h15, .ref h16, .ref h17, .int 0, .int 0, .ref h18, .ref h19, .ref h20, .ref h21])), (h1, .inl (k 1, 9, .inr (.inl (tL [1, 0, 0, 0, 1, 0, 0, 0, 0] 0))))] H := hP
  have hD : va_D A [(h2, .inl (k 1, 9, .inr (.inl (tL [] 0)))), (h3, .inl (k 1, 9, .inr (.inl (tL [1, 0, 0, 0, 1, 0, 0, 0, 0] 0)))), (h4, .inl (k 1, 9, .inr (.inl (tL [] 0)))), (h0, .inr (8, [.int 2, .int 0, .int 1, .int 0, .int 0, .int 0, .ref h5, .ref h6, .int 0, .int 1, .ref h2, .ref h3, .ref h1, .ref h4, .ref h7, .ref h8, .ref h9, .int 0, .int 0, .int 0, .ref h10, .ref h11, .ref h12, .ref h13, .int 1, .int 1, .ref h14, .ref h15, .ref h16, .ref h17, .int 0, .int 0, .ref h18, .ref h19, .ref h20, .ref h21])), (h1, .inl (k 1, 9, .inr (.inl (tL [1, 0, 0, 0, 1, 0, 0, 0, 0] 0))))] := hD
  refine lv_iconst (v := 1) hx hb dX11_order_15 (by decide) ?_
  refine lv_istore_n (lv' := [(3, .int 1), (2, .ref h2), (1, .ref h1), (0, .ref h0)]) hx hb dX11_order_16 rfl hl (by decide) rfl (fun ls hl => ?_)
  refine lv_iload_n hx hb dX11_order_17 rfl (lv_at hl 0 rfl) ?_
  refine lv_bipush (v := 12) hx hb dX11_order_18 (by decide) ?_
  refine lv_icmp_gt (tgt := 84) hx hb dX11_order_20 (by decide) (fun cc => absurd cc (by decide +kernel)) (fun _ => ?_)
  refine lv_aload_n hx hb dX11_order_23 rfl (lv_at hl 3 rfl) ?_
  refine lv_aload_n hx hb dX11_order_24 rfl (lv_at hl 2 rfl) ?_
  refine lv_aload_n hx hb dX11_order_25 rfl (lv_at hl 3 rfl) ?_
  refine va_get (D := D) (ci := 8) (v := .ref h3) (C := RX11) (T := TX11) (N := 36) hx hb hU iX11 hown hK.1 hP 3 rfl rfl 11 (by decide) (hU _ w796) (fun _ h9 => h9) rfl dX11_order_26 ?_
  refine lv_aload_n hx hb dX11_order_29 rfl (lv_at hl 1 rfl) ?_
  refine cV (rV (q0 := 3) (ci := 8) (As := [.ref h1, .ref h3, .ref h2]) (rest := []) (wc := [(h2, .inl (k 1, 9, .inr (.inl (tL [] 0)))), (h0, .inr (8, [.int 2, .int 0, .int 1, .int 0, .int 0, .int 0, .ref h5, .ref h6, .int 0, .int 1, .ref h2, .ref h3, .ref h1, .ref h4, .ref h7, .ref h8, .ref h9, .int 0, .int 0, .int 0, .ref h10, .ref h11, .ref h12, .ref h13, .int 1, .int 1, .ref h14, .ref h15, .ref h16, .ref h17, .int 0, .int 0, .ref h18, .ref h19, .ref h20, .ref h21])), (h1, .inl (k 1, 9, .inr (.inl (tL [1, 0, 0, 0, 1, 0, 0, 0, 0] 0)))), (h3, .inl (k 1, 9, .inr (.inl (tL [1, 0, 0, 0, 1, 0, 0, 0, 0] 0))))]) hx hb hml hown hU hK hP hD rfl rfl [0, 3, 4, 1] rfl (by decide) (cX11_times_1 l D k _ h2 h0 h1 h3 h5 h6 h4 h7 h8 h9 h10 h11 h12 h13 h14 h15 h16 h17 h18 h19 h20 h21) w943 w940 w942 w33 w72 hdX11_times ⟨rfl, rfl⟩ ⟨Nat.le_of_ble_eq_true rfl, Nat.le_of_ble_eq_true rfl⟩ rfl hl.1 (Nat.le_of_ble_eq_true rfl) dX11_order_30 ⟨Nat.le_of_ble_eq_true rfl, Nat.le_of_ble_eq_true rfl⟩) hP hD hS hA (wr := [(h4, .inl (k 1, 9, .inr (.inl (tL [] 0))))]) [0, 3, 4, 1] [2] rfl rfl (by decide) (by decide) (fun H locs hB J hS => ?_)
  obtain ⟨hP1, hD1⟩ := hB
  obtain ⟨hP, hD⟩ := J _ hP1 hD1
  have hP : va_P D cl0 [(h4, .inl (k 1, 9, .inr (.inl (tL [] 0)))), (h0, .inr (8, [.int 2, .int 0, .int 1, .int 0, .int 0, .int 0, .ref h5, .ref h6, .int 0, .int 1, .ref h2, .ref h3, .ref h1, .ref h4, .ref h7, .ref h8, .ref h9, .int 0, .int 0, .int 0, .ref h10, .ref h11, .ref h12, .ref h13, .int 1, .int 1, .ref h14, .ref h15, .ref h16, .ref h17, .int 0, .int 0, .ref h18, .ref h19, .ref h20, .ref h21])), (h1, .inl (k 1, 9, .inr (.inl (tL [1, 0, 0, 0, 1, 0, 0, 0, 0] 0)))), (h3, .inl (k 1, 9, .inr (.inl (tL [1, 0, 0, 0, 1, 0, 0, 0, 0] 0)))), (h2, .inl (k 1, 9, .inr (.inl (tL [1, 0, 0, 0, 1, 0, 0, 0, 0] 0))))] H := hP
  have hD : va_D A [(h4, .inl (k 1, 9, .inr (.inl (tL [] 0)))), (h0, .inr (8, [.int 2, .int 0, .int 1, .int 0, .int 0, .int 0, .ref h5, .ref h6, .int 0, .int 1, .ref h2, .ref h3, .ref h1, .ref h4, .ref h7, .ref h8, .ref h9, .int 0, .int 0, .int 0, .ref h10, .ref h11, .ref h12, .ref h13, .int 1, .int 1, .ref h14, .ref h15, .ref h16, .ref h17, .int 0, .int 0, .ref h18, .ref h19, .ref h20, .ref h21])), (h1, .inl (k 1, 9, .inr (.inl (tL [1, 0, 0, 0, 1, 0, 0, 0, 0] 0)))), (h3, .inl (k 1, 9, .inr (.inl (tL [1, 0, 0, 0, 1, 0, 0, 0, 0] 0)))), (h2, .inl (k 1, 9, .inr (.inl (tL [1, 0, 0, 0, 1, 0, 0, 0, 0] 0))))] := hD
  refine lv_iconst (v := 0) hx hb dX11_order_33 (by decide) ?_
  refine lv_istore (lv' := [(4, .int 0), (3, .int 1), (2, .ref h2), (1, .ref h1), (0, .ref h0)]) hx hb dX11_order_34 hl (by decide) rfl (fun ls hl => ?_)
  refine lv_iload hx hb dX11_order_36 (lv_at hl 0 rfl) ?_
  refine lv_bipush (v := 9) hx hb dX11_order_38 (by decide) ?_
  refine lv_icmp_ge (tgt := 57) hx hb dX11_order_40 (by decide) (fun cc => absurd cc (by decide +kernel)) (fun _ => ?_)
  refine lv_aload_n hx hb dX11_order_43 rfl (lv_at hl 3 rfl) ?_
  refine lv_iload hx hb dX11_order_44 (lv_at hl 0 rfl) ?_
  refine lv_aload_n hx hb dX11_order_46 rfl (lv_at hl 2 rfl) ?_
  refine lv_iload hx hb dX11_order_47 (lv_at hl 0 rfl) ?_
  refine ld_l (j := 0) (v := 1) hx hb hK hP 4 rfl (by decide +kernel) rfl dX11_order_49 ?_
  refine st_l (j := 0) (g := tL [1, 0, 0, 0, 1, 0, 0, 0, 0] 0) hx hb hK hP hD hS 2 rfl (by decide +kernel) upd_tL dX11_order_50 (fun H locs hP hD hS => ?_)
  have hP : va_P D cl0 [(h4, .inl (k 1, 9, .inr (.inl (tL [] 0)))), (h0, .inr (8, [.int 2, .int 0, .int 1, .int 0, .int 0, .int 0, .ref h5, .ref h6, .int 0, .int 1, .ref h2, .ref h3, .ref h1, .ref h4, .ref h7, .ref h8, .ref h9, .int 0, .int 0, .int 0, .ref h10, .ref h11, .ref h12, .ref h13, .int 1, .int 1, .ref h14, .ref h15, .ref h16, .ref h17, .int 0, .int 0, .ref h18, .ref h19, .ref h20, .ref h21])), (h1, .inl (k 1, 9, .inr (.inl (tL [1, 0, 0, 0, 1, 0, 0, 0, 0] 0)))), (h3, .inl (k 1, 9, .inr (.inl (tL [1, 0, 0, 0, 1, 0, 0, 0, 0] 0)))), (h2, .inl (k 1, 9, .inr (.inl (tL [1, 0, 0, 0, 1, 0, 0, 0, 0] 0))))] H := hP
  have hD : va_D A [(h4, .inl (k 1, 9, .inr (.inl (tL [] 0)))), (h0, .inr (8, [.int 2, .int 0, .int 1, .int 0, .int 0, .int 0, .ref h5, .ref h6, .int 0, .int 1, .ref h2, .ref h3, .ref h1, .ref h4, .ref h7, .ref h8, .ref h9, .int 0, .int 0, .int 0, .ref h10, .ref h11, .ref h12, .ref h13, .int 1, .int 1, .ref h14, .ref h15, .ref h16, .ref h17, .int 0, .int 0, .ref h18, .ref h19, .ref h20, .ref h21])), (h1, .inl (k 1, 9, .inr (.inl (tL [1, 0, 0, 0, 1, 0, 0, 0, 0] 0)))), (h3, .inl (k 1, 9, .inr (.inl (tL [1, 0, 0, 0, 1, 0, 0, 0, 0] 0)))), (h2, .inl (k 1, 9, .inr (.inl (tL [1, 0, 0, 0, 1, 0, 0, 0, 0] 0))))] := hD
  refine lv_iinc (v := 1) (lv' := [(4, .int 1), (3, .int 1), (2, .ref h2), (1, .ref h1), (0, .ref h0)]) hx hb dX11_order_51 hl (k := 0) rfl (by decide) (by decide) rfl (fun ls hl => ?_)
  refine lv_goto (tgt := 36) hx hb dX11_order_54 (by decide) ?_
  refine lv_iload hx hb dX11_order_36 (lv_at hl 0 rfl) ?_
  refine lv_bipush (v := 9) hx hb dX11_order_38 (by decide) ?_
  refine lv_icmp_ge (tgt := 57) hx hb dX11_order_40 (by decide) (fun cc => absurd cc (by decide +kernel)) (fun _ => ?_)
  refine lv_aload_n hx hb dX11_order_43 rfl (lv_at hl 3 rfl) ?_
  refine lv_iload hx hb dX11_order_44 (lv_at hl 0 rfl) ?_
  refine lv_aload_n hx hb dX11_order_46 rfl (lv_at hl 2 rfl) ?_
  refine lv_iload hx hb dX11_order_47 (lv_at hl 0 rfl) ?_
  refine ld_l (j := 1) (v := 0) hx hb hK hP 4 rfl (by decide +kernel) rfl dX11_order_49 ?_
  refine st_l (j := 1) (g := tL [1, 0, 0, 0, 1, 0, 0, 0, 0] 0) hx hb hK hP hD hS 2 rfl (by decide +kernel) upd_tL dX11_order_50 (fun H locs hP hD hS => ?_)
  have hP : va_P D cl0 [(h4, .inl (k 1, 9, .inr (.inl (tL [] 0)))), (h0, .inr (8, [.int 2, .int 0, .int 1, .int 0, .int 0, .int 0, .ref h5, .ref h6, .int 0, .int 1, .ref h2, .ref h3, .ref h1, .ref h4, .ref h7, .ref h8, .ref h9, .int 0, .int 0, .int 0, .ref h10, .ref h11, .ref h12, .ref h13, .int 1, .int 1, .ref h14, .ref h15, .ref h16, .ref h17, .int 0, .int 0, .ref h18, .ref h19, .ref h20, .ref h21])), (h1, .inl (k 1, 9, .inr (.inl (tL [1, 0, 0, 0, 1, 0, 0, 0, 0] 0)))), (h3, .inl (k 1, 9, .inr (.inl (tL [1, 0, 0, 0, 1, 0, 0, 0, 0] 0)))), (h2, .inl (k 1, 9, .inr (.inl (tL [1, 0, 0, 0, 1, 0, 0, 0, 0] 0))))] H := hP
  have hD : va_D A [(h4, .inl (k 1, 9, .inr (.inl (tL [] 0)))), (h0, .inr (8, [.int 2, .int 0, .int 1, .int 0, .int 0, .int 0, .ref h5, .ref h6, .int 0, .int 1, .ref h2, .ref h3, .ref h1, .ref h4, .ref h7, .ref h8, .ref h9, .int 0, .int 0, .int 0, .ref h10, .ref h11, .ref h12, .ref h13, .int 1, .int 1, .ref h14, .ref h15, .ref h16, .ref h17, .int 0, .int 0, .ref h18, .ref h19, .ref h20, .ref h21])), (h1, .inl (k 1, 9, .inr (.inl (tL [1, 0, 0, 0, 1, 0, 0, 0, 0] 0)))), (h3, .inl (k 1, 9, .inr (.inl (tL [1, 0, 0, 0, 1, 0, 0, 0, 0] 0)))), (h2, .inl (k 1, 9, .inr (.inl (tL [1, 0, 0, 0, 1, 0, 0, 0, 0] 0))))] := hD
  refine lv_iinc (v := 2) (lv' := [(4, .int 2), (3, .int 1), (2, .ref h2), (1, .ref h1), (0, .ref h0)]) hx hb dX11_order_51 hl (k := 0) rfl (by decide) (by decide) rfl (fun ls hl => ?_)
  refine lv_goto (tgt := 36) hx hb dX11_order_54 (by decide) ?_
  refine lv_iload hx hb dX11_order_36 (lv_at hl 0 rfl) ?_
  refine lv_bipush (v := 9) hx hb dX11_order_38 (by decide) ?_
  refine lv_icmp_ge (tgt := 57) hx hb dX11_order_40 (by decide) (fun cc => absurd cc (by decide +kernel)) (fun _ => ?_)
  refine lv_aload_n hx hb dX11_order_43 rfl (lv_at hl 3 rfl) ?_
  refine lv_iload hx hb dX11_order_44 (lv_at hl 0 rfl) ?_
  refine lv_aload_n hx hb dX11_order_46 rfl (lv_at hl 2 rfl) ?_
  refine lv_iload hx hb dX11_order_47 (lv_at hl 0 rfl) ?_
  refine ld_l (j := 2) (v := 0) hx hb hK hP 4 rfl (by decide +kernel) rfl dX11_order_49 ?_
  refine st_l (j := 2) (g := tL [1, 0, 0, 0, 1, 0, 0, 0, 0] 0) hx hb hK hP hD hS 2 rfl (by decide +kernel) upd_tL dX11_order_50 (fun H locs hP hD hS => ?_)
  have hP : va_P D cl0 [(h4, .inl (k 1, 9, .inr (.inl (tL [] 0)))), (h0, .inr (8, [.int 2, .int 0, .int 1, .int 0, .int 0, .int 0, .ref h5, .ref h6, .int 0, .int 1, .ref h2, .ref h3, .ref h1, .ref h4, .ref h7, .ref h8, .ref h9, .int 0, .int 0, .int 0, .ref h10, .ref h11, .ref h12, .ref h13, .int 1, .int 1, .ref h14, .ref h15, .ref h16, .ref h17, .int 0, .int 0, .ref h18, .ref h19, .ref h20, .ref h21])), (h1, .inl (k 1, 9, .inr (.inl (tL [1, 0, 0, 0, 1, 0, 0, 0, 0] 0)))), (h3, .inl (k 1, 9, .inr (.inl (tL [1, 0, 0, 0, 1, 0, 0, 0, 0] 0)))), (h2, .inl (k 1, 9, .inr (.inl (tL [1, 0, 0, 0, 1, 0, 0, 0, 0] 0))))] H := hP
  have hD : va_D A [(h4, .inl (k 1, 9, .inr (.inl (tL [] 0)))), (h0, .inr (8, [.int 2, .int 0, .int 1, .int 0, .int 0, .int 0, .ref h5, .ref h6, .int 0, .int 1, .ref h2, .ref h3, .ref h1, .ref h4, .ref h7, .ref h8, .ref h9, .int 0, .int 0, .int 0, .ref h10, .ref h11, .ref h12, .ref h13, .int 1, .int 1, .ref h14, .ref h15, .ref h16, .ref h17, .int 0, .int 0, .ref h18, .ref h19, .ref h20, .ref h21])), (h1, .inl (k 1, 9, .inr (.inl (tL [1, 0, 0, 0, 1, 0, 0, 0, 0] 0)))), (h3, .inl (k 1, 9, .inr (.inl (tL [1, 0, 0, 0, 1, 0, 0, 0, 0] 0)))), (h2, .inl (k 1, 9, .inr (.inl (tL [1, 0, 0, 0, 1, 0, 0, 0, 0] 0))))] := hD
  refine lv_iinc (v := 3) (lv' := [(4, .int 3), (3, .int 1), (2, .ref h2), (1, .ref h1), (0, .ref h0)]) hx hb dX11_order_51 hl (k := 0) rfl (by decide) (by decide) rfl (fun ls hl => ?_)
  refine lv_goto (tgt := 36) hx hb dX11_order_54 (by decide) ?_
  refine lv_iload hx hb dX11_order_36 (lv_at hl 0 rfl) ?_
  refine lv_bipush (v := 9) hx hb dX11_order_38 (by decide) ?_
  refine lv_icmp_ge (tgt := 57) hx hb dX11_order_40 (by decide) (fun cc => absurd cc (by decide +kernel)) (fun _ => ?_)
  refine lv_aload_n hx hb dX11_order_43 rfl (lv_at hl 3 rfl) ?_
  refine lv_iload hx hb dX11_order_44 (lv_at hl 0 rfl) ?_
  refine lv_aload_n hx hb dX11_order_46 rfl (lv_at hl 2 rfl) ?_
  refine lv_iload hx hb dX11_order_47 (lv_at hl 0 rfl) ?_
  refine ld_l (j := 3) (v := 0) hx hb hK hP 4 rfl (by decide +kernel) rfl dX11_order_49 ?_
  refine st_l (j := 3) (g := tL [1, 0, 0, 0, 1, 0, 0, 0, 0] 0) hx hb hK hP hD hS 2 rfl (by decide +kernel) upd_tL dX11_order_50 (fun H locs hP hD hS => ?_)
  have hP : va_P D cl0 [(h4, .inl (k 1, 9, .inr (.inl (tL [] 0)))), (h0, .inr (8, [.int 2, .int 0, .int 1, .int 0, .int 0, .int 0, .ref h5, .ref h6, .int 0, .int 1, .ref h2, .ref h3, .ref h1, .ref h4, .ref h7, .ref h8, .ref h9, .int 0, .int 0, .int 0, .ref h10, .ref h11, .ref h12, .ref h13, .int 1, .int 1, .ref h14, .ref h15, .ref h16, .ref h17, .int 0, .int 0, .ref h18, .ref h19, .ref h20, .ref h21])), (h1, .inl (k 1, 9, .inr (.inl (tL [1, 0, 0, 0, 1, 0, 0, 0, 0] 0)))), (h3, .inl (k 1, 9, .inr (.inl (tL [1, 0, 0, 0, 1, 0, 0, 0, 0] 0)))), (h2, .inl (k 1, 9, .inr (.inl (tL [1, 0, 0, 0, 1, 0, 0, 0, 0] 0))))] H := hP
  have hD : va_D A [(h4, .inl (k 1, 9, .inr (.inl (tL [] 0)))), (h0, .inr (8, [.int 2, .int 0, .int 1, .int 0, .int 0, .int 0, .ref h5, .ref h6, .int 0, .int 1, .ref h2, .ref h3, .ref h1, .ref h4, .ref h7, .ref h8, .ref h9, .int 0, .int 0, .int 0, .ref h10, .ref h11, .ref h12, .ref h13, .int 1, .int 1, .ref h14, .ref h15, .ref h16, .ref h17, .int 0, .int 0, .ref h18, .ref h19, .ref h20, .ref h21])), (h1, .inl (k 1, 9, .inr (.inl (tL [1, 0, 0, 0, 1, 0, 0, 0, 0] 0)))), (h3, .inl (k 1, 9, .inr (.inl (tL [1, 0, 0, 0, 1, 0, 0, 0, 0] 0)))), (h2, .inl (k 1, 9, .inr (.inl (tL [1, 0, 0, 0, 1, 0, 0, 0, 0] 0))))] := hD
  refine lv_iinc (v := 4) (lv' := [(4, .int 4), (3, .int 1), (2, .ref h2), (1, .ref h1), (0, .ref h0)]) hx hb dX11_order_51 hl (k := 0) rfl (by decide) (by decide) rfl (fun ls hl => ?_)
  refine lv_goto (tgt := 36) hx hb dX11_order_54 (by decide) ?_
  refine lv_iload hx hb dX11_order_36 (lv_at hl 0 rfl) ?_
  refine lv_bipush (v := 9) hx hb dX11_order_38 (by decide) ?_
  refine lv_icmp_ge (tgt := 57) hx hb dX11_order_40 (by decide) (fun cc => absurd cc (by decide +kernel)) (fun _ => ?_)
  refine lv_aload_n hx hb dX11_order_43 rfl (lv_at hl 3 rfl) ?_
  refine lv_iload hx hb dX11_order_44 (lv_at hl 0 rfl) ?_
  refine lv_aload_n hx hb dX11_order_46 rfl (lv_at hl 2 rfl) ?_
  refine lv_iload hx hb dX11_order_47 (lv_at hl 0 rfl) ?_
  refine ld_l (j := 4) (v := 1) hx hb hK hP 4 rfl (by decide +kernel) rfl dX11_order_49 ?_
  refine st_l (j := 4) (g := tL [1, 0, 0, 0, 1, 0, 0, 0, 0] 0) hx hb hK hP hD hS 2 rfl (by decide +kernel) upd_tL dX11_order_50 (fun H locs hP hD hS => ?_)
  have hP : va_P D cl0 [(h4, .inl (k 1, 9, .inr (.inl (tL [] 0)))), (h0, .inr (8, [.int 2, .int 0, .int 1, .int 0, .int 0, .int 0, .ref h5, .ref h6, .int 0, .int 1, .ref h2, .ref h3, .ref h1, .ref h4, .ref h7, .ref h8, .ref h9, .int 0, .int 0, .int 0, .ref h10, .ref h11, .ref h12, .ref h13, .int 1, .int 1, .ref h14, .ref h15, .ref h16, .ref h17, .int 0, .int 0, .ref h18, .ref h19, .ref h20, .ref h21])), (h1, .inl (k 1, 9, .inr (.inl (tL [1, 0, 0, 0, 1, 0, 0, 0, 0] 0)))), (h3, .inl (k 1, 9, .inr (.inl (tL [1, 0, 0, 0, 1, 0, 0, 0, 0] 0)))), (h2, .inl (k 1, 9, .inr (.inl (tL [1, 0, 0, 0, 1, 0, 0, 0, 0] 0))))] H := hP
  have hD : va_D A [(h4, .inl (k 1, 9, .inr (.inl (tL [] 0)))), (h0, .inr (8, [.int 2, .int 0, .int 1, .int 0, .int 0, .int 0, .ref h5, .ref h6, .int 0, .int 1, .ref h2, .ref h3, .ref h1, .ref h4, .ref h7, .ref h8, .ref h9, .int 0, .int 0, .int 0, .ref h10, .ref h11, .ref h12, .ref h13, .int 1, .int 1, .ref h14, .ref h15, .ref h16, .ref h17, .int 0, .int 0, .ref h18, .ref h19, .ref h20, .ref h21])), (h1, .inl (k 1, 9, .inr (.inl (tL [1, 0, 0, 0, 1, 0, 0, 0, 0] 0)))), (h3, .inl (k 1, 9, .inr (.inl (tL [1, 0, 0, 0, 1, 0, 0, 0, 0] 0)))), (h2, .inl (k 1, 9, .inr (.inl (tL [1, 0, 0, 0, 1, 0, 0, 0, 0] 0))))] := hD
  refine lv_iinc (v := 5) (lv' := [(4, .int 5), (3, .int 1), (2, .ref h2), (1, .ref h1), (0, .ref h0)]) hx hb dX11_order_51 hl (k := 0) rfl (by decide) (by decide) rfl (fun ls hl => ?_)
  refine lv_goto (tgt := 36) hx hb dX11_order_54 (by decide) ?_
  refine lv_iload hx hb dX11_order_36 (lv_at hl 0 rfl) ?_
  refine lv_bipush (v := 9) hx hb dX11_order_38 (by decide) ?_
  refine lv_icmp_ge (tgt := 57) hx hb dX11_order_40 (by decide) (fun cc => absurd cc (by decide +kernel)) (fun _ => ?_)
  refine lv_aload_n hx hb dX11_order_43 rfl (lv_at hl 3 rfl) ?_
  refine lv_iload hx hb dX11_order_44 (lv_at hl 0 rfl) ?_
  refine lv_aload_n hx hb dX11_order_46 rfl (lv_at hl 2 rfl) ?_
  refine lv_iload hx hb dX11_order_47 (lv_at hl 0 rfl) ?_
  refine ld_l (j := 5) (v := 0) hx hb hK hP 4 rfl (by decide +kernel) rfl dX11_order_49 ?_
  refine st_l (j := 5) (g := tL [1, 0, 0, 0, 1, 0, 0, 0, 0] 0) hx hb hK hP hD hS 2 rfl (by decide +kernel) upd_tL dX11_order_50 (fun H locs hP hD hS => ?_)
  have hP : va_P D cl0 [(h4, .inl (k 1, 9, .inr (.inl (tL [] 0)))), (h0, .inr (8, [.int 2, .int 0, .int 1, .int 0, .int 0, .int 0, .ref h5, .ref h6, .int 0, .int 1, .ref h2, .ref h3, .ref h1, .ref h4, .ref h7, .ref h8, .ref h9, .int 0, .int 0, .int 0, .ref h10, .ref h11, .ref h12, .ref h13, .int 1, .int 1, .ref h14, .ref h15, .ref h16, .ref h17, .int 0, .int 0, .ref h18, .ref h19, .ref h20, .ref h21])), (h1, .inl (k 1, 9, .inr (.inl (tL [1, 0, 0, 0, 1, 0, 0, 0, 0] 0)))), (h3, .inl (k 1, 9, .inr (.inl (tL [1, 0, 0, 0, 1, 0, 0, 0, 0] 0)))), (h2, .inl (k 1, 9, .inr (.inl (tL [1, 0, 0, 0, 1, 0, 0, 0, 0] 0))))] H := hP
  have hD : va_D A [(h4, .inl (k 1, 9, .inr (.inl (tL [] 0)))), (h0, .inr (8, [.int 2, .int 0, .int 1, .int 0, .int 0, .int 0, .ref h5, .ref h6, .int 0, .int 1, .ref h2, .ref h3, .ref h1, .ref h4, .ref h7, .ref h8, .ref h9, .int 0, .int 0, .int 0, .ref h10, .ref h11, .ref h12, .ref h13, .int 1, .int 1, .ref h14, .ref h15, .ref h16, .ref h17, .int 0, .int 0, .ref h18, .ref h19, .ref h20, .ref h21])), (h1, .inl (k 1, 9, .inr (.inl (tL [1, 0, 0, 0, 1, 0, 0, 0, 0] 0)))), (h3, .inl (k 1, 9, .inr (.inl (tL [1, 0, 0, 0, 1, 0, 0, 0, 0] 0)))), (h2, .inl (k 1, 9, .inr (.inl (tL [1, 0, 0, 0, 1, 0, 0, 0, 0] 0))))] := hD
  refine lv_iinc (v := 6) (lv' := [(4, .int 6), (3, .int 1), (2, .ref h2), (1, .ref h1), (0, .ref h0)]) hx hb dX11_order_51 hl (k := 0) rfl (by decide) (by decide) rfl (fun ls hl => ?_)
  refine lv_goto (tgt := 36) hx hb dX11_order_54 (by decide) ?_
  refine lv_iload hx hb dX11_order_36 (lv_at hl 0 rfl) ?_
  refine lv_bipush (v := 9) hx hb dX11_order_38 (by decide) ?_
  refine lv_icmp_ge (tgt := 57) hx hb dX11_order_40 (by decide) (fun cc => absurd cc (by decide +kernel)) (fun _ => ?_)
  refine lv_aload_n hx hb dX11_order_43 rfl (lv_at hl 3 rfl) ?_
  refine lv_iload hx hb dX11_order_44 (lv_at hl 0 rfl) ?_
  refine lv_aload_n hx hb dX11_order_46 rfl (lv_at hl 2 rfl) ?_
  refine lv_iload hx hb dX11_order_47 (lv_at hl 0 rfl) ?_
  refine ld_l (j := 6) (v := 0) hx hb hK hP 4 rfl (by decide +kernel) rfl dX11_order_49 ?_
  refine st_l (j := 6) (g := tL [1, 0, 0, 0, 1, 0, 0, 0, 0] 0) hx hb hK hP hD hS 2 rfl (by decide +kernel) upd_tL dX11_order_50 (fun H locs hP hD hS => ?_)
  have hP : va_P D cl0 [(h4, .inl (k 1, 9, .inr (.inl (tL [] 0)))), (h0, .inr (8, [.int 2, .int 0, .int 1, .int 0, .int 0, .int 0, .ref h5, .ref h6, .int 0, .int 1, .ref h2, .ref h3, .ref h1, .ref h4, .ref h7, .ref h8, .ref h9, .int 0, .int 0, .int 0, .ref h10, .ref h11, .ref h12, .ref h13, .int 1, .int 1, .ref h14, .ref h15, .ref h16, .ref h17, .int 0, .int 0, .ref h18, .ref h19, .ref h20, .ref h21])), (h1, .inl (k 1, 9, .inr (.inl (tL [1, 0, 0, 0, 1, 0, 0, 0, 0] 0)))), (h3, .inl (k 1, 9, .inr (.inl (tL [1, 0, 0, 0, 1, 0, 0, 0, 0] 0)))), (h2, .inl (k 1, 9, .inr (.inl (tL [1, 0, 0, 0, 1, 0, 0, 0, 0] 0))))] H := hP
  have hD : va_D A [(h4, .inl (k 1, 9, .inr (.inl (tL [] 0)))), (h0, .inr (8, [.int 2, .int 0, .int 1, .int 0, .int 0, .int 0, .ref h5, .ref h6, .int 0, .int 1, .ref h2, .ref h3, .ref h1, .ref h4, .ref h7, .ref h8, .ref h9, .int 0, .int 0, .int 0, .ref h10, .ref h11, .ref h12, .ref h13, .int 1, .int 1, .ref h14, .ref h15, .ref h16, .ref h17, .int 0, .int 0, .ref h18, .ref h19, .ref h20, .ref h21])), (h1, .inl (k 1, 9, .inr (.inl (tL [1, 0, 0, 0, 1, 0, 0, 0, 0] 0)))), (h3, .inl (k 1, 9, .inr (.inl (tL [1, 0, 0, 0, 1, 0, 0, 0, 0] 0)))), (h2, .inl (k 1, 9, .inr (.inl (tL [1, 0, 0, 0, 1, 0, 0, 0, 0] 0))))] := hD
  refine lv_iinc (v := 7) (lv' := [(4, .int 7), (3, .int 1), (2, .ref h2), (1, .ref h1), (0, .ref h0)]) hx hb dX11_order_51 hl (k := 0) rfl (by decide) (by decide) rfl (fun ls hl => ?_)
  refine lv_goto (tgt := 36) hx hb dX11_order_54 (by decide) ?_
  refine lv_iload hx hb dX11_order_36 (lv_at hl 0 rfl) ?_
  refine lv_bipush (v := 9) hx hb dX11_order_38 (by decide) ?_
  refine lv_icmp_ge (tgt := 57) hx hb dX11_order_40 (by decide) (fun cc => absurd cc (by decide +kernel)) (fun _ => ?_)
  refine lv_aload_n hx hb dX11_order_43 rfl (lv_at hl 3 rfl) ?_
  refine lv_iload hx hb dX11_order_44 (lv_at hl 0 rfl) ?_
  refine lv_aload_n hx hb dX11_order_46 rfl (lv_at hl 2 rfl) ?_
  refine lv_iload hx hb dX11_order_47 (lv_at hl 0 rfl) ?_
  refine ld_l (j := 7) (v := 0) hx hb hK hP 4 rfl (by decide +kernel) rfl dX11_order_49 ?_
  refine st_l (j := 7) (g := tL [1, 0, 0, 0, 1, 0, 0, 0, 0] 0) hx hb hK hP hD hS 2 rfl (by decide +kernel) upd_tL dX11_order_50 (fun H locs hP hD hS => ?_)
  have hP : va_P D cl0 [(h4, .inl (k 1, 9, .inr (.inl (tL [] 0)))), (h0, .inr (8, [.int 2, .int 0, .int 1, .int 0, .int 0, .int 0, .ref h5, .ref h6, .int 0, .int 1, .ref h2, .ref h3, .ref h1, .ref h4, .ref h7, .ref h8, .ref h9, .int 0, .int 0, .int 0, .ref h10, .ref h11, .ref h12, .ref h13, .int 1, .int 1, .ref h14, .ref h15, .ref h16, .ref h17, .int 0, .int 0, .ref h18, .ref h19, .ref h20, .ref h21])), (h1, .inl (k 1, 9, .inr (.inl (tL [1, 0, 0, 0, 1, 0, 0, 0, 0] 0)))), (h3, .inl (k 1, 9, .inr (.inl (tL [1, 0, 0, 0, 1, 0, 0, 0, 0] 0)))), (h2, .inl (k 1, 9, .inr (.inl (tL [1, 0, 0, 0, 1, 0, 0, 0, 0] 0))))] H := hP
  have hD : va_D A [(h4, .inl (k 1, 9, .inr (.inl (tL [] 0)))), (h0, .inr (8, [.int 2, .int 0, .int 1, .int 0, .int 0, .int 0, .ref h5, .ref h6, .int 0, .int 1, .ref h2, .ref h3, .ref h1, .ref h4, .ref h7, .ref h8, .ref h9, .int 0, .int 0, .int 0, .ref h10, .ref h11, .ref h12, .ref h13, .int 1, .int 1, .ref h14, .ref h15, .ref h16, .ref h17, .int 0, .int 0, .ref h18, .ref h19, .ref h20, .ref h21])), (h1, .inl (k 1, 9, .inr (.inl (tL [1, 0, 0, 0, 1, 0, 0, 0, 0] 0)))), (h3, .inl (k 1, 9, .inr (.inl (tL [1, 0, 0, 0, 1, 0, 0, 0, 0] 0)))), (h2, .inl (k 1, 9, .inr (.inl (tL [1, 0, 0, 0, 1, 0, 0, 0, 0] 0))))] := hD
  refine lv_iinc (v := 8) (lv' := [(4, .int 8), (3, .int 1), (2, .ref h2), (1, .ref h1), (0, .ref h0)]) hx hb dX11_order_51 hl (k := 0) rfl (by decide) (by decide) rfl (fun ls hl => ?_)
  refine lv_goto (tgt := 36) hx hb dX11_order_54 (by decide) ?_
  refine lv_iload hx hb dX11_order_36 (lv_at hl 0 rfl) ?_
  refine lv_bipush (v := 9) hx hb dX11_order_38 (by decide) ?_
  refine lv_icmp_ge (tgt := 57) hx hb dX11_order_40 (by decide) (fun cc => absurd cc (by decide +kernel)) (fun _ => ?_)
  refine lv_aload_n hx hb dX11_order_43 rfl (lv_at hl 3 rfl) ?_
  refine lv_iload hx hb dX11_order_44 (lv_at hl 0 rfl) ?_
  refine lv_aload_n hx hb dX11_order_46 rfl (lv_at hl 2 rfl) ?_
  refine lv_iload hx hb dX11_order_47 (lv_at hl 0 rfl) ?_
  refine ld_l (j := 8) (v := 0) hx hb hK hP 4 rfl (by decide +kernel) rfl dX11_order_49 ?_
  refine st_l (j := 8) (g := tL [1, 0, 0, 0, 1, 0, 0, 0, 0] 0) hx hb hK hP hD hS 2 rfl (by decide +kernel) upd_tL dX11_order_50 (fun H locs hP hD hS => ?_)
  have hP : va_P D cl0 [(h4, .inl (k 1, 9, .inr (.inl (tL [] 0)))), (h0, .inr (8, [.int 2, .int 0, .int 1, .int 0, .int 0, .int 0, .ref h5, .ref h6, .int 0, .int 1, .ref h2, .ref h3, .ref h1, .ref h4, .ref h7, .ref h8, .ref h9, .int 0, .int 0, .int 0, .ref h10, .ref h11, .ref h12, .ref h13, .int 1, .int 1, .ref h14, .ref h15, .ref h16, .ref h17, .int 0, .int 0, .ref h18, .ref h19, .ref h20, .ref h21])), (h1, .inl (k 1, 9, .inr (.inl (tL [1, 0, 0, 0, 1, 0, 0, 0, 0] 0)))), (h3, .inl (k 1, 9, .inr (.inl (tL [1, 0, 0, 0, 1, 0, 0, 0, 0] 0)))), (h2, .inl (k 1, 9, .inr (.inl (tL [1, 0, 0, 0, 1, 0, 0, 0, 0] 0))))] H := hP
  have hD : va_D A [(h4, .inl (k 1, 9, .inr (.inl (tL [] 0)))), (h0, .inr (8, [.int 2, .int 0, .int 1, .int 0, .int 0, .int 0, .ref h5, .ref h6, .int 0, .int 1, .ref h2, .ref h3, .ref h1, .ref h4, .ref h7, .ref h8, .ref h9, .int 0, .int 0, .int 0, .ref h10, .ref h11, .ref h12, .ref h13, .int 1, .int 1, .ref h14, .ref h15, .ref h16, .ref h17, .int 0, .int 0, .ref h18, .ref h19, .ref h20, .ref h21])), (h1, .inl (k 1, 9, .inr (.inl (tL [1, 0, 0, 0, 1, 0, 0, 0, 0] 0)))), (h3, .inl (k 1, 9, .inr (.inl (tL [1, 0, 0, 0, 1, 0, 0, 0, 0] 0)))), (h2, .inl (k 1, 9, .inr (.inl (tL [1, 0, 0, 0, 1, 0, 0, 0, 0] 0))))] := hD
  refine lv_iinc (v := 9) (lv' := [(4, .int 9), (3, .int 1), (2, .ref h2), (1, .ref h1), (0, .ref h0)]) hx hb dX11_order_51 hl (k := 0) rfl (by decide) (by decide) rfl (fun ls hl => ?_)
  refine lv_goto (tgt := 36) hx hb dX11_order_54 (by decide) ?_
  refine lv_iload hx hb dX11_order_36 (lv_at hl 0 rfl) ?_
  refine lv_bipush (v := 9) hx hb dX11_order_38 (by decide) ?_
  refine lv_icmp_ge (tgt := 57) hx hb dX11_order_40 (by decide) (fun _ => ?_) (fun cc => absurd (by decide +kernel) cc)
  refine lv_aload_n hx hb dX11_order_57 rfl (lv_at hl 4 rfl) ?_
  refine lv_aload_n hx hb dX11_order_58 rfl (lv_at hl 3 rfl) ?_
  refine cI (rV (q0 := 1) (ci := 8) (As := [.ref h1]) (rest := []) (wc := [(h0, .inr (8, [.int 2, .int 0, .int 1, .int 0, .int 0, .int 0, .ref h5, .ref h6, .int 0, .int 1, .ref h2, .ref h3, .ref h1, .ref h4, .ref h7, .ref h8, .ref h9, .int 0, .int 0, .int 0, .ref h10, .ref h11, .ref h12, .ref h13, .int 1, .int 1, .ref h14, .ref h15, .ref h16, .ref h17, .int 0, .int 0, .ref h18, .ref h19, .ref h20, .ref h21])), (h4, .inl (k 1, 9, .inr (.inl (tL [] 0)))), (h1, .inl (k 1, 9, .inr (.inl (tL [1, 0, 0, 0, 1, 0, 0, 0, 0] 0))))]) hx hb hml hown hU hK hP hD rfl rfl [1, 0, 2] rfl (by decide) (cX11_isFirst_1 l D k _ h0 h4 h1 h5 h6 h2 h3 h7 h8 h9 h10 h11 h12 h13 h14 h15 h16 h17 h18 h19 h20 h21) w976 w973 w975 w38 w72 hdX11_isFirst ⟨rfl, rfl⟩ ⟨Nat.le_of_ble_eq_true rfl, Nat.le_of_ble_eq_true rfl⟩ rfl hl.1 (Nat.le_of_ble_eq_true rfl) dX11_order_59 ⟨Nat.le_of_ble_eq_true rfl, Nat.le_of_ble_eq_true rfl⟩) hP hD hS hA (wr := [(h3, .inl (k 1, 9, .inr (.inl (tL [1, 0, 0, 0, 1, 0, 0, 0, 0] 0)))), (h2, .inl (k 1, 9, .inr (.inl (tL [1, 0, 0, 0, 1, 0, 0, 0, 0] 0))))]) [1, 0, 2] [3, 4] rfl rfl (by decide) (by decide) (fun r3 H locs hB J hS => ?_)
  obtain ⟨rfl, hP1, hD1⟩ := hB
  obtain ⟨hP, hD⟩ := J _ hP1 hD1
  have hP : va_P D cl0 [(h3, .inl (k 1, 9, .inr (.inl (tL [1, 0, 0, 0, 1, 0, 0, 0, 0] 0)))), (h2, .inl (k 1, 9, .inr (.inl (tL [1, 0, 0, 0, 1, 0, 0, 0, 0] 0)))), (h1, .inl (k 1, 9, .inr (.inl (tL [1, 0, 0, 0, 1, 0, 0, 0, 0] 0)))), (h0, .inr (8, [.int 2, .int 0, .int 1, .int 0, .int 0, .int 0, .ref h5, .ref h6, .int 0, .int 1, .ref h2, .ref h3, .ref h1, .ref h4, .ref h7, .ref h8, .ref h9, .int 0, .int 0, .int 0, .ref h10, .ref h11, .ref h12, .ref h13, .int 1, .int 1, .ref h14, .ref h15, .ref h16, .ref h17, .int 0, .int 0, .ref h18, .ref h19, .ref h20, .ref h21])), (h4, .inl (k 1, 9, .inr (.inl (tL [1, 0, 0, 0, 1, 0, 0, 0, 0] 0))))] H := hP
  have hD : va_D A [(h3, .inl (k 1, 9, .inr (.inl (tL [1, 0, 0, 0, 1, 0, 0, 0, 0] 0)))), (h2, .inl (k 1, 9, .inr (.inl (tL [1, 0, 0, 0, 1, 0, 0, 0, 0] 0)))), (h1, .inl (k 1, 9, .inr (.inl (tL [1, 0, 0, 0, 1, 0, 0, 0, 0] 0)))), (h0, .inr (8, [.int 2, .int 0, .int 1, .int 0, .int 0, .int 0, .ref h5, .ref h6, .int 0, .int 1, .ref h2, .ref h3, .ref h1, .ref h4, .ref h7, .ref h8, .ref h9, .int 0, .int 0, .int 0, .ref h10, .ref h11, .ref h12, .ref h13, .int 1, .int 1, .ref h14, .ref h15, .ref h16, .ref h17, .int 0, .int 0, .ref h18, .ref h19, .ref h20, .ref h21])), (h4, .inl (k 1, 9, .inr (.inl (tL [1, 0, 0, 0, 1, 0, 0, 0, 0] 0))))] := hD
  refine lv_if_eq (tgt := 67) hx hb dX11_order_62 (by decide) (fun cc => absurd cc (by decide +kernel)) (fun _ => ?_)
  refine lv_iload_n hx hb dX11_order_65 rfl (lv_at hl 1 rfl) ?_
  exact retI (v := 1) hx hb hr hlocks hS (⟨rfl, hP, hD⟩) dX11_order_66
abbrev BX11_orderOf_1 (D : va_G) (k : Nat → ClassId) (h0 h1 h2 h3 h4 h5 h6 h7 h8 h9 h10 h11 h12 h13 h14 h15 h16 h17 h18 h19 h20 h21 : Nat) (A : Nat → Prop) (r : Int32) (H : Heap) : Prop := 1 = r ∧ va_P D cl0 [(h1, .inl (k 1, 900, .inr (.inl (tL [1, 0, 0, 0, 1, 0, 0, 0, 0] 0)))), (h2, .inl (k 1, 9, .inr (.inl (tL [1, 0, 0, 0, 1, 0, 0, 0, 0] 0)))), (h4, .inl (k 1, 9, .inr (.inl (tL [1, 0, 0, 0, 1, 0, 0, 0, 0] 0)))), (h3, .inl (k 1, 9, .inr (.inl (tL [1, 0, 0, 0, 1, 0, 0, 0, 0] 0)))), (h0, .inr (8, [.int 2, .int 0, .int 1, .int 0, .int 0, .int 0, .ref h6, .ref h7, .int 0, .int 1, .ref h4, .ref h2, .ref h3, .ref h5, .ref h8, .ref h9, .ref h10, .int 0, .int 0, .int 0, .ref h1, .ref h11, .ref h12, .ref h13, .int 1, .int 1, .ref h14, .ref h15, .ref h16, .ref h17, .int 0, .int 0, .ref h18, .ref h19, .ref h20, .ref h21])), (h5, .inl (k 1, 9, .inr (.inl (tL [1, 0, 0, 0, 1, 0, 0, 0, 0] 0))))] H ∧ va_D A [(h1, .inl (k 1, 900, .inr (.inl (tL [1, 0, 0, 0, 1, 0, 0, 0, 0] 0)))), (h2, .inl (k 1, 9, .inr (.inl (tL [1, 0, 0, 0, 1, 0, 0, 0, 0] 0)))), (h4, .inl (k 1, 9, .inr (.inl (tL [1, 0, 0, 0, 1, 0, 0, 0, 0] 0)))), (h3, .inl (k 1, 9, .inr (.inl (tL [1, 0, 0, 0, 1, 0, 0, 0, 0] 0)))), (h0, .inr (8, [.int 2, .int 0, .int 1, .int 0, .int 0, .int 0, .ref h6, .ref h7, .int 0, .int 1, .ref h4, .ref h2, .ref h3, .ref h5, .ref h8, .ref h9, .ref h10, .int 0, .int 0, .int 0, .ref h1, .ref h11, .ref h12, .ref h13, .int 1, .int 1, .ref h14, .ref h15, .ref h16, .ref h17, .int 0, .int 0, .ref h18, .ref h19, .ref h20, .ref h21])), (h5, .inl (k 1, 9, .inr (.inl (tL [1, 0, 0, 0, 1, 0, 0, 0, 0] 0))))]
set_option maxHeartbeats 4000000 in
set_option maxRecDepth 100000 in
theorem cX11_orderOf_1 (l : Launch) (D : va_G) (k : Nat → ClassId) (sz : Nat) (h0 h1 h2 h3 h4 h5 h6 h7 h8 h9 h10 h11 h12 h13 h14 h15 h16 h17 h18 h19 h20 h21 : Nat) : Met l yX11_orderOf (Cond.code yX11_orderOf cX11_orderOf 2 (some .int) :: uw) ({ frames := 4, cells := 0, slots := 0, locals := 91 }) (pC D k sz [.ref h0, .int 0] [(h0, .inr (8, [.int 2, .int 0, .int 1, .int 0, .int 0, .int 0, .ref h6, .ref h7, .int 0, .int 1, .ref h4, .ref h2, .ref h3, .ref h5, .ref h8, .ref h9, .ref h10, .int 0, .int 0, .int 0, .ref h1, .ref h11, .ref h12, .ref h13, .int 1, .int 1, .ref h14, .ref h15, .ref h16, .ref h17, .int 0, .int 0, .ref h18, .ref h19, .ref h20, .ref h21])), (h1, .inl (k 1, 900, .inr (.inl (tL [1, 0, 0, 0, 1, 0, 0, 0, 0] 0)))), (h2, .inl (k 1, 9, .inr (.inl (tL [1, 0, 0, 0, 1, 0, 0, 0, 0] 0)))), (h3, .inl (k 1, 9, .inr (.inl (tL [] 0)))), (h4, .inl (k 1, 9, .inr (.inl (tL [] 0)))), (h5, .inl (k 1, 9, .inr (.inl (tL [] 0))))]) (qI (BX11_orderOf_1 D k h0 h1 h2 h3 h4 h5 h6 h7 h8 h9 h10 h11 h12 h13 h14 h15 h16 h17 h18 h19 h20 h21 (va_A [(h0, .inr (8, [.int 2, .int 0, .int 1, .int 0, .int 0, .int 0, .ref h6, .ref h7, .int 0, .int 1, .ref h4, .ref h2, .ref h3, .ref h5, .ref h8, .ref h9, .ref h10, .int 0, .int 0, .int 0, .ref h1, .ref h11, .ref h12, .ref h13, .int 1, .int 1, .ref h14, .ref h15, .ref h16, .ref h17, .int 0, .int 0, .ref h18, .ref h19, .ref h20, .ref h21])), (h1, .inl (k 1, 900, .inr (.inl (tL [1, 0, 0, 0, 1, 0, 0, 0, 0] 0)))), (h2, .inl (k 1, 9, .inr (.inl (tL [1, 0, 0, 0, 1, 0, 0, 0, 0] 0)))), (h3, .inl (k 1, 9, .inr (.inl (tL [] 0)))), (h4, .inl (k 1, 9, .inr (.inl (tL [] 0)))), (h5, .inl (k 1, 9, .inr (.inl (tL [] 0))))] sz)) (va_A [(h0, .inr (8, [.int 2, .int 0, .int 1, .int 0, .int 0, .int 0, .ref h6, .ref h7, .int 0, .int 1, .ref h4, .ref h2, .ref h3, .ref h5, .ref h8, .ref h9, .ref h10, .int 0, .int 0, .int 0, .ref h1, .ref h11, .ref h12, .ref h13, .int 1, .int 1, .ref h14, .ref h15, .ref h16, .ref h17, .int 0, .int 0, .ref h18, .ref h19, .ref h20, .ref h21])), (h1, .inl (k 1, 900, .inr (.inl (tL [1, 0, 0, 0, 1, 0, 0, 0, 0] 0)))), (h2, .inl (k 1, 9, .inr (.inl (tL [1, 0, 0, 0, 1, 0, 0, 0, 0] 0)))), (h3, .inl (k 1, 9, .inr (.inl (tL [] 0)))), (h4, .inl (k 1, 9, .inr (.inl (tL [] 0)))), (h5, .inl (k 1, 9, .inr (.inl (tL [] 0))))] sz)) 0 0 (va_A [(h0, .inr (8, [.int 2, .int 0, .int 1, .int 0, .int 0, .int 0, .ref h6, .ref h7, .int 0, .int 1, .ref h4, .ref h2, .ref h3, .ref h5, .ref h8, .ref h9, .ref h10, .int 0, .int 0, .int 0, .ref h1, .ref h11, .ref h12, .ref h13, .int 1, .int 1, .ref h14, .ref h15, .ref h16, .ref h17, .int 0, .int 0, .ref h18, .ref h19, .ref h20, .ref h21])), (h1, .inl (k 1, 900, .inr (.inl (tL [1, 0, 0, 0, 1, 0, 0, 0, 0] 0)))), (h2, .inl (k 1, 9, .inr (.inl (tL [1, 0, 0, 0, 1, 0, 0, 0, 0] 0)))), (h3, .inl (k 1, 9, .inr (.inl (tL [] 0)))), (h4, .inl (k 1, 9, .inr (.inl (tL [] 0)))), (h5, .inl (k 1, 9, .inr (.inl (tL [] 0))))] sz) := by
  refine begin_ (Qc := fun A => qI (BX11_orderOf_1 D k h0 h1 h2 h3 h4 h5 h6 h7 h8 h9 h10 h11 h12 h13 h14 h15 h16 h17 h18 h19 h20 h21 A) A) (by decide) (Nat.le_of_ble_eq_true rfl) ?_
  intro p e s m below meth c ls A hx hb hr hml hown hlocks hin hU hK hsz hP hD hS hA hl
  have hl : lv_has ls 2 [(0, .ref h0), (1, .int 0)] := hl
  clear hsz
  refine lv_aload_n hx hb dX11_orderOf_0 rfl (lv_at hl 0 rfl) ?_
  refine lv_iload_n hx hb dX11_orderOf_1 rfl (lv_at hl 1 rfl) ?_
  refine lv_aload_n hx hb dX11_orderOf_2 rfl (lv_at hl 0 rfl) ?_
  refine va_get (D := D) (ci := 8) (v := .ref h2) (C := RX11) (T := TX11) (N := 36) hx hb hU iX11 hown hK.1 hP 0 rfl rfl 11 (by decide) (hU _ w796) (fun _ h9 => h9) rfl dX11_orderOf_3 ?_
  refine cV (rV (q0 := 0) (ci := 8) (As := [.int 0, .ref h2]) (rest := []) (wc := [(h0, .inr (8, [.int 2, .int 0, .int 1, .int 0, .int 0, .int 0, .ref h6, .ref h7, .int 0, .int 1, .ref h4, .ref h2, .ref h3, .ref h5, .ref h8, .ref h9, .ref h10, .int 0, .int 0, .int 0, .ref h1, .ref h11, .ref h12, .ref h13, .int 1, .int 1, .ref h14, .ref h15, .ref h16, .ref h17, .int 0, .int 0, .ref h18, .ref h19, .ref h20, .ref h21])), (h1, .inl (k 1, 900, .inr (.inl (tL [1, 0, 0, 0, 1, 0, 0, 0, 0] 0)))), (h2, .inl (k 1, 9, .inr (.inl (tL [1, 0, 0, 0, 1, 0, 0, 0, 0] 0))))]) hx hb hml hown hU hK hP hD rfl rfl [0, 1, 2] rfl (by decide) (cX11_takesElement_1 l D k _ h0 h1 h2 h6 h7 h4 h3 h5 h8 h9 h10 h11 h12 h13 h14 h15 h16 h17 h18 h19 h20 h21) w1047 w1044 w1046 w49 w72 hdX11_takesElement ⟨rfl, rfl⟩ ⟨Nat.le_of_ble_eq_true rfl, Nat.le_of_ble_eq_true rfl⟩ rfl hl.1 (Nat.le_of_ble_eq_true rfl) dX11_orderOf_6 ⟨Nat.le_of_ble_eq_true rfl, Nat.le_of_ble_eq_true rfl⟩) hP hD hS hA (wr := [(h3, .inl (k 1, 9, .inr (.inl (tL [] 0)))), (h4, .inl (k 1, 9, .inr (.inl (tL [] 0)))), (h5, .inl (k 1, 9, .inr (.inl (tL [] 0))))]) [0, 1, 2] [3, 4, 5] rfl rfl (by decide) (by decide) (fun H locs hB J hS => ?_)
  obtain ⟨hP1, hD1⟩ := hB
  obtain ⟨hP, hD⟩ := J _ hP1 hD1
  have hP : va_P D cl0 [(h3, .inl (k 1, 9, .inr (.inl (tL [] 0)))), (h4, .inl (k 1, 9, .inr (.inl (tL [] 0)))), (h5, .inl (k 1, 9, .inr (.inl (tL [] 0)))), (h0, .inr (8, [.int 2, .int 0, .int 1, .int 0, .int 0, .int 0, .ref h6, .ref h7, .int 0, .int 1, .ref h4, .ref h2, .ref h3, .ref h5, .ref h8, .ref h9, .ref h10, .int 0, .int 0, .int 0, .ref h1, .ref h11, .ref h12, .ref h13, .int 1, .int 1, .ref h14, .ref h15, .ref h16, .ref h17, .int 0, .int 0, .ref h18, .ref h19, .ref h20, .ref h21])), (h1, .inl (k 1, 900, .inr (.inl (tL [1, 0, 0, 0, 1, 0, 0, 0, 0] 0)))), (h2, .inl (k 1, 9, .inr (.inl (tL [1, 0, 0, 0, 1, 0, 0, 0, 0] 0))))] H := hP
  have hD : va_D A [(h3, .inl (k 1, 9, .inr (.inl (tL [] 0)))), (h4, .inl (k 1, 9, .inr (.inl (tL [] 0)))), (h5, .inl (k 1, 9, .inr (.inl (tL [] 0)))), (h0, .inr (8, [.int 2, .int 0, .int 1, .int 0, .int 0, .int 0, .ref h6, .ref h7, .int 0, .int 1, .ref h4, .ref h2, .ref h3, .ref h5, .ref h8, .ref h9, .ref h10, .int 0, .int 0, .int 0, .ref h1, .ref h11, .ref h12, .ref h13, .int 1, .int 1, .ref h14, .ref h15, .ref h16, .ref h17, .int 0, .int 0, .ref h18, .ref h19, .ref h20, .ref h21])), (h1, .inl (k 1, 900, .inr (.inl (tL [1, 0, 0, 0, 1, 0, 0, 0, 0] 0)))), (h2, .inl (k 1, 9, .inr (.inl (tL [1, 0, 0, 0, 1, 0, 0, 0, 0] 0))))] := hD
  refine lv_aload_n hx hb dX11_orderOf_9 rfl (lv_at hl 0 rfl) ?_
  refine cI (rV (q0 := 3) (ci := 8) (As := []) (rest := []) (wc := [(h0, .inr (8, [.int 2, .int 0, .int 1, .int 0, .int 0, .int 0, .ref h6, .ref h7, .int 0, .int 1, .ref h4, .ref h2, .ref h3, .ref h5, .ref h8, .ref h9, .ref h10, .int 0, .int 0, .int 0, .ref h1, .ref h11, .ref h12, .ref h13, .int 1, .int 1, .ref h14, .ref h15, .ref h16, .ref h17, .int 0, .int 0, .ref h18, .ref h19, .ref h20, .ref h21])), (h3, .inl (k 1, 9, .inr (.inl (tL [] 0)))), (h4, .inl (k 1, 9, .inr (.inl (tL [] 0)))), (h2, .inl (k 1, 9, .inr (.inl (tL [1, 0, 0, 0, 1, 0, 0, 0, 0] 0)))), (h5, .inl (k 1, 9, .inr (.inl (tL [] 0))))]) hx hb hml hown hU hK hP hD rfl rfl [3, 0, 1, 5, 2] rfl (by decide) (cX11_order_1 l D k _ h0 h3 h4 h2 h5 h6 h7 h8 h9 h10 h1 h11 h12 h13 h14 h15 h16 h17 h18 h19 h20 h21) w972 w969 w971 w37 w72 hdX11_order ⟨rfl, rfl⟩ ⟨Nat.le_of_ble_eq_true rfl, Nat.le_of_ble_eq_true rfl⟩ rfl hl.1 (Nat.le_of_ble_eq_true rfl) dX11_orderOf_10 ⟨Nat.le_of_ble_eq_true rfl, Nat.le_of_ble_eq_true rfl⟩) hP hD hS hA (wr := [(h1, .inl (k 1, 900, .inr (.inl (tL [1, 0, 0, 0, 1, 0, 0, 0, 0] 0))))]) [3, 0, 1, 5, 2] [4] rfl rfl (by decide) (by decide) (fun r2 H locs hB J hS => ?_)
  obtain ⟨rfl, hP1, hD1⟩ := hB
  obtain ⟨hP, hD⟩ := J _ hP1 hD1
  have hP : va_P D cl0 [(h1, .inl (k 1, 900, .inr (.inl (tL [1, 0, 0, 0, 1, 0, 0, 0, 0] 0)))), (h2, .inl (k 1, 9, .inr (.inl (tL [1, 0, 0, 0, 1, 0, 0, 0, 0] 0)))), (h4, .inl (k 1, 9, .inr (.inl (tL [1, 0, 0, 0, 1, 0, 0, 0, 0] 0)))), (h3, .inl (k 1, 9, .inr (.inl (tL [1, 0, 0, 0, 1, 0, 0, 0, 0] 0)))), (h0, .inr (8, [.int 2, .int 0, .int 1, .int 0, .int 0, .int 0, .ref h6, .ref h7, .int 0, .int 1, .ref h4, .ref h2, .ref h3, .ref h5, .ref h8, .ref h9, .ref h10, .int 0, .int 0, .int 0, .ref h1, .ref h11, .ref h12, .ref h13, .int 1, .int 1, .ref h14, .ref h15, .ref h16, .ref h17, .int 0, .int 0, .ref h18, .ref h19, .ref h20, .ref h21])), (h5, .inl (k 1, 9, .inr (.inl (tL [1, 0, 0, 0, 1, 0, 0, 0, 0] 0))))] H := hP
  have hD : va_D A [(h1, .inl (k 1, 900, .inr (.inl (tL [1, 0, 0, 0, 1, 0, 0, 0, 0] 0)))), (h2, .inl (k 1, 9, .inr (.inl (tL [1, 0, 0, 0, 1, 0, 0, 0, 0] 0)))), (h4, .inl (k 1, 9, .inr (.inl (tL [1, 0, 0, 0, 1, 0, 0, 0, 0] 0)))), (h3, .inl (k 1, 9, .inr (.inl (tL [1, 0, 0, 0, 1, 0, 0, 0, 0] 0)))), (h0, .inr (8, [.int 2, .int 0, .int 1, .int 0, .int 0, .int 0, .ref h6, .ref h7, .int 0, .int 1, .ref h4, .ref h2, .ref h3, .ref h5, .ref h8, .ref h9, .ref h10, .int 0, .int 0, .int 0, .ref h1, .ref h11, .ref h12, .ref h13, .int 1, .int 1, .ref h14, .ref h15, .ref h16, .ref h17, .int 0, .int 0, .ref h18, .ref h19, .ref h20, .ref h21])), (h5, .inl (k 1, 9, .inr (.inl (tL [1, 0, 0, 0, 1, 0, 0, 0, 0] 0))))] := hD
  exact retI (v := 1) hx hb hr hlocks hS (⟨rfl, hP, hD⟩) dX11_orderOf_13
abbrev BX11_about_1 (D : va_G) (k : Nat → ClassId) (a0 a3 a4 a5 a6 a10 a11 a12 a13 a1 a2 a7 a8 a9 a14 a15 a16 a17 a18 a19 a20 a21 : Nat) (x0 : Int32) (x1 : Int32) (A : Nat → Prop) (r : Int32) (H : Heap) : Prop := r = F_about x0 x1
set_option maxHeartbeats 4000000 in
set_option maxRecDepth 100000 in
theorem cX11_about_1 (l : Launch) (D : va_G) (k : Nat → ClassId) (sz : Nat) (a0 a3 a4 a5 a6 a10 a11 a12 a13 a1 a2 a7 a8 a9 a14 a15 a16 a17 a18 a19 a20 a21 : Nat) (x0 : Int32) (x1 : Int32) : Met l yX11_about (Cond.code yX11_about cX11_about 3 (some .int) :: uw) ({ frames := 5, cells := 0, slots := 0, locals := 112 }) (pC D k sz [.ref a0, .int x0, .int x1] [(a0, .inr (8, [.int 2, .int 0, .int 1, .int 0, .int 0, .int 0, .ref a1, .ref a2, .int 0, .int 0, .ref a3, .ref a4, .ref a5, .ref a6, .ref a7, .ref a8, .ref a9, .int 0, .int 0, .int 0, .ref a10, .ref a11, .ref a12, .ref a13, .int 0, .int 0, .ref a14, .ref a15, .ref a16, .ref a17, .int 0, .int 0, .ref a18, .ref a19, .ref a20, .ref a21])), (a3, .inl (k 1, 9, .inr (.inl (tL [] 0)))), (a4, .inl (k 1, 9, .inr (.inl (tL [] 0)))), (a5, .inl (k 1, 9, .inr (.inl (tL [] 0)))), (a6, .inl (k 1, 9, .inr (.inl (tL [] 0)))), (a10, .inl (k 1, 900, .inr (.inl (tL [] 0)))), (a11, .inl (k 0, 100, .inl (tI [] 0))), (a12, .inl (k 0, 100, .inl (tI [] 0))), (a13, .inl (k 0, 100, .inl (tI [] 0)))]) (qI (BX11_about_1 D k a0 a3 a4 a5 a6 a10 a11 a12 a13 a1 a2 a7 a8 a9 a14 a15 a16 a17 a18 a19 a20 a21 x0 x1 (va_A [(a0, .inr (8, [.int 2, .int 0, .int 1, .int 0, .int 0, .int 0, .ref a1, .ref a2, .int 0, .int 0, .ref a3, .ref a4, .ref a5, .ref a6, .ref a7, .ref a8, .ref a9, .int 0, .int 0, .int 0, .ref a10, .ref a11, .ref a12, .ref a13, .int 0, .int 0, .ref a14, .ref a15, .ref a16, .ref a17, .int 0, .int 0, .ref a18, .ref a19, .ref a20, .ref a21])), (a3, .inl (k 1, 9, .inr (.inl (tL [] 0)))), (a4, .inl (k 1, 9, .inr (.inl (tL [] 0)))), (a5, .inl (k 1, 9, .inr (.inl (tL [] 0)))), (a6, .inl (k 1, 9, .inr (.inl (tL [] 0)))), (a10, .inl (k 1, 900, .inr (.inl (tL [] 0)))), (a11, .inl (k 0, 100, .inl (tI [] 0))), (a12, .inl (k 0, 100, .inl (tI [] 0))), (a13, .inl (k 0, 100, .inl (tI [] 0)))] sz)) (va_A [(a0, .inr (8, [.int 2, .int 0, .int 1, .int 0, .int 0, .int 0, .ref a1, .ref a2, .int 0, .int 0, .ref a3, .ref a4, .ref a5, .ref a6, .ref a7, .ref a8, .ref a9, .int 0, .int 0, .int 0, .ref a10, .ref a11, .ref a12, .ref a13, .int 0, .int 0, .ref a14, .ref a15, .ref a16, .ref a17, .int 0, .int 0, .ref a18, .ref a19, .ref a20, .ref a21])), (a3, .inl (k 1, 9, .inr (.inl (tL [] 0)))), (a4, .inl (k 1, 9, .inr (.inl (tL [] 0)))), (a5, .inl (k 1, 9, .inr (.inl (tL [] 0)))), (a6, .inl (k 1, 9, .inr (.inl (tL [] 0)))), (a10, .inl (k 1, 900, .inr (.inl (tL [] 0)))), (a11, .inl (k 0, 100, .inl (tI [] 0))), (a12, .inl (k 0, 100, .inl (tI [] 0))), (a13, .inl (k 0, 100, .inl (tI [] 0)))] sz)) 0 0 (va_A [(a0, .inr (8, [.int 2, .int 0, .int 1, .int 0, .int 0, .int 0, .ref a1, .ref a2, .int 0, .int 0, .ref a3, .ref a4, .ref a5, .ref a6, .ref a7, .ref a8, .ref a9, .int 0, .int 0, .int 0, .ref a10, .ref a11, .ref a12, .ref a13, .int 0, .int 0, .ref a14, .ref a15, .ref a16, .ref a17, .int 0, .int 0, .ref a18, .ref a19, .ref a20, .ref a21])), (a3, .inl (k 1, 9, .inr (.inl (tL [] 0)))), (a4, .inl (k 1, 9, .inr (.inl (tL [] 0)))), (a5, .inl (k 1, 9, .inr (.inl (tL [] 0)))), (a6, .inl (k 1, 9, .inr (.inl (tL [] 0)))), (a10, .inl (k 1, 900, .inr (.inl (tL [] 0)))), (a11, .inl (k 0, 100, .inl (tI [] 0))), (a12, .inl (k 0, 100, .inl (tI [] 0))), (a13, .inl (k 0, 100, .inl (tI [] 0)))] sz) := by
  refine begin_ (Qc := fun A => qI (BX11_about_1 D k a0 a3 a4 a5 a6 a10 a11 a12 a13 a1 a2 a7 a8 a9 a14 a15 a16 a17 a18 a19 a20 a21 x0 x1 A) A) (by decide) (Nat.le_of_ble_eq_true rfl) ?_
  intro p e s m below meth c ls A hx hb hr hml hown hlocks hin hU hK hsz hP hD hS hA hl
  have hl : lv_has ls 3 [(0, .ref a0), (1, .int x0), (2, .int x1)] := hl
  clear hsz
  refine lv_aload_n hx hb dX11_about_0 rfl (lv_at hl 0 rfl) ?_
  refine cV (rV (q0 := 0) (ci := 8) (As := []) (rest := []) (wc := [(a0, .inr (8, [.int 2, .int 0, .int 1, .int 0, .int 0, .int 0, .ref a1, .ref a2, .int 0, .int 0, .ref a3, .ref a4, .ref a5, .ref a6, .ref a7, .ref a8, .ref a9, .int 0, .int 0, .int 0, .ref a10, .ref a11, .ref a12, .ref a13, .int 0, .int 0, .ref a14, .ref a15, .ref a16, .ref a17, .int 0, .int 0, .ref a18, .ref a19, .ref a20, .ref a21])), (a4, .inl (k 1, 9, .inr (.inl (tL [] 0)))), (a10, .inl (k 1, 900, .inr (.inl (tL [] 0)))), (a11, .inl (k 0, 100, .inl (tI [] 0))), (a12, .inl (k 0, 100, .inl (tI [] 0))), (a13, .inl (k 0, 100, .inl (tI [] 0)))]) hx hb hml hown hU hK hP hD rfl rfl [0, 2, 5, 6, 7, 8] rfl (by decide) (cX11_findList_1 l D k _ a0 a4 a10 a11 a12 a13 a1 a2 a3 a5 a6 a7 a8 a9 a14 a15 a16 a17 a18 a19 a20 a21) w1039 w1036 w1038 w47 w72 hdX11_findList ⟨rfl, rfl⟩ ⟨Nat.le_of_ble_eq_true rfl, Nat.le_of_ble_eq_true rfl⟩ rfl hl.1 (Nat.le_of_ble_eq_true rfl) dX11_about_1 ⟨Nat.le_of_ble_eq_true rfl, Nat.le_of_ble_eq_true rfl⟩) hP hD hS hA (wr := [(a3, .inl (k 1, 9, .inr (.inl (tL [] 0)))), (a5, .inl (k 1, 9, .inr (.inl (tL [] 0)))), (a6, .inl (k 1, 9, .inr (.inl (tL [] 0))))]) [0, 2, 5, 6, 7, 8] [1, 3, 4] rfl rfl (by decide) (by decide) (fun H locs hB J hS => ?_)
  obtain ⟨hP1, hD1⟩ := hB
  obtain ⟨hP, hD⟩ := J _ hP1 hD1
  have hP : va_P D cl0 [(a3, .inl (k 1, 9, .inr (.inl (tL [] 0)))), (a5, .inl (k 1, 9, .inr (.inl (tL [] 0)))), (a6, .inl (k 1, 9, .inr (.inl (tL [] 0)))), (a0, .inr (8, [.int 2, .int 0, .int 1, .int 0, .int 0, .int 0, .ref a1, .ref a2, .int 0, .int 1, .ref a3, .ref a4, .ref a5, .ref a6, .ref a7, .ref a8, .ref a9, .int 0, .int 0, .int 0, .ref a10, .ref a11, .ref a12, .ref a13, .int 1, .int 1, .ref a14, .ref a15, .ref a16, .ref a17, .int 0, .int 0, .ref a18, .ref a19, .ref a20, .ref a21])), (a4, .inl (k 1, 9, .inr (.inl (tL [1, 0, 0, 0, 1, 0, 0, 0, 0] 0)))), (a10, .inl (k 1, 900, .inr (.inl (tL [1, 0, 0, 0, 1, 0, 0, 0, 0] 0)))), (a11, .inl (k 0, 100, .inl (tI [(-3)] 0))), (a12, .inl (k 0, 100, .inl (tI [(-3)] 0))), (a13, .inl (k 0, 100, .inl (tI [0] 0)))] H := hP
  have hD : va_D A [(a3, .inl (k 1, 9, .inr (.inl (tL [] 0)))), (a5, .inl (k 1, 9, .inr (.inl (tL [] 0)))), (a6, .inl (k 1, 9, .inr (.inl (tL [] 0)))), (a0, .inr (8, [.int 2, .int 0, .int 1, .int 0, .int 0, .int 0, .ref a1, .ref a2, .int 0, .int 1, .ref a3, .ref a4, .ref a5, .ref a6, .ref a7, .ref a8, .ref a9, .int 0, .int 0, .int 0, .ref a10, .ref a11, .ref a12, .ref a13, .int 1, .int 1, .ref a14, .ref a15, .ref a16, .ref a17, .int 0, .int 0, .ref a18, .ref a19, .ref a20, .ref a21])), (a4, .inl (k 1, 9, .inr (.inl (tL [1, 0, 0, 0, 1, 0, 0, 0, 0] 0)))), (a10, .inl (k 1, 900, .inr (.inl (tL [1, 0, 0, 0, 1, 0, 0, 0, 0] 0)))), (a11, .inl (k 0, 100, .inl (tI [(-3)] 0))), (a12, .inl (k 0, 100, .inl (tI [(-3)] 0))), (a13, .inl (k 0, 100, .inl (tI [0] 0)))] := hD
  refine lv_iload_n hx hb dX11_about_4 rfl (lv_at hl 1 rfl) ?_
  refine lv_i2l (v := x0.toInt64) hx hb dX11_about_5 rfl ?_
  refine lv_lconst (v := 0) hx hb dX11_about_6 (by decide) ?_
  refine lv_aload_n hx hb dX11_about_7 rfl (lv_at hl 0 rfl) ?_
  refine va_get (D := D) (ci := 8) (v := .int 1) (C := RX11) (T := TX11) (N := 36) hx hb hU iX11 hown hK.1 hP 3 rfl rfl 24 (by decide) (hU _ w809) (fun _ h9 => h9) rfl dX11_about_8 ?_
  refine lv_iconst (v := 1) hx hb dX11_about_11 (by decide) ?_
  refine lv_isub hx hb dX11_about_12 (sv_i (v := 0) (by decide +kernel) ?_)
  refine lv_i2l (v := 0) hx hb dX11_about_13 (by decide +kernel) ?_
  refine cI (rS (As := [.long x0.toInt64, .long 0, .long 0]) (rest := []) (wc := []) hx hb hml hown hU hK hP hD [] rfl (by decide) (cX11_in_10 l D k _ (x0.toInt64)) w901 w899 w900 w72 hdX11_in ⟨rfl, rfl⟩ ⟨Nat.le_of_ble_eq_true rfl, Nat.le_of_ble_eq_true rfl⟩ rfl hl.1 (Nat.le_of_ble_eq_true rfl) dX11_about_14 ⟨Nat.le_of_ble_eq_true rfl, Nat.le_of_ble_eq_true rfl⟩) hP hD hS hA (wr := [(a3, .inl (k 1, 9, .inr (.inl (tL [] 0)))), (a5, .inl (k 1, 9, .inr (.inl (tL [] 0)))), (a6, .inl (k 1, 9, .inr (.inl (tL [] 0)))), (a0, .inr (8, [.int 2, .int 0, .int 1, .int 0, .int 0, .int 0, .ref a1, .ref a2, .int 0, .int 1, .ref a3, .ref a4, .ref a5, .ref a6, .ref a7, .ref a8, .ref a9, .int 0, .int 0, .int 0, .ref a10, .ref a11, .ref a12, .ref a13, .int 1, .int 1, .ref a14, .ref a15, .ref a16, .ref a17, .int 0, .int 0, .ref a18, .ref a19, .ref a20, .ref a21])), (a4, .inl (k 1, 9, .inr (.inl (tL [1, 0, 0, 0, 1, 0, 0, 0, 0] 0)))), (a10, .inl (k 1, 900, .inr (.inl (tL [1, 0, 0, 0, 1, 0, 0, 0, 0] 0)))), (a11, .inl (k 0, 100, .inl (tI [(-3)] 0))), (a12, .inl (k 0, 100, .inl (tI [(-3)] 0))), (a13, .inl (k 0, 100, .inl (tI [0] 0)))]) [] [0, 1, 2, 3, 4, 5, 6, 7, 8] rfl rfl (by decide) (by decide) (fun r2 H locs hB J hS => ?_)
  rcases hB with ⟨c_3, rfl, hP1, hD1⟩ | ⟨c_4, c_5, rfl, hP1, hD1⟩ | ⟨c_6, c_7, rfl, hP1, hD1⟩
  · skip
    obtain ⟨hP, hD⟩ := J _ hP1 hD1
    have hP : va_P D cl0 [(a3, .inl (k 1, 9, .inr (.inl (tL [] 0)))), (a5, .inl (k 1, 9, .inr (.inl (tL [] 0)))), (a6, .inl (k 1, 9, .inr (.inl (tL [] 0)))), (a0, .inr (8, [.int 2, .int 0, .int 1, .int 0, .int 0, .int 0, .ref a1, .ref a2, .int 0, .int 1, .ref a3, .ref a4, .ref a5, .ref a6, .ref a7, .ref a8, .ref a9, .int 0, .int 0, .int 0, .ref a10, .ref a11, .ref a12, .ref a13, .int 1, .int 1, .ref a14, .ref a15, .ref a16, .ref a17, .int 0, .int 0, .ref a18, .ref a19, .ref a20, .ref a21])), (a4, .inl (k 1, 9, .inr (.inl (tL [1, 0, 0, 0, 1, 0, 0, 0, 0] 0)))), (a10, .inl (k 1, 900, .inr (.inl (tL [1, 0, 0, 0, 1, 0, 0, 0, 0] 0)))), (a11, .inl (k 0, 100, .inl (tI [(-3)] 0))), (a12, .inl (k 0, 100, .inl (tI [(-3)] 0))), (a13, .inl (k 0, 100, .inl (tI [0] 0)))] H := hP
    have hD : va_D A [(a3, .inl (k 1, 9, .inr (.inl (tL [] 0)))), (a5, .inl (k 1, 9, .inr (.inl (tL [] 0)))), (a6, .inl (k 1, 9, .inr (.inl (tL [] 0)))), (a0, .inr (8, [.int 2, .int 0, .int 1, .int 0, .int 0, .int 0, .ref a1, .ref a2, .int 0, .int 1, .ref a3, .ref a4, .ref a5, .ref a6, .ref a7, .ref a8, .ref a9, .int 0, .int 0, .int 0, .ref a10, .ref a11, .ref a12, .ref a13, .int 1, .int 1, .ref a14, .ref a15, .ref a16, .ref a17, .int 0, .int 0, .ref a18, .ref a19, .ref a20, .ref a21])), (a4, .inl (k 1, 9, .inr (.inl (tL [1, 0, 0, 0, 1, 0, 0, 0, 0] 0)))), (a10, .inl (k 1, 900, .inr (.inl (tL [1, 0, 0, 0, 1, 0, 0, 0, 0] 0)))), (a11, .inl (k 0, 100, .inl (tI [(-3)] 0))), (a12, .inl (k 0, 100, .inl (tI [(-3)] 0))), (a13, .inl (k 0, 100, .inl (tI [0] 0)))] := hD
    refine lv_if_ne (tgt := 22) hx hb dX11_about_17 (by decide) (fun cc => absurd (by decide +kernel) cc) (fun _ => ?_)
    refine lv_iconst (v := (-1)) hx hb dX11_about_20 (by decide) ?_
    exact retI (v := (-1)) hx hb hr hlocks hS (show ((-1) : Int32) = F_about x0 x1 by first | decide +kernel | (have f0 := dv_lt (x := x0.toInt) (y := 0) c_3 (wd x0) (by decide +kernel); unfold F_about; (repeat (first | rw [if_pos (by omega)] | rw [if_neg (by omega)])))) dX11_about_21
  · skip
    obtain ⟨hP, hD⟩ := J _ hP1 hD1
    have hP : va_P D cl0 [(a3, .inl (k 1, 9, .inr (.inl (tL [] 0)))), (a5, .inl (k 1, 9, .inr (.inl (tL [] 0)))), (a6, .inl (k 1, 9, .inr (.inl (tL [] 0)))), (a0, .inr (8, [.int 2, .int 0, .int 1, .int 0, .int 0, .int 0, .ref a1, .ref a2, .int 0, .int 1, .ref a3, .ref a4, .ref a5, .ref a6, .ref a7, .ref a8, .ref a9, .int 0, .int 0, .int 0, .ref a10, .ref a11, .ref a12, .ref a13, .int 1, .int 1, .ref a14, .ref a15, .ref a16, .ref a17, .int 0, .int 0, .ref a18, .ref a19, .ref a20, .ref a21])), (a4, .inl (k 1, 9, .inr (.inl (tL [1, 0, 0, 0, 1, 0, 0, 0, 0] 0)))), (a10, .inl (k 1, 900, .inr (.inl (tL [1, 0, 0, 0, 1, 0, 0, 0, 0] 0)))), (a11, .inl (k 0, 100, .inl (tI [(-3)] 0))), (a12, .inl (k 0, 100, .inl (tI [(-3)] 0))), (a13, .inl (k 0, 100, .inl (tI [0] 0)))] H := hP
    have hD : va_D A [(a3, .inl (k 1, 9, .inr (.inl (tL [] 0)))), (a5, .inl (k 1, 9, .inr (.inl (tL [] 0)))), (a6, .inl (k 1, 9, .inr (.inl (tL [] 0)))), (a0, .inr (8, [.int 2, .int 0, .int 1, .int 0, .int 0, .int 0, .ref a1, .ref a2, .int 0, .int 1, .ref a3, .ref a4, .ref a5, .ref a6, .ref a7, .ref a8, .ref a9, .int 0, .int 0, .int 0, .ref a10, .ref a11, .ref a12, .ref a13, .int 1, .int 1, .ref a14, .ref a15, .ref a16, .ref a17, .int 0, .int 0, .ref a18, .ref a19, .ref a20, .ref a21])), (a4, .inl (k 1, 9, .inr (.inl (tL [1, 0, 0, 0, 1, 0, 0, 0, 0] 0)))), (a10, .inl (k 1, 900, .inr (.inl (tL [1, 0, 0, 0, 1, 0, 0, 0, 0] 0)))), (a11, .inl (k 0, 100, .inl (tI [(-3)] 0))), (a12, .inl (k 0, 100, .inl (tI [(-3)] 0))), (a13, .inl (k 0, 100, .inl (tI [0] 0)))] := hD
    refine lv_if_ne (tgt := 22) hx hb dX11_about_17 (by decide) (fun cc => absurd (by decide +kernel) cc) (fun _ => ?_)
    refine lv_iconst (v := (-1)) hx hb dX11_about_20 (by decide) ?_
    exact retI (v := (-1)) hx hb hr hlocks hS (show ((-1) : Int32) = F_about x0 x1 by first | decide +kernel | (have f0 := dv_nlt (x := x0.toInt) (y := 0) c_4 (wd x0) (by decide +kernel); have f1 := dv_lt (x := 0) (y := x0.toInt) c_5 (by decide +kernel) (wd x0); unfold F_about; (repeat (first | rw [if_pos (by omega)] | rw [if_neg (by omega)])))) dX11_about_21
  · skip
    obtain ⟨hP, hD⟩ := J _ hP1 hD1
    have hP : va_P D cl0 [(a3, .inl (k 1, 9, .inr (.inl (tL [] 0)))), (a5, .inl (k 1, 9, .inr (.inl (tL [] 0)))), (a6, .inl (k 1, 9, .inr (.inl (tL [] 0)))), (a0, .inr (8, [.int 2, .int 0, .int 1, .int 0, .int 0, .int 0, .ref a1, .ref a2, .int 0, .int 1, .ref a3, .ref a4, .ref a5, .ref a6, .ref a7, .ref a8, .ref a9, .int 0, .int 0, .int 0, .ref a10, .ref a11, .ref a12, .ref a13, .int 1, .int 1, .ref a14, .ref a15, .ref a16, .ref a17, .int 0, .int 0, .ref a18, .ref a19, .ref a20, .ref a21])), (a4, .inl (k 1, 9, .inr (.inl (tL [1, 0, 0, 0, 1, 0, 0, 0, 0] 0)))), (a10, .inl (k 1, 900, .inr (.inl (tL [1, 0, 0, 0, 1, 0, 0, 0, 0] 0)))), (a11, .inl (k 0, 100, .inl (tI [(-3)] 0))), (a12, .inl (k 0, 100, .inl (tI [(-3)] 0))), (a13, .inl (k 0, 100, .inl (tI [0] 0)))] H := hP
    have hD : va_D A [(a3, .inl (k 1, 9, .inr (.inl (tL [] 0)))), (a5, .inl (k 1, 9, .inr (.inl (tL [] 0)))), (a6, .inl (k 1, 9, .inr (.inl (tL [] 0)))), (a0, .inr (8, [.int 2, .int 0, .int 1, .int 0, .int 0, .int 0, .ref a1, .ref a2, .int 0, .int 1, .ref a3, .ref a4, .ref a5, .ref a6, .ref a7, .ref a8, .ref a9, .int 0, .int 0, .int 0, .ref a10, .ref a11, .ref a12, .ref a13, .int 1, .int 1, .ref a14, .ref a15, .ref a16, .ref a17, .int 0, .int 0, .ref a18, .ref a19, .ref a20, .ref a21])), (a4, .inl (k 1, 9, .inr (.inl (tL [1, 0, 0, 0, 1, 0, 0, 0, 0] 0)))), (a10, .inl (k 1, 900, .inr (.inl (tL [1, 0, 0, 0, 1, 0, 0, 0, 0] 0)))), (a11, .inl (k 0, 100, .inl (tI [(-3)] 0))), (a12, .inl (k 0, 100, .inl (tI [(-3)] 0))), (a13, .inl (k 0, 100, .inl (tI [0] 0)))] := hD
    refine lv_if_ne (tgt := 22) hx hb dX11_about_17 (by decide) (fun _ => ?_) (fun cc => absurd cc (by decide +kernel))
    refine lv_iload_n hx hb dX11_about_22 rfl (lv_at hl 2 rfl) ?_
    rcases (show (x1.toInt < 0 ∨ 3 < x1.toInt) ∨ x1.toInt = 0 ∨ x1.toInt = 1 ∨ x1.toInt = 2 ∨ x1.toInt = 3 by omega) with c_8 | c_8 | c_8 | c_8 | c_8
    · skip
      refine lv_tableOut (tgt := 79) hx hb dX11_about_23 c_8 (by decide) ?_
      refine lv_iconst (v := (-1)) hx hb dX11_about_79 (by decide) ?_
      exact retI (v := (-1)) hx hb hr hlocks hS (show ((-1) : Int32) = F_about x0 x1 by first | decide +kernel | (have f0 := dv_nlt (x := x0.toInt) (y := 0) c_6 (wd x0) (by decide +kernel); have f1 := dv_nlt (x := 0) (y := x0.toInt) c_7 (by decide +kernel) (wd x0); unfold F_about; (repeat (first | rw [if_pos (by omega)] | rw [if_neg (by omega)])))) dX11_about_80
    · skip
      obtain rfl : x1 = 0 := eq32 c_8 (by decide +kernel)
      refine lv_tableIn (tgt := 52) (off := 29) hx hb dX11_about_23 (by decide +kernel) (by decide +kernel) (by decide +kernel) (by decide) ?_
      refine lv_aload_n hx hb dX11_about_52 rfl (lv_at hl 0 rfl) ?_
      refine va_get (D := D) (ci := 8) (v := .ref a11) (C := RX11) (T := TX11) (N := 36) hx hb hU iX11 hown hK.1 hP 3 rfl rfl 21 (by decide) (hU _ w806) (fun _ h9 => h9) rfl dX11_about_53 ?_
      refine lv_iload_n hx hb dX11_about_56 rfl (lv_at hl 1 rfl) ?_
      have hsp : x0.toInt = 0 := by
        have f0 := dv_nlt (x := x0.toInt) (y := 0) c_6 (wd x0) (by decide +kernel)
        have f1 := dv_nlt (x := 0) (y := x0.toInt) c_7 (by decide +kernel) (wd x0)
        have g_0 : (0 : Int32).toInt = 0 := (by decide +kernel)
        omega
      obtain rfl : x0 = 0 := eq32 hsp (by decide +kernel)
      refine ld_i (j := 0) (v := (-3)) hx hb hK hP 6 rfl (by decide +kernel) rfl dX11_about_57 ?_
      exact retI (v := (-3)) hx hb hr hlocks hS (show ((-3) : Int32) = F_about 0 0 by first | decide +kernel | (have g_0 : (0 : Int32).toInt = 0 := (by decide +kernel); unfold F_about; (repeat (first | rw [if_pos (by omega)] | rw [if_neg (by omega)])))) dX11_about_58
    · skip
      obtain rfl : x1 = 1 := eq32 c_8 (by decide +kernel)
      refine lv_tableIn (tgt := 59) (off := 36) hx hb dX11_about_23 (by decide +kernel) (by decide +kernel) (by decide +kernel) (by decide) ?_
      refine lv_aload_n hx hb dX11_about_59 rfl (lv_at hl 0 rfl) ?_
      refine va_get (D := D) (ci := 8) (v := .ref a12) (C := RX11) (T := TX11) (N := 36) hx hb hU iX11 hown hK.1 hP 3 rfl rfl 22 (by decide) (hU _ w807) (fun _ h9 => h9) rfl dX11_about_60 ?_
      refine lv_iload_n hx hb dX11_about_63 rfl (lv_at hl 1 rfl) ?_
      have hsp : x0.toInt = 0 := by
        have f0 := dv_nlt (x := x0.toInt) (y := 0) c_6 (wd x0) (by decide +kernel)
        have f1 := dv_nlt (x := 0) (y := x0.toInt) c_7 (by decide +kernel) (wd x0)
        have g_1 : (1 : Int32).toInt = 1 := (by decide +kernel)
        omega
      obtain rfl : x0 = 0 := eq32 hsp (by decide +kernel)
      refine ld_i (j := 0) (v := (-3)) hx hb hK hP 7 rfl (by decide +kernel) rfl dX11_about_64 ?_
      exact retI (v := (-3)) hx hb hr hlocks hS (show ((-3) : Int32) = F_about 0 1 by first | decide +kernel | (have g_0 : (0 : Int32).toInt = 0 := (by decide +kernel); have g_1 : (1 : Int32).toInt = 1 := (by decide +kernel); unfold F_about; (repeat (first | rw [if_pos (by omega)] | rw [if_neg (by omega)])))) dX11_about_65
    · skip
      obtain rfl : x1 = 2 := eq32 c_8 (by decide +kernel)
      refine lv_tableIn (tgt := 66) (off := 43) hx hb dX11_about_23 (by decide +kernel) (by decide +kernel) (by decide +kernel) (by decide) ?_
      refine lv_aload_n hx hb dX11_about_66 rfl (lv_at hl 0 rfl) ?_
      refine va_get (D := D) (ci := 8) (v := .ref a13) (C := RX11) (T := TX11) (N := 36) hx hb hU iX11 hown hK.1 hP 3 rfl rfl 23 (by decide) (hU _ w808) (fun _ h9 => h9) rfl dX11_about_67 ?_
      refine lv_iload_n hx hb dX11_about_70 rfl (lv_at hl 1 rfl) ?_
      have hsp : x0.toInt = 0 := by
        have f0 := dv_nlt (x := x0.toInt) (y := 0) c_6 (wd x0) (by decide +kernel)
        have f1 := dv_nlt (x := 0) (y := x0.toInt) c_7 (by decide +kernel) (wd x0)
        have g_2 : (2 : Int32).toInt = 2 := (by decide +kernel)
        omega
      obtain rfl : x0 = 0 := eq32 hsp (by decide +kernel)
      refine ld_i (j := 0) (v := 0) hx hb hK hP 8 rfl (by decide +kernel) rfl dX11_about_71 ?_
      exact retI (v := 0) hx hb hr hlocks hS (show (0 : Int32) = F_about 0 2 by first | decide +kernel | (have g_0 : (0 : Int32).toInt = 0 := (by decide +kernel); have g_2 : (2 : Int32).toInt = 2 := (by decide +kernel); unfold F_about; (repeat (first | rw [if_pos (by omega)] | rw [if_neg (by omega)])))) dX11_about_72
    · skip
      obtain rfl : x1 = 3 := eq32 c_8 (by decide +kernel)
      refine lv_tableIn (tgt := 73) (off := 50) hx hb dX11_about_23 (by decide +kernel) (by decide +kernel) (by decide +kernel) (by decide) ?_
      refine lv_aload_n hx hb dX11_about_73 rfl (lv_at hl 0 rfl) ?_
      refine lv_iload_n hx hb dX11_about_74 rfl (lv_at hl 1 rfl) ?_
      have hsp : x0.toInt = 0 := by
        have f0 := dv_nlt (x := x0.toInt) (y := 0) c_6 (wd x0) (by decide +kernel)
        have f1 := dv_nlt (x := 0) (y := x0.toInt) c_7 (by decide +kernel) (wd x0)
        have g_3 : (3 : Int32).toInt = 3 := (by decide +kernel)
        omega
      obtain rfl : x0 = 0 := eq32 hsp (by decide +kernel)
      refine cI (rV (q0 := 3) (ci := 8) (As := [.int 0]) (rest := []) (wc := [(a0, .inr (8, [.int 2, .int 0, .int 1, .int 0, .int 0, .int 0, .ref a1, .ref a2, .int 0, .int 1, .ref a3, .ref a4, .ref a5, .ref a6, .ref a7, .ref a8, .ref a9, .int 0, .int 0, .int 0, .ref a10, .ref a11, .ref a12, .ref a13, .int 1, .int 1, .ref a14, .ref a15, .ref a16, .ref a17, .int 0, .int 0, .ref a18, .ref a19, .ref a20, .ref a21])), (a10, .inl (k 1, 900, .inr (.inl (tL [1, 0, 0, 0, 1, 0, 0, 0, 0] 0)))), (a4, .inl (k 1, 9, .inr (.inl (tL [1, 0, 0, 0, 1, 0, 0, 0, 0] 0)))), (a5, .inl (k 1, 9, .inr (.inl (tL [] 0)))), (a3, .inl (k 1, 9, .inr (.inl (tL [] 0)))), (a6, .inl (k 1, 9, .inr (.inl (tL [] 0))))]) hx hb hml hown hU hK hP hD rfl rfl [3, 5, 4, 1, 0, 2] rfl (by decide) (cX11_orderOf_1 l D k _ a0 a10 a4 a5 a3 a6 a1 a2 a7 a8 a9 a11 a12 a13 a14 a15 a16 a17 a18 a19 a20 a21) w1071 w1068 w1070 w51 w72 hdX11_orderOf ⟨rfl, rfl⟩ ⟨Nat.le_of_ble_eq_true rfl, Nat.le_of_ble_eq_true rfl⟩ rfl hl.1 (Nat.le_of_ble_eq_true rfl) dX11_about_75 ⟨Nat.le_of_ble_eq_true rfl, Nat.le_of_ble_eq_true rfl⟩) hP hD hS hA (wr := [(a11, .inl (k 0, 100, .inl (tI [(-3)] 0))), (a12, .inl (k 0, 100, .inl (tI [(-3)] 0))), (a13, .inl (k 0, 100, .inl (tI [0] 0)))]) [3, 5, 4, 1, 0, 2] [6, 7, 8] rfl rfl (by decide) (by decide) (fun r9 H locs hB J hS => ?_)
      obtain ⟨rfl, hP1, hD1⟩ := hB
      obtain ⟨hP, hD⟩ := J _ hP1 hD1
      have hP : va_P D cl0 [(a11, .inl (k 0, 100, .inl (tI [(-3)] 0))), (a12, .inl (k 0, 100, .inl (tI [(-3)] 0))), (a13, .inl (k 0, 100, .inl (tI [0] 0))), (a10, .inl (k 1, 900, .inr (.inl (tL [1, 0, 0, 0, 1, 0, 0, 0, 0] 0)))), (a4, .inl (k 1, 9, .inr (.inl (tL [1, 0, 0, 0, 1, 0, 0, 0, 0] 0)))), (a3, .inl (k 1, 9, .inr (.inl (tL [1, 0, 0, 0, 1, 0, 0, 0, 0] 0)))), (a5, .inl (k 1, 9, .inr (.inl (tL [1, 0, 0, 0, 1, 0, 0, 0, 0] 0)))), (a0, .inr (8, [.int 2, .int 0, .int 1, .int 0, .int 0, .int 0, .ref a1, .ref a2, .int 0, .int 1, .ref a3, .ref a4, .ref a5, .ref a6, .ref a7, .ref a8, .ref a9, .int 0, .int 0, .int 0, .ref a10, .ref a11, .ref a12, .ref a13, .int 1, .int 1, .ref a14, .ref a15, .ref a16, .ref a17, .int 0, .int 0, .ref a18, .ref a19, .ref a20, .ref a21])), (a6, .inl (k 1, 9, .inr (.inl (tL [1, 0, 0, 0, 1, 0, 0, 0, 0] 0))))] H := hP
      have hD : va_D A [(a11, .inl (k 0, 100, .inl (tI [(-3)] 0))), (a12, .inl (k 0, 100, .inl (tI [(-3)] 0))), (a13, .inl (k 0, 100, .inl (tI [0] 0))), (a10, .inl (k 1, 900, .inr (.inl (tL [1, 0, 0, 0, 1, 0, 0, 0, 0] 0)))), (a4, .inl (k 1, 9, .inr (.inl (tL [1, 0, 0, 0, 1, 0, 0, 0, 0] 0)))), (a3, .inl (k 1, 9, .inr (.inl (tL [1, 0, 0, 0, 1, 0, 0, 0, 0] 0)))), (a5, .inl (k 1, 9, .inr (.inl (tL [1, 0, 0, 0, 1, 0, 0, 0, 0] 0)))), (a0, .inr (8, [.int 2, .int 0, .int 1, .int 0, .int 0, .int 0, .ref a1, .ref a2, .int 0, .int 1, .ref a3, .ref a4, .ref a5, .ref a6, .ref a7, .ref a8, .ref a9, .int 0, .int 0, .int 0, .ref a10, .ref a11, .ref a12, .ref a13, .int 1, .int 1, .ref a14, .ref a15, .ref a16, .ref a17, .int 0, .int 0, .ref a18, .ref a19, .ref a20, .ref a21])), (a6, .inl (k 1, 9, .inr (.inl (tL [1, 0, 0, 0, 1, 0, 0, 0, 0] 0))))] := hD
      exact retI (v := 1) hx hb hr hlocks hS (show (1 : Int32) = F_about 0 3 by first | decide +kernel | (have g_0 : (0 : Int32).toInt = 0 := (by decide +kernel); have g_3 : (3 : Int32).toInt = 3 := (by decide +kernel); unfold F_about; (repeat (first | rw [if_pos (by omega)] | rw [if_neg (by omega)])))) dX11_about_78
abbrev BX11_witness_1 (D : va_G) (k : Nat → ClassId) (a0 a3 a4 a5 a6 a10 a11 a12 a13 a1 a2 a7 a8 a9 a14 a15 a16 a17 a18 a19 a20 a21 : Nat) (A : Nat → Prop) (r : Int32) (H : Heap) : Prop := r = F_witness
set_option maxHeartbeats 4000000 in
set_option maxRecDepth 100000 in
theorem cX11_witness_1 (l : Launch) (D : va_G) (k : Nat → ClassId) (sz : Nat) (a0 a3 a4 a5 a6 a10 a11 a12 a13 a1 a2 a7 a8 a9 a14 a15 a16 a17 a18 a19 a20 a21 : Nat) : Met l yX11_witness (Cond.code yX11_witness cX11_witness 2 (some .int) :: uw) ({ frames := 5, cells := 0, slots := 0, locals := 112 }) (pC D k sz [.ref a0] [(a0, .inr (8, [.int 2, .int 0, .int 1, .int 0, .int 0, .int 0, .ref a1, .ref a2, .int 0, .int 0, .ref a3, .ref a4, .ref a5, .ref a6, .ref a7, .ref a8, .ref a9, .int 0, .int 0, .int 0, .ref a10, .ref a11, .ref a12, .ref a13, .int 0, .int 0, .ref a14, .ref a15, .ref a16, .ref a17, .int 0, .int 0, .ref a18, .ref a19, .ref a20, .ref a21])), (a3, .inl (k 1, 9, .inr (.inl (tL [] 0)))), (a4, .inl (k 1, 9, .inr (.inl (tL [] 0)))), (a5, .inl (k 1, 9, .inr (.inl (tL [] 0)))), (a6, .inl (k 1, 9, .inr (.inl (tL [] 0)))), (a10, .inl (k 1, 900, .inr (.inl (tL [] 0)))), (a11, .inl (k 0, 100, .inl (tI [] 0))), (a12, .inl (k 0, 100, .inl (tI [] 0))), (a13, .inl (k 0, 100, .inl (tI [] 0)))]) (qI (BX11_witness_1 D k a0 a3 a4 a5 a6 a10 a11 a12 a13 a1 a2 a7 a8 a9 a14 a15 a16 a17 a18 a19 a20 a21 (va_A [(a0, .inr (8, [.int 2, .int 0, .int 1, .int 0, .int 0, .int 0, .ref a1, .ref a2, .int 0, .int 0, .ref a3, .ref a4, .ref a5, .ref a6, .ref a7, .ref a8, .ref a9, .int 0, .int 0, .int 0, .ref a10, .ref a11, .ref a12, .ref a13, .int 0, .int 0, .ref a14, .ref a15, .ref a16, .ref a17, .int 0, .int 0, .ref a18, .ref a19, .ref a20, .ref a21])), (a3, .inl (k 1, 9, .inr (.inl (tL [] 0)))), (a4, .inl (k 1, 9, .inr (.inl (tL [] 0)))), (a5, .inl (k 1, 9, .inr (.inl (tL [] 0)))), (a6, .inl (k 1, 9, .inr (.inl (tL [] 0)))), (a10, .inl (k 1, 900, .inr (.inl (tL [] 0)))), (a11, .inl (k 0, 100, .inl (tI [] 0))), (a12, .inl (k 0, 100, .inl (tI [] 0))), (a13, .inl (k 0, 100, .inl (tI [] 0)))] sz)) (va_A [(a0, .inr (8, [.int 2, .int 0, .int 1, .int 0, .int 0, .int 0, .ref a1, .ref a2, .int 0, .int 0, .ref a3, .ref a4, .ref a5, .ref a6, .ref a7, .ref a8, .ref a9, .int 0, .int 0, .int 0, .ref a10, .ref a11, .ref a12, .ref a13, .int 0, .int 0, .ref a14, .ref a15, .ref a16, .ref a17, .int 0, .int 0, .ref a18, .ref a19, .ref a20, .ref a21])), (a3, .inl (k 1, 9, .inr (.inl (tL [] 0)))), (a4, .inl (k 1, 9, .inr (.inl (tL [] 0)))), (a5, .inl (k 1, 9, .inr (.inl (tL [] 0)))), (a6, .inl (k 1, 9, .inr (.inl (tL [] 0)))), (a10, .inl (k 1, 900, .inr (.inl (tL [] 0)))), (a11, .inl (k 0, 100, .inl (tI [] 0))), (a12, .inl (k 0, 100, .inl (tI [] 0))), (a13, .inl (k 0, 100, .inl (tI [] 0)))] sz)) 0 0 (va_A [(a0, .inr (8, [.int 2, .int 0, .int 1, .int 0, .int 0, .int 0, .ref a1, .ref a2, .int 0, .int 0, .ref a3, .ref a4, .ref a5, .ref a6, .ref a7, .ref a8, .ref a9, .int 0, .int 0, .int 0, .ref a10, .ref a11, .ref a12, .ref a13, .int 0, .int 0, .ref a14, .ref a15, .ref a16, .ref a17, .int 0, .int 0, .ref a18, .ref a19, .ref a20, .ref a21])), (a3, .inl (k 1, 9, .inr (.inl (tL [] 0)))), (a4, .inl (k 1, 9, .inr (.inl (tL [] 0)))), (a5, .inl (k 1, 9, .inr (.inl (tL [] 0)))), (a6, .inl (k 1, 9, .inr (.inl (tL [] 0)))), (a10, .inl (k 1, 900, .inr (.inl (tL [] 0)))), (a11, .inl (k 0, 100, .inl (tI [] 0))), (a12, .inl (k 0, 100, .inl (tI [] 0))), (a13, .inl (k 0, 100, .inl (tI [] 0)))] sz) := by
  refine begin_ (Qc := fun A => qI (BX11_witness_1 D k a0 a3 a4 a5 a6 a10 a11 a12 a13 a1 a2 a7 a8 a9 a14 a15 a16 a17 a18 a19 a20 a21 A) A) (by decide) (Nat.le_of_ble_eq_true rfl) ?_
  intro p e s m below meth c ls A hx hb hr hml hown hlocks hin hU hK hsz hP hD hS hA hl
  have hl : lv_has ls 2 [(0, .ref a0)] := hl
  clear hsz
  refine lv_aload_n hx hb dX11_witness_0 rfl (lv_at hl 0 rfl) ?_
  refine cV (rV (q0 := 0) (ci := 8) (As := []) (rest := []) (wc := [(a0, .inr (8, [.int 2, .int 0, .int 1, .int 0, .int 0, .int 0, .ref a1, .ref a2, .int 0, .int 0, .ref a3, .ref a4, .ref a5, .ref a6, .ref a7, .ref a8, .ref a9, .int 0, .int 0, .int 0, .ref a10, .ref a11, .ref a12, .ref a13, .int 0, .int 0, .ref a14, .ref a15, .ref a16, .ref a17, .int 0, .int 0, .ref a18, .ref a19, .ref a20, .ref a21])), (a4, .inl (k 1, 9, .inr (.inl (tL [] 0)))), (a10, .inl (k 1, 900, .inr (.inl (tL [] 0)))), (a11, .inl (k 0, 100, .inl (tI [] 0))), (a12, .inl (k 0, 100, .inl (tI [] 0))), (a13, .inl (k 0, 100, .inl (tI [] 0)))]) hx hb hml hown hU hK hP hD rfl rfl [0, 2, 5, 6, 7, 8] rfl (by decide) (cX11_findList_1 l D k _ a0 a4 a10 a11 a12 a13 a1 a2 a3 a5 a6 a7 a8 a9 a14 a15 a16 a17 a18 a19 a20 a21) w1039 w1036 w1038 w47 w72 hdX11_findList ⟨rfl, rfl⟩ ⟨Nat.le_of_ble_eq_true rfl, Nat.le_of_ble_eq_true rfl⟩ rfl hl.1 (Nat.le_of_ble_eq_true rfl) dX11_witness_1 ⟨Nat.le_of_ble_eq_true rfl, Nat.le_of_ble_eq_true rfl⟩) hP hD hS hA (wr := [(a3, .inl (k 1, 9, .inr (.inl (tL [] 0)))), (a5, .inl (k 1, 9, .inr (.inl (tL [] 0)))), (a6, .inl (k 1, 9, .inr (.inl (tL [] 0))))]) [0, 2, 5, 6, 7, 8] [1, 3, 4] rfl rfl (by decide) (by decide) (fun H locs hB J hS => ?_)
  obtain ⟨hP1, hD1⟩ := hB
  obtain ⟨hP, hD⟩ := J _ hP1 hD1
  have hP : va_P D cl0 [(a3, .inl (k 1, 9, .inr (.inl (tL [] 0)))), (a5, .inl (k 1, 9, .inr (.inl (tL [] 0)))), (a6, .inl (k 1, 9, .inr (.inl (tL [] 0)))), (a0, .inr (8, [.int 2, .int 0, .int 1, .int 0, .int 0, .int 0, .ref a1, .ref a2, .int 0, .int 1, .ref a3, .ref a4, .ref a5, .ref a6, .ref a7, .ref a8, .ref a9, .int 0, .int 0, .int 0, .ref a10, .ref a11, .ref a12, .ref a13, .int 1, .int 1, .ref a14, .ref a15, .ref a16, .ref a17, .int 0, .int 0, .ref a18, .ref a19, .ref a20, .ref a21])), (a4, .inl (k 1, 9, .inr (.inl (tL [1, 0, 0, 0, 1, 0, 0, 0, 0] 0)))), (a10, .inl (k 1, 900, .inr (.inl (tL [1, 0, 0, 0, 1, 0, 0, 0, 0] 0)))), (a11, .inl (k 0, 100, .inl (tI [(-3)] 0))), (a12, .inl (k 0, 100, .inl (tI [(-3)] 0))), (a13, .inl (k 0, 100, .inl (tI [0] 0)))] H := hP
  have hD : va_D A [(a3, .inl (k 1, 9, .inr (.inl (tL [] 0)))), (a5, .inl (k 1, 9, .inr (.inl (tL [] 0)))), (a6, .inl (k 1, 9, .inr (.inl (tL [] 0)))), (a0, .inr (8, [.int 2, .int 0, .int 1, .int 0, .int 0, .int 0, .ref a1, .ref a2, .int 0, .int 1, .ref a3, .ref a4, .ref a5, .ref a6, .ref a7, .ref a8, .ref a9, .int 0, .int 0, .int 0, .ref a10, .ref a11, .ref a12, .ref a13, .int 1, .int 1, .ref a14, .ref a15, .ref a16, .ref a17, .int 0, .int 0, .ref a18, .ref a19, .ref a20, .ref a21])), (a4, .inl (k 1, 9, .inr (.inl (tL [1, 0, 0, 0, 1, 0, 0, 0, 0] 0)))), (a10, .inl (k 1, 900, .inr (.inl (tL [1, 0, 0, 0, 1, 0, 0, 0, 0] 0)))), (a11, .inl (k 0, 100, .inl (tI [(-3)] 0))), (a12, .inl (k 0, 100, .inl (tI [(-3)] 0))), (a13, .inl (k 0, 100, .inl (tI [0] 0)))] := hD
  refine lv_iconst (v := 0) hx hb dX11_witness_4 (by decide) ?_
  refine lv_istore_n (lv' := [(1, .int 0), (0, .ref a0)]) hx hb dX11_witness_5 rfl hl (by decide) rfl (fun ls hl => ?_)
  refine lv_iload_n hx hb dX11_witness_6 rfl (lv_at hl 0 rfl) ?_
  refine lv_aload_n hx hb dX11_witness_7 rfl (lv_at hl 1 rfl) ?_
  refine va_get (D := D) (ci := 8) (v := .int 1) (C := RX11) (T := TX11) (N := 36) hx hb hU iX11 hown hK.1 hP 3 rfl rfl 24 (by decide) (hU _ w809) (fun _ h9 => h9) rfl dX11_witness_8 ?_
  refine lv_icmp_ge (tgt := 32) hx hb dX11_witness_11 (by decide) (fun cc => absurd cc (by decide +kernel)) (fun _ => ?_)
  refine lv_aload_n hx hb dX11_witness_14 rfl (lv_at hl 1 rfl) ?_
  refine lv_iload_n hx hb dX11_witness_15 rfl (lv_at hl 0 rfl) ?_
  refine cI (rV (q0 := 3) (ci := 8) (As := [.int 0]) (rest := []) (wc := [(a0, .inr (8, [.int 2, .int 0, .int 1, .int 0, .int 0, .int 0, .ref a1, .ref a2, .int 0, .int 1, .ref a3, .ref a4, .ref a5, .ref a6, .ref a7, .ref a8, .ref a9, .int 0, .int 0, .int 0, .ref a10, .ref a11, .ref a12, .ref a13, .int 1, .int 1, .ref a14, .ref a15, .ref a16, .ref a17, .int 0, .int 0, .ref a18, .ref a19, .ref a20, .ref a21])), (a10, .inl (k 1, 900, .inr (.inl (tL [1, 0, 0, 0, 1, 0, 0, 0, 0] 0)))), (a4, .inl (k 1, 9, .inr (.inl (tL [1, 0, 0, 0, 1, 0, 0, 0, 0] 0)))), (a5, .inl (k 1, 9, .inr (.inl (tL [] 0)))), (a3, .inl (k 1, 9, .inr (.inl (tL [] 0)))), (a6, .inl (k 1, 9, .inr (.inl (tL [] 0))))]) hx hb hml hown hU hK hP hD rfl rfl [3, 5, 4, 1, 0, 2] rfl (by decide) (cX11_orderOf_1 l D k _ a0 a10 a4 a5 a3 a6 a1 a2 a7 a8 a9 a11 a12 a13 a14 a15 a16 a17 a18 a19 a20 a21) w1071 w1068 w1070 w51 w72 hdX11_orderOf ⟨rfl, rfl⟩ ⟨Nat.le_of_ble_eq_true rfl, Nat.le_of_ble_eq_true rfl⟩ rfl hl.1 (Nat.le_of_ble_eq_true rfl) dX11_witness_16 ⟨Nat.le_of_ble_eq_true rfl, Nat.le_of_ble_eq_true rfl⟩) hP hD hS hA (wr := [(a11, .inl (k 0, 100, .inl (tI [(-3)] 0))), (a12, .inl (k 0, 100, .inl (tI [(-3)] 0))), (a13, .inl (k 0, 100, .inl (tI [0] 0)))]) [3, 5, 4, 1, 0, 2] [6, 7, 8] rfl rfl (by decide) (by decide) (fun r2 H locs hB J hS => ?_)
  obtain ⟨rfl, hP1, hD1⟩ := hB
  obtain ⟨hP, hD⟩ := J _ hP1 hD1
  have hP : va_P D cl0 [(a11, .inl (k 0, 100, .inl (tI [(-3)] 0))), (a12, .inl (k 0, 100, .inl (tI [(-3)] 0))), (a13, .inl (k 0, 100, .inl (tI [0] 0))), (a10, .inl (k 1, 900, .inr (.inl (tL [1, 0, 0, 0, 1, 0, 0, 0, 0] 0)))), (a4, .inl (k 1, 9, .inr (.inl (tL [1, 0, 0, 0, 1, 0, 0, 0, 0] 0)))), (a3, .inl (k 1, 9, .inr (.inl (tL [1, 0, 0, 0, 1, 0, 0, 0, 0] 0)))), (a5, .inl (k 1, 9, .inr (.inl (tL [1, 0, 0, 0, 1, 0, 0, 0, 0] 0)))), (a0, .inr (8, [.int 2, .int 0, .int 1, .int 0, .int 0, .int 0, .ref a1, .ref a2, .int 0, .int 1, .ref a3, .ref a4, .ref a5, .ref a6, .ref a7, .ref a8, .ref a9, .int 0, .int 0, .int 0, .ref a10, .ref a11, .ref a12, .ref a13, .int 1, .int 1, .ref a14, .ref a15, .ref a16, .ref a17, .int 0, .int 0, .ref a18, .ref a19, .ref a20, .ref a21])), (a6, .inl (k 1, 9, .inr (.inl (tL [1, 0, 0, 0, 1, 0, 0, 0, 0] 0))))] H := hP
  have hD : va_D A [(a11, .inl (k 0, 100, .inl (tI [(-3)] 0))), (a12, .inl (k 0, 100, .inl (tI [(-3)] 0))), (a13, .inl (k 0, 100, .inl (tI [0] 0))), (a10, .inl (k 1, 900, .inr (.inl (tL [1, 0, 0, 0, 1, 0, 0, 0, 0] 0)))), (a4, .inl (k 1, 9, .inr (.inl (tL [1, 0, 0, 0, 1, 0, 0, 0, 0] 0)))), (a3, .inl (k 1, 9, .inr (.inl (tL [1, 0, 0, 0, 1, 0, 0, 0, 0] 0)))), (a5, .inl (k 1, 9, .inr (.inl (tL [1, 0, 0, 0, 1, 0, 0, 0, 0] 0)))), (a0, .inr (8, [.int 2, .int 0, .int 1, .int 0, .int 0, .int 0, .ref a1, .ref a2, .int 0, .int 1, .ref a3, .ref a4, .ref a5, .ref a6, .ref a7, .ref a8, .ref a9, .int 0, .int 0, .int 0, .ref a10, .ref a11, .ref a12, .ref a13, .int 1, .int 1, .ref a14, .ref a15, .ref a16, .ref a17, .int 0, .int 0, .ref a18, .ref a19, .ref a20, .ref a21])), (a6, .inl (k 1, 9, .inr (.inl (tL [1, 0, 0, 0, 1, 0, 0, 0, 0] 0))))] := hD
  refine lv_bipush (v := (-3)) hx hb dX11_witness_19 (by decide) ?_
  refine lv_icmp_ne (tgt := 26) hx hb dX11_witness_21 (by decide) (fun _ => ?_) (fun cc => absurd cc (by decide +kernel))
  refine lv_iinc (v := 1) (lv' := [(1, .int 1), (0, .ref a0)]) hx hb dX11_witness_26 hl (k := 0) rfl (by decide) (by decide) rfl (fun ls hl => ?_)
  refine lv_goto (tgt := 6) hx hb dX11_witness_29 (by decide) ?_
  refine lv_iload_n hx hb dX11_witness_6 rfl (lv_at hl 0 rfl) ?_
  refine lv_aload_n hx hb dX11_witness_7 rfl (lv_at hl 1 rfl) ?_
  refine va_get (D := D) (ci := 8) (v := .int 1) (C := RX11) (T := TX11) (N := 36) hx hb hU iX11 hown hK.1 hP 7 rfl rfl 24 (by decide) (hU _ w809) (fun _ h9 => h9) rfl dX11_witness_8 ?_
  refine lv_icmp_ge (tgt := 32) hx hb dX11_witness_11 (by decide) (fun _ => ?_) (fun cc => absurd (by decide +kernel) cc)
  refine lv_bipush (v := (-3)) hx hb dX11_witness_32 (by decide) ?_
  exact retI (v := (-3)) hx hb hr hlocks hS (show ((-3) : Int32) = F_witness by rfl) dX11_witness_34
abbrev BX11_clears_5 (D : va_G) (k : Nat → ClassId) (h0 h1 : Nat) (A : Nat → Prop) (H : Heap) : Prop := va_P D cl0 [(h0, .inl (k 1, 9, .inr (.inl (tL [0, 0, 0, 0, 0, 0, 0, 0, 0] 0))))] H ∧ va_D A [(h0, .inl (k 1, 9, .inr (.inl (tL [0, 0, 0, 0, 0, 0, 0, 0, 0] 0))))]
set_option maxHeartbeats 4000000 in
set_option maxRecDepth 100000 in
theorem cX11_clears_5 (l : Launch) (D : va_G) (k : Nat → ClassId) (sz : Nat) (h0 h1 : Nat) : Met l yX11_clears (Cond.code yX11_clears cX11_clears 3 none :: uw) ({ frames := 0, cells := 0, slots := 0, locals := 0 }) (pC D k sz [.ref h1, .ref h0] [(h0, .inl (k 1, 9, .inr (.inl (tL [1, 0, 0, 0, 1, 0, 0, 0, 0] 0))))]) (qV (BX11_clears_5 D k h0 h1 (va_A [(h0, .inl (k 1, 9, .inr (.inl (tL [1, 0, 0, 0, 1, 0, 0, 0, 0] 0))))] sz)) (va_A [(h0, .inl (k 1, 9, .inr (.inl (tL [1, 0, 0, 0, 1, 0, 0, 0, 0] 0))))] sz)) 0 0 (va_A [(h0, .inl (k 1, 9, .inr (.inl (tL [1, 0, 0, 0, 1, 0, 0, 0, 0] 0))))] sz) := by
  refine begin_ (Qc := fun A => qV (BX11_clears_5 D k h0 h1 A) A) (by decide) (Nat.le_of_ble_eq_true rfl) ?_
  intro p e s m below meth c ls A hx hb hr hml hown hlocks hin hU hK hsz hP hD hS hA hl
  have hl : lv_has ls 3 [(0, .ref h1), (1, .ref h0)] := hl
  clear hsz
  refine lv_iconst (v := 0) hx hb dX11_clears_0 (by decide) ?_
  refine lv_istore_n (lv' := [(2, .int 0), (0, .ref h1), (1, .ref h0)]) hx hb dX11_clears_1 rfl hl (by decide) rfl (fun ls hl => ?_)
  refine lv_iload_n hx hb dX11_clears_2 rfl (lv_at hl 0 rfl) ?_
  refine lv_bipush (v := 9) hx hb dX11_clears_3 (by decide) ?_
  refine lv_icmp_ge (tgt := 18) hx hb dX11_clears_5 (by decide) (fun cc => absurd cc (by decide +kernel)) (fun _ => ?_)
  refine lv_aload_n hx hb dX11_clears_8 rfl (lv_at hl 2 rfl) ?_
  refine lv_iload_n hx hb dX11_clears_9 rfl (lv_at hl 0 rfl) ?_
  refine lv_lconst (v := 0) hx hb dX11_clears_10 (by decide) ?_
  refine st_l (j := 0) (g := tL [0, 0, 0, 0, 1, 0, 0, 0, 0] 0) hx hb hK hP hD hS 0 rfl (by decide +kernel) upd_tL dX11_clears_11 (fun H locs hP hD hS => ?_)
  have hP : va_P D cl0 [(h0, .inl (k 1, 9, .inr (.inl (tL [0, 0, 0, 0, 1, 0, 0, 0, 0] 0))))] H := hP
  have hD : va_D A [(h0, .inl (k 1, 9, .inr (.inl (tL [0, 0, 0, 0, 1, 0, 0, 0, 0] 0))))] := hD
  refine lv_iinc (v := 1) (lv' := [(2, .int 1), (0, .ref h1), (1, .ref h0)]) hx hb dX11_clears_12 hl (k := 0) rfl (by decide) (by decide) rfl (fun ls hl => ?_)
  refine lv_goto (tgt := 2) hx hb dX11_clears_15 (by decide) ?_
  refine lv_iload_n hx hb dX11_clears_2 rfl (lv_at hl 0 rfl) ?_
  refine lv_bipush (v := 9) hx hb dX11_clears_3 (by decide) ?_
  refine lv_icmp_ge (tgt := 18) hx hb dX11_clears_5 (by decide) (fun cc => absurd cc (by decide +kernel)) (fun _ => ?_)
  refine lv_aload_n hx hb dX11_clears_8 rfl (lv_at hl 2 rfl) ?_
  refine lv_iload_n hx hb dX11_clears_9 rfl (lv_at hl 0 rfl) ?_
  refine lv_lconst (v := 0) hx hb dX11_clears_10 (by decide) ?_
  refine st_l (j := 1) (g := tL [0, 0, 0, 0, 1, 0, 0, 0, 0] 0) hx hb hK hP hD hS 0 rfl (by decide +kernel) upd_tL dX11_clears_11 (fun H locs hP hD hS => ?_)
  have hP : va_P D cl0 [(h0, .inl (k 1, 9, .inr (.inl (tL [0, 0, 0, 0, 1, 0, 0, 0, 0] 0))))] H := hP
  have hD : va_D A [(h0, .inl (k 1, 9, .inr (.inl (tL [0, 0, 0, 0, 1, 0, 0, 0, 0] 0))))] := hD
  refine lv_iinc (v := 2) (lv' := [(2, .int 2), (0, .ref h1), (1, .ref h0)]) hx hb dX11_clears_12 hl (k := 0) rfl (by decide) (by decide) rfl (fun ls hl => ?_)
  refine lv_goto (tgt := 2) hx hb dX11_clears_15 (by decide) ?_
  refine lv_iload_n hx hb dX11_clears_2 rfl (lv_at hl 0 rfl) ?_
  refine lv_bipush (v := 9) hx hb dX11_clears_3 (by decide) ?_
  refine lv_icmp_ge (tgt := 18) hx hb dX11_clears_5 (by decide) (fun cc => absurd cc (by decide +kernel)) (fun _ => ?_)
  refine lv_aload_n hx hb dX11_clears_8 rfl (lv_at hl 2 rfl) ?_
  refine lv_iload_n hx hb dX11_clears_9 rfl (lv_at hl 0 rfl) ?_
  refine lv_lconst (v := 0) hx hb dX11_clears_10 (by decide) ?_
  refine st_l (j := 2) (g := tL [0, 0, 0, 0, 1, 0, 0, 0, 0] 0) hx hb hK hP hD hS 0 rfl (by decide +kernel) upd_tL dX11_clears_11 (fun H locs hP hD hS => ?_)
  have hP : va_P D cl0 [(h0, .inl (k 1, 9, .inr (.inl (tL [0, 0, 0, 0, 1, 0, 0, 0, 0] 0))))] H := hP
  have hD : va_D A [(h0, .inl (k 1, 9, .inr (.inl (tL [0, 0, 0, 0, 1, 0, 0, 0, 0] 0))))] := hD
  refine lv_iinc (v := 3) (lv' := [(2, .int 3), (0, .ref h1), (1, .ref h0)]) hx hb dX11_clears_12 hl (k := 0) rfl (by decide) (by decide) rfl (fun ls hl => ?_)
  refine lv_goto (tgt := 2) hx hb dX11_clears_15 (by decide) ?_
  refine lv_iload_n hx hb dX11_clears_2 rfl (lv_at hl 0 rfl) ?_
  refine lv_bipush (v := 9) hx hb dX11_clears_3 (by decide) ?_
  refine lv_icmp_ge (tgt := 18) hx hb dX11_clears_5 (by decide) (fun cc => absurd cc (by decide +kernel)) (fun _ => ?_)
  refine lv_aload_n hx hb dX11_clears_8 rfl (lv_at hl 2 rfl) ?_
  refine lv_iload_n hx hb dX11_clears_9 rfl (lv_at hl 0 rfl) ?_
  refine lv_lconst (v := 0) hx hb dX11_clears_10 (by decide) ?_
  refine st_l (j := 3) (g := tL [0, 0, 0, 0, 1, 0, 0, 0, 0] 0) hx hb hK hP hD hS 0 rfl (by decide +kernel) upd_tL dX11_clears_11 (fun H locs hP hD hS => ?_)
  have hP : va_P D cl0 [(h0, .inl (k 1, 9, .inr (.inl (tL [0, 0, 0, 0, 1, 0, 0, 0, 0] 0))))] H := hP
  have hD : va_D A [(h0, .inl (k 1, 9, .inr (.inl (tL [0, 0, 0, 0, 1, 0, 0, 0, 0] 0))))] := hD
  refine lv_iinc (v := 4) (lv' := [(2, .int 4), (0, .ref h1), (1, .ref h0)]) hx hb dX11_clears_12 hl (k := 0) rfl (by decide) (by decide) rfl (fun ls hl => ?_)
  refine lv_goto (tgt := 2) hx hb dX11_clears_15 (by decide) ?_
  refine lv_iload_n hx hb dX11_clears_2 rfl (lv_at hl 0 rfl) ?_
  refine lv_bipush (v := 9) hx hb dX11_clears_3 (by decide) ?_
  refine lv_icmp_ge (tgt := 18) hx hb dX11_clears_5 (by decide) (fun cc => absurd cc (by decide +kernel)) (fun _ => ?_)
  refine lv_aload_n hx hb dX11_clears_8 rfl (lv_at hl 2 rfl) ?_
  refine lv_iload_n hx hb dX11_clears_9 rfl (lv_at hl 0 rfl) ?_
  refine lv_lconst (v := 0) hx hb dX11_clears_10 (by decide) ?_
  refine st_l (j := 4) (g := tL [0, 0, 0, 0, 0, 0, 0, 0, 0] 0) hx hb hK hP hD hS 0 rfl (by decide +kernel) upd_tL dX11_clears_11 (fun H locs hP hD hS => ?_)
  have hP : va_P D cl0 [(h0, .inl (k 1, 9, .inr (.inl (tL [0, 0, 0, 0, 0, 0, 0, 0, 0] 0))))] H := hP
  have hD : va_D A [(h0, .inl (k 1, 9, .inr (.inl (tL [0, 0, 0, 0, 0, 0, 0, 0, 0] 0))))] := hD
  refine lv_iinc (v := 5) (lv' := [(2, .int 5), (0, .ref h1), (1, .ref h0)]) hx hb dX11_clears_12 hl (k := 0) rfl (by decide) (by decide) rfl (fun ls hl => ?_)
  refine lv_goto (tgt := 2) hx hb dX11_clears_15 (by decide) ?_
  refine lv_iload_n hx hb dX11_clears_2 rfl (lv_at hl 0 rfl) ?_
  refine lv_bipush (v := 9) hx hb dX11_clears_3 (by decide) ?_
  refine lv_icmp_ge (tgt := 18) hx hb dX11_clears_5 (by decide) (fun cc => absurd cc (by decide +kernel)) (fun _ => ?_)
  refine lv_aload_n hx hb dX11_clears_8 rfl (lv_at hl 2 rfl) ?_
  refine lv_iload_n hx hb dX11_clears_9 rfl (lv_at hl 0 rfl) ?_
  refine lv_lconst (v := 0) hx hb dX11_clears_10 (by decide) ?_
  refine st_l (j := 5) (g := tL [0, 0, 0, 0, 0, 0, 0, 0, 0] 0) hx hb hK hP hD hS 0 rfl (by decide +kernel) upd_tL dX11_clears_11 (fun H locs hP hD hS => ?_)
  have hP : va_P D cl0 [(h0, .inl (k 1, 9, .inr (.inl (tL [0, 0, 0, 0, 0, 0, 0, 0, 0] 0))))] H := hP
  have hD : va_D A [(h0, .inl (k 1, 9, .inr (.inl (tL [0, 0, 0, 0, 0, 0, 0, 0, 0] 0))))] := hD
  refine lv_iinc (v := 6) (lv' := [(2, .int 6), (0, .ref h1), (1, .ref h0)]) hx hb dX11_clears_12 hl (k := 0) rfl (by decide) (by decide) rfl (fun ls hl => ?_)
  refine lv_goto (tgt := 2) hx hb dX11_clears_15 (by decide) ?_
  refine lv_iload_n hx hb dX11_clears_2 rfl (lv_at hl 0 rfl) ?_
  refine lv_bipush (v := 9) hx hb dX11_clears_3 (by decide) ?_
  refine lv_icmp_ge (tgt := 18) hx hb dX11_clears_5 (by decide) (fun cc => absurd cc (by decide +kernel)) (fun _ => ?_)
  refine lv_aload_n hx hb dX11_clears_8 rfl (lv_at hl 2 rfl) ?_
  refine lv_iload_n hx hb dX11_clears_9 rfl (lv_at hl 0 rfl) ?_
  refine lv_lconst (v := 0) hx hb dX11_clears_10 (by decide) ?_
  refine st_l (j := 6) (g := tL [0, 0, 0, 0, 0, 0, 0, 0, 0] 0) hx hb hK hP hD hS 0 rfl (by decide +kernel) upd_tL dX11_clears_11 (fun H locs hP hD hS => ?_)
  have hP : va_P D cl0 [(h0, .inl (k 1, 9, .inr (.inl (tL [0, 0, 0, 0, 0, 0, 0, 0, 0] 0))))] H := hP
  have hD : va_D A [(h0, .inl (k 1, 9, .inr (.inl (tL [0, 0, 0, 0, 0, 0, 0, 0, 0] 0))))] := hD
  refine lv_iinc (v := 7) (lv' := [(2, .int 7), (0, .ref h1), (1, .ref h0)]) hx hb dX11_clears_12 hl (k := 0) rfl (by decide) (by decide) rfl (fun ls hl => ?_)
  refine lv_goto (tgt := 2) hx hb dX11_clears_15 (by decide) ?_
  refine lv_iload_n hx hb dX11_clears_2 rfl (lv_at hl 0 rfl) ?_
  refine lv_bipush (v := 9) hx hb dX11_clears_3 (by decide) ?_
  refine lv_icmp_ge (tgt := 18) hx hb dX11_clears_5 (by decide) (fun cc => absurd cc (by decide +kernel)) (fun _ => ?_)
  refine lv_aload_n hx hb dX11_clears_8 rfl (lv_at hl 2 rfl) ?_
  refine lv_iload_n hx hb dX11_clears_9 rfl (lv_at hl 0 rfl) ?_
  refine lv_lconst (v := 0) hx hb dX11_clears_10 (by decide) ?_
  refine st_l (j := 7) (g := tL [0, 0, 0, 0, 0, 0, 0, 0, 0] 0) hx hb hK hP hD hS 0 rfl (by decide +kernel) upd_tL dX11_clears_11 (fun H locs hP hD hS => ?_)
  have hP : va_P D cl0 [(h0, .inl (k 1, 9, .inr (.inl (tL [0, 0, 0, 0, 0, 0, 0, 0, 0] 0))))] H := hP
  have hD : va_D A [(h0, .inl (k 1, 9, .inr (.inl (tL [0, 0, 0, 0, 0, 0, 0, 0, 0] 0))))] := hD
  refine lv_iinc (v := 8) (lv' := [(2, .int 8), (0, .ref h1), (1, .ref h0)]) hx hb dX11_clears_12 hl (k := 0) rfl (by decide) (by decide) rfl (fun ls hl => ?_)
  refine lv_goto (tgt := 2) hx hb dX11_clears_15 (by decide) ?_
  refine lv_iload_n hx hb dX11_clears_2 rfl (lv_at hl 0 rfl) ?_
  refine lv_bipush (v := 9) hx hb dX11_clears_3 (by decide) ?_
  refine lv_icmp_ge (tgt := 18) hx hb dX11_clears_5 (by decide) (fun cc => absurd cc (by decide +kernel)) (fun _ => ?_)
  refine lv_aload_n hx hb dX11_clears_8 rfl (lv_at hl 2 rfl) ?_
  refine lv_iload_n hx hb dX11_clears_9 rfl (lv_at hl 0 rfl) ?_
  refine lv_lconst (v := 0) hx hb dX11_clears_10 (by decide) ?_
  refine st_l (j := 8) (g := tL [0, 0, 0, 0, 0, 0, 0, 0, 0] 0) hx hb hK hP hD hS 0 rfl (by decide +kernel) upd_tL dX11_clears_11 (fun H locs hP hD hS => ?_)
  have hP : va_P D cl0 [(h0, .inl (k 1, 9, .inr (.inl (tL [0, 0, 0, 0, 0, 0, 0, 0, 0] 0))))] H := hP
  have hD : va_D A [(h0, .inl (k 1, 9, .inr (.inl (tL [0, 0, 0, 0, 0, 0, 0, 0, 0] 0))))] := hD
  refine lv_iinc (v := 9) (lv' := [(2, .int 9), (0, .ref h1), (1, .ref h0)]) hx hb dX11_clears_12 hl (k := 0) rfl (by decide) (by decide) rfl (fun ls hl => ?_)
  refine lv_goto (tgt := 2) hx hb dX11_clears_15 (by decide) ?_
  refine lv_iload_n hx hb dX11_clears_2 rfl (lv_at hl 0 rfl) ?_
  refine lv_bipush (v := 9) hx hb dX11_clears_3 (by decide) ?_
  refine lv_icmp_ge (tgt := 18) hx hb dX11_clears_5 (by decide) (fun _ => ?_) (fun cc => absurd (by decide +kernel) cc)
  exact retV hx hb hr hlocks hS (⟨hP, hD⟩) dX11_clears_18
abbrev BX11_first_9 (D : va_G) (k : Nat → ClassId) (h0 h1 h2 h3 h4 h5 h6 h7 h8 h9 h10 h11 h12 h13 h14 h15 h16 h17 h18 h19 h20 h21 : Nat) (A : Nat → Prop) (H : Heap) : Prop := va_P D cl0 [(h1, .inr (8, [.int 2, .int 0, .int 1, .int 0, .int 0, .int 0, .ref h2, .ref h3, .int 0, .int 1, .ref h4, .ref h0, .ref h5, .ref h6, .ref h7, .ref h8, .ref h9, .int 0, .int 0, .int 0, .ref h10, .ref h11, .ref h12, .ref h13, .int 1, .int 1, .ref h14, .ref h15, .ref h16, .ref h17, .int 0, .int 0, .ref h18, .ref h19, .ref h20, .ref h21])), (h0, .inl (k 1, 9, .inr (.inl (tL [1, 0, 0, 0, 1, 0, 0, 0, 0] 0))))] H ∧ va_D A [(h1, .inr (8, [.int 2, .int 0, .int 1, .int 0, .int 0, .int 0, .ref h2, .ref h3, .int 0, .int 1, .ref h4, .ref h0, .ref h5, .ref h6, .ref h7, .ref h8, .ref h9, .int 0, .int 0, .int 0, .ref h10, .ref h11, .ref h12, .ref h13, .int 1, .int 1, .ref h14, .ref h15, .ref h16, .ref h17, .int 0, .int 0, .ref h18, .ref h19, .ref h20, .ref h21])), (h0, .inl (k 1, 9, .inr (.inl (tL [1, 0, 0, 0, 1, 0, 0, 0, 0] 0))))]
set_option maxHeartbeats 4000000 in
set_option maxRecDepth 100000 in
theorem cX11_first_9 (l : Launch) (D : va_G) (k : Nat → ClassId) (sz : Nat) (h0 h1 h2 h3 h4 h5 h6 h7 h8 h9 h10 h11 h12 h13 h14 h15 h16 h17 h18 h19 h20 h21 : Nat) : Met l yX11_first (Cond.code yX11_first cX11_first 3 none :: uw) ({ frames := 1, cells := 0, slots := 0, locals := 22 }) (pC D k sz [.ref h1, .ref h0] [(h0, .inl (k 1, 9, .inr (.inl (tL [1, 0, 0, 0, 1, 0, 0, 0, 0] 0)))), (h1, .inr (8, [.int 2, .int 0, .int 1, .int 0, .int 0, .int 0, .ref h2, .ref h3, .int 0, .int 1, .ref h4, .ref h0, .ref h5, .ref h6, .ref h7, .ref h8, .ref h9, .int 0, .int 0, .int 0, .ref h10, .ref h11, .ref h12, .ref h13, .int 1, .int 1, .ref h14, .ref h15, .ref h16, .ref h17, .int 0, .int 0, .ref h18, .ref h19, .ref h20, .ref h21]))]) (qV (BX11_first_9 D k h0 h1 h2 h3 h4 h5 h6 h7 h8 h9 h10 h11 h12 h13 h14 h15 h16 h17 h18 h19 h20 h21 (va_A [(h0, .inl (k 1, 9, .inr (.inl (tL [1, 0, 0, 0, 1, 0, 0, 0, 0] 0)))), (h1, .inr (8, [.int 2, .int 0, .int 1, .int 0, .int 0, .int 0, .ref h2, .ref h3, .int 0, .int 1, .ref h4, .ref h0, .ref h5, .ref h6, .ref h7, .ref h8, .ref h9, .int 0, .int 0, .int 0, .ref h10, .ref h11, .ref h12, .ref h13, .int 1, .int 1, .ref h14, .ref h15, .ref h16, .ref h17, .int 0, .int 0, .ref h18, .ref h19, .ref h20, .ref h21]))] sz)) (va_A [(h0, .inl (k 1, 9, .inr (.inl (tL [1, 0, 0, 0, 1, 0, 0, 0, 0] 0)))), (h1, .inr (8, [.int 2, .int 0, .int 1, .int 0, .int 0, .int 0, .ref h2, .ref h3, .int 0, .int 1, .ref h4, .ref h0, .ref h5, .ref h6, .ref h7, .ref h8, .ref h9, .int 0, .int 0, .int 0, .ref h10, .ref h11, .ref h12, .ref h13, .int 1, .int 1, .ref h14, .ref h15, .ref h16, .ref h17, .int 0, .int 0, .ref h18, .ref h19, .ref h20, .ref h21]))] sz)) 0 0 (va_A [(h0, .inl (k 1, 9, .inr (.inl (tL [1, 0, 0, 0, 1, 0, 0, 0, 0] 0)))), (h1, .inr (8, [.int 2, .int 0, .int 1, .int 0, .int 0, .int 0, .ref h2, .ref h3, .int 0, .int 1, .ref h4, .ref h0, .ref h5, .ref h6, .ref h7, .ref h8, .ref h9, .int 0, .int 0, .int 0, .ref h10, .ref h11, .ref h12, .ref h13, .int 1, .int 1, .ref h14, .ref h15, .ref h16, .ref h17, .int 0, .int 0, .ref h18, .ref h19, .ref h20, .ref h21]))] sz) := by
  refine begin_ (Qc := fun A => qV (BX11_first_9 D k h0 h1 h2 h3 h4 h5 h6 h7 h8 h9 h10 h11 h12 h13 h14 h15 h16 h17 h18 h19 h20 h21 A) A) (by decide) (Nat.le_of_ble_eq_true rfl) ?_
  intro p e s m below meth c ls A hx hb hr hml hown hlocks hin hU hK hsz hP hD hS hA hl
  have hl : lv_has ls 3 [(0, .ref h1), (1, .ref h0)] := hl
  clear hsz
  refine lv_aload_n hx hb dX11_first_0 rfl (lv_at hl 0 rfl) ?_
  refine lv_aload_n hx hb dX11_first_1 rfl (lv_at hl 1 rfl) ?_
  refine cV (rV (q0 := 1) (ci := 8) (As := [.ref h0]) (rest := []) (wc := [(h0, .inl (k 1, 9, .inr (.inl (tL [1, 0, 0, 0, 1, 0, 0, 0, 0] 0))))]) hx hb hml hown hU hK hP hD rfl rfl [0] rfl (by decide) (cX11_clears_5 l D k _ h0 h1) w923 w920 w922 w29 w72 hdX11_clears ⟨rfl, rfl⟩ ⟨Nat.le_of_ble_eq_true rfl, Nat.le_of_ble_eq_true rfl⟩ rfl hl.1 (Nat.le_of_ble_eq_true rfl) dX11_first_2 ⟨Nat.le_of_ble_eq_true rfl, Nat.le_of_ble_eq_true rfl⟩) hP hD hS hA (wr := [(h1, .inr (8, [.int 2, .int 0, .int 1, .int 0, .int 0, .int 0, .ref h2, .ref h3, .int 0, .int 1, .ref h4, .ref h0, .ref h5, .ref h6, .ref h7, .ref h8, .ref h9, .int 0, .int 0, .int 0, .ref h10, .ref h11, .ref h12, .ref h13, .int 1, .int 1, .ref h14, .ref h15, .ref h16, .ref h17, .int 0, .int 0, .ref h18, .ref h19, .ref h20, .ref h21]))]) [0] [1] rfl rfl (by decide) (by decide) (fun H locs hB J hS => ?_)
  obtain ⟨hP1, hD1⟩ := hB
  obtain ⟨hP, hD⟩ := J _ hP1 hD1
  have hP : va_P D cl0 [(h1, .inr (8, [.int 2, .int 0, .int 1, .int 0, .int 0, .int 0, .ref h2, .ref h3, .int 0, .int 1, .ref h4, .ref h0, .ref h5, .ref h6, .ref h7, .ref h8, .ref h9, .int 0, .int 0, .int 0, .ref h10, .ref h11, .ref h12, .ref h13, .int 1, .int 1, .ref h14, .ref h15, .ref h16, .ref h17, .int 0, .int 0, .ref h18, .ref h19, .ref h20, .ref h21])), (h0, .inl (k 1, 9, .inr (.inl (tL [0, 0, 0, 0, 0, 0, 0, 0, 0] 0))))] H := hP
  have hD : va_D A [(h1, .inr (8, [.int 2, .int 0, .int 1, .int 0, .int 0, .int 0, .ref h2, .ref h3, .int 0, .int 1, .ref h4, .ref h0, .ref h5, .ref h6, .ref h7, .ref h8, .ref h9, .int 0, .int 0, .int 0, .ref h10, .ref h11, .ref h12, .ref h13, .int 1, .int 1, .ref h14, .ref h15, .ref h16, .ref h17, .int 0, .int 0, .ref h18, .ref h19, .ref h20, .ref h21])), (h0, .inl (k 1, 9, .inr (.inl (tL [0, 0, 0, 0, 0, 0, 0, 0, 0] 0))))] := hD
  refine lv_iconst (v := 0) hx hb dX11_first_5 (by decide) ?_
  refine lv_istore_n (lv' := [(2, .int 0), (0, .ref h1), (1, .ref h0)]) hx hb dX11_first_6 rfl hl (by decide) rfl (fun ls hl => ?_)
  refine lv_iload_n hx hb dX11_first_7 rfl (lv_at hl 0 rfl) ?_
  refine lv_aload_n hx hb dX11_first_8 rfl (lv_at hl 1 rfl) ?_
  refine va_get (D := D) (ci := 8) (v := .int 2) (C := RX11) (T := TX11) (N := 36) hx hb hU iX11 hown hK.1 hP 0 rfl rfl 0 (by decide) (hU _ w785) (fun _ h9 => h9) rfl dX11_first_9 ?_
  refine lv_icmp_ge (tgt := 27) hx hb dX11_first_12 (by decide) (fun cc => absurd cc (by decide +kernel)) (fun _ => ?_)
  refine lv_aload_n hx hb dX11_first_15 rfl (lv_at hl 2 rfl) ?_
  refine lv_iconst (v := 4) hx hb dX11_first_16 (by decide) ?_
  refine lv_iload_n hx hb dX11_first_17 rfl (lv_at hl 0 rfl) ?_
  refine lv_imul hx hb dX11_first_18 (sv_i (v := 0) (by decide +kernel) ?_)
  refine lv_lconst (v := 1) hx hb dX11_first_19 (by decide) ?_
  refine st_l (j := 0) (g := tL [1, 0, 0, 0, 0, 0, 0, 0, 0] 0) hx hb hK hP hD hS 1 rfl (by decide +kernel) upd_tL dX11_first_20 (fun H locs hP hD hS => ?_)
  have hP : va_P D cl0 [(h1, .inr (8, [.int 2, .int 0, .int 1, .int 0, .int 0, .int 0, .ref h2, .ref h3, .int 0, .int 1, .ref h4, .ref h0, .ref h5, .ref h6, .ref h7, .ref h8, .ref h9, .int 0, .int 0, .int 0, .ref h10, .ref h11, .ref h12, .ref h13, .int 1, .int 1, .ref h14, .ref h15, .ref h16, .ref h17, .int 0, .int 0, .ref h18, .ref h19, .ref h20, .ref h21])), (h0, .inl (k 1, 9, .inr (.inl (tL [1, 0, 0, 0, 0, 0, 0, 0, 0] 0))))] H := hP
  have hD : va_D A [(h1, .inr (8, [.int 2, .int 0, .int 1, .int 0, .int 0, .int 0, .ref h2, .ref h3, .int 0, .int 1, .ref h4, .ref h0, .ref h5, .ref h6, .ref h7, .ref h8, .ref h9, .int 0, .int 0, .int 0, .ref h10, .ref h11, .ref h12, .ref h13, .int 1, .int 1, .ref h14, .ref h15, .ref h16, .ref h17, .int 0, .int 0, .ref h18, .ref h19, .ref h20, .ref h21])), (h0, .inl (k 1, 9, .inr (.inl (tL [1, 0, 0, 0, 0, 0, 0, 0, 0] 0))))] := hD
  refine lv_iinc (v := 1) (lv' := [(2, .int 1), (0, .ref h1), (1, .ref h0)]) hx hb dX11_first_21 hl (k := 0) rfl (by decide) (by decide) rfl (fun ls hl => ?_)
  refine lv_goto (tgt := 7) hx hb dX11_first_24 (by decide) ?_
  refine lv_iload_n hx hb dX11_first_7 rfl (lv_at hl 0 rfl) ?_
  refine lv_aload_n hx hb dX11_first_8 rfl (lv_at hl 1 rfl) ?_
  refine va_get (D := D) (ci := 8) (v := .int 2) (C := RX11) (T := TX11) (N := 36) hx hb hU iX11 hown hK.1 hP 0 rfl rfl 0 (by decide) (hU _ w785) (fun _ h9 => h9) rfl dX11_first_9 ?_
  refine lv_icmp_ge (tgt := 27) hx hb dX11_first_12 (by decide) (fun cc => absurd cc (by decide +kernel)) (fun _ => ?_)
  refine lv_aload_n hx hb dX11_first_15 rfl (lv_at hl 2 rfl) ?_
  refine lv_iconst (v := 4) hx hb dX11_first_16 (by decide) ?_
  refine lv_iload_n hx hb dX11_first_17 rfl (lv_at hl 0 rfl) ?_
  refine lv_imul hx hb dX11_first_18 (sv_i (v := 4) (by decide +kernel) ?_)
  refine lv_lconst (v := 1) hx hb dX11_first_19 (by decide) ?_
  refine st_l (j := 4) (g := tL [1, 0, 0, 0, 1, 0, 0, 0, 0] 0) hx hb hK hP hD hS 1 rfl (by decide +kernel) upd_tL dX11_first_20 (fun H locs hP hD hS => ?_)
  have hP : va_P D cl0 [(h1, .inr (8, [.int 2, .int 0, .int 1, .int 0, .int 0, .int 0, .ref h2, .ref h3, .int 0, .int 1, .ref h4, .ref h0, .ref h5, .ref h6, .ref h7, .ref h8, .ref h9, .int 0, .int 0, .int 0, .ref h10, .ref h11, .ref h12, .ref h13, .int 1, .int 1, .ref h14, .ref h15, .ref h16, .ref h17, .int 0, .int 0, .ref h18, .ref h19, .ref h20, .ref h21])), (h0, .inl (k 1, 9, .inr (.inl (tL [1, 0, 0, 0, 1, 0, 0, 0, 0] 0))))] H := hP
  have hD : va_D A [(h1, .inr (8, [.int 2, .int 0, .int 1, .int 0, .int 0, .int 0, .ref h2, .ref h3, .int 0, .int 1, .ref h4, .ref h0, .ref h5, .ref h6, .ref h7, .ref h8, .ref h9, .int 0, .int 0, .int 0, .ref h10, .ref h11, .ref h12, .ref h13, .int 1, .int 1, .ref h14, .ref h15, .ref h16, .ref h17, .int 0, .int 0, .ref h18, .ref h19, .ref h20, .ref h21])), (h0, .inl (k 1, 9, .inr (.inl (tL [1, 0, 0, 0, 1, 0, 0, 0, 0] 0))))] := hD
  refine lv_iinc (v := 2) (lv' := [(2, .int 2), (0, .ref h1), (1, .ref h0)]) hx hb dX11_first_21 hl (k := 0) rfl (by decide) (by decide) rfl (fun ls hl => ?_)
  refine lv_goto (tgt := 7) hx hb dX11_first_24 (by decide) ?_
  refine lv_iload_n hx hb dX11_first_7 rfl (lv_at hl 0 rfl) ?_
  refine lv_aload_n hx hb dX11_first_8 rfl (lv_at hl 1 rfl) ?_
  refine va_get (D := D) (ci := 8) (v := .int 2) (C := RX11) (T := TX11) (N := 36) hx hb hU iX11 hown hK.1 hP 0 rfl rfl 0 (by decide) (hU _ w785) (fun _ h9 => h9) rfl dX11_first_9 ?_
  refine lv_icmp_ge (tgt := 27) hx hb dX11_first_12 (by decide) (fun _ => ?_) (fun cc => absurd (by decide +kernel) cc)
  exact retV hx hb hr hlocks hS (⟨hP, hD⟩) dX11_first_27
abbrev BX11_placeOf_1 (D : va_G) (k : Nat → ClassId) (h0 h1 h2 h3 h4 h5 h6 h7 h8 h9 h10 h11 h12 h13 h14 h15 h16 h17 h18 h19 h20 h21 : Nat) (A : Nat → Prop) (r : Int32) (H : Heap) : Prop := 0 = r ∧ va_P D cl0 [(h0, .inr (8, [.int 2, .int 0, .int 1, .int 0, .int 0, .int 0, .ref h3, .ref h4, .int 0, .int 1, .ref h5, .ref h2, .ref h6, .ref h7, .ref h8, .ref h9, .ref h10, .int 0, .int 0, .int 0, .ref h1, .ref h11, .ref h12, .ref h13, .int 1, .int 1, .ref h14, .ref h15, .ref h16, .ref h17, .int 0, .int 0, .ref h18, .ref h19, .ref h20, .ref h21])), (h1, .inl (k 1, 900, .inr (.inl (tL [1, 0, 0, 0, 1, 0, 0, 0, 0] 0)))), (h2, .inl (k 1, 9, .inr (.inl (tL [1, 0, 0, 0, 1, 0, 0, 0, 0] 0))))] H ∧ va_D A [(h0, .inr (8, [.int 2, .int 0, .int 1, .int 0, .int 0, .int 0, .ref h3, .ref h4, .int 0, .int 1, .ref h5, .ref h2, .ref h6, .ref h7, .ref h8, .ref h9, .ref h10, .int 0, .int 0, .int 0, .ref h1, .ref h11, .ref h12, .ref h13, .int 1, .int 1, .ref h14, .ref h15, .ref h16, .ref h17, .int 0, .int 0, .ref h18, .ref h19, .ref h20, .ref h21])), (h1, .inl (k 1, 900, .inr (.inl (tL [1, 0, 0, 0, 1, 0, 0, 0, 0] 0)))), (h2, .inl (k 1, 9, .inr (.inl (tL [1, 0, 0, 0, 1, 0, 0, 0, 0] 0))))]
set_option maxHeartbeats 4000000 in
set_option maxRecDepth 100000 in
theorem cX11_placeOf_1 (l : Launch) (D : va_G) (k : Nat → ClassId) (sz : Nat) (h0 h1 h2 h3 h4 h5 h6 h7 h8 h9 h10 h11 h12 h13 h14 h15 h16 h17 h18 h19 h20 h21 : Nat) : Met l yX11_placeOf (Cond.code yX11_placeOf cX11_placeOf 5 (some .int) :: uw) ({ frames := 0, cells := 0, slots := 0, locals := 0 }) (pC D k sz [.ref h0, .ref h2] [(h0, .inr (8, [.int 2, .int 0, .int 1, .int 0, .int 0, .int 0, .ref h3, .ref h4, .int 0, .int 1, .ref h5, .ref h2, .ref h6, .ref h7, .ref h8, .ref h9, .ref h10, .int 0, .int 0, .int 0, .ref h1, .ref h11, .ref h12, .ref h13, .int 1, .int 1, .ref h14, .ref h15, .ref h16, .ref h17, .int 0, .int 0, .ref h18, .ref h19, .ref h20, .ref h21])), (h1, .inl (k 1, 900, .inr (.inl (tL [1, 0, 0, 0, 1, 0, 0, 0, 0] 0)))), (h2, .inl (k 1, 9, .inr (.inl (tL [1, 0, 0, 0, 1, 0, 0, 0, 0] 0))))]) (qI (BX11_placeOf_1 D k h0 h1 h2 h3 h4 h5 h6 h7 h8 h9 h10 h11 h12 h13 h14 h15 h16 h17 h18 h19 h20 h21 (va_A [(h0, .inr (8, [.int 2, .int 0, .int 1, .int 0, .int 0, .int 0, .ref h3, .ref h4, .int 0, .int 1, .ref h5, .ref h2, .ref h6, .ref h7, .ref h8, .ref h9, .ref h10, .int 0, .int 0, .int 0, .ref h1, .ref h11, .ref h12, .ref h13, .int 1, .int 1, .ref h14, .ref h15, .ref h16, .ref h17, .int 0, .int 0, .ref h18, .ref h19, .ref h20, .ref h21])), (h1, .inl (k 1, 900, .inr (.inl (tL [1, 0, 0, 0, 1, 0, 0, 0, 0] 0)))), (h2, .inl (k 1, 9, .inr (.inl (tL [1, 0, 0, 0, 1, 0, 0, 0, 0] 0))))] sz)) (va_A [(h0, .inr (8, [.int 2, .int 0, .int 1, .int 0, .int 0, .int 0, .ref h3, .ref h4, .int 0, .int 1, .ref h5, .ref h2, .ref h6, .ref h7, .ref h8, .ref h9, .ref h10, .int 0, .int 0, .int 0, .ref h1, .ref h11, .ref h12, .ref h13, .int 1, .int 1, .ref h14, .ref h15, .ref h16, .ref h17, .int 0, .int 0, .ref h18, .ref h19, .ref h20, .ref h21])), (h1, .inl (k 1, 900, .inr (.inl (tL [1, 0, 0, 0, 1, 0, 0, 0, 0] 0)))), (h2, .inl (k 1, 9, .inr (.inl (tL [1, 0, 0, 0, 1, 0, 0, 0, 0] 0))))] sz)) 0 0 (va_A [(h0, .inr (8, [.int 2, .int 0, .int 1, .int 0, .int 0, .int 0, .ref h3, .ref h4, .int 0, .int 1, .ref h5, .ref h2, .ref h6, .ref h7, .ref h8, .ref h9, .ref h10, .int 0, .int 0, .int 0, .ref h1, .ref h11, .ref h12, .ref h13, .int 1, .int 1, .ref h14, .ref h15, .ref h16, .ref h17, .int 0, .int 0, .ref h18, .ref h19, .ref h20, .ref h21])), (h1, .inl (k 1, 900, .inr (.inl (tL [1, 0, 0, 0, 1, 0, 0, 0, 0] 0)))), (h2, .inl (k 1, 9, .inr (.inl (tL [1, 0, 0, 0, 1, 0, 0, 0, 0] 0))))] sz) := by
  refine begin_ (Qc := fun A => qI (BX11_placeOf_1 D k h0 h1 h2 h3 h4 h5 h6 h7 h8 h9 h10 h11 h12 h13 h14 h15 h16 h17 h18 h19 h20 h21 A) A) (by decide) (Nat.le_of_ble_eq_true rfl) ?_
  intro p e s m below meth c ls A hx hb hr hml hown hlocks hin hU hK hsz hP hD hS hA hl
  have hl : lv_has ls 5 [(0, .ref h0), (1, .ref h2)] := hl
  clear hsz
  refine lv_iconst (v := 0) hx hb dX11_placeOf_0 (by decide) ?_
  refine lv_istore_n (lv' := [(2, .int 0), (0, .ref h0), (1, .ref h2)]) hx hb dX11_placeOf_1 rfl hl (by decide) rfl (fun ls hl => ?_)
  refine lv_iload_n hx hb dX11_placeOf_2 rfl (lv_at hl 0 rfl) ?_
  refine lv_aload_n hx hb dX11_placeOf_3 rfl (lv_at hl 1 rfl) ?_
  refine va_get (D := D) (ci := 8) (v := .int 1) (C := RX11) (T := TX11) (N := 36) hx hb hU iX11 hown hK.1 hP 0 rfl rfl 24 (by decide) (hU _ w809) (fun _ h9 => h9) rfl dX11_placeOf_4 ?_
  refine lv_icmp_ge (tgt := 70) hx hb dX11_placeOf_7 (by decide) (fun cc => absurd cc (by decide +kernel)) (fun _ => ?_)
  refine lv_iconst (v := 1) hx hb dX11_placeOf_10 (by decide) ?_
  refine lv_istore_n (lv' := [(3, .int 1), (2, .int 0), (0, .ref h0), (1, .ref h2)]) hx hb dX11_placeOf_11 rfl hl (by decide) rfl (fun ls hl => ?_)
  refine lv_iconst (v := 0) hx hb dX11_placeOf_12 (by decide) ?_
  refine lv_istore (lv' := [(4, .int 0), (3, .int 1), (2, .int 0), (0, .ref h0), (1, .ref h2)]) hx hb dX11_placeOf_13 hl (by decide) rfl (fun ls hl => ?_)
  refine lv_iload hx hb dX11_placeOf_15 (lv_at hl 0 rfl) ?_
  refine lv_bipush (v := 9) hx hb dX11_placeOf_17 (by decide) ?_
  refine lv_icmp_ge (tgt := 58) hx hb dX11_placeOf_19 (by decide) (fun cc => absurd cc (by decide +kernel)) (fun _ => ?_)
  refine lv_iload_n hx hb dX11_placeOf_22 rfl (lv_at hl 1 rfl) ?_
  refine lv_if_eq (tgt := 58) hx hb dX11_placeOf_23 (by decide) (fun cc => absurd cc (by decide +kernel)) (fun _ => ?_)
  refine lv_aload_n hx hb dX11_placeOf_26 rfl (lv_at hl 3 rfl) ?_
  refine va_get (D := D) (ci := 8) (v := .ref h1) (C := RX11) (T := TX11) (N := 36) hx hb hU iX11 hown hK.1 hP 0 rfl rfl 20 (by decide) (hU _ w805) (fun _ h9 => h9) rfl dX11_placeOf_27 ?_
  refine lv_bipush (v := 9) hx hb dX11_placeOf_30 (by decide) ?_
  refine lv_iload_n hx hb dX11_placeOf_32 rfl (lv_at hl 2 rfl) ?_
  refine lv_imul hx hb dX11_placeOf_33 (sv_i (v := 0) (by decide +kernel) ?_)
  refine lv_iload hx hb dX11_placeOf_34 (lv_at hl 0 rfl) ?_
  refine lv_iadd hx hb dX11_placeOf_36 (sv_i (v := 0) (by decide +kernel) ?_)
  refine ld_l (j := 0) (v := 1) hx hb hK hP 1 rfl (by decide +kernel) rfl dX11_placeOf_37 ?_
  refine lv_aload_n hx hb dX11_placeOf_38 rfl (lv_at hl 4 rfl) ?_
  refine lv_iload hx hb dX11_placeOf_39 (lv_at hl 0 rfl) ?_
  refine ld_l (j := 0) (v := 1) hx hb hK hP 2 rfl (by decide +kernel) rfl dX11_placeOf_41 ?_
  refine W.lcmp hx hb dX11_placeOf_42 (sv_i (v := 0) (by decide +kernel) ?_)
  refine lv_if_ne (tgt := 50) hx hb dX11_placeOf_43 (by decide) (fun cc => absurd (by decide +kernel) cc) (fun _ => ?_)
  refine lv_iconst (v := 1) hx hb dX11_placeOf_46 (by decide) ?_
  refine lv_goto (tgt := 51) hx hb dX11_placeOf_47 (by decide) ?_
  refine lv_istore_n (lv' := [(3, .int 1), (4, .int 0), (2, .int 0), (0, .ref h0), (1, .ref h2)]) hx hb dX11_placeOf_51 rfl hl (by decide) rfl (fun ls hl => ?_)
  refine lv_iinc (v := 1) (lv' := [(4, .int 1), (3, .int 1), (2, .int 0), (0, .ref h0), (1, .ref h2)]) hx hb dX11_placeOf_52 hl (k := 1) rfl (by decide) (by decide) rfl (fun ls hl => ?_)
  refine lv_goto (tgt := 15) hx hb dX11_placeOf_55 (by decide) ?_
  refine lv_iload hx hb dX11_placeOf_15 (lv_at hl 0 rfl) ?_
  refine lv_bipush (v := 9) hx hb dX11_placeOf_17 (by decide) ?_
  refine lv_icmp_ge (tgt := 58) hx hb dX11_placeOf_19 (by decide) (fun cc => absurd cc (by decide +kernel)) (fun _ => ?_)
  refine lv_iload_n hx hb dX11_placeOf_22 rfl (lv_at hl 1 rfl) ?_
  refine lv_if_eq (tgt := 58) hx hb dX11_placeOf_23 (by decide) (fun cc => absurd cc (by decide +kernel)) (fun _ => ?_)
  refine lv_aload_n hx hb dX11_placeOf_26 rfl (lv_at hl 3 rfl) ?_
  refine va_get (D := D) (ci := 8) (v := .ref h1) (C := RX11) (T := TX11) (N := 36) hx hb hU iX11 hown hK.1 hP 0 rfl rfl 20 (by decide) (hU _ w805) (fun _ h9 => h9) rfl dX11_placeOf_27 ?_
  refine lv_bipush (v := 9) hx hb dX11_placeOf_30 (by decide) ?_
  refine lv_iload_n hx hb dX11_placeOf_32 rfl (lv_at hl 2 rfl) ?_
  refine lv_imul hx hb dX11_placeOf_33 (sv_i (v := 0) (by decide +kernel) ?_)
  refine lv_iload hx hb dX11_placeOf_34 (lv_at hl 0 rfl) ?_
  refine lv_iadd hx hb dX11_placeOf_36 (sv_i (v := 1) (by decide +kernel) ?_)
  refine ld_l (j := 1) (v := 0) hx hb hK hP 1 rfl (by decide +kernel) rfl dX11_placeOf_37 ?_
  refine lv_aload_n hx hb dX11_placeOf_38 rfl (lv_at hl 4 rfl) ?_
  refine lv_iload hx hb dX11_placeOf_39 (lv_at hl 0 rfl) ?_
  refine ld_l (j := 1) (v := 0) hx hb hK hP 2 rfl (by decide +kernel) rfl dX11_placeOf_41 ?_
  refine W.lcmp hx hb dX11_placeOf_42 (sv_i (v := 0) (by decide +kernel) ?_)
  refine lv_if_ne (tgt := 50) hx hb dX11_placeOf_43 (by decide) (fun cc => absurd (by decide +kernel) cc) (fun _ => ?_)
  refine lv_iconst (v := 1) hx hb dX11_placeOf_46 (by decide) ?_
  refine lv_goto (tgt := 51) hx hb dX11_placeOf_47 (by decide) ?_
  refine lv_istore_n (lv' := [(3, .int 1), (4, .int 1), (2, .int 0), (0, .ref h0), (1, .ref h2)]) hx hb dX11_placeOf_51 rfl hl (by decide) rfl (fun ls hl => ?_)
  refine lv_iinc (v := 2) (lv' := [(4, .int 2), (3, .int 1), (2, .int 0), (0, .ref h0), (1, .ref h2)]) hx hb dX11_placeOf_52 hl (k := 1) rfl (by decide) (by decide) rfl (fun ls hl => ?_)
  refine lv_goto (tgt := 15) hx hb dX11_placeOf_55 (by decide) ?_
  refine lv_iload hx hb dX11_placeOf_15 (lv_at hl 0 rfl) ?_
  refine lv_bipush (v := 9) hx hb dX11_placeOf_17 (by decide) ?_
  refine lv_icmp_ge (tgt := 58) hx hb dX11_placeOf_19 (by decide) (fun cc => absurd cc (by decide +kernel)) (fun _ => ?_)
  refine lv_iload_n hx hb dX11_placeOf_22 rfl (lv_at hl 1 rfl) ?_
  refine lv_if_eq (tgt := 58) hx hb dX11_placeOf_23 (by decide) (fun cc => absurd cc (by decide +kernel)) (fun _ => ?_)
  refine lv_aload_n hx hb dX11_placeOf_26 rfl (lv_at hl 3 rfl) ?_
  refine va_get (D := D) (ci := 8) (v := .ref h1) (C := RX11) (T := TX11) (N := 36) hx hb hU iX11 hown hK.1 hP 0 rfl rfl 20 (by decide) (hU _ w805) (fun _ h9 => h9) rfl dX11_placeOf_27 ?_
  refine lv_bipush (v := 9) hx hb dX11_placeOf_30 (by decide) ?_
  refine lv_iload_n hx hb dX11_placeOf_32 rfl (lv_at hl 2 rfl) ?_
  refine lv_imul hx hb dX11_placeOf_33 (sv_i (v := 0) (by decide +kernel) ?_)
  refine lv_iload hx hb dX11_placeOf_34 (lv_at hl 0 rfl) ?_
  refine lv_iadd hx hb dX11_placeOf_36 (sv_i (v := 2) (by decide +kernel) ?_)
  refine ld_l (j := 2) (v := 0) hx hb hK hP 1 rfl (by decide +kernel) rfl dX11_placeOf_37 ?_
  refine lv_aload_n hx hb dX11_placeOf_38 rfl (lv_at hl 4 rfl) ?_
  refine lv_iload hx hb dX11_placeOf_39 (lv_at hl 0 rfl) ?_
  refine ld_l (j := 2) (v := 0) hx hb hK hP 2 rfl (by decide +kernel) rfl dX11_placeOf_41 ?_
  refine W.lcmp hx hb dX11_placeOf_42 (sv_i (v := 0) (by decide +kernel) ?_)
  refine lv_if_ne (tgt := 50) hx hb dX11_placeOf_43 (by decide) (fun cc => absurd (by decide +kernel) cc) (fun _ => ?_)
  refine lv_iconst (v := 1) hx hb dX11_placeOf_46 (by decide) ?_
  refine lv_goto (tgt := 51) hx hb dX11_placeOf_47 (by decide) ?_
  refine lv_istore_n (lv' := [(3, .int 1), (4, .int 2), (2, .int 0), (0, .ref h0), (1, .ref h2)]) hx hb dX11_placeOf_51 rfl hl (by decide) rfl (fun ls hl => ?_)
  refine lv_iinc (v := 3) (lv' := [(4, .int 3), (3, .int 1), (2, .int 0), (0, .ref h0), (1, .ref h2)]) hx hb dX11_placeOf_52 hl (k := 1) rfl (by decide) (by decide) rfl (fun ls hl => ?_)
  refine lv_goto (tgt := 15) hx hb dX11_placeOf_55 (by decide) ?_
  refine lv_iload hx hb dX11_placeOf_15 (lv_at hl 0 rfl) ?_
  refine lv_bipush (v := 9) hx hb dX11_placeOf_17 (by decide) ?_
  refine lv_icmp_ge (tgt := 58) hx hb dX11_placeOf_19 (by decide) (fun cc => absurd cc (by decide +kernel)) (fun _ => ?_)
  refine lv_iload_n hx hb dX11_placeOf_22 rfl (lv_at hl 1 rfl) ?_
  refine lv_if_eq (tgt := 58) hx hb dX11_placeOf_23 (by decide) (fun cc => absurd cc (by decide +kernel)) (fun _ => ?_)
  refine lv_aload_n hx hb dX11_placeOf_26 rfl (lv_at hl 3 rfl) ?_
  refine va_get (D := D) (ci := 8) (v := .ref h1) (C := RX11) (T := TX11) (N := 36) hx hb hU iX11 hown hK.1 hP 0 rfl rfl 20 (by decide) (hU _ w805) (fun _ h9 => h9) rfl dX11_placeOf_27 ?_
  refine lv_bipush (v := 9) hx hb dX11_placeOf_30 (by decide) ?_
  refine lv_iload_n hx hb dX11_placeOf_32 rfl (lv_at hl 2 rfl) ?_
  refine lv_imul hx hb dX11_placeOf_33 (sv_i (v := 0) (by decide +kernel) ?_)
  refine lv_iload hx hb dX11_placeOf_34 (lv_at hl 0 rfl) ?_
  refine lv_iadd hx hb dX11_placeOf_36 (sv_i (v := 3) (by decide +kernel) ?_)
  refine ld_l (j := 3) (v := 0) hx hb hK hP 1 rfl (by decide +kernel) rfl dX11_placeOf_37 ?_
  refine lv_aload_n hx hb dX11_placeOf_38 rfl (lv_at hl 4 rfl) ?_
  refine lv_iload hx hb dX11_placeOf_39 (lv_at hl 0 rfl) ?_
  refine ld_l (j := 3) (v := 0) hx hb hK hP 2 rfl (by decide +kernel) rfl dX11_placeOf_41 ?_
  refine W.lcmp hx hb dX11_placeOf_42 (sv_i (v := 0) (by decide +kernel) ?_)
  refine lv_if_ne (tgt := 50) hx hb dX11_placeOf_43 (by decide) (fun cc => absurd (by decide +kernel) cc) (fun _ => ?_)
  refine lv_iconst (v := 1) hx hb dX11_placeOf_46 (by decide) ?_
  refine lv_goto (tgt := 51) hx hb dX11_placeOf_47 (by decide) ?_
  refine lv_istore_n (lv' := [(3, .int 1), (4, .int 3), (2, .int 0), (0, .ref h0), (1, .ref h2)]) hx hb dX11_placeOf_51 rfl hl (by decide) rfl (fun ls hl => ?_)
  refine lv_iinc (v := 4) (lv' := [(4, .int 4), (3, .int 1), (2, .int 0), (0, .ref h0), (1, .ref h2)]) hx hb dX11_placeOf_52 hl (k := 1) rfl (by decide) (by decide) rfl (fun ls hl => ?_)
  refine lv_goto (tgt := 15) hx hb dX11_placeOf_55 (by decide) ?_
  refine lv_iload hx hb dX11_placeOf_15 (lv_at hl 0 rfl) ?_
  refine lv_bipush (v := 9) hx hb dX11_placeOf_17 (by decide) ?_
  refine lv_icmp_ge (tgt := 58) hx hb dX11_placeOf_19 (by decide) (fun cc => absurd cc (by decide +kernel)) (fun _ => ?_)
  refine lv_iload_n hx hb dX11_placeOf_22 rfl (lv_at hl 1 rfl) ?_
  refine lv_if_eq (tgt := 58) hx hb dX11_placeOf_23 (by decide) (fun cc => absurd cc (by decide +kernel)) (fun _ => ?_)
  refine lv_aload_n hx hb dX11_placeOf_26 rfl (lv_at hl 3 rfl) ?_
  refine va_get (D := D) (ci := 8) (v := .ref h1) (C := RX11) (T := TX11) (N := 36) hx hb hU iX11 hown hK.1 hP 0 rfl rfl 20 (by decide) (hU _ w805) (fun _ h9 => h9) rfl dX11_placeOf_27 ?_
  refine lv_bipush (v := 9) hx hb dX11_placeOf_30 (by decide) ?_
  refine lv_iload_n hx hb dX11_placeOf_32 rfl (lv_at hl 2 rfl) ?_
  refine lv_imul hx hb dX11_placeOf_33 (sv_i (v := 0) (by decide +kernel) ?_)
  refine lv_iload hx hb dX11_placeOf_34 (lv_at hl 0 rfl) ?_
  refine lv_iadd hx hb dX11_placeOf_36 (sv_i (v := 4) (by decide +kernel) ?_)
  refine ld_l (j := 4) (v := 1) hx hb hK hP 1 rfl (by decide +kernel) rfl dX11_placeOf_37 ?_
  refine lv_aload_n hx hb dX11_placeOf_38 rfl (lv_at hl 4 rfl) ?_
  refine lv_iload hx hb dX11_placeOf_39 (lv_at hl 0 rfl) ?_
  refine ld_l (j := 4) (v := 1) hx hb hK hP 2 rfl (by decide +kernel) rfl dX11_placeOf_41 ?_
  refine W.lcmp hx hb dX11_placeOf_42 (sv_i (v := 0) (by decide +kernel) ?_)
  refine lv_if_ne (tgt := 50) hx hb dX11_placeOf_43 (by decide) (fun cc => absurd (by decide +kernel) cc) (fun _ => ?_)
  refine lv_iconst (v := 1) hx hb dX11_placeOf_46 (by decide) ?_
  refine lv_goto (tgt := 51) hx hb dX11_placeOf_47 (by decide) ?_
  refine lv_istore_n (lv' := [(3, .int 1), (4, .int 4), (2, .int 0), (0, .ref h0), (1, .ref h2)]) hx hb dX11_placeOf_51 rfl hl (by decide) rfl (fun ls hl => ?_)
  refine lv_iinc (v := 5) (lv' := [(4, .int 5), (3, .int 1), (2, .int 0), (0, .ref h0), (1, .ref h2)]) hx hb dX11_placeOf_52 hl (k := 1) rfl (by decide) (by decide) rfl (fun ls hl => ?_)
  refine lv_goto (tgt := 15) hx hb dX11_placeOf_55 (by decide) ?_
  refine lv_iload hx hb dX11_placeOf_15 (lv_at hl 0 rfl) ?_
  refine lv_bipush (v := 9) hx hb dX11_placeOf_17 (by decide) ?_
  refine lv_icmp_ge (tgt := 58) hx hb dX11_placeOf_19 (by decide) (fun cc => absurd cc (by decide +kernel)) (fun _ => ?_)
  refine lv_iload_n hx hb dX11_placeOf_22 rfl (lv_at hl 1 rfl) ?_
  refine lv_if_eq (tgt := 58) hx hb dX11_placeOf_23 (by decide) (fun cc => absurd cc (by decide +kernel)) (fun _ => ?_)
  refine lv_aload_n hx hb dX11_placeOf_26 rfl (lv_at hl 3 rfl) ?_
  refine va_get (D := D) (ci := 8) (v := .ref h1) (C := RX11) (T := TX11) (N := 36) hx hb hU iX11 hown hK.1 hP 0 rfl rfl 20 (by decide) (hU _ w805) (fun _ h9 => h9) rfl dX11_placeOf_27 ?_
  refine lv_bipush (v := 9) hx hb dX11_placeOf_30 (by decide) ?_
  refine lv_iload_n hx hb dX11_placeOf_32 rfl (lv_at hl 2 rfl) ?_
  refine lv_imul hx hb dX11_placeOf_33 (sv_i (v := 0) (by decide +kernel) ?_)
  refine lv_iload hx hb dX11_placeOf_34 (lv_at hl 0 rfl) ?_
  refine lv_iadd hx hb dX11_placeOf_36 (sv_i (v := 5) (by decide +kernel) ?_)
  refine ld_l (j := 5) (v := 0) hx hb hK hP 1 rfl (by decide +kernel) rfl dX11_placeOf_37 ?_
  refine lv_aload_n hx hb dX11_placeOf_38 rfl (lv_at hl 4 rfl) ?_
  refine lv_iload hx hb dX11_placeOf_39 (lv_at hl 0 rfl) ?_
  refine ld_l (j := 5) (v := 0) hx hb hK hP 2 rfl (by decide +kernel) rfl dX11_placeOf_41 ?_
  refine W.lcmp hx hb dX11_placeOf_42 (sv_i (v := 0) (by decide +kernel) ?_)
  refine lv_if_ne (tgt := 50) hx hb dX11_placeOf_43 (by decide) (fun cc => absurd (by decide +kernel) cc) (fun _ => ?_)
  refine lv_iconst (v := 1) hx hb dX11_placeOf_46 (by decide) ?_
  refine lv_goto (tgt := 51) hx hb dX11_placeOf_47 (by decide) ?_
  refine lv_istore_n (lv' := [(3, .int 1), (4, .int 5), (2, .int 0), (0, .ref h0), (1, .ref h2)]) hx hb dX11_placeOf_51 rfl hl (by decide) rfl (fun ls hl => ?_)
  refine lv_iinc (v := 6) (lv' := [(4, .int 6), (3, .int 1), (2, .int 0), (0, .ref h0), (1, .ref h2)]) hx hb dX11_placeOf_52 hl (k := 1) rfl (by decide) (by decide) rfl (fun ls hl => ?_)
  refine lv_goto (tgt := 15) hx hb dX11_placeOf_55 (by decide) ?_
  refine lv_iload hx hb dX11_placeOf_15 (lv_at hl 0 rfl) ?_
  refine lv_bipush (v := 9) hx hb dX11_placeOf_17 (by decide) ?_
  refine lv_icmp_ge (tgt := 58) hx hb dX11_placeOf_19 (by decide) (fun cc => absurd cc (by decide +kernel)) (fun _ => ?_)
  refine lv_iload_n hx hb dX11_placeOf_22 rfl (lv_at hl 1 rfl) ?_
  refine lv_if_eq (tgt := 58) hx hb dX11_placeOf_23 (by decide) (fun cc => absurd cc (by decide +kernel)) (fun _ => ?_)
  refine lv_aload_n hx hb dX11_placeOf_26 rfl (lv_at hl 3 rfl) ?_
  refine va_get (D := D) (ci := 8) (v := .ref h1) (C := RX11) (T := TX11) (N := 36) hx hb hU iX11 hown hK.1 hP 0 rfl rfl 20 (by decide) (hU _ w805) (fun _ h9 => h9) rfl dX11_placeOf_27 ?_
  refine lv_bipush (v := 9) hx hb dX11_placeOf_30 (by decide) ?_
  refine lv_iload_n hx hb dX11_placeOf_32 rfl (lv_at hl 2 rfl) ?_
  refine lv_imul hx hb dX11_placeOf_33 (sv_i (v := 0) (by decide +kernel) ?_)
  refine lv_iload hx hb dX11_placeOf_34 (lv_at hl 0 rfl) ?_
  refine lv_iadd hx hb dX11_placeOf_36 (sv_i (v := 6) (by decide +kernel) ?_)
  refine ld_l (j := 6) (v := 0) hx hb hK hP 1 rfl (by decide +kernel) rfl dX11_placeOf_37 ?_
  refine lv_aload_n hx hb dX11_placeOf_38 rfl (lv_at hl 4 rfl) ?_
  refine lv_iload hx hb dX11_placeOf_39 (lv_at hl 0 rfl) ?_
  refine ld_l (j := 6) (v := 0) hx hb hK hP 2 rfl (by decide +kernel) rfl dX11_placeOf_41 ?_
  refine W.lcmp hx hb dX11_placeOf_42 (sv_i (v := 0) (by decide +kernel) ?_)
  refine lv_if_ne (tgt := 50) hx hb dX11_placeOf_43 (by decide) (fun cc => absurd (by decide +kernel) cc) (fun _ => ?_)
  refine lv_iconst (v := 1) hx hb dX11_placeOf_46 (by decide) ?_
  refine lv_goto (tgt := 51) hx hb dX11_placeOf_47 (by decide) ?_
  refine lv_istore_n (lv' := [(3, .int 1), (4, .int 6), (2, .int 0), (0, .ref h0), (1, .ref h2)]) hx hb dX11_placeOf_51 rfl hl (by decide) rfl (fun ls hl => ?_)
  refine lv_iinc (v := 7) (lv' := [(4, .int 7), (3, .int 1), (2, .int 0), (0, .ref h0), (1, .ref h2)]) hx hb dX11_placeOf_52 hl (k := 1) rfl (by decide) (by decide) rfl (fun ls hl => ?_)
  refine lv_goto (tgt := 15) hx hb dX11_placeOf_55 (by decide) ?_
  refine lv_iload hx hb dX11_placeOf_15 (lv_at hl 0 rfl) ?_
  refine lv_bipush (v := 9) hx hb dX11_placeOf_17 (by decide) ?_
  refine lv_icmp_ge (tgt := 58) hx hb dX11_placeOf_19 (by decide) (fun cc => absurd cc (by decide +kernel)) (fun _ => ?_)
  refine lv_iload_n hx hb dX11_placeOf_22 rfl (lv_at hl 1 rfl) ?_
  refine lv_if_eq (tgt := 58) hx hb dX11_placeOf_23 (by decide) (fun cc => absurd cc (by decide +kernel)) (fun _ => ?_)
  refine lv_aload_n hx hb dX11_placeOf_26 rfl (lv_at hl 3 rfl) ?_
  refine va_get (D := D) (ci := 8) (v := .ref h1) (C := RX11) (T := TX11) (N := 36) hx hb hU iX11 hown hK.1 hP 0 rfl rfl 20 (by decide) (hU _ w805) (fun _ h9 => h9) rfl dX11_placeOf_27 ?_
  refine lv_bipush (v := 9) hx hb dX11_placeOf_30 (by decide) ?_
  refine lv_iload_n hx hb dX11_placeOf_32 rfl (lv_at hl 2 rfl) ?_
  refine lv_imul hx hb dX11_placeOf_33 (sv_i (v := 0) (by decide +kernel) ?_)
  refine lv_iload hx hb dX11_placeOf_34 (lv_at hl 0 rfl) ?_
  refine lv_iadd hx hb dX11_placeOf_36 (sv_i (v := 7) (by decide +kernel) ?_)
  refine ld_l (j := 7) (v := 0) hx hb hK hP 1 rfl (by decide +kernel) rfl dX11_placeOf_37 ?_
  refine lv_aload_n hx hb dX11_placeOf_38 rfl (lv_at hl 4 rfl) ?_
  refine lv_iload hx hb dX11_placeOf_39 (lv_at hl 0 rfl) ?_
  refine ld_l (j := 7) (v := 0) hx hb hK hP 2 rfl (by decide +kernel) rfl dX11_placeOf_41 ?_
  refine W.lcmp hx hb dX11_placeOf_42 (sv_i (v := 0) (by decide +kernel) ?_)
  refine lv_if_ne (tgt := 50) hx hb dX11_placeOf_43 (by decide) (fun cc => absurd (by decide +kernel) cc) (fun _ => ?_)
  refine lv_iconst (v := 1) hx hb dX11_placeOf_46 (by decide) ?_
  refine lv_goto (tgt := 51) hx hb dX11_placeOf_47 (by decide) ?_
  refine lv_istore_n (lv' := [(3, .int 1), (4, .int 7), (2, .int 0), (0, .ref h0), (1, .ref h2)]) hx hb dX11_placeOf_51 rfl hl (by decide) rfl (fun ls hl => ?_)
  refine lv_iinc (v := 8) (lv' := [(4, .int 8), (3, .int 1), (2, .int 0), (0, .ref h0), (1, .ref h2)]) hx hb dX11_placeOf_52 hl (k := 1) rfl (by decide) (by decide) rfl (fun ls hl => ?_)
  refine lv_goto (tgt := 15) hx hb dX11_placeOf_55 (by decide) ?_
  refine lv_iload hx hb dX11_placeOf_15 (lv_at hl 0 rfl) ?_
  refine lv_bipush (v := 9) hx hb dX11_placeOf_17 (by decide) ?_
  refine lv_icmp_ge (tgt := 58) hx hb dX11_placeOf_19 (by decide) (fun cc => absurd cc (by decide +kernel)) (fun _ => ?_)
  refine lv_iload_n hx hb dX11_placeOf_22 rfl (lv_at hl 1 rfl) ?_
  refine lv_if_eq (tgt := 58) hx hb dX11_placeOf_23 (by decide) (fun cc => absurd cc (by decide +kernel)) (fun _ => ?_)
  refine lv_aload_n hx hb dX11_placeOf_26 rfl (lv_at hl 3 rfl) ?_
  refine va_get (D := D) (ci := 8) (v := .ref h1) (C := RX11) (T := TX11) (N := 36) hx hb hU iX11 hown hK.1 hP 0 rfl rfl 20 (by decide) (hU _ w805) (fun _ h9 => h9) rfl dX11_placeOf_27 ?_
  refine lv_bipush (v := 9) hx hb dX11_placeOf_30 (by decide) ?_
  refine lv_iload_n hx hb dX11_placeOf_32 rfl (lv_at hl 2 rfl) ?_
  refine lv_imul hx hb dX11_placeOf_33 (sv_i (v := 0) (by decide +kernel) ?_)
  refine lv_iload hx hb dX11_placeOf_34 (lv_at hl 0 rfl) ?_
  refine lv_iadd hx hb dX11_placeOf_36 (sv_i (v := 8) (by decide +kernel) ?_)
  refine ld_l (j := 8) (v := 0) hx hb hK hP 1 rfl (by decide +kernel) rfl dX11_placeOf_37 ?_
  refine lv_aload_n hx hb dX11_placeOf_38 rfl (lv_at hl 4 rfl) ?_
  refine lv_iload hx hb dX11_placeOf_39 (lv_at hl 0 rfl) ?_
  refine ld_l (j := 8) (v := 0) hx hb hK hP 2 rfl (by decide +kernel) rfl dX11_placeOf_41 ?_
  refine W.lcmp hx hb dX11_placeOf_42 (sv_i (v := 0) (by decide +kernel) ?_)
  refine lv_if_ne (tgt := 50) hx hb dX11_placeOf_43 (by decide) (fun cc => absurd (by decide +kernel) cc) (fun _ => ?_)
  refine lv_iconst (v := 1) hx hb dX11_placeOf_46 (by decide) ?_
  refine lv_goto (tgt := 51) hx hb dX11_placeOf_47 (by decide) ?_
  refine lv_istore_n (lv' := [(3, .int 1), (4, .int 8), (2, .int 0), (0, .ref h0), (1, .ref h2)]) hx hb dX11_placeOf_51 rfl hl (by decide) rfl (fun ls hl => ?_)
  refine lv_iinc (v := 9) (lv' := [(4, .int 9), (3, .int 1), (2, .int 0), (0, .ref h0), (1, .ref h2)]) hx hb dX11_placeOf_52 hl (k := 1) rfl (by decide) (by decide) rfl (fun ls hl => ?_)
  refine lv_goto (tgt := 15) hx hb dX11_placeOf_55 (by decide) ?_
  refine lv_iload hx hb dX11_placeOf_15 (lv_at hl 0 rfl) ?_
  refine lv_bipush (v := 9) hx hb dX11_placeOf_17 (by decide) ?_
  refine lv_icmp_ge (tgt := 58) hx hb dX11_placeOf_19 (by decide) (fun _ => ?_) (fun cc => absurd (by decide +kernel) cc)
  refine lv_iload_n hx hb dX11_placeOf_58 rfl (lv_at hl 1 rfl) ?_
  refine lv_if_eq (tgt := 64) hx hb dX11_placeOf_59 (by decide) (fun cc => absurd cc (by decide +kernel)) (fun _ => ?_)
  refine lv_iload_n hx hb dX11_placeOf_62 rfl (lv_at hl 2 rfl) ?_
  exact retI (v := 0) hx hb hr hlocks hS (⟨rfl, hP, hD⟩) dX11_placeOf_63
abbrev BX11_in_11 (D : va_G) (k : Nat → ClassId) (x0 : Int64) (A : Nat → Prop) (r : Int32) (H : Heap) : Prop := (x0 < 1 ∧ 0 = r ∧ va_P D cl0 [] H ∧ va_D A []) ∨ (¬ (x0 < 1) ∧ 0 < x0 ∧ 0 = r ∧ va_P D cl0 [] H ∧ va_D A [])
set_option maxHeartbeats 4000000 in
set_option maxRecDepth 100000 in
theorem cX11_in_11 (l : Launch) (D : va_G) (k : Nat → ClassId) (sz : Nat) (x0 : Int64) : Met l yX11_in (Cond.code yX11_in cX11_in 6 (some .boolean) :: uw) ({ frames := 0, cells := 0, slots := 0, locals := 0 }) (pC D k sz [.long x0, .long 1, .long 0] []) (qI (BX11_in_11 D k x0 (va_A [] sz)) (va_A [] sz)) 0 0 (va_A [] sz) := by
  refine begin_ (Qc := fun A => qI (BX11_in_11 D k x0 A) A) (by decide) (Nat.le_of_ble_eq_true rfl) ?_
  intro p e s m below meth c ls A hx hb hr hml hown hlocks hin hU hK hsz hP hD hS hA hl
  have hl : lv_has ls 6 [(0, .long x0), (2, .long 1), (4, .long 0)] := hl
  clear hsz
  refine lv_lload_n hx hb dX11_in_0 rfl (lv_at hl 0 rfl) ?_
  refine lv_lload_n hx hb dX11_in_1 rfl (lv_at hl 1 rfl) ?_
  refine W.lcmp hx hb dX11_in_2 ?_
  refine lv_if_lt (tgt := 17) hx hb dX11_in_3 (by decide) (fun c_1 => ?_) (fun c_1 => ?_)
  · skip
    have c_1 := (lg_cmp_lt _ _).mp c_1
    refine lv_iconst (v := 0) hx hb dX11_in_17 (by decide) ?_
    exact retZ (v := 0) hx hb hr hlocks hS (Or.inl ⟨c_1, rfl, hP, hD⟩) dX11_in_18 (by decide +kernel)
  · skip
    have c_1 := fun h9 => c_1 ((lg_cmp_lt _ _).mpr h9)
    refine lv_lload_n hx hb dX11_in_6 rfl (lv_at hl 0 rfl) ?_
    refine lv_lload hx hb dX11_in_7 (lv_at hl 2 rfl) ?_
    refine W.lcmp hx hb dX11_in_9 ?_
    refine lv_if_gt (tgt := 17) hx hb dX11_in_10 (by decide) (fun c_2 => ?_) (fun c_2 => ?_)
    · skip
      have c_2 := (lg_cmp_gt _ _).mp c_2
      refine lv_iconst (v := 0) hx hb dX11_in_17 (by decide) ?_
      exact retZ (v := 0) hx hb hr hlocks hS (Or.inr (⟨c_1, c_2, rfl, hP, hD⟩)) dX11_in_18 (by decide +kernel)
    · skip
      have c_2 := fun h9 => c_2 ((lg_cmp_gt _ _).mpr h9)
      exfalso
      have f0 := dv_nlt (x := x0.toInt) (y := 1) c_1 rfl (by decide +kernel)
      have f1 := dv_nlt (x := 0) (y := x0.toInt) c_2 (by decide +kernel) rfl
      omega
abbrev BX11_found_1 (D : va_G) (k : Nat → ClassId) (a0 a4 a10 a11 a12 a13 a1 a2 a3 a5 a6 a7 a8 a9 a14 a15 a16 a17 a18 a19 a20 a21 : Nat) (x0 : Int32) (A : Nat → Prop) (r : Int32) (H : Heap) : Prop := r = F_found x0
set_option maxHeartbeats 4000000 in
set_option maxRecDepth 100000 in
theorem cX11_found_1 (l : Launch) (D : va_G) (k : Nat → ClassId) (sz : Nat) (a0 a4 a10 a11 a12 a13 a1 a2 a3 a5 a6 a7 a8 a9 a14 a15 a16 a17 a18 a19 a20 a21 : Nat) (x0 : Int32) : Met l yX11_found (Cond.code yX11_found cX11_found 7 (some .int) :: uw) ({ frames := 3, cells := 0, slots := 0, locals := 66 }) (pC D k sz [.ref a0, .int x0] [(a0, .inr (8, [.int 2, .int 0, .int 1, .int 0, .int 0, .int 0, .ref a1, .ref a2, .int 0, .int 0, .ref a3, .ref a4, .ref a5, .ref a6, .ref a7, .ref a8, .ref a9, .int 0, .int 0, .int 0, .ref a10, .ref a11, .ref a12, .ref a13, .int 0, .int 0, .ref a14, .ref a15, .ref a16, .ref a17, .int 0, .int 0, .ref a18, .ref a19, .ref a20, .ref a21])), (a4, .inl (k 1, 9, .inr (.inl (tL [] 0)))), (a10, .inl (k 1, 900, .inr (.inl (tL [] 0)))), (a11, .inl (k 0, 100, .inl (tI [] 0))), (a12, .inl (k 0, 100, .inl (tI [] 0))), (a13, .inl (k 0, 100, .inl (tI [] 0)))]) (qI (BX11_found_1 D k a0 a4 a10 a11 a12 a13 a1 a2 a3 a5 a6 a7 a8 a9 a14 a15 a16 a17 a18 a19 a20 a21 x0 (va_A [(a0, .inr (8, [.int 2, .int 0, .int 1, .int 0, .int 0, .int 0, .ref a1, .ref a2, .int 0, .int 0, .ref a3, .ref a4, .ref a5, .ref a6, .ref a7, .ref a8, .ref a9, .int 0, .int 0, .int 0, .ref a10, .ref a11, .ref a12, .ref a13, .int 0, .int 0, .ref a14, .ref a15, .ref a16, .ref a17, .int 0, .int 0, .ref a18, .ref a19, .ref a20, .ref a21])), (a4, .inl (k 1, 9, .inr (.inl (tL [] 0)))), (a10, .inl (k 1, 900, .inr (.inl (tL [] 0)))), (a11, .inl (k 0, 100, .inl (tI [] 0))), (a12, .inl (k 0, 100, .inl (tI [] 0))), (a13, .inl (k 0, 100, .inl (tI [] 0)))] sz)) (va_A [(a0, .inr (8, [.int 2, .int 0, .int 1, .int 0, .int 0, .int 0, .ref a1, .ref a2, .int 0, .int 0, .ref a3, .ref a4, .ref a5, .ref a6, .ref a7, .ref a8, .ref a9, .int 0, .int 0, .int 0, .ref a10, .ref a11, .ref a12, .ref a13, .int 0, .int 0, .ref a14, .ref a15, .ref a16, .ref a17, .int 0, .int 0, .ref a18, .ref a19, .ref a20, .ref a21])), (a4, .inl (k 1, 9, .inr (.inl (tL [] 0)))), (a10, .inl (k 1, 900, .inr (.inl (tL [] 0)))), (a11, .inl (k 0, 100, .inl (tI [] 0))), (a12, .inl (k 0, 100, .inl (tI [] 0))), (a13, .inl (k 0, 100, .inl (tI [] 0)))] sz)) 0 0 (va_A [(a0, .inr (8, [.int 2, .int 0, .int 1, .int 0, .int 0, .int 0, .ref a1, .ref a2, .int 0, .int 0, .ref a3, .ref a4, .ref a5, .ref a6, .ref a7, .ref a8, .ref a9, .int 0, .int 0, .int 0, .ref a10, .ref a11, .ref a12, .ref a13, .int 0, .int 0, .ref a14, .ref a15, .ref a16, .ref a17, .int 0, .int 0, .ref a18, .ref a19, .ref a20, .ref a21])), (a4, .inl (k 1, 9, .inr (.inl (tL [] 0)))), (a10, .inl (k 1, 900, .inr (.inl (tL [] 0)))), (a11, .inl (k 0, 100, .inl (tI [] 0))), (a12, .inl (k 0, 100, .inl (tI [] 0))), (a13, .inl (k 0, 100, .inl (tI [] 0)))] sz) := by
  refine begin_ (Qc := fun A => qI (BX11_found_1 D k a0 a4 a10 a11 a12 a13 a1 a2 a3 a5 a6 a7 a8 a9 a14 a15 a16 a17 a18 a19 a20 a21 x0 A) A) (by decide) (Nat.le_of_ble_eq_true rfl) ?_
  intro p e s m below meth c ls A hx hb hr hml hown hlocks hin hU hK hsz hP hD hS hA hl
  have hl : lv_has ls 7 [(0, .ref a0), (1, .int x0)] := hl
  clear hsz
  refine lv_iconst (v := 0) hx hb dX11_found_0 (by decide) ?_
  refine lv_istore_n (lv' := [(2, .int 0), (0, .ref a0), (1, .int x0)]) hx hb dX11_found_1 rfl hl (by decide) rfl (fun ls hl => ?_)
  refine lv_iload_n hx hb dX11_found_2 rfl (lv_at hl 2 rfl) ?_
  refine lv_if_lt (tgt := 10) hx hb dX11_found_3 (by decide) (fun c_1 => ?_) (fun c_1 => ?_)
  · skip
    refine lv_iconst (v := 0) hx hb dX11_found_10 (by decide) ?_
    refine lv_istore_n (lv' := [(3, .int 0), (2, .int 0), (0, .ref a0), (1, .int x0)]) hx hb dX11_found_11 rfl hl (by decide) rfl (fun ls hl => ?_)
    refine lv_iload_n hx hb dX11_found_12 rfl (lv_at hl 3 rfl) ?_
    refine lv_istore (lv' := [(4, .int x0), (3, .int 0), (2, .int 0), (0, .ref a0), (1, .int x0)]) hx hb dX11_found_13 hl (by decide) rfl (fun ls hl => ?_)
    refine lv_iload hx hb dX11_found_15 (lv_at hl 0 rfl) ?_
    refine lv_if_le (tgt := 61) hx hb dX11_found_17 (by decide) (fun c_2 => ?_) (fun c_2 => ?_)
    · skip
      refine lv_iload_n hx hb dX11_found_61 rfl (lv_at hl 1 rfl) ?_
      refine lv_if_eq (tgt := 71) hx hb dX11_found_62 (by decide) (fun _ => ?_) (fun cc => absurd (by decide +kernel) cc)
      refine lv_iconst (v := (-1)) hx hb dX11_found_71 (by decide) ?_
      exact retI (v := (-1)) hx hb hr hlocks hS (show ((-1) : Int32) = F_found x0 by first | decide +kernel | (have f0 := cv_lt (x := x0.toInt) (y := 0) c_1 rfl (by decide +kernel); have f1 := cv_le (x := x0.toInt) (y := 0) c_2 rfl (by decide +kernel); unfold F_found; (repeat (first | rw [if_pos (by omega)] | rw [if_neg (by omega)])))) dX11_found_72
    · skip
      exfalso
      have f0 := cv_lt (x := x0.toInt) (y := 0) c_1 rfl (by decide +kernel)
      have f1 := cv_nle (x := x0.toInt) (y := 0) c_2 rfl (by decide +kernel)
      omega
  · skip
    refine lv_iconst (v := 1) hx hb dX11_found_6 (by decide) ?_
    refine lv_goto (tgt := 11) hx hb dX11_found_7 (by decide) ?_
    refine lv_istore_n (lv' := [(3, .int 1), (2, .int 0), (0, .ref a0), (1, .int x0)]) hx hb dX11_found_11 rfl hl (by decide) rfl (fun ls hl => ?_)
    refine lv_iload_n hx hb dX11_found_12 rfl (lv_at hl 3 rfl) ?_
    refine lv_istore (lv' := [(4, .int x0), (3, .int 1), (2, .int 0), (0, .ref a0), (1, .int x0)]) hx hb dX11_found_13 hl (by decide) rfl (fun ls hl => ?_)
    refine lv_iload hx hb dX11_found_15 (lv_at hl 0 rfl) ?_
    refine lv_if_le (tgt := 61) hx hb dX11_found_17 (by decide) (fun c_3 => ?_) (fun c_3 => ?_)
    · skip
      refine lv_iload_n hx hb dX11_found_61 rfl (lv_at hl 1 rfl) ?_
      refine lv_if_eq (tgt := 71) hx hb dX11_found_62 (by decide) (fun cc => absurd cc (by decide +kernel)) (fun _ => ?_)
      refine lv_iload_n hx hb dX11_found_65 rfl (lv_at hl 2 rfl) ?_
      refine lv_bipush (v := 9) hx hb dX11_found_66 (by decide) ?_
      refine lv_icmp_le (tgt := 73) hx hb dX11_found_68 (by decide) (fun _ => ?_) (fun cc => absurd (by decide +kernel) cc)
      refine lv_aload_n hx hb dX11_found_73 rfl (lv_at hl 3 rfl) ?_
      refine cV (rV (q0 := 0) (ci := 8) (As := []) (rest := []) (wc := [(a0, .inr (8, [.int 2, .int 0, .int 1, .int 0, .int 0, .int 0, .ref a1, .ref a2, .int 0, .int 0, .ref a3, .ref a4, .ref a5, .ref a6, .ref a7, .ref a8, .ref a9, .int 0, .int 0, .int 0, .ref a10, .ref a11, .ref a12, .ref a13, .int 0, .int 0, .ref a14, .ref a15, .ref a16, .ref a17, .int 0, .int 0, .ref a18, .ref a19, .ref a20, .ref a21])), (a4, .inl (k 1, 9, .inr (.inl (tL [] 0)))), (a10, .inl (k 1, 900, .inr (.inl (tL [] 0)))), (a11, .inl (k 0, 100, .inl (tI [] 0))), (a12, .inl (k 0, 100, .inl (tI [] 0))), (a13, .inl (k 0, 100, .inl (tI [] 0)))]) hx hb hml hown hU hK hP hD rfl rfl [0, 1, 2, 3, 4, 5] rfl (by decide) (cX11_findList_1 l D k _ a0 a4 a10 a11 a12 a13 a1 a2 a3 a5 a6 a7 a8 a9 a14 a15 a16 a17 a18 a19 a20 a21) w1039 w1036 w1038 w47 w72 hdX11_findList ⟨rfl, rfl⟩ ⟨Nat.le_of_ble_eq_true rfl, Nat.le_of_ble_eq_true rfl⟩ rfl hl.1 (Nat.le_of_ble_eq_true rfl) dX11_found_74 ⟨Nat.le_of_ble_eq_true rfl, Nat.le_of_ble_eq_true rfl⟩) hP hD hS hA (wr := []) [0, 1, 2, 3, 4, 5] [] rfl rfl (by decide) (by decide) (fun H locs hB J hS => ?_)
      obtain ⟨hP1, hD1⟩ := hB
      obtain ⟨hP, hD⟩ := J _ hP1 hD1
      have hP : va_P D cl0 [(a0, .inr (8, [.int 2, .int 0, .int 1, .int 0, .int 0, .int 0, .ref a1, .ref a2, .int 0, .int 1, .ref a3, .ref a4, .ref a5, .ref a6, .ref a7, .ref a8, .ref a9, .int 0, .int 0, .int 0, .ref a10, .ref a11, .ref a12, .ref a13, .int 1, .int 1, .ref a14, .ref a15, .ref a16, .ref a17, .int 0, .int 0, .ref a18, .ref a19, .ref a20, .ref a21])), (a4, .inl (k 1, 9, .inr (.inl (tL [1, 0, 0, 0, 1, 0, 0, 0, 0] 0)))), (a10, .inl (k 1, 900, .inr (.inl (tL [1, 0, 0, 0, 1, 0, 0, 0, 0] 0)))), (a11, .inl (k 0, 100, .inl (tI [(-3)] 0))), (a12, .inl (k 0, 100, .inl (tI [(-3)] 0))), (a13, .inl (k 0, 100, .inl (tI [0] 0)))] H := hP
      have hD : va_D A [(a0, .inr (8, [.int 2, .int 0, .int 1, .int 0, .int 0, .int 0, .ref a1, .ref a2, .int 0, .int 1, .ref a3, .ref a4, .ref a5, .ref a6, .ref a7, .ref a8, .ref a9, .int 0, .int 0, .int 0, .ref a10, .ref a11, .ref a12, .ref a13, .int 1, .int 1, .ref a14, .ref a15, .ref a16, .ref a17, .int 0, .int 0, .ref a18, .ref a19, .ref a20, .ref a21])), (a4, .inl (k 1, 9, .inr (.inl (tL [1, 0, 0, 0, 1, 0, 0, 0, 0] 0)))), (a10, .inl (k 1, 900, .inr (.inl (tL [1, 0, 0, 0, 1, 0, 0, 0, 0] 0)))), (a11, .inl (k 0, 100, .inl (tI [(-3)] 0))), (a12, .inl (k 0, 100, .inl (tI [(-3)] 0))), (a13, .inl (k 0, 100, .inl (tI [0] 0)))] := hD
      refine lv_aload_n hx hb dX11_found_77 rfl (lv_at hl 3 rfl) ?_
      refine lv_aload_n hx hb dX11_found_78 rfl (lv_at hl 3 rfl) ?_
      refine va_get (D := D) (ci := 8) (v := .ref a4) (C := RX11) (T := TX11) (N := 36) hx hb hU iX11 hown hK.1 hP 0 rfl rfl 11 (by decide) (hU _ w796) (fun _ h9 => h9) rfl dX11_found_79 ?_
      refine cV (rV (q0 := 0) (ci := 8) (As := [.ref a4]) (rest := []) (wc := [(a4, .inl (k 1, 9, .inr (.inl (tL [1, 0, 0, 0, 1, 0, 0, 0, 0] 0)))), (a0, .inr (8, [.int 2, .int 0, .int 1, .int 0, .int 0, .int 0, .ref a1, .ref a2, .int 0, .int 1, .ref a3, .ref a4, .ref a5, .ref a6, .ref a7, .ref a8, .ref a9, .int 0, .int 0, .int 0, .ref a10, .ref a11, .ref a12, .ref a13, .int 1, .int 1, .ref a14, .ref a15, .ref a16, .ref a17, .int 0, .int 0, .ref a18, .ref a19, .ref a20, .ref a21]))]) hx hb hml hown hU hK hP hD rfl rfl [1, 0] rfl (by decide) (cX11_first_9 l D k _ a4 a0 a1 a2 a3 a5 a6 a7 a8 a9 a10 a11 a12 a13 a14 a15 a16 a17 a18 a19 a20 a21) w919 w916 w918 w28 w72 hdX11_first ⟨rfl, rfl⟩ ⟨Nat.le_of_ble_eq_true rfl, Nat.le_of_ble_eq_true rfl⟩ rfl hl.1 (Nat.le_of_ble_eq_true rfl) dX11_found_82 ⟨Nat.le_of_ble_eq_true rfl, Nat.le_of_ble_eq_true rfl⟩) hP hD hS hA (wr := [(a10, .inl (k 1, 900, .inr (.inl (tL [1, 0, 0, 0, 1, 0, 0, 0, 0] 0)))), (a11, .inl (k 0, 100, .inl (tI [(-3)] 0))), (a12, .inl (k 0, 100, .inl (tI [(-3)] 0))), (a13, .inl (k 0, 100, .inl (tI [0] 0)))]) [1, 0] [2, 3, 4, 5] rfl rfl (by decide) (by decide) (fun H locs hB J hS => ?_)
      obtain ⟨hP1, hD1⟩ := hB
      obtain ⟨hP, hD⟩ := J _ hP1 hD1
      have hP : va_P D cl0 [(a10, .inl (k 1, 900, .inr (.inl (tL [1, 0, 0, 0, 1, 0, 0, 0, 0] 0)))), (a11, .inl (k 0, 100, .inl (tI [(-3)] 0))), (a12, .inl (k 0, 100, .inl (tI [(-3)] 0))), (a13, .inl (k 0, 100, .inl (tI [0] 0))), (a0, .inr (8, [.int 2, .int 0, .int 1, .int 0, .int 0, .int 0, .ref a1, .ref a2, .int 0, .int 1, .ref a3, .ref a4, .ref a5, .ref a6, .ref a7, .ref a8, .ref a9, .int 0, .int 0, .int 0, .ref a10, .ref a11, .ref a12, .ref a13, .int 1, .int 1, .ref a14, .ref a15, .ref a16, .ref a17, .int 0, .int 0, .ref a18, .ref a19, .ref a20, .ref a21])), (a4, .inl (k 1, 9, .inr (.inl (tL [1, 0, 0, 0, 1, 0, 0, 0, 0] 0))))] H := hP
      have hD : va_D A [(a10, .inl (k 1, 900, .inr (.inl (tL [1, 0, 0, 0, 1, 0, 0, 0, 0] 0)))), (a11, .inl (k 0, 100, .inl (tI [(-3)] 0))), (a12, .inl (k 0, 100, .inl (tI [(-3)] 0))), (a13, .inl (k 0, 100, .inl (tI [0] 0))), (a0, .inr (8, [.int 2, .int 0, .int 1, .int 0, .int 0, .int 0, .ref a1, .ref a2, .int 0, .int 1, .ref a3, .ref a4, .ref a5, .ref a6, .ref a7, .ref a8, .ref a9, .int 0, .int 0, .int 0, .ref a10, .ref a11, .ref a12, .ref a13, .int 1, .int 1, .ref a14, .ref a15, .ref a16, .ref a17, .int 0, .int 0, .ref a18, .ref a19, .ref a20, .ref a21])), (a4, .inl (k 1, 9, .inr (.inl (tL [1, 0, 0, 0, 1, 0, 0, 0, 0] 0))))] := hD
      refine lv_iconst (v := 1) hx hb dX11_found_85 (by decide) ?_
      refine lv_istore (lv' := [(4, .int 1), (3, .int 1), (2, .int 0), (0, .ref a0), (1, .int x0)]) hx hb dX11_found_86 hl (by decide) rfl (fun ls hl => ?_)
      refine lv_iconst (v := 1) hx hb dX11_found_88 (by decide) ?_
      refine lv_istore (lv' := [(5, .int 1), (4, .int 1), (3, .int 1), (2, .int 0), (0, .ref a0), (1, .int x0)]) hx hb dX11_found_89 hl (by decide) rfl (fun ls hl => ?_)
      refine lv_iload hx hb dX11_found_91 (lv_at hl 0 rfl) ?_
      refine lv_iload_n hx hb dX11_found_93 rfl (lv_at hl 3 rfl) ?_
      refine lv_icmp_ge (tgt := 110) hx hb dX11_found_94 (by decide) (fun _ => ?_) (fun cc => absurd (by decide +kernel) cc)
      refine lv_iconst (v := 0) hx hb dX11_found_110 (by decide) ?_
      refine lv_istore (lv' := [(5, .int 0), (4, .int 1), (3, .int 1), (2, .int 0), (0, .ref a0), (1, .int x0)]) hx hb dX11_found_111 hl (by decide) rfl (fun ls hl => ?_)
      refine lv_iload hx hb dX11_found_113 (lv_at hl 0 rfl) ?_
      refine lv_iload_n hx hb dX11_found_115 rfl (lv_at hl 3 rfl) ?_
      refine lv_icmp_ge (tgt := 209) hx hb dX11_found_116 (by decide) (fun _ => ?_) (fun cc => absurd (by decide +kernel) cc)
      refine lv_aload_n hx hb dX11_found_209 rfl (lv_at hl 4 rfl) ?_
      refine lv_aload_n hx hb dX11_found_210 rfl (lv_at hl 4 rfl) ?_
      refine va_get (D := D) (ci := 8) (v := .ref a4) (C := RX11) (T := TX11) (N := 36) hx hb hU iX11 hown hK.1 hP 4 rfl rfl 11 (by decide) (hU _ w796) (fun _ h9 => h9) rfl dX11_found_211 ?_
      refine cI (rV (q0 := 4) (ci := 8) (As := [.ref a4]) (rest := []) (wc := [(a0, .inr (8, [.int 2, .int 0, .int 1, .int 0, .int 0, .int 0, .ref a1, .ref a2, .int 0, .int 1, .ref a3, .ref a4, .ref a5, .ref a6, .ref a7, .ref a8, .ref a9, .int 0, .int 0, .int 0, .ref a10, .ref a11, .ref a12, .ref a13, .int 1, .int 1, .ref a14, .ref a15, .ref a16, .ref a17, .int 0, .int 0, .ref a18, .ref a19, .ref a20, .ref a21])), (a10, .inl (k 1, 900, .inr (.inl (tL [1, 0, 0, 0, 1, 0, 0, 0, 0] 0)))), (a4, .inl (k 1, 9, .inr (.inl (tL [1, 0, 0, 0, 1, 0, 0, 0, 0] 0))))]) hx hb hml hown hU hK hP hD rfl rfl [4, 0, 5] rfl (by decide) (cX11_placeOf_1 l D k _ a0 a10 a4 a1 a2 a3 a5 a6 a7 a8 a9 a11 a12 a13 a14 a15 a16 a17 a18 a19 a20 a21) w1051 w1048 w1050 w50 w72 hdX11_placeOf ⟨rfl, rfl⟩ ⟨Nat.le_of_ble_eq_true rfl, Nat.le_of_ble_eq_true rfl⟩ rfl hl.1 (Nat.le_of_ble_eq_true rfl) dX11_found_214 ⟨Nat.le_of_ble_eq_true rfl, Nat.le_of_ble_eq_true rfl⟩) hP hD hS hA (wr := [(a11, .inl (k 0, 100, .inl (tI [(-3)] 0))), (a12, .inl (k 0, 100, .inl (tI [(-3)] 0))), (a13, .inl (k 0, 100, .inl (tI [0] 0)))]) [4, 0, 5] [1, 2, 3] rfl rfl (by decide) (by decide) (fun r6 H locs hB J hS => ?_)
      obtain ⟨rfl, hP1, hD1⟩ := hB
      obtain ⟨hP, hD⟩ := J _ hP1 hD1
      have hP : va_P D cl0 [(a11, .inl (k 0, 100, .inl (tI [(-3)] 0))), (a12, .inl (k 0, 100, .inl (tI [(-3)] 0))), (a13, .inl (k 0, 100, .inl (tI [0] 0))), (a0, .inr (8, [.int 2, .int 0, .int 1, .int 0, .int 0, .int 0, .ref a1, .ref a2, .int 0, .int 1, .ref a3, .ref a4, .ref a5, .ref a6, .ref a7, .ref a8, .ref a9, .int 0, .int 0, .int 0, .ref a10, .ref a11, .ref a12, .ref a13, .int 1, .int 1, .ref a14, .ref a15, .ref a16, .ref a17, .int 0, .int 0, .ref a18, .ref a19, .ref a20, .ref a21])), (a10, .inl (k 1, 900, .inr (.inl (tL [1, 0, 0, 0, 1, 0, 0, 0, 0] 0)))), (a4, .inl (k 1, 9, .inr (.inl (tL [1, 0, 0, 0, 1, 0, 0, 0, 0] 0))))] H := hP
      have hD : va_D A [(a11, .inl (k 0, 100, .inl (tI [(-3)] 0))), (a12, .inl (k 0, 100, .inl (tI [(-3)] 0))), (a13, .inl (k 0, 100, .inl (tI [0] 0))), (a0, .inr (8, [.int 2, .int 0, .int 1, .int 0, .int 0, .int 0, .ref a1, .ref a2, .int 0, .int 1, .ref a3, .ref a4, .ref a5, .ref a6, .ref a7, .ref a8, .ref a9, .int 0, .int 0, .int 0, .ref a10, .ref a11, .ref a12, .ref a13, .int 1, .int 1, .ref a14, .ref a15, .ref a16, .ref a17, .int 0, .int 0, .ref a18, .ref a19, .ref a20, .ref a21])), (a10, .inl (k 1, 900, .inr (.inl (tL [1, 0, 0, 0, 1, 0, 0, 0, 0] 0)))), (a4, .inl (k 1, 9, .inr (.inl (tL [1, 0, 0, 0, 1, 0, 0, 0, 0] 0))))] := hD
      refine lv_istore (lv' := [(5, .int 0), (4, .int 1), (3, .int 1), (2, .int 0), (0, .ref a0), (1, .int x0)]) hx hb dX11_found_217 hl (by decide) rfl (fun ls hl => ?_)
      refine lv_iload hx hb dX11_found_219 (lv_at hl 0 rfl) ?_
      refine lv_if_ge (tgt := 229) hx hb dX11_found_221 (by decide) (fun _ => ?_) (fun cc => absurd (by decide +kernel) cc)
      refine lv_iload hx hb dX11_found_229 (lv_at hl 0 rfl) ?_
      exact retI (v := 0) hx hb hr hlocks hS (show (0 : Int32) = F_found x0 by first | decide +kernel | (have f0 := cv_nlt (x := x0.toInt) (y := 0) c_1 rfl (by decide +kernel); have f1 := cv_le (x := x0.toInt) (y := 0) c_3 rfl (by decide +kernel); unfold F_found; (repeat (first | rw [if_pos (by omega)] | rw [if_neg (by omega)])))) dX11_found_231
    · skip
      refine lv_iload_n hx hb dX11_found_20 rfl (lv_at hl 1 rfl) ?_
      refine lv_if_eq (tgt := 46) hx hb dX11_found_21 (by decide) (fun cc => absurd cc (by decide +kernel)) (fun _ => ?_)
      refine lv_iload hx hb dX11_found_24 (lv_at hl 0 rfl) ?_
      refine lv_bipush (v := 10) hx hb dX11_found_26 (by decide) ?_
      refine lv_irem hx hb dX11_found_28 (by decide +kernel) ?_
      refine lv_i2l (v := ((x0 - x0 / 10 * 10)).toInt64) hx hb dX11_found_29 rfl ?_
      refine lv_lconst (v := 1) hx hb dX11_found_30 (by decide) ?_
      refine lv_aload_n hx hb dX11_found_31 rfl (lv_at hl 3 rfl) ?_
      refine va_get (D := D) (ci := 8) (v := .int 0) (C := RX11) (T := TX11) (N := 36) hx hb hU iX11 hown hK.1 hP 0 rfl rfl 1 (by decide) (hU _ w786) (fun _ h9 => h9) rfl dX11_found_32 ?_
      refine lv_i2l (v := 0) hx hb dX11_found_35 (by decide +kernel) ?_
      refine cI (rS (As := [.long ((x0 - x0 / 10 * 10)).toInt64, .long 1, .long 0]) (rest := []) (wc := []) hx hb hml hown hU hK hP hD [] rfl (by decide) (cX11_in_11 l D k _ (((x0 - x0 / 10 * 10)).toInt64)) w901 w899 w900 w72 hdX11_in ⟨rfl, rfl⟩ ⟨Nat.le_of_ble_eq_true rfl, Nat.le_of_ble_eq_true rfl⟩ rfl hl.1 (Nat.le_of_ble_eq_true rfl) dX11_found_36 ⟨Nat.le_of_ble_eq_true rfl, Nat.le_of_ble_eq_true rfl⟩) hP hD hS hA (wr := [(a0, .inr (8, [.int 2, .int 0, .int 1, .int 0, .int 0, .int 0, .ref a1, .ref a2, .int 0, .int 0, .ref a3, .ref a4, .ref a5, .ref a6, .ref a7, .ref a8, .ref a9, .int 0, .int 0, .int 0, .ref a10, .ref a11, .ref a12, .ref a13, .int 0, .int 0, .ref a14, .ref a15, .ref a16, .ref a17, .int 0, .int 0, .ref a18, .ref a19, .ref a20, .ref a21])), (a4, .inl (k 1, 9, .inr (.inl (tL [] 0)))), (a10, .inl (k 1, 900, .inr (.inl (tL [] 0)))), (a11, .inl (k 0, 100, .inl (tI [] 0))), (a12, .inl (k 0, 100, .inl (tI [] 0))), (a13, .inl (k 0, 100, .inl (tI [] 0)))]) [] [0, 1, 2, 3, 4, 5] rfl rfl (by decide) (by decide) (fun r7 H locs hB J hS => ?_)
      rcases hB with ⟨c_8, rfl, hP1, hD1⟩ | ⟨c_9, c_10, rfl, hP1, hD1⟩
      · skip
        obtain ⟨hP, hD⟩ := J _ hP1 hD1
        have hP : va_P D cl0 [(a0, .inr (8, [.int 2, .int 0, .int 1, .int 0, .int 0, .int 0, .ref a1, .ref a2, .int 0, .int 0, .ref a3, .ref a4, .ref a5, .ref a6, .ref a7, .ref a8, .ref a9, .int 0, .int 0, .int 0, .ref a10, .ref a11, .ref a12, .ref a13, .int 0, .int 0, .ref a14, .ref a15, .ref a16, .ref a17, .int 0, .int 0, .ref a18, .ref a19, .ref a20, .ref a21])), (a4, .inl (k 1, 9, .inr (.inl (tL [] 0)))), (a10, .inl (k 1, 900, .inr (.inl (tL [] 0)))), (a11, .inl (k 0, 100, .inl (tI [] 0))), (a12, .inl (k 0, 100, .inl (tI [] 0))), (a13, .inl (k 0, 100, .inl (tI [] 0)))] H := hP
        have hD : va_D A [(a0, .inr (8, [.int 2, .int 0, .int 1, .int 0, .int 0, .int 0, .ref a1, .ref a2, .int 0, .int 0, .ref a3, .ref a4, .ref a5, .ref a6, .ref a7, .ref a8, .ref a9, .int 0, .int 0, .int 0, .ref a10, .ref a11, .ref a12, .ref a13, .int 0, .int 0, .ref a14, .ref a15, .ref a16, .ref a17, .int 0, .int 0, .ref a18, .ref a19, .ref a20, .ref a21])), (a4, .inl (k 1, 9, .inr (.inl (tL [] 0)))), (a10, .inl (k 1, 900, .inr (.inl (tL [] 0)))), (a11, .inl (k 0, 100, .inl (tI [] 0))), (a12, .inl (k 0, 100, .inl (tI [] 0))), (a13, .inl (k 0, 100, .inl (tI [] 0)))] := hD
        refine lv_if_eq (tgt := 46) hx hb dX11_found_39 (by decide) (fun _ => ?_) (fun cc => absurd (by decide +kernel) cc)
        refine lv_iconst (v := 0) hx hb dX11_found_46 (by decide) ?_
        refine lv_istore_n (lv' := [(3, .int 0), (4, .int x0), (2, .int 0), (0, .ref a0), (1, .int x0)]) hx hb dX11_found_47 rfl hl (by decide) rfl (fun ls hl => ?_)
        refine lv_iinc (v := 1) (lv' := [(2, .int 1), (3, .int 0), (4, .int x0), (0, .ref a0), (1, .int x0)]) hx hb dX11_found_48 hl (k := 2) rfl (by decide) (by decide) rfl (fun ls hl => ?_)
        refine lv_iload hx hb dX11_found_51 (lv_at hl 2 rfl) ?_
        refine lv_bipush (v := 10) hx hb dX11_found_53 (by decide) ?_
        refine lv_idiv hx hb dX11_found_55 (by decide +kernel) ?_
        refine lv_istore (lv' := [(4, .int (x0 / 10)), (2, .int 1), (3, .int 0), (0, .ref a0), (1, .int x0)]) hx hb dX11_found_56 hl (by decide) rfl (fun ls hl => ?_)
        refine lv_goto (tgt := 15) hx hb dX11_found_58 (by decide) ?_
        exact foundM_loop hx hb hr hlocks hS (show ((-1) : Int32) = F_found x0 by first | decide +kernel | (have f0 := cv_nlt (x := x0.toInt) (y := 0) c_1 rfl (by decide +kernel); have f1 := cv_nle (x := x0.toInt) (y := 0) c_3 rfl (by decide +kernel); have f2 := dv_lt (x := (((x0 - x0 / 10 * 10)).toInt64).toInt) (y := 1) c_8 rfl (by decide +kernel); unfold F_found; (repeat (first | rw [if_pos (by omega)] | rw [if_neg (by omega)])))) ((x0 / 10).toInt.toNat + 1) _ _ ls (by omega) (lv_sub hl [3, 4, 1, 2, 0] rfl)
      · skip
        obtain ⟨hP, hD⟩ := J _ hP1 hD1
        have hP : va_P D cl0 [(a0, .inr (8, [.int 2, .int 0, .int 1, .int 0, .int 0, .int 0, .ref a1, .ref a2, .int 0, .int 0, .ref a3, .ref a4, .ref a5, .ref a6, .ref a7, .ref a8, .ref a9, .int 0, .int 0, .int 0, .ref a10, .ref a11, .ref a12, .ref a13, .int 0, .int 0, .ref a14, .ref a15, .ref a16, .ref a17, .int 0, .int 0, .ref a18, .ref a19, .ref a20, .ref a21])), (a4, .inl (k 1, 9, .inr (.inl (tL [] 0)))), (a10, .inl (k 1, 900, .inr (.inl (tL [] 0)))), (a11, .inl (k 0, 100, .inl (tI [] 0))), (a12, .inl (k 0, 100, .inl (tI [] 0))), (a13, .inl (k 0, 100, .inl (tI [] 0)))] H := hP
        have hD : va_D A [(a0, .inr (8, [.int 2, .int 0, .int 1, .int 0, .int 0, .int 0, .ref a1, .ref a2, .int 0, .int 0, .ref a3, .ref a4, .ref a5, .ref a6, .ref a7, .ref a8, .ref a9, .int 0, .int 0, .int 0, .ref a10, .ref a11, .ref a12, .ref a13, .int 0, .int 0, .ref a14, .ref a15, .ref a16, .ref a17, .int 0, .int 0, .ref a18, .ref a19, .ref a20, .ref a21])), (a4, .inl (k 1, 9, .inr (.inl (tL [] 0)))), (a10, .inl (k 1, 900, .inr (.inl (tL [] 0)))), (a11, .inl (k 0, 100, .inl (tI [] 0))), (a12, .inl (k 0, 100, .inl (tI [] 0))), (a13, .inl (k 0, 100, .inl (tI [] 0)))] := hD
        refine lv_if_eq (tgt := 46) hx hb dX11_found_39 (by decide) (fun _ => ?_) (fun cc => absurd (by decide +kernel) cc)
        refine lv_iconst (v := 0) hx hb dX11_found_46 (by decide) ?_
        refine lv_istore_n (lv' := [(3, .int 0), (4, .int x0), (2, .int 0), (0, .ref a0), (1, .int x0)]) hx hb dX11_found_47 rfl hl (by decide) rfl (fun ls hl => ?_)
        refine lv_iinc (v := 1) (lv' := [(2, .int 1), (3, .int 0), (4, .int x0), (0, .ref a0), (1, .int x0)]) hx hb dX11_found_48 hl (k := 2) rfl (by decide) (by decide) rfl (fun ls hl => ?_)
        refine lv_iload hx hb dX11_found_51 (lv_at hl 2 rfl) ?_
        refine lv_bipush (v := 10) hx hb dX11_found_53 (by decide) ?_
        refine lv_idiv hx hb dX11_found_55 (by decide +kernel) ?_
        refine lv_istore (lv' := [(4, .int (x0 / 10)), (2, .int 1), (3, .int 0), (0, .ref a0), (1, .int x0)]) hx hb dX11_found_56 hl (by decide) rfl (fun ls hl => ?_)
        refine lv_goto (tgt := 15) hx hb dX11_found_58 (by decide) ?_
        exact foundM_loop hx hb hr hlocks hS (show ((-1) : Int32) = F_found x0 by first | decide +kernel | (have f0 := cv_nlt (x := x0.toInt) (y := 0) c_1 rfl (by decide +kernel); have f1 := cv_nle (x := x0.toInt) (y := 0) c_3 rfl (by decide +kernel); have f2 := dv_nlt (x := (((x0 - x0 / 10 * 10)).toInt64).toInt) (y := 1) c_9 rfl (by decide +kernel); have f3 := dv_lt (x := 0) (y := (((x0 - x0 / 10 * 10)).toInt64).toInt) c_10 (by decide +kernel) rfl; unfold F_found; (repeat (first | rw [if_pos (by omega)] | rw [if_neg (by omega)])))) ((x0 / 10).toInt.toNat + 1) _ _ ls (by omega) (lv_sub hl [3, 4, 1, 2, 0] rfl)
abbrev BX11_middle_1 (D : va_G) (k : Nat → ClassId) (a0 a4 a10 a11 a12 a13 a1 a2 a3 a5 a6 a7 a8 a9 a14 a15 a16 a17 a18 a19 a20 a21 : Nat) (A : Nat → Prop) (r : Int32) (H : Heap) : Prop := r = F_middle
set_option maxHeartbeats 4000000 in
set_option maxRecDepth 100000 in
theorem cX11_middle_1 (l : Launch) (D : va_G) (k : Nat → ClassId) (sz : Nat) (a0 a4 a10 a11 a12 a13 a1 a2 a3 a5 a6 a7 a8 a9 a14 a15 a16 a17 a18 a19 a20 a21 : Nat) : Met l yX11_middle (Cond.code yX11_middle cX11_middle 6 (some .int) :: uw) ({ frames := 3, cells := 0, slots := 0, locals := 66 }) (pC D k sz [.ref a0] [(a0, .inr (8, [.int 2, .int 0, .int 1, .int 0, .int 0, .int 0, .ref a1, .ref a2, .int 0, .int 0, .ref a3, .ref a4, .ref a5, .ref a6, .ref a7, .ref a8, .ref a9, .int 0, .int 0, .int 0, .ref a10, .ref a11, .ref a12, .ref a13, .int 0, .int 0, .ref a14, .ref a15, .ref a16, .ref a17, .int 0, .int 0, .ref a18, .ref a19, .ref a20, .ref a21])), (a4, .inl (k 1, 9, .inr (.inl (tL [] 0)))), (a10, .inl (k 1, 900, .inr (.inl (tL [] 0)))), (a11, .inl (k 0, 100, .inl (tI [] 0))), (a12, .inl (k 0, 100, .inl (tI [] 0))), (a13, .inl (k 0, 100, .inl (tI [] 0)))]) (qI (BX11_middle_1 D k a0 a4 a10 a11 a12 a13 a1 a2 a3 a5 a6 a7 a8 a9 a14 a15 a16 a17 a18 a19 a20 a21 (va_A [(a0, .inr (8, [.int 2, .int 0, .int 1, .int 0, .int 0, .int 0, .ref a1, .ref a2, .int 0, .int 0, .ref a3, .ref a4, .ref a5, .ref a6, .ref a7, .ref a8, .ref a9, .int 0, .int 0, .int 0, .ref a10, .ref a11, .ref a12, .ref a13, .int 0, .int 0, .ref a14, .ref a15, .ref a16, .ref a17, .int 0, .int 0, .ref a18, .ref a19, .ref a20, .ref a21])), (a4, .inl (k 1, 9, .inr (.inl (tL [] 0)))), (a10, .inl (k 1, 900, .inr (.inl (tL [] 0)))), (a11, .inl (k 0, 100, .inl (tI [] 0))), (a12, .inl (k 0, 100, .inl (tI [] 0))), (a13, .inl (k 0, 100, .inl (tI [] 0)))] sz)) (va_A [(a0, .inr (8, [.int 2, .int 0, .int 1, .int 0, .int 0, .int 0, .ref a1, .ref a2, .int 0, .int 0, .ref a3, .ref a4, .ref a5, .ref a6, .ref a7, .ref a8, .ref a9, .int 0, .int 0, .int 0, .ref a10, .ref a11, .ref a12, .ref a13, .int 0, .int 0, .ref a14, .ref a15, .ref a16, .ref a17, .int 0, .int 0, .ref a18, .ref a19, .ref a20, .ref a21])), (a4, .inl (k 1, 9, .inr (.inl (tL [] 0)))), (a10, .inl (k 1, 900, .inr (.inl (tL [] 0)))), (a11, .inl (k 0, 100, .inl (tI [] 0))), (a12, .inl (k 0, 100, .inl (tI [] 0))), (a13, .inl (k 0, 100, .inl (tI [] 0)))] sz)) 0 0 (va_A [(a0, .inr (8, [.int 2, .int 0, .int 1, .int 0, .int 0, .int 0, .ref a1, .ref a2, .int 0, .int 0, .ref a3, .ref a4, .ref a5, .ref a6, .ref a7, .ref a8, .ref a9, .int 0, .int 0, .int 0, .ref a10, .ref a11, .ref a12, .ref a13, .int 0, .int 0, .ref a14, .ref a15, .ref a16, .ref a17, .int 0, .int 0, .ref a18, .ref a19, .ref a20, .ref a21])), (a4, .inl (k 1, 9, .inr (.inl (tL [] 0)))), (a10, .inl (k 1, 900, .inr (.inl (tL [] 0)))), (a11, .inl (k 0, 100, .inl (tI [] 0))), (a12, .inl (k 0, 100, .inl (tI [] 0))), (a13, .inl (k 0, 100, .inl (tI [] 0)))] sz) := by
  refine begin_ (Qc := fun A => qI (BX11_middle_1 D k a0 a4 a10 a11 a12 a13 a1 a2 a3 a5 a6 a7 a8 a9 a14 a15 a16 a17 a18 a19 a20 a21 A) A) (by decide) (Nat.le_of_ble_eq_true rfl) ?_
  intro p e s m below meth c ls A hx hb hr hml hown hlocks hin hU hK hsz hP hD hS hA hl
  have hl : lv_has ls 6 [(0, .ref a0)] := hl
  clear hsz
  refine lv_aload_n hx hb dX11_middle_0 rfl (lv_at hl 0 rfl) ?_
  refine cV (rV (q0 := 0) (ci := 8) (As := []) (rest := []) (wc := [(a0, .inr (8, [.int 2, .int 0, .int 1, .int 0, .int 0, .int 0, .ref a1, .ref a2, .int 0, .int 0, .ref a3, .ref a4, .ref a5, .ref a6, .ref a7, .ref a8, .ref a9, .int 0, .int 0, .int 0, .ref a10, .ref a11, .ref a12, .ref a13, .int 0, .int 0, .ref a14, .ref a15, .ref a16, .ref a17, .int 0, .int 0, .ref a18, .ref a19, .ref a20, .ref a21])), (a4, .inl (k 1, 9, .inr (.inl (tL [] 0)))), (a10, .inl (k 1, 900, .inr (.inl (tL [] 0)))), (a11, .inl (k 0, 100, .inl (tI [] 0))), (a12, .inl (k 0, 100, .inl (tI [] 0))), (a13, .inl (k 0, 100, .inl (tI [] 0)))]) hx hb hml hown hU hK hP hD rfl rfl [0, 1, 2, 3, 4, 5] rfl (by decide) (cX11_findList_1 l D k _ a0 a4 a10 a11 a12 a13 a1 a2 a3 a5 a6 a7 a8 a9 a14 a15 a16 a17 a18 a19 a20 a21) w1039 w1036 w1038 w47 w72 hdX11_findList ⟨rfl, rfl⟩ ⟨Nat.le_of_ble_eq_true rfl, Nat.le_of_ble_eq_true rfl⟩ rfl hl.1 (Nat.le_of_ble_eq_true rfl) dX11_middle_1 ⟨Nat.le_of_ble_eq_true rfl, Nat.le_of_ble_eq_true rfl⟩) hP hD hS hA (wr := []) [0, 1, 2, 3, 4, 5] [] rfl rfl (by decide) (by decide) (fun H locs hB J hS => ?_)
  obtain ⟨hP1, hD1⟩ := hB
  obtain ⟨hP, hD⟩ := J _ hP1 hD1
  have hP : va_P D cl0 [(a0, .inr (8, [.int 2, .int 0, .int 1, .int 0, .int 0, .int 0, .ref a1, .ref a2, .int 0, .int 1, .ref a3, .ref a4, .ref a5, .ref a6, .ref a7, .ref a8, .ref a9, .int 0, .int 0, .int 0, .ref a10, .ref a11, .ref a12, .ref a13, .int 1, .int 1, .ref a14, .ref a15, .ref a16, .ref a17, .int 0, .int 0, .ref a18, .ref a19, .ref a20, .ref a21])), (a4, .inl (k 1, 9, .inr (.inl (tL [1, 0, 0, 0, 1, 0, 0, 0, 0] 0)))), (a10, .inl (k 1, 900, .inr (.inl (tL [1, 0, 0, 0, 1, 0, 0, 0, 0] 0)))), (a11, .inl (k 0, 100, .inl (tI [(-3)] 0))), (a12, .inl (k 0, 100, .inl (tI [(-3)] 0))), (a13, .inl (k 0, 100, .inl (tI [0] 0)))] H := hP
  have hD : va_D A [(a0, .inr (8, [.int 2, .int 0, .int 1, .int 0, .int 0, .int 0, .ref a1, .ref a2, .int 0, .int 1, .ref a3, .ref a4, .ref a5, .ref a6, .ref a7, .ref a8, .ref a9, .int 0, .int 0, .int 0, .ref a10, .ref a11, .ref a12, .ref a13, .int 1, .int 1, .ref a14, .ref a15, .ref a16, .ref a17, .int 0, .int 0, .ref a18, .ref a19, .ref a20, .ref a21])), (a4, .inl (k 1, 9, .inr (.inl (tL [1, 0, 0, 0, 1, 0, 0, 0, 0] 0)))), (a10, .inl (k 1, 900, .inr (.inl (tL [1, 0, 0, 0, 1, 0, 0, 0, 0] 0)))), (a11, .inl (k 0, 100, .inl (tI [(-3)] 0))), (a12, .inl (k 0, 100, .inl (tI [(-3)] 0))), (a13, .inl (k 0, 100, .inl (tI [0] 0)))] := hD
  refine lv_iconst (v := 0) hx hb dX11_middle_4 (by decide) ?_
  refine lv_istore_n (lv' := [(1, .int 0), (0, .ref a0)]) hx hb dX11_middle_5 rfl hl (by decide) rfl (fun ls hl => ?_)
  refine lv_iconst (v := 0) hx hb dX11_middle_6 (by decide) ?_
  refine lv_istore_n (lv' := [(2, .int 0), (1, .int 0), (0, .ref a0)]) hx hb dX11_middle_7 rfl hl (by decide) rfl (fun ls hl => ?_)
  refine lv_iload_n hx hb dX11_middle_8 rfl (lv_at hl 0 rfl) ?_
  refine lv_aload_n hx hb dX11_middle_9 rfl (lv_at hl 2 rfl) ?_
  refine va_get (D := D) (ci := 8) (v := .int 1) (C := RX11) (T := TX11) (N := 36) hx hb hU iX11 hown hK.1 hP 0 rfl rfl 24 (by decide) (hU _ w809) (fun _ h9 => h9) rfl dX11_middle_10 ?_
  refine lv_icmp_ge (tgt := 149) hx hb dX11_middle_13 (by decide) (fun cc => absurd cc (by decide +kernel)) (fun _ => ?_)
  refine lv_iconst (v := 1) hx hb dX11_middle_16 (by decide) ?_
  refine lv_istore_n (lv' := [(3, .int 1), (2, .int 0), (1, .int 0), (0, .ref a0)]) hx hb dX11_middle_17 rfl hl (by decide) rfl (fun ls hl => ?_)
  refine lv_iconst (v := 0) hx hb dX11_middle_18 (by decide) ?_
  refine lv_istore (lv' := [(4, .int 0), (3, .int 1), (2, .int 0), (1, .int 0), (0, .ref a0)]) hx hb dX11_middle_19 hl (by decide) rfl (fun ls hl => ?_)
  refine lv_iload hx hb dX11_middle_21 (lv_at hl 0 rfl) ?_
  refine lv_aload_n hx hb dX11_middle_23 rfl (lv_at hl 4 rfl) ?_
  refine va_get (D := D) (ci := 8) (v := .int 0) (C := RX11) (T := TX11) (N := 36) hx hb hU iX11 hown hK.1 hP 0 rfl rfl 1 (by decide) (hU _ w786) (fun _ h9 => h9) rfl dX11_middle_24 ?_
  refine lv_icmp_ge (tgt := 131) hx hb dX11_middle_27 (by decide) (fun _ => ?_) (fun cc => absurd (by decide +kernel) cc)
  refine lv_iload_n hx hb dX11_middle_131 rfl (lv_at hl 3 rfl) ?_
  refine lv_iload_n hx hb dX11_middle_132 rfl (lv_at hl 1 rfl) ?_
  refine lv_if_eq (tgt := 140) hx hb dX11_middle_133 (by decide) (fun cc => absurd cc (by decide +kernel)) (fun _ => ?_)
  refine lv_iconst (v := 1) hx hb dX11_middle_136 (by decide) ?_
  refine lv_goto (tgt := 141) hx hb dX11_middle_137 (by decide) ?_
  refine lv_iadd hx hb dX11_middle_141 (sv_i (v := 1) (by decide +kernel) ?_)
  refine lv_istore_n (lv' := [(1, .int 1), (4, .int 0), (3, .int 1), (2, .int 0), (0, .ref a0)]) hx hb dX11_middle_142 rfl hl (by decide) rfl (fun ls hl => ?_)
  refine lv_iinc (v := 1) (lv' := [(2, .int 1), (1, .int 1), (4, .int 0), (3, .int 1), (0, .ref a0)]) hx hb dX11_middle_143 hl (k := 3) rfl (by decide) (by decide) rfl (fun ls hl => ?_)
  refine lv_goto (tgt := 8) hx hb dX11_middle_146 (by decide) ?_
  refine lv_iload_n hx hb dX11_middle_8 rfl (lv_at hl 0 rfl) ?_
  refine lv_aload_n hx hb dX11_middle_9 rfl (lv_at hl 4 rfl) ?_
  refine va_get (D := D) (ci := 8) (v := .int 1) (C := RX11) (T := TX11) (N := 36) hx hb hU iX11 hown hK.1 hP 0 rfl rfl 24 (by decide) (hU _ w809) (fun _ h9 => h9) rfl dX11_middle_10 ?_
  refine lv_icmp_ge (tgt := 149) hx hb dX11_middle_13 (by decide) (fun _ => ?_) (fun cc => absurd (by decide +kernel) cc)
  refine lv_iload_n hx hb dX11_middle_149 rfl (lv_at hl 1 rfl) ?_
  exact retI (v := 1) hx hb hr hlocks hS (show (1 : Int32) = F_middle by rfl) dX11_middle_150
abbrev BX11_lacks_5 (D : va_G) (k : Nat → ClassId) (h0 h1 h2 h3 h4 h5 h6 h7 h8 h9 h10 h11 h12 h13 h14 h15 h16 h17 h18 h19 h20 h21 : Nat) (x0 : Int32) (A : Nat → Prop) (r : Int32) (H : Heap) : Prop := (-11) = r ∧ va_P D cl0 [(h0, .inr (8, [.int 2, .int 0, .int 1, .int 0, .int 0, .int 0, .ref h2, .ref h3, .int 0, .int 1, .ref h4, .ref h5, .ref h6, .ref h7, .ref h8, .ref h9, .ref h10, .int 0, .int 0, .int 0, .ref h11, .ref h12, .ref h13, .ref h14, .int 1, .int 1, .ref h15, .ref h16, .ref h17, .ref h18, .int 0, .int 0, .ref h1, .ref h19, .ref h20, .ref h21])), (h1, .inl (k 0, 4, .inl (tI [(-1), (-1), (-1), (-1)] 0)))] H ∧ va_D A [(h0, .inr (8, [.int 2, .int 0, .int 1, .int 0, .int 0, .int 0, .ref h2, .ref h3, .int 0, .int 1, .ref h4, .ref h5, .ref h6, .ref h7, .ref h8, .ref h9, .ref h10, .int 0, .int 0, .int 0, .ref h11, .ref h12, .ref h13, .ref h14, .int 1, .int 1, .ref h15, .ref h16, .ref h17, .ref h18, .int 0, .int 0, .ref h1, .ref h19, .ref h20, .ref h21])), (h1, .inl (k 0, 4, .inl (tI [(-1), (-1), (-1), (-1)] 0)))]
set_option maxHeartbeats 4000000 in
set_option maxRecDepth 100000 in
theorem cX11_lacks_5 (l : Launch) (D : va_G) (k : Nat → ClassId) (sz : Nat) (h0 h1 h2 h3 h4 h5 h6 h7 h8 h9 h10 h11 h12 h13 h14 h15 h16 h17 h18 h19 h20 h21 : Nat) (x0 : Int32) : Met l yX11_lacks (Cond.code yX11_lacks cX11_lacks 3 (some .int) :: uw) ({ frames := 0, cells := 0, slots := 0, locals := 0 }) (pC D k sz [.ref h0, .int 0, .int x0] [(h0, .inr (8, [.int 2, .int 0, .int 1, .int 0, .int 0, .int 0, .ref h2, .ref h3, .int 0, .int 1, .ref h4, .ref h5, .ref h6, .ref h7, .ref h8, .ref h9, .ref h10, .int 0, .int 0, .int 0, .ref h11, .ref h12, .ref h13, .ref h14, .int 1, .int 1, .ref h15, .ref h16, .ref h17, .ref h18, .int 0, .int 0, .ref h1, .ref h19, .ref h20, .ref h21])), (h1, .inl (k 0, 4, .inl (tI [(-1), (-1), (-1), (-1)] 0)))]) (qI (BX11_lacks_5 D k h0 h1 h2 h3 h4 h5 h6 h7 h8 h9 h10 h11 h12 h13 h14 h15 h16 h17 h18 h19 h20 h21 x0 (va_A [(h0, .inr (8, [.int 2, .int 0, .int 1, .int 0, .int 0, .int 0, .ref h2, .ref h3, .int 0, .int 1, .ref h4, .ref h5, .ref h6, .ref h7, .ref h8, .ref h9, .ref h10, .int 0, .int 0, .int 0, .ref h11, .ref h12, .ref h13, .ref h14, .int 1, .int 1, .ref h15, .ref h16, .ref h17, .ref h18, .int 0, .int 0, .ref h1, .ref h19, .ref h20, .ref h21])), (h1, .inl (k 0, 4, .inl (tI [(-1), (-1), (-1), (-1)] 0)))] sz)) (va_A [(h0, .inr (8, [.int 2, .int 0, .int 1, .int 0, .int 0, .int 0, .ref h2, .ref h3, .int 0, .int 1, .ref h4, .ref h5, .ref h6, .ref h7, .ref h8, .ref h9, .ref h10, .int 0, .int 0, .int 0, .ref h11, .ref h12, .ref h13, .ref h14, .int 1, .int 1, .ref h15, .ref h16, .ref h17, .ref h18, .int 0, .int 0, .ref h1, .ref h19, .ref h20, .ref h21])), (h1, .inl (k 0, 4, .inl (tI [(-1), (-1), (-1), (-1)] 0)))] sz)) 0 0 (va_A [(h0, .inr (8, [.int 2, .int 0, .int 1, .int 0, .int 0, .int 0, .ref h2, .ref h3, .int 0, .int 1, .ref h4, .ref h5, .ref h6, .ref h7, .ref h8, .ref h9, .ref h10, .int 0, .int 0, .int 0, .ref h11, .ref h12, .ref h13, .ref h14, .int 1, .int 1, .ref h15, .ref h16, .ref h17, .ref h18, .int 0, .int 0, .ref h1, .ref h19, .ref h20, .ref h21])), (h1, .inl (k 0, 4, .inl (tI [(-1), (-1), (-1), (-1)] 0)))] sz) := by
  refine begin_ (Qc := fun A => qI (BX11_lacks_5 D k h0 h1 h2 h3 h4 h5 h6 h7 h8 h9 h10 h11 h12 h13 h14 h15 h16 h17 h18 h19 h20 h21 x0 A) A) (by decide) (Nat.le_of_ble_eq_true rfl) ?_
  intro p e s m below meth c ls A hx hb hr hml hown hlocks hin hU hK hsz hP hD hS hA hl
  have hl : lv_has ls 3 [(0, .ref h0), (1, .int 0), (2, .int x0)] := hl
  clear hsz
  refine lv_aload_n hx hb dX11_lacks_0 rfl (lv_at hl 0 rfl) ?_
  refine va_get (D := D) (ci := 8) (v := .ref h1) (C := RX11) (T := TX11) (N := 36) hx hb hU iX11 hown hK.1 hP 0 rfl rfl 32 (by decide) (hU _ w817) (fun _ h9 => h9) rfl dX11_lacks_1 ?_
  refine lv_iload_n hx hb dX11_lacks_4 rfl (lv_at hl 1 rfl) ?_
  refine ld_i (j := 0) (v := (-1)) hx hb hK hP 1 rfl (by decide +kernel) rfl dX11_lacks_5 ?_
  refine lv_if_ge (tgt := 12) hx hb dX11_lacks_6 (by decide) (fun cc => absurd cc (by decide +kernel)) (fun _ => ?_)
  refine lv_bipush (v := (-11)) hx hb dX11_lacks_9 (by decide) ?_
  exact retI (v := (-11)) hx hb hr hlocks hS (⟨rfl, hP, hD⟩) dX11_lacks_11
abbrev BX11_lacks_6 (D : va_G) (k : Nat → ClassId) (h0 h1 h2 h3 h4 h5 h6 h7 h8 h9 h10 h11 h12 h13 h14 h15 h16 h17 h18 h19 h20 h21 : Nat) (x0 : Int32) (A : Nat → Prop) (r : Int32) (H : Heap) : Prop := (-11) = r ∧ va_P D cl0 [(h0, .inr (8, [.int 2, .int 0, .int 1, .int 0, .int 0, .int 0, .ref h2, .ref h3, .int 0, .int 1, .ref h4, .ref h5, .ref h6, .ref h7, .ref h8, .ref h9, .ref h10, .int 0, .int 0, .int 0, .ref h11, .ref h12, .ref h13, .ref h14, .int 1, .int 1, .ref h15, .ref h16, .ref h17, .ref h18, .int 0, .int 0, .ref h1, .ref h19, .ref h20, .ref h21])), (h1, .inl (k 0, 4, .inl (tI [(-1), (-1), (-1), (-1)] 0)))] H ∧ va_D A [(h0, .inr (8, [.int 2, .int 0, .int 1, .int 0, .int 0, .int 0, .ref h2, .ref h3, .int 0, .int 1, .ref h4, .ref h5, .ref h6, .ref h7, .ref h8, .ref h9, .ref h10, .int 0, .int 0, .int 0, .ref h11, .ref h12, .ref h13, .ref h14, .int 1, .int 1, .ref h15, .ref h16, .ref h17, .ref h18, .int 0, .int 0, .ref h1, .ref h19, .ref h20, .ref h21])), (h1, .inl (k 0, 4, .inl (tI [(-1), (-1), (-1), (-1)] 0)))]
set_option maxHeartbeats 4000000 in
set_option maxRecDepth 100000 in
theorem cX11_lacks_6 (l : Launch) (D : va_G) (k : Nat → ClassId) (sz : Nat) (h0 h1 h2 h3 h4 h5 h6 h7 h8 h9 h10 h11 h12 h13 h14 h15 h16 h17 h18 h19 h20 h21 : Nat) (x0 : Int32) : Met l yX11_lacks (Cond.code yX11_lacks cX11_lacks 3 (some .int) :: uw) ({ frames := 0, cells := 0, slots := 0, locals := 0 }) (pC D k sz [.ref h0, .int 1, .int x0] [(h0, .inr (8, [.int 2, .int 0, .int 1, .int 0, .int 0, .int 0, .ref h2, .ref h3, .int 0, .int 1, .ref h4, .ref h5, .ref h6, .ref h7, .ref h8, .ref h9, .ref h10, .int 0, .int 0, .int 0, .ref h11, .ref h12, .ref h13, .ref h14, .int 1, .int 1, .ref h15, .ref h16, .ref h17, .ref h18, .int 0, .int 0, .ref h1, .ref h19, .ref h20, .ref h21])), (h1, .inl (k 0, 4, .inl (tI [(-1), (-1), (-1), (-1)] 0)))]) (qI (BX11_lacks_6 D k h0 h1 h2 h3 h4 h5 h6 h7 h8 h9 h10 h11 h12 h13 h14 h15 h16 h17 h18 h19 h20 h21 x0 (va_A [(h0, .inr (8, [.int 2, .int 0, .int 1, .int 0, .int 0, .int 0, .ref h2, .ref h3, .int 0, .int 1, .ref h4, .ref h5, .ref h6, .ref h7, .ref h8, .ref h9, .ref h10, .int 0, .int 0, .int 0, .ref h11, .ref h12, .ref h13, .ref h14, .int 1, .int 1, .ref h15, .ref h16, .ref h17, .ref h18, .int 0, .int 0, .ref h1, .ref h19, .ref h20, .ref h21])), (h1, .inl (k 0, 4, .inl (tI [(-1), (-1), (-1), (-1)] 0)))] sz)) (va_A [(h0, .inr (8, [.int 2, .int 0, .int 1, .int 0, .int 0, .int 0, .ref h2, .ref h3, .int 0, .int 1, .ref h4, .ref h5, .ref h6, .ref h7, .ref h8, .ref h9, .ref h10, .int 0, .int 0, .int 0, .ref h11, .ref h12, .ref h13, .ref h14, .int 1, .int 1, .ref h15, .ref h16, .ref h17, .ref h18, .int 0, .int 0, .ref h1, .ref h19, .ref h20, .ref h21])), (h1, .inl (k 0, 4, .inl (tI [(-1), (-1), (-1), (-1)] 0)))] sz)) 0 0 (va_A [(h0, .inr (8, [.int 2, .int 0, .int 1, .int 0, .int 0, .int 0, .ref h2, .ref h3, .int 0, .int 1, .ref h4, .ref h5, .ref h6, .ref h7, .ref h8, .ref h9, .ref h10, .int 0, .int 0, .int 0, .ref h11, .ref h12, .ref h13, .ref h14, .int 1, .int 1, .ref h15, .ref h16, .ref h17, .ref h18, .int 0, .int 0, .ref h1, .ref h19, .ref h20, .ref h21])), (h1, .inl (k 0, 4, .inl (tI [(-1), (-1), (-1), (-1)] 0)))] sz) := by
  refine begin_ (Qc := fun A => qI (BX11_lacks_6 D k h0 h1 h2 h3 h4 h5 h6 h7 h8 h9 h10 h11 h12 h13 h14 h15 h16 h17 h18 h19 h20 h21 x0 A) A) (by decide) (Nat.le_of_ble_eq_true rfl) ?_
  intro p e s m below meth c ls A hx hb hr hml hown hlocks hin hU hK hsz hP hD hS hA hl
  have hl : lv_has ls 3 [(0, .ref h0), (1, .int 1), (2, .int x0)] := hl
  clear hsz
  refine lv_aload_n hx hb dX11_lacks_0 rfl (lv_at hl 0 rfl) ?_
  refine va_get (D := D) (ci := 8) (v := .ref h1) (C := RX11) (T := TX11) (N := 36) hx hb hU iX11 hown hK.1 hP 0 rfl rfl 32 (by decide) (hU _ w817) (fun _ h9 => h9) rfl dX11_lacks_1 ?_
  refine lv_iload_n hx hb dX11_lacks_4 rfl (lv_at hl 1 rfl) ?_
  refine ld_i (j := 1) (v := (-1)) hx hb hK hP 1 rfl (by decide +kernel) rfl dX11_lacks_5 ?_
  refine lv_if_ge (tgt := 12) hx hb dX11_lacks_6 (by decide) (fun cc => absurd cc (by decide +kernel)) (fun _ => ?_)
  refine lv_bipush (v := (-11)) hx hb dX11_lacks_9 (by decide) ?_
  exact retI (v := (-11)) hx hb hr hlocks hS (⟨rfl, hP, hD⟩) dX11_lacks_11
abbrev BX11_lacks_7 (D : va_G) (k : Nat → ClassId) (h0 h1 h2 h3 h4 h5 h6 h7 h8 h9 h10 h11 h12 h13 h14 h15 h16 h17 h18 h19 h20 h21 : Nat) (x0 : Int32) (A : Nat → Prop) (r : Int32) (H : Heap) : Prop := (-11) = r ∧ va_P D cl0 [(h0, .inr (8, [.int 2, .int 0, .int 1, .int 0, .int 0, .int 0, .ref h2, .ref h3, .int 0, .int 1, .ref h4, .ref h5, .ref h6, .ref h7, .ref h8, .ref h9, .ref h10, .int 0, .int 0, .int 0, .ref h11, .ref h12, .ref h13, .ref h14, .int 1, .int 1, .ref h15, .ref h16, .ref h17, .ref h18, .int 0, .int 0, .ref h1, .ref h19, .ref h20, .ref h21])), (h1, .inl (k 0, 4, .inl (tI [(-1), (-1), (-1), (-1)] 0)))] H ∧ va_D A [(h0, .inr (8, [.int 2, .int 0, .int 1, .int 0, .int 0, .int 0, .ref h2, .ref h3, .int 0, .int 1, .ref h4, .ref h5, .ref h6, .ref h7, .ref h8, .ref h9, .ref h10, .int 0, .int 0, .int 0, .ref h11, .ref h12, .ref h13, .ref h14, .int 1, .int 1, .ref h15, .ref h16, .ref h17, .ref h18, .int 0, .int 0, .ref h1, .ref h19, .ref h20, .ref h21])), (h1, .inl (k 0, 4, .inl (tI [(-1), (-1), (-1), (-1)] 0)))]
set_option maxHeartbeats 4000000 in
set_option maxRecDepth 100000 in
theorem cX11_lacks_7 (l : Launch) (D : va_G) (k : Nat → ClassId) (sz : Nat) (h0 h1 h2 h3 h4 h5 h6 h7 h8 h9 h10 h11 h12 h13 h14 h15 h16 h17 h18 h19 h20 h21 : Nat) (x0 : Int32) : Met l yX11_lacks (Cond.code yX11_lacks cX11_lacks 3 (some .int) :: uw) ({ frames := 0, cells := 0, slots := 0, locals := 0 }) (pC D k sz [.ref h0, .int 2, .int x0] [(h0, .inr (8, [.int 2, .int 0, .int 1, .int 0, .int 0, .int 0, .ref h2, .ref h3, .int 0, .int 1, .ref h4, .ref h5, .ref h6, .ref h7, .ref h8, .ref h9, .ref h10, .int 0, .int 0, .int 0, .ref h11, .ref h12, .ref h13, .ref h14, .int 1, .int 1, .ref h15, .ref h16, .ref h17, .ref h18, .int 0, .int 0, .ref h1, .ref h19, .ref h20, .ref h21])), (h1, .inl (k 0, 4, .inl (tI [(-1), (-1), (-1), (-1)] 0)))]) (qI (BX11_lacks_7 D k h0 h1 h2 h3 h4 h5 h6 h7 h8 h9 h10 h11 h12 h13 h14 h15 h16 h17 h18 h19 h20 h21 x0 (va_A [(h0, .inr (8, [.int 2, .int 0, .int 1, .int 0, .int 0, .int 0, .ref h2, .ref h3, .int 0, .int 1, .ref h4, .ref h5, .ref h6, .ref h7, .ref h8, .ref h9, .ref h10, .int 0, .int 0, .int 0, .ref h11, .ref h12, .ref h13, .ref h14, .int 1, .int 1, .ref h15, .ref h16, .ref h17, .ref h18, .int 0, .int 0, .ref h1, .ref h19, .ref h20, .ref h21])), (h1, .inl (k 0, 4, .inl (tI [(-1), (-1), (-1), (-1)] 0)))] sz)) (va_A [(h0, .inr (8, [.int 2, .int 0, .int 1, .int 0, .int 0, .int 0, .ref h2, .ref h3, .int 0, .int 1, .ref h4, .ref h5, .ref h6, .ref h7, .ref h8, .ref h9, .ref h10, .int 0, .int 0, .int 0, .ref h11, .ref h12, .ref h13, .ref h14, .int 1, .int 1, .ref h15, .ref h16, .ref h17, .ref h18, .int 0, .int 0, .ref h1, .ref h19, .ref h20, .ref h21])), (h1, .inl (k 0, 4, .inl (tI [(-1), (-1), (-1), (-1)] 0)))] sz)) 0 0 (va_A [(h0, .inr (8, [.int 2, .int 0, .int 1, .int 0, .int 0, .int 0, .ref h2, .ref h3, .int 0, .int 1, .ref h4, .ref h5, .ref h6, .ref h7, .ref h8, .ref h9, .ref h10, .int 0, .int 0, .int 0, .ref h11, .ref h12, .ref h13, .ref h14, .int 1, .int 1, .ref h15, .ref h16, .ref h17, .ref h18, .int 0, .int 0, .ref h1, .ref h19, .ref h20, .ref h21])), (h1, .inl (k 0, 4, .inl (tI [(-1), (-1), (-1), (-1)] 0)))] sz) := by
  refine begin_ (Qc := fun A => qI (BX11_lacks_7 D k h0 h1 h2 h3 h4 h5 h6 h7 h8 h9 h10 h11 h12 h13 h14 h15 h16 h17 h18 h19 h20 h21 x0 A) A) (by decide) (Nat.le_of_ble_eq_true rfl) ?_
  intro p e s m below meth c ls A hx hb hr hml hown hlocks hin hU hK hsz hP hD hS hA hl
  have hl : lv_has ls 3 [(0, .ref h0), (1, .int 2), (2, .int x0)] := hl
  clear hsz
  refine lv_aload_n hx hb dX11_lacks_0 rfl (lv_at hl 0 rfl) ?_
  refine va_get (D := D) (ci := 8) (v := .ref h1) (C := RX11) (T := TX11) (N := 36) hx hb hU iX11 hown hK.1 hP 0 rfl rfl 32 (by decide) (hU _ w817) (fun _ h9 => h9) rfl dX11_lacks_1 ?_
  refine lv_iload_n hx hb dX11_lacks_4 rfl (lv_at hl 1 rfl) ?_
  refine ld_i (j := 2) (v := (-1)) hx hb hK hP 1 rfl (by decide +kernel) rfl dX11_lacks_5 ?_
  refine lv_if_ge (tgt := 12) hx hb dX11_lacks_6 (by decide) (fun cc => absurd cc (by decide +kernel)) (fun _ => ?_)
  refine lv_bipush (v := (-11)) hx hb dX11_lacks_9 (by decide) ?_
  exact retI (v := (-11)) hx hb hr hlocks hS (⟨rfl, hP, hD⟩) dX11_lacks_11
abbrev BX11_lacks_8 (D : va_G) (k : Nat → ClassId) (h0 h1 h2 h3 h4 h5 h6 h7 h8 h9 h10 h11 h12 h13 h14 h15 h16 h17 h18 h19 h20 h21 : Nat) (x0 : Int32) (A : Nat → Prop) (r : Int32) (H : Heap) : Prop := (-11) = r ∧ va_P D cl0 [(h0, .inr (8, [.int 2, .int 0, .int 1, .int 0, .int 0, .int 0, .ref h2, .ref h3, .int 0, .int 1, .ref h4, .ref h5, .ref h6, .ref h7, .ref h8, .ref h9, .ref h10, .int 0, .int 0, .int 0, .ref h11, .ref h12, .ref h13, .ref h14, .int 1, .int 1, .ref h15, .ref h16, .ref h17, .ref h18, .int 0, .int 0, .ref h1, .ref h19, .ref h20, .ref h21])), (h1, .inl (k 0, 4, .inl (tI [(-1), (-1), (-1), (-1)] 0)))] H ∧ va_D A [(h0, .inr (8, [.int 2, .int 0, .int 1, .int 0, .int 0, .int 0, .ref h2, .ref h3, .int 0, .int 1, .ref h4, .ref h5, .ref h6, .ref h7, .ref h8, .ref h9, .ref h10, .int 0, .int 0, .int 0, .ref h11, .ref h12, .ref h13, .ref h14, .int 1, .int 1, .ref h15, .ref h16, .ref h17, .ref h18, .int 0, .int 0, .ref h1, .ref h19, .ref h20, .ref h21])), (h1, .inl (k 0, 4, .inl (tI [(-1), (-1), (-1), (-1)] 0)))]
set_option maxHeartbeats 4000000 in
set_option maxRecDepth 100000 in
theorem cX11_lacks_8 (l : Launch) (D : va_G) (k : Nat → ClassId) (sz : Nat) (h0 h1 h2 h3 h4 h5 h6 h7 h8 h9 h10 h11 h12 h13 h14 h15 h16 h17 h18 h19 h20 h21 : Nat) (x0 : Int32) : Met l yX11_lacks (Cond.code yX11_lacks cX11_lacks 3 (some .int) :: uw) ({ frames := 0, cells := 0, slots := 0, locals := 0 }) (pC D k sz [.ref h0, .int 3, .int x0] [(h0, .inr (8, [.int 2, .int 0, .int 1, .int 0, .int 0, .int 0, .ref h2, .ref h3, .int 0, .int 1, .ref h4, .ref h5, .ref h6, .ref h7, .ref h8, .ref h9, .ref h10, .int 0, .int 0, .int 0, .ref h11, .ref h12, .ref h13, .ref h14, .int 1, .int 1, .ref h15, .ref h16, .ref h17, .ref h18, .int 0, .int 0, .ref h1, .ref h19, .ref h20, .ref h21])), (h1, .inl (k 0, 4, .inl (tI [(-1), (-1), (-1), (-1)] 0)))]) (qI (BX11_lacks_8 D k h0 h1 h2 h3 h4 h5 h6 h7 h8 h9 h10 h11 h12 h13 h14 h15 h16 h17 h18 h19 h20 h21 x0 (va_A [(h0, .inr (8, [.int 2, .int 0, .int 1, .int 0, .int 0, .int 0, .ref h2, .ref h3, .int 0, .int 1, .ref h4, .ref h5, .ref h6, .ref h7, .ref h8, .ref h9, .ref h10, .int 0, .int 0, .int 0, .ref h11, .ref h12, .ref h13, .ref h14, .int 1, .int 1, .ref h15, .ref h16, .ref h17, .ref h18, .int 0, .int 0, .ref h1, .ref h19, .ref h20, .ref h21])), (h1, .inl (k 0, 4, .inl (tI [(-1), (-1), (-1), (-1)] 0)))] sz)) (va_A [(h0, .inr (8, [.int 2, .int 0, .int 1, .int 0, .int 0, .int 0, .ref h2, .ref h3, .int 0, .int 1, .ref h4, .ref h5, .ref h6, .ref h7, .ref h8, .ref h9, .ref h10, .int 0, .int 0, .int 0, .ref h11, .ref h12, .ref h13, .ref h14, .int 1, .int 1, .ref h15, .ref h16, .ref h17, .ref h18, .int 0, .int 0, .ref h1, .ref h19, .ref h20, .ref h21])), (h1, .inl (k 0, 4, .inl (tI [(-1), (-1), (-1), (-1)] 0)))] sz)) 0 0 (va_A [(h0, .inr (8, [.int 2, .int 0, .int 1, .int 0, .int 0, .int 0, .ref h2, .ref h3, .int 0, .int 1, .ref h4, .ref h5, .ref h6, .ref h7, .ref h8, .ref h9, .ref h10, .int 0, .int 0, .int 0, .ref h11, .ref h12, .ref h13, .ref h14, .int 1, .int 1, .ref h15, .ref h16, .ref h17, .ref h18, .int 0, .int 0, .ref h1, .ref h19, .ref h20, .ref h21])), (h1, .inl (k 0, 4, .inl (tI [(-1), (-1), (-1), (-1)] 0)))] sz) := by
  refine begin_ (Qc := fun A => qI (BX11_lacks_8 D k h0 h1 h2 h3 h4 h5 h6 h7 h8 h9 h10 h11 h12 h13 h14 h15 h16 h17 h18 h19 h20 h21 x0 A) A) (by decide) (Nat.le_of_ble_eq_true rfl) ?_
  intro p e s m below meth c ls A hx hb hr hml hown hlocks hin hU hK hsz hP hD hS hA hl
  have hl : lv_has ls 3 [(0, .ref h0), (1, .int 3), (2, .int x0)] := hl
  clear hsz
  refine lv_aload_n hx hb dX11_lacks_0 rfl (lv_at hl 0 rfl) ?_
  refine va_get (D := D) (ci := 8) (v := .ref h1) (C := RX11) (T := TX11) (N := 36) hx hb hU iX11 hown hK.1 hP 0 rfl rfl 32 (by decide) (hU _ w817) (fun _ h9 => h9) rfl dX11_lacks_1 ?_
  refine lv_iload_n hx hb dX11_lacks_4 rfl (lv_at hl 1 rfl) ?_
  refine ld_i (j := 3) (v := (-1)) hx hb hK hP 1 rfl (by decide +kernel) rfl dX11_lacks_5 ?_
  refine lv_if_ge (tgt := 12) hx hb dX11_lacks_6 (by decide) (fun cc => absurd cc (by decide +kernel)) (fun _ => ?_)
  refine lv_bipush (v := (-11)) hx hb dX11_lacks_9 (by decide) ?_
  exact retI (v := (-11)) hx hb hr hlocks hS (⟨rfl, hP, hD⟩) dX11_lacks_11
abbrev BX11_lay_1 (D : va_G) (k : Nat → ClassId) (a0 a4 a10 a11 a12 a13 a18 a1 a2 a3 a5 a6 a7 a8 a9 a14 a15 a16 a17 a19 a20 a21 : Nat) (x0 : Int32) (x1 : Int32) (x2 : Int32) (A : Nat → Prop) (r : Int32) (H : Heap) : Prop := r = F_lay x0 x1 x2
set_option maxHeartbeats 4000000 in
set_option maxRecDepth 100000 in
theorem cX11_lay_1 (l : Launch) (D : va_G) (k : Nat → ClassId) (sz : Nat) (a0 a4 a10 a11 a12 a13 a18 a1 a2 a3 a5 a6 a7 a8 a9 a14 a15 a16 a17 a19 a20 a21 : Nat) (x0 : Int32) (x1 : Int32) (x2 : Int32) : Met l yX11_lay (Cond.code yX11_lay cX11_lay 6 (some .int) :: uw) ({ frames := 3, cells := 0, slots := 0, locals := 66 }) (pC D k sz [.ref a0, .int x0, .int x1, .int x2] [(a0, .inr (8, [.int 2, .int 0, .int 1, .int 0, .int 0, .int 0, .ref a1, .ref a2, .int 0, .int 0, .ref a3, .ref a4, .ref a5, .ref a6, .ref a7, .ref a8, .ref a9, .int 0, .int 0, .int 0, .ref a10, .ref a11, .ref a12, .ref a13, .int 0, .int 0, .ref a14, .ref a15, .ref a16, .ref a17, .int 0, .int 0, .ref a18, .ref a19, .ref a20, .ref a21])), (a4, .inl (k 1, 9, .inr (.inl (tL [] 0)))), (a10, .inl (k 1, 900, .inr (.inl (tL [] 0)))), (a11, .inl (k 0, 100, .inl (tI [] 0))), (a12, .inl (k 0, 100, .inl (tI [] 0))), (a13, .inl (k 0, 100, .inl (tI [] 0))), (a18, .inl (k 0, 4, .inl (tI [(-1), (-1), (-1), (-1)] 0)))]) (qI (BX11_lay_1 D k a0 a4 a10 a11 a12 a13 a18 a1 a2 a3 a5 a6 a7 a8 a9 a14 a15 a16 a17 a19 a20 a21 x0 x1 x2 (va_A [(a0, .inr (8, [.int 2, .int 0, .int 1, .int 0, .int 0, .int 0, .ref a1, .ref a2, .int 0, .int 0, .ref a3, .ref a4, .ref a5, .ref a6, .ref a7, .ref a8, .ref a9, .int 0, .int 0, .int 0, .ref a10, .ref a11, .ref a12, .ref a13, .int 0, .int 0, .ref a14, .ref a15, .ref a16, .ref a17, .int 0, .int 0, .ref a18, .ref a19, .ref a20, .ref a21])), (a4, .inl (k 1, 9, .inr (.inl (tL [] 0)))), (a10, .inl (k 1, 900, .inr (.inl (tL [] 0)))), (a11, .inl (k 0, 100, .inl (tI [] 0))), (a12, .inl (k 0, 100, .inl (tI [] 0))), (a13, .inl (k 0, 100, .inl (tI [] 0))), (a18, .inl (k 0, 4, .inl (tI [(-1), (-1), (-1), (-1)] 0)))] sz)) (va_A [(a0, .inr (8, [.int 2, .int 0, .int 1, .int 0, .int 0, .int 0, .ref a1, .ref a2, .int 0, .int 0, .ref a3, .ref a4, .ref a5, .ref a6, .ref a7, .ref a8, .ref a9, .int 0, .int 0, .int 0, .ref a10, .ref a11, .ref a12, .ref a13, .int 0, .int 0, .ref a14, .ref a15, .ref a16, .ref a17, .int 0, .int 0, .ref a18, .ref a19, .ref a20, .ref a21])), (a4, .inl (k 1, 9, .inr (.inl (tL [] 0)))), (a10, .inl (k 1, 900, .inr (.inl (tL [] 0)))), (a11, .inl (k 0, 100, .inl (tI [] 0))), (a12, .inl (k 0, 100, .inl (tI [] 0))), (a13, .inl (k 0, 100, .inl (tI [] 0))), (a18, .inl (k 0, 4, .inl (tI [(-1), (-1), (-1), (-1)] 0)))] sz)) 0 0 (va_A [(a0, .inr (8, [.int 2, .int 0, .int 1, .int 0, .int 0, .int 0, .ref a1, .ref a2, .int 0, .int 0, .ref a3, .ref a4, .ref a5, .ref a6, .ref a7, .ref a8, .ref a9, .int 0, .int 0, .int 0, .ref a10, .ref a11, .ref a12, .ref a13, .int 0, .int 0, .ref a14, .ref a15, .ref a16, .ref a17, .int 0, .int 0, .ref a18, .ref a19, .ref a20, .ref a21])), (a4, .inl (k 1, 9, .inr (.inl (tL [] 0)))), (a10, .inl (k 1, 900, .inr (.inl (tL [] 0)))), (a11, .inl (k 0, 100, .inl (tI [] 0))), (a12, .inl (k 0, 100, .inl (tI [] 0))), (a13, .inl (k 0, 100, .inl (tI [] 0))), (a18, .inl (k 0, 4, .inl (tI [(-1), (-1), (-1), (-1)] 0)))] sz) := by
  refine begin_ (Qc := fun A => qI (BX11_lay_1 D k a0 a4 a10 a11 a12 a13 a18 a1 a2 a3 a5 a6 a7 a8 a9 a14 a15 a16 a17 a19 a20 a21 x0 x1 x2 A) A) (by decide) (Nat.le_of_ble_eq_true rfl) ?_
  intro p e s m below meth c ls A hx hb hr hml hown hlocks hin hU hK hsz hP hD hS hA hl
  have hl : lv_has ls 6 [(0, .ref a0), (1, .int x0), (2, .int x1), (3, .int x2)] := hl
  clear hsz
  refine lv_aload_n hx hb dX11_lay_0 rfl (lv_at hl 0 rfl) ?_
  refine cV (rV (q0 := 0) (ci := 8) (As := []) (rest := []) (wc := [(a0, .inr (8, [.int 2, .int 0, .int 1, .int 0, .int 0, .int 0, .ref a1, .ref a2, .int 0, .int 0, .ref a3, .ref a4, .ref a5, .ref a6, .ref a7, .ref a8, .ref a9, .int 0, .int 0, .int 0, .ref a10, .ref a11, .ref a12, .ref a13, .int 0, .int 0, .ref a14, .ref a15, .ref a16, .ref a17, .int 0, .int 0, .ref a18, .ref a19, .ref a20, .ref a21])), (a4, .inl (k 1, 9, .inr (.inl (tL [] 0)))), (a10, .inl (k 1, 900, .inr (.inl (tL [] 0)))), (a11, .inl (k 0, 100, .inl (tI [] 0))), (a12, .inl (k 0, 100, .inl (tI [] 0))), (a13, .inl (k 0, 100, .inl (tI [] 0)))]) hx hb hml hown hU hK hP hD rfl rfl [0, 1, 2, 3, 4, 5] rfl (by decide) (cX11_findList_1 l D k _ a0 a4 a10 a11 a12 a13 a1 a2 a3 a5 a6 a7 a8 a9 a14 a15 a16 a17 a18 a19 a20 a21) w1039 w1036 w1038 w47 w72 hdX11_findList ⟨rfl, rfl⟩ ⟨Nat.le_of_ble_eq_true rfl, Nat.le_of_ble_eq_true rfl⟩ rfl hl.1 (Nat.le_of_ble_eq_true rfl) dX11_lay_1 ⟨Nat.le_of_ble_eq_true rfl, Nat.le_of_ble_eq_true rfl⟩) hP hD hS hA (wr := [(a18, .inl (k 0, 4, .inl (tI [(-1), (-1), (-1), (-1)] 0)))]) [0, 1, 2, 3, 4, 5] [6] rfl rfl (by decide) (by decide) (fun H locs hB J hS => ?_)
  obtain ⟨hP1, hD1⟩ := hB
  obtain ⟨hP, hD⟩ := J _ hP1 hD1
  have hP : va_P D cl0 [(a18, .inl (k 0, 4, .inl (tI [(-1), (-1), (-1), (-1)] 0))), (a0, .inr (8, [.int 2, .int 0, .int 1, .int 0, .int 0, .int 0, .ref a1, .ref a2, .int 0, .int 1, .ref a3, .ref a4, .ref a5, .ref a6, .ref a7, .ref a8, .ref a9, .int 0, .int 0, .int 0, .ref a10, .ref a11, .ref a12, .ref a13, .int 1, .int 1, .ref a14, .ref a15, .ref a16, .ref a17, .int 0, .int 0, .ref a18, .ref a19, .ref a20, .ref a21])), (a4, .inl (k 1, 9, .inr (.inl (tL [1, 0, 0, 0, 1, 0, 0, 0, 0] 0)))), (a10, .inl (k 1, 900, .inr (.inl (tL [1, 0, 0, 0, 1, 0, 0, 0, 0] 0)))), (a11, .inl (k 0, 100, .inl (tI [(-3)] 0))), (a12, .inl (k 0, 100, .inl (tI [(-3)] 0))), (a13, .inl (k 0, 100, .inl (tI [0] 0)))] H := hP
  have hD : va_D A [(a18, .inl (k 0, 4, .inl (tI [(-1), (-1), (-1), (-1)] 0))), (a0, .inr (8, [.int 2, .int 0, .int 1, .int 0, .int 0, .int 0, .ref a1, .ref a2, .int 0, .int 1, .ref a3, .ref a4, .ref a5, .ref a6, .ref a7, .ref a8, .ref a9, .int 0, .int 0, .int 0, .ref a10, .ref a11, .ref a12, .ref a13, .int 1, .int 1, .ref a14, .ref a15, .ref a16, .ref a17, .int 0, .int 0, .ref a18, .ref a19, .ref a20, .ref a21])), (a4, .inl (k 1, 9, .inr (.inl (tL [1, 0, 0, 0, 1, 0, 0, 0, 0] 0)))), (a10, .inl (k 1, 900, .inr (.inl (tL [1, 0, 0, 0, 1, 0, 0, 0, 0] 0)))), (a11, .inl (k 0, 100, .inl (tI [(-3)] 0))), (a12, .inl (k 0, 100, .inl (tI [(-3)] 0))), (a13, .inl (k 0, 100, .inl (tI [0] 0)))] := hD
  refine lv_iload_n hx hb dX11_lay_4 rfl (lv_at hl 1 rfl) ?_
  refine lv_i2l (v := x0.toInt64) hx hb dX11_lay_5 rfl ?_
  refine lv_lconst (v := 0) hx hb dX11_lay_6 (by decide) ?_
  refine lv_aload_n hx hb dX11_lay_7 rfl (lv_at hl 0 rfl) ?_
  refine va_get (D := D) (ci := 8) (v := .int 1) (C := RX11) (T := TX11) (N := 36) hx hb hU iX11 hown hK.1 hP 1 rfl rfl 24 (by decide) (hU _ w809) (fun _ h9 => h9) rfl dX11_lay_8 ?_
  refine lv_iconst (v := 1) hx hb dX11_lay_11 (by decide) ?_
  refine lv_isub hx hb dX11_lay_12 (sv_i (v := 0) (by decide +kernel) ?_)
  refine lv_i2l (v := 0) hx hb dX11_lay_13 (by decide +kernel) ?_
  refine cI (rS (As := [.long x0.toInt64, .long 0, .long 0]) (rest := []) (wc := []) hx hb hml hown hU hK hP hD [] rfl (by decide) (cX11_in_10 l D k _ (x0.toInt64)) w901 w899 w900 w72 hdX11_in ⟨rfl, rfl⟩ ⟨Nat.le_of_ble_eq_true rfl, Nat.le_of_ble_eq_true rfl⟩ rfl hl.1 (Nat.le_of_ble_eq_true rfl) dX11_lay_14 ⟨Nat.le_of_ble_eq_true rfl, Nat.le_of_ble_eq_true rfl⟩) hP hD hS hA (wr := [(a18, .inl (k 0, 4, .inl (tI [(-1), (-1), (-1), (-1)] 0))), (a0, .inr (8, [.int 2, .int 0, .int 1, .int 0, .int 0, .int 0, .ref a1, .ref a2, .int 0, .int 1, .ref a3, .ref a4, .ref a5, .ref a6, .ref a7, .ref a8, .ref a9, .int 0, .int 0, .int 0, .ref a10, .ref a11, .ref a12, .ref a13, .int 1, .int 1, .ref a14, .ref a15, .ref a16, .ref a17, .int 0, .int 0, .ref a18, .ref a19, .ref a20, .ref a21])), (a4, .inl (k 1, 9, .inr (.inl (tL [1, 0, 0, 0, 1, 0, 0, 0, 0] 0)))), (a10, .inl (k 1, 900, .inr (.inl (tL [1, 0, 0, 0, 1, 0, 0, 0, 0] 0)))), (a11, .inl (k 0, 100, .inl (tI [(-3)] 0))), (a12, .inl (k 0, 100, .inl (tI [(-3)] 0))), (a13, .inl (k 0, 100, .inl (tI [0] 0)))]) [] [0, 1, 2, 3, 4, 5, 6] rfl rfl (by decide) (by decide) (fun r2 H locs hB J hS => ?_)
  rcases hB with ⟨c_3, rfl, hP1, hD1⟩ | ⟨c_4, c_5, rfl, hP1, hD1⟩ | ⟨c_6, c_7, rfl, hP1, hD1⟩
  · skip
    obtain ⟨hP, hD⟩ := J _ hP1 hD1
    have hP : va_P D cl0 [(a18, .inl (k 0, 4, .inl (tI [(-1), (-1), (-1), (-1)] 0))), (a0, .inr (8, [.int 2, .int 0, .int 1, .int 0, .int 0, .int 0, .ref a1, .ref a2, .int 0, .int 1, .ref a3, .ref a4, .ref a5, .ref a6, .ref a7, .ref a8, .ref a9, .int 0, .int 0, .int 0, .ref a10, .ref a11, .ref a12, .ref a13, .int 1, .int 1, .ref a14, .ref a15, .ref a16, .ref a17, .int 0, .int 0, .ref a18, .ref a19, .ref a20, .ref a21])), (a4, .inl (k 1, 9, .inr (.inl (tL [1, 0, 0, 0, 1, 0, 0, 0, 0] 0)))), (a10, .inl (k 1, 900, .inr (.inl (tL [1, 0, 0, 0, 1, 0, 0, 0, 0] 0)))), (a11, .inl (k 0, 100, .inl (tI [(-3)] 0))), (a12, .inl (k 0, 100, .inl (tI [(-3)] 0))), (a13, .inl (k 0, 100, .inl (tI [0] 0)))] H := hP
    have hD : va_D A [(a18, .inl (k 0, 4, .inl (tI [(-1), (-1), (-1), (-1)] 0))), (a0, .inr (8, [.int 2, .int 0, .int 1, .int 0, .int 0, .int 0, .ref a1, .ref a2, .int 0, .int 1, .ref a3, .ref a4, .ref a5, .ref a6, .ref a7, .ref a8, .ref a9, .int 0, .int 0, .int 0, .ref a10, .ref a11, .ref a12, .ref a13, .int 1, .int 1, .ref a14, .ref a15, .ref a16, .ref a17, .int 0, .int 0, .ref a18, .ref a19, .ref a20, .ref a21])), (a4, .inl (k 1, 9, .inr (.inl (tL [1, 0, 0, 0, 1, 0, 0, 0, 0] 0)))), (a10, .inl (k 1, 900, .inr (.inl (tL [1, 0, 0, 0, 1, 0, 0, 0, 0] 0)))), (a11, .inl (k 0, 100, .inl (tI [(-3)] 0))), (a12, .inl (k 0, 100, .inl (tI [(-3)] 0))), (a13, .inl (k 0, 100, .inl (tI [0] 0)))] := hD
    refine lv_if_eq (tgt := 27) hx hb dX11_lay_17 (by decide) (fun _ => ?_) (fun cc => absurd (by decide +kernel) cc)
    refine lv_iconst (v := (-1)) hx hb dX11_lay_27 (by decide) ?_
    exact retI (v := (-1)) hx hb hr hlocks hS (show ((-1) : Int32) = F_lay x0 x1 x2 by first | decide +kernel | (have f0 := dv_lt (x := x0.toInt) (y := 0) c_3 (wd x0) (by decide +kernel); unfold F_lay; (repeat (first | rw [if_pos (by omega)] | rw [if_neg (by omega)])))) dX11_lay_28
  · skip
    obtain ⟨hP, hD⟩ := J _ hP1 hD1
    have hP : va_P D cl0 [(a18, .inl (k 0, 4, .inl (tI [(-1), (-1), (-1), (-1)] 0))), (a0, .inr (8, [.int 2, .int 0, .int 1, .int 0, .int 0, .int 0, .ref a1, .ref a2, .int 0, .int 1, .ref a3, .ref a4, .ref a5, .ref a6, .ref a7, .ref a8, .ref a9, .int 0, .int 0, .int 0, .ref a10, .ref a11, .ref a12, .ref a13, .int 1, .int 1, .ref a14, .ref a15, .ref a16, .ref a17, .int 0, .int 0, .ref a18, .ref a19, .ref a20, .ref a21])), (a4, .inl (k 1, 9, .inr (.inl (tL [1, 0, 0, 0, 1, 0, 0, 0, 0] 0)))), (a10, .inl (k 1, 900, .inr (.inl (tL [1, 0, 0, 0, 1, 0, 0, 0, 0] 0)))), (a11, .inl (k 0, 100, .inl (tI [(-3)] 0))), (a12, .inl (k 0, 100, .inl (tI [(-3)] 0))), (a13, .inl (k 0, 100, .inl (tI [0] 0)))] H := hP
    have hD : va_D A [(a18, .inl (k 0, 4, .inl (tI [(-1), (-1), (-1), (-1)] 0))), (a0, .inr (8, [.int 2, .int 0, .int 1, .int 0, .int 0, .int 0, .ref a1, .ref a2, .int 0, .int 1, .ref a3, .ref a4, .ref a5, .ref a6, .ref a7, .ref a8, .ref a9, .int 0, .int 0, .int 0, .ref a10, .ref a11, .ref a12, .ref a13, .int 1, .int 1, .ref a14, .ref a15, .ref a16, .ref a17, .int 0, .int 0, .ref a18, .ref a19, .ref a20, .ref a21])), (a4, .inl (k 1, 9, .inr (.inl (tL [1, 0, 0, 0, 1, 0, 0, 0, 0] 0)))), (a10, .inl (k 1, 900, .inr (.inl (tL [1, 0, 0, 0, 1, 0, 0, 0, 0] 0)))), (a11, .inl (k 0, 100, .inl (tI [(-3)] 0))), (a12, .inl (k 0, 100, .inl (tI [(-3)] 0))), (a13, .inl (k 0, 100, .inl (tI [0] 0)))] := hD
    refine lv_if_eq (tgt := 27) hx hb dX11_lay_17 (by decide) (fun _ => ?_) (fun cc => absurd (by decide +kernel) cc)
    refine lv_iconst (v := (-1)) hx hb dX11_lay_27 (by decide) ?_
    exact retI (v := (-1)) hx hb hr hlocks hS (show ((-1) : Int32) = F_lay x0 x1 x2 by first | decide +kernel | (have f0 := dv_nlt (x := x0.toInt) (y := 0) c_4 (wd x0) (by decide +kernel); have f1 := dv_lt (x := 0) (y := x0.toInt) c_5 (by decide +kernel) (wd x0); unfold F_lay; (repeat (first | rw [if_pos (by omega)] | rw [if_neg (by omega)])))) dX11_lay_28
  · skip
    obtain ⟨hP, hD⟩ := J _ hP1 hD1
    have hP : va_P D cl0 [(a18, .inl (k 0, 4, .inl (tI [(-1), (-1), (-1), (-1)] 0))), (a0, .inr (8, [.int 2, .int 0, .int 1, .int 0, .int 0, .int 0, .ref a1, .ref a2, .int 0, .int 1, .ref a3, .ref a4, .ref a5, .ref a6, .ref a7, .ref a8, .ref a9, .int 0, .int 0, .int 0, .ref a10, .ref a11, .ref a12, .ref a13, .int 1, .int 1, .ref a14, .ref a15, .ref a16, .ref a17, .int 0, .int 0, .ref a18, .ref a19, .ref a20, .ref a21])), (a4, .inl (k 1, 9, .inr (.inl (tL [1, 0, 0, 0, 1, 0, 0, 0, 0] 0)))), (a10, .inl (k 1, 900, .inr (.inl (tL [1, 0, 0, 0, 1, 0, 0, 0, 0] 0)))), (a11, .inl (k 0, 100, .inl (tI [(-3)] 0))), (a12, .inl (k 0, 100, .inl (tI [(-3)] 0))), (a13, .inl (k 0, 100, .inl (tI [0] 0)))] H := hP
    have hD : va_D A [(a18, .inl (k 0, 4, .inl (tI [(-1), (-1), (-1), (-1)] 0))), (a0, .inr (8, [.int 2, .int 0, .int 1, .int 0, .int 0, .int 0, .ref a1, .ref a2, .int 0, .int 1, .ref a3, .ref a4, .ref a5, .ref a6, .ref a7, .ref a8, .ref a9, .int 0, .int 0, .int 0, .ref a10, .ref a11, .ref a12, .ref a13, .int 1, .int 1, .ref a14, .ref a15, .ref a16, .ref a17, .int 0, .int 0, .ref a18, .ref a19, .ref a20, .ref a21])), (a4, .inl (k 1, 9, .inr (.inl (tL [1, 0, 0, 0, 1, 0, 0, 0, 0] 0)))), (a10, .inl (k 1, 900, .inr (.inl (tL [1, 0, 0, 0, 1, 0, 0, 0, 0] 0)))), (a11, .inl (k 0, 100, .inl (tI [(-3)] 0))), (a12, .inl (k 0, 100, .inl (tI [(-3)] 0))), (a13, .inl (k 0, 100, .inl (tI [0] 0)))] := hD
    refine lv_if_eq (tgt := 27) hx hb dX11_lay_17 (by decide) (fun cc => absurd cc (by decide +kernel)) (fun _ => ?_)
    refine lv_iload_n hx hb dX11_lay_20 rfl (lv_at hl 2 rfl) ?_
    refine cI (rS (As := [.int x1]) (rest := []) (wc := []) hx hb hml hown hU hK hP hD [] rfl (by decide) (cX11_isSheet_1 l D k _ (x1)) w1101 w1099 w1100 w72 hdX11_isSheet ⟨rfl, rfl⟩ ⟨Nat.le_of_ble_eq_true rfl, Nat.le_of_ble_eq_true rfl⟩ rfl hl.1 (Nat.le_of_ble_eq_true rfl) dX11_lay_21 ⟨Nat.le_of_ble_eq_true rfl, Nat.le_of_ble_eq_true rfl⟩) hP hD hS hA (wr := [(a18, .inl (k 0, 4, .inl (tI [(-1), (-1), (-1), (-1)] 0))), (a0, .inr (8, [.int 2, .int 0, .int 1, .int 0, .int 0, .int 0, .ref a1, .ref a2, .int 0, .int 1, .ref a3, .ref a4, .ref a5, .ref a6, .ref a7, .ref a8, .ref a9, .int 0, .int 0, .int 0, .ref a10, .ref a11, .ref a12, .ref a13, .int 1, .int 1, .ref a14, .ref a15, .ref a16, .ref a17, .int 0, .int 0, .ref a18, .ref a19, .ref a20, .ref a21])), (a4, .inl (k 1, 9, .inr (.inl (tL [1, 0, 0, 0, 1, 0, 0, 0, 0] 0)))), (a10, .inl (k 1, 900, .inr (.inl (tL [1, 0, 0, 0, 1, 0, 0, 0, 0] 0)))), (a11, .inl (k 0, 100, .inl (tI [(-3)] 0))), (a12, .inl (k 0, 100, .inl (tI [(-3)] 0))), (a13, .inl (k 0, 100, .inl (tI [0] 0)))]) [] [0, 1, 2, 3, 4, 5, 6] rfl rfl (by decide) (by decide) (fun r8 H locs hB J hS => ?_)
    rcases hB with ⟨c_9, rfl, hP1, hD1⟩ | ⟨c_10, c_11, rfl, hP1, hD1⟩ | ⟨c_12, c_13, rfl, hP1, hD1⟩
    · skip
      obtain ⟨hP, hD⟩ := J _ hP1 hD1
      have hP : va_P D cl0 [(a18, .inl (k 0, 4, .inl (tI [(-1), (-1), (-1), (-1)] 0))), (a0, .inr (8, [.int 2, .int 0, .int 1, .int 0, .int 0, .int 0, .ref a1, .ref a2, .int 0, .int 1, .ref a3, .ref a4, .ref a5, .ref a6, .ref a7, .ref a8, .ref a9, .int 0, .int 0, .int 0, .ref a10, .ref a11, .ref a12, .ref a13, .int 1, .int 1, .ref a14, .ref a15, .ref a16, .ref a17, .int 0, .int 0, .ref a18, .ref a19, .ref a20, .ref a21])), (a4, .inl (k 1, 9, .inr (.inl (tL [1, 0, 0, 0, 1, 0, 0, 0, 0] 0)))), (a10, .inl (k 1, 900, .inr (.inl (tL [1, 0, 0, 0, 1, 0, 0, 0, 0] 0)))), (a11, .inl (k 0, 100, .inl (tI [(-3)] 0))), (a12, .inl (k 0, 100, .inl (tI [(-3)] 0))), (a13, .inl (k 0, 100, .inl (tI [0] 0)))] H := hP
      have hD : va_D A [(a18, .inl (k 0, 4, .inl (tI [(-1), (-1), (-1), (-1)] 0))), (a0, .inr (8, [.int 2, .int 0, .int 1, .int 0, .int 0, .int 0, .ref a1, .ref a2, .int 0, .int 1, .ref a3, .ref a4, .ref a5, .ref a6, .ref a7, .ref a8, .ref a9, .int 0, .int 0, .int 0, .ref a10, .ref a11, .ref a12, .ref a13, .int 1, .int 1, .ref a14, .ref a15, .ref a16, .ref a17, .int 0, .int 0, .ref a18, .ref a19, .ref a20, .ref a21])), (a4, .inl (k 1, 9, .inr (.inl (tL [1, 0, 0, 0, 1, 0, 0, 0, 0] 0)))), (a10, .inl (k 1, 900, .inr (.inl (tL [1, 0, 0, 0, 1, 0, 0, 0, 0] 0)))), (a11, .inl (k 0, 100, .inl (tI [(-3)] 0))), (a12, .inl (k 0, 100, .inl (tI [(-3)] 0))), (a13, .inl (k 0, 100, .inl (tI [0] 0)))] := hD
      refine lv_if_ne (tgt := 29) hx hb dX11_lay_24 (by decide) (fun cc => absurd (by decide +kernel) cc) (fun _ => ?_)
      refine lv_iconst (v := (-1)) hx hb dX11_lay_27 (by decide) ?_
      exact retI (v := (-1)) hx hb hr hlocks hS (show ((-1) : Int32) = F_lay x0 x1 x2 by first | decide +kernel | (have f0 := dv_nlt (x := x0.toInt) (y := 0) c_6 (wd x0) (by decide +kernel); have f1 := dv_nlt (x := 0) (y := x0.toInt) c_7 (by decide +kernel) (wd x0); have f2 := dv_lt (x := x1.toInt) (y := 0) c_9 (wd x1) (by decide +kernel); unfold F_lay; (repeat (first | rw [if_pos (by omega)] | rw [if_neg (by omega)])))) dX11_lay_28
    · skip
      obtain ⟨hP, hD⟩ := J _ hP1 hD1
      have hP : va_P D cl0 [(a18, .inl (k 0, 4, .inl (tI [(-1), (-1), (-1), (-1)] 0))), (a0, .inr (8, [.int 2, .int 0, .int 1, .int 0, .int 0, .int 0, .ref a1, .ref a2, .int 0, .int 1, .ref a3, .ref a4, .ref a5, .ref a6, .ref a7, .ref a8, .ref a9, .int 0, .int 0, .int 0, .ref a10, .ref a11, .ref a12, .ref a13, .int 1, .int 1, .ref a14, .ref a15, .ref a16, .ref a17, .int 0, .int 0, .ref a18, .ref a19, .ref a20, .ref a21])), (a4, .inl (k 1, 9, .inr (.inl (tL [1, 0, 0, 0, 1, 0, 0, 0, 0] 0)))), (a10, .inl (k 1, 900, .inr (.inl (tL [1, 0, 0, 0, 1, 0, 0, 0, 0] 0)))), (a11, .inl (k 0, 100, .inl (tI [(-3)] 0))), (a12, .inl (k 0, 100, .inl (tI [(-3)] 0))), (a13, .inl (k 0, 100, .inl (tI [0] 0)))] H := hP
      have hD : va_D A [(a18, .inl (k 0, 4, .inl (tI [(-1), (-1), (-1), (-1)] 0))), (a0, .inr (8, [.int 2, .int 0, .int 1, .int 0, .int 0, .int 0, .ref a1, .ref a2, .int 0, .int 1, .ref a3, .ref a4, .ref a5, .ref a6, .ref a7, .ref a8, .ref a9, .int 0, .int 0, .int 0, .ref a10, .ref a11, .ref a12, .ref a13, .int 1, .int 1, .ref a14, .ref a15, .ref a16, .ref a17, .int 0, .int 0, .ref a18, .ref a19, .ref a20, .ref a21])), (a4, .inl (k 1, 9, .inr (.inl (tL [1, 0, 0, 0, 1, 0, 0, 0, 0] 0)))), (a10, .inl (k 1, 900, .inr (.inl (tL [1, 0, 0, 0, 1, 0, 0, 0, 0] 0)))), (a11, .inl (k 0, 100, .inl (tI [(-3)] 0))), (a12, .inl (k 0, 100, .inl (tI [(-3)] 0))), (a13, .inl (k 0, 100, .inl (tI [0] 0)))] := hD
      refine lv_if_ne (tgt := 29) hx hb dX11_lay_24 (by decide) (fun cc => absurd (by decide +kernel) cc) (fun _ => ?_)
      refine lv_iconst (v := (-1)) hx hb dX11_lay_27 (by decide) ?_
      exact retI (v := (-1)) hx hb hr hlocks hS (show ((-1) : Int32) = F_lay x0 x1 x2 by first | decide +kernel | (have f0 := dv_nlt (x := x0.toInt) (y := 0) c_6 (wd x0) (by decide +kernel); have f1 := dv_nlt (x := 0) (y := x0.toInt) c_7 (by decide +kernel) (wd x0); have f2 := dv_nlt (x := x1.toInt) (y := 0) c_10 (wd x1) (by decide +kernel); have f3 := dv_lt (x := 3) (y := x1.toInt) c_11 (by decide +kernel) (wd x1); unfold F_lay; (repeat (first | rw [if_pos (by omega)] | rw [if_neg (by omega)])))) dX11_lay_28
    · skip
      obtain ⟨hP, hD⟩ := J _ hP1 hD1
      have hP : va_P D cl0 [(a18, .inl (k 0, 4, .inl (tI [(-1), (-1), (-1), (-1)] 0))), (a0, .inr (8, [.int 2, .int 0, .int 1, .int 0, .int 0, .int 0, .ref a1, .ref a2, .int 0, .int 1, .ref a3, .ref a4, .ref a5, .ref a6, .ref a7, .ref a8, .ref a9, .int 0, .int 0, .int 0, .ref a10, .ref a11, .ref a12, .ref a13, .int 1, .int 1, .ref a14, .ref a15, .ref a16, .ref a17, .int 0, .int 0, .ref a18, .ref a19, .ref a20, .ref a21])), (a4, .inl (k 1, 9, .inr (.inl (tL [1, 0, 0, 0, 1, 0, 0, 0, 0] 0)))), (a10, .inl (k 1, 900, .inr (.inl (tL [1, 0, 0, 0, 1, 0, 0, 0, 0] 0)))), (a11, .inl (k 0, 100, .inl (tI [(-3)] 0))), (a12, .inl (k 0, 100, .inl (tI [(-3)] 0))), (a13, .inl (k 0, 100, .inl (tI [0] 0)))] H := hP
      have hD : va_D A [(a18, .inl (k 0, 4, .inl (tI [(-1), (-1), (-1), (-1)] 0))), (a0, .inr (8, [.int 2, .int 0, .int 1, .int 0, .int 0, .int 0, .ref a1, .ref a2, .int 0, .int 1, .ref a3, .ref a4, .ref a5, .ref a6, .ref a7, .ref a8, .ref a9, .int 0, .int 0, .int 0, .ref a10, .ref a11, .ref a12, .ref a13, .int 1, .int 1, .ref a14, .ref a15, .ref a16, .ref a17, .int 0, .int 0, .ref a18, .ref a19, .ref a20, .ref a21])), (a4, .inl (k 1, 9, .inr (.inl (tL [1, 0, 0, 0, 1, 0, 0, 0, 0] 0)))), (a10, .inl (k 1, 900, .inr (.inl (tL [1, 0, 0, 0, 1, 0, 0, 0, 0] 0)))), (a11, .inl (k 0, 100, .inl (tI [(-3)] 0))), (a12, .inl (k 0, 100, .inl (tI [(-3)] 0))), (a13, .inl (k 0, 100, .inl (tI [0] 0)))] := hD
      refine lv_if_ne (tgt := 29) hx hb dX11_lay_24 (by decide) (fun _ => ?_) (fun cc => absurd cc (by decide +kernel))
      refine lv_aload_n hx hb dX11_lay_29 rfl (lv_at hl 0 rfl) ?_
      refine lv_iload_n hx hb dX11_lay_30 rfl (lv_at hl 2 rfl) ?_
      refine lv_iload_n hx hb dX11_lay_31 rfl (lv_at hl 3 rfl) ?_
      have hsp : x1.toInt = 0 ∨ x1.toInt = 1 ∨ x1.toInt = 2 ∨ x1.toInt = 3 := by
        have f0 := dv_nlt (x := x0.toInt) (y := 0) c_6 (wd x0) (by decide +kernel)
        have f1 := dv_nlt (x := 0) (y := x0.toInt) c_7 (by decide +kernel) (wd x0)
        have f2 := dv_nlt (x := x1.toInt) (y := 0) c_12 (wd x1) (by decide +kernel)
        have f3 := dv_nlt (x := 3) (y := x1.toInt) c_13 (by decide +kernel) (wd x1)
        omega
      rcases hsp with hsp | hsp | hsp | hsp
      · skip
        obtain rfl : x1 = 0 := eq32 hsp (by decide +kernel)
        refine cI (rV (q0 := 1) (ci := 8) (As := [.int 0, .int x2]) (rest := []) (wc := [(a0, .inr (8, [.int 2, .int 0, .int 1, .int 0, .int 0, .int 0, .ref a1, .ref a2, .int 0, .int 1, .ref a3, .ref a4, .ref a5, .ref a6, .ref a7, .ref a8, .ref a9, .int 0, .int 0, .int 0, .ref a10, .ref a11, .ref a12, .ref a13, .int 1, .int 1, .ref a14, .ref a15, .ref a16, .ref a17, .int 0, .int 0, .ref a18, .ref a19, .ref a20, .ref a21])), (a18, .inl (k 0, 4, .inl (tI [(-1), (-1), (-1), (-1)] 0)))]) hx hb hml hown hU hK hP hD rfl rfl [1, 0] rfl (by decide) (cX11_lacks_5 l D k _ a0 a18 a1 a2 a3 a4 a5 a6 a7 a8 a9 a10 a11 a12 a13 a14 a15 a16 a17 a19 a20 a21 (x2)) w1205 w1202 w1204 w61 w72 hdX11_lacks ⟨rfl, rfl⟩ ⟨Nat.le_of_ble_eq_true rfl, Nat.le_of_ble_eq_true rfl⟩ rfl hl.1 (Nat.le_of_ble_eq_true rfl) dX11_lay_32 ⟨Nat.le_of_ble_eq_true rfl, Nat.le_of_ble_eq_true rfl⟩) hP hD hS hA (wr := [(a4, .inl (k 1, 9, .inr (.inl (tL [1, 0, 0, 0, 1, 0, 0, 0, 0] 0)))), (a10, .inl (k 1, 900, .inr (.inl (tL [1, 0, 0, 0, 1, 0, 0, 0, 0] 0)))), (a11, .inl (k 0, 100, .inl (tI [(-3)] 0))), (a12, .inl (k 0, 100, .inl (tI [(-3)] 0))), (a13, .inl (k 0, 100, .inl (tI [0] 0)))]) [1, 0] [2, 3, 4, 5, 6] rfl rfl (by decide) (by decide) (fun r14 H locs hB J hS => ?_)
        obtain ⟨rfl, hP1, hD1⟩ := hB
        obtain ⟨hP, hD⟩ := J _ hP1 hD1
        have hP : va_P D cl0 [(a4, .inl (k 1, 9, .inr (.inl (tL [1, 0, 0, 0, 1, 0, 0, 0, 0] 0)))), (a10, .inl (k 1, 900, .inr (.inl (tL [1, 0, 0, 0, 1, 0, 0, 0, 0] 0)))), (a11, .inl (k 0, 100, .inl (tI [(-3)] 0))), (a12, .inl (k 0, 100, .inl (tI [(-3)] 0))), (a13, .inl (k 0, 100, .inl (tI [0] 0))), (a0, .inr (8, [.int 2, .int 0, .int 1, .int 0, .int 0, .int 0, .ref a1, .ref a2, .int 0, .int 1, .ref a3, .ref a4, .ref a5, .ref a6, .ref a7, .ref a8, .ref a9, .int 0, .int 0, .int 0, .ref a10, .ref a11, .ref a12, .ref a13, .int 1, .int 1, .ref a14, .ref a15, .ref a16, .ref a17, .int 0, .int 0, .ref a18, .ref a19, .ref a20, .ref a21])), (a18, .inl (k 0, 4, .inl (tI [(-1), (-1), (-1), (-1)] 0)))] H := hP
        have hD : va_D A [(a4, .inl (k 1, 9, .inr (.inl (tL [1, 0, 0, 0, 1, 0, 0, 0, 0] 0)))), (a10, .inl (k 1, 900, .inr (.inl (tL [1, 0, 0, 0, 1, 0, 0, 0, 0] 0)))), (a11, .inl (k 0, 100, .inl (tI [(-3)] 0))), (a12, .inl (k 0, 100, .inl (tI [(-3)] 0))), (a13, .inl (k 0, 100, .inl (tI [0] 0))), (a0, .inr (8, [.int 2, .int 0, .int 1, .int 0, .int 0, .int 0, .ref a1, .ref a2, .int 0, .int 1, .ref a3, .ref a4, .ref a5, .ref a6, .ref a7, .ref a8, .ref a9, .int 0, .int 0, .int 0, .ref a10, .ref a11, .ref a12, .ref a13, .int 1, .int 1, .ref a14, .ref a15, .ref a16, .ref a17, .int 0, .int 0, .ref a18, .ref a19, .ref a20, .ref a21])), (a18, .inl (k 0, 4, .inl (tI [(-1), (-1), (-1), (-1)] 0)))] := hD
        refine lv_istore (lv' := [(4, .int (-11)), (0, .ref a0), (1, .int x0), (2, .int 0), (3, .int x2)]) hx hb dX11_lay_35 hl (by decide) rfl (fun ls hl => ?_)
        refine lv_iconst (v := 0) hx hb dX11_lay_37 (by decide) ?_
        refine lv_istore (lv' := [(5, .int 0), (4, .int (-11)), (0, .ref a0), (1, .int x0), (2, .int 0), (3, .int x2)]) hx hb dX11_lay_38 hl (by decide) rfl (fun ls hl => ?_)
        refine lv_iload hx hb dX11_lay_40 (lv_at hl 0 rfl) ?_
        refine lv_aload_n hx hb dX11_lay_42 rfl (lv_at hl 2 rfl) ?_
        refine va_get (D := D) (ci := 8) (v := .int 2) (C := RX11) (T := TX11) (N := 36) hx hb hU iX11 hown hK.1 hP 5 rfl rfl 0 (by decide) (hU _ w785) (fun _ h9 => h9) rfl dX11_lay_43 ?_
        refine lv_aload_n hx hb dX11_lay_46 rfl (lv_at hl 2 rfl) ?_
        refine va_get (D := D) (ci := 8) (v := .int 2) (C := RX11) (T := TX11) (N := 36) hx hb hU iX11 hown hK.1 hP 5 rfl rfl 0 (by decide) (hU _ w785) (fun _ h9 => h9) rfl dX11_lay_47 ?_
        refine lv_imul hx hb dX11_lay_50 (sv_i (v := 4) (by decide +kernel) ?_)
        refine lv_icmp_ge (tgt := 106) hx hb dX11_lay_51 (by decide) (fun cc => absurd cc (by decide +kernel)) (fun _ => ?_)
        refine lv_iload hx hb dX11_lay_54 (lv_at hl 1 rfl) ?_
        refine lv_if_ne (tgt := 106) hx hb dX11_lay_56 (by decide) (fun _ => ?_) (fun cc => absurd cc (by decide +kernel))
        refine lv_iload hx hb dX11_lay_106 (lv_at hl 1 rfl) ?_
        refine lv_if_ne (tgt := 123) hx hb dX11_lay_108 (by decide) (fun _ => ?_) (fun cc => absurd cc (by decide +kernel))
        refine lv_iload hx hb dX11_lay_123 (lv_at hl 1 rfl) ?_
        exact retI (v := (-11)) hx hb hr hlocks hS (show ((-11) : Int32) = F_lay x0 0 x2 by first | decide +kernel | (have f0 := dv_nlt (x := x0.toInt) (y := 0) c_6 (wd x0) (by decide +kernel); have f1 := dv_nlt (x := 0) (y := x0.toInt) c_7 (by decide +kernel) (wd x0); have g_0 : (0 : Int32).toInt = 0 := (by decide +kernel); unfold F_lay; (repeat (first | rw [if_pos (by omega)] | rw [if_neg (by omega)])))) dX11_lay_125
      · skip
        obtain rfl : x1 = 1 := eq32 hsp (by decide +kernel)
        refine cI (rV (q0 := 1) (ci := 8) (As := [.int 1, .int x2]) (rest := []) (wc := [(a0, .inr (8, [.int 2, .int 0, .int 1, .int 0, .int 0, .int 0, .ref a1, .ref a2, .int 0, .int 1, .ref a3, .ref a4, .ref a5, .ref a6, .ref a7, .ref a8, .ref a9, .int 0, .int 0, .int 0, .ref a10, .ref a11, .ref a12, .ref a13, .int 1, .int 1, .ref a14, .ref a15, .ref a16, .ref a17, .int 0, .int 0, .ref a18, .ref a19, .ref a20, .ref a21])), (a18, .inl (k 0, 4, .inl (tI [(-1), (-1), (-1), (-1)] 0)))]) hx hb hml hown hU hK hP hD rfl rfl [1, 0] rfl (by decide) (cX11_lacks_6 l D k _ a0 a18 a1 a2 a3 a4 a5 a6 a7 a8 a9 a10 a11 a12 a13 a14 a15 a16 a17 a19 a20 a21 (x2)) w1205 w1202 w1204 w61 w72 hdX11_lacks ⟨rfl, rfl⟩ ⟨Nat.le_of_ble_eq_true rfl, Nat.le_of_ble_eq_true rfl⟩ rfl hl.1 (Nat.le_of_ble_eq_true rfl) dX11_lay_32 ⟨Nat.le_of_ble_eq_true rfl, Nat.le_of_ble_eq_true rfl⟩) hP hD hS hA (wr := [(a4, .inl (k 1, 9, .inr (.inl (tL [1, 0, 0, 0, 1, 0, 0, 0, 0] 0)))), (a10, .inl (k 1, 900, .inr (.inl (tL [1, 0, 0, 0, 1, 0, 0, 0, 0] 0)))), (a11, .inl (k 0, 100, .inl (tI [(-3)] 0))), (a12, .inl (k 0, 100, .inl (tI [(-3)] 0))), (a13, .inl (k 0, 100, .inl (tI [0] 0)))]) [1, 0] [2, 3, 4, 5, 6] rfl rfl (by decide) (by decide) (fun r15 H locs hB J hS => ?_)
        obtain ⟨rfl, hP1, hD1⟩ := hB
        obtain ⟨hP, hD⟩ := J _ hP1 hD1
        have hP : va_P D cl0 [(a4, .inl (k 1, 9, .inr (.inl (tL [1, 0, 0, 0, 1, 0, 0, 0, 0] 0)))), (a10, .inl (k 1, 900, .inr (.inl (tL [1, 0, 0, 0, 1, 0, 0, 0, 0] 0)))), (a11, .inl (k 0, 100, .inl (tI [(-3)] 0))), (a12, .inl (k 0, 100, .inl (tI [(-3)] 0))), (a13, .inl (k 0, 100, .inl (tI [0] 0))), (a0, .inr (8, [.int 2, .int 0, .int 1, .int 0, .int 0, .int 0, .ref a1, .ref a2, .int 0, .int 1, .ref a3, .ref a4, .ref a5, .ref a6, .ref a7, .ref a8, .ref a9, .int 0, .int 0, .int 0, .ref a10, .ref a11, .ref a12, .ref a13, .int 1, .int 1, .ref a14, .ref a15, .ref a16, .ref a17, .int 0, .int 0, .ref a18, .ref a19, .ref a20, .ref a21])), (a18, .inl (k 0, 4, .inl (tI [(-1), (-1), (-1), (-1)] 0)))] H := hP
        have hD : va_D A [(a4, .inl (k 1, 9, .inr (.inl (tL [1, 0, 0, 0, 1, 0, 0, 0, 0] 0)))), (a10, .inl (k 1, 900, .inr (.inl (tL [1, 0, 0, 0, 1, 0, 0, 0, 0] 0)))), (a11, .inl (k 0, 100, .inl (tI [(-3)] 0))), (a12, .inl (k 0, 100, .inl (tI [(-3)] 0))), (a13, .inl (k 0, 100, .inl (tI [0] 0))), (a0, .inr (8, [.int 2, .int 0, .int 1, .int 0, .int 0, .int 0, .ref a1, .ref a2, .int 0, .int 1, .ref a3, .ref a4, .ref a5, .ref a6, .ref a7, .ref a8, .ref a9, .int 0, .int 0, .int 0, .ref a10, .ref a11, .ref a12, .ref a13, .int 1, .int 1, .ref a14, .ref a15, .ref a16, .ref a17, .int 0, .int 0, .ref a18, .ref a19, .ref a20, .ref a21])), (a18, .inl (k 0, 4, .inl (tI [(-1), (-1), (-1), (-1)] 0)))] := hD
        refine lv_istore (lv' := [(4, .int (-11)), (0, .ref a0), (1, .int x0), (2, .int 1), (3, .int x2)]) hx hb dX11_lay_35 hl (by decide) rfl (fun ls hl => ?_)
        refine lv_iconst (v := 0) hx hb dX11_lay_37 (by decide) ?_
        refine lv_istore (lv' := [(5, .int 0), (4, .int (-11)), (0, .ref a0), (1, .int x0), (2, .int 1), (3, .int x2)]) hx hb dX11_lay_38 hl (by decide) rfl (fun ls hl => ?_)
        refine lv_iload hx hb dX11_lay_40 (lv_at hl 0 rfl) ?_
        refine lv_aload_n hx hb dX11_lay_42 rfl (lv_at hl 2 rfl) ?_
        refine va_get (D := D) (ci := 8) (v := .int 2) (C := RX11) (T := TX11) (N := 36) hx hb hU iX11 hown hK.1 hP 5 rfl rfl 0 (by decide) (hU _ w785) (fun _ h9 => h9) rfl dX11_lay_43 ?_
        refine lv_aload_n hx hb dX11_lay_46 rfl (lv_at hl 2 rfl) ?_
        refine va_get (D := D) (ci := 8) (v := .int 2) (C := RX11) (T := TX11) (N := 36) hx hb hU iX11 hown hK.1 hP 5 rfl rfl 0 (by decide) (hU _ w785) (fun _ h9 => h9) rfl dX11_lay_47 ?_
        refine lv_imul hx hb dX11_lay_50 (sv_i (v := 4) (by decide +kernel) ?_)
        refine lv_icmp_ge (tgt := 106) hx hb dX11_lay_51 (by decide) (fun cc => absurd cc (by decide +kernel)) (fun _ => ?_)
        refine lv_iload hx hb dX11_lay_54 (lv_at hl 1 rfl) ?_
        refine lv_if_ne (tgt := 106) hx hb dX11_lay_56 (by decide) (fun _ => ?_) (fun cc => absurd cc (by decide +kernel))
        refine lv_iload hx hb dX11_lay_106 (lv_at hl 1 rfl) ?_
        refine lv_if_ne (tgt := 123) hx hb dX11_lay_108 (by decide) (fun _ => ?_) (fun cc => absurd cc (by decide +kernel))
        refine lv_iload hx hb dX11_lay_123 (lv_at hl 1 rfl) ?_
        exact retI (v := (-11)) hx hb hr hlocks hS (show ((-11) : Int32) = F_lay x0 1 x2 by first | decide +kernel | (have f0 := dv_nlt (x := x0.toInt) (y := 0) c_6 (wd x0) (by decide +kernel); have f1 := dv_nlt (x := 0) (y := x0.toInt) c_7 (by decide +kernel) (wd x0); have g_1 : (1 : Int32).toInt = 1 := (by decide +kernel); unfold F_lay; (repeat (first | rw [if_pos (by omega)] | rw [if_neg (by omega)])))) dX11_lay_125
      · skip
        obtain rfl : x1 = 2 := eq32 hsp (by decide +kernel)
        refine cI (rV (q0 := 1) (ci := 8) (As := [.int 2, .int x2]) (rest := []) (wc := [(a0, .inr (8, [.int 2, .int 0, .int 1, .int 0, .int 0, .int 0, .ref a1, .ref a2, .int 0, .int 1, .ref a3, .ref a4, .ref a5, .ref a6, .ref a7, .ref a8, .ref a9, .int 0, .int 0, .int 0, .ref a10, .ref a11, .ref a12, .ref a13, .int 1, .int 1, .ref a14, .ref a15, .ref a16, .ref a17, .int 0, .int 0, .ref a18, .ref a19, .ref a20, .ref a21])), (a18, .inl (k 0, 4, .inl (tI [(-1), (-1), (-1), (-1)] 0)))]) hx hb hml hown hU hK hP hD rfl rfl [1, 0] rfl (by decide) (cX11_lacks_7 l D k _ a0 a18 a1 a2 a3 a4 a5 a6 a7 a8 a9 a10 a11 a12 a13 a14 a15 a16 a17 a19 a20 a21 (x2)) w1205 w1202 w1204 w61 w72 hdX11_lacks ⟨rfl, rfl⟩ ⟨Nat.le_of_ble_eq_true rfl, Nat.le_of_ble_eq_true rfl⟩ rfl hl.1 (Nat.le_of_ble_eq_true rfl) dX11_lay_32 ⟨Nat.le_of_ble_eq_true rfl, Nat.le_of_ble_eq_true rfl⟩) hP hD hS hA (wr := [(a4, .inl (k 1, 9, .inr (.inl (tL [1, 0, 0, 0, 1, 0, 0, 0, 0] 0)))), (a10, .inl (k 1, 900, .inr (.inl (tL [1, 0, 0, 0, 1, 0, 0, 0, 0] 0)))), (a11, .inl (k 0, 100, .inl (tI [(-3)] 0))), (a12, .inl (k 0, 100, .inl (tI [(-3)] 0))), (a13, .inl (k 0, 100, .inl (tI [0] 0)))]) [1, 0] [2, 3, 4, 5, 6] rfl rfl (by decide) (by decide) (fun r16 H locs hB J hS => ?_)
        obtain ⟨rfl, hP1, hD1⟩ := hB
        obtain ⟨hP, hD⟩ := J _ hP1 hD1
        have hP : va_P D cl0 [(a4, .inl (k 1, 9, .inr (.inl (tL [1, 0, 0, 0, 1, 0, 0, 0, 0] 0)))), (a10, .inl (k 1, 900, .inr (.inl (tL [1, 0, 0, 0, 1, 0, 0, 0, 0] 0)))), (a11, .inl (k 0, 100, .inl (tI [(-3)] 0))), (a12, .inl (k 0, 100, .inl (tI [(-3)] 0))), (a13, .inl (k 0, 100, .inl (tI [0] 0))), (a0, .inr (8, [.int 2, .int 0, .int 1, .int 0, .int 0, .int 0, .ref a1, .ref a2, .int 0, .int 1, .ref a3, .ref a4, .ref a5, .ref a6, .ref a7, .ref a8, .ref a9, .int 0, .int 0, .int 0, .ref a10, .ref a11, .ref a12, .ref a13, .int 1, .int 1, .ref a14, .ref a15, .ref a16, .ref a17, .int 0, .int 0, .ref a18, .ref a19, .ref a20, .ref a21])), (a18, .inl (k 0, 4, .inl (tI [(-1), (-1), (-1), (-1)] 0)))] H := hP
        have hD : va_D A [(a4, .inl (k 1, 9, .inr (.inl (tL [1, 0, 0, 0, 1, 0, 0, 0, 0] 0)))), (a10, .inl (k 1, 900, .inr (.inl (tL [1, 0, 0, 0, 1, 0, 0, 0, 0] 0)))), (a11, .inl (k 0, 100, .inl (tI [(-3)] 0))), (a12, .inl (k 0, 100, .inl (tI [(-3)] 0))), (a13, .inl (k 0, 100, .inl (tI [0] 0))), (a0, .inr (8, [.int 2, .int 0, .int 1, .int 0, .int 0, .int 0, .ref a1, .ref a2, .int 0, .int 1, .ref a3, .ref a4, .ref a5, .ref a6, .ref a7, .ref a8, .ref a9, .int 0, .int 0, .int 0, .ref a10, .ref a11, .ref a12, .ref a13, .int 1, .int 1, .ref a14, .ref a15, .ref a16, .ref a17, .int 0, .int 0, .ref a18, .ref a19, .ref a20, .ref a21])), (a18, .inl (k 0, 4, .inl (tI [(-1), (-1), (-1), (-1)] 0)))] := hD
        refine lv_istore (lv' := [(4, .int (-11)), (0, .ref a0), (1, .int x0), (2, .int 2), (3, .int x2)]) hx hb dX11_lay_35 hl (by decide) rfl (fun ls hl => ?_)
        refine lv_iconst (v := 0) hx hb dX11_lay_37 (by decide) ?_
        refine lv_istore (lv' := [(5, .int 0), (4, .int (-11)), (0, .ref a0), (1, .int x0), (2, .int 2), (3, .int x2)]) hx hb dX11_lay_38 hl (by decide) rfl (fun ls hl => ?_)
        refine lv_iload hx hb dX11_lay_40 (lv_at hl 0 rfl) ?_
        refine lv_aload_n hx hb dX11_lay_42 rfl (lv_at hl 2 rfl) ?_
        refine va_get (D := D) (ci := 8) (v := .int 2) (C := RX11) (T := TX11) (N := 36) hx hb hU iX11 hown hK.1 hP 5 rfl rfl 0 (by decide) (hU _ w785) (fun _ h9 => h9) rfl dX11_lay_43 ?_
        refine lv_aload_n hx hb dX11_lay_46 rfl (lv_at hl 2 rfl) ?_
        refine va_get (D := D) (ci := 8) (v := .int 2) (C := RX11) (T := TX11) (N := 36) hx hb hU iX11 hown hK.1 hP 5 rfl rfl 0 (by decide) (hU _ w785) (fun _ h9 => h9) rfl dX11_lay_47 ?_
        refine lv_imul hx hb dX11_lay_50 (sv_i (v := 4) (by decide +kernel) ?_)
        refine lv_icmp_ge (tgt := 106) hx hb dX11_lay_51 (by decide) (fun cc => absurd cc (by decide +kernel)) (fun _ => ?_)
        refine lv_iload hx hb dX11_lay_54 (lv_at hl 1 rfl) ?_
        refine lv_if_ne (tgt := 106) hx hb dX11_lay_56 (by decide) (fun _ => ?_) (fun cc => absurd cc (by decide +kernel))
        refine lv_iload hx hb dX11_lay_106 (lv_at hl 1 rfl) ?_
        refine lv_if_ne (tgt := 123) hx hb dX11_lay_108 (by decide) (fun _ => ?_) (fun cc => absurd cc (by decide +kernel))
        refine lv_iload hx hb dX11_lay_123 (lv_at hl 1 rfl) ?_
        exact retI (v := (-11)) hx hb hr hlocks hS (show ((-11) : Int32) = F_lay x0 2 x2 by first | decide +kernel | (have f0 := dv_nlt (x := x0.toInt) (y := 0) c_6 (wd x0) (by decide +kernel); have f1 := dv_nlt (x := 0) (y := x0.toInt) c_7 (by decide +kernel) (wd x0); have g_2 : (2 : Int32).toInt = 2 := (by decide +kernel); unfold F_lay; (repeat (first | rw [if_pos (by omega)] | rw [if_neg (by omega)])))) dX11_lay_125
      · skip
        obtain rfl : x1 = 3 := eq32 hsp (by decide +kernel)
        refine cI (rV (q0 := 1) (ci := 8) (As := [.int 3, .int x2]) (rest := []) (wc := [(a0, .inr (8, [.int 2, .int 0, .int 1, .int 0, .int 0, .int 0, .ref a1, .ref a2, .int 0, .int 1, .ref a3, .ref a4, .ref a5, .ref a6, .ref a7, .ref a8, .ref a9, .int 0, .int 0, .int 0, .ref a10, .ref a11, .ref a12, .ref a13, .int 1, .int 1, .ref a14, .ref a15, .ref a16, .ref a17, .int 0, .int 0, .ref a18, .ref a19, .ref a20, .ref a21])), (a18, .inl (k 0, 4, .inl (tI [(-1), (-1), (-1), (-1)] 0)))]) hx hb hml hown hU hK hP hD rfl rfl [1, 0] rfl (by decide) (cX11_lacks_8 l D k _ a0 a18 a1 a2 a3 a4 a5 a6 a7 a8 a9 a10 a11 a12 a13 a14 a15 a16 a17 a19 a20 a21 (x2)) w1205 w1202 w1204 w61 w72 hdX11_lacks ⟨rfl, rfl⟩ ⟨Nat.le_of_ble_eq_true rfl, Nat.le_of_ble_eq_true rfl⟩ rfl hl.1 (Nat.le_of_ble_eq_true rfl) dX11_lay_32 ⟨Nat.le_of_ble_eq_true rfl, Nat.le_of_ble_eq_true rfl⟩) hP hD hS hA (wr := [(a4, .inl (k 1, 9, .inr (.inl (tL [1, 0, 0, 0, 1, 0, 0, 0, 0] 0)))), (a10, .inl (k 1, 900, .inr (.inl (tL [1, 0, 0, 0, 1, 0, 0, 0, 0] 0)))), (a11, .inl (k 0, 100, .inl (tI [(-3)] 0))), (a12, .inl (k 0, 100, .inl (tI [(-3)] 0))), (a13, .inl (k 0, 100, .inl (tI [0] 0)))]) [1, 0] [2, 3, 4, 5, 6] rfl rfl (by decide) (by decide) (fun r17 H locs hB J hS => ?_)
        obtain ⟨rfl, hP1, hD1⟩ := hB
        obtain ⟨hP, hD⟩ := J _ hP1 hD1
        have hP : va_P D cl0 [(a4, .inl (k 1, 9, .inr (.inl (tL [1, 0, 0, 0, 1, 0, 0, 0, 0] 0)))), (a10, .inl (k 1, 900, .inr (.inl (tL [1, 0, 0, 0, 1, 0, 0, 0, 0] 0)))), (a11, .inl (k 0, 100, .inl (tI [(-3)] 0))), (a12, .inl (k 0, 100, .inl (tI [(-3)] 0))), (a13, .inl (k 0, 100, .inl (tI [0] 0))), (a0, .inr (8, [.int 2, .int 0, .int 1, .int 0, .int 0, .int 0, .ref a1, .ref a2, .int 0, .int 1, .ref a3, .ref a4, .ref a5, .ref a6, .ref a7, .ref a8, .ref a9, .int 0, .int 0, .int 0, .ref a10, .ref a11, .ref a12, .ref a13, .int 1, .int 1, .ref a14, .ref a15, .ref a16, .ref a17, .int 0, .int 0, .ref a18, .ref a19, .ref a20, .ref a21])), (a18, .inl (k 0, 4, .inl (tI [(-1), (-1), (-1), (-1)] 0)))] H := hP
        have hD : va_D A [(a4, .inl (k 1, 9, .inr (.inl (tL [1, 0, 0, 0, 1, 0, 0, 0, 0] 0)))), (a10, .inl (k 1, 900, .inr (.inl (tL [1, 0, 0, 0, 1, 0, 0, 0, 0] 0)))), (a11, .inl (k 0, 100, .inl (tI [(-3)] 0))), (a12, .inl (k 0, 100, .inl (tI [(-3)] 0))), (a13, .inl (k 0, 100, .inl (tI [0] 0))), (a0, .inr (8, [.int 2, .int 0, .int 1, .int 0, .int 0, .int 0, .ref a1, .ref a2, .int 0, .int 1, .ref a3, .ref a4, .ref a5, .ref a6, .ref a7, .ref a8, .ref a9, .int 0, .int 0, .int 0, .ref a10, .ref a11, .ref a12, .ref a13, .int 1, .int 1, .ref a14, .ref a15, .ref a16, .ref a17, .int 0, .int 0, .ref a18, .ref a19, .ref a20, .ref a21])), (a18, .inl (k 0, 4, .inl (tI [(-1), (-1), (-1), (-1)] 0)))] := hD
        refine lv_istore (lv' := [(4, .int (-11)), (0, .ref a0), (1, .int x0), (2, .int 3), (3, .int x2)]) hx hb dX11_lay_35 hl (by decide) rfl (fun ls hl => ?_)
        refine lv_iconst (v := 0) hx hb dX11_lay_37 (by decide) ?_
        refine lv_istore (lv' := [(5, .int 0), (4, .int (-11)), (0, .ref a0), (1, .int x0), (2, .int 3), (3, .int x2)]) hx hb dX11_lay_38 hl (by decide) rfl (fun ls hl => ?_)
        refine lv_iload hx hb dX11_lay_40 (lv_at hl 0 rfl) ?_
        refine lv_aload_n hx hb dX11_lay_42 rfl (lv_at hl 2 rfl) ?_
        refine va_get (D := D) (ci := 8) (v := .int 2) (C := RX11) (T := TX11) (N := 36) hx hb hU iX11 hown hK.1 hP 5 rfl rfl 0 (by decide) (hU _ w785) (fun _ h9 => h9) rfl dX11_lay_43 ?_
        refine lv_aload_n hx hb dX11_lay_46 rfl (lv_at hl 2 rfl) ?_
        refine va_get (D := D) (ci := 8) (v := .int 2) (C := RX11) (T := TX11) (N := 36) hx hb hU iX11 hown hK.1 hP 5 rfl rfl 0 (by decide) (hU _ w785) (fun _ h9 => h9) rfl dX11_lay_47 ?_
        refine lv_imul hx hb dX11_lay_50 (sv_i (v := 4) (by decide +kernel) ?_)
        refine lv_icmp_ge (tgt := 106) hx hb dX11_lay_51 (by decide) (fun cc => absurd cc (by decide +kernel)) (fun _ => ?_)
        refine lv_iload hx hb dX11_lay_54 (lv_at hl 1 rfl) ?_
        refine lv_if_ne (tgt := 106) hx hb dX11_lay_56 (by decide) (fun _ => ?_) (fun cc => absurd cc (by decide +kernel))
        refine lv_iload hx hb dX11_lay_106 (lv_at hl 1 rfl) ?_
        refine lv_if_ne (tgt := 123) hx hb dX11_lay_108 (by decide) (fun _ => ?_) (fun cc => absurd cc (by decide +kernel))
        refine lv_iload hx hb dX11_lay_123 (lv_at hl 1 rfl) ?_
        exact retI (v := (-11)) hx hb hr hlocks hS (show ((-11) : Int32) = F_lay x0 3 x2 by first | decide +kernel | (have f0 := dv_nlt (x := x0.toInt) (y := 0) c_6 (wd x0) (by decide +kernel); have f1 := dv_nlt (x := 0) (y := x0.toInt) c_7 (by decide +kernel) (wd x0); have g_3 : (3 : Int32).toInt = 3 := (by decide +kernel); unfold F_lay; (repeat (first | rw [if_pos (by omega)] | rw [if_neg (by omega)])))) dX11_lay_125
abbrev BX11_in_12 (D : va_G) (k : Nat → ClassId) (x0 : Int64) (A : Nat → Prop) (r : Int32) (H : Heap) : Prop := (x0 < (-1000) ∧ 0 = r ∧ va_P D cl0 [] H ∧ va_D A []) ∨ (¬ (x0 < (-1000)) ∧ 1000 < x0 ∧ 0 = r ∧ va_P D cl0 [] H ∧ va_D A []) ∨ (¬ (x0 < (-1000)) ∧ ¬ (1000 < x0) ∧ 1 = r ∧ va_P D cl0 [] H ∧ va_D A [])
set_option maxHeartbeats 4000000 in
set_option maxRecDepth 100000 in
theorem cX11_in_12 (l : Launch) (D : va_G) (k : Nat → ClassId) (sz : Nat) (x0 : Int64) : Met l yX11_in (Cond.code yX11_in cX11_in 6 (some .boolean) :: uw) ({ frames := 0, cells := 0, slots := 0, locals := 0 }) (pC D k sz [.long x0, .long (-1000), .long 1000] []) (qI (BX11_in_12 D k x0 (va_A [] sz)) (va_A [] sz)) 0 0 (va_A [] sz) := by
  refine begin_ (Qc := fun A => qI (BX11_in_12 D k x0 A) A) (by decide) (Nat.le_of_ble_eq_true rfl) ?_
  intro p e s m below meth c ls A hx hb hr hml hown hlocks hin hU hK hsz hP hD hS hA hl
  have hl : lv_has ls 6 [(0, .long x0), (2, .long (-1000)), (4, .long 1000)] := hl
  clear hsz
  refine lv_lload_n hx hb dX11_in_0 rfl (lv_at hl 0 rfl) ?_
  refine lv_lload_n hx hb dX11_in_1 rfl (lv_at hl 1 rfl) ?_
  refine W.lcmp hx hb dX11_in_2 ?_
  refine lv_if_lt (tgt := 17) hx hb dX11_in_3 (by decide) (fun c_1 => ?_) (fun c_1 => ?_)
  · skip
    have c_1 := (lg_cmp_lt _ _).mp c_1
    refine lv_iconst (v := 0) hx hb dX11_in_17 (by decide) ?_
    exact retZ (v := 0) hx hb hr hlocks hS (Or.inl ⟨c_1, rfl, hP, hD⟩) dX11_in_18 (by decide +kernel)
  · skip
    have c_1 := fun h9 => c_1 ((lg_cmp_lt _ _).mpr h9)
    refine lv_lload_n hx hb dX11_in_6 rfl (lv_at hl 0 rfl) ?_
    refine lv_lload hx hb dX11_in_7 (lv_at hl 2 rfl) ?_
    refine W.lcmp hx hb dX11_in_9 ?_
    refine lv_if_gt (tgt := 17) hx hb dX11_in_10 (by decide) (fun c_2 => ?_) (fun c_2 => ?_)
    · skip
      have c_2 := (lg_cmp_gt _ _).mp c_2
      refine lv_iconst (v := 0) hx hb dX11_in_17 (by decide) ?_
      exact retZ (v := 0) hx hb hr hlocks hS (Or.inr (Or.inl ⟨c_1, c_2, rfl, hP, hD⟩)) dX11_in_18 (by decide +kernel)
    · skip
      have c_2 := fun h9 => c_2 ((lg_cmp_gt _ _).mpr h9)
      refine lv_iconst (v := 1) hx hb dX11_in_13 (by decide) ?_
      refine lv_goto (tgt := 18) hx hb dX11_in_14 (by decide) ?_
      exact retZ (v := 1) hx hb hr hlocks hS (Or.inr (Or.inr (⟨c_1, c_2, rfl, hP, hD⟩))) dX11_in_18 (by decide +kernel)
abbrev BX11_isAsked_1 (D : va_G) (k : Nat → ClassId) (x0 : Int32) (x1 : Int32) (x2 : Int32) (A : Nat → Prop) (r : Int32) (H : Heap) : Prop := (x0.toInt64 < (-1000) ∧ 0 = r ∧ va_P D cl0 [] H ∧ va_D A []) ∨ (¬ (x0.toInt64 < (-1000)) ∧ 1000 < x0.toInt64 ∧ 0 = r ∧ va_P D cl0 [] H ∧ va_D A []) ∨ (¬ (x0.toInt64 < (-1000)) ∧ ¬ (1000 < x0.toInt64) ∧ x1.toInt64 < (-1000) ∧ 0 = r ∧ va_P D cl0 [] H ∧ va_D A []) ∨ (¬ (x0.toInt64 < (-1000)) ∧ ¬ (1000 < x0.toInt64) ∧ ¬ (x1.toInt64 < (-1000)) ∧ 1000 < x1.toInt64 ∧ 0 = r ∧ va_P D cl0 [] H ∧ va_D A []) ∨ (¬ (x0.toInt64 < (-1000)) ∧ ¬ (1000 < x0.toInt64) ∧ ¬ (x1.toInt64 < (-1000)) ∧ ¬ (1000 < x1.toInt64) ∧ x2.toInt64 < (-1000) ∧ 0 = r ∧ va_P D cl0 [] H ∧ va_D A []) ∨ (¬ (x0.toInt64 < (-1000)) ∧ ¬ (1000 < x0.toInt64) ∧ ¬ (x1.toInt64 < (-1000)) ∧ ¬ (1000 < x1.toInt64) ∧ ¬ (x2.toInt64 < (-1000)) ∧ 1000 < x2.toInt64 ∧ 0 = r ∧ va_P D cl0 [] H ∧ va_D A []) ∨ (¬ (x0.toInt64 < (-1000)) ∧ ¬ (1000 < x0.toInt64) ∧ ¬ (x1.toInt64 < (-1000)) ∧ ¬ (1000 < x1.toInt64) ∧ ¬ (x2.toInt64 < (-1000)) ∧ ¬ (1000 < x2.toInt64) ∧ 1 = r ∧ va_P D cl0 [] H ∧ va_D A [])
set_option maxHeartbeats 4000000 in
set_option maxRecDepth 100000 in
theorem cX11_isAsked_1 (l : Launch) (D : va_G) (k : Nat → ClassId) (sz : Nat) (x0 : Int32) (x1 : Int32) (x2 : Int32) : Met l yX11_isAsked (Cond.code yX11_isAsked cX11_isAsked 3 (some .boolean) :: uw) ({ frames := 1, cells := 0, slots := 0, locals := 25 }) (pC D k sz [.int x0, .int x1, .int x2] []) (qI (BX11_isAsked_1 D k x0 x1 x2 (va_A [] sz)) (va_A [] sz)) 0 0 (va_A [] sz) := by
  refine begin_ (Qc := fun A => qI (BX11_isAsked_1 D k x0 x1 x2 A) A) (by decide) (Nat.le_of_ble_eq_true rfl) ?_
  intro p e s m below meth c ls A hx hb hr hml hown hlocks hin hU hK hsz hP hD hS hA hl
  have hl : lv_has ls 3 [(0, .int x0), (1, .int x1), (2, .int x2)] := hl
  clear hsz
  refine lv_iload_n hx hb dX11_isAsked_0 rfl (lv_at hl 0 rfl) ?_
  refine lv_i2l (v := x0.toInt64) hx hb dX11_isAsked_1 rfl ?_
  refine lv_ldc2 hx hb hown (hU _ w1138) dX11_isAsked_2 ?_
  refine lv_ldc2 hx hb hown (hU _ w1139) dX11_isAsked_5 ?_
  refine cI (rS (As := [.long x0.toInt64, .long (-1000), .long 1000]) (rest := []) (wc := []) hx hb hml hown hU hK hP hD [] rfl (by decide) (cX11_in_12 l D k _ (x0.toInt64)) w901 w899 w900 w72 hdX11_in ⟨rfl, rfl⟩ ⟨Nat.le_of_ble_eq_true rfl, Nat.le_of_ble_eq_true rfl⟩ rfl hl.1 (Nat.le_of_ble_eq_true rfl) dX11_isAsked_8 ⟨Nat.le_of_ble_eq_true rfl, Nat.le_of_ble_eq_true rfl⟩) hP hD hS hA (wr := []) [] [] rfl rfl (by decide) (by decide) (fun r1 H locs hB J hS => ?_)
  rcases hB with ⟨c_2, rfl, hP1, hD1⟩ | ⟨c_3, c_4, rfl, hP1, hD1⟩ | ⟨c_5, c_6, rfl, hP1, hD1⟩
  · skip
    obtain ⟨hP, hD⟩ := J _ hP1 hD1
    have hP : va_P D cl0 [] H := hP
    have hD : va_D A [] := hD
    refine lv_if_eq (tgt := 46) hx hb dX11_isAsked_11 (by decide) (fun _ => ?_) (fun cc => absurd (by decide +kernel) cc)
    refine lv_iconst (v := 0) hx hb dX11_isAsked_46 (by decide) ?_
    exact retZ (v := 0) hx hb hr hlocks hS (Or.inl ⟨c_2, rfl, hP, hD⟩) dX11_isAsked_47 (by decide +kernel)
  · skip
    obtain ⟨hP, hD⟩ := J _ hP1 hD1
    have hP : va_P D cl0 [] H := hP
    have hD : va_D A [] := hD
    refine lv_if_eq (tgt := 46) hx hb dX11_isAsked_11 (by decide) (fun _ => ?_) (fun cc => absurd (by decide +kernel) cc)
    refine lv_iconst (v := 0) hx hb dX11_isAsked_46 (by decide) ?_
    exact retZ (v := 0) hx hb hr hlocks hS (Or.inr (Or.inl ⟨c_3, c_4, rfl, hP, hD⟩)) dX11_isAsked_47 (by decide +kernel)
  · skip
    obtain ⟨hP, hD⟩ := J _ hP1 hD1
    have hP : va_P D cl0 [] H := hP
    have hD : va_D A [] := hD
    refine lv_if_eq (tgt := 46) hx hb dX11_isAsked_11 (by decide) (fun cc => absurd cc (by decide +kernel)) (fun _ => ?_)
    refine lv_iload_n hx hb dX11_isAsked_14 rfl (lv_at hl 1 rfl) ?_
    refine lv_i2l (v := x1.toInt64) hx hb dX11_isAsked_15 rfl ?_
    refine lv_ldc2 hx hb hown (hU _ w1138) dX11_isAsked_16 ?_
    refine lv_ldc2 hx hb hown (hU _ w1139) dX11_isAsked_19 ?_
    refine cI (rS (As := [.long x1.toInt64, .long (-1000), .long 1000]) (rest := []) (wc := []) hx hb hml hown hU hK hP hD [] rfl (by decide) (cX11_in_12 l D k _ (x1.toInt64)) w901 w899 w900 w72 hdX11_in ⟨rfl, rfl⟩ ⟨Nat.le_of_ble_eq_true rfl, Nat.le_of_ble_eq_true rfl⟩ rfl hl.1 (Nat.le_of_ble_eq_true rfl) dX11_isAsked_22 ⟨Nat.le_of_ble_eq_true rfl, Nat.le_of_ble_eq_true rfl⟩) hP hD hS hA (wr := []) [] [] rfl rfl (by decide) (by decide) (fun r7 H locs hB J hS => ?_)
    rcases hB with ⟨c_8, rfl, hP1, hD1⟩ | ⟨c_9, c_10, rfl, hP1, hD1⟩ | ⟨c_11, c_12, rfl, hP1, hD1⟩
    · skip
      obtain ⟨hP, hD⟩ := J _ hP1 hD1
      have hP : va_P D cl0 [] H := hP
      have hD : va_D A [] := hD
      refine lv_if_eq (tgt := 46) hx hb dX11_isAsked_25 (by decide) (fun _ => ?_) (fun cc => absurd (by decide +kernel) cc)
      refine lv_iconst (v := 0) hx hb dX11_isAsked_46 (by decide) ?_
      exact retZ (v := 0) hx hb hr hlocks hS (Or.inr (Or.inr (Or.inl ⟨c_5, c_6, c_8, rfl, hP, hD⟩))) dX11_isAsked_47 (by decide +kernel)
    · skip
      obtain ⟨hP, hD⟩ := J _ hP1 hD1
      have hP : va_P D cl0 [] H := hP
      have hD : va_D A [] := hD
      refine lv_if_eq (tgt := 46) hx hb dX11_isAsked_25 (by decide) (fun _ => ?_) (fun cc => absurd (by decide +kernel) cc)
      refine lv_iconst (v := 0) hx hb dX11_isAsked_46 (by decide) ?_
      exact retZ (v := 0) hx hb hr hlocks hS (Or.inr (Or.inr (Or.inr (Or.inl ⟨c_5, c_6, c_9, c_10, rfl, hP, hD⟩)))) dX11_isAsked_47 (by decide +kernel)
    · skip
      obtain ⟨hP, hD⟩ := J _ hP1 hD1
      have hP : va_P D cl0 [] H := hP
      have hD : va_D A [] := hD
      refine lv_if_eq (tgt := 46) hx hb dX11_isAsked_25 (by decide) (fun cc => absurd cc (by decide +kernel)) (fun _ => ?_)
      refine lv_iload_n hx hb dX11_isAsked_28 rfl (lv_at hl 2 rfl) ?_
      refine lv_i2l (v := x2.toInt64) hx hb dX11_isAsked_29 rfl ?_
      refine lv_ldc2 hx hb hown (hU _ w1138) dX11_isAsked_30 ?_
      refine lv_ldc2 hx hb hown (hU _ w1139) dX11_isAsked_33 ?_
      refine cI (rS (As := [.long x2.toInt64, .long (-1000), .long 1000]) (rest := []) (wc := []) hx hb hml hown hU hK hP hD [] rfl (by decide) (cX11_in_12 l D k _ (x2.toInt64)) w901 w899 w900 w72 hdX11_in ⟨rfl, rfl⟩ ⟨Nat.le_of_ble_eq_true rfl, Nat.le_of_ble_eq_true rfl⟩ rfl hl.1 (Nat.le_of_ble_eq_true rfl) dX11_isAsked_36 ⟨Nat.le_of_ble_eq_true rfl, Nat.le_of_ble_eq_true rfl⟩) hP hD hS hA (wr := []) [] [] rfl rfl (by decide) (by decide) (fun r13 H locs hB J hS => ?_)
      rcases hB with ⟨c_14, rfl, hP1, hD1⟩ | ⟨c_15, c_16, rfl, hP1, hD1⟩ | ⟨c_17, c_18, rfl, hP1, hD1⟩
      · skip
        obtain ⟨hP, hD⟩ := J _ hP1 hD1
        have hP : va_P D cl0 [] H := hP
        have hD : va_D A [] := hD
        refine lv_if_eq (tgt := 46) hx hb dX11_isAsked_39 (by decide) (fun _ => ?_) (fun cc => absurd (by decide +kernel) cc)
        refine lv_iconst (v := 0) hx hb dX11_isAsked_46 (by decide) ?_
        exact retZ (v := 0) hx hb hr hlocks hS (Or.inr (Or.inr (Or.inr (Or.inr (Or.inl ⟨c_5, c_6, c_11, c_12, c_14, rfl, hP, hD⟩))))) dX11_isAsked_47 (by decide +kernel)
      · skip
        obtain ⟨hP, hD⟩ := J _ hP1 hD1
        have hP : va_P D cl0 [] H := hP
        have hD : va_D A [] := hD
        refine lv_if_eq (tgt := 46) hx hb dX11_isAsked_39 (by decide) (fun _ => ?_) (fun cc => absurd (by decide +kernel) cc)
        refine lv_iconst (v := 0) hx hb dX11_isAsked_46 (by decide) ?_
        exact retZ (v := 0) hx hb hr hlocks hS (Or.inr (Or.inr (Or.inr (Or.inr (Or.inr (Or.inl ⟨c_5, c_6, c_11, c_12, c_15, c_16, rfl, hP, hD⟩)))))) dX11_isAsked_47 (by decide +kernel)
      · skip
        obtain ⟨hP, hD⟩ := J _ hP1 hD1
        have hP : va_P D cl0 [] H := hP
        have hD : va_D A [] := hD
        refine lv_if_eq (tgt := 46) hx hb dX11_isAsked_39 (by decide) (fun cc => absurd cc (by decide +kernel)) (fun _ => ?_)
        refine lv_iconst (v := 1) hx hb dX11_isAsked_42 (by decide) ?_
        refine lv_goto (tgt := 47) hx hb dX11_isAsked_43 (by decide) ?_
        exact retZ (v := 1) hx hb hr hlocks hS (Or.inr (Or.inr (Or.inr (Or.inr (Or.inr (Or.inr (⟨c_5, c_6, c_11, c_12, c_17, c_18, rfl, hP, hD⟩))))))) dX11_isAsked_47 (by decide +kernel)
abbrev BX11_still_1 (D : va_G) (k : Nat → ClassId) (a0 a4 a10 a11 a12 a13 a1 a2 a3 a5 a6 a7 a8 a9 a14 a15 a16 a17 a18 a19 a20 a21 : Nat) (x0 : Int32) (x1 : Int32) (x2 : Int32) (A : Nat → Prop) (r : Int32) (H : Heap) : Prop := r = F_still x0 x1 x2
set_option maxHeartbeats 4000000 in
set_option maxRecDepth 100000 in
theorem cX11_still_1 (l : Launch) (D : va_G) (k : Nat → ClassId) (sz : Nat) (a0 a4 a10 a11 a12 a13 a1 a2 a3 a5 a6 a7 a8 a9 a14 a15 a16 a17 a18 a19 a20 a21 : Nat) (x0 : Int32) (x1 : Int32) (x2 : Int32) : Met l yX11_still (Cond.code yX11_still cX11_still 11 (some .int) :: uw) ({ frames := 3, cells := 0, slots := 0, locals := 66 }) (pC D k sz [.ref a0, .int x0, .int x1, .int x2] [(a0, .inr (8, [.int 2, .int 0, .int 1, .int 0, .int 0, .int 0, .ref a1, .ref a2, .int 0, .int 0, .ref a3, .ref a4, .ref a5, .ref a6, .ref a7, .ref a8, .ref a9, .int 0, .int 0, .int 0, .ref a10, .ref a11, .ref a12, .ref a13, .int 0, .int 0, .ref a14, .ref a15, .ref a16, .ref a17, .int 0, .int 0, .ref a18, .ref a19, .ref a20, .ref a21])), (a4, .inl (k 1, 9, .inr (.inl (tL [] 0)))), (a10, .inl (k 1, 900, .inr (.inl (tL [] 0)))), (a11, .inl (k 0, 100, .inl (tI [] 0))), (a12, .inl (k 0, 100, .inl (tI [] 0))), (a13, .inl (k 0, 100, .inl (tI [] 0)))]) (qI (BX11_still_1 D k a0 a4 a10 a11 a12 a13 a1 a2 a3 a5 a6 a7 a8 a9 a14 a15 a16 a17 a18 a19 a20 a21 x0 x1 x2 (va_A [(a0, .inr (8, [.int 2, .int 0, .int 1, .int 0, .int 0, .int 0, .ref a1, .ref a2, .int 0, .int 0, .ref a3, .ref a4, .ref a5, .ref a6, .ref a7, .ref a8, .ref a9, .int 0, .int 0, .int 0, .ref a10, .ref a11, .ref a12, .ref a13, .int 0, .int 0, .ref a14, .ref a15, .ref a16, .ref a17, .int 0, .int 0, .ref a18, .ref a19, .ref a20, .ref a21])), (a4, .inl (k 1, 9, .inr (.inl (tL [] 0)))), (a10, .inl (k 1, 900, .inr (.inl (tL [] 0)))), (a11, .inl (k 0, 100, .inl (tI [] 0))), (a12, .inl (k 0, 100, .inl (tI [] 0))), (a13, .inl (k 0, 100, .inl (tI [] 0)))] sz)) (va_A [(a0, .inr (8, [.int 2, .int 0, .int 1, .int 0, .int 0, .int 0, .ref a1, .ref a2, .int 0, .int 0, .ref a3, .ref a4, .ref a5, .ref a6, .ref a7, .ref a8, .ref a9, .int 0, .int 0, .int 0, .ref a10, .ref a11, .ref a12, .ref a13, .int 0, .int 0, .ref a14, .ref a15, .ref a16, .ref a17, .int 0, .int 0, .ref a18, .ref a19, .ref a20, .ref a21])), (a4, .inl (k 1, 9, .inr (.inl (tL [] 0)))), (a10, .inl (k 1, 900, .inr (.inl (tL [] 0)))), (a11, .inl (k 0, 100, .inl (tI [] 0))), (a12, .inl (k 0, 100, .inl (tI [] 0))), (a13, .inl (k 0, 100, .inl (tI [] 0)))] sz)) 0 0 (va_A [(a0, .inr (8, [.int 2, .int 0, .int 1, .int 0, .int 0, .int 0, .ref a1, .ref a2, .int 0, .int 0, .ref a3, .ref a4, .ref a5, .ref a6, .ref a7, .ref a8, .ref a9, .int 0, .int 0, .int 0, .ref a10, .ref a11, .ref a12, .ref a13, .int 0, .int 0, .ref a14, .ref a15, .ref a16, .ref a17, .int 0, .int 0, .ref a18, .ref a19, .ref a20, .ref a21])), (a4, .inl (k 1, 9, .inr (.inl (tL [] 0)))), (a10, .inl (k 1, 900, .inr (.inl (tL [] 0)))), (a11, .inl (k 0, 100, .inl (tI [] 0))), (a12, .inl (k 0, 100, .inl (tI [] 0))), (a13, .inl (k 0, 100, .inl (tI [] 0)))] sz) := by
  refine begin_ (Qc := fun A => qI (BX11_still_1 D k a0 a4 a10 a11 a12 a13 a1 a2 a3 a5 a6 a7 a8 a9 a14 a15 a16 a17 a18 a19 a20 a21 x0 x1 x2 A) A) (by decide) (Nat.le_of_ble_eq_true rfl) ?_
  intro p e s m below meth c ls A hx hb hr hml hown hlocks hin hU hK hsz hP hD hS hA hl
  have hl : lv_has ls 11 [(0, .ref a0), (1, .int x0), (2, .int x1), (3, .int x2)] := hl
  clear hsz
  refine lv_iload_n hx hb dX11_still_0 rfl (lv_at hl 1 rfl) ?_
  refine lv_iload_n hx hb dX11_still_1 rfl (lv_at hl 2 rfl) ?_
  refine lv_iload_n hx hb dX11_still_2 rfl (lv_at hl 3 rfl) ?_
  refine cI (rS (As := [.int x0, .int x1, .int x2]) (rest := []) (wc := []) hx hb hml hown hU hK hP hD [] rfl (by decide) (cX11_isAsked_1 l D k _ (x0) (x1) (x2)) w1137 w1135 w1136 w72 hdX11_isAsked ⟨rfl, rfl⟩ ⟨Nat.le_of_ble_eq_true rfl, Nat.le_of_ble_eq_true rfl⟩ rfl hl.1 (Nat.le_of_ble_eq_true rfl) dX11_still_3 ⟨Nat.le_of_ble_eq_true rfl, Nat.le_of_ble_eq_true rfl⟩) hP hD hS hA (wr := [(a0, .inr (8, [.int 2, .int 0, .int 1, .int 0, .int 0, .int 0, .ref a1, .ref a2, .int 0, .int 0, .ref a3, .ref a4, .ref a5, .ref a6, .ref a7, .ref a8, .ref a9, .int 0, .int 0, .int 0, .ref a10, .ref a11, .ref a12, .ref a13, .int 0, .int 0, .ref a14, .ref a15, .ref a16, .ref a17, .int 0, .int 0, .ref a18, .ref a19, .ref a20, .ref a21])), (a4, .inl (k 1, 9, .inr (.inl (tL [] 0)))), (a10, .inl (k 1, 900, .inr (.inl (tL [] 0)))), (a11, .inl (k 0, 100, .inl (tI [] 0))), (a12, .inl (k 0, 100, .inl (tI [] 0))), (a13, .inl (k 0, 100, .inl (tI [] 0)))]) [] [0, 1, 2, 3, 4, 5] rfl rfl (by decide) (by decide) (fun r1 H locs hB J hS => ?_)
  rcases hB with ⟨c_2, rfl, hP1, hD1⟩ | ⟨c_3, c_4, rfl, hP1, hD1⟩ | ⟨c_5, c_6, c_7, rfl, hP1, hD1⟩ | ⟨c_8, c_9, c_10, c_11, rfl, hP1, hD1⟩ | ⟨c_12, c_13, c_14, c_15, c_16, rfl, hP1, hD1⟩ | ⟨c_17, c_18, c_19, c_20, c_21, c_22, rfl, hP1, hD1⟩ | ⟨c_23, c_24, c_25, c_26, c_27, c_28, rfl, hP1, hD1⟩
  · skip
    obtain ⟨hP, hD⟩ := J _ hP1 hD1
    have hP : va_P D cl0 [(a0, .inr (8, [.int 2, .int 0, .int 1, .int 0, .int 0, .int 0, .ref a1, .ref a2, .int 0, .int 0, .ref a3, .ref a4, .ref a5, .ref a6, .ref a7, .ref a8, .ref a9, .int 0, .int 0, .int 0, .ref a10, .ref a11, .ref a12, .ref a13, .int 0, .int 0, .ref a14, .ref a15, .ref a16, .ref a17, .int 0, .int 0, .ref a18, .ref a19, .ref a20, .ref a21])), (a4, .inl (k 1, 9, .inr (.inl (tL [] 0)))), (a10, .inl (k 1, 900, .inr (.inl (tL [] 0)))), (a11, .inl (k 0, 100, .inl (tI [] 0))), (a12, .inl (k 0, 100, .inl (tI [] 0))), (a13, .inl (k 0, 100, .inl (tI [] 0)))] H := hP
    have hD : va_D A [(a0, .inr (8, [.int 2, .int 0, .int 1, .int 0, .int 0, .int 0, .ref a1, .ref a2, .int 0, .int 0, .ref a3, .ref a4, .ref a5, .ref a6, .ref a7, .ref a8, .ref a9, .int 0, .int 0, .int 0, .ref a10, .ref a11, .ref a12, .ref a13, .int 0, .int 0, .ref a14, .ref a15, .ref a16, .ref a17, .int 0, .int 0, .ref a18, .ref a19, .ref a20, .ref a21])), (a4, .inl (k 1, 9, .inr (.inl (tL [] 0)))), (a10, .inl (k 1, 900, .inr (.inl (tL [] 0)))), (a11, .inl (k 0, 100, .inl (tI [] 0))), (a12, .inl (k 0, 100, .inl (tI [] 0))), (a13, .inl (k 0, 100, .inl (tI [] 0)))] := hD
    refine lv_if_ne (tgt := 11) hx hb dX11_still_6 (by decide) (fun cc => absurd (by decide +kernel) cc) (fun _ => ?_)
    refine lv_iconst (v := (-1)) hx hb dX11_still_9 (by decide) ?_
    exact retI (v := (-1)) hx hb hr hlocks hS (show ((-1) : Int32) = F_still x0 x1 x2 by first | decide +kernel | (have f0 := dv_lt (x := x0.toInt) (y := (-1000)) c_2 (wd x0) (by decide +kernel); unfold F_still; (repeat (first | rw [if_pos (by omega)] | rw [if_neg (by omega)])))) dX11_still_10
  · skip
    obtain ⟨hP, hD⟩ := J _ hP1 hD1
    have hP : va_P D cl0 [(a0, .inr (8, [.int 2, .int 0, .int 1, .int 0, .int 0, .int 0, .ref a1, .ref a2, .int 0, .int 0, .ref a3, .ref a4, .ref a5, .ref a6, .ref a7, .ref a8, .ref a9, .int 0, .int 0, .int 0, .ref a10, .ref a11, .ref a12, .ref a13, .int 0, .int 0, .ref a14, .ref a15, .ref a16, .ref a17, .int 0, .int 0, .ref a18, .ref a19, .ref a20, .ref a21])), (a4, .inl (k 1, 9, .inr (.inl (tL [] 0)))), (a10, .inl (k 1, 900, .inr (.inl (tL [] 0)))), (a11, .inl (k 0, 100, .inl (tI [] 0))), (a12, .inl (k 0, 100, .inl (tI [] 0))), (a13, .inl (k 0, 100, .inl (tI [] 0)))] H := hP
    have hD : va_D A [(a0, .inr (8, [.int 2, .int 0, .int 1, .int 0, .int 0, .int 0, .ref a1, .ref a2, .int 0, .int 0, .ref a3, .ref a4, .ref a5, .ref a6, .ref a7, .ref a8, .ref a9, .int 0, .int 0, .int 0, .ref a10, .ref a11, .ref a12, .ref a13, .int 0, .int 0, .ref a14, .ref a15, .ref a16, .ref a17, .int 0, .int 0, .ref a18, .ref a19, .ref a20, .ref a21])), (a4, .inl (k 1, 9, .inr (.inl (tL [] 0)))), (a10, .inl (k 1, 900, .inr (.inl (tL [] 0)))), (a11, .inl (k 0, 100, .inl (tI [] 0))), (a12, .inl (k 0, 100, .inl (tI [] 0))), (a13, .inl (k 0, 100, .inl (tI [] 0)))] := hD
    refine lv_if_ne (tgt := 11) hx hb dX11_still_6 (by decide) (fun cc => absurd (by decide +kernel) cc) (fun _ => ?_)
    refine lv_iconst (v := (-1)) hx hb dX11_still_9 (by decide) ?_
    exact retI (v := (-1)) hx hb hr hlocks hS (show ((-1) : Int32) = F_still x0 x1 x2 by first | decide +kernel | (have f0 := dv_nlt (x := x0.toInt) (y := (-1000)) c_3 (wd x0) (by decide +kernel); have f1 := dv_lt (x := 1000) (y := x0.toInt) c_4 (by decide +kernel) (wd x0); unfold F_still; (repeat (first | rw [if_pos (by omega)] | rw [if_neg (by omega)])))) dX11_still_10
  · skip
    obtain ⟨hP, hD⟩ := J _ hP1 hD1
    have hP : va_P D cl0 [(a0, .inr (8, [.int 2, .int 0, .int 1, .int 0, .int 0, .int 0, .ref a1, .ref a2, .int 0, .int 0, .ref a3, .ref a4, .ref a5, .ref a6, .ref a7, .ref a8, .ref a9, .int 0, .int 0, .int 0, .ref a10, .ref a11, .ref a12, .ref a13, .int 0, .int 0, .ref a14, .ref a15, .ref a16, .ref a17, .int 0, .int 0, .ref a18, .ref a19, .ref a20, .ref a21])), (a4, .inl (k 1, 9, .inr (.inl (tL [] 0)))), (a10, .inl (k 1, 900, .inr (.inl (tL [] 0)))), (a11, .inl (k 0, 100, .inl (tI [] 0))), (a12, .inl (k 0, 100, .inl (tI [] 0))), (a13, .inl (k 0, 100, .inl (tI [] 0)))] H := hP
    have hD : va_D A [(a0, .inr (8, [.int 2, .int 0, .int 1, .int 0, .int 0, .int 0, .ref a1, .ref a2, .int 0, .int 0, .ref a3, .ref a4, .ref a5, .ref a6, .ref a7, .ref a8, .ref a9, .int 0, .int 0, .int 0, .ref a10, .ref a11, .ref a12, .ref a13, .int 0, .int 0, .ref a14, .ref a15, .ref a16, .ref a17, .int 0, .int 0, .ref a18, .ref a19, .ref a20, .ref a21])), (a4, .inl (k 1, 9, .inr (.inl (tL [] 0)))), (a10, .inl (k 1, 900, .inr (.inl (tL [] 0)))), (a11, .inl (k 0, 100, .inl (tI [] 0))), (a12, .inl (k 0, 100, .inl (tI [] 0))), (a13, .inl (k 0, 100, .inl (tI [] 0)))] := hD
    refine lv_if_ne (tgt := 11) hx hb dX11_still_6 (by decide) (fun cc => absurd (by decide +kernel) cc) (fun _ => ?_)
    refine lv_iconst (v := (-1)) hx hb dX11_still_9 (by decide) ?_
    exact retI (v := (-1)) hx hb hr hlocks hS (show ((-1) : Int32) = F_still x0 x1 x2 by first | decide +kernel | (have f0 := dv_nlt (x := x0.toInt) (y := (-1000)) c_5 (wd x0) (by decide +kernel); have f1 := dv_nlt (x := 1000) (y := x0.toInt) c_6 (by decide +kernel) (wd x0); have f2 := dv_lt (x := x1.toInt) (y := (-1000)) c_7 (wd x1) (by decide +kernel); unfold F_still; (repeat (first | rw [if_pos (by omega)] | rw [if_neg (by omega)])))) dX11_still_10
  · skip
    obtain ⟨hP, hD⟩ := J _ hP1 hD1
    have hP : va_P D cl0 [(a0, .inr (8, [.int 2, .int 0, .int 1, .int 0, .int 0, .int 0, .ref a1, .ref a2, .int 0, .int 0, .ref a3, .ref a4, .ref a5, .ref a6, .ref a7, .ref a8, .ref a9, .int 0, .int 0, .int 0, .ref a10, .ref a11, .ref a12, .ref a13, .int 0, .int 0, .ref a14, .ref a15, .ref a16, .ref a17, .int 0, .int 0, .ref a18, .ref a19, .ref a20, .ref a21])), (a4, .inl (k 1, 9, .inr (.inl (tL [] 0)))), (a10, .inl (k 1, 900, .inr (.inl (tL [] 0)))), (a11, .inl (k 0, 100, .inl (tI [] 0))), (a12, .inl (k 0, 100, .inl (tI [] 0))), (a13, .inl (k 0, 100, .inl (tI [] 0)))] H := hP
    have hD : va_D A [(a0, .inr (8, [.int 2, .int 0, .int 1, .int 0, .int 0, .int 0, .ref a1, .ref a2, .int 0, .int 0, .ref a3, .ref a4, .ref a5, .ref a6, .ref a7, .ref a8, .ref a9, .int 0, .int 0, .int 0, .ref a10, .ref a11, .ref a12, .ref a13, .int 0, .int 0, .ref a14, .ref a15, .ref a16, .ref a17, .int 0, .int 0, .ref a18, .ref a19, .ref a20, .ref a21])), (a4, .inl (k 1, 9, .inr (.inl (tL [] 0)))), (a10, .inl (k 1, 900, .inr (.inl (tL [] 0)))), (a11, .inl (k 0, 100, .inl (tI [] 0))), (a12, .inl (k 0, 100, .inl (tI [] 0))), (a13, .inl (k 0, 100, .inl (tI [] 0)))] := hD
    refine lv_if_ne (tgt := 11) hx hb dX11_still_6 (by decide) (fun cc => absurd (by decide +kernel) cc) (fun _ => ?_)
    refine lv_iconst (v := (-1)) hx hb dX11_still_9 (by decide) ?_
    exact retI (v := (-1)) hx hb hr hlocks hS (show ((-1) : Int32) = F_still x0 x1 x2 by first | decide +kernel | (have f0 := dv_nlt (x := x0.toInt) (y := (-1000)) c_8 (wd x0) (by decide +kernel); have f1 := dv_nlt (x := 1000) (y := x0.toInt) c_9 (by decide +kernel) (wd x0); have f2 := dv_nlt (x := x1.toInt) (y := (-1000)) c_10 (wd x1) (by decide +kernel); have f3 := dv_lt (x := 1000) (y := x1.toInt) c_11 (by decide +kernel) (wd x1); unfold F_still; (repeat (first | rw [if_pos (by omega)] | rw [if_neg (by omega)])))) dX11_still_10
  · skip
    obtain ⟨hP, hD⟩ := J _ hP1 hD1
    have hP : va_P D cl0 [(a0, .inr (8, [.int 2, .int 0, .int 1, .int 0, .int 0, .int 0, .ref a1, .ref a2, .int 0, .int 0, .ref a3, .ref a4, .ref a5, .ref a6, .ref a7, .ref a8, .ref a9, .int 0, .int 0, .int 0, .ref a10, .ref a11, .ref a12, .ref a13, .int 0, .int 0, .ref a14, .ref a15, .ref a16, .ref a17, .int 0, .int 0, .ref a18, .ref a19, .ref a20, .ref a21])), (a4, .inl (k 1, 9, .inr (.inl (tL [] 0)))), (a10, .inl (k 1, 900, .inr (.inl (tL [] 0)))), (a11, .inl (k 0, 100, .inl (tI [] 0))), (a12, .inl (k 0, 100, .inl (tI [] 0))), (a13, .inl (k 0, 100, .inl (tI [] 0)))] H := hP
    have hD : va_D A [(a0, .inr (8, [.int 2, .int 0, .int 1, .int 0, .int 0, .int 0, .ref a1, .ref a2, .int 0, .int 0, .ref a3, .ref a4, .ref a5, .ref a6, .ref a7, .ref a8, .ref a9, .int 0, .int 0, .int 0, .ref a10, .ref a11, .ref a12, .ref a13, .int 0, .int 0, .ref a14, .ref a15, .ref a16, .ref a17, .int 0, .int 0, .ref a18, .ref a19, .ref a20, .ref a21])), (a4, .inl (k 1, 9, .inr (.inl (tL [] 0)))), (a10, .inl (k 1, 900, .inr (.inl (tL [] 0)))), (a11, .inl (k 0, 100, .inl (tI [] 0))), (a12, .inl (k 0, 100, .inl (tI [] 0))), (a13, .inl (k 0, 100, .inl (tI [] 0)))] := hD
    refine lv_if_ne (tgt := 11) hx hb dX11_still_6 (by decide) (fun cc => absurd (by decide +kernel) cc) (fun _ => ?_)
    refine lv_iconst (v := (-1)) hx hb dX11_still_9 (by decide) ?_
    exact retI (v := (-1)) hx hb hr hlocks hS (show ((-1) : Int32) = F_still x0 x1 x2 by first | decide +kernel | (have f0 := dv_nlt (x := x0.toInt) (y := (-1000)) c_12 (wd x0) (by decide +kernel); have f1 := dv_nlt (x := 1000) (y := x0.toInt) c_13 (by decide +kernel) (wd x0); have f2 := dv_nlt (x := x1.toInt) (y := (-1000)) c_14 (wd x1) (by decide +kernel); have f3 := dv_nlt (x := 1000) (y := x1.toInt) c_15 (by decide +kernel) (wd x1); have f4 := dv_lt (x := x2.toInt) (y := (-1000)) c_16 (wd x2) (by decide +kernel); unfold F_still; (repeat (first | rw [if_pos (by omega)] | rw [if_neg (by omega)])))) dX11_still_10
  · skip
    obtain ⟨hP, hD⟩ := J _ hP1 hD1
    have hP : va_P D cl0 [(a0, .inr (8, [.int 2, .int 0, .int 1, .int 0, .int 0, .int 0, .ref a1, .ref a2, .int 0, .int 0, .ref a3, .ref a4, .ref a5, .ref a6, .ref a7, .ref a8, .ref a9, .int 0, .int 0, .int 0, .ref a10, .ref a11, .ref a12, .ref a13, .int 0, .int 0, .ref a14, .ref a15, .ref a16, .ref a17, .int 0, .int 0, .ref a18, .ref a19, .ref a20, .ref a21])), (a4, .inl (k 1, 9, .inr (.inl (tL [] 0)))), (a10, .inl (k 1, 900, .inr (.inl (tL [] 0)))), (a11, .inl (k 0, 100, .inl (tI [] 0))), (a12, .inl (k 0, 100, .inl (tI [] 0))), (a13, .inl (k 0, 100, .inl (tI [] 0)))] H := hP
    have hD : va_D A [(a0, .inr (8, [.int 2, .int 0, .int 1, .int 0, .int 0, .int 0, .ref a1, .ref a2, .int 0, .int 0, .ref a3, .ref a4, .ref a5, .ref a6, .ref a7, .ref a8, .ref a9, .int 0, .int 0, .int 0, .ref a10, .ref a11, .ref a12, .ref a13, .int 0, .int 0, .ref a14, .ref a15, .ref a16, .ref a17, .int 0, .int 0, .ref a18, .ref a19, .ref a20, .ref a21])), (a4, .inl (k 1, 9, .inr (.inl (tL [] 0)))), (a10, .inl (k 1, 900, .inr (.inl (tL [] 0)))), (a11, .inl (k 0, 100, .inl (tI [] 0))), (a12, .inl (k 0, 100, .inl (tI [] 0))), (a13, .inl (k 0, 100, .inl (tI [] 0)))] := hD
    refine lv_if_ne (tgt := 11) hx hb dX11_still_6 (by decide) (fun cc => absurd (by decide +kernel) cc) (fun _ => ?_)
    refine lv_iconst (v := (-1)) hx hb dX11_still_9 (by decide) ?_
    exact retI (v := (-1)) hx hb hr hlocks hS (show ((-1) : Int32) = F_still x0 x1 x2 by first | decide +kernel | (have f0 := dv_nlt (x := x0.toInt) (y := (-1000)) c_17 (wd x0) (by decide +kernel); have f1 := dv_nlt (x := 1000) (y := x0.toInt) c_18 (by decide +kernel) (wd x0); have f2 := dv_nlt (x := x1.toInt) (y := (-1000)) c_19 (wd x1) (by decide +kernel); have f3 := dv_nlt (x := 1000) (y := x1.toInt) c_20 (by decide +kernel) (wd x1); have f4 := dv_nlt (x := x2.toInt) (y := (-1000)) c_21 (wd x2) (by decide +kernel); have f5 := dv_lt (x := 1000) (y := x2.toInt) c_22 (by decide +kernel) (wd x2); unfold F_still; (repeat (first | rw [if_pos (by omega)] | rw [if_neg (by omega)])))) dX11_still_10
  · skip
    obtain ⟨hP, hD⟩ := J _ hP1 hD1
    have hP : va_P D cl0 [(a0, .inr (8, [.int 2, .int 0, .int 1, .int 0, .int 0, .int 0, .ref a1, .ref a2, .int 0, .int 0, .ref a3, .ref a4, .ref a5, .ref a6, .ref a7, .ref a8, .ref a9, .int 0, .int 0, .int 0, .ref a10, .ref a11, .ref a12, .ref a13, .int 0, .int 0, .ref a14, .ref a15, .ref a16, .ref a17, .int 0, .int 0, .ref a18, .ref a19, .ref a20, .ref a21])), (a4, .inl (k 1, 9, .inr (.inl (tL [] 0)))), (a10, .inl (k 1, 900, .inr (.inl (tL [] 0)))), (a11, .inl (k 0, 100, .inl (tI [] 0))), (a12, .inl (k 0, 100, .inl (tI [] 0))), (a13, .inl (k 0, 100, .inl (tI [] 0)))] H := hP
    have hD : va_D A [(a0, .inr (8, [.int 2, .int 0, .int 1, .int 0, .int 0, .int 0, .ref a1, .ref a2, .int 0, .int 0, .ref a3, .ref a4, .ref a5, .ref a6, .ref a7, .ref a8, .ref a9, .int 0, .int 0, .int 0, .ref a10, .ref a11, .ref a12, .ref a13, .int 0, .int 0, .ref a14, .ref a15, .ref a16, .ref a17, .int 0, .int 0, .ref a18, .ref a19, .ref a20, .ref a21])), (a4, .inl (k 1, 9, .inr (.inl (tL [] 0)))), (a10, .inl (k 1, 900, .inr (.inl (tL [] 0)))), (a11, .inl (k 0, 100, .inl (tI [] 0))), (a12, .inl (k 0, 100, .inl (tI [] 0))), (a13, .inl (k 0, 100, .inl (tI [] 0)))] := hD
    refine lv_if_ne (tgt := 11) hx hb dX11_still_6 (by decide) (fun _ => ?_) (fun cc => absurd cc (by decide +kernel))
    refine lv_aload_n hx hb dX11_still_11 rfl (lv_at hl 0 rfl) ?_
    refine cV (rV (q0 := 0) (ci := 8) (As := []) (rest := []) (wc := [(a0, .inr (8, [.int 2, .int 0, .int 1, .int 0, .int 0, .int 0, .ref a1, .ref a2, .int 0, .int 0, .ref a3, .ref a4, .ref a5, .ref a6, .ref a7, .ref a8, .ref a9, .int 0, .int 0, .int 0, .ref a10, .ref a11, .ref a12, .ref a13, .int 0, .int 0, .ref a14, .ref a15, .ref a16, .ref a17, .int 0, .int 0, .ref a18, .ref a19, .ref a20, .ref a21])), (a4, .inl (k 1, 9, .inr (.inl (tL [] 0)))), (a10, .inl (k 1, 900, .inr (.inl (tL [] 0)))), (a11, .inl (k 0, 100, .inl (tI [] 0))), (a12, .inl (k 0, 100, .inl (tI [] 0))), (a13, .inl (k 0, 100, .inl (tI [] 0)))]) hx hb hml hown hU hK hP hD rfl rfl [0, 1, 2, 3, 4, 5] rfl (by decide) (cX11_findList_1 l D k _ a0 a4 a10 a11 a12 a13 a1 a2 a3 a5 a6 a7 a8 a9 a14 a15 a16 a17 a18 a19 a20 a21) w1039 w1036 w1038 w47 w72 hdX11_findList ⟨rfl, rfl⟩ ⟨Nat.le_of_ble_eq_true rfl, Nat.le_of_ble_eq_true rfl⟩ rfl hl.1 (Nat.le_of_ble_eq_true rfl) dX11_still_12 ⟨Nat.le_of_ble_eq_true rfl, Nat.le_of_ble_eq_true rfl⟩) hP hD hS hA (wr := []) [0, 1, 2, 3, 4, 5] [] rfl rfl (by decide) (by decide) (fun H locs hB J hS => ?_)
    obtain ⟨hP1, hD1⟩ := hB
    obtain ⟨hP, hD⟩ := J _ hP1 hD1
    have hP : va_P D cl0 [(a0, .inr (8, [.int 2, .int 0, .int 1, .int 0, .int 0, .int 0, .ref a1, .ref a2, .int 0, .int 1, .ref a3, .ref a4, .ref a5, .ref a6, .ref a7, .ref a8, .ref a9, .int 0, .int 0, .int 0, .ref a10, .ref a11, .ref a12, .ref a13, .int 1, .int 1, .ref a14, .ref a15, .ref a16, .ref a17, .int 0, .int 0, .ref a18, .ref a19, .ref a20, .ref a21])), (a4, .inl (k 1, 9, .inr (.inl (tL [1, 0, 0, 0, 1, 0, 0, 0, 0] 0)))), (a10, .inl (k 1, 900, .inr (.inl (tL [1, 0, 0, 0, 1, 0, 0, 0, 0] 0)))), (a11, .inl (k 0, 100, .inl (tI [(-3)] 0))), (a12, .inl (k 0, 100, .inl (tI [(-3)] 0))), (a13, .inl (k 0, 100, .inl (tI [0] 0)))] H := hP
    have hD : va_D A [(a0, .inr (8, [.int 2, .int 0, .int 1, .int 0, .int 0, .int 0, .ref a1, .ref a2, .int 0, .int 1, .ref a3, .ref a4, .ref a5, .ref a6, .ref a7, .ref a8, .ref a9, .int 0, .int 0, .int 0, .ref a10, .ref a11, .ref a12, .ref a13, .int 1, .int 1, .ref a14, .ref a15, .ref a16, .ref a17, .int 0, .int 0, .ref a18, .ref a19, .ref a20, .ref a21])), (a4, .inl (k 1, 9, .inr (.inl (tL [1, 0, 0, 0, 1, 0, 0, 0, 0] 0)))), (a10, .inl (k 1, 900, .inr (.inl (tL [1, 0, 0, 0, 1, 0, 0, 0, 0] 0)))), (a11, .inl (k 0, 100, .inl (tI [(-3)] 0))), (a12, .inl (k 0, 100, .inl (tI [(-3)] 0))), (a13, .inl (k 0, 100, .inl (tI [0] 0)))] := hD
    refine lv_aload_n hx hb dX11_still_15 rfl (lv_at hl 0 rfl) ?_
    refine va_get (D := D) (ci := 8) (v := .int 2) (C := RX11) (T := TX11) (N := 36) hx hb hU iX11 hown hK.1 hP 0 rfl rfl 0 (by decide) (hU _ w785) (fun _ h9 => h9) rfl dX11_still_16 ?_
    refine lv_iconst (v := 1) hx hb dX11_still_19 (by decide) ?_
    refine lv_icmp_le (tgt := 28) hx hb dX11_still_20 (by decide) (fun cc => absurd cc (by decide +kernel)) (fun _ => ?_)
    refine lv_iload_n hx hb dX11_still_23 rfl (lv_at hl 2 rfl) ?_
    refine lv_i2l (v := x1.toInt64) hx hb dX11_still_24 rfl ?_
    refine lv_goto (tgt := 29) hx hb dX11_still_25 (by decide) ?_
    refine lv_lstore (lv' := [(4, .long x1.toInt64), (0, .ref a0), (1, .int x0), (2, .int x1), (3, .int x2)]) hx hb dX11_still_29 hl (by decide) rfl (fun ls hl => ?_)
    refine lv_aload_n hx hb dX11_still_31 rfl (lv_at hl 1 rfl) ?_
    refine va_get (D := D) (ci := 8) (v := .int 2) (C := RX11) (T := TX11) (N := 36) hx hb hU iX11 hown hK.1 hP 0 rfl rfl 0 (by decide) (hU _ w785) (fun _ h9 => h9) rfl dX11_still_32 ?_
    refine lv_iconst (v := 2) hx hb dX11_still_35 (by decide) ?_
    refine lv_icmp_le (tgt := 44) hx hb dX11_still_36 (by decide) (fun _ => ?_) (fun cc => absurd (by decide +kernel) cc)
    refine lv_lconst (v := 0) hx hb dX11_still_44 (by decide) ?_
    refine lv_lstore (lv' := [(6, .long 0), (4, .long x1.toInt64), (0, .ref a0), (1, .int x0), (2, .int x1), (3, .int x2)]) hx hb dX11_still_45 hl (by decide) rfl (fun ls hl => ?_)
    refine lv_iconst (v := 0) hx hb dX11_still_47 (by decide) ?_
    refine lv_istore (lv' := [(8, .int 0), (6, .long 0), (4, .long x1.toInt64), (0, .ref a0), (1, .int x0), (2, .int x1), (3, .int x2)]) hx hb dX11_still_48 hl (by decide) rfl (fun ls hl => ?_)
    refine lv_iconst (v := 0) hx hb dX11_still_50 (by decide) ?_
    refine lv_istore (lv' := [(9, .int 0), (8, .int 0), (6, .long 0), (4, .long x1.toInt64), (0, .ref a0), (1, .int x0), (2, .int x1), (3, .int x2)]) hx hb dX11_still_51 hl (by decide) rfl (fun ls hl => ?_)
    refine lv_iload hx hb dX11_still_53 (lv_at hl 0 rfl) ?_
    refine lv_aload_n hx hb dX11_still_55 rfl (lv_at hl 4 rfl) ?_
    refine va_get (D := D) (ci := 8) (v := .int 1) (C := RX11) (T := TX11) (N := 36) hx hb hU iX11 hown hK.1 hP 0 rfl rfl 24 (by decide) (hU _ w809) (fun _ h9 => h9) rfl dX11_still_56 ?_
    refine lv_icmp_ge (tgt := 232) hx hb dX11_still_59 (by decide) (fun cc => absurd cc (by decide +kernel)) (fun _ => ?_)
    refine lv_aload_n hx hb dX11_still_62 rfl (lv_at hl 4 rfl) ?_
    refine lv_iload hx hb dX11_still_63 (lv_at hl 0 rfl) ?_
    refine lv_aload_n hx hb dX11_still_65 rfl (lv_at hl 4 rfl) ?_
    refine va_get (D := D) (ci := 8) (v := .ref a4) (C := RX11) (T := TX11) (N := 36) hx hb hU iX11 hown hK.1 hP 0 rfl rfl 11 (by decide) (hU _ w796) (fun _ h9 => h9) rfl dX11_still_66 ?_
    refine cV (rV (q0 := 0) (ci := 8) (As := [.int 0, .ref a4]) (rest := []) (wc := [(a0, .inr (8, [.int 2, .int 0, .int 1, .int 0, .int 0, .int 0, .ref a1, .ref a2, .int 0, .int 1, .ref a3, .ref a4, .ref a5, .ref a6, .ref a7, .ref a8, .ref a9, .int 0, .int 0, .int 0, .ref a10, .ref a11, .ref a12, .ref a13, .int 1, .int 1, .ref a14, .ref a15, .ref a16, .ref a17, .int 0, .int 0, .ref a18, .ref a19, .ref a20, .ref a21])), (a10, .inl (k 1, 900, .inr (.inl (tL [1, 0, 0, 0, 1, 0, 0, 0, 0] 0)))), (a4, .inl (k 1, 9, .inr (.inl (tL [1, 0, 0, 0, 1, 0, 0, 0, 0] 0))))]) hx hb hml hown hU hK hP hD rfl rfl [0, 2, 1] rfl (by decide) (cX11_takesElement_1 l D k _ a0 a10 a4 a1 a2 a3 a5 a6 a7 a8 a9 a11 a12 a13 a14 a15 a16 a17 a18 a19 a20 a21) w1047 w1044 w1046 w49 w72 hdX11_takesElement ⟨rfl, rfl⟩ ⟨Nat.le_of_ble_eq_true rfl, Nat.le_of_ble_eq_true rfl⟩ rfl hl.1 (Nat.le_of_ble_eq_true rfl) dX11_still_69 ⟨Nat.le_of_ble_eq_true rfl, Nat.le_of_ble_eq_true rfl⟩) hP hD hS hA (wr := [(a11, .inl (k 0, 100, .inl (tI [(-3)] 0))), (a12, .inl (k 0, 100, .inl (tI [(-3)] 0))), (a13, .inl (k 0, 100, .inl (tI [0] 0)))]) [0, 2, 1] [3, 4, 5] rfl rfl (by decide) (by decide) (fun H locs hB J hS => ?_)
    obtain ⟨hP1, hD1⟩ := hB
    obtain ⟨hP, hD⟩ := J _ hP1 hD1
    have hP : va_P D cl0 [(a11, .inl (k 0, 100, .inl (tI [(-3)] 0))), (a12, .inl (k 0, 100, .inl (tI [(-3)] 0))), (a13, .inl (k 0, 100, .inl (tI [0] 0))), (a0, .inr (8, [.int 2, .int 0, .int 1, .int 0, .int 0, .int 0, .ref a1, .ref a2, .int 0, .int 1, .ref a3, .ref a4, .ref a5, .ref a6, .ref a7, .ref a8, .ref a9, .int 0, .int 0, .int 0, .ref a10, .ref a11, .ref a12, .ref a13, .int 1, .int 1, .ref a14, .ref a15, .ref a16, .ref a17, .int 0, .int 0, .ref a18, .ref a19, .ref a20, .ref a21])), (a10, .inl (k 1, 900, .inr (.inl (tL [1, 0, 0, 0, 1, 0, 0, 0, 0] 0)))), (a4, .inl (k 1, 9, .inr (.inl (tL [1, 0, 0, 0, 1, 0, 0, 0, 0] 0))))] H := hP
    have hD : va_D A [(a11, .inl (k 0, 100, .inl (tI [(-3)] 0))), (a12, .inl (k 0, 100, .inl (tI [(-3)] 0))), (a13, .inl (k 0, 100, .inl (tI [0] 0))), (a0, .inr (8, [.int 2, .int 0, .int 1, .int 0, .int 0, .int 0, .ref a1, .ref a2, .int 0, .int 1, .ref a3, .ref a4, .ref a5, .ref a6, .ref a7, .ref a8, .ref a9, .int 0, .int 0, .int 0, .ref a10, .ref a11, .ref a12, .ref a13, .int 1, .int 1, .ref a14, .ref a15, .ref a16, .ref a17, .int 0, .int 0, .ref a18, .ref a19, .ref a20, .ref a21])), (a10, .inl (k 1, 900, .inr (.inl (tL [1, 0, 0, 0, 1, 0, 0, 0, 0] 0)))), (a4, .inl (k 1, 9, .inr (.inl (tL [1, 0, 0, 0, 1, 0, 0, 0, 0] 0))))] := hD
    refine lv_aload_n hx hb dX11_still_72 rfl (lv_at hl 4 rfl) ?_
    refine va_get (D := D) (ci := 8) (v := .ref a4) (C := RX11) (T := TX11) (N := 36) hx hb hU iX11 hown hK.1 hP 3 rfl rfl 11 (by decide) (hU _ w796) (fun _ h9 => h9) rfl dX11_still_73 ?_
    refine lv_iconst (v := 0) hx hb dX11_still_76 (by decide) ?_
    refine ld_l (j := 0) (v := 1) hx hb hK hP 5 rfl (by decide +kernel) rfl dX11_still_77 ?_
    refine lv_iload_n hx hb dX11_still_78 rfl (lv_at hl 5 rfl) ?_
    refine lv_i2l (v := x0.toInt64) hx hb dX11_still_79 rfl ?_
    refine lv_lmul hx hb dX11_still_80 (sv_l (v := x0.toInt64) (by simp) ?_)
    refine lv_aload_n hx hb dX11_still_81 rfl (lv_at hl 4 rfl) ?_
    refine va_get (D := D) (ci := 8) (v := .ref a4) (C := RX11) (T := TX11) (N := 36) hx hb hU iX11 hown hK.1 hP 3 rfl rfl 11 (by decide) (hU _ w796) (fun _ h9 => h9) rfl dX11_still_82 ?_
    refine lv_iconst (v := 1) hx hb dX11_still_85 (by decide) ?_
    refine ld_l (j := 1) (v := 0) hx hb hK hP 5 rfl (by decide +kernel) rfl dX11_still_86 ?_
    refine lv_lload hx hb dX11_still_87 (lv_at hl 3 rfl) ?_
    refine lv_lmul hx hb dX11_still_89 (sv_l (v := 0) (by simp) ?_)
    refine lv_ladd hx hb dX11_still_90 (sv_l (v := x0.toInt64) (by simp) ?_)
    refine lv_aload_n hx hb dX11_still_91 rfl (lv_at hl 4 rfl) ?_
    refine va_get (D := D) (ci := 8) (v := .ref a4) (C := RX11) (T := TX11) (N := 36) hx hb hU iX11 hown hK.1 hP 3 rfl rfl 11 (by decide) (hU _ w796) (fun _ h9 => h9) rfl dX11_still_92 ?_
    refine lv_iconst (v := 2) hx hb dX11_still_95 (by decide) ?_
    refine ld_l (j := 2) (v := 0) hx hb hK hP 5 rfl (by decide +kernel) rfl dX11_still_96 ?_
    refine lv_lload hx hb dX11_still_97 (lv_at hl 2 rfl) ?_
    refine lv_lmul hx hb dX11_still_99 (sv_l (v := 0) (by decide +kernel) ?_)
    refine lv_ladd hx hb dX11_still_100 (sv_l (v := x0.toInt64) (by simp) ?_)
    refine lv_iload_n hx hb dX11_still_101 rfl (lv_at hl 5 rfl) ?_
    refine lv_i2l (v := x0.toInt64) hx hb dX11_still_102 rfl ?_
    refine W.lcmp hx hb dX11_still_103 (sv_i (v := 0) ((lg_cmp_eq _ _).mpr rfl) ?_)
    refine lv_if_ne (tgt := 111) hx hb dX11_still_104 (by decide) (fun cc => absurd (by decide +kernel) cc) (fun _ => ?_)
    refine lv_iconst (v := 1) hx hb dX11_still_107 (by decide) ?_
    refine lv_goto (tgt := 112) hx hb dX11_still_108 (by decide) ?_
    refine lv_istore (lv' := [(10, .int 1), (9, .int 0), (8, .int 0), (6, .long 0), (4, .long x1.toInt64), (0, .ref a0), (1, .int x0), (2, .int x1), (3, .int x2)]) hx hb dX11_still_112 hl (by decide) rfl (fun ls hl => ?_)
    refine lv_iload hx hb dX11_still_114 (lv_at hl 0 rfl) ?_
    refine lv_if_eq (tgt := 158) hx hb dX11_still_116 (by decide) (fun cc => absurd cc (by decide +kernel)) (fun _ => ?_)
    refine lv_aload_n hx hb dX11_still_119 rfl (lv_at hl 5 rfl) ?_
    refine va_get (D := D) (ci := 8) (v := .ref a4) (C := RX11) (T := TX11) (N := 36) hx hb hU iX11 hown hK.1 hP 3 rfl rfl 11 (by decide) (hU _ w796) (fun _ h9 => h9) rfl dX11_still_120 ?_
    refine lv_iconst (v := 3) hx hb dX11_still_123 (by decide) ?_
    refine ld_l (j := 3) (v := 0) hx hb hK hP 5 rfl (by decide +kernel) rfl dX11_still_124 ?_
    refine lv_iload_n hx hb dX11_still_125 rfl (lv_at hl 6 rfl) ?_
    refine lv_i2l (v := x0.toInt64) hx hb dX11_still_126 rfl ?_
    refine lv_lmul hx hb dX11_still_127 (sv_l (v := 0) (by simp) ?_)
    refine lv_aload_n hx hb dX11_still_128 rfl (lv_at hl 5 rfl) ?_
    refine va_get (D := D) (ci := 8) (v := .ref a4) (C := RX11) (T := TX11) (N := 36) hx hb hU iX11 hown hK.1 hP 3 rfl rfl 11 (by decide) (hU _ w796) (fun _ h9 => h9) rfl dX11_still_129 ?_
    refine lv_iconst (v := 4) hx hb dX11_still_132 (by decide) ?_
    refine ld_l (j := 4) (v := 1) hx hb hK hP 5 rfl (by decide +kernel) rfl dX11_still_133 ?_
    refine lv_lload hx hb dX11_still_134 (lv_at hl 4 rfl) ?_
    refine lv_lmul hx hb dX11_still_136 (sv_l (v := x1.toInt64) (by simp) ?_)
    refine lv_ladd hx hb dX11_still_137 (sv_l (v := x1.toInt64) (by simp) ?_)
    refine lv_aload_n hx hb dX11_still_138 rfl (lv_at hl 5 rfl) ?_
    refine va_get (D := D) (ci := 8) (v := .ref a4) (C := RX11) (T := TX11) (N := 36) hx hb hU iX11 hown hK.1 hP 3 rfl rfl 11 (by decide) (hU _ w796) (fun _ h9 => h9) rfl dX11_still_139 ?_
    refine lv_iconst (v := 5) hx hb dX11_still_142 (by decide) ?_
    refine ld_l (j := 5) (v := 0) hx hb hK hP 5 rfl (by decide +kernel) rfl dX11_still_143 ?_
    refine lv_lload hx hb dX11_still_144 (lv_at hl 3 rfl) ?_
    refine lv_lmul hx hb dX11_still_146 (sv_l (v := 0) (by decide +kernel) ?_)
    refine lv_ladd hx hb dX11_still_147 (sv_l (v := x1.toInt64) (by simp) ?_)
    refine lv_lload hx hb dX11_still_148 (lv_at hl 4 rfl) ?_
    refine W.lcmp hx hb dX11_still_150 (sv_i (v := 0) ((lg_cmp_eq _ _).mpr rfl) ?_)
    refine lv_if_ne (tgt := 158) hx hb dX11_still_151 (by decide) (fun cc => absurd (by decide +kernel) cc) (fun _ => ?_)
    refine lv_iconst (v := 1) hx hb dX11_still_154 (by decide) ?_
    refine lv_goto (tgt := 159) hx hb dX11_still_155 (by decide) ?_
    refine lv_istore (lv' := [(10, .int 1), (9, .int 0), (8, .int 0), (6, .long 0), (4, .long x1.toInt64), (0, .ref a0), (1, .int x0), (2, .int x1), (3, .int x2)]) hx hb dX11_still_159 hl (by decide) rfl (fun ls hl => ?_)
    refine lv_iload hx hb dX11_still_161 (lv_at hl 0 rfl) ?_
    refine lv_if_eq (tgt := 208) hx hb dX11_still_163 (by decide) (fun cc => absurd cc (by decide +kernel)) (fun _ => ?_)
    refine lv_aload_n hx hb dX11_still_166 rfl (lv_at hl 5 rfl) ?_
    refine va_get (D := D) (ci := 8) (v := .ref a4) (C := RX11) (T := TX11) (N := 36) hx hb hU iX11 hown hK.1 hP 3 rfl rfl 11 (by decide) (hU _ w796) (fun _ h9 => h9) rfl dX11_still_167 ?_
    refine lv_bipush (v := 6) hx hb dX11_still_170 (by decide) ?_
    refine ld_l (j := 6) (v := 0) hx hb hK hP 5 rfl (by decide +kernel) rfl dX11_still_172 ?_
    refine lv_iload_n hx hb dX11_still_173 rfl (lv_at hl 6 rfl) ?_
    refine lv_i2l (v := x0.toInt64) hx hb dX11_still_174 rfl ?_
    refine lv_lmul hx hb dX11_still_175 (sv_l (v := 0) (by simp) ?_)
    refine lv_aload_n hx hb dX11_still_176 rfl (lv_at hl 5 rfl) ?_
    refine va_get (D := D) (ci := 8) (v := .ref a4) (C := RX11) (T := TX11) (N := 36) hx hb hU iX11 hown hK.1 hP 3 rfl rfl 11 (by decide) (hU _ w796) (fun _ h9 => h9) rfl dX11_still_177 ?_
    refine lv_bipush (v := 7) hx hb dX11_still_180 (by decide) ?_
    refine ld_l (j := 7) (v := 0) hx hb hK hP 5 rfl (by decide +kernel) rfl dX11_still_182 ?_
    refine lv_lload hx hb dX11_still_183 (lv_at hl 4 rfl) ?_
    refine lv_lmul hx hb dX11_still_185 (sv_l (v := 0) (by simp) ?_)
    refine lv_ladd hx hb dX11_still_186 (sv_l (v := 0) (by decide +kernel) ?_)
    refine lv_aload_n hx hb dX11_still_187 rfl (lv_at hl 5 rfl) ?_
    refine va_get (D := D) (ci := 8) (v := .ref a4) (C := RX11) (T := TX11) (N := 36) hx hb hU iX11 hown hK.1 hP 3 rfl rfl 11 (by decide) (hU _ w796) (fun _ h9 => h9) rfl dX11_still_188 ?_
    refine lv_bipush (v := 8) hx hb dX11_still_191 (by decide) ?_
    refine ld_l (j := 8) (v := 0) hx hb hK hP 5 rfl (by decide +kernel) rfl dX11_still_193 ?_
    refine lv_lload hx hb dX11_still_194 (lv_at hl 3 rfl) ?_
    refine lv_lmul hx hb dX11_still_196 (sv_l (v := 0) (by decide +kernel) ?_)
    refine lv_ladd hx hb dX11_still_197 (sv_l (v := 0) (by decide +kernel) ?_)
    refine lv_lload hx hb dX11_still_198 (lv_at hl 3 rfl) ?_
    refine W.lcmp hx hb dX11_still_200 (sv_i (v := 0) (by decide +kernel) ?_)
    refine lv_if_ne (tgt := 208) hx hb dX11_still_201 (by decide) (fun cc => absurd (by decide +kernel) cc) (fun _ => ?_)
    refine lv_iconst (v := 1) hx hb dX11_still_204 (by decide) ?_
    refine lv_goto (tgt := 209) hx hb dX11_still_205 (by decide) ?_
    refine lv_istore (lv' := [(10, .int 1), (9, .int 0), (8, .int 0), (6, .long 0), (4, .long x1.toInt64), (0, .ref a0), (1, .int x0), (2, .int x1), (3, .int x2)]) hx hb dX11_still_209 hl (by decide) rfl (fun ls hl => ?_)
    refine lv_iload hx hb dX11_still_211 (lv_at hl 2 rfl) ?_
    refine lv_iload hx hb dX11_still_213 (lv_at hl 0 rfl) ?_
    refine lv_if_eq (tgt := 222) hx hb dX11_still_215 (by decide) (fun cc => absurd cc (by decide +kernel)) (fun _ => ?_)
    refine lv_iconst (v := 1) hx hb dX11_still_218 (by decide) ?_
    refine lv_goto (tgt := 223) hx hb dX11_still_219 (by decide) ?_
    refine lv_iadd hx hb dX11_still_223 (sv_i (v := 1) (by decide +kernel) ?_)
    refine lv_istore (lv' := [(8, .int 1), (10, .int 1), (9, .int 0), (6, .long 0), (4, .long x1.toInt64), (0, .ref a0), (1, .int x0), (2, .int x1), (3, .int x2)]) hx hb dX11_still_224 hl (by decide) rfl (fun ls hl => ?_)
    refine lv_iinc (v := 1) (lv' := [(9, .int 1), (8, .int 1), (10, .int 1), (6, .long 0), (4, .long x1.toInt64), (0, .ref a0), (1, .int x0), (2, .int x1), (3, .int x2)]) hx hb dX11_still_226 hl (k := 2) rfl (by decide) (by decide) rfl (fun ls hl => ?_)
    refine lv_goto (tgt := 53) hx hb dX11_still_229 (by decide) ?_
    refine lv_iload hx hb dX11_still_53 (lv_at hl 0 rfl) ?_
    refine lv_aload_n hx hb dX11_still_55 rfl (lv_at hl 5 rfl) ?_
    refine va_get (D := D) (ci := 8) (v := .int 1) (C := RX11) (T := TX11) (N := 36) hx hb hU iX11 hown hK.1 hP 3 rfl rfl 24 (by decide) (hU _ w809) (fun _ h9 => h9) rfl dX11_still_56 ?_
    refine lv_icmp_ge (tgt := 232) hx hb dX11_still_59 (by decide) (fun _ => ?_) (fun cc => absurd (by decide +kernel) cc)
    refine lv_iload hx hb dX11_still_232 (lv_at hl 1 rfl) ?_
    exact retI (v := 1) hx hb hr hlocks hS (show (1 : Int32) = F_still x0 x1 x2 by first | decide +kernel | (have f0 := dv_nlt (x := x0.toInt) (y := (-1000)) c_23 (wd x0) (by decide +kernel); have f1 := dv_nlt (x := 1000) (y := x0.toInt) c_24 (by decide +kernel) (wd x0); have f2 := dv_nlt (x := x1.toInt) (y := (-1000)) c_25 (wd x1) (by decide +kernel); have f3 := dv_nlt (x := 1000) (y := x1.toInt) c_26 (by decide +kernel) (wd x1); have f4 := dv_nlt (x := x2.toInt) (y := (-1000)) c_27 (wd x2) (by decide +kernel); have f5 := dv_nlt (x := 1000) (y := x2.toInt) c_28 (by decide +kernel) (wd x2); unfold F_still; (repeat (first | rw [if_pos (by omega)] | rw [if_neg (by omega)])))) dX11_still_234
abbrev BX11_orbit_1 (D : va_G) (k : Nat → ClassId) (a0 a15 a1 a2 a3 a4 a5 a6 a7 a8 a9 a10 a11 a12 a13 a14 a16 a17 a18 a19 a20 a21 : Nat) (x0 : Int32) (x1 : Int32) (x2 : Int32) (A : Nat → Prop) (r : Int32) (H : Heap) : Prop := r = F_orbit x0 x1 x2
set_option maxHeartbeats 4000000 in
set_option maxRecDepth 100000 in
theorem cX11_orbit_1 (l : Launch) (D : va_G) (k : Nat → ClassId) (sz : Nat) (a0 a15 a1 a2 a3 a4 a5 a6 a7 a8 a9 a10 a11 a12 a13 a14 a16 a17 a18 a19 a20 a21 : Nat) (x0 : Int32) (x1 : Int32) (x2 : Int32) : Met l yX11_orbit (Cond.code yX11_orbit cX11_orbit 7 (some .int) :: uw) ({ frames := 2, cells := 0, slots := 0, locals := 47 }) (pC D k sz [.ref a0, .int x0, .int x1, .int x2] [(a0, .inr (8, [.int 2, .int 0, .int 1, .int 0, .int 0, .int 0, .ref a1, .ref a2, .int 0, .int 0, .ref a3, .ref a4, .ref a5, .ref a6, .ref a7, .ref a8, .ref a9, .int 0, .int 0, .int 0, .ref a10, .ref a11, .ref a12, .ref a13, .int 0, .int 0, .ref a14, .ref a15, .ref a16, .ref a17, .int 0, .int 0, .ref a18, .ref a19, .ref a20, .ref a21])), (a15, .inl (k 1, 180, .inr (.inl (tL [] 0))))]) (qI (BX11_orbit_1 D k a0 a15 a1 a2 a3 a4 a5 a6 a7 a8 a9 a10 a11 a12 a13 a14 a16 a17 a18 a19 a20 a21 x0 x1 x2 (va_A [(a0, .inr (8, [.int 2, .int 0, .int 1, .int 0, .int 0, .int 0, .ref a1, .ref a2, .int 0, .int 0, .ref a3, .ref a4, .ref a5, .ref a6, .ref a7, .ref a8, .ref a9, .int 0, .int 0, .int 0, .ref a10, .ref a11, .ref a12, .ref a13, .int 0, .int 0, .ref a14, .ref a15, .ref a16, .ref a17, .int 0, .int 0, .ref a18, .ref a19, .ref a20, .ref a21])), (a15, .inl (k 1, 180, .inr (.inl (tL [] 0))))] sz)) (va_A [(a0, .inr (8, [.int 2, .int 0, .int 1, .int 0, .int 0, .int 0, .ref a1, .ref a2, .int 0, .int 0, .ref a3, .ref a4, .ref a5, .ref a6, .ref a7, .ref a8, .ref a9, .int 0, .int 0, .int 0, .ref a10, .ref a11, .ref a12, .ref a13, .int 0, .int 0, .ref a14, .ref a15, .ref a16, .ref a17, .int 0, .int 0, .ref a18, .ref a19, .ref a20, .ref a21])), (a15, .inl (k 1, 180, .inr (.inl (tL [] 0))))] sz)) 0 0 (va_A [(a0, .inr (8, [.int 2, .int 0, .int 1, .int 0, .int 0, .int 0, .ref a1, .ref a2, .int 0, .int 0, .ref a3, .ref a4, .ref a5, .ref a6, .ref a7, .ref a8, .ref a9, .int 0, .int 0, .int 0, .ref a10, .ref a11, .ref a12, .ref a13, .int 0, .int 0, .ref a14, .ref a15, .ref a16, .ref a17, .int 0, .int 0, .ref a18, .ref a19, .ref a20, .ref a21])), (a15, .inl (k 1, 180, .inr (.inl (tL [] 0))))] sz) := by
  refine begin_ (Qc := fun A => qI (BX11_orbit_1 D k a0 a15 a1 a2 a3 a4 a5 a6 a7 a8 a9 a10 a11 a12 a13 a14 a16 a17 a18 a19 a20 a21 x0 x1 x2 A) A) (by decide) (Nat.le_of_ble_eq_true rfl) ?_
  intro p e s m below meth c ls A hx hb hr hml hown hlocks hin hU hK hsz hP hD hS hA hl
  have hl : lv_has ls 7 [(0, .ref a0), (1, .int x0), (2, .int x1), (3, .int x2)] := hl
  clear hsz
  refine lv_iload_n hx hb dX11_orbit_0 rfl (lv_at hl 1 rfl) ?_
  refine lv_iload_n hx hb dX11_orbit_1 rfl (lv_at hl 2 rfl) ?_
  refine lv_iload_n hx hb dX11_orbit_2 rfl (lv_at hl 3 rfl) ?_
  refine cI (rS (As := [.int x0, .int x1, .int x2]) (rest := []) (wc := []) hx hb hml hown hU hK hP hD [] rfl (by decide) (cX11_isAsked_1 l D k _ (x0) (x1) (x2)) w1137 w1135 w1136 w72 hdX11_isAsked ⟨rfl, rfl⟩ ⟨Nat.le_of_ble_eq_true rfl, Nat.le_of_ble_eq_true rfl⟩ rfl hl.1 (Nat.le_of_ble_eq_true rfl) dX11_orbit_3 ⟨Nat.le_of_ble_eq_true rfl, Nat.le_of_ble_eq_true rfl⟩) hP hD hS hA (wr := [(a0, .inr (8, [.int 2, .int 0, .int 1, .int 0, .int 0, .int 0, .ref a1, .ref a2, .int 0, .int 0, .ref a3, .ref a4, .ref a5, .ref a6, .ref a7, .ref a8, .ref a9, .int 0, .int 0, .int 0, .ref a10, .ref a11, .ref a12, .ref a13, .int 0, .int 0, .ref a14, .ref a15, .ref a16, .ref a17, .int 0, .int 0, .ref a18, .ref a19, .ref a20, .ref a21])), (a15, .inl (k 1, 180, .inr (.inl (tL [] 0))))]) [] [0, 1] rfl rfl (by decide) (by decide) (fun r1 H locs hB J hS => ?_)
  rcases hB with ⟨c_2, rfl, hP1, hD1⟩ | ⟨c_3, c_4, rfl, hP1, hD1⟩ | ⟨c_5, c_6, c_7, rfl, hP1, hD1⟩ | ⟨c_8, c_9, c_10, c_11, rfl, hP1, hD1⟩ | ⟨c_12, c_13, c_14, c_15, c_16, rfl, hP1, hD1⟩ | ⟨c_17, c_18, c_19, c_20, c_21, c_22, rfl, hP1, hD1⟩ | ⟨c_23, c_24, c_25, c_26, c_27, c_28, rfl, hP1, hD1⟩
  · skip
    obtain ⟨hP, hD⟩ := J _ hP1 hD1
    have hP : va_P D cl0 [(a0, .inr (8, [.int 2, .int 0, .int 1, .int 0, .int 0, .int 0, .ref a1, .ref a2, .int 0, .int 0, .ref a3, .ref a4, .ref a5, .ref a6, .ref a7, .ref a8, .ref a9, .int 0, .int 0, .int 0, .ref a10, .ref a11, .ref a12, .ref a13, .int 0, .int 0, .ref a14, .ref a15, .ref a16, .ref a17, .int 0, .int 0, .ref a18, .ref a19, .ref a20, .ref a21])), (a15, .inl (k 1, 180, .inr (.inl (tL [] 0))))] H := hP
    have hD : va_D A [(a0, .inr (8, [.int 2, .int 0, .int 1, .int 0, .int 0, .int 0, .ref a1, .ref a2, .int 0, .int 0, .ref a3, .ref a4, .ref a5, .ref a6, .ref a7, .ref a8, .ref a9, .int 0, .int 0, .int 0, .ref a10, .ref a11, .ref a12, .ref a13, .int 0, .int 0, .ref a14, .ref a15, .ref a16, .ref a17, .int 0, .int 0, .ref a18, .ref a19, .ref a20, .ref a21])), (a15, .inl (k 1, 180, .inr (.inl (tL [] 0))))] := hD
    refine lv_if_ne (tgt := 11) hx hb dX11_orbit_6 (by decide) (fun cc => absurd (by decide +kernel) cc) (fun _ => ?_)
    refine lv_iconst (v := (-1)) hx hb dX11_orbit_9 (by decide) ?_
    exact retI (v := (-1)) hx hb hr hlocks hS (show ((-1) : Int32) = F_orbit x0 x1 x2 by first | decide +kernel | (have f0 := dv_lt (x := x0.toInt) (y := (-1000)) c_2 (wd x0) (by decide +kernel); unfold F_orbit; (repeat (first | rw [if_pos (by omega)] | rw [if_neg (by omega)])))) dX11_orbit_10
  · skip
    obtain ⟨hP, hD⟩ := J _ hP1 hD1
    have hP : va_P D cl0 [(a0, .inr (8, [.int 2, .int 0, .int 1, .int 0, .int 0, .int 0, .ref a1, .ref a2, .int 0, .int 0, .ref a3, .ref a4, .ref a5, .ref a6, .ref a7, .ref a8, .ref a9, .int 0, .int 0, .int 0, .ref a10, .ref a11, .ref a12, .ref a13, .int 0, .int 0, .ref a14, .ref a15, .ref a16, .ref a17, .int 0, .int 0, .ref a18, .ref a19, .ref a20, .ref a21])), (a15, .inl (k 1, 180, .inr (.inl (tL [] 0))))] H := hP
    have hD : va_D A [(a0, .inr (8, [.int 2, .int 0, .int 1, .int 0, .int 0, .int 0, .ref a1, .ref a2, .int 0, .int 0, .ref a3, .ref a4, .ref a5, .ref a6, .ref a7, .ref a8, .ref a9, .int 0, .int 0, .int 0, .ref a10, .ref a11, .ref a12, .ref a13, .int 0, .int 0, .ref a14, .ref a15, .ref a16, .ref a17, .int 0, .int 0, .ref a18, .ref a19, .ref a20, .ref a21])), (a15, .inl (k 1, 180, .inr (.inl (tL [] 0))))] := hD
    refine lv_if_ne (tgt := 11) hx hb dX11_orbit_6 (by decide) (fun cc => absurd (by decide +kernel) cc) (fun _ => ?_)
    refine lv_iconst (v := (-1)) hx hb dX11_orbit_9 (by decide) ?_
    exact retI (v := (-1)) hx hb hr hlocks hS (show ((-1) : Int32) = F_orbit x0 x1 x2 by first | decide +kernel | (have f0 := dv_nlt (x := x0.toInt) (y := (-1000)) c_3 (wd x0) (by decide +kernel); have f1 := dv_lt (x := 1000) (y := x0.toInt) c_4 (by decide +kernel) (wd x0); unfold F_orbit; (repeat (first | rw [if_pos (by omega)] | rw [if_neg (by omega)])))) dX11_orbit_10
  · skip
    obtain ⟨hP, hD⟩ := J _ hP1 hD1
    have hP : va_P D cl0 [(a0, .inr (8, [.int 2, .int 0, .int 1, .int 0, .int 0, .int 0, .ref a1, .ref a2, .int 0, .int 0, .ref a3, .ref a4, .ref a5, .ref a6, .ref a7, .ref a8, .ref a9, .int 0, .int 0, .int 0, .ref a10, .ref a11, .ref a12, .ref a13, .int 0, .int 0, .ref a14, .ref a15, .ref a16, .ref a17, .int 0, .int 0, .ref a18, .ref a19, .ref a20, .ref a21])), (a15, .inl (k 1, 180, .inr (.inl (tL [] 0))))] H := hP
    have hD : va_D A [(a0, .inr (8, [.int 2, .int 0, .int 1, .int 0, .int 0, .int 0, .ref a1, .ref a2, .int 0, .int 0, .ref a3, .ref a4, .ref a5, .ref a6, .ref a7, .ref a8, .ref a9, .int 0, .int 0, .int 0, .ref a10, .ref a11, .ref a12, .ref a13, .int 0, .int 0, .ref a14, .ref a15, .ref a16, .ref a17, .int 0, .int 0, .ref a18, .ref a19, .ref a20, .ref a21])), (a15, .inl (k 1, 180, .inr (.inl (tL [] 0))))] := hD
    refine lv_if_ne (tgt := 11) hx hb dX11_orbit_6 (by decide) (fun cc => absurd (by decide +kernel) cc) (fun _ => ?_)
    refine lv_iconst (v := (-1)) hx hb dX11_orbit_9 (by decide) ?_
    exact retI (v := (-1)) hx hb hr hlocks hS (show ((-1) : Int32) = F_orbit x0 x1 x2 by first | decide +kernel | (have f0 := dv_nlt (x := x0.toInt) (y := (-1000)) c_5 (wd x0) (by decide +kernel); have f1 := dv_nlt (x := 1000) (y := x0.toInt) c_6 (by decide +kernel) (wd x0); have f2 := dv_lt (x := x1.toInt) (y := (-1000)) c_7 (wd x1) (by decide +kernel); unfold F_orbit; (repeat (first | rw [if_pos (by omega)] | rw [if_neg (by omega)])))) dX11_orbit_10
  · skip
    obtain ⟨hP, hD⟩ := J _ hP1 hD1
    have hP : va_P D cl0 [(a0, .inr (8, [.int 2, .int 0, .int 1, .int 0, .int 0, .int 0, .ref a1, .ref a2, .int 0, .int 0, .ref a3, .ref a4, .ref a5, .ref a6, .ref a7, .ref a8, .ref a9, .int 0, .int 0, .int 0, .ref a10, .ref a11, .ref a12, .ref a13, .int 0, .int 0, .ref a14, .ref a15, .ref a16, .ref a17, .int 0, .int 0, .ref a18, .ref a19, .ref a20, .ref a21])), (a15, .inl (k 1, 180, .inr (.inl (tL [] 0))))] H := hP
    have hD : va_D A [(a0, .inr (8, [.int 2, .int 0, .int 1, .int 0, .int 0, .int 0, .ref a1, .ref a2, .int 0, .int 0, .ref a3, .ref a4, .ref a5, .ref a6, .ref a7, .ref a8, .ref a9, .int 0, .int 0, .int 0, .ref a10, .ref a11, .ref a12, .ref a13, .int 0, .int 0, .ref a14, .ref a15, .ref a16, .ref a17, .int 0, .int 0, .ref a18, .ref a19, .ref a20, .ref a21])), (a15, .inl (k 1, 180, .inr (.inl (tL [] 0))))] := hD
    refine lv_if_ne (tgt := 11) hx hb dX11_orbit_6 (by decide) (fun cc => absurd (by decide +kernel) cc) (fun _ => ?_)
    refine lv_iconst (v := (-1)) hx hb dX11_orbit_9 (by decide) ?_
    exact retI (v := (-1)) hx hb hr hlocks hS (show ((-1) : Int32) = F_orbit x0 x1 x2 by first | decide +kernel | (have f0 := dv_nlt (x := x0.toInt) (y := (-1000)) c_8 (wd x0) (by decide +kernel); have f1 := dv_nlt (x := 1000) (y := x0.toInt) c_9 (by decide +kernel) (wd x0); have f2 := dv_nlt (x := x1.toInt) (y := (-1000)) c_10 (wd x1) (by decide +kernel); have f3 := dv_lt (x := 1000) (y := x1.toInt) c_11 (by decide +kernel) (wd x1); unfold F_orbit; (repeat (first | rw [if_pos (by omega)] | rw [if_neg (by omega)])))) dX11_orbit_10
  · skip
    obtain ⟨hP, hD⟩ := J _ hP1 hD1
    have hP : va_P D cl0 [(a0, .inr (8, [.int 2, .int 0, .int 1, .int 0, .int 0, .int 0, .ref a1, .ref a2, .int 0, .int 0, .ref a3, .ref a4, .ref a5, .ref a6, .ref a7, .ref a8, .ref a9, .int 0, .int 0, .int 0, .ref a10, .ref a11, .ref a12, .ref a13, .int 0, .int 0, .ref a14, .ref a15, .ref a16, .ref a17, .int 0, .int 0, .ref a18, .ref a19, .ref a20, .ref a21])), (a15, .inl (k 1, 180, .inr (.inl (tL [] 0))))] H := hP
    have hD : va_D A [(a0, .inr (8, [.int 2, .int 0, .int 1, .int 0, .int 0, .int 0, .ref a1, .ref a2, .int 0, .int 0, .ref a3, .ref a4, .ref a5, .ref a6, .ref a7, .ref a8, .ref a9, .int 0, .int 0, .int 0, .ref a10, .ref a11, .ref a12, .ref a13, .int 0, .int 0, .ref a14, .ref a15, .ref a16, .ref a17, .int 0, .int 0, .ref a18, .ref a19, .ref a20, .ref a21])), (a15, .inl (k 1, 180, .inr (.inl (tL [] 0))))] := hD
    refine lv_if_ne (tgt := 11) hx hb dX11_orbit_6 (by decide) (fun cc => absurd (by decide +kernel) cc) (fun _ => ?_)
    refine lv_iconst (v := (-1)) hx hb dX11_orbit_9 (by decide) ?_
    exact retI (v := (-1)) hx hb hr hlocks hS (show ((-1) : Int32) = F_orbit x0 x1 x2 by first | decide +kernel | (have f0 := dv_nlt (x := x0.toInt) (y := (-1000)) c_12 (wd x0) (by decide +kernel); have f1 := dv_nlt (x := 1000) (y := x0.toInt) c_13 (by decide +kernel) (wd x0); have f2 := dv_nlt (x := x1.toInt) (y := (-1000)) c_14 (wd x1) (by decide +kernel); have f3 := dv_nlt (x := 1000) (y := x1.toInt) c_15 (by decide +kernel) (wd x1); have f4 := dv_lt (x := x2.toInt) (y := (-1000)) c_16 (wd x2) (by decide +kernel); unfold F_orbit; (repeat (first | rw [if_pos (by omega)] | rw [if_neg (by omega)])))) dX11_orbit_10
  · skip
    obtain ⟨hP, hD⟩ := J _ hP1 hD1
    have hP : va_P D cl0 [(a0, .inr (8, [.int 2, .int 0, .int 1, .int 0, .int 0, .int 0, .ref a1, .ref a2, .int 0, .int 0, .ref a3, .ref a4, .ref a5, .ref a6, .ref a7, .ref a8, .ref a9, .int 0, .int 0, .int 0, .ref a10, .ref a11, .ref a12, .ref a13, .int 0, .int 0, .ref a14, .ref a15, .ref a16, .ref a17, .int 0, .int 0, .ref a18, .ref a19, .ref a20, .ref a21])), (a15, .inl (k 1, 180, .inr (.inl (tL [] 0))))] H := hP
    have hD : va_D A [(a0, .inr (8, [.int 2, .int 0, .int 1, .int 0, .int 0, .int 0, .ref a1, .ref a2, .int 0, .int 0, .ref a3, .ref a4, .ref a5, .ref a6, .ref a7, .ref a8, .ref a9, .int 0, .int 0, .int 0, .ref a10, .ref a11, .ref a12, .ref a13, .int 0, .int 0, .ref a14, .ref a15, .ref a16, .ref a17, .int 0, .int 0, .ref a18, .ref a19, .ref a20, .ref a21])), (a15, .inl (k 1, 180, .inr (.inl (tL [] 0))))] := hD
    refine lv_if_ne (tgt := 11) hx hb dX11_orbit_6 (by decide) (fun cc => absurd (by decide +kernel) cc) (fun _ => ?_)
    refine lv_iconst (v := (-1)) hx hb dX11_orbit_9 (by decide) ?_
    exact retI (v := (-1)) hx hb hr hlocks hS (show ((-1) : Int32) = F_orbit x0 x1 x2 by first | decide +kernel | (have f0 := dv_nlt (x := x0.toInt) (y := (-1000)) c_17 (wd x0) (by decide +kernel); have f1 := dv_nlt (x := 1000) (y := x0.toInt) c_18 (by decide +kernel) (wd x0); have f2 := dv_nlt (x := x1.toInt) (y := (-1000)) c_19 (wd x1) (by decide +kernel); have f3 := dv_nlt (x := 1000) (y := x1.toInt) c_20 (by decide +kernel) (wd x1); have f4 := dv_nlt (x := x2.toInt) (y := (-1000)) c_21 (wd x2) (by decide +kernel); have f5 := dv_lt (x := 1000) (y := x2.toInt) c_22 (by decide +kernel) (wd x2); unfold F_orbit; (repeat (first | rw [if_pos (by omega)] | rw [if_neg (by omega)])))) dX11_orbit_10
  · skip
    obtain ⟨hP, hD⟩ := J _ hP1 hD1
    have hP : va_P D cl0 [(a0, .inr (8, [.int 2, .int 0, .int 1, .int 0, .int 0, .int 0, .ref a1, .ref a2, .int 0, .int 0, .ref a3, .ref a4, .ref a5, .ref a6, .ref a7, .ref a8, .ref a9, .int 0, .int 0, .int 0, .ref a10, .ref a11, .ref a12, .ref a13, .int 0, .int 0, .ref a14, .ref a15, .ref a16, .ref a17, .int 0, .int 0, .ref a18, .ref a19, .ref a20, .ref a21])), (a15, .inl (k 1, 180, .inr (.inl (tL [] 0))))] H := hP
    have hD : va_D A [(a0, .inr (8, [.int 2, .int 0, .int 1, .int 0, .int 0, .int 0, .ref a1, .ref a2, .int 0, .int 0, .ref a3, .ref a4, .ref a5, .ref a6, .ref a7, .ref a8, .ref a9, .int 0, .int 0, .int 0, .ref a10, .ref a11, .ref a12, .ref a13, .int 0, .int 0, .ref a14, .ref a15, .ref a16, .ref a17, .int 0, .int 0, .ref a18, .ref a19, .ref a20, .ref a21])), (a15, .inl (k 1, 180, .inr (.inl (tL [] 0))))] := hD
    refine lv_if_ne (tgt := 11) hx hb dX11_orbit_6 (by decide) (fun _ => ?_) (fun cc => absurd cc (by decide +kernel))
    refine lv_aload_n hx hb dX11_orbit_11 rfl (lv_at hl 0 rfl) ?_
    refine va_get (D := D) (ci := 8) (v := .ref a15) (C := RX11) (T := TX11) (N := 36) hx hb hU iX11 hown hK.1 hP 0 rfl rfl 27 (by decide) (hU _ w812) (fun _ h9 => h9) rfl dX11_orbit_12 ?_
    refine lv_iconst (v := 0) hx hb dX11_orbit_15 (by decide) ?_
    refine lv_iload_n hx hb dX11_orbit_16 rfl (lv_at hl 1 rfl) ?_
    refine lv_i2l (v := x0.toInt64) hx hb dX11_orbit_17 rfl ?_
    refine st_l (j := 0) (g := tL [x0.toInt64] 0) hx hb hK hP hD hS 1 rfl (by decide +kernel) upd_tL dX11_orbit_18 (fun H locs hP hD hS => ?_)
    have hP : va_P D cl0 [(a0, .inr (8, [.int 2, .int 0, .int 1, .int 0, .int 0, .int 0, .ref a1, .ref a2, .int 0, .int 0, .ref a3, .ref a4, .ref a5, .ref a6, .ref a7, .ref a8, .ref a9, .int 0, .int 0, .int 0, .ref a10, .ref a11, .ref a12, .ref a13, .int 0, .int 0, .ref a14, .ref a15, .ref a16, .ref a17, .int 0, .int 0, .ref a18, .ref a19, .ref a20, .ref a21])), (a15, .inl (k 1, 180, .inr (.inl (tL [x0.toInt64] 0))))] H := hP
    have hD : va_D A [(a0, .inr (8, [.int 2, .int 0, .int 1, .int 0, .int 0, .int 0, .ref a1, .ref a2, .int 0, .int 0, .ref a3, .ref a4, .ref a5, .ref a6, .ref a7, .ref a8, .ref a9, .int 0, .int 0, .int 0, .ref a10, .ref a11, .ref a12, .ref a13, .int 0, .int 0, .ref a14, .ref a15, .ref a16, .ref a17, .int 0, .int 0, .ref a18, .ref a19, .ref a20, .ref a21])), (a15, .inl (k 1, 180, .inr (.inl (tL [x0.toInt64] 0))))] := hD
    refine lv_aload_n hx hb dX11_orbit_19 rfl (lv_at hl 0 rfl) ?_
    refine va_get (D := D) (ci := 8) (v := .ref a15) (C := RX11) (T := TX11) (N := 36) hx hb hU iX11 hown hK.1 hP 0 rfl rfl 27 (by decide) (hU _ w812) (fun _ h9 => h9) rfl dX11_orbit_20 ?_
    refine lv_iconst (v := 1) hx hb dX11_orbit_23 (by decide) ?_
    refine lv_aload_n hx hb dX11_orbit_24 rfl (lv_at hl 0 rfl) ?_
    refine va_get (D := D) (ci := 8) (v := .int 2) (C := RX11) (T := TX11) (N := 36) hx hb hU iX11 hown hK.1 hP 0 rfl rfl 0 (by decide) (hU _ w785) (fun _ h9 => h9) rfl dX11_orbit_25 ?_
    refine lv_iconst (v := 1) hx hb dX11_orbit_28 (by decide) ?_
    refine lv_icmp_le (tgt := 37) hx hb dX11_orbit_29 (by decide) (fun cc => absurd cc (by decide +kernel)) (fun _ => ?_)
    refine lv_iload_n hx hb dX11_orbit_32 rfl (lv_at hl 2 rfl) ?_
    refine lv_i2l (v := x1.toInt64) hx hb dX11_orbit_33 rfl ?_
    refine lv_goto (tgt := 38) hx hb dX11_orbit_34 (by decide) ?_
    refine st_l (j := 1) (g := tL [x0.toInt64, x1.toInt64] 0) hx hb hK hP hD hS 1 rfl (by decide +kernel) upd_tL dX11_orbit_38 (fun H locs hP hD hS => ?_)
    have hP : va_P D cl0 [(a0, .inr (8, [.int 2, .int 0, .int 1, .int 0, .int 0, .int 0, .ref a1, .ref a2, .int 0, .int 0, .ref a3, .ref a4, .ref a5, .ref a6, .ref a7, .ref a8, .ref a9, .int 0, .int 0, .int 0, .ref a10, .ref a11, .ref a12, .ref a13, .int 0, .int 0, .ref a14, .ref a15, .ref a16, .ref a17, .int 0, .int 0, .ref a18, .ref a19, .ref a20, .ref a21])), (a15, .inl (k 1, 180, .inr (.inl (tL [x0.toInt64, x1.toInt64] 0))))] H := hP
    have hD : va_D A [(a0, .inr (8, [.int 2, .int 0, .int 1, .int 0, .int 0, .int 0, .ref a1, .ref a2, .int 0, .int 0, .ref a3, .ref a4, .ref a5, .ref a6, .ref a7, .ref a8, .ref a9, .int 0, .int 0, .int 0, .ref a10, .ref a11, .ref a12, .ref a13, .int 0, .int 0, .ref a14, .ref a15, .ref a16, .ref a17, .int 0, .int 0, .ref a18, .ref a19, .ref a20, .ref a21])), (a15, .inl (k 1, 180, .inr (.inl (tL [x0.toInt64, x1.toInt64] 0))))] := hD
    refine lv_aload_n hx hb dX11_orbit_39 rfl (lv_at hl 0 rfl) ?_
    refine va_get (D := D) (ci := 8) (v := .ref a15) (C := RX11) (T := TX11) (N := 36) hx hb hU iX11 hown hK.1 hP 0 rfl rfl 27 (by decide) (hU _ w812) (fun _ h9 => h9) rfl dX11_orbit_40 ?_
    refine lv_iconst (v := 2) hx hb dX11_orbit_43 (by decide) ?_
    refine lv_aload_n hx hb dX11_orbit_44 rfl (lv_at hl 0 rfl) ?_
    refine va_get (D := D) (ci := 8) (v := .int 2) (C := RX11) (T := TX11) (N := 36) hx hb hU iX11 hown hK.1 hP 0 rfl rfl 0 (by decide) (hU _ w785) (fun _ h9 => h9) rfl dX11_orbit_45 ?_
    refine lv_iconst (v := 2) hx hb dX11_orbit_48 (by decide) ?_
    refine lv_icmp_le (tgt := 57) hx hb dX11_orbit_49 (by decide) (fun _ => ?_) (fun cc => absurd (by decide +kernel) cc)
    refine lv_lconst (v := 0) hx hb dX11_orbit_57 (by decide) ?_
    refine st_l (j := 2) (g := tL [x0.toInt64, x1.toInt64, 0] 0) hx hb hK hP hD hS 1 rfl (by decide +kernel) upd_tL dX11_orbit_58 (fun H locs hP hD hS => ?_)
    have hP : va_P D cl0 [(a0, .inr (8, [.int 2, .int 0, .int 1, .int 0, .int 0, .int 0, .ref a1, .ref a2, .int 0, .int 0, .ref a3, .ref a4, .ref a5, .ref a6, .ref a7, .ref a8, .ref a9, .int 0, .int 0, .int 0, .ref a10, .ref a11, .ref a12, .ref a13, .int 0, .int 0, .ref a14, .ref a15, .ref a16, .ref a17, .int 0, .int 0, .ref a18, .ref a19, .ref a20, .ref a21])), (a15, .inl (k 1, 180, .inr (.inl (tL [x0.toInt64, x1.toInt64, 0] 0))))] H := hP
    have hD : va_D A [(a0, .inr (8, [.int 2, .int 0, .int 1, .int 0, .int 0, .int 0, .ref a1, .ref a2, .int 0, .int 0, .ref a3, .ref a4, .ref a5, .ref a6, .ref a7, .ref a8, .ref a9, .int 0, .int 0, .int 0, .ref a10, .ref a11, .ref a12, .ref a13, .int 0, .int 0, .ref a14, .ref a15, .ref a16, .ref a17, .int 0, .int 0, .ref a18, .ref a19, .ref a20, .ref a21])), (a15, .inl (k 1, 180, .inr (.inl (tL [x0.toInt64, x1.toInt64, 0] 0))))] := hD
    refine lv_aload_n hx hb dX11_orbit_59 rfl (lv_at hl 0 rfl) ?_
    refine lv_iconst (v := 1) hx hb dX11_orbit_60 (by decide) ?_
    refine va_put (D := D) (ci := 8) (v := .int 1) (ty := .int) (C := RX11) (T := TX11) (N := 36) hx hb hU iX11 tyX11 tyX11_ok nmX11 hown hK.1 hP hD hS 0 rfl rfl 30 (by decide) (hU _ w815) (fun _ h9 => h9) rfl (by decide +kernel) rfl rfl (Nat.le_of_ble_eq_true rfl) dX11_orbit_61 (fun H locs hP hD hS => ?_)
    have hP : va_P D cl0 [(a0, .inr (8, [.int 2, .int 0, .int 1, .int 0, .int 0, .int 0, .ref a1, .ref a2, .int 0, .int 0, .ref a3, .ref a4, .ref a5, .ref a6, .ref a7, .ref a8, .ref a9, .int 0, .int 0, .int 0, .ref a10, .ref a11, .ref a12, .ref a13, .int 0, .int 0, .ref a14, .ref a15, .ref a16, .ref a17, .int 1, .int 0, .ref a18, .ref a19, .ref a20, .ref a21])), (a15, .inl (k 1, 180, .inr (.inl (tL [x0.toInt64, x1.toInt64, 0] 0))))] H := hP
    have hD : va_D A [(a0, .inr (8, [.int 2, .int 0, .int 1, .int 0, .int 0, .int 0, .ref a1, .ref a2, .int 0, .int 0, .ref a3, .ref a4, .ref a5, .ref a6, .ref a7, .ref a8, .ref a9, .int 0, .int 0, .int 0, .ref a10, .ref a11, .ref a12, .ref a13, .int 0, .int 0, .ref a14, .ref a15, .ref a16, .ref a17, .int 1, .int 0, .ref a18, .ref a19, .ref a20, .ref a21])), (a15, .inl (k 1, 180, .inr (.inl (tL [x0.toInt64, x1.toInt64, 0] 0))))] := hD
    refine lv_iconst (v := 0) hx hb dX11_orbit_64 (by decide) ?_
    refine lv_istore (lv' := [(4, .int 0), (0, .ref a0), (1, .int x0), (2, .int x1), (3, .int x2)]) hx hb dX11_orbit_65 hl (by decide) rfl (fun ls hl => ?_)
    refine lv_iload hx hb dX11_orbit_67 (lv_at hl 0 rfl) ?_
    refine lv_aload_n hx hb dX11_orbit_69 rfl (lv_at hl 1 rfl) ?_
    refine va_get (D := D) (ci := 8) (v := .int 1) (C := RX11) (T := TX11) (N := 36) hx hb hU iX11 hown hK.1 hP 0 rfl rfl 30 (by decide) (hU _ w815) (fun _ h9 => h9) rfl dX11_orbit_70 ?_
    refine lv_icmp_ge (tgt := 273) hx hb dX11_orbit_73 (by decide) (fun cc => absurd cc (by decide +kernel)) (fun _ => ?_)
    refine lv_iconst (v := 0) hx hb dX11_orbit_76 (by decide) ?_
    refine lv_istore (lv' := [(5, .int 0), (4, .int 0), (0, .ref a0), (1, .int x0), (2, .int x1), (3, .int x2)]) hx hb dX11_orbit_77 hl (by decide) rfl (fun ls hl => ?_)
    refine lv_iload hx hb dX11_orbit_79 (lv_at hl 0 rfl) ?_
    refine lv_aload_n hx hb dX11_orbit_81 rfl (lv_at hl 2 rfl) ?_
    refine va_get (D := D) (ci := 8) (v := .int 0) (C := RX11) (T := TX11) (N := 36) hx hb hU iX11 hown hK.1 hP 0 rfl rfl 1 (by decide) (hU _ w786) (fun _ h9 => h9) rfl dX11_orbit_82 ?_
    refine lv_icmp_ge (tgt := 267) hx hb dX11_orbit_85 (by decide) (fun _ => ?_) (fun cc => absurd (by decide +kernel) cc)
    refine lv_iinc (v := 1) (lv' := [(4, .int 1), (5, .int 0), (0, .ref a0), (1, .int x0), (2, .int x1), (3, .int x2)]) hx hb dX11_orbit_267 hl (k := 1) rfl (by decide) (by decide) rfl (fun ls hl => ?_)
    refine lv_goto (tgt := 67) hx hb dX11_orbit_270 (by decide) ?_
    refine lv_iload hx hb dX11_orbit_67 (lv_at hl 0 rfl) ?_
    refine lv_aload_n hx hb dX11_orbit_69 rfl (lv_at hl 2 rfl) ?_
    refine va_get (D := D) (ci := 8) (v := .int 1) (C := RX11) (T := TX11) (N := 36) hx hb hU iX11 hown hK.1 hP 0 rfl rfl 30 (by decide) (hU _ w815) (fun _ h9 => h9) rfl dX11_orbit_70 ?_
    refine lv_icmp_ge (tgt := 273) hx hb dX11_orbit_73 (by decide) (fun _ => ?_) (fun cc => absurd (by decide +kernel) cc)
    refine lv_aload_n hx hb dX11_orbit_273 rfl (lv_at hl 2 rfl) ?_
    refine lv_iconst (v := 1) hx hb dX11_orbit_274 (by decide) ?_
    refine va_put (D := D) (ci := 8) (v := .int 1) (ty := .boolean) (C := RX11) (T := TX11) (N := 36) hx hb hU iX11 tyX11 tyX11_ok nmX11 hown hK.1 hP hD hS 0 rfl rfl 31 (by decide) (hU _ w816) (fun _ h9 => h9) rfl (by decide +kernel) rfl rfl (Nat.le_of_ble_eq_true rfl) dX11_orbit_275 (fun H locs hP hD hS => ?_)
    have hP : va_P D cl0 [(a0, .inr (8, [.int 2, .int 0, .int 1, .int 0, .int 0, .int 0, .ref a1, .ref a2, .int 0, .int 0, .ref a3, .ref a4, .ref a5, .ref a6, .ref a7, .ref a8, .ref a9, .int 0, .int 0, .int 0, .ref a10, .ref a11, .ref a12, .ref a13, .int 0, .int 0, .ref a14, .ref a15, .ref a16, .ref a17, .int 1, .int 1, .ref a18, .ref a19, .ref a20, .ref a21])), (a15, .inl (k 1, 180, .inr (.inl (tL [x0.toInt64, x1.toInt64, 0] 0))))] H := hP
    have hD : va_D A [(a0, .inr (8, [.int 2, .int 0, .int 1, .int 0, .int 0, .int 0, .ref a1, .ref a2, .int 0, .int 0, .ref a3, .ref a4, .ref a5, .ref a6, .ref a7, .ref a8, .ref a9, .int 0, .int 0, .int 0, .ref a10, .ref a11, .ref a12, .ref a13, .int 0, .int 0, .ref a14, .ref a15, .ref a16, .ref a17, .int 1, .int 1, .ref a18, .ref a19, .ref a20, .ref a21])), (a15, .inl (k 1, 180, .inr (.inl (tL [x0.toInt64, x1.toInt64, 0] 0))))] := hD
    refine lv_iconst (v := 0) hx hb dX11_orbit_278 (by decide) ?_
    refine lv_istore (lv' := [(4, .int 0), (5, .int 0), (0, .ref a0), (1, .int x0), (2, .int x1), (3, .int x2)]) hx hb dX11_orbit_279 hl (by decide) rfl (fun ls hl => ?_)
    refine lv_iload hx hb dX11_orbit_281 (lv_at hl 0 rfl) ?_
    refine lv_aload_n hx hb dX11_orbit_283 rfl (lv_at hl 2 rfl) ?_
    refine va_get (D := D) (ci := 8) (v := .int 1) (C := RX11) (T := TX11) (N := 36) hx hb hU iX11 hown hK.1 hP 0 rfl rfl 30 (by decide) (hU _ w815) (fun _ h9 => h9) rfl dX11_orbit_284 ?_
    refine lv_icmp_ge (tgt := 382) hx hb dX11_orbit_287 (by decide) (fun cc => absurd cc (by decide +kernel)) (fun _ => ?_)
    refine lv_iconst (v := 0) hx hb dX11_orbit_290 (by decide) ?_
    refine lv_istore (lv' := [(5, .int 0), (4, .int 0), (0, .ref a0), (1, .int x0), (2, .int x1), (3, .int x2)]) hx hb dX11_orbit_291 hl (by decide) rfl (fun ls hl => ?_)
    refine lv_iload hx hb dX11_orbit_293 (lv_at hl 0 rfl) ?_
    refine lv_aload_n hx hb dX11_orbit_295 rfl (lv_at hl 2 rfl) ?_
    refine va_get (D := D) (ci := 8) (v := .int 0) (C := RX11) (T := TX11) (N := 36) hx hb hU iX11 hown hK.1 hP 0 rfl rfl 1 (by decide) (hU _ w786) (fun _ h9 => h9) rfl dX11_orbit_296 ?_
    refine lv_icmp_ge (tgt := 376) hx hb dX11_orbit_299 (by decide) (fun _ => ?_) (fun cc => absurd (by decide +kernel) cc)
    refine lv_iinc (v := 1) (lv' := [(4, .int 1), (5, .int 0), (0, .ref a0), (1, .int x0), (2, .int x1), (3, .int x2)]) hx hb dX11_orbit_376 hl (k := 1) rfl (by decide) (by decide) rfl (fun ls hl => ?_)
    refine lv_goto (tgt := 281) hx hb dX11_orbit_379 (by decide) ?_
    refine lv_iload hx hb dX11_orbit_281 (lv_at hl 0 rfl) ?_
    refine lv_aload_n hx hb dX11_orbit_283 rfl (lv_at hl 2 rfl) ?_
    refine va_get (D := D) (ci := 8) (v := .int 1) (C := RX11) (T := TX11) (N := 36) hx hb hU iX11 hown hK.1 hP 0 rfl rfl 30 (by decide) (hU _ w815) (fun _ h9 => h9) rfl dX11_orbit_284 ?_
    refine lv_icmp_ge (tgt := 382) hx hb dX11_orbit_287 (by decide) (fun _ => ?_) (fun cc => absurd (by decide +kernel) cc)
    refine lv_aload_n hx hb dX11_orbit_382 rfl (lv_at hl 2 rfl) ?_
    refine va_get (D := D) (ci := 8) (v := .int 1) (C := RX11) (T := TX11) (N := 36) hx hb hU iX11 hown hK.1 hP 0 rfl rfl 30 (by decide) (hU _ w815) (fun _ h9 => h9) rfl dX11_orbit_383 ?_
    exact retI (v := 1) hx hb hr hlocks hS (show (1 : Int32) = F_orbit x0 x1 x2 by first | decide +kernel | (have f0 := dv_nlt (x := x0.toInt) (y := (-1000)) c_23 (wd x0) (by decide +kernel); have f1 := dv_nlt (x := 1000) (y := x0.toInt) c_24 (by decide +kernel) (wd x0); have f2 := dv_nlt (x := x1.toInt) (y := (-1000)) c_25 (wd x1) (by decide +kernel); have f3 := dv_nlt (x := 1000) (y := x1.toInt) c_26 (by decide +kernel) (wd x1); have f4 := dv_nlt (x := x2.toInt) (y := (-1000)) c_27 (wd x2) (by decide +kernel); have f5 := dv_nlt (x := 1000) (y := x2.toInt) c_28 (by decide +kernel) (wd x2); unfold F_orbit; (repeat (first | rw [if_pos (by omega)] | rw [if_neg (by omega)])))) dX11_orbit_386
