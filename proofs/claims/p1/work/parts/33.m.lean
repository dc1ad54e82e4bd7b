abbrev BX11_takesElement_2 (D : va_G) (k : Nat → ClassId) (h0 h1 h2 h3 h4 h5 h6 h7 h8 h9 h10 h11 h12 h13 h14 h15 h16 h17 h18 h19 h20 h21 : Nat) (A : Nat → Prop) (H : Heap) : Prop := va_P D cl0 [(h0, .inr (8, [.int 2, .int 0, .int 1, .int 0, .int 0, .int 0, .ref h3, .ref h4, .int 0, .int 1, .ref h5, .ref h6, .ref h2, .ref h7, .ref h8, .ref h9, .ref h10, .int 0, .int 0, .int 0, .ref h1, .ref h11, .ref h12, .ref h13, .int 1, .int 1, .ref h14, .ref h15, .ref h16, .ref h17, .int 0, .int 0, .ref h18, .ref h19, .ref h20, .ref h21])), (h1, .inl (k 1, 900, .inr (.inl (tL [1, 0, 0, 0, 1, 0, 0, 0, 0] 0)))), (h2, .inl (k 1, 9, .inr (.inl (tL [1, 0, 0, 0, 1, 0, 0, 0, 0] 0))))] H ∧ va_D A [(h0, .inr (8, [.int 2, .int 0, .int 1, .int 0, .int 0, .int 0, .ref h3, .ref h4, .int 0, .int 1, .ref h5, .ref h6, .ref h2, .ref h7, .ref h8, .ref h9, .ref h10, .int 0, .int 0, .int 0, .ref h1, .ref h11, .ref h12, .ref h13, .int 1, .int 1, .ref h14, .ref h15, .ref h16, .ref h17, .int 0, .int 0, .ref h18, .ref h19, .ref h20, .ref h21])), (h1, .inl (k 1, 900, .inr (.inl (tL [1, 0, 0, 0, 1, 0, 0, 0, 0] 0)))), (h2, .inl (k 1, 9, .inr (.inl (tL [1, 0, 0, 0, 1, 0, 0, 0, 0] 0))))]
set_option maxHeartbeats 4000000 in
set_option maxRecDepth 100000 in
theorem cX11_takesElement_2 (l : Launch) (D : va_G) (k : Nat → ClassId) (sz : Nat) (h0 h1 h2 h3 h4 h5 h6 h7 h8 h9 h10 h11 h12 h13 h14 h15 h16 h17 h18 h19 h20 h21 : Nat) : Met l yX11_takesElement (Cond.code yX11_takesElement cX11_takesElement 4 none :: uw) ({ frames := 0, cells := 0, slots := 0, locals := 0 }) (pC D k sz [.ref h0, .int 0, .ref h2] [(h0, .inr (8, [.int 2, .int 0, .int 1, .int 0, .int 0, .int 0, .ref h3, .ref h4, .int 0, .int 1, .ref h5, .ref h6, .ref h2, .ref h7, .ref h8, .ref h9, .ref h10, .int 0, .int 0, .int 0, .ref h1, .ref h11, .ref h12, .ref h13, .int 1, .int 1, .ref h14, .ref h15, .ref h16, .ref h17, .int 0, .int 0, .ref h18, .ref h19, .ref h20, .ref h21])), (h1, .inl (k 1, 900, .inr (.inl (tL [1, 0, 0, 0, 1, 0, 0, 0, 0] 0)))), (h2, .inl (k 1, 9, .inr (.inl (tL [] 0))))]) (qV (BX11_takesElement_2 D k h0 h1 h2 h3 h4 h5 h6 h7 h8 h9 h10 h11 h12 h13 h14 h15 h16 h17 h18 h19 h20 h21 (va_A [(h0, .inr (8, [.int 2, .int 0, .int 1, .int 0, .int 0, .int 0, .ref h3, .ref h4, .int 0, .int 1, .ref h5, .ref h6, .ref h2, .ref h7, .ref h8, .ref h9, .ref h10, .int 0, .int 0, .int 0, .ref h1, .ref h11, .ref h12, .ref h13, .int 1, .int 1, .ref h14, .ref h15, .ref h16, .ref h17, .int 0, .int 0, .ref h18, .ref h19, .ref h20, .ref h21])), (h1, .inl (k 1, 900, .inr (.inl (tL [1, 0, 0, 0, 1, 0, 0, 0, 0] 0)))), (h2, .inl (k 1, 9, .inr (.inl (tL [] 0))))] sz)) (va_A [(h0, .inr (8, [.int 2, .int 0, .int 1, .int 0, .int 0, .int 0, .ref h3, .ref h4, .int 0, .int 1, .ref h5, .ref h6, .ref h2, .ref h7, .ref h8, .ref h9, .ref h10, .int 0, .int 0, .int 0, .ref h1, .ref h11, .ref h12, .ref h13, .int 1, .int 1, .ref h14, .ref h15, .ref h16, .ref h17, .int 0, .int 0, .ref h18, .ref h19, .ref h20, .ref h21])), (h1, .inl (k 1, 900, .inr (.inl (tL [1, 0, 0, 0, 1, 0, 0, 0, 0] 0)))), (h2, .inl (k 1, 9, .inr (.inl (tL [] 0))))] sz)) 0 0 (va_A [(h0, .inr (8, [.int 2, .int 0, .int 1, .int 0, .int 0, .int 0, .ref h3, .ref h4, .int 0, .int 1, .ref h5, .ref h6, .ref h2, .ref h7, .ref h8, .ref h9, .ref h10, .int 0, .int 0, .int 0, .ref h1, .ref h11, .ref h12, .ref h13, .int 1, .int 1, .ref h14, .ref h15, .ref h16, .ref h17, .int 0, .int 0, .ref h18, .ref h19, .ref h20, .ref h21])), (h1, .inl (k 1, 900, .inr (.inl (tL [1, 0, 0, 0, 1, 0, 0, 0, 0] 0)))), (h2, .inl (k 1, 9, .inr (.inl (tL [] 0))))] sz) := by
  refine begin_ (Qc := fun A => qV (BX11_takesElement_2 D k h0 h1 h2 h3 h4 h5 h6 h7 h8 h9 h10 h11 h12 h13 h14 h15 h16 h17 h18 h19 h20 h21 A) A) (by decide) (Nat.le_of_ble_eq_true rfl) ?_
  intro p e s m below meth c ls A hx hb hr hml hown hlocks hin hU hK hsz hP hD hS hA hl
  have hl : lv_has ls 4 [(0, .ref h0), (1, .int 0), (2, .ref h2)] := hl
  clear hsz
  refine lv_iconst (v := 0) hx hb dX11_takesElement_0 (by decide) ?_
  refine lv_istore_n (lv' := [(3, .int 0), (0, .ref h0), (1, .int 0), (2, .ref h2)]) hx hb dX11_takesElement_1 rfl hl (by decide) rfl (fun ls hl => ?_)
  refine lv_iload_n hx hb dX11_takesElement_2 rfl (lv_at hl 0 rfl) ?_
  refine lv_bipush (v := 9) hx hb dX11_takesElement_3 (by decide) ?_
  refine lv_icmp_ge (tgt := 28) hx hb dX11_takesElement_5 (by decide) (fun cc => absurd cc (by decide +kernel)) (fun _ => ?_)
  refine lv_aload_n hx hb dX11_takesElement_8 rfl (lv_at hl 3 rfl) ?_
  refine lv_iload_n hx hb dX11_takesElement_9 rfl (lv_at hl 0 rfl) ?_
  refine lv_aload_n hx hb dX11_takesElement_10 rfl (lv_at hl 1 rfl) ?_
  refine va_get (D := D) (ci := 8) (v := .ref h1) (C := RX11) (T := TX11) (N := 36) hx hb hU iX11 hown hK.1 hP 0 rfl rfl 20 (by decide) (hU _ w805) (fun _ h9 => h9) rfl dX11_takesElement_11 ?_
  refine lv_bipush (v := 9) hx hb dX11_takesElement_14 (by decide) ?_
  refine lv_iload_n hx hb dX11_takesElement_16 rfl (lv_at hl 2 rfl) ?_
  refine lv_imul hx hb dX11_takesElement_17 (sv_i (v := 0) (by decide +kernel) ?_)
  refine lv_iload_n hx hb dX11_takesElement_18 rfl (lv_at hl 0 rfl) ?_
  refine lv_iadd hx hb dX11_takesElement_19 (sv_i (v := 0) (by decide +kernel) ?_)
  refine ld_l (j := 0) (v := 1) hx hb hK hP 1 rfl (by decide +kernel) rfl dX11_takesElement_20 ?_
  refine st_l (j := 0) (g := tL [1] 0) hx hb hK hP hD hS 2 rfl (by decide +kernel) upd_tL dX11_takesElement_21 (fun H locs hP hD hS => ?_)
  have hP : va_P D cl0 [(h0, .inr (8, [.int 2, .int 0, .int 1, .int 0, .int 0, .int 0, .ref h3, .ref h4, .int 0, .int 1, .ref h5, .ref h6, .ref h2, .ref h7, .ref h8, .ref h9, .ref h10, .int 0, .int 0, .int 0, .ref h1, .ref h11, .ref h12, .ref h13, .int 1, .int 1, .ref h14, .ref h15, .ref h16, .ref h17, .int 0, .int 0, .ref h18, .ref h19, .ref h20, .ref h21])), (h1, .inl (k 1, 900, .inr (.inl (tL [1, 0, 0, 0, 1, 0, 0, 0, 0] 0)))), (h2, .inl (k 1, 9, .inr (.inl (tL [1] 0))))] H := hP
  have hD : va_D A [(h0, .inr (8, [.int 2, .int 0, .int 1, .int 0, .int 0, .int 0, .ref h3, .ref h4, .int 0, .int 1, .ref h5, .ref h6, .ref h2, .ref h7, .ref h8, .ref h9, .ref h10, .int 0, .int 0, .int 0, .ref h1, .ref h11, .ref h12, .ref h13, .int 1, .int 1, .ref h14, .ref h15, .ref h16, .ref h17, .int 0, .int 0, .ref h18, .ref h19, .ref h20, .ref h21])), (h1, .inl (k 1, 900, .inr (.inl (tL [1, 0, 0, 0, 1, 0, 0, 0, 0] 0)))), (h2, .inl (k 1, 9, .inr (.inl (tL [1] 0))))] := hD
  refine lv_iinc (v := 1) (lv' := [(3, .int 1), (0, .ref h0), (1, .int 0), (2, .ref h2)]) hx hb dX11_takesElement_22 hl (k := 0) rfl (by decide) (by decide) rfl (fun ls hl => ?_)
  refine lv_goto (tgt := 2) hx hb dX11_takesElement_25 (by decide) ?_
  refine lv_iload_n hx hb dX11_takesElement_2 rfl (lv_at hl 0 rfl) ?_
  refine lv_bipush (v := 9) hx hb dX11_takesElement_3 (by decide) ?_
  refine lv_icmp_ge (tgt := 28) hx hb dX11_takesElement_5 (by decide) (fun cc => absurd cc (by decide +kernel)) (fun _ => ?_)
  refine lv_aload_n hx hb dX11_takesElement_8 rfl (lv_at hl 3 rfl) ?_
  refine lv_iload_n hx hb dX11_takesElement_9 rfl (lv_at hl 0 rfl) ?_
  refine lv_aload_n hx hb dX11_takesElement_10 rfl (lv_at hl 1 rfl) ?_
  refine va_get (D := D) (ci := 8) (v := .ref h1) (C := RX11) (T := TX11) (N := 36) hx hb hU iX11 hown hK.1 hP 0 rfl rfl 20 (by decide) (hU _ w805) (fun _ h9 => h9) rfl dX11_takesElement_11 ?_
  refine lv_bipush (v := 9) hx hb dX11_takesElement_14 (by decide) ?_
  refine lv_iload_n hx hb dX11_takesElement_16 rfl (lv_at hl 2 rfl) ?_
  refine lv_imul hx hb dX11_takesElement_17 (sv_i (v := 0) (by decide +kernel) ?_)
  refine lv_iload_n hx hb dX11_takesElement_18 rfl (lv_at hl 0 rfl) ?_
  refine lv_iadd hx hb dX11_takesElement_19 (sv_i (v := 1) (by decide +kernel) ?_)
  refine ld_l (j := 1) (v := 0) hx hb hK hP 1 rfl (by decide +kernel) rfl dX11_takesElement_20 ?_
  refine st_l (j := 1) (g := tL [1, 0] 0) hx hb hK hP hD hS 2 rfl (by decide +kernel) upd_tL dX11_takesElement_21 (fun H locs hP hD hS => ?_)
  have hP : va_P D cl0 [(h0, .inr (8, [.int 2, .int 0, .int 1, .int 0, .int 0, .int 0, .ref h3, .ref h4, .int 0, .int 1, .ref h5, .ref h6, .ref h2, .ref h7, .ref h8, .ref h9, .ref h10, .int 0, .int 0, .int 0, .ref h1, .ref h11, .ref h12, .ref h13, .int 1, .int 1, .ref h14, .ref h15, .ref h16, .ref h17, .int 0, .int 0, .ref h18, .ref h19, .ref h20, .ref h21])), (h1, .inl (k 1, 900, .inr (.inl (tL [1, 0, 0, 0, 1, 0, 0, 0, 0] 0)))), (h2, .inl (k 1, 9, .inr (.inl (tL [1, 0] 0))))] H := hP
  have hD : va_D A [(h0, .inr (8, [.int 2, .int 0, .int 1, .int 0, .int 0, .int 0, .ref h3, .ref h4, .int 0, .int 1, .ref h5, .ref h6, .ref h2, .ref h7, .ref h8, .ref h9, .ref h10, .int 0, .int 0, .int 0, .ref h1, .ref h11, .ref h12, .ref h13, .int 1, .int 1, .ref h14, .ref h15, .ref h16, .ref h17, .int 0, .int 0, .ref h18, .ref h19, .ref h20, .ref h21])), (h1, .inl (k 1, 900, .inr (.inl (tL [1, 0, 0, 0, 1, 0, 0, 0, 0] 0)))), (h2, .inl (k 1, 9, .inr (.inl (tL [1, 0] 0))))] := hD
  refine lv_iinc (v := 2) (lv' := [(3, .int 2), (0, .ref h0), (1, .int 0), (2, .ref h2)]) hx hb dX11_takesElement_22 hl (k := 0) rfl (by decide) (by decide) rfl (fun ls hl => ?_)
  refine lv_goto (tgt := 2) hx hb dX11_takesElement_25 (by decide) ?_
  refine lv_iload_n hx hb dX11_takesElement_2 rfl (lv_at hl 0 rfl) ?_
  refine lv_bipush (v := 9) hx hb dX11_takesElement_3 (by decide) ?_
  refine lv_icmp_ge (tgt := 28) hx hb dX11_takesElement_5 (by decide) (fun cc => absurd cc (by decide +kernel)) (fun _ => ?_)
  refine lv_aload_n hx hb dX11_takesElement_8 rfl (lv_at hl 3 rfl) ?_
  refine lv_iload_n hx hb dX11_takesElement_9 rfl (lv_at hl 0 rfl) ?_
  refine lv_aload_n hx hb dX11_takesElement_10 rfl (lv_at hl 1 rfl) ?_
  refine va_get (D := D) (ci := 8) (v := .ref h1) (C := RX11) (T := TX11) (N := 36) hx hb hU iX11 hown hK.1 hP 0 rfl rfl 20 (by decide) (hU _ w805) (fun _ h9 => h9) rfl dX11_takesElement_11 ?_
  refine lv_bipush (v := 9) hx hb dX11_takesElement_14 (by decide) ?_
  refine lv_iload_n hx hb dX11_takesElement_16 rfl (lv_at hl 2 rfl) ?_
  refine lv_imul hx hb dX11_takesElement_17 (sv_i (v := 0) (by decide +kernel) ?_)
  refine lv_iload_n hx hb dX11_takesElement_18 rfl (lv_at hl 0 rfl) ?_
  refine lv_iadd hx hb dX11_takesElement_19 (sv_i (v := 2) (by decide +kernel) ?_)
  refine ld_l (j := 2) (v := 0) hx hb hK hP 1 rfl (by decide +kernel) rfl dX11_takesElement_20 ?_
  refine st_l (j := 2) (g := tL [1, 0, 0] 0) hx hb hK hP hD hS 2 rfl (by decide +kernel) upd_tL dX11_takesElement_21 (fun H locs hP hD hS => ?_)
  have hP : va_P D cl0 [(h0, .inr (8, [.int 2, .int 0, .int 1, .int 0, .int 0, .int 0, .ref h3, .ref h4, .int 0, .int 1, .ref h5, .ref h6, .ref h2, .ref h7, .ref h8, .ref h9, .ref h10, .int 0, .int 0, .int 0, .ref h1, .ref h11, .ref h12, .ref h13, .int 1, .int 1, .ref h14, .ref h15, .ref h16, .ref h17, .int 0, .int 0, .ref h18, .ref h19, .ref h20, .ref h21])), (h1, .inl (k 1, 900, .inr (.inl (tL [1, 0, 0, 0, 1, 0, 0, 0, 0] 0)))), (h2, .inl (k 1, 9, .inr (.inl (tL [1, 0, 0] 0))))] H := hP
  have hD : va_D A [(h0, .inr (8, [.int 2, .int 0, .int 1, .int 0, .int 0, .int 0, .ref h3, .ref h4, .int 0, .int 1, .ref h5, .ref h6, .ref h2, .ref h7, .ref h8, .ref h9, .ref h10, .int 0, .int 0, .int 0, .ref h1, .ref h11, .ref h12, .ref h13, .int 1, .int 1, .ref h14, .ref h15, .ref h16, .ref h17, .int 0, .int 0, .ref h18, .ref h19, .ref h20, .ref h21])), (h1, .inl (k 1, 900, .inr (.inl (tL [1, 0, 0, 0, 1, 0, 0, 0, 0] 0)))), (h2, .inl (k 1, 9, .inr (.inl (tL [1, 0, 0] 0))))] := hD
  refine lv_iinc (v := 3) (lv' := [(3, .int 3), (0, .ref h0), (1, .int 0), (2, .ref h2)]) hx hb dX11_takesElement_22 hl (k := 0) rfl (by decide) (by decide) rfl (fun ls hl => ?_)
  refine lv_goto (tgt := 2) hx hb dX11_takesElement_25 (by decide) ?_
  refine lv_iload_n hx hb dX11_takesElement_2 rfl (lv_at hl 0 rfl) ?_
  refine lv_bipush (v := 9) hx hb dX11_takesElement_3 (by decide) ?_
  refine lv_icmp_ge (tgt := 28) hx hb dX11_takesElement_5 (by decide) (fun cc => absurd cc (by decide +kernel)) (fun _ => ?_)
  refine lv_aload_n hx hb dX11_takesElement_8 rfl (lv_at hl 3 rfl) ?_
  refine lv_iload_n hx hb dX11_takesElement_9 rfl (lv_at hl 0 rfl) ?_
  refine lv_aload_n hx hb dX11_takesElement_10 rfl (lv_at hl 1 rfl) ?_
  refine va_get (D := D) (ci := 8) (v := .ref h1) (C := RX11) (T := TX11) (N := 36) hx hb hU iX11 hown hK.1 hP 0 rfl rfl 20 (by decide) (hU _ w805) (fun _ h9 => h9) rfl dX11_takesElement_11 ?_
  refine lv_bipush (v := 9) hx hb dX11_takesElement_14 (by decide) ?_
  refine lv_iload_n hx hb dX11_takesElement_16 rfl (lv_at hl 2 rfl) ?_
  refine lv_imul hx hb dX11_takesElement_17 (sv_i (v := 0) (by decide +kernel) ?_)
  refine lv_iload_n hx hb dX11_takesElement_18 rfl (lv_at hl 0 rfl) ?_
  refine lv_iadd hx hb dX11_takesElement_19 (sv_i (v := 3) (by decide +kernel) ?_)
  refine ld_l (j := 3) (v := 0) hx hb hK hP 1 rfl (by decide +kernel) rfl dX11_takesElement_20 ?_
  refine st_l (j := 3) (g := tL [1, 0, 0, 0] 0) hx hb hK hP hD hS 2 rfl (by decide +kernel) upd_tL dX11_takesElement_21 (fun H locs hP hD hS => ?_)
  have hP : va_P D cl0 [(h0, .inr (8, [.int 2, .int 0, .int 1, .int 0, .int 0, .int 0, .ref h3, .ref h4, .int 0, .int 1, .ref h5, .ref h6, .ref h2, .ref h7, .ref h8, .ref h9, .ref h10, .int 0, .int 0, .int 0, .ref h1, .ref h11, .ref h12, .ref h13, .int 1, .int 1, .ref h14, .ref h15, .ref h16, .ref h17, .int 0, .int 0, .ref h18, .ref h19, .ref h20, .ref h21])), (h1, .inl (k 1, 900, .inr (.inl (tL [1, 0, 0, 0, 1, 0, 0, 0, 0] 0)))), (h2, .inl (k 1, 9, .inr (.inl (tL [1, 0, 0, 0] 0))))] H := hP
  have hD : va_D A [(h0, .inr (8, [.int 2, .int 0, .int 1, .int 0, .int 0, .int 0, .ref h3, .ref h4, .int 0, .int 1, .ref h5, .ref h6, .ref h2, .ref h7, .ref h8, .ref h9, .ref h10, .int 0, .int 0, .int 0, .ref h1, .ref h11, .ref h12, .ref h13, .int 1, .int 1, .ref h14, .ref h15, .ref h16, .ref h17, .int 0, .int 0, .ref h18, .ref h19, .ref h20, .ref h21])), (h1, .inl (k 1, 900, .inr (.inl (tL [1, 0, 0, 0, 1, 0, 0, 0, 0] 0)))), (h2, .inl (k 1, 9, .inr (.inl (tL [1, 0, 0, 0] 0))))] := hD
  refine lv_iinc (v := 4) (lv' := [(3, .int 4), (0, .ref h0), (1, .int 0), (2, .ref h2)]) hx hb dX11_takesElement_22 hl (k := 0) rfl (by decide) (by decide) rfl (fun ls hl => ?_)
  refine lv_goto (tgt := 2) hx hb dX11_takesElement_25 (by decide) ?_
  refine lv_iload_n hx hb dX11_takesElement_2 rfl (lv_at hl 0 rfl) ?_
  refine lv_bipush (v := 9) hx hb dX11_takesElement_3 (by decide) ?_
  refine lv_icmp_ge (tgt := 28) hx hb dX11_takesElement_5 (by decide) (fun cc => absurd cc (by decide +kernel)) (fun _ => ?_)
  refine lv_aload_n hx hb dX11_takesElement_8 rfl (lv_at hl 3 rfl) ?_
  refine lv_iload_n hx hb dX11_takesElement_9 rfl (lv_at hl 0 rfl) ?_
  refine lv_aload_n hx hb dX11_takesElement_10 rfl (lv_at hl 1 rfl) ?_
  refine va_get (D := D) (ci := 8) (v := .ref h1) (C := RX11) (T := TX11) (N := 36) hx hb hU iX11 hown hK.1 hP 0 rfl rfl 20 (by decide) (hU _ w805) (fun _ h9 => h9) rfl dX11_takesElement_11 ?_
  refine lv_bipush (v := 9) hx hb dX11_takesElement_14 (by decide) ?_
  refine lv_iload_n hx hb dX11_takesElement_16 rfl (lv_at hl 2 rfl) ?_
  refine lv_imul hx hb dX11_takesElement_17 (sv_i (v := 0) (by decide +kernel) ?_)
  refine lv_iload_n hx hb dX11_takesElement_18 rfl (lv_at hl 0 rfl) ?_
  refine lv_iadd hx hb dX11_takesElement_19 (sv_i (v := 4) (by decide +kernel) ?_)
  refine ld_l (j := 4) (v := 1) hx hb hK hP 1 rfl (by decide +kernel) rfl dX11_takesElement_20 ?_
  refine st_l (j := 4) (g := tL [1, 0, 0, 0, 1] 0) hx hb hK hP hD hS 2 rfl (by decide +kernel) upd_tL dX11_takesElement_21 (fun H locs hP hD hS => ?_)
  have hP : va_P D cl0 [(h0, .inr (8, [.int 2, .int 0, .int 1, .int 0, .int 0, .int 0, .ref h3, .ref h4, .int 0, .int 1, .ref h5, .ref h6, .ref h2, .ref h7, .ref h8, .ref h9, .ref h10, .int 0, .int 0, .int 0, .ref h1, .ref h11, .ref h12, .ref h13, .int 1, .int 1, .ref h14, .ref h15, .ref h16, .ref h17, .int 0, .int 0, .ref h18, .ref h19, .ref h20, .ref h21])), (h1, .inl (k 1, 900, .inr (.inl (tL [1, 0, 0, 0, 1, 0, 0, 0, 0] 0)))), (h2, .inl (k 1, 9, .inr (.inl (tL [1, 0, 0, 0, 1] 0))))] H := hP
  have hD : va_D A [(h0, .inr (8, [.int 2, .int 0, .int 1, .int 0, .int 0, .int 0, .ref h3, .ref h4, .int 0, .int 1, .ref h5, .ref h6, .ref h2, .ref h7, .ref h8, .ref h9, .ref h10, .int 0, .int 0, .int 0, .ref h1, .ref h11, .ref h12, .ref h13, .int 1, .int 1, .ref h14, .ref h15, .ref h16, .ref h17, .int 0, .int 0, .ref h18, .ref h19, .ref h20, .ref h21])), (h1, .inl (k 1, 900, .inr (.inl (tL [1, 0, 0, 0, 1, 0, 0, 0, 0] 0)))), (h2, .inl (k 1, 9, .inr (.inl (tL [1, 0, 0, 0, 1] 0))))] := hD
  refine lv_iinc (v := 5) (lv' := [(3, .int 5), (0, .ref h0), (1, .int 0), (2, .ref h2)]) hx hb dX11_takesElement_22 hl (k := 0) rfl (by decide) (by decide) rfl (fun ls hl => ?_)
  refine lv_goto (tgt := 2) hx hb dX11_takesElement_25 (by decide) ?_
  refine lv_iload_n hx hb dX11_takesElement_2 rfl (lv_at hl 0 rfl) ?_
  refine lv_bipush (v := 9) hx hb dX11_takesElement_3 (by decide) ?_
  refine lv_icmp_ge (tgt := 28) hx hb dX11_takesElement_5 (by decide) (fun cc => absurd cc (by decide +kernel)) (fun _ => ?_)
  refine lv_aload_n hx hb dX11_takesElement_8 rfl (lv_at hl 3 rfl) ?_
  refine lv_iload_n hx hb dX11_takesElement_9 rfl (lv_at hl 0 rfl) ?_
  refine lv_aload_n hx hb dX11_takesElement_10 rfl (lv_at hl 1 rfl) ?_
  refine va_get (D := D) (ci := 8) (v := .ref h1) (C := RX11) (T := TX11) (N := 36) hx hb hU iX11 hown hK.1 hP 0 rfl rfl 20 (by decide) (hU _ w805) (fun _ h9 => h9) rfl dX11_takesElement_11 ?_
  refine lv_bipush (v := 9) hx hb dX11_takesElement_14 (by decide) ?_
  refine lv_iload_n hx hb dX11_takesElement_16 rfl (lv_at hl 2 rfl) ?_
  refine lv_imul hx hb dX11_takesElement_17 (sv_i (v := 0) (by decide +kernel) ?_)
  refine lv_iload_n hx hb dX11_takesElement_18 rfl (lv_at hl 0 rfl) ?_
  refine lv_iadd hx hb dX11_takesElement_19 (sv_i (v := 5) (by decide +kernel) ?_)
  refine ld_l (j := 5) (v := 0) hx hb hK hP 1 rfl (by decide +kernel) rfl dX11_takesElement_20 ?_
  refine st_l (j := 5) (g := tL [1, 0, 0, 0, 1, 0] 0) hx hb hK hP hD hS 2 rfl (by decide +kernel) upd_tL dX11_takesElement_21 (fun H locs hP hD hS => ?_)
  have hP : va_P D cl0 [(h0, .inr (8, [.int 2, .int 0, .int 1, .int 0, .int 0, .int 0, .ref h3, .ref h4, .int 0, .int 1, .ref h5, .ref h6, .ref h2, .ref h7, .ref h8, .ref h9, .ref h10, .int 0, .int 0, .int 0, .ref h1, .ref h11, .ref h12, .ref h13, .int 1, .int 1, .ref h14, .ref h15, .ref h16, .ref h17, .int 0, .int 0, .ref h18, .ref h19, .ref h20, .ref h21])), (h1, .inl (k 1, 900, .inr (.inl (tL [1, 0, 0, 0, 1, 0, 0, 0, 0] 0)))), (h2, .inl (k 1, 9, .inr (.inl (tL [1, 0, 0, 0, 1, 0] 0))))] H := hP
  have hD : va_D A [(h0, .inr (8, [.int 2, .int 0, .int 1, .int 0, .int 0, .int 0, .ref h3, .ref h4, .int 0, .int 1, .ref h5, .ref h6, .ref h2, .ref h7, .ref h8, .ref h9, .ref h10, .int 0, .int 0, .int 0, .ref h1, .ref h11, .ref h12, .ref h13, .int 1, .int 1, .ref h14, .ref h15, .ref h16, .ref h17, .int 0, .int 0, .ref h18, .ref h19, .ref h20, .ref h21])), (h1, .inl (k 1, 900, .inr (.inl (tL [1, 0, 0, 0, 1, 0, 0, 0, 0] 0)))), (h2, .inl (k 1, 9, .inr (.inl (tL [1, 0, 0, 0, 1, 0] 0))))] := hD
  refine lv_iinc (v := 6) (lv' := [(3, .int 6), (0, .ref h0), (1, .int 0), (2, .ref h2)]) hx hb dX11_takesElement_22 hl (k := 0) rfl (by decide) (by decide) rfl (fun ls hl => ?_)
  refine lv_goto (tgt := 2) hx hb dX11_takesElement_25 (by decide) ?_
  refine lv_iload_n hx hb dX11_takesElement_2 rfl (lv_at hl 0 rfl) ?_
  refine lv_bipush (v := 9) hx hb dX11_takesElement_3 (by decide) ?_
  refine lv_icmp_ge (tgt := 28) hx hb dX11_takesElement_5 (by decide) (fun cc => absurd cc (by decide +kernel)) (fun _ => ?_)
  refine lv_aload_n hx hb dX11_takesElement_8 rfl (lv_at hl 3 rfl) ?_
  refine lv_iload_n hx hb dX11_takesElement_9 rfl (lv_at hl 0 rfl) ?_
  refine lv_aload_n hx hb dX11_takesElement_10 rfl (lv_at hl 1 rfl) ?_
  refine va_get (D := D) (ci := 8) (v := .ref h1) (C := RX11) (T := TX11) (N := 36) hx hb hU iX11 hown hK.1 hP 0 rfl rfl 20 (by decide) (hU _ w805) (fun _ h9 => h9) rfl dX11_takesElement_11 ?_
  refine lv_bipush (v := 9) hx hb dX11_takesElement_14 (by decide) ?_
  refine lv_iload_n hx hb dX11_takesElement_16 rfl (lv_at hl 2 rfl) ?_
  refine lv_imul hx hb dX11_takesElement_17 (sv_i (v := 0) (by decide +kernel) ?_)
  refine lv_iload_n hx hb dX11_takesElement_18 rfl (lv_at hl 0 rfl) ?_
  refine lv_iadd hx hb dX11_takesElement_19 (sv_i (v := 6) (by decide +kernel) ?_)
  refine ld_l (j := 6) (v := 0) hx hb hK hP 1 rfl (by decide +kernel) rfl dX11_takesElement_20 ?_
  refine st_l (j := 6) (g := tL [1, 0, 0, 0, 1, 0, 0] 0) hx hb hK hP hD hS 2 rfl (by decide +kernel) upd_tL dX11_takesElement_21 (fun H locs hP hD hS => ?_)
  have hP : va_P D cl0 [(h0, .inr (8, [.int 2, .int 0, .int 1, .int 0, .int 0, .int 0, .ref h3, .ref h4, .int 0, .int 1, .ref h5, .ref h6, .ref h2, .ref h7, .ref h8, .ref h9, .ref h10, .int 0, .int 0, .int 0, .ref h1, .ref h11, .ref h12, .ref h13, .int 1, .int 1, .ref h14, .ref h15, .ref h16, .ref h17, .int 0, .int 0, .ref h18, .ref h19, .ref h20, .ref h21])), (h1, .inl (k 1, 900, .inr (.inl (tL [1, 0, 0, 0, 1, 0, 0, 0, 0] 0)))), (h2, .inl (k 1, 9, .inr (.inl (tL [1, 0, 0, 0, 1, 0, 0] 0))))] H := hP
  have hD : va_D A [(h0, .inr (8, [.int 2, .int 0, .int 1, .int 0, .int 0, .int 0, .ref h3, .ref h4, .int 0, .int 1, .ref h5, .ref h6, .ref h2, .ref h7, .ref h8, .ref h9, .ref h10, .int 0, .int 0, .int 0, .ref h1, .ref h11, .ref h12, .ref h13, .int 1, .int 1, .ref h14, .ref h15, .ref h16, .ref h17, .int 0, .int 0, .ref h18, .ref h19, .ref h20, .ref h21])), (h1, .inl (k 1, 900, .inr (.inl (tL [1, 0, 0, 0, 1, 0, 0, 0, 0] 0)))), (h2, .inl (k 1, 9, .inr (.inl (tL [1, 0, 0, 0, 1, 0, 0] 0))))] := hD
  refine lv_iinc (v := 7) (lv' := [(3, .int 7), (0, .ref h0), (1, .int 0), (2, .ref h2)]) hx hb dX11_takesElement_22 hl (k := 0) rfl (by decide) (by decide) rfl (fun ls hl => ?_)
  refine lv_goto (tgt := 2) hx hb dX11_takesElement_25 (by decide) ?_
  refine lv_iload_n hx hb dX11_takesElement_2 rfl (lv_at hl 0 rfl) ?_
  refine lv_bipush (v := 9) hx hb dX11_takesElement_3 (by decide) ?_
  refine lv_icmp_ge (tgt := 28) hx hb dX11_takesElement_5 (by decide) (fun cc => absurd cc (by decide +kernel)) (fun _ => ?_)
  refine lv_aload_n hx hb dX11_takesElement_8 rfl (lv_at hl 3 rfl) ?_
  refine lv_iload_n hx hb dX11_takesElement_9 rfl (lv_at hl 0 rfl) ?_
  refine lv_aload_n hx hb dX11_takesElement_10 rfl (lv_at hl 1 rfl) ?_
  refine va_get (D := D) (ci := 8) (v := .ref h1) (C := RX11) (T := TX11) (N := 36) hx hb hU iX11 hown hK.1 hP 0 rfl rfl 20 (by decide) (hU _ w805) (fun _ h9 => h9) rfl dX11_takesElement_11 ?_
  refine lv_bipush (v := 9) hx hb dX11_takesElement_14 (by decide) ?_
  refine lv_iload_n hx hb dX11_takesElement_16 rfl (lv_at hl 2 rfl) ?_
  refine lv_imul hx hb dX11_takesElement_17 (sv_i (v := 0) (by decide +kernel) ?_)
  refine lv_iload_n hx hb dX11_takesElement_18 rfl (lv_at hl 0 rfl) ?_
  refine lv_iadd hx hb dX11_takesElement_19 (sv_i (v := 7) (by decide +kernel) ?_)
  refine ld_l (j := 7) (v := 0) hx hb hK hP 1 rfl (by decide +kernel) rfl dX11_takesElement_20 ?_
  refine st_l (j := 7) (g := tL [1, 0, 0, 0, 1, 0, 0, 0] 0) hx hb hK hP hD hS 2 rfl (by decide +kernel) upd_tL dX11_takesElement_21 (fun H locs hP hD hS => ?_)
  have hP : va_P D cl0 [(h0, .inr (8, [.int 2, .int 0, .int 1, .int 0, .int 0, .int 0, .ref h3, .ref h4, .int 0, .int 1, .ref h5, .ref h6, .ref h2, .ref h7, .ref h8, .ref h9, .ref h10, .int 0, .int 0, .int 0, .ref h1, .ref h11, .ref h12, .ref h13, .int 1, .int 1, .ref h14, .ref h15, .ref h16, .ref h17, .int 0, .int 0, .ref h18, .ref h19, .ref h20, .ref h21])), (h1, .inl (k 1, 900, .inr (.inl (tL [1, 0, 0, 0, 1, 0, 0, 0, 0] 0)))), (h2, .inl (k 1, 9, .inr (.inl (tL [1, 0, 0, 0, 1, 0, 0, 0] 0))))] H := hP
  have hD : va_D A [(h0, .inr (8, [.int 2, .int 0, .int 1, .int 0, .int 0, .int 0, .ref h3, .ref h4, .int 0, .int 1, .ref h5, .ref h6, .ref h2, .ref h7, .ref h8, .ref h9, .ref h10, .int 0, .int 0, .int 0, .ref h1, .ref h11, .ref h12, .ref h13, .int 1, .int 1, .ref h14, .ref h15, .ref h16, .ref h17, .int 0, .int 0, .ref h18, .ref h19, .ref h20, .ref h21])), (h1, .inl (k 1, 900, .inr (.inl (tL [1, 0, 0, 0, 1, 0, 0, 0, 0] 0)))), (h2, .inl (k 1, 9, .inr (.inl (tL [1, 0, 0, 0, 1, 0, 0, 0] 0))))] := hD
  refine lv_iinc (v := 8) (lv' := [(3, .int 8), (0, .ref h0), (1, .int 0), (2, .ref h2)]) hx hb dX11_takesElement_22 hl (k := 0) rfl (by decide) (by decide) rfl (fun ls hl => ?_)
  refine lv_goto (tgt := 2) hx hb dX11_takesElement_25 (by decide) ?_
  refine lv_iload_n hx hb dX11_takesElement_2 rfl (lv_at hl 0 rfl) ?_
  refine lv_bipush (v := 9) hx hb dX11_takesElement_3 (by decide) ?_
  refine lv_icmp_ge (tgt := 28) hx hb dX11_takesElement_5 (by decide) (fun cc => absurd cc (by decide +kernel)) (fun _ => ?_)
  refine lv_aload_n hx hb dX11_takesElement_8 rfl (lv_at hl 3 rfl) ?_
  refine lv_iload_n hx hb dX11_takesElement_9 rfl (lv_at hl 0 rfl) ?_
  refine lv_aload_n hx hb dX11_takesElement_10 rfl (lv_at hl 1 rfl) ?_
  refine va_get (D := D) (ci := 8) (v := .ref h1) (C := RX11) (T := TX11) (N := 36) hx hb hU iX11 hown hK.1 hP 0 rfl rfl 20 (by decide) (hU _ w805) (fun _ h9 => h9) rfl dX11_takesElement_11 ?_
  refine lv_bipush (v := 9) hx hb dX11_takesElement_14 (by decide) ?_
  refine lv_iload_n hx hb dX11_takesElement_16 rfl (lv_at hl 2 rfl) ?_
  refine lv_imul hx hb dX11_takesElement_17 (sv_i (v := 0) (by decide +kernel) ?_)
  refine lv_iload_n hx hb dX11_takesElement_18 rfl (lv_at hl 0 rfl) ?_
  refine lv_iadd hx hb dX11_takesElement_19 (sv_i (v := 8) (by decide +kernel) ?_)
  refine ld_l (j := 8) (v := 0) hx hb hK hP 1 rfl (by decide +kernel) rfl dX11_takesElement_20 ?_
  refine st_l (j := 8) (g := tL [1, 0, 0, 0, 1, 0, 0, 0, 0] 0) hx hb hK hP hD hS 2 rfl (by decide +kernel) upd_tL dX11_takesElement_21 (fun H locs hP hD hS => ?_)
  have hP : va_P D cl0 [(h0, .inr (8, [.int 2, .int 0, .int 1, .int 0, .int 0, .int 0, .ref h3, .ref h4, .int 0, .int 1, .ref h5, .ref h6, .ref h2, .ref h7, .ref h8, .ref h9, .ref h10, .int 0, .int 0, .int 0, .ref h1, .ref h11, .ref h12, .ref h13, .int 1, .int 1, .ref h14, .ref h15, .ref h16, .ref h17, .int 0, .int 0, .ref h18, .ref h19, .ref h20, .ref h21])), (h1, .inl (k 1, 900, .inr (.inl (tL [1, 0, 0, 0, 1, 0, 0, 0, 0] 0)))), (h2, .inl (k 1, 9, .inr (.inl (tL [1, 0, 0, 0, 1, 0, 0, 0, 0] 0))))] H := hP
  have hD : va_D A [(h0, .inr (8, [.int 2, .int 0, .int 1, .int 0, .int 0, .int 0, .ref h3, .ref h4, .int 0, .int 1, .ref h5, .ref h6, .ref h2, .ref h7, .ref h8, .ref h9, .ref h10, .int 0, .int 0, .int 0, .ref h1, .ref h11, .ref h12, .ref h13, .int 1, .int 1, .ref h14, .ref h15, .ref h16, .ref h17, .int 0, .int 0, .ref h18, .ref h19, .ref h20, .ref h21])), (h1, .inl (k 1, 900, .inr (.inl (tL [1, 0, 0, 0, 1, 0, 0, 0, 0] 0)))), (h2, .inl (k 1, 9, .inr (.inl (tL [1, 0, 0, 0, 1, 0, 0, 0, 0] 0))))] := hD
  refine lv_iinc (v := 9) (lv' := [(3, .int 9), (0, .ref h0), (1, .int 0), (2, .ref h2)]) hx hb dX11_takesElement_22 hl (k := 0) rfl (by decide) (by decide) rfl (fun ls hl => ?_)
  refine lv_goto (tgt := 2) hx hb dX11_takesElement_25 (by decide) ?_
  refine lv_iload_n hx hb dX11_takesElement_2 rfl (lv_at hl 0 rfl) ?_
  refine lv_bipush (v := 9) hx hb dX11_takesElement_3 (by decide) ?_
  refine lv_icmp_ge (tgt := 28) hx hb dX11_takesElement_5 (by decide) (fun _ => ?_) (fun cc => absurd (by decide +kernel) cc)
  exact retV hx hb hr hlocks hS (⟨hP, hD⟩) dX11_takesElement_28
abbrev BX11_findForm_1 (D : va_G) (k : Nat → ClassId) (h0 h1 h2 h3 h4 h5 h6 h7 h8 h9 h10 h11 h12 h13 h14 h15 h16 h17 h18 h19 h20 h21 : Nat) (A : Nat → Prop) (r : Int32) (H : Heap) : Prop := 1 = r ∧ va_P D cl0 [(h1, .inl (k 1, 9, .inr (.inl (tL [1, 0, 0, 0, 1, 0, 0, 0, 0] 0)))), (h0, .inr (8, [.int 2, .int 0, .int 1, .int 0, .int 0, .int 0, .ref h4, .ref h5, .int 0, .int 1, .ref h6, .ref h1, .ref h3, .ref h7, .ref h8, .ref h9, .ref h10, .int 0, .int 0, .int 0, .ref h2, .ref h11, .ref h12, .ref h13, .int 1, .int 1, .ref h14, .ref h15, .ref h16, .ref h17, .int 0, .int 0, .ref h18, .ref h19, .ref h20, .ref h21])), (h2, .inl (k 1, 900, .inr (.inl (tL [1, 0, 0, 0, 1, 0, 0, 0, 0] 0)))), (h3, .inl (k 1, 9, .inr (.inl (tL [1, 0, 0, 0, 1, 0, 0, 0, 0] 0))))] H ∧ va_D A [(h1, .inl (k 1, 9, .inr (.inl (tL [1, 0, 0, 0, 1, 0, 0, 0, 0] 0)))), (h0, .inr (8, [.int 2, .int 0, .int 1, .int 0, .int 0, .int 0, .ref h4, .ref h5, .int 0, .int 1, .ref h6, .ref h1, .ref h3, .ref h7, .ref h8, .ref h9, .ref h10, .int 0, .int 0, .int 0, .ref h2, .ref h11, .ref h12, .ref h13, .int 1, .int 1, .ref h14, .ref h15, .ref h16, .ref h17, .int 0, .int 0, .ref h18, .ref h19, .ref h20, .ref h21])), (h2, .inl (k 1, 900, .inr (.inl (tL [1, 0, 0, 0, 1, 0, 0, 0, 0] 0)))), (h3, .inl (k 1, 9, .inr (.inl (tL [1, 0, 0, 0, 1, 0, 0, 0, 0] 0))))]
set_option maxHeartbeats 4000000 in
set_option maxRecDepth 100000 in
theorem cX11_findForm_1 (l : Launch) (D : va_G) (k : Nat → ClassId) (sz : Nat) (h0 h1 h2 h3 h4 h5 h6 h7 h8 h9 h10 h11 h12 h13 h14 h15 h16 h17 h18 h19 h20 h21 : Nat) : Met l yX11_findForm (Cond.code yX11_findForm cX11_findForm 9 (some .boolean) :: uw) ({ frames := 1, cells := 0, slots := 0, locals := 23 }) (pC D k sz [.ref h0] [(h0, .inr (8, [.int 2, .int 0, .int 1, .int 0, .int 0, .int 0, .ref h4, .ref h5, .int 0, .int 1, .ref h6, .ref h1, .ref h3, .ref h7, .ref h8, .ref h9, .ref h10, .int 0, .int 0, .int 0, .ref h2, .ref h11, .ref h12, .ref h13, .int 1, .int 1, .ref h14, .ref h15, .ref h16, .ref h17, .int 0, .int 0, .ref h18, .ref h19, .ref h20, .ref h21])), (h1, .inl (k 1, 9, .inr (.inl (tL [1, 0, 0, 0, 1, 0, 0, 0, 0] 0)))), (h2, .inl (k 1, 900, .inr (.inl (tL [1, 0, 0, 0, 1, 0, 0, 0, 0] 0)))), (h3, .inl (k 1, 9, .inr (.inl (tL [] 0))))]) (qI (BX11_findForm_1 D k h0 h1 h2 h3 h4 h5 h6 h7 h8 h9 h10 h11 h12 h13 h14 h15 h16 h17 h18 h19 h20 h21 (va_A [(h0, .inr (8, [.int 2, .int 0, .int 1, .int 0, .int 0, .int 0, .ref h4, .ref h5, .int 0, .int 1, .ref h6, .ref h1, .ref h3, .ref h7, .ref h8, .ref h9, .ref h10, .int 0, .int 0, .int 0, .ref h2, .ref h11, .ref h12, .ref h13, .int 1, .int 1, .ref h14, .ref h15, .ref h16, .ref h17, .int 0, .int 0, .ref h18, .ref h19, .ref h20, .ref h21])), (h1, .inl (k 1, 9, .inr (.inl (tL [1, 0, 0, 0, 1, 0, 0, 0, 0] 0)))), (h2, .inl (k 1, 900, .inr (.inl (tL [1, 0, 0, 0, 1, 0, 0, 0, 0] 0)))), (h3, .inl (k 1, 9, .inr (.inl (tL [] 0))))] sz)) (va_A [(h0, .inr (8, [.int 2, .int 0, .int 1, .int 0, .int 0, .int 0, .ref h4, .ref h5, .int 0, .int 1, .ref h6, .ref h1, .ref h3, .ref h7, .ref h8, .ref h9, .ref h10, .int 0, .int 0, .int 0, .ref h2, .ref h11, .ref h12, .ref h13, .int 1, .int 1, .ref h14, .ref h15, .ref h16, .ref h17, .int 0, .int 0, .ref h18, .ref h19, .ref h20, .ref h21])), (h1, .inl (k 1, 9, .inr (.inl (tL [1, 0, 0, 0, 1, 0, 0, 0, 0] 0)))), (h2, .inl (k 1, 900, .inr (.inl (tL [1, 0, 0, 0, 1, 0, 0, 0, 0] 0)))), (h3, .inl (k 1, 9, .inr (.inl (tL [] 0))))] sz)) 0 0 (va_A [(h0, .inr (8, [.int 2, .int 0, .int 1, .int 0, .int 0, .int 0, .ref h4, .ref h5, .int 0, .int 1, .ref h6, .ref h1, .ref h3, .ref h7, .ref h8, .ref h9, .ref h10, .int 0, .int 0, .int 0, .ref h2, .ref h11, .ref h12, .ref h13, .int 1, .int 1, .ref h14, .ref h15, .ref h16, .ref h17, .int 0, .int 0, .ref h18, .ref h19, .ref h20, .ref h21])), (h1, .inl (k 1, 9, .inr (.inl (tL [1, 0, 0, 0, 1, 0, 0, 0, 0] 0)))), (h2, .inl (k 1, 900, .inr (.inl (tL [1, 0, 0, 0, 1, 0, 0, 0, 0] 0)))), (h3, .inl (k 1, 9, .inr (.inl (tL [] 0))))] sz) := by
  refine begin_ (Qc := fun A => qI (BX11_findForm_1 D k h0 h1 h2 h3 h4 h5 h6 h7 h8 h9 h10 h11 h12 h13 h14 h15 h16 h17 h18 h19 h20 h21 A) A) (by decide) (Nat.le_of_ble_eq_true rfl) ?_
  intro p e s m below meth c ls A hx hb hr hml hown hlocks hin hU hK hsz hP hD hS hA hl
  have hl : lv_has ls 9 [(0, .ref h0)] := hl
  clear hsz
  refine lv_aload_n hx hb dX11_findForm_0 rfl (lv_at hl 0 rfl) ?_
  refine lv_aload_n hx hb dX11_findForm_1 rfl (lv_at hl 0 rfl) ?_
  refine va_get (D := D) (ci := 8) (v := .ref h1) (C := RX11) (T := TX11) (N := 36) hx hb hU iX11 hown hK.1 hP 0 rfl rfl 11 (by decide) (hU _ w796) (fun _ h9 => h9) rfl dX11_findForm_2 ?_
  refine cV (rV (q0 := 0) (ci := 8) (As := [.ref h1]) (rest := []) (wc := [(h1, .inl (k 1, 9, .inr (.inl (tL [1, 0, 0, 0, 1, 0, 0, 0, 0] 0))))]) hx hb hml hown hU hK hP hD rfl rfl [1] rfl (by decide) (cX11_clears_5 l D k _ h1 h0) w923 w920 w922 w29 w72 hdX11_clears ⟨rfl, rfl⟩ ⟨Nat.le_of_ble_eq_true rfl, Nat.le_of_ble_eq_true rfl⟩ rfl hl.1 (Nat.le_of_ble_eq_true rfl) dX11_findForm_5 ⟨Nat.le_of_ble_eq_true rfl, Nat.le_of_ble_eq_true rfl⟩) hP hD hS hA (wr := [(h0, .inr (8, [.int 2, .int 0, .int 1, .int 0, .int 0, .int 0, .ref h4, .ref h5, .int 0, .int 1, .ref h6, .ref h1, .ref h3, .ref h7, .ref h8, .ref h9, .ref h10, .int 0, .int 0, .int 0, .ref h2, .ref h11, .ref h12, .ref h13, .int 1, .int 1, .ref h14, .ref h15, .ref h16, .ref h17, .int 0, .int 0, .ref h18, .ref h19, .ref h20, .ref h21])), (h2, .inl (k 1, 900, .inr (.inl (tL [1, 0, 0, 0, 1, 0, 0, 0, 0] 0)))), (h3, .inl (k 1, 9, .inr (.inl (tL [] 0))))]) [1] [0, 2, 3] rfl rfl (by decide) (by decide) (fun H locs hB J hS => ?_)
  obtain ⟨hP1, hD1⟩ := hB
  obtain ⟨hP, hD⟩ := J _ hP1 hD1
  have hP : va_P D cl0 [(h0, .inr (8, [.int 2, .int 0, .int 1, .int 0, .int 0, .int 0, .ref h4, .ref h5, .int 0, .int 1, .ref h6, .ref h1, .ref h3, .ref h7, .ref h8, .ref h9, .ref h10, .int 0, .int 0, .int 0, .ref h2, .ref h11, .ref h12, .ref h13, .int 1, .int 1, .ref h14, .ref h15, .ref h16, .ref h17, .int 0, .int 0, .ref h18, .ref h19, .ref h20, .ref h21])), (h2, .inl (k 1, 900, .inr (.inl (tL [1, 0, 0, 0, 1, 0, 0, 0, 0] 0)))), (h3, .inl (k 1, 9, .inr (.inl (tL [] 0)))), (h1, .inl (k 1, 9, .inr (.inl (tL [0, 0, 0, 0, 0, 0, 0, 0, 0] 0))))] H := hP
  have hD : va_D A [(h0, .inr (8, [.int 2, .int 0, .int 1, .int 0, .int 0, .int 0, .ref h4, .ref h5, .int 0, .int 1, .ref h6, .ref h1, .ref h3, .ref h7, .ref h8, .ref h9, .ref h10, .int 0, .int 0, .int 0, .ref h2, .ref h11, .ref h12, .ref h13, .int 1, .int 1, .ref h14, .ref h15, .ref h16, .ref h17, .int 0, .int 0, .ref h18, .ref h19, .ref h20, .ref h21])), (h2, .inl (k 1, 900, .inr (.inl (tL [1, 0, 0, 0, 1, 0, 0, 0, 0] 0)))), (h3, .inl (k 1, 9, .inr (.inl (tL [] 0)))), (h1, .inl (k 1, 9, .inr (.inl (tL [0, 0, 0, 0, 0, 0, 0, 0, 0] 0))))] := hD
  refine lv_iconst (v := 1) hx hb dX11_findForm_8 (by decide) ?_
  refine lv_istore_n (lv' := [(1, .int 1), (0, .ref h0)]) hx hb dX11_findForm_9 rfl hl (by decide) rfl (fun ls hl => ?_)
  refine lv_iconst (v := 0) hx hb dX11_findForm_10 (by decide) ?_
  refine lv_istore_n (lv' := [(2, .int 0), (1, .int 1), (0, .ref h0)]) hx hb dX11_findForm_11 rfl hl (by decide) rfl (fun ls hl => ?_)
  refine lv_iload_n hx hb dX11_findForm_12 rfl (lv_at hl 0 rfl) ?_
  refine lv_aload_n hx hb dX11_findForm_13 rfl (lv_at hl 2 rfl) ?_
  refine va_get (D := D) (ci := 8) (v := .int 1) (C := RX11) (T := TX11) (N := 36) hx hb hU iX11 hown hK.1 hP 0 rfl rfl 24 (by decide) (hU _ w809) (fun _ h9 => h9) rfl dX11_findForm_14 ?_
  refine lv_icmp_ge (tgt := 221) hx hb dX11_findForm_17 (by decide) (fun cc => absurd cc (by decide +kernel)) (fun _ => ?_)
  refine lv_aload_n hx hb dX11_findForm_20 rfl (lv_at hl 2 rfl) ?_
  refine lv_iload_n hx hb dX11_findForm_21 rfl (lv_at hl 0 rfl) ?_
  refine lv_aload_n hx hb dX11_findForm_22 rfl (lv_at hl 2 rfl) ?_
  refine va_get (D := D) (ci := 8) (v := .ref h3) (C := RX11) (T := TX11) (N := 36) hx hb hU iX11 hown hK.1 hP 0 rfl rfl 12 (by decide) (hU _ w797) (fun _ h9 => h9) rfl dX11_findForm_23 ?_
  refine cV (rV (q0 := 0) (ci := 8) (As := [.int 0, .ref h3]) (rest := []) (wc := [(h0, .inr (8, [.int 2, .int 0, .int 1, .int 0, .int 0, .int 0, .ref h4, .ref h5, .int 0, .int 1, .ref h6, .ref h1, .ref h3, .ref h7, .ref h8, .ref h9, .ref h10, .int 0, .int 0, .int 0, .ref h2, .ref h11, .ref h12, .ref h13, .int 1, .int 1, .ref h14, .ref h15, .ref h16, .ref h17, .int 0, .int 0, .ref h18, .ref h19, .ref h20, .ref h21])), (h2, .inl (k 1, 900, .inr (.inl (tL [1, 0, 0, 0, 1, 0, 0, 0, 0] 0)))), (h3, .inl (k 1, 9, .inr (.inl (tL [] 0))))]) hx hb hml hown hU hK hP hD rfl rfl [0, 1, 2] rfl (by decide) (cX11_takesElement_2 l D k _ h0 h2 h3 h4 h5 h6 h1 h7 h8 h9 h10 h11 h12 h13 h14 h15 h16 h17 h18 h19 h20 h21) w1047 w1044 w1046 w49 w72 hdX11_takesElement ⟨rfl, rfl⟩ ⟨Nat.le_of_ble_eq_true rfl, Nat.le_of_ble_eq_true rfl⟩ rfl hl.1 (Nat.le_of_ble_eq_true rfl) dX11_findForm_26 ⟨Nat.le_of_ble_eq_true rfl, Nat.le_of_ble_eq_true rfl⟩) hP hD hS hA (wr := [(h1, .inl (k 1, 9, .inr (.inl (tL [0, 0, 0, 0, 0, 0, 0, 0, 0] 0))))]) [0, 1, 2] [3] rfl rfl (by decide) (by decide) (fun H locs hB J hS => ?_)
  obtain ⟨hP1, hD1⟩ := hB
  obtain ⟨hP, hD⟩ := J _ hP1 hD1
  have hP : va_P D cl0 [(h1, .inl (k 1, 9, .inr (.inl (tL [0, 0, 0, 0, 0, 0, 0, 0, 0] 0)))), (h0, .inr (8, [.int 2, .int 0, .int 1, .int 0, .int 0, .int 0, .ref h4, .ref h5, .int 0, .int 1, .ref h6, .ref h1, .ref h3, .ref h7, .ref h8, .ref h9, .ref h10, .int 0, .int 0, .int 0, .ref h2, .ref h11, .ref h12, .ref h13, .int 1, .int 1, .ref h14, .ref h15, .ref h16, .ref h17, .int 0, .int 0, .ref h18, .ref h19, .ref h20, .ref h21])), (h2, .inl (k 1, 900, .inr (.inl (tL [1, 0, 0, 0, 1, 0, 0, 0, 0] 0)))), (h3, .inl (k 1, 9, .inr (.inl (tL [1, 0, 0, 0, 1, 0, 0, 0, 0] 0))))] H := hP
  have hD : va_D A [(h1, .inl (k 1, 9, .inr (.inl (tL [0, 0, 0, 0, 0, 0, 0, 0, 0] 0)))), (h0, .inr (8, [.int 2, .int 0, .int 1, .int 0, .int 0, .int 0, .ref h4, .ref h5, .int 0, .int 1, .ref h6, .ref h1, .ref h3, .ref h7, .ref h8, .ref h9, .ref h10, .int 0, .int 0, .int 0, .ref h2, .ref h11, .ref h12, .ref h13, .int 1, .int 1, .ref h14, .ref h15, .ref h16, .ref h17, .int 0, .int 0, .ref h18, .ref h19, .ref h20, .ref h21])), (h2, .inl (k 1, 900, .inr (.inl (tL [1, 0, 0, 0, 1, 0, 0, 0, 0] 0)))), (h3, .inl (k 1, 9, .inr (.inl (tL [1, 0, 0, 0, 1, 0, 0, 0, 0] 0))))] := hD
  refine lv_iconst (v := 0) hx hb dX11_findForm_29 (by decide) ?_
  refine lv_istore_n (lv' := [(3, .int 0), (2, .int 0), (1, .int 1), (0, .ref h0)]) hx hb dX11_findForm_30 rfl hl (by decide) rfl (fun ls hl => ?_)
  refine lv_iload_n hx hb dX11_findForm_31 rfl (lv_at hl 0 rfl) ?_
  refine lv_aload_n hx hb dX11_findForm_32 rfl (lv_at hl 3 rfl) ?_
  refine va_get (D := D) (ci := 8) (v := .int 2) (C := RX11) (T := TX11) (N := 36) hx hb hU iX11 hown hK.1 hP 1 rfl rfl 0 (by decide) (hU _ w785) (fun _ h9 => h9) rfl dX11_findForm_33 ?_
  refine lv_icmp_ge (tgt := 215) hx hb dX11_findForm_36 (by decide) (fun cc => absurd cc (by decide +kernel)) (fun _ => ?_)
  refine lv_iconst (v := 0) hx hb dX11_findForm_39 (by decide) ?_
  refine lv_istore (lv' := [(4, .int 0), (3, .int 0), (2, .int 0), (1, .int 1), (0, .ref h0)]) hx hb dX11_findForm_40 hl (by decide) rfl (fun ls hl => ?_)
  refine lv_iload hx hb dX11_findForm_42 (lv_at hl 0 rfl) ?_
  refine lv_aload_n hx hb dX11_findForm_44 rfl (lv_at hl 4 rfl) ?_
  refine va_get (D := D) (ci := 8) (v := .int 2) (C := RX11) (T := TX11) (N := 36) hx hb hU iX11 hown hK.1 hP 1 rfl rfl 0 (by decide) (hU _ w785) (fun _ h9 => h9) rfl dX11_findForm_45 ?_
  refine lv_icmp_ge (tgt := 209) hx hb dX11_findForm_48 (by decide) (fun cc => absurd cc (by decide +kernel)) (fun _ => ?_)
  refine lv_lconst (v := 0) hx hb dX11_findForm_51 (by decide) ?_
  refine lv_lstore (lv' := [(5, .long 0), (4, .int 0), (3, .int 0), (2, .int 0), (1, .int 1), (0, .ref h0)]) hx hb dX11_findForm_52 hl (by decide) rfl (fun ls hl => ?_)
  refine lv_iconst (v := 0) hx hb dX11_findForm_54 (by decide) ?_
  refine lv_istore (lv' := [(7, .int 0), (5, .long 0), (4, .int 0), (3, .int 0), (2, .int 0), (1, .int 1), (0, .ref h0)]) hx hb dX11_findForm_55 hl (by decide) rfl (fun ls hl => ?_)
  refine lv_iload hx hb dX11_findForm_57 (lv_at hl 0 rfl) ?_
  refine lv_aload_n hx hb dX11_findForm_59 rfl (lv_at hl 6 rfl) ?_
  refine va_get (D := D) (ci := 8) (v := .int 2) (C := RX11) (T := TX11) (N := 36) hx hb hU iX11 hown hK.1 hP 1 rfl rfl 0 (by decide) (hU _ w785) (fun _ h9 => h9) rfl dX11_findForm_60 ?_
  refine lv_icmp_ge (tgt := 101) hx hb dX11_findForm_63 (by decide) (fun cc => absurd cc (by decide +kernel)) (fun _ => ?_)
  refine lv_lload hx hb dX11_findForm_66 (lv_at hl 1 rfl) ?_
  refine lv_aload_n hx hb dX11_findForm_68 rfl (lv_at hl 6 rfl) ?_
  refine va_get (D := D) (ci := 8) (v := .ref h3) (C := RX11) (T := TX11) (N := 36) hx hb hU iX11 hown hK.1 hP 1 rfl rfl 12 (by decide) (hU _ w797) (fun _ h9 => h9) rfl dX11_findForm_69 ?_
  refine lv_iconst (v := 3) hx hb dX11_findForm_72 (by decide) ?_
  refine lv_iload hx hb dX11_findForm_73 (lv_at hl 0 rfl) ?_
  refine lv_imul hx hb dX11_findForm_75 (sv_i (v := 0) (by decide +kernel) ?_)
  refine lv_iload_n hx hb dX11_findForm_76 rfl (lv_at hl 3 rfl) ?_
  refine lv_iadd hx hb dX11_findForm_77 (sv_i (v := 0) (by decide +kernel) ?_)
  refine ld_l (j := 0) (v := 1) hx hb hK hP 3 rfl (by decide +kernel) rfl dX11_findForm_78 ?_
  refine lv_aload_n hx hb dX11_findForm_79 rfl (lv_at hl 6 rfl) ?_
  refine va_get (D := D) (ci := 8) (v := .ref h3) (C := RX11) (T := TX11) (N := 36) hx hb hU iX11 hown hK.1 hP 1 rfl rfl 12 (by decide) (hU _ w797) (fun _ h9 => h9) rfl dX11_findForm_80 ?_
  refine lv_iconst (v := 3) hx hb dX11_findForm_83 (by decide) ?_
  refine lv_iload hx hb dX11_findForm_84 (lv_at hl 0 rfl) ?_
  refine lv_imul hx hb dX11_findForm_86 (sv_i (v := 0) (by decide +kernel) ?_)
  refine lv_iload hx hb dX11_findForm_87 (lv_at hl 2 rfl) ?_
  refine lv_iadd hx hb dX11_findForm_89 (sv_i (v := 0) (by decide +kernel) ?_)
  refine ld_l (j := 0) (v := 1) hx hb hK hP 3 rfl (by decide +kernel) rfl dX11_findForm_90 ?_
  refine lv_lmul hx hb dX11_findForm_91 (sv_l (v := 1) (by decide +kernel) ?_)
  refine lv_ladd hx hb dX11_findForm_92 (sv_l (v := 1) (by decide +kernel) ?_)
  refine lv_lstore (lv' := [(5, .long 1), (7, .int 0), (4, .int 0), (3, .int 0), (2, .int 0), (1, .int 1), (0, .ref h0)]) hx hb dX11_findForm_93 hl (by decide) rfl (fun ls hl => ?_)
  refine lv_iinc (v := 1) (lv' := [(7, .int 1), (5, .long 1), (4, .int 0), (3, .int 0), (2, .int 0), (1, .int 1), (0, .ref h0)]) hx hb dX11_findForm_95 hl (k := 1) rfl (by decide) (by decide) rfl (fun ls hl => ?_)
  refine lv_goto (tgt := 57) hx hb dX11_findForm_98 (by decide) ?_
  refine lv_iload hx hb dX11_findForm_57 (lv_at hl 0 rfl) ?_
  refine lv_aload_n hx hb dX11_findForm_59 rfl (lv_at hl 6 rfl) ?_
  refine va_get (D := D) (ci := 8) (v := .int 2) (C := RX11) (T := TX11) (N := 36) hx hb hU iX11 hown hK.1 hP 1 rfl rfl 0 (by decide) (hU _ w785) (fun _ h9 => h9) rfl dX11_findForm_60 ?_
  refine lv_icmp_ge (tgt := 101) hx hb dX11_findForm_63 (by decide) (fun cc => absurd cc (by decide +kernel)) (fun _ => ?_)
  refine lv_lload hx hb dX11_findForm_66 (lv_at hl 1 rfl) ?_
  refine lv_aload_n hx hb dX11_findForm_68 rfl (lv_at hl 6 rfl) ?_
  refine va_get (D := D) (ci := 8) (v := .ref h3) (C := RX11) (T := TX11) (N := 36) hx hb hU iX11 hown hK.1 hP 1 rfl rfl 12 (by decide) (hU _ w797) (fun _ h9 => h9) rfl dX11_findForm_69 ?_
  refine lv_iconst (v := 3) hx hb dX11_findForm_72 (by decide) ?_
  refine lv_iload hx hb dX11_findForm_73 (lv_at hl 0 rfl) ?_
  refine lv_imul hx hb dX11_findForm_75 (sv_i (v := 3) (by decide +kernel) ?_)
  refine lv_iload_n hx hb dX11_findForm_76 rfl (lv_at hl 3 rfl) ?_
  refine lv_iadd hx hb dX11_findForm_77 (sv_i (v := 3) (by decide +kernel) ?_)
  refine ld_l (j := 3) (v := 0) hx hb hK hP 3 rfl (by decide +kernel) rfl dX11_findForm_78 ?_
  refine lv_aload_n hx hb dX11_findForm_79 rfl (lv_at hl 6 rfl) ?_
  refine va_get (D := D) (ci := 8) (v := .ref h3) (C := RX11) (T := TX11) (N := 36) hx hb hU iX11 hown hK.1 hP 1 rfl rfl 12 (by decide) (hU _ w797) (fun _ h9 => h9) rfl dX11_findForm_80 ?_
  refine lv_iconst (v := 3) hx hb dX11_findForm_83 (by decide) ?_
  refine lv_iload hx hb dX11_findForm_84 (lv_at hl 0 rfl) ?_
  refine lv_imul hx hb dX11_findForm_86 (sv_i (v := 3) (by decide +kernel) ?_)
  refine lv_iload hx hb dX11_findForm_87 (lv_at hl 2 rfl) ?_
  refine lv_iadd hx hb dX11_findForm_89 (sv_i (v := 3) (by decide +kernel) ?_)
  refine ld_l (j := 3) (v := 0) hx hb hK hP 3 rfl (by decide +kernel) rfl dX11_findForm_90 ?_
  refine lv_lmul hx hb dX11_findForm_91 (sv_l (v := 0) (by decide +kernel) ?_)
  refine lv_ladd hx hb dX11_findForm_92 (sv_l (v := 1) (by decide +kernel) ?_)
  refine lv_lstore (lv' := [(5, .long 1), (7, .int 1), (4, .int 0), (3, .int 0), (2, .int 0), (1, .int 1), (0, .ref h0)]) hx hb dX11_findForm_93 hl (by decide) rfl (fun ls hl => ?_)
  refine lv_iinc (v := 2) (lv' := [(7, .int 2), (5, .long 1), (4, .int 0), (3, .int 0), (2, .int 0), (1, .int 1), (0, .ref h0)]) hx hb dX11_findForm_95 hl (k := 1) rfl (by decide) (by decide) rfl (fun ls hl => ?_)
  refine lv_goto (tgt := 57) hx hb dX11_findForm_98 (by decide) ?_
  refine lv_iload hx hb dX11_findForm_57 (lv_at hl 0 rfl) ?_
  refine lv_aload_n hx hb dX11_findForm_59 rfl (lv_at hl 6 rfl) ?_
  refine va_get (D := D) (ci := 8) (v := .int 2) (C := RX11) (T := TX11) (N := 36) hx hb hU iX11 hown hK.1 hP 1 rfl rfl 0 (by decide) (hU _ w785) (fun _ h9 => h9) rfl dX11_findForm_60 ?_
  refine lv_icmp_ge (tgt := 101) hx hb dX11_findForm_63 (by decide) (fun _ => ?_) (fun cc => absurd (by decide +kernel) cc)
  refine lv_aload_n hx hb dX11_findForm_101 rfl (lv_at hl 6 rfl) ?_
  refine va_get (D := D) (ci := 8) (v := .ref h1) (C := RX11) (T := TX11) (N := 36) hx hb hU iX11 hown hK.1 hP 1 rfl rfl 11 (by decide) (hU _ w796) (fun _ h9 => h9) rfl dX11_findForm_102 ?_
  refine lv_iconst (v := 3) hx hb dX11_findForm_105 (by decide) ?_
  refine lv_iload_n hx hb dX11_findForm_106 rfl (lv_at hl 3 rfl) ?_
  refine lv_imul hx hb dX11_findForm_107 (sv_i (v := 0) (by decide +kernel) ?_)
  refine lv_iload hx hb dX11_findForm_108 (lv_at hl 2 rfl) ?_
  refine lv_iadd hx hb dX11_findForm_110 (sv_i (v := 0) (by decide +kernel) ?_)
  refine ld_l (j := 0) (v := 0) hx hb hK hP 0 rfl (by decide +kernel) rfl dX11_findForm_111 ?_
  refine lv_lload hx hb dX11_findForm_112 (lv_at hl 1 rfl) ?_
  refine lv_ladd hx hb dX11_findForm_114 (sv_l (v := 1) (by decide +kernel) ?_)
  refine lv_lstore (lv' := [(7, .long 1), (5, .long 1), (4, .int 0), (3, .int 0), (2, .int 0), (1, .int 1), (0, .ref h0)]) hx hb dX11_findForm_115 hl (by decide) rfl (fun ls hl => ?_)
  refine lv_iload_n hx hb dX11_findForm_117 rfl (lv_at hl 5 rfl) ?_
  refine lv_if_eq (tgt := 188) hx hb dX11_findForm_118 (by decide) (fun cc => absurd cc (by decide +kernel)) (fun _ => ?_)
  refine lv_aload_n hx hb dX11_findForm_121 rfl (lv_at hl 6 rfl) ?_
  refine va_get (D := D) (ci := 8) (v := .ref h1) (C := RX11) (T := TX11) (N := 36) hx hb hU iX11 hown hK.1 hP 1 rfl rfl 11 (by decide) (hU _ w796) (fun _ h9 => h9) rfl dX11_findForm_122 ?_
  refine lv_iconst (v := 3) hx hb dX11_findForm_125 (by decide) ?_
  refine lv_iload_n hx hb dX11_findForm_126 rfl (lv_at hl 3 rfl) ?_
  refine lv_imul hx hb dX11_findForm_127 (sv_i (v := 0) (by decide +kernel) ?_)
  refine lv_iload hx hb dX11_findForm_128 (lv_at hl 2 rfl) ?_
  refine lv_iadd hx hb dX11_findForm_130 (sv_i (v := 0) (by decide +kernel) ?_)
  refine ld_l (j := 0) (v := 0) hx hb hK hP 0 rfl (by decide +kernel) rfl dX11_findForm_131 ?_
  refine lv_lconst (v := 0) hx hb dX11_findForm_132 (by decide) ?_
  refine W.lcmp hx hb dX11_findForm_133 (sv_i (v := 0) (by decide +kernel) ?_)
  refine lv_if_lt (tgt := 141) hx hb dX11_findForm_134 (by decide) (fun cc => absurd cc (by decide +kernel)) (fun _ => ?_)
  refine lv_iconst (v := 1) hx hb dX11_findForm_137 (by decide) ?_
  refine lv_goto (tgt := 142) hx hb dX11_findForm_138 (by decide) ?_
  refine lv_lload hx hb dX11_findForm_142 (lv_at hl 1 rfl) ?_
  refine lv_lconst (v := 0) hx hb dX11_findForm_144 (by decide) ?_
  refine W.lcmp hx hb dX11_findForm_145 (sv_i (v := 1) (by decide +kernel) ?_)
  refine lv_if_lt (tgt := 153) hx hb dX11_findForm_146 (by decide) (fun cc => absurd cc (by decide +kernel)) (fun _ => ?_)
  refine lv_iconst (v := 1) hx hb dX11_findForm_149 (by decide) ?_
  refine lv_goto (tgt := 154) hx hb dX11_findForm_150 (by decide) ?_
  refine lv_icmp_ne (tgt := 184) hx hb dX11_findForm_154 (by decide) (fun cc => absurd (by decide +kernel) cc) (fun _ => ?_)
  refine lv_lload hx hb dX11_findForm_157 (lv_at hl 0 rfl) ?_
  refine lv_lconst (v := 0) hx hb dX11_findForm_159 (by decide) ?_
  refine W.lcmp hx hb dX11_findForm_160 (sv_i (v := 1) (by decide +kernel) ?_)
  refine lv_if_lt (tgt := 168) hx hb dX11_findForm_161 (by decide) (fun cc => absurd cc (by decide +kernel)) (fun _ => ?_)
  refine lv_iconst (v := 1) hx hb dX11_findForm_164 (by decide) ?_
  refine lv_goto (tgt := 169) hx hb dX11_findForm_165 (by decide) ?_
  refine lv_lload hx hb dX11_findForm_169 (lv_at hl 1 rfl) ?_
  refine lv_lconst (v := 0) hx hb dX11_findForm_171 (by decide) ?_
  refine W.lcmp hx hb dX11_findForm_172 (sv_i (v := 1) (by decide +kernel) ?_)
  refine lv_if_lt (tgt := 180) hx hb dX11_findForm_173 (by decide) (fun cc => absurd cc (by decide +kernel)) (fun _ => ?_)
  refine lv_iconst (v := 1) hx hb dX11_findForm_176 (by decide) ?_
  refine lv_goto (tgt := 181) hx hb dX11_findForm_177 (by decide) ?_
  refine lv_icmp_ne (tgt := 188) hx hb dX11_findForm_181 (by decide) (fun cc => absurd (by decide +kernel) cc) (fun _ => ?_)
  refine lv_iconst (v := 1) hx hb dX11_findForm_184 (by decide) ?_
  refine lv_goto (tgt := 189) hx hb dX11_findForm_185 (by decide) ?_
  refine lv_istore_n (lv' := [(1, .int 1), (7, .long 1), (5, .long 1), (4, .int 0), (3, .int 0), (2, .int 0), (0, .ref h0)]) hx hb dX11_findForm_189 rfl hl (by decide) rfl (fun ls hl => ?_)
  refine lv_aload_n hx hb dX11_findForm_190 rfl (lv_at hl 6 rfl) ?_
  refine va_get (D := D) (ci := 8) (v := .ref h1) (C := RX11) (T := TX11) (N := 36) hx hb hU iX11 hown hK.1 hP 1 rfl rfl 11 (by decide) (hU _ w796) (fun _ h9 => h9) rfl dX11_findForm_191 ?_
  refine lv_iconst (v := 3) hx hb dX11_findForm_194 (by decide) ?_
  refine lv_iload_n hx hb dX11_findForm_195 rfl (lv_at hl 4 rfl) ?_
  refine lv_imul hx hb dX11_findForm_196 (sv_i (v := 0) (by decide +kernel) ?_)
  refine lv_iload hx hb dX11_findForm_197 (lv_at hl 3 rfl) ?_
  refine lv_iadd hx hb dX11_findForm_199 (sv_i (v := 0) (by decide +kernel) ?_)
  refine lv_lload hx hb dX11_findForm_200 (lv_at hl 1 rfl) ?_
  refine st_l (j := 0) (g := tL [1, 0, 0, 0, 0, 0, 0, 0, 0] 0) hx hb hK hP hD hS 0 rfl (by decide +kernel) upd_tL dX11_findForm_202 (fun H locs hP hD hS => ?_)
  have hP : va_P D cl0 [(h1, .inl (k 1, 9, .inr (.inl (tL [1, 0, 0, 0, 0, 0, 0, 0, 0] 0)))), (h0, .inr (8, [.int 2, .int 0, .int 1, .int 0, .int 0, .int 0, .ref h4, .ref h5, .int 0, .int 1, .ref h6, .ref h1, .ref h3, .ref h7, .ref h8, .ref h9, .ref h10, .int 0, .int 0, .int 0, .ref h2, .ref h11, .ref h12, .ref h13, .int 1, .int 1, .ref h14, .ref h15, .ref h16, .ref h17, .int 0, .int 0, .ref h18, .ref h19, .ref h20, .ref h21])), (h2, .inl (k 1, 900, .inr (.inl (tL [1, 0, 0, 0, 1, 0, 0, 0, 0] 0)))), (h3, .inl (k 1, 9, .inr (.inl (tL [1, 0, 0, 0, 1, 0, 0, 0, 0] 0))))] H := hP
  have hD : va_D A [(h1, .inl (k 1, 9, .inr (.inl (tL [1, 0, 0, 0, 0, 0, 0, 0, 0] 0)))), (h0, .inr (8, [.int 2, .int 0, .int 1, .int 0, .int 0, .int 0, .ref h4, .ref h5, .int 0, .int 1, .ref h6, .ref h1, .ref h3, .ref h7, .ref h8, .ref h9, .ref h10, .int 0, .int 0, .int 0, .ref h2, .ref h11, .ref h12, .ref h13, .int 1, .int 1, .ref h14, .ref h15, .ref h16, .ref h17, .int 0, .int 0, .ref h18, .ref h19, .ref h20, .ref h21])), (h2, .inl (k 1, 900, .inr (.inl (tL [1, 0, 0, 0, 1, 0, 0, 0, 0] 0)))), (h3, .inl (k 1, 9, .inr (.inl (tL [1, 0, 0, 0, 1, 0, 0, 0, 0] 0))))] := hD
  refine lv_iinc (v := 1) (lv' := [(4, .int 1), (1, .int 1), (7, .long 1), (5, .long 1), (3, .int 0), (2, .int 0), (0, .ref h0)]) hx hb dX11_findForm_203 hl (k := 3) rfl (by decide) (by decide) rfl (fun ls hl => ?_)
  refine lv_goto (tgt := 42) hx hb dX11_findForm_206 (by decide) ?_
  refine lv_iload hx hb dX11_findForm_42 (lv_at hl 0 rfl) ?_
  refine lv_aload_n hx hb dX11_findForm_44 rfl (lv_at hl 6 rfl) ?_
  refine va_get (D := D) (ci := 8) (v := .int 2) (C := RX11) (T := TX11) (N := 36) hx hb hU iX11 hown hK.1 hP 1 rfl rfl 0 (by decide) (hU _ w785) (fun _ h9 => h9) rfl dX11_findForm_45 ?_
  refine lv_icmp_ge (tgt := 209) hx hb dX11_findForm_48 (by decide) (fun cc => absurd cc (by decide +kernel)) (fun _ => ?_)
  refine lv_lconst (v := 0) hx hb dX11_findForm_51 (by decide) ?_
  refine lv_lstore (lv' := [(5, .long 0), (4, .int 1), (1, .int 1), (7, .long 1), (3, .int 0), (2, .int 0), (0, .ref h0)]) hx hb dX11_findForm_52 hl (by decide) rfl (fun ls hl => ?_)
  refine lv_iconst (v := 0) hx hb dX11_findForm_54 (by decide) ?_
  refine lv_istore (lv' := [(7, .int 0), (5, .long 0), (4, .int 1), (1, .int 1), (3, .int 0), (2, .int 0), (0, .ref h0)]) hx hb dX11_findForm_55 hl (by decide) rfl (fun ls hl => ?_)
  refine lv_iload hx hb dX11_findForm_57 (lv_at hl 0 rfl) ?_
  refine lv_aload_n hx hb dX11_findForm_59 rfl (lv_at hl 6 rfl) ?_
  refine va_get (D := D) (ci := 8) (v := .int 2) (C := RX11) (T := TX11) (N := 36) hx hb hU iX11 hown hK.1 hP 1 rfl rfl 0 (by decide) (hU _ w785) (fun _ h9 => h9) rfl dX11_findForm_60 ?_
  refine lv_icmp_ge (tgt := 101) hx hb dX11_findForm_63 (by decide) (fun cc => absurd cc (by decide +kernel)) (fun _ => ?_)
  refine lv_lload hx hb dX11_findForm_66 (lv_at hl 1 rfl) ?_
  refine lv_aload_n hx hb dX11_findForm_68 rfl (lv_at hl 6 rfl) ?_
  refine va_get (D := D) (ci := 8) (v := .ref h3) (C := RX11) (T := TX11) (N := 36) hx hb hU iX11 hown hK.1 hP 1 rfl rfl 12 (by decide) (hU _ w797) (fun _ h9 => h9) rfl dX11_findForm_69 ?_
  refine lv_iconst (v := 3) hx hb dX11_findForm_72 (by decide) ?_
  refine lv_iload hx hb dX11_findForm_73 (lv_at hl 0 rfl) ?_
  refine lv_imul hx hb dX11_findForm_75 (sv_i (v := 0) (by decide +kernel) ?_)
  refine lv_iload_n hx hb dX11_findForm_76 rfl (lv_at hl 4 rfl) ?_
  refine lv_iadd hx hb dX11_findForm_77 (sv_i (v := 0) (by decide +kernel) ?_)
  refine ld_l (j := 0) (v := 1) hx hb hK hP 3 rfl (by decide +kernel) rfl dX11_findForm_78 ?_
  refine lv_aload_n hx hb dX11_findForm_79 rfl (lv_at hl 6 rfl) ?_
  refine va_get (D := D) (ci := 8) (v := .ref h3) (C := RX11) (T := TX11) (N := 36) hx hb hU iX11 hown hK.1 hP 1 rfl rfl 12 (by decide) (hU _ w797) (fun _ h9 => h9) rfl dX11_findForm_80 ?_
  refine lv_iconst (v := 3) hx hb dX11_findForm_83 (by decide) ?_
  refine lv_iload hx hb dX11_findForm_84 (lv_at hl 0 rfl) ?_
  refine lv_imul hx hb dX11_findForm_86 (sv_i (v := 0) (by decide +kernel) ?_)
  refine lv_iload hx hb dX11_findForm_87 (lv_at hl 2 rfl) ?_
  refine lv_iadd hx hb dX11_findForm_89 (sv_i (v := 1) (by decide +kernel) ?_)
  refine ld_l (j := 1) (v := 0) hx hb hK hP 3 rfl (by decide +kernel) rfl dX11_findForm_90 ?_
  refine lv_lmul hx hb dX11_findForm_91 (sv_l (v := 0) (by decide +kernel) ?_)
  refine lv_ladd hx hb dX11_findForm_92 (sv_l (v := 0) (by decide +kernel) ?_)
  refine lv_lstore (lv' := [(5, .long 0), (7, .int 0), (4, .int 1), (1, .int 1), (3, .int 0), (2, .int 0), (0, .ref h0)]) hx hb dX11_findForm_93 hl (by decide) rfl (fun ls hl => ?_)
  refine lv_iinc (v := 1) (lv' := [(7, .int 1), (5, .long 0), (4, .int 1), (1, .int 1), (3, .int 0), (2, .int 0), (0, .ref h0)]) hx hb dX11_findForm_95 hl (k := 1) rfl (by decide) (by decide) rfl (fun ls hl => ?_)
  refine lv_goto (tgt := 57) hx hb dX11_findForm_98 (by decide) ?_
  refine lv_iload hx hb dX11_findForm_57 (lv_at hl 0 rfl) ?_
  refine lv_aload_n hx hb dX11_findForm_59 rfl (lv_at hl 6 rfl) ?_
  refine va_get (D := D) (ci := 8) (v := .int 2) (C := RX11) (T := TX11) (N := 36) hx hb hU iX11 hown hK.1 hP 1 rfl rfl 0 (by decide) (hU _ w785) (fun _ h9 => h9) rfl dX11_findForm_60 ?_
  refine lv_icmp_ge (tgt := 101) hx hb dX11_findForm_63 (by decide) (fun cc => absurd cc (by decide +kernel)) (fun _ => ?_)
  refine lv_lload hx hb dX11_findForm_66 (lv_at hl 1 rfl) ?_
  refine lv_aload_n hx hb dX11_findForm_68 rfl (lv_at hl 6 rfl) ?_
  refine va_get (D := D) (ci := 8) (v := .ref h3) (C := RX11) (T := TX11) (N := 36) hx hb hU iX11 hown hK.1 hP 1 rfl rfl 12 (by decide) (hU _ w797) (fun _ h9 => h9) rfl dX11_findForm_69 ?_
  refine lv_iconst (v := 3) hx hb dX11_findForm_72 (by decide) ?_
  refine lv_iload hx hb dX11_findForm_73 (lv_at hl 0 rfl) ?_
  refine lv_imul hx hb dX11_findForm_75 (sv_i (v := 3) (by decide +kernel) ?_)
  refine lv_iload_n hx hb dX11_findForm_76 rfl (lv_at hl 4 rfl) ?_
  refine lv_iadd hx hb dX11_findForm_77 (sv_i (v := 3) (by decide +kernel) ?_)
  refine ld_l (j := 3) (v := 0) hx hb hK hP 3 rfl (by decide +kernel) rfl dX11_findForm_78 ?_
  refine lv_aload_n hx hb dX11_findForm_79 rfl (lv_at hl 6 rfl) ?_
  refine va_get (D := D) (ci := 8) (v := .ref h3) (C := RX11) (T := TX11) (N := 36) hx hb hU iX11 hown hK.1 hP 1 rfl rfl 12 (by decide) (hU _ w797) (fun _ h9 => h9) rfl dX11_findForm_80 ?_
  refine lv_iconst (v := 3) hx hb dX11_findForm_83 (by decide) ?_
  refine lv_iload hx hb dX11_findForm_84 (lv_at hl 0 rfl) ?_
  refine lv_imul hx hb dX11_findForm_86 (sv_i (v := 3) (by decide +kernel) ?_)
  refine lv_iload hx hb dX11_findForm_87 (lv_at hl 2 rfl) ?_
  refine lv_iadd hx hb dX11_findForm_89 (sv_i (v := 4) (by decide +kernel) ?_)
  refine ld_l (j := 4) (v := 1) hx hb hK hP 3 rfl (by decide +kernel) rfl dX11_findForm_90 ?_
  refine lv_lmul hx hb dX11_findForm_91 (sv_l (v := 0) (by decide +kernel) ?_)
  refine lv_ladd hx hb dX11_findForm_92 (sv_l (v := 0) (by decide +kernel) ?_)
  refine lv_lstore (lv' := [(5, .long 0), (7, .int 1), (4, .int 1), (1, .int 1), (3, .int 0), (2, .int 0), (0, .ref h0)]) hx hb dX11_findForm_93 hl (by decide) rfl (fun ls hl => ?_)
  refine lv_iinc (v := 2) (lv' := [(7, .int 2), (5, .long 0), (4, .int 1), (1, .int 1), (3, .int 0), (2, .int 0), (0, .ref h0)]) hx hb dX11_findForm_95 hl (k := 1) rfl (by decide) (by decide) rfl (fun ls hl => ?_)
  refine lv_goto (tgt := 57) hx hb dX11_findForm_98 (by decide) ?_
  refine lv_iload hx hb dX11_findForm_57 (lv_at hl 0 rfl) ?_
  refine lv_aload_n hx hb dX11_findForm_59 rfl (lv_at hl 6 rfl) ?_
  refine va_get (D := D) (ci := 8) (v := .int 2) (C := RX11) (T := TX11) (N := 36) hx hb hU iX11 hown hK.1 hP 1 rfl rfl 0 (by decide) (hU _ w785) (fun _ h9 => h9) rfl dX11_findForm_60 ?_
  refine lv_icmp_ge (tgt := 101) hx hb dX11_findForm_63 (by decide) (fun _ => ?_) (fun cc => absurd (by decide +kernel) cc)
  refine lv_aload_n hx hb dX11_findForm_101 rfl (lv_at hl 6 rfl) ?_
  refine va_get (D := D) (ci := 8) (v := .ref h1) (C := RX11) (T := TX11) (N := 36) hx hb hU iX11 hown hK.1 hP 1 rfl rfl 11 (by decide) (hU _ w796) (fun _ h9 => h9) rfl dX11_findForm_102 ?_
  refine lv_iconst (v := 3) hx hb dX11_findForm_105 (by decide) ?_
  refine lv_iload_n hx hb dX11_findForm_106 rfl (lv_at hl 4 rfl) ?_
  refine lv_imul hx hb dX11_findForm_107 (sv_i (v := 0) (by decide +kernel) ?_)
  refine lv_iload hx hb dX11_findForm_108 (lv_at hl 2 rfl) ?_
  refine lv_iadd hx hb dX11_findForm_110 (sv_i (v := 1) (by decide +kernel) ?_)
  refine ld_l (j := 1) (v := 0) hx hb hK hP 0 rfl (by decide +kernel) rfl dX11_findForm_111 ?_
  refine lv_lload hx hb dX11_findForm_112 (lv_at hl 1 rfl) ?_
  refine lv_ladd hx hb dX11_findForm_114 (sv_l (v := 0) (by decide +kernel) ?_)
  refine lv_lstore (lv' := [(7, .long 0), (5, .long 0), (4, .int 1), (1, .int 1), (3, .int 0), (2, .int 0), (0, .ref h0)]) hx hb dX11_findForm_115 hl (by decide) rfl (fun ls hl => ?_)
  refine lv_iload_n hx hb dX11_findForm_117 rfl (lv_at hl 3 rfl) ?_
  refine lv_if_eq (tgt := 188) hx hb dX11_findForm_118 (by decide) (fun cc => absurd cc (by decide +kernel)) (fun _ => ?_)
  refine lv_aload_n hx hb dX11_findForm_121 rfl (lv_at hl 6 rfl) ?_
  refine va_get (D := D) (ci := 8) (v := .ref h1) (C := RX11) (T := TX11) (N := 36) hx hb hU iX11 hown hK.1 hP 1 rfl rfl 11 (by decide) (hU _ w796) (fun _ h9 => h9) rfl dX11_findForm_122 ?_
  refine lv_iconst (v := 3) hx hb dX11_findForm_125 (by decide) ?_
  refine lv_iload_n hx hb dX11_findForm_126 rfl (lv_at hl 4 rfl) ?_
  refine lv_imul hx hb dX11_findForm_127 (sv_i (v := 0) (by decide +kernel) ?_)
  refine lv_iload hx hb dX11_findForm_128 (lv_at hl 2 rfl) ?_
  refine lv_iadd hx hb dX11_findForm_130 (sv_i (v := 1) (by decide +kernel) ?_)
  refine ld_l (j := 1) (v := 0) hx hb hK hP 0 rfl (by decide +kernel) rfl dX11_findForm_131 ?_
  refine lv_lconst (v := 0) hx hb dX11_findForm_132 (by decide) ?_
  refine W.lcmp hx hb dX11_findForm_133 (sv_i (v := 0) (by decide +kernel) ?_)
  refine lv_if_lt (tgt := 141) hx hb dX11_findForm_134 (by decide) (fun cc => absurd cc (by decide +kernel)) (fun _ => ?_)
  refine lv_iconst (v := 1) hx hb dX11_findForm_137 (by decide) ?_
  refine lv_goto (tgt := 142) hx hb dX11_findForm_138 (by decide) ?_
  refine lv_lload hx hb dX11_findForm_142 (lv_at hl 1 rfl) ?_
  refine lv_lconst (v := 0) hx hb dX11_findForm_144 (by decide) ?_
  refine W.lcmp hx hb dX11_findForm_145 (sv_i (v := 0) (by decide +kernel) ?_)
  refine lv_if_lt (tgt := 153) hx hb dX11_findForm_146 (by decide) (fun cc => absurd cc (by decide +kernel)) (fun _ => ?_)
  refine lv_iconst (v := 1) hx hb dX11_findForm_149 (by decide) ?_
  refine lv_goto (tgt := 154) hx hb dX11_findForm_150 (by decide) ?_
  refine lv_icmp_ne (tgt := 184) hx hb dX11_findForm_154 (by decide) (fun cc => absurd (by decide +kernel) cc) (fun _ => ?_)
  refine lv_lload hx hb dX11_findForm_157 (lv_at hl 0 rfl) ?_
  refine lv_lconst (v := 0) hx hb dX11_findForm_159 (by decide) ?_
  refine W.lcmp hx hb dX11_findForm_160 (sv_i (v := 0) (by decide +kernel) ?_)
  refine lv_if_lt (tgt := 168) hx hb dX11_findForm_161 (by decide) (fun cc => absurd cc (by decide +kernel)) (fun _ => ?_)
  refine lv_iconst (v := 1) hx hb dX11_findForm_164 (by decide) ?_
  refine lv_goto (tgt := 169) hx hb dX11_findForm_165 (by decide) ?_
  refine lv_lload hx hb dX11_findForm_169 (lv_at hl 1 rfl) ?_
  refine lv_lconst (v := 0) hx hb dX11_findForm_171 (by decide) ?_
  refine W.lcmp hx hb dX11_findForm_172 (sv_i (v := 0) (by decide +kernel) ?_)
  refine lv_if_lt (tgt := 180) hx hb dX11_findForm_173 (by decide) (fun cc => absurd cc (by decide +kernel)) (fun _ => ?_)
  refine lv_iconst (v := 1) hx hb dX11_findForm_176 (by decide) ?_
  refine lv_goto (tgt := 181) hx hb dX11_findForm_177 (by decide) ?_
  refine lv_icmp_ne (tgt := 188) hx hb dX11_findForm_181 (by decide) (fun cc => absurd (by decide +kernel) cc) (fun _ => ?_)
  refine lv_iconst (v := 1) hx hb dX11_findForm_184 (by decide) ?_
  refine lv_goto (tgt := 189) hx hb dX11_findForm_185 (by decide) ?_
  refine lv_istore_n (lv' := [(1, .int 1), (7, .long 0), (5, .long 0), (4, .int 1), (3, .int 0), (2, .int 0), (0, .ref h0)]) hx hb dX11_findForm_189 rfl hl (by decide) rfl (fun ls hl => ?_)
  refine lv_aload_n hx hb dX11_findForm_190 rfl (lv_at hl 6 rfl) ?_
  refine va_get (D := D) (ci := 8) (v := .ref h1) (C := RX11) (T := TX11) (N := 36) hx hb hU iX11 hown hK.1 hP 1 rfl rfl 11 (by decide) (hU _ w796) (fun _ h9 => h9) rfl dX11_findForm_191 ?_
  refine lv_iconst (v := 3) hx hb dX11_findForm_194 (by decide) ?_
  refine lv_iload_n hx hb dX11_findForm_195 rfl (lv_at hl 4 rfl) ?_
  refine lv_imul hx hb dX11_findForm_196 (sv_i (v := 0) (by decide +kernel) ?_)
  refine lv_iload hx hb dX11_findForm_197 (lv_at hl 3 rfl) ?_
  refine lv_iadd hx hb dX11_findForm_199 (sv_i (v := 1) (by decide +kernel) ?_)
  refine lv_lload hx hb dX11_findForm_200 (lv_at hl 1 rfl) ?_
  refine st_l (j := 1) (g := tL [1, 0, 0, 0, 0, 0, 0, 0, 0] 0) hx hb hK hP hD hS 0 rfl (by decide +kernel) upd_tL dX11_findForm_202 (fun H locs hP hD hS => ?_)
  have hP : va_P D cl0 [(h1, .inl (k 1, 9, .inr (.inl (tL [1, 0, 0, 0, 0, 0, 0, 0, 0] 0)))), (h0, .inr (8, [.int 2, .int 0, .int 1, .int 0, .int 0, .int 0, .ref h4, .ref h5, .int 0, .int 1, .ref h6, .ref h1, .ref h3, .ref h7, .ref h8, .ref h9, .ref h10, .int 0, .int 0, .int 0, .ref h2, .ref h11, .ref h12, .ref h13, .int 1, .int 1, .ref h14, .ref h15, .ref h16, .ref h17, .int 0, .int 0, .ref h18, .ref h19, .ref h20, .ref h21])), (h2, .inl (k 1, 900, .inr (.inl (tL [1, 0, 0, 0, 1, 0, 0, 0, 0] 0)))), (h3, .inl (k 1, 9, .inr (.inl (tL [1, 0, 0, 0, 1, 0, 0, 0, 0] 0))))] H := hP
  have hD : va_D A [(h1, .inl (k 1, 9, .inr (.inl (tL [1, 0, 0, 0, 0, 0, 0, 0, 0] 0)))), (h0, .inr (8, [.int 2, .int 0, .int 1, .int 0, .int 0, .int 0, .ref h4, .ref h5, .int 0, .int 1, .ref h6, .ref h1, .ref h3, .ref h7, .ref h8, .ref h9, .ref h10, .int 0, .int 0, .int 0, .ref h2, .ref h11, .ref h12, .ref h13, .int 1, .int 1, .ref h14, .ref h15, .ref h16, .ref h17, .int 0, .int 0, .ref h18, .ref h19, .ref h20, .ref h21])), (h2, .inl (k 1, 900, .inr (.inl (tL [1, 0, 0, 0, 1, 0, 0, 0, 0] 0)))), (h3, .inl (k 1, 9, .inr (.inl (tL [1, 0, 0, 0, 1, 0, 0, 0, 0] 0))))] := hD
  refine lv_iinc (v := 2) (lv' := [(4, .int 2), (1, .int 1), (7, .long 0), (5, .long 0), (3, .int 0), (2, .int 0), (0, .ref h0)]) hx hb dX11_findForm_203 hl (k := 3) rfl (by decide) (by decide) rfl (fun ls hl => ?_)
  refine lv_goto (tgt := 42) hx hb dX11_findForm_206 (by decide) ?_
  refine lv_iload hx hb dX11_findForm_42 (lv_at hl 0 rfl) ?_
  refine lv_aload_n hx hb dX11_findForm_44 rfl (lv_at hl 6 rfl) ?_
  refine va_get (D := D) (ci := 8) (v := .int 2) (C := RX11) (T := TX11) (N := 36) hx hb hU iX11 hown hK.1 hP 1 rfl rfl 0 (by decide) (hU _ w785) (fun _ h9 => h9) rfl dX11_findForm_45 ?_
  refine lv_icmp_ge (tgt := 209) hx hb dX11_findForm_48 (by decide) (fun _ => ?_) (fun cc => absurd (by decide +kernel) cc)
  refine lv_iinc (v := 1) (lv' := [(3, .int 1), (4, .int 2), (1, .int 1), (7, .long 0), (5, .long 0), (2, .int 0), (0, .ref h0)]) hx hb dX11_findForm_209 hl (k := 4) rfl (by decide) (by decide) rfl (fun ls hl => ?_)
  refine lv_goto (tgt := 31) hx hb dX11_findForm_212 (by decide) ?_
  refine lv_iload_n hx hb dX11_findForm_31 rfl (lv_at hl 0 rfl) ?_
  refine lv_aload_n hx hb dX11_findForm_32 rfl (lv_at hl 6 rfl) ?_
  refine va_get (D := D) (ci := 8) (v := .int 2) (C := RX11) (T := TX11) (N := 36) hx hb hU iX11 hown hK.1 hP 1 rfl rfl 0 (by decide) (hU _ w785) (fun _ h9 => h9) rfl dX11_findForm_33 ?_
  refine lv_icmp_ge (tgt := 215) hx hb dX11_findForm_36 (by decide) (fun cc => absurd cc (by decide +kernel)) (fun _ => ?_)
  refine lv_iconst (v := 0) hx hb dX11_findForm_39 (by decide) ?_
  refine lv_istore (lv' := [(4, .int 0), (3, .int 1), (1, .int 1), (7, .long 0), (5, .long 0), (2, .int 0), (0, .ref h0)]) hx hb dX11_findForm_40 hl (by decide) rfl (fun ls hl => ?_)
  refine lv_iload hx hb dX11_findForm_42 (lv_at hl 0 rfl) ?_
  refine lv_aload_n hx hb dX11_findForm_44 rfl (lv_at hl 6 rfl) ?_
  refine va_get (D := D) (ci := 8) (v := .int 2) (C := RX11) (T := TX11) (N := 36) hx hb hU iX11 hown hK.1 hP 1 rfl rfl 0 (by decide) (hU _ w785) (fun _ h9 => h9) rfl dX11_findForm_45 ?_
  refine lv_icmp_ge (tgt := 209) hx hb dX11_findForm_48 (by decide) (fun cc => absurd cc (by decide +kernel)) (fun _ => ?_)
  refine lv_lconst (v := 0) hx hb dX11_findForm_51 (by decide) ?_
  refine lv_lstore (lv' := [(5, .long 0), (4, .int 0), (3, .int 1), (1, .int 1), (7, .long 0), (2, .int 0), (0, .ref h0)]) hx hb dX11_findForm_52 hl (by decide) rfl (fun ls hl => ?_)
  refine lv_iconst (v := 0) hx hb dX11_findForm_54 (by decide) ?_
  refine lv_istore (lv' := [(7, .int 0), (5, .long 0), (4, .int 0), (3, .int 1), (1, .int 1), (2, .int 0), (0, .ref h0)]) hx hb dX11_findForm_55 hl (by decide) rfl (fun ls hl => ?_)
  refine lv_iload hx hb dX11_findForm_57 (lv_at hl 0 rfl) ?_
  refine lv_aload_n hx hb dX11_findForm_59 rfl (lv_at hl 6 rfl) ?_
  refine va_get (D := D) (ci := 8) (v := .int 2) (C := RX11) (T := TX11) (N := 36) hx hb hU iX11 hown hK.1 hP 1 rfl rfl 0 (by decide) (hU _ w785) (fun _ h9 => h9) rfl dX11_findForm_60 ?_
  refine lv_icmp_ge (tgt := 101) hx hb dX11_findForm_63 (by decide) (fun cc => absurd cc (by decide +kernel)) (fun _ => ?_)
  refine lv_lload hx hb dX11_findForm_66 (lv_at hl 1 rfl) ?_
  refine lv_aload_n hx hb dX11_findForm_68 rfl (lv_at hl 6 rfl) ?_
  refine va_get (D := D) (ci := 8) (v := .ref h3) (C := RX11) (T := TX11) (N := 36) hx hb hU iX11 hown hK.1 hP 1 rfl rfl 12 (by decide) (hU _ w797) (fun _ h9 => h9) rfl dX11_findForm_69 ?_
  refine lv_iconst (v := 3) hx hb dX11_findForm_72 (by decide) ?_
  refine lv_iload hx hb dX11_findForm_73 (lv_at hl 0 rfl) ?_
  refine lv_imul hx hb dX11_findForm_75 (sv_i (v := 0) (by decide +kernel) ?_)
  refine lv_iload_n hx hb dX11_findForm_76 rfl (lv_at hl 3 rfl) ?_
  refine lv_iadd hx hb dX11_findForm_77 (sv_i (v := 1) (by decide +kernel) ?_)
  refine ld_l (j := 1) (v := 0) hx hb hK hP 3 rfl (by decide +kernel) rfl dX11_findForm_78 ?_
  refine lv_aload_n hx hb dX11_findForm_79 rfl (lv_at hl 6 rfl) ?_
  refine va_get (D := D) (ci := 8) (v := .ref h3) (C := RX11) (T := TX11) (N := 36) hx hb hU iX11 hown hK.1 hP 1 rfl rfl 12 (by decide) (hU _ w797) (fun _ h9 => h9) rfl dX11_findForm_80 ?_
  refine lv_iconst (v := 3) hx hb dX11_findForm_83 (by decide) ?_
  refine lv_iload hx hb dX11_findForm_84 (lv_at hl 0 rfl) ?_
  refine lv_imul hx hb dX11_findForm_86 (sv_i (v := 0) (by decide +kernel) ?_)
  refine lv_iload hx hb dX11_findForm_87 (lv_at hl 2 rfl) ?_
  refine lv_iadd hx hb dX11_findForm_89 (sv_i (v := 0) (by decide +kernel) ?_)
  refine ld_l (j := 0) (v := 1) hx hb hK hP 3 rfl (by decide +kernel) rfl dX11_findForm_90 ?_
  refine lv_lmul hx hb dX11_findForm_91 (sv_l (v := 0) (by decide +kernel) ?_)
  refine lv_ladd hx hb dX11_findForm_92 (sv_l (v := 0) (by decide +kernel) ?_)
  refine lv_lstore (lv' := [(5, .long 0), (7, .int 0), (4, .int 0), (3, .int 1), (1, .int 1), (2, .int 0), (0, .ref h0)]) hx hb dX11_findForm_93 hl (by decide) rfl (fun ls hl => ?_)
  refine lv_iinc (v := 1) (lv' := [(7, .int 1), (5, .long 0), (4, .int 0), (3, .int 1), (1, .int 1), (2, .int 0), (0, .ref h0)]) hx hb dX11_findForm_95 hl (k := 1) rfl (by decide) (by decide) rfl (fun ls hl => ?_)
  refine lv_goto (tgt := 57) hx hb dX11_findForm_98 (by decide) ?_
  refine lv_iload hx hb dX11_findForm_57 (lv_at hl 0 rfl) ?_
  refine lv_aload_n hx hb dX11_findForm_59 rfl (lv_at hl 6 rfl) ?_
  refine va_get (D := D) (ci := 8) (v := .int 2) (C := RX11) (T := TX11) (N := 36) hx hb hU iX11 hown hK.1 hP 1 rfl rfl 0 (by decide) (hU _ w785) (fun _ h9 => h9) rfl dX11_findForm_60 ?_
  refine lv_icmp_ge (tgt := 101) hx hb dX11_findForm_63 (by decide) (fun cc => absurd cc (by decide +kernel)) (fun _ => ?_)
  refine lv_lload hx hb dX11_findForm_66 (lv_at hl 1 rfl) ?_
  refine lv_aload_n hx hb dX11_findForm_68 rfl (lv_at hl 6 rfl) ?_
  refine va_get (D := D) (ci := 8) (v := .ref h3) (C := RX11) (T := TX11) (N := 36) hx hb hU iX11 hown hK.1 hP 1 rfl rfl 12 (by decide) (hU _ w797) (fun _ h9 => h9) rfl dX11_findForm_69 ?_
  refine lv_iconst (v := 3) hx hb dX11_findForm_72 (by decide) ?_
  refine lv_iload hx hb dX11_findForm_73 (lv_at hl 0 rfl) ?_
  refine lv_imul hx hb dX11_findForm_75 (sv_i (v := 3) (by decide +kernel) ?_)
  refine lv_iload_n hx hb dX11_findForm_76 rfl (lv_at hl 3 rfl) ?_
  refine lv_iadd hx hb dX11_findForm_77 (sv_i (v := 4) (by decide +kernel) ?_)
  refine ld_l (j := 4) (v := 1) hx hb hK hP 3 rfl (by decide +kernel) rfl dX11_findForm_78 ?_
  refine lv_aload_n hx hb dX11_findForm_79 rfl (lv_at hl 6 rfl) ?_
  refine va_get (D := D) (ci := 8) (v := .ref h3) (C := RX11) (T := TX11) (N := 36) hx hb hU iX11 hown hK.1 hP 1 rfl rfl 12 (by decide) (hU _ w797) (fun _ h9 => h9) rfl dX11_findForm_80 ?_
  refine lv_iconst (v := 3) hx hb dX11_findForm_83 (by decide) ?_
  refine lv_iload hx hb dX11_findForm_84 (lv_at hl 0 rfl) ?_
  refine lv_imul hx hb dX11_findForm_86 (sv_i (v := 3) (by decide +kernel) ?_)
  refine lv_iload hx hb dX11_findForm_87 (lv_at hl 2 rfl) ?_
  refine lv_iadd hx hb dX11_findForm_89 (sv_i (v := 3) (by decide +kernel) ?_)
  refine ld_l (j := 3) (v := 0) hx hb hK hP 3 rfl (by decide +kernel) rfl dX11_findForm_90 ?_
  refine lv_lmul hx hb dX11_findForm_91 (sv_l (v := 0) (by decide +kernel) ?_)
  refine lv_ladd hx hb dX11_findForm_92 (sv_l (v := 0) (by decide +kernel) ?_)
  refine lv_lstore (lv' := [(5, .long 0), (7, .int 1), (4, .int 0), (3, .int 1), (1, .int 1), (2, .int 0), (0, .ref h0)]) hx hb dX11_findForm_93 hl (by decide) rfl (fun ls hl => ?_)
  refine lv_iinc (v := 2) (lv' := [(7, .int 2), (5, .long 0), (4, .int 0), (3, .int 1), (1, .int 1), (2, .int 0), (0, .ref h0)]) hx hb dX11_findForm_95 hl (k := 1) rfl (by decide) (by decide) rfl (fun ls hl => ?_)
  refine lv_goto (tgt := 57) hx hb dX11_findForm_98 (by decide) ?_
  refine lv_iload hx hb dX11_findForm_57 (lv_at hl 0 rfl) ?_
  refine lv_aload_n hx hb dX11_findForm_59 rfl (lv_at hl 6 rfl) ?_
  refine va_get (D := D) (ci := 8) (v := .int 2) (C := RX11) (T := TX11) (N := 36) hx hb hU iX11 hown hK.1 hP 1 rfl rfl 0 (by decide) (hU _ w785) (fun _ h9 => h9) rfl dX11_findForm_60 ?_
  refine lv_icmp_ge (tgt := 101) hx hb dX11_findForm_63 (by decide) (fun _ => ?_) (fun cc => absurd (by decide +kernel) cc)
  refine lv_aload_n hx hb dX11_findForm_101 rfl (lv_at hl 6 rfl) ?_
  refine va_get (D := D) (ci := 8) (v := .ref h1) (C := RX11) (T := TX11) (N := 36) hx hb hU iX11 hown hK.1 hP 1 rfl rfl 11 (by decide) (hU _ w796) (fun _ h9 => h9) rfl dX11_findForm_102 ?_
  refine lv_iconst (v := 3) hx hb dX11_findForm_105 (by decide) ?_
  refine lv_iload_n hx hb dX11_findForm_106 rfl (lv_at hl 3 rfl) ?_
  refine lv_imul hx hb dX11_findForm_107 (sv_i (v := 3) (by decide +kernel) ?_)
  refine lv_iload hx hb dX11_findForm_108 (lv_at hl 2 rfl) ?_
  refine lv_iadd hx hb dX11_findForm_110 (sv_i (v := 3) (by decide +kernel) ?_)
  refine ld_l (j := 3) (v := 0) hx hb hK hP 0 rfl (by decide +kernel) rfl dX11_findForm_111 ?_
  refine lv_lload hx hb dX11_findForm_112 (lv_at hl 1 rfl) ?_
  refine lv_ladd hx hb dX11_findForm_114 (sv_l (v := 0) (by decide +kernel) ?_)
  refine lv_lstore (lv' := [(7, .long 0), (5, .long 0), (4, .int 0), (3, .int 1), (1, .int 1), (2, .int 0), (0, .ref h0)]) hx hb dX11_findForm_115 hl (by decide) rfl (fun ls hl => ?_)
  refine lv_iload_n hx hb dX11_findForm_117 rfl (lv_at hl 4 rfl) ?_
  refine lv_if_eq (tgt := 188) hx hb dX11_findForm_118 (by decide) (fun cc => absurd cc (by decide +kernel)) (fun _ => ?_)
  refine lv_aload_n hx hb dX11_findForm_121 rfl (lv_at hl 6 rfl) ?_
  refine va_get (D := D) (ci := 8) (v := .ref h1) (C := RX11) (T := TX11) (N := 36) hx hb hU iX11 hown hK.1 hP 1 rfl rfl 11 (by decide) (hU _ w796) (fun _ h9 => h9) rfl dX11_findForm_122 ?_
  refine lv_iconst (v := 3) hx hb dX11_findForm_125 (by decide) ?_
  refine lv_iload_n hx hb dX11_findForm_126 rfl (lv_at hl 3 rfl) ?_
  refine lv_imul hx hb dX11_findForm_127 (sv_i (v := 3) (by decide +kernel) ?_)
  refine lv_iload hx hb dX11_findForm_128 (lv_at hl 2 rfl) ?_
  refine lv_iadd hx hb dX11_findForm_130 (sv_i (v := 3) (by decide +kernel) ?_)
  refine ld_l (j := 3) (v := 0) hx hb hK hP 0 rfl (by decide +kernel) rfl dX11_findForm_131 ?_
  refine lv_lconst (v := 0) hx hb dX11_findForm_132 (by decide) ?_
  refine W.lcmp hx hb dX11_findForm_133 (sv_i (v := 0) (by decide +kernel) ?_)
  refine lv_if_lt (tgt := 141) hx hb dX11_findForm_134 (by decide) (fun cc => absurd cc (by decide +kernel)) (fun _ => ?_)
  refine lv_iconst (v := 1) hx hb dX11_findForm_137 (by decide) ?_
  refine lv_goto (tgt := 142) hx hb dX11_findForm_138 (by decide) ?_
  refine lv_lload hx hb dX11_findForm_142 (lv_at hl 1 rfl) ?_
  refine lv_lconst (v := 0) hx hb dX11_findForm_144 (by decide) ?_
  refine W.lcmp hx hb dX11_findForm_145 (sv_i (v := 0) (by decide +kernel) ?_)
  refine lv_if_lt (tgt := 153) hx hb dX11_findForm_146 (by decide) (fun cc => absurd cc (by decide +kernel)) (fun _ => ?_)
  refine lv_iconst (v := 1) hx hb dX11_findForm_149 (by decide) ?_
  refine lv_goto (tgt := 154) hx hb dX11_findForm_150 (by decide) ?_
  refine lv_icmp_ne (tgt := 184) hx hb dX11_findForm_154 (by decide) (fun cc => absurd (by decide +kernel) cc) (fun _ => ?_)
  refine lv_lload hx hb dX11_findForm_157 (lv_at hl 0 rfl) ?_
  refine lv_lconst (v := 0) hx hb dX11_findForm_159 (by decide) ?_
  refine W.lcmp hx hb dX11_findForm_160 (sv_i (v := 0) (by decide +kernel) ?_)
  refine lv_if_lt (tgt := 168) hx hb dX11_findForm_161 (by decide) (fun cc => absurd cc (by decide +kernel)) (fun _ => ?_)
  refine lv_iconst (v := 1) hx hb dX11_findForm_164 (by decide) ?_
  refine lv_goto (tgt := 169) hx hb dX11_findForm_165 (by decide) ?_
  refine lv_lload hx hb dX11_findForm_169 (lv_at hl 1 rfl) ?_
  refine lv_lconst (v := 0) hx hb dX11_findForm_171 (by decide) ?_
  refine W.lcmp hx hb dX11_findForm_172 (sv_i (v := 0) (by decide +kernel) ?_)
  refine lv_if_lt (tgt := 180) hx hb dX11_findForm_173 (by decide) (fun cc => absurd cc (by decide +kernel)) (fun _ => ?_)
  refine lv_iconst (v := 1) hx hb dX11_findForm_176 (by decide) ?_
  refine lv_goto (tgt := 181) hx hb dX11_findForm_177 (by decide) ?_
  refine lv_icmp_ne (tgt := 188) hx hb dX11_findForm_181 (by decide) (fun cc => absurd (by decide +kernel) cc) (fun _ => ?_)
  refine lv_iconst (v := 1) hx hb dX11_findForm_184 (by decide) ?_
  refine lv_goto (tgt := 189) hx hb dX11_findForm_185 (by decide) ?_
  refine lv_istore_n (lv' := [(1, .int 1), (7, .long 0), (5, .long 0), (4, .int 0), (3, .int 1), (2, .int 0), (0, .ref h0)]) hx hb dX11_findForm_189 rfl hl (by decide) rfl (fun ls hl => ?_)
  refine lv_aload_n hx hb dX11_findForm_190 rfl (lv_at hl 6 rfl) ?_
  refine va_get (D := D) (ci := 8) (v := .ref h1) (C := RX11) (T := TX11) (N := 36) hx hb hU iX11 hown hK.1 hP 1 rfl rfl 11 (by decide) (hU _ w796) (fun _ h9 => h9) rfl dX11_findForm_191 ?_
  refine lv_iconst (v := 3) hx hb dX11_findForm_194 (by decide) ?_
  refine lv_iload_n hx hb dX11_findForm_195 rfl (lv_at hl 4 rfl) ?_
  refine lv_imul hx hb dX11_findForm_196 (sv_i (v := 3) (by decide +kernel) ?_)
  refine lv_iload hx hb dX11_findForm_197 (lv_at hl 3 rfl) ?_
  refine lv_iadd hx hb dX11_findForm_199 (sv_i (v := 3) (by decide +kernel) ?_)
  refine lv_lload hx hb dX11_findForm_200 (lv_at hl 1 rfl) ?_
  refine st_l (j := 3) (g := tL [1, 0, 0, 0, 0, 0, 0, 0, 0] 0) hx hb hK hP hD hS 0 rfl (by decide +kernel) upd_tL dX11_findForm_202 (fun H locs hP hD hS => ?_)
  have hP : va_P D cl0 [(h1, .inl (k 1, 9, .inr (.inl (tL [1, 0, 0, 0, 0, 0, 0, 0, 0] 0)))), (h0, .inr (8, [.int 2, .int 0, .int 1, .int 0, .int 0, .int 0, .ref h4, .ref h5, .int 0, .int 1, .ref h6, .ref h1, .ref h3, .ref h7, .ref h8, .ref h9, .ref h10, .int 0, .int 0, .int 0, .ref h2, .ref h11, .ref h12, .ref h13, .int 1, .int 1, .ref h14, .ref h15, .ref h16, .ref h17, .int 0, .int 0, .ref h18, .ref h19, .ref h20, .ref h21])), (h2, .inl (k 1, 900, .inr (.inl (tL [1, 0, 0, 0, 1, 0, 0, 0, 0] 0)))), (h3, .inl (k 1, 9, .inr (.inl (tL [1, 0, 0, 0, 1, 0, 0, 0, 0] 0))))] H := hP
  have hD : va_D A [(h1, .inl (k 1, 9, .inr (.inl (tL [1, 0, 0, 0, 0, 0, 0, 0, 0] 0)))), (h0, .inr (8, [.int 2, .int 0, .int 1, .int 0, .int 0, .int 0, .ref h4, .ref h5, .int 0, .int 1, .ref h6, .ref h1, .ref h3, .ref h7, .ref h8, .ref h9, .ref h10, .int 0, .int 0, .int 0, .ref h2, .ref h11, .ref h12, .ref h13, .int 1, .int 1, .ref h14, .ref h15, .ref h16, .ref h17, .int 0, .int 0, .ref h18, .ref h19, .ref h20, .ref h21])), (h2, .inl (k 1, 900, .inr (.inl (tL [1, 0, 0, 0, 1, 0, 0, 0, 0] 0)))), (h3, .inl (k 1, 9, .inr (.inl (tL [1, 0, 0, 0, 1, 0, 0, 0, 0] 0))))] := hD
  refine lv_iinc (v := 1) (lv' := [(4, .int 1), (1, .int 1), (7, .long 0), (5, .long 0), (3, .int 1), (2, .int 0), (0, .ref h0)]) hx hb dX11_findForm_203 hl (k := 3) rfl (by decide) (by decide) rfl (fun ls hl => ?_)
  refine lv_goto (tgt := 42) hx hb dX11_findForm_206 (by decide) ?_
  refine lv_iload hx hb dX11_findForm_42 (lv_at hl 0 rfl) ?_
  refine lv_aload_n hx hb dX11_findForm_44 rfl (lv_at hl 6 rfl) ?_
  refine va_get (D := D) (ci := 8) (v := .int 2) (C := RX11) (T := TX11) (N := 36) hx hb hU iX11 hown hK.1 hP 1 rfl rfl 0 (by decide) (hU _ w785) (fun _ h9 => h9) rfl dX11_findForm_45 ?_
  refine lv_icmp_ge (tgt := 209) hx hb dX11_findForm_48 (by decide) (fun cc => absurd cc (by decide +kernel)) (fun _ => ?_)
  refine lv_lconst (v := 0) hx hb dX11_findForm_51 (by decide) ?_
  refine lv_lstore (lv' := [(5, .long 0), (4, .int 1), (1, .int 1), (7, .long 0), (3, .int 1), (2, .int 0), (0, .ref h0)]) hx hb dX11_findForm_52 hl (by decide) rfl (fun ls hl => ?_)
  refine lv_iconst (v := 0) hx hb dX11_findForm_54 (by decide) ?_
  refine lv_istore (lv' := [(7, .int 0), (5, .long 0), (4, .int 1), (1, .int 1), (3, .int 1), (2, .int 0), (0, .ref h0)]) hx hb dX11_findForm_55 hl (by decide) rfl (fun ls hl => ?_)
  refine lv_iload hx hb dX11_findForm_57 (lv_at hl 0 rfl) ?_
  refine lv_aload_n hx hb dX11_findForm_59 rfl (lv_at hl 6 rfl) ?_
  refine va_get (D := D) (ci := 8) (v := .int 2) (C := RX11) (T := TX11) (N := 36) hx hb hU iX11 hown hK.1 hP 1 rfl rfl 0 (by decide) (hU _ w785) (fun _ h9 => h9) rfl dX11_findForm_60 ?_
  refine lv_icmp_ge (tgt := 101) hx hb dX11_findForm_63 (by decide) (fun cc => absurd cc (by decide +kernel)) (fun _ => ?_)
  refine lv_lload hx hb dX11_findForm_66 (lv_at hl 1 rfl) ?_
  refine lv_aload_n hx hb dX11_findForm_68 rfl (lv_at hl 6 rfl) ?_
  refine va_get (D := D) (ci := 8) (v := .ref h3) (C := RX11) (T := TX11) (N := 36) hx hb hU iX11 hown hK.1 hP 1 rfl rfl 12 (by decide) (hU _ w797) (fun _ h9 => h9) rfl dX11_findForm_69 ?_
  refine lv_iconst (v := 3) hx hb dX11_findForm_72 (by decide) ?_
  refine lv_iload hx hb dX11_findForm_73 (lv_at hl 0 rfl) ?_
  refine lv_imul hx hb dX11_findForm_75 (sv_i (v := 0) (by decide +kernel) ?_)
  refine lv_iload_n hx hb dX11_findForm_76 rfl (lv_at hl 4 rfl) ?_
  refine lv_iadd hx hb dX11_findForm_77 (sv_i (v := 1) (by decide +kernel) ?_)
  refine ld_l (j := 1) (v := 0) hx hb hK hP 3 rfl (by decide +kernel) rfl dX11_findForm_78 ?_
  refine lv_aload_n hx hb dX11_findForm_79 rfl (lv_at hl 6 rfl) ?_
  refine va_get (D := D) (ci := 8) (v := .ref h3) (C := RX11) (T := TX11) (N := 36) hx hb hU iX11 hown hK.1 hP 1 rfl rfl 12 (by decide) (hU _ w797) (fun _ h9 => h9) rfl dX11_findForm_80 ?_
  refine lv_iconst (v := 3) hx hb dX11_findForm_83 (by decide) ?_
  refine lv_iload hx hb dX11_findForm_84 (lv_at hl 0 rfl) ?_
  refine lv_imul hx hb dX11_findForm_86 (sv_i (v := 0) (by decide +kernel) ?_)
  refine lv_iload hx hb dX11_findForm_87 (lv_at hl 2 rfl) ?_
  refine lv_iadd hx hb dX11_findForm_89 (sv_i (v := 1) (by decide +kernel) ?_)
  refine ld_l (j := 1) (v := 0) hx hb hK hP 3 rfl (by decide +kernel) rfl dX11_findForm_90 ?_
  refine lv_lmul hx hb dX11_findForm_91 (sv_l (v := 0) (by decide +kernel) ?_)
  refine lv_ladd hx hb dX11_findForm_92 (sv_l (v := 0) (by decide +kernel) ?_)
  refine lv_lstore (lv' := [(5, .long 0), (7, .int 0), (4, .int 1), (1, .int 1), (3, .int 1), (2, .int 0), (0, .ref h0)]) hx hb dX11_findForm_93 hl (by decide) rfl (fun ls hl => ?_)
  refine lv_iinc (v := 1) (lv' := [(7, .int 1), (5, .long 0), (4, .int 1), (1, .int 1), (3, .int 1), (2, .int 0), (0, .ref h0)]) hx hb dX11_findForm_95 hl (k := 1) rfl (by decide) (by decide) rfl (fun ls hl => ?_)
  refine lv_goto (tgt := 57) hx hb dX11_findForm_98 (by decide) ?_
  refine lv_iload hx hb dX11_findForm_57 (lv_at hl 0 rfl) ?_
  refine lv_aload_n hx hb dX11_findForm_59 rfl (lv_at hl 6 rfl) ?_
  refine va_get (D := D) (ci := 8) (v := .int 2) (C := RX11) (T := TX11) (N := 36) hx hb hU iX11 hown hK.1 hP 1 rfl rfl 0 (by decide) (hU _ w785) (fun _ h9 => h9) rfl dX11_findForm_60 ?_
  refine lv_icmp_ge (tgt := 101) hx hb dX11_findForm_63 (by decide) (fun cc => absurd cc (by decide +kernel)) (fun _ => ?_)
  refine lv_lload hx hb dX11_findForm_66 (lv_at hl 1 rfl) ?_
  refine lv_aload_n hx hb dX11_findForm_68 rfl (lv_at hl 6 rfl) ?_
  refine va_get (D := D) (ci := 8) (v := .ref h3) (C := RX11) (T := TX11) (N := 36) hx hb hU iX11 hown hK.1 hP 1 rfl rfl 12 (by decide) (hU _ w797) (fun _ h9 => h9) rfl dX11_findForm_69 ?_
  refine lv_iconst (v := 3) hx hb dX11_findForm_72 (by decide) ?_
  refine lv_iload hx hb dX11_findForm_73 (lv_at hl 0 rfl) ?_
  refine lv_imul hx hb dX11_findForm_75 (sv_i (v := 3) (by decide +kernel) ?_)
  refine lv_iload_n hx hb dX11_findForm_76 rfl (lv_at hl 4 rfl) ?_
  refine lv_iadd hx hb dX11_findForm_77 (sv_i (v := 4) (by decide +kernel) ?_)
  refine ld_l (j := 4) (v := 1) hx hb hK hP 3 rfl (by decide +kernel) rfl dX11_findForm_78 ?_
  refine lv_aload_n hx hb dX11_findForm_79 rfl (lv_at hl 6 rfl) ?_
  refine va_get (D := D) (ci := 8) (v := .ref h3) (C := RX11) (T := TX11) (N := 36) hx hb hU iX11 hown hK.1 hP 1 rfl rfl 12 (by decide) (hU _ w797) (fun _ h9 => h9) rfl dX11_findForm_80 ?_
  refine lv_iconst (v := 3) hx hb dX11_findForm_83 (by decide) ?_
  refine lv_iload hx hb dX11_findForm_84 (lv_at hl 0 rfl) ?_
  refine lv_imul hx hb dX11_findForm_86 (sv_i (v := 3) (by decide +kernel) ?_)
  refine lv_iload hx hb dX11_findForm_87 (lv_at hl 2 rfl) ?_
  refine lv_iadd hx hb dX11_findForm_89 (sv_i (v := 4) (by decide +kernel) ?_)
  refine ld_l (j := 4) (v := 1) hx hb hK hP 3 rfl (by decide +kernel) rfl dX11_findForm_90 ?_
  refine lv_lmul hx hb dX11_findForm_91 (sv_l (v := 1) (by decide +kernel) ?_)
  refine lv_ladd hx hb dX11_findForm_92 (sv_l (v := 1) (by decide +kernel) ?_)
  refine lv_lstore (lv' := [(5, .long 1), (7, .int 1), (4, .int 1), (1, .int 1), (3, .int 1), (2, .int 0), (0, .ref h0)]) hx hb dX11_findForm_93 hl (by decide) rfl (fun ls hl => ?_)
  refine lv_iinc (v := 2) (lv' := [(7, .int 2), (5, .long 1), (4, .int 1), (1, .int 1), (3, .int 1), (2, .int 0), (0, .ref h0)]) hx hb dX11_findForm_95 hl (k := 1) rfl (by decide) (by decide) rfl (fun ls hl => ?_)
  refine lv_goto (tgt := 57) hx hb dX11_findForm_98 (by decide) ?_
  refine lv_iload hx hb dX11_findForm_57 (lv_at hl 0 rfl) ?_
  refine lv_aload_n hx hb dX11_findForm_59 rfl (lv_at hl 6 rfl) ?_
  refine va_get (D := D) (ci := 8) (v := .int 2) (C := RX11) (T := TX11) (N := 36) hx hb hU iX11 hown hK.1 hP 1 rfl rfl 0 (by decide) (hU _ w785) (fun _ h9 => h9) rfl dX11_findForm_60 ?_
  refine lv_icmp_ge (tgt := 101) hx hb dX11_findForm_63 (by decide) (fun _ => ?_) (fun cc => absurd (by decide +kernel) cc)
  refine lv_aload_n hx hb dX11_findForm_101 rfl (lv_at hl 6 rfl) ?_
  refine va_get (D := D) (ci := 8) (v := .ref h1) (C := RX11) (T := TX11) (N := 36) hx hb hU iX11 hown hK.1 hP 1 rfl rfl 11 (by decide) (hU _ w796) (fun _ h9 => h9) rfl dX11_findForm_102 ?_
  refine lv_iconst (v := 3) hx hb dX11_findForm_105 (by decide) ?_
  refine lv_iload_n hx hb dX11_findForm_106 rfl (lv_at hl 4 rfl) ?_
  refine lv_imul hx hb dX11_findForm_107 (sv_i (v := 3) (by decide +kernel) ?_)
  refine lv_iload hx hb dX11_findForm_108 (lv_at hl 2 rfl) ?_
  refine lv_iadd hx hb dX11_findForm_110 (sv_i (v := 4) (by decide +kernel) ?_)
  refine ld_l (j := 4) (v := 0) hx hb hK hP 0 rfl (by decide +kernel) rfl dX11_findForm_111 ?_
  refine lv_lload hx hb dX11_findForm_112 (lv_at hl 1 rfl) ?_
  refine lv_ladd hx hb dX11_findForm_114 (sv_l (v := 1) (by decide +kernel) ?_)
  refine lv_lstore (lv' := [(7, .long 1), (5, .long 1), (4, .int 1), (1, .int 1), (3, .int 1), (2, .int 0), (0, .ref h0)]) hx hb dX11_findForm_115 hl (by decide) rfl (fun ls hl => ?_)
  refine lv_iload_n hx hb dX11_findForm_117 rfl (lv_at hl 3 rfl) ?_
  refine lv_if_eq (tgt := 188) hx hb dX11_findForm_118 (by decide) (fun cc => absurd cc (by decide +kernel)) (fun _ => ?_)
  refine lv_aload_n hx hb dX11_findForm_121 rfl (lv_at hl 6 rfl) ?_
  refine va_get (D := D) (ci := 8) (v := .ref h1) (C := RX11) (T := TX11) (N := 36) hx hb hU iX11 hown hK.1 hP 1 rfl rfl 11 (by decide) (hU _ w796) (fun _ h9 => h9) rfl dX11_findForm_122 ?_
  refine lv_iconst (v := 3) hx hb dX11_findForm_125 (by decide) ?_
  refine lv_iload_n hx hb dX11_findForm_126 rfl (lv_at hl 4 rfl) ?_
  refine lv_imul hx hb dX11_findForm_127 (sv_i (v := 3) (by decide +kernel) ?_)
  refine lv_iload hx hb dX11_findForm_128 (lv_at hl 2 rfl) ?_
  refine lv_iadd hx hb dX11_findForm_130 (sv_i (v := 4) (by decide +kernel) ?_)
  refine ld_l (j := 4) (v := 0) hx hb hK hP 0 rfl (by decide +kernel) rfl dX11_findForm_131 ?_
  refine lv_lconst (v := 0) hx hb dX11_findForm_132 (by decide) ?_
  refine W.lcmp hx hb dX11_findForm_133 (sv_i (v := 0) (by decide +kernel) ?_)
  refine lv_if_lt (tgt := 141) hx hb dX11_findForm_134 (by decide) (fun cc => absurd cc (by decide +kernel)) (fun _ => ?_)
  refine lv_iconst (v := 1) hx hb dX11_findForm_137 (by decide) ?_
  refine lv_goto (tgt := 142) hx hb dX11_findForm_138 (by decide) ?_
  refine lv_lload hx hb dX11_findForm_142 (lv_at hl 1 rfl) ?_
  refine lv_lconst (v := 0) hx hb dX11_findForm_144 (by decide) ?_
  refine W.lcmp hx hb dX11_findForm_145 (sv_i (v := 1) (by decide +kernel) ?_)
  refine lv_if_lt (tgt := 153) hx hb dX11_findForm_146 (by decide) (fun cc => absurd cc (by decide +kernel)) (fun _ => ?_)
  refine lv_iconst (v := 1) hx hb dX11_findForm_149 (by decide) ?_
  refine lv_goto (tgt := 154) hx hb dX11_findForm_150 (by decide) ?_
  refine lv_icmp_ne (tgt := 184) hx hb dX11_findForm_154 (by decide) (fun cc => absurd (by decide +kernel) cc) (fun _ => ?_)
  refine lv_lload hx hb dX11_findForm_157 (lv_at hl 0 rfl) ?_
  refine lv_lconst (v := 0) hx hb dX11_findForm_159 (by decide) ?_
  refine W.lcmp hx hb dX11_findForm_160 (sv_i (v := 1) (by decide +kernel) ?_)
  refine lv_if_lt (tgt := 168) hx hb dX11_findForm_161 (by decide) (fun cc => absurd cc (by decide +kernel)) (fun _ => ?_)
  refine lv_iconst (v := 1) hx hb dX11_findForm_164 (by decide) ?_
  refine lv_goto (tgt := 169) hx hb dX11_findForm_165 (by decide) ?_
  refine lv_lload hx hb dX11_findForm_169 (lv_at hl 1 rfl) ?_
  refine lv_lconst (v := 0) hx hb dX11_findForm_171 (by decide) ?_
  refine W.lcmp hx hb dX11_findForm_172 (sv_i (v := 1) (by decide +kernel) ?_)
  refine lv_if_lt (tgt := 180) hx hb dX11_findForm_173 (by decide) (fun cc => absurd cc (by decide +kernel)) (fun _ => ?_)
  refine lv_iconst (v := 1) hx hb dX11_findForm_176 (by decide) ?_
  refine lv_goto (tgt := 181) hx hb dX11_findForm_177 (by decide) ?_
  refine lv_icmp_ne (tgt := 188) hx hb dX11_findForm_181 (by decide) (fun cc => absurd (by decide +kernel) cc) (fun _ => ?_)
  refine lv_iconst (v := 1) hx hb dX11_findForm_184 (by decide) ?_
  refine lv_goto (tgt := 189) hx hb dX11_findForm_185 (by decide) ?_
  refine lv_istore_n (lv' := [(1, .int 1), (7, .long 1), (5, .long 1), (4, .int 1), (3, .int 1), (2, .int 0), (0, .ref h0)]) hx hb dX11_findForm_189 rfl hl (by decide) rfl (fun ls hl => ?_)
  refine lv_aload_n hx hb dX11_findForm_190 rfl (lv_at hl 6 rfl) ?_
  refine va_get (D := D) (ci := 8) (v := .ref h1) (C := RX11) (T := TX11) (N := 36) hx hb hU iX11 hown hK.1 hP 1 rfl rfl 11 (by decide) (hU _ w796) (fun _ h9 => h9) rfl dX11_findForm_191 ?_
  refine lv_iconst (v := 3) hx hb dX11_findForm_194 (by decide) ?_
  refine lv_iload_n hx hb dX11_findForm_195 rfl (lv_at hl 4 rfl) ?_
  refine lv_imul hx hb dX11_findForm_196 (sv_i (v := 3) (by decide +kernel) ?_)
  refine lv_iload hx hb dX11_findForm_197 (lv_at hl 3 rfl) ?_
  refine lv_iadd hx hb dX11_findForm_199 (sv_i (v := 4) (by decide +kernel) ?_)
  refine lv_lload hx hb dX11_findForm_200 (lv_at hl 1 rfl) ?_
  refine st_l (j := 4) (g := tL [1, 0, 0, 0, 1, 0, 0, 0, 0] 0) hx hb hK hP hD hS 0 rfl (by decide +kernel) upd_tL dX11_findForm_202 (fun H locs hP hD hS => ?_)
  have hP : va_P D cl0 [(h1, .inl (k 1, 9, .inr (.inl (tL [1, 0, 0, 0, 1, 0, 0, 0, 0] 0)))), (h0, .inr (8, [.int 2, .int 0, .int 1, .int 0, .int 0, .int 0, .ref h4, .ref h5, .int 0, .int 1, .ref h6, .ref h1, .ref h3, .ref h7, .ref h8, .ref h9, .ref h10, .int 0, .int 0, .int 0, .ref h2, .ref h11, .ref h12, .ref h13, .int 1, .int 1, .ref h14, .ref h15, .ref h16, .ref h17, .int 0, .int 0, .ref h18, .ref h19, .ref h20, .ref h21])), (h2, .inl (k 1, 900, .inr (.inl (tL [1, 0, 0, 0, 1, 0, 0, 0, 0] 0)))), (h3, .inl (k 1, 9, .inr (.inl (tL [1, 0, 0, 0, 1, 0, 0, 0, 0] 0))))] H := hP
  have hD : va_D A [(h1, .inl (k 1, 9, .inr (.inl (tL [1, 0, 0, 0, 1, 0, 0, 0, 0] 0)))), (h0, .inr (8, [.int 2, .int 0, .int 1, .int 0, .int 0, .int 0, .ref h4, .ref h5, .int 0, .int 1, .ref h6, .ref h1, .ref h3, .ref h7, .ref h8, .ref h9, .ref h10, .int 0, .int 0, .int 0, .ref h2, .ref h11, .ref h12, .ref h13, .int 1, .int 1, .ref h14, .ref h15, .ref h16, .ref h17, .int 0, .int 0, .ref h18, .ref h19, .ref h20, .ref h21])), (h2, .inl (k 1, 900, .inr (.inl (tL [1, 0, 0, 0, 1, 0, 0, 0, 0] 0)))), (h3, .inl (k 1, 9, .inr (.inl (tL [1, 0, 0, 0, 1, 0, 0, 0, 0] 0))))] := hD
  refine lv_iinc (v := 2) (lv' := [(4, .int 2), (1, .int 1), (7, .long 1), (5, .long 1), (3, .int 1), (2, .int 0), (0, .ref h0)]) hx hb dX11_findForm_203 hl (k := 3) rfl (by decide) (by decide) rfl (fun ls hl => ?_)
  refine lv_goto (tgt := 42) hx hb dX11_findForm_206 (by decide) ?_
  refine lv_iload hx hb dX11_findForm_42 (lv_at hl 0 rfl) ?_
  refine lv_aload_n hx hb dX11_findForm_44 rfl (lv_at hl 6 rfl) ?_
  refine va_get (D := D) (ci := 8) (v := .int 2) (C := RX11) (T := TX11) (N := 36) hx hb hU iX11 hown hK.1 hP 1 rfl rfl 0 (by decide) (hU _ w785) (fun _ h9 => h9) rfl dX11_findForm_45 ?_
  refine lv_icmp_ge (tgt := 209) hx hb dX11_findForm_48 (by decide) (fun _ => ?_) (fun cc => absurd (by decide +kernel) cc)
  refine lv_iinc (v := 2) (lv' := [(3, .int 2), (4, .int 2), (1, .int 1), (7, .long 1), (5, .long 1), (2, .int 0), (0, .ref h0)]) hx hb dX11_findForm_209 hl (k := 4) rfl (by decide) (by decide) rfl (fun ls hl => ?_)
  refine lv_goto (tgt := 31) hx hb dX11_findForm_212 (by decide) ?_
  refine lv_iload_n hx hb dX11_findForm_31 rfl (lv_at hl 0 rfl) ?_
  refine lv_aload_n hx hb dX11_findForm_32 rfl (lv_at hl 6 rfl) ?_
  refine va_get (D := D) (ci := 8) (v := .int 2) (C := RX11) (T := TX11) (N := 36) hx hb hU iX11 hown hK.1 hP 1 rfl rfl 0 (by decide) (hU _ w785) (fun _ h9 => h9) rfl dX11_findForm_33 ?_
  refine lv_icmp_ge (tgt := 215) hx hb dX11_findForm_36 (by decide) (fun _ => ?_) (fun cc => absurd (by decide +kernel) cc)
  refine lv_iinc (v := 1) (lv' := [(2, .int 1), (3, .int 2), (4, .int 2), (1, .int 1), (7, .long 1), (5, .long 1), (0, .ref h0)]) hx hb dX11_findForm_215 hl (k := 5) rfl (by decide) (by decide) rfl (fun ls hl => ?_)
  refine lv_goto (tgt := 12) hx hb dX11_findForm_218 (by decide) ?_
  refine lv_iload_n hx hb dX11_findForm_12 rfl (lv_at hl 0 rfl) ?_
  refine lv_aload_n hx hb dX11_findForm_13 rfl (lv_at hl 6 rfl) ?_
  refine va_get (D := D) (ci := 8) (v := .int 1) (C := RX11) (T := TX11) (N := 36) hx hb hU iX11 hown hK.1 hP 1 rfl rfl 24 (by decide) (hU _ w809) (fun _ h9 => h9) rfl dX11_findForm_14 ?_
  refine lv_icmp_ge (tgt := 221) hx hb dX11_findForm_17 (by decide) (fun _ => ?_) (fun cc => absurd (by decide +kernel) cc)
  refine lv_iload_n hx hb dX11_findForm_221 rfl (lv_at hl 3 rfl) ?_
  exact retZ (v := 1) hx hb hr hlocks hS (⟨rfl, hP, hD⟩) dX11_findForm_222 (by decide +kernel)
abbrev BX11_common_1 (D : va_G) (k : Nat → ClassId) (A : Nat → Prop) (r : Int64) (H : Heap) : Prop := 1 = r ∧ va_P D cl0 [] H ∧ va_D A []
set_option maxHeartbeats 4000000 in
set_option maxRecDepth 100000 in
theorem cX11_common_1 (l : Launch) (D : va_G) (k : Nat → ClassId) (sz : Nat) : Met l yX11_common (Cond.code yX11_common cX11_common 10 (some .long) :: uw) ({ frames := 0, cells := 0, slots := 0, locals := 0 }) (pC D k sz [.long 0, .long 1] []) (qL (BX11_common_1 D k  (va_A [] sz)) (va_A [] sz)) 0 0 (va_A [] sz) := by
  refine begin_ (Qc := fun A => qL (BX11_common_1 D k  A) A) (by decide) (Nat.le_of_ble_eq_true rfl) ?_
  intro p e s m below meth c ls A hx hb hr hml hown hlocks hin hU hK hsz hP hD hS hA hl
  have hl : lv_has ls 10 [(0, .long 0), (2, .long 1)] := hl
  clear hsz
  refine lv_lload_n hx hb dX11_common_0 rfl (lv_at hl 0 rfl) ?_
  refine lv_lconst (v := 0) hx hb dX11_common_1 (by decide) ?_
  refine W.lcmp hx hb dX11_common_2 (sv_i (v := 0) (by decide +kernel) ?_)
  refine lv_if_ge (tgt := 11) hx hb dX11_common_3 (by decide) (fun _ => ?_) (fun cc => absurd (by decide +kernel) cc)
  refine lv_lload_n hx hb dX11_common_11 rfl (lv_at hl 0 rfl) ?_
  refine lv_lstore (lv' := [(4, .long 0), (0, .long 0), (2, .long 1)]) hx hb dX11_common_12 hl (by decide) rfl (fun ls hl => ?_)
  refine lv_lload_n hx hb dX11_common_14 rfl (lv_at hl 2 rfl) ?_
  refine lv_lconst (v := 0) hx hb dX11_common_15 (by decide) ?_
  refine W.lcmp hx hb dX11_common_16 (sv_i (v := 1) (by decide +kernel) ?_)
  refine lv_if_ge (tgt := 25) hx hb dX11_common_17 (by decide) (fun _ => ?_) (fun cc => absurd (by decide +kernel) cc)
  refine lv_lload_n hx hb dX11_common_25 rfl (lv_at hl 2 rfl) ?_
  refine lv_lstore (lv' := [(6, .long 1), (4, .long 0), (0, .long 0), (2, .long 1)]) hx hb dX11_common_26 hl (by decide) rfl (fun ls hl => ?_)
  refine lv_lload hx hb dX11_common_28 (lv_at hl 0 rfl) ?_
  refine lv_lconst (v := 0) hx hb dX11_common_30 (by decide) ?_
  refine W.lcmp hx hb dX11_common_31 (sv_i (v := 1) (by decide +kernel) ?_)
  refine lv_if_eq (tgt := 53) hx hb dX11_common_32 (by decide) (fun cc => absurd cc (by decide +kernel)) (fun _ => ?_)
  refine lv_lload hx hb dX11_common_35 (lv_at hl 1 rfl) ?_
  refine lv_lload hx hb dX11_common_37 (lv_at hl 0 rfl) ?_
  refine lv_lrem hx hb dX11_common_39 (by decide +kernel) (sv_l (v := 0) (by decide +kernel) ?_)
  refine lv_lstore (lv' := [(8, .long 0), (6, .long 1), (4, .long 0), (0, .long 0), (2, .long 1)]) hx hb dX11_common_40 hl (by decide) rfl (fun ls hl => ?_)
  refine lv_lload hx hb dX11_common_42 (lv_at hl 1 rfl) ?_
  refine lv_lstore (lv' := [(4, .long 1), (8, .long 0), (6, .long 1), (0, .long 0), (2, .long 1)]) hx hb dX11_common_44 hl (by decide) rfl (fun ls hl => ?_)
  refine lv_lload hx hb dX11_common_46 (lv_at hl 1 rfl) ?_
  refine lv_lstore (lv' := [(6, .long 0), (4, .long 1), (8, .long 0), (0, .long 0), (2, .long 1)]) hx hb dX11_common_48 hl (by decide) rfl (fun ls hl => ?_)
  refine lv_goto (tgt := 28) hx hb dX11_common_50 (by decide) ?_
  refine lv_lload hx hb dX11_common_28 (lv_at hl 0 rfl) ?_
  refine lv_lconst (v := 0) hx hb dX11_common_30 (by decide) ?_
  refine W.lcmp hx hb dX11_common_31 (sv_i (v := 0) (by decide +kernel) ?_)
  refine lv_if_eq (tgt := 53) hx hb dX11_common_32 (by decide) (fun _ => ?_) (fun cc => absurd (by decide +kernel) cc)
  refine lv_lload hx hb dX11_common_53 (lv_at hl 1 rfl) ?_
  exact retL (v := 1) hx hb hr hlocks hS (⟨rfl, hP, hD⟩) dX11_common_55
abbrev BX11_common_2 (D : va_G) (k : Nat → ClassId) (A : Nat → Prop) (r : Int64) (H : Heap) : Prop := 1 = r ∧ va_P D cl0 [] H ∧ va_D A []
set_option maxHeartbeats 4000000 in
set_option maxRecDepth 100000 in
theorem cX11_common_2 (l : Launch) (D : va_G) (k : Nat → ClassId) (sz : Nat) : Met l yX11_common (Cond.code yX11_common cX11_common 10 (some .long) :: uw) ({ frames := 0, cells := 0, slots := 0, locals := 0 }) (pC D k sz [.long 1, .long 0] []) (qL (BX11_common_2 D k  (va_A [] sz)) (va_A [] sz)) 0 0 (va_A [] sz) := by
  refine begin_ (Qc := fun A => qL (BX11_common_2 D k  A) A) (by decide) (Nat.le_of_ble_eq_true rfl) ?_
  intro p e s m below meth c ls A hx hb hr hml hown hlocks hin hU hK hsz hP hD hS hA hl
  have hl : lv_has ls 10 [(0, .long 1), (2, .long 0)] := hl
  clear hsz
  refine lv_lload_n hx hb dX11_common_0 rfl (lv_at hl 0 rfl) ?_
  refine lv_lconst (v := 0) hx hb dX11_common_1 (by decide) ?_
  refine W.lcmp hx hb dX11_common_2 (sv_i (v := 1) (by decide +kernel) ?_)
  refine lv_if_ge (tgt := 11) hx hb dX11_common_3 (by decide) (fun _ => ?_) (fun cc => absurd (by decide +kernel) cc)
  refine lv_lload_n hx hb dX11_common_11 rfl (lv_at hl 0 rfl) ?_
  refine lv_lstore (lv' := [(4, .long 1), (0, .long 1), (2, .long 0)]) hx hb dX11_common_12 hl (by decide) rfl (fun ls hl => ?_)
  refine lv_lload_n hx hb dX11_common_14 rfl (lv_at hl 2 rfl) ?_
  refine lv_lconst (v := 0) hx hb dX11_common_15 (by decide) ?_
  refine W.lcmp hx hb dX11_common_16 (sv_i (v := 0) (by decide +kernel) ?_)
  refine lv_if_ge (tgt := 25) hx hb dX11_common_17 (by decide) (fun _ => ?_) (fun cc => absurd (by decide +kernel) cc)
  refine lv_lload_n hx hb dX11_common_25 rfl (lv_at hl 2 rfl) ?_
  refine lv_lstore (lv' := [(6, .long 0), (4, .long 1), (0, .long 1), (2, .long 0)]) hx hb dX11_common_26 hl (by decide) rfl (fun ls hl => ?_)
  refine lv_lload hx hb dX11_common_28 (lv_at hl 0 rfl) ?_
  refine lv_lconst (v := 0) hx hb dX11_common_30 (by decide) ?_
  refine W.lcmp hx hb dX11_common_31 (sv_i (v := 0) (by decide +kernel) ?_)
  refine lv_if_eq (tgt := 53) hx hb dX11_common_32 (by decide) (fun _ => ?_) (fun cc => absurd (by decide +kernel) cc)
  refine lv_lload hx hb dX11_common_53 (lv_at hl 1 rfl) ?_
  exact retL (v := 1) hx hb hr hlocks hS (⟨rfl, hP, hD⟩) dX11_common_55
abbrev BX11_common_3 (D : va_G) (k : Nat → ClassId) (A : Nat → Prop) (r : Int64) (H : Heap) : Prop := 1 = r ∧ va_P D cl0 [] H ∧ va_D A []
set_option maxHeartbeats 4000000 in
set_option maxRecDepth 100000 in
theorem cX11_common_3 (l : Launch) (D : va_G) (k : Nat → ClassId) (sz : Nat) : Met l yX11_common (Cond.code yX11_common cX11_common 10 (some .long) :: uw) ({ frames := 0, cells := 0, slots := 0, locals := 0 }) (pC D k sz [.long 1, .long 1] []) (qL (BX11_common_3 D k  (va_A [] sz)) (va_A [] sz)) 0 0 (va_A [] sz) := by
  refine begin_ (Qc := fun A => qL (BX11_common_3 D k  A) A) (by decide) (Nat.le_of_ble_eq_true rfl) ?_
  intro p e s m below meth c ls A hx hb hr hml hown hlocks hin hU hK hsz hP hD hS hA hl
  have hl : lv_has ls 10 [(0, .long 1), (2, .long 1)] := hl
  clear hsz
  refine lv_lload_n hx hb dX11_common_0 rfl (lv_at hl 0 rfl) ?_
  refine lv_lconst (v := 0) hx hb dX11_common_1 (by decide) ?_
  refine W.lcmp hx hb dX11_common_2 (sv_i (v := 1) (by decide +kernel) ?_)
  refine lv_if_ge (tgt := 11) hx hb dX11_common_3 (by decide) (fun _ => ?_) (fun cc => absurd (by decide +kernel) cc)
  refine lv_lload_n hx hb dX11_common_11 rfl (lv_at hl 0 rfl) ?_
  refine lv_lstore (lv' := [(4, .long 1), (0, .long 1), (2, .long 1)]) hx hb dX11_common_12 hl (by decide) rfl (fun ls hl => ?_)
  refine lv_lload_n hx hb dX11_common_14 rfl (lv_at hl 2 rfl) ?_
  refine lv_lconst (v := 0) hx hb dX11_common_15 (by decide) ?_
  refine W.lcmp hx hb dX11_common_16 (sv_i (v := 1) (by decide +kernel) ?_)
  refine lv_if_ge (tgt := 25) hx hb dX11_common_17 (by decide) (fun _ => ?_) (fun cc => absurd (by decide +kernel) cc)
  refine lv_lload_n hx hb dX11_common_25 rfl (lv_at hl 2 rfl) ?_
  refine lv_lstore (lv' := [(6, .long 1), (4, .long 1), (0, .long 1), (2, .long 1)]) hx hb dX11_common_26 hl (by decide) rfl (fun ls hl => ?_)
  refine lv_lload hx hb dX11_common_28 (lv_at hl 0 rfl) ?_
  refine lv_lconst (v := 0) hx hb dX11_common_30 (by decide) ?_
  refine W.lcmp hx hb dX11_common_31 (sv_i (v := 1) (by decide +kernel) ?_)
  refine lv_if_eq (tgt := 53) hx hb dX11_common_32 (by decide) (fun cc => absurd cc (by decide +kernel)) (fun _ => ?_)
  refine lv_lload hx hb dX11_common_35 (lv_at hl 1 rfl) ?_
  refine lv_lload hx hb dX11_common_37 (lv_at hl 0 rfl) ?_
  refine lv_lrem hx hb dX11_common_39 (by decide +kernel) (sv_l (v := 0) (by decide +kernel) ?_)
  refine lv_lstore (lv' := [(8, .long 0), (6, .long 1), (4, .long 1), (0, .long 1), (2, .long 1)]) hx hb dX11_common_40 hl (by decide) rfl (fun ls hl => ?_)
  refine lv_lload hx hb dX11_common_42 (lv_at hl 1 rfl) ?_
  refine lv_lstore (lv' := [(4, .long 1), (8, .long 0), (6, .long 1), (0, .long 1), (2, .long 1)]) hx hb dX11_common_44 hl (by decide) rfl (fun ls hl => ?_)
  refine lv_lload hx hb dX11_common_46 (lv_at hl 1 rfl) ?_
  refine lv_lstore (lv' := [(6, .long 0), (4, .long 1), (8, .long 0), (0, .long 1), (2, .long 1)]) hx hb dX11_common_48 hl (by decide) rfl (fun ls hl => ?_)
  refine lv_goto (tgt := 28) hx hb dX11_common_50 (by decide) ?_
  refine lv_lload hx hb dX11_common_28 (lv_at hl 0 rfl) ?_
  refine lv_lconst (v := 0) hx hb dX11_common_30 (by decide) ?_
  refine W.lcmp hx hb dX11_common_31 (sv_i (v := 0) (by decide +kernel) ?_)
  refine lv_if_eq (tgt := 53) hx hb dX11_common_32 (by decide) (fun _ => ?_) (fun cc => absurd (by decide +kernel) cc)
  refine lv_lload hx hb dX11_common_53 (lv_at hl 1 rfl) ?_
  exact retL (v := 1) hx hb hr hlocks hS (⟨rfl, hP, hD⟩) dX11_common_55
abbrev BX11_form_1 (D : va_G) (k : Nat → ClassId) (a0 a4 a5 a10 a11 a12 a13 a1 a2 a3 a6 a7 a8 a9 a14 a15 a16 a17 a18 a19 a20 a21 : Nat) (x0 : Int32) (x1 : Int32) (A : Nat → Prop) (r : Int64) (H : Heap) : Prop := r = F_form x0 x1
set_option maxHeartbeats 4000000 in
set_option maxRecDepth 100000 in
theorem cX11_form_1 (l : Launch) (D : va_G) (k : Nat → ClassId) (sz : Nat) (a0 a4 a5 a10 a11 a12 a13 a1 a2 a3 a6 a7 a8 a9 a14 a15 a16 a17 a18 a19 a20 a21 : Nat) (x0 : Int32) (x1 : Int32) : Met l yX11_form (Cond.code yX11_form cX11_form 6 (some .long) :: uw) ({ frames := 3, cells := 0, slots := 0, locals := 66 }) (pC D k sz [.ref a0, .int x0, .int x1] [(a0, .inr (8, [.int 2, .int 0, .int 1, .int 0, .int 0, .int 0, .ref a1, .ref a2, .int 0, .int 0, .ref a3, .ref a4, .ref a5, .ref a6, .ref a7, .ref a8, .ref a9, .int 0, .int 0, .int 0, .ref a10, .ref a11, .ref a12, .ref a13, .int 0, .int 0, .ref a14, .ref a15, .ref a16, .ref a17, .int 0, .int 0, .ref a18, .ref a19, .ref a20, .ref a21])), (a4, .inl (k 1, 9, .inr (.inl (tL [] 0)))), (a5, .inl (k 1, 9, .inr (.inl (tL [] 0)))), (a10, .inl (k 1, 900, .inr (.inl (tL [] 0)))), (a11, .inl (k 0, 100, .inl (tI [] 0))), (a12, .inl (k 0, 100, .inl (tI [] 0))), (a13, .inl (k 0, 100, .inl (tI [] 0)))]) (qL (BX11_form_1 D k a0 a4 a5 a10 a11 a12 a13 a1 a2 a3 a6 a7 a8 a9 a14 a15 a16 a17 a18 a19 a20 a21 x0 x1 (va_A [(a0, .inr (8, [.int 2, .int 0, .int 1, .int 0, .int 0, .int 0, .ref a1, .ref a2, .int 0, .int 0, .ref a3, .ref a4, .ref a5, .ref a6, .ref a7, .ref a8, .ref a9, .int 0, .int 0, .int 0, .ref a10, .ref a11, .ref a12, .ref a13, .int 0, .int 0, .ref a14, .ref a15, .ref a16, .ref a17, .int 0, .int 0, .ref a18, .ref a19, .ref a20, .ref a21])), (a4, .inl (k 1, 9, .inr (.inl (tL [] 0)))), (a5, .inl (k 1, 9, .inr (.inl (tL [] 0)))), (a10, .inl (k 1, 900, .inr (.inl (tL [] 0)))), (a11, .inl (k 0, 100, .inl (tI [] 0))), (a12, .inl (k 0, 100, .inl (tI [] 0))), (a13, .inl (k 0, 100, .inl (tI [] 0)))] sz)) (va_A [(a0, .inr (8, [.int 2, .int 0, .int 1, .int 0, .int 0, .int 0, .ref a1, .ref a2, .int 0, .int 0, .ref a3, .ref a4, .ref a5, .ref a6, .ref a7, .ref a8, .ref a9, .int 0, .int 0, .int 0, .ref a10, .ref a11, .ref a12, .ref a13, .int 0, .int 0, .ref a14, .ref a15, .ref a16, .ref a17, .int 0, .int 0, .ref a18, .ref a19, .ref a20, .ref a21])), (a4, .inl (k 1, 9, .inr (.inl (tL [] 0)))), (a5, .inl (k 1, 9, .inr (.inl (tL [] 0)))), (a10, .inl (k 1, 900, .inr (.inl (tL [] 0)))), (a11, .inl (k 0, 100, .inl (tI [] 0))), (a12, .inl (k 0, 100, .inl (tI [] 0))), (a13, .inl (k 0, 100, .inl (tI [] 0)))] sz)) 0 0 (va_A [(a0, .inr (8, [.int 2, .int 0, .int 1, .int 0, .int 0, .int 0, .ref a1, .ref a2, .int 0, .int 0, .ref a3, .ref a4, .ref a5, .ref a6, .ref a7, .ref a8, .ref a9, .int 0, .int 0, .int 0, .ref a10, .ref a11, .ref a12, .ref a13, .int 0, .int 0, .ref a14, .ref a15, .ref a16, .ref a17, .int 0, .int 0, .ref a18, .ref a19, .ref a20, .ref a21])), (a4, .inl (k 1, 9, .inr (.inl (tL [] 0)))), (a5, .inl (k 1, 9, .inr (.inl (tL [] 0)))), (a10, .inl (k 1, 900, .inr (.inl (tL [] 0)))), (a11, .inl (k 0, 100, .inl (tI [] 0))), (a12, .inl (k 0, 100, .inl (tI [] 0))), (a13, .inl (k 0, 100, .inl (tI [] 0)))] sz) := by
  refine begin_ (Qc := fun A => qL (BX11_form_1 D k a0 a4 a5 a10 a11 a12 a13 a1 a2 a3 a6 a7 a8 a9 a14 a15 a16 a17 a18 a19 a20 a21 x0 x1 A) A) (by decide) (Nat.le_of_ble_eq_true rfl) ?_
  intro p e s m below meth c ls A hx hb hr hml hown hlocks hin hU hK hsz hP hD hS hA hl
  have hl : lv_has ls 6 [(0, .ref a0), (1, .int x0), (2, .int x1)] := hl
  clear hsz
  refine lv_aload_n hx hb dX11_form_0 rfl (lv_at hl 0 rfl) ?_
  refine lv_iload_n hx hb dX11_form_1 rfl (lv_at hl 1 rfl) ?_
  refine cI (rV (q0 := 0) (ci := 8) (As := [.int x0]) (rest := []) (wc := [(a0, .inr (8, [.int 2, .int 0, .int 1, .int 0, .int 0, .int 0, .ref a1, .ref a2, .int 0, .int 0, .ref a3, .ref a4, .ref a5, .ref a6, .ref a7, .ref a8, .ref a9, .int 0, .int 0, .int 0, .ref a10, .ref a11, .ref a12, .ref a13, .int 0, .int 0, .ref a14, .ref a15, .ref a16, .ref a17, .int 0, .int 0, .ref a18, .ref a19, .ref a20, .ref a21]))]) hx hb hml hown hU hK hP hD rfl rfl [0] rfl (by decide) (cX11_isPlace_1 l D k _ a0 a1 a2 a3 a4 a5 a6 a7 a8 a9 a10 a11 a12 a13 a14 a15 a16 a17 a18 a19 a20 a21 (x0)) w909 w906 w908 w26 w72 hdX11_isPlace ⟨rfl, rfl⟩ ⟨Nat.le_of_ble_eq_true rfl, Nat.le_of_ble_eq_true rfl⟩ rfl hl.1 (Nat.le_of_ble_eq_true rfl) dX11_form_2 ⟨Nat.le_of_ble_eq_true rfl, Nat.le_of_ble_eq_true rfl⟩) hP hD hS hA (wr := [(a4, .inl (k 1, 9, .inr (.inl (tL [] 0)))), (a5, .inl (k 1, 9, .inr (.inl (tL [] 0)))), (a10, .inl (k 1, 900, .inr (.inl (tL [] 0)))), (a11, .inl (k 0, 100, .inl (tI [] 0))), (a12, .inl (k 0, 100, .inl (tI [] 0))), (a13, .inl (k 0, 100, .inl (tI [] 0)))]) [0] [1, 2, 3, 4, 5, 6] rfl rfl (by decide) (by decide) (fun r1 H locs hB J hS => ?_)
  rcases hB with ⟨c_2, rfl, hP1, hD1⟩ | ⟨c_3, c_4, rfl, hP1, hD1⟩ | ⟨c_5, c_6, rfl, hP1, hD1⟩
  · skip
    obtain ⟨hP, hD⟩ := J _ hP1 hD1
    have hP : va_P D cl0 [(a4, .inl (k 1, 9, .inr (.inl (tL [] 0)))), (a5, .inl (k 1, 9, .inr (.inl (tL [] 0)))), (a10, .inl (k 1, 900, .inr (.inl (tL [] 0)))), (a11, .inl (k 0, 100, .inl (tI [] 0))), (a12, .inl (k 0, 100, .inl (tI [] 0))), (a13, .inl (k 0, 100, .inl (tI [] 0))), (a0, .inr (8, [.int 2, .int 0, .int 1, .int 0, .int 0, .int 0, .ref a1, .ref a2, .int 0, .int 0, .ref a3, .ref a4, .ref a5, .ref a6, .ref a7, .ref a8, .ref a9, .int 0, .int 0, .int 0, .ref a10, .ref a11, .ref a12, .ref a13, .int 0, .int 0, .ref a14, .ref a15, .ref a16, .ref a17, .int 0, .int 0, .ref a18, .ref a19, .ref a20, .ref a21]))] H := hP
    have hD : va_D A [(a4, .inl (k 1, 9, .inr (.inl (tL [] 0)))), (a5, .inl (k 1, 9, .inr (.inl (tL [] 0)))), (a10, .inl (k 1, 900, .inr (.inl (tL [] 0)))), (a11, .inl (k 0, 100, .inl (tI [] 0))), (a12, .inl (k 0, 100, .inl (tI [] 0))), (a13, .inl (k 0, 100, .inl (tI [] 0))), (a0, .inr (8, [.int 2, .int 0, .int 1, .int 0, .int 0, .int 0, .ref a1, .ref a2, .int 0, .int 0, .ref a3, .ref a4, .ref a5, .ref a6, .ref a7, .ref a8, .ref a9, .int 0, .int 0, .int 0, .ref a10, .ref a11, .ref a12, .ref a13, .int 0, .int 0, .ref a14, .ref a15, .ref a16, .ref a17, .int 0, .int 0, .ref a18, .ref a19, .ref a20, .ref a21]))] := hD
    refine lv_if_eq (tgt := 16) hx hb dX11_form_5 (by decide) (fun _ => ?_) (fun cc => absurd (by decide +kernel) cc)
    refine lv_iconst (v := (-1)) hx hb dX11_form_16 (by decide) ?_
    refine cL (rS (As := [.int (-1)]) (rest := []) (wc := []) hx hb hml hown hU hK hP hD [] rfl (by decide) (cX11_far_1 l D k _ ) w1062 w1060 w1061 w72 hdX11_far ⟨rfl, rfl⟩ ⟨Nat.le_of_ble_eq_true rfl, Nat.le_of_ble_eq_true rfl⟩ rfl hl.1 (Nat.le_of_ble_eq_true rfl) dX11_form_17 ⟨Nat.le_of_ble_eq_true rfl, Nat.le_of_ble_eq_true rfl⟩) hP hD hS hA (wr := [(a4, .inl (k 1, 9, .inr (.inl (tL [] 0)))), (a5, .inl (k 1, 9, .inr (.inl (tL [] 0)))), (a10, .inl (k 1, 900, .inr (.inl (tL [] 0)))), (a11, .inl (k 0, 100, .inl (tI [] 0))), (a12, .inl (k 0, 100, .inl (tI [] 0))), (a13, .inl (k 0, 100, .inl (tI [] 0))), (a0, .inr (8, [.int 2, .int 0, .int 1, .int 0, .int 0, .int 0, .ref a1, .ref a2, .int 0, .int 0, .ref a3, .ref a4, .ref a5, .ref a6, .ref a7, .ref a8, .ref a9, .int 0, .int 0, .int 0, .ref a10, .ref a11, .ref a12, .ref a13, .int 0, .int 0, .ref a14, .ref a15, .ref a16, .ref a17, .int 0, .int 0, .ref a18, .ref a19, .ref a20, .ref a21]))]) [] [0, 1, 2, 3, 4, 5, 6] rfl rfl (by decide) (by decide) (fun r7 H locs hB J hS => ?_)
    obtain ⟨rfl, hP1, hD1⟩ := hB
    obtain ⟨hP, hD⟩ := J _ hP1 hD1
    have hP : va_P D cl0 [(a4, .inl (k 1, 9, .inr (.inl (tL [] 0)))), (a5, .inl (k 1, 9, .inr (.inl (tL [] 0)))), (a10, .inl (k 1, 900, .inr (.inl (tL [] 0)))), (a11, .inl (k 0, 100, .inl (tI [] 0))), (a12, .inl (k 0, 100, .inl (tI [] 0))), (a13, .inl (k 0, 100, .inl (tI [] 0))), (a0, .inr (8, [.int 2, .int 0, .int 1, .int 0, .int 0, .int 0, .ref a1, .ref a2, .int 0, .int 0, .ref a3, .ref a4, .ref a5, .ref a6, .ref a7, .ref a8, .ref a9, .int 0, .int 0, .int 0, .ref a10, .ref a11, .ref a12, .ref a13, .int 0, .int 0, .ref a14, .ref a15, .ref a16, .ref a17, .int 0, .int 0, .ref a18, .ref a19, .ref a20, .ref a21]))] H := hP
    have hD : va_D A [(a4, .inl (k 1, 9, .inr (.inl (tL [] 0)))), (a5, .inl (k 1, 9, .inr (.inl (tL [] 0)))), (a10, .inl (k 1, 900, .inr (.inl (tL [] 0)))), (a11, .inl (k 0, 100, .inl (tI [] 0))), (a12, .inl (k 0, 100, .inl (tI [] 0))), (a13, .inl (k 0, 100, .inl (tI [] 0))), (a0, .inr (8, [.int 2, .int 0, .int 1, .int 0, .int 0, .int 0, .ref a1, .ref a2, .int 0, .int 0, .ref a3, .ref a4, .ref a5, .ref a6, .ref a7, .ref a8, .ref a9, .int 0, .int 0, .int 0, .ref a10, .ref a11, .ref a12, .ref a13, .int 0, .int 0, .ref a14, .ref a15, .ref a16, .ref a17, .int 0, .int 0, .ref a18, .ref a19, .ref a20, .ref a21]))] := hD
    exact retL (v := (-4000000000000000001)) hx hb hr hlocks hS (show ((-4000000000000000001) : Int64) = F_form x0 x1 by first | decide +kernel | (have f0 := dv_lt (x := x0.toInt) (y := 0) c_2 (wd x0) (by decide +kernel); unfold F_form; (repeat (first | rw [if_pos (by omega)] | rw [if_neg (by omega)])))) dX11_form_20
  · skip
    obtain ⟨hP, hD⟩ := J _ hP1 hD1
    have hP : va_P D cl0 [(a4, .inl (k 1, 9, .inr (.inl (tL [] 0)))), (a5, .inl (k 1, 9, .inr (.inl (tL [] 0)))), (a10, .inl (k 1, 900, .inr (.inl (tL [] 0)))), (a11, .inl (k 0, 100, .inl (tI [] 0))), (a12, .inl (k 0, 100, .inl (tI [] 0))), (a13, .inl (k 0, 100, .inl (tI [] 0))), (a0, .inr (8, [.int 2, .int 0, .int 1, .int 0, .int 0, .int 0, .ref a1, .ref a2, .int 0, .int 0, .ref a3, .ref a4, .ref a5, .ref a6, .ref a7, .ref a8, .ref a9, .int 0, .int 0, .int 0, .ref a10, .ref a11, .ref a12, .ref a13, .int 0, .int 0, .ref a14, .ref a15, .ref a16, .ref a17, .int 0, .int 0, .ref a18, .ref a19, .ref a20, .ref a21]))] H := hP
    have hD : va_D A [(a4, .inl (k 1, 9, .inr (.inl (tL [] 0)))), (a5, .inl (k 1, 9, .inr (.inl (tL [] 0)))), (a10, .inl (k 1, 900, .inr (.inl (tL [] 0)))), (a11, .inl (k 0, 100, .inl (tI [] 0))), (a12, .inl (k 0, 100, .inl (tI [] 0))), (a13, .inl (k 0, 100, .inl (tI [] 0))), (a0, .inr (8, [.int 2, .int 0, .int 1, .int 0, .int 0, .int 0, .ref a1, .ref a2, .int 0, .int 0, .ref a3, .ref a4, .ref a5, .ref a6, .ref a7, .ref a8, .ref a9, .int 0, .int 0, .int 0, .ref a10, .ref a11, .ref a12, .ref a13, .int 0, .int 0, .ref a14, .ref a15, .ref a16, .ref a17, .int 0, .int 0, .ref a18, .ref a19, .ref a20, .ref a21]))] := hD
    refine lv_if_eq (tgt := 16) hx hb dX11_form_5 (by decide) (fun _ => ?_) (fun cc => absurd (by decide +kernel) cc)
    refine lv_iconst (v := (-1)) hx hb dX11_form_16 (by decide) ?_
    refine cL (rS (As := [.int (-1)]) (rest := []) (wc := []) hx hb hml hown hU hK hP hD [] rfl (by decide) (cX11_far_1 l D k _ ) w1062 w1060 w1061 w72 hdX11_far ⟨rfl, rfl⟩ ⟨Nat.le_of_ble_eq_true rfl, Nat.le_of_ble_eq_true rfl⟩ rfl hl.1 (Nat.le_of_ble_eq_true rfl) dX11_form_17 ⟨Nat.le_of_ble_eq_true rfl, Nat.le_of_ble_eq_true rfl⟩) hP hD hS hA (wr := [(a4, .inl (k 1, 9, .inr (.inl (tL [] 0)))), (a5, .inl (k 1, 9, .inr (.inl (tL [] 0)))), (a10, .inl (k 1, 900, .inr (.inl (tL [] 0)))), (a11, .inl (k 0, 100, .inl (tI [] 0))), (a12, .inl (k 0, 100, .inl (tI [] 0))), (a13, .inl (k 0, 100, .inl (tI [] 0))), (a0, .inr (8, [.int 2, .int 0, .int 1, .int 0, .int 0, .int 0, .ref a1, .ref a2, .int 0, .int 0, .ref a3, .ref a4, .ref a5, .ref a6, .ref a7, .ref a8, .ref a9, .int 0, .int 0, .int 0, .ref a10, .ref a11, .ref a12, .ref a13, .int 0, .int 0, .ref a14, .ref a15, .ref a16, .ref a17, .int 0, .int 0, .ref a18, .ref a19, .ref a20, .ref a21]))]) [] [0, 1, 2, 3, 4, 5, 6] rfl rfl (by decide) (by decide) (fun r8 H locs hB J hS => ?_)
    obtain ⟨rfl, hP1, hD1⟩ := hB
    obtain ⟨hP, hD⟩ := J _ hP1 hD1
    have hP : va_P D cl0 [(a4, .inl (k 1, 9, .inr (.inl (tL [] 0)))), (a5, .inl (k 1, 9, .inr (.inl (tL [] 0)))), (a10, .inl (k 1, 900, .inr (.inl (tL [] 0)))), (a11, .inl (k 0, 100, .inl (tI [] 0))), (a12, .inl (k 0, 100, .inl (tI [] 0))), (a13, .inl (k 0, 100, .inl (tI [] 0))), (a0, .inr (8, [.int 2, .int 0, .int 1, .int 0, .int 0, .int 0, .ref a1, .ref a2, .int 0, .int 0, .ref a3, .ref a4, .ref a5, .ref a6, .ref a7, .ref a8, .ref a9, .int 0, .int 0, .int 0, .ref a10, .ref a11, .ref a12, .ref a13, .int 0, .int 0, .ref a14, .ref a15, .ref a16, .ref a17, .int 0, .int 0, .ref a18, .ref a19, .ref a20, .ref a21]))] H := hP
    have hD : va_D A [(a4, .inl (k 1, 9, .inr (.inl (tL [] 0)))), (a5, .inl (k 1, 9, .inr (.inl (tL [] 0)))), (a10, .inl (k 1, 900, .inr (.inl (tL [] 0)))), (a11, .inl (k 0, 100, .inl (tI [] 0))), (a12, .inl (k 0, 100, .inl (tI [] 0))), (a13, .inl (k 0, 100, .inl (tI [] 0))), (a0, .inr (8, [.int 2, .int 0, .int 1, .int 0, .int 0, .int 0, .ref a1, .ref a2, .int 0, .int 0, .ref a3, .ref a4, .ref a5, .ref a6, .ref a7, .ref a8, .ref a9, .int 0, .int 0, .int 0, .ref a10, .ref a11, .ref a12, .ref a13, .int 0, .int 0, .ref a14, .ref a15, .ref a16, .ref a17, .int 0, .int 0, .ref a18, .ref a19, .ref a20, .ref a21]))] := hD
    exact retL (v := (-4000000000000000001)) hx hb hr hlocks hS (show ((-4000000000000000001) : Int64) = F_form x0 x1 by first | decide +kernel | (have f0 := dv_nlt (x := x0.toInt) (y := 0) c_3 (wd x0) (by decide +kernel); have f1 := dv_lt (x := 1) (y := x0.toInt) c_4 (by decide +kernel) (wd x0); unfold F_form; (repeat (first | rw [if_pos (by omega)] | rw [if_neg (by omega)])))) dX11_form_20
  · skip
    obtain ⟨hP, hD⟩ := J _ hP1 hD1
    have hP : va_P D cl0 [(a4, .inl (k 1, 9, .inr (.inl (tL [] 0)))), (a5, .inl (k 1, 9, .inr (.inl (tL [] 0)))), (a10, .inl (k 1, 900, .inr (.inl (tL [] 0)))), (a11, .inl (k 0, 100, .inl (tI [] 0))), (a12, .inl (k 0, 100, .inl (tI [] 0))), (a13, .inl (k 0, 100, .inl (tI [] 0))), (a0, .inr (8, [.int 2, .int 0, .int 1, .int 0, .int 0, .int 0, .ref a1, .ref a2, .int 0, .int 0, .ref a3, .ref a4, .ref a5, .ref a6, .ref a7, .ref a8, .ref a9, .int 0, .int 0, .int 0, .ref a10, .ref a11, .ref a12, .ref a13, .int 0, .int 0, .ref a14, .ref a15, .ref a16, .ref a17, .int 0, .int 0, .ref a18, .ref a19, .ref a20, .ref a21]))] H := hP
    have hD : va_D A [(a4, .inl (k 1, 9, .inr (.inl (tL [] 0)))), (a5, .inl (k 1, 9, .inr (.inl (tL [] 0)))), (a10, .inl (k 1, 900, .inr (.inl (tL [] 0)))), (a11, .inl (k 0, 100, .inl (tI [] 0))), (a12, .inl (k 0, 100, .inl (tI [] 0))), (a13, .inl (k 0, 100, .inl (tI [] 0))), (a0, .inr (8, [.int 2, .int 0, .int 1, .int 0, .int 0, .int 0, .ref a1, .ref a2, .int 0, .int 0, .ref a3, .ref a4, .ref a5, .ref a6, .ref a7, .ref a8, .ref a9, .int 0, .int 0, .int 0, .ref a10, .ref a11, .ref a12, .ref a13, .int 0, .int 0, .ref a14, .ref a15, .ref a16, .ref a17, .int 0, .int 0, .ref a18, .ref a19, .ref a20, .ref a21]))] := hD
    refine lv_if_eq (tgt := 16) hx hb dX11_form_5 (by decide) (fun cc => absurd cc (by decide +kernel)) (fun _ => ?_)
    refine lv_aload_n hx hb dX11_form_8 rfl (lv_at hl 0 rfl) ?_
    refine lv_iload_n hx hb dX11_form_9 rfl (lv_at hl 2 rfl) ?_
    refine cI (rV (q0 := 6) (ci := 8) (As := [.int x1]) (rest := []) (wc := [(a0, .inr (8, [.int 2, .int 0, .int 1, .int 0, .int 0, .int 0, .ref a1, .ref a2, .int 0, .int 0, .ref a3, .ref a4, .ref a5, .ref a6, .ref a7, .ref a8, .ref a9, .int 0, .int 0, .int 0, .ref a10, .ref a11, .ref a12, .ref a13, .int 0, .int 0, .ref a14, .ref a15, .ref a16, .ref a17, .int 0, .int 0, .ref a18, .ref a19, .ref a20, .ref a21]))]) hx hb hml hown hU hK hP hD rfl rfl [6] rfl (by decide) (cX11_isPlace_1 l D k _ a0 a1 a2 a3 a4 a5 a6 a7 a8 a9 a10 a11 a12 a13 a14 a15 a16 a17 a18 a19 a20 a21 (x1)) w909 w906 w908 w26 w72 hdX11_isPlace ⟨rfl, rfl⟩ ⟨Nat.le_of_ble_eq_true rfl, Nat.le_of_ble_eq_true rfl⟩ rfl hl.1 (Nat.le_of_ble_eq_true rfl) dX11_form_10 ⟨Nat.le_of_ble_eq_true rfl, Nat.le_of_ble_eq_true rfl⟩) hP hD hS hA (wr := [(a4, .inl (k 1, 9, .inr (.inl (tL [] 0)))), (a5, .inl (k 1, 9, .inr (.inl (tL [] 0)))), (a10, .inl (k 1, 900, .inr (.inl (tL [] 0)))), (a11, .inl (k 0, 100, .inl (tI [] 0))), (a12, .inl (k 0, 100, .inl (tI [] 0))), (a13, .inl (k 0, 100, .inl (tI [] 0)))]) [6] [0, 1, 2, 3, 4, 5] rfl rfl (by decide) (by decide) (fun r9 H locs hB J hS => ?_)
    rcases hB with ⟨c_10, rfl, hP1, hD1⟩ | ⟨c_11, c_12, rfl, hP1, hD1⟩ | ⟨c_13, c_14, rfl, hP1, hD1⟩
    · skip
      obtain ⟨hP, hD⟩ := J _ hP1 hD1
      have hP : va_P D cl0 [(a4, .inl (k 1, 9, .inr (.inl (tL [] 0)))), (a5, .inl (k 1, 9, .inr (.inl (tL [] 0)))), (a10, .inl (k 1, 900, .inr (.inl (tL [] 0)))), (a11, .inl (k 0, 100, .inl (tI [] 0))), (a12, .inl (k 0, 100, .inl (tI [] 0))), (a13, .inl (k 0, 100, .inl (tI [] 0))), (a0, .inr (8, [.int 2, .int 0, .int 1, .int 0, .int 0, .int 0, .ref a1, .ref a2, .int 0, .int 0, .ref a3, .ref a4, .ref a5, .ref a6, .ref a7, .ref a8, .ref a9, .int 0, .int 0, .int 0, .ref a10, .ref a11, .ref a12, .ref a13, .int 0, .int 0, .ref a14, .ref a15, .ref a16, .ref a17, .int 0, .int 0, .ref a18, .ref a19, .ref a20, .ref a21]))] H := hP
      have hD : va_D A [(a4, .inl (k 1, 9, .inr (.inl (tL [] 0)))), (a5, .inl (k 1, 9, .inr (.inl (tL [] 0)))), (a10, .inl (k 1, 900, .inr (.inl (tL [] 0)))), (a11, .inl (k 0, 100, .inl (tI [] 0))), (a12, .inl (k 0, 100, .inl (tI [] 0))), (a13, .inl (k 0, 100, .inl (tI [] 0))), (a0, .inr (8, [.int 2, .int 0, .int 1, .int 0, .int 0, .int 0, .ref a1, .ref a2, .int 0, .int 0, .ref a3, .ref a4, .ref a5, .ref a6, .ref a7, .ref a8, .ref a9, .int 0, .int 0, .int 0, .ref a10, .ref a11, .ref a12, .ref a13, .int 0, .int 0, .ref a14, .ref a15, .ref a16, .ref a17, .int 0, .int 0, .ref a18, .ref a19, .ref a20, .ref a21]))] := hD
      refine lv_if_ne (tgt := 21) hx hb dX11_form_13 (by decide) (fun cc => absurd (by decide +kernel) cc) (fun _ => ?_)
      refine lv_iconst (v := (-1)) hx hb dX11_form_16 (by decide) ?_
      refine cL (rS (As := [.int (-1)]) (rest := []) (wc := []) hx hb hml hown hU hK hP hD [] rfl (by decide) (cX11_far_1 l D k _ ) w1062 w1060 w1061 w72 hdX11_far ⟨rfl, rfl⟩ ⟨Nat.le_of_ble_eq_true rfl, Nat.le_of_ble_eq_true rfl⟩ rfl hl.1 (Nat.le_of_ble_eq_true rfl) dX11_form_17 ⟨Nat.le_of_ble_eq_true rfl, Nat.le_of_ble_eq_true rfl⟩) hP hD hS hA (wr := [(a4, .inl (k 1, 9, .inr (.inl (tL [] 0)))), (a5, .inl (k 1, 9, .inr (.inl (tL [] 0)))), (a10, .inl (k 1, 900, .inr (.inl (tL [] 0)))), (a11, .inl (k 0, 100, .inl (tI [] 0))), (a12, .inl (k 0, 100, .inl (tI [] 0))), (a13, .inl (k 0, 100, .inl (tI [] 0))), (a0, .inr (8, [.int 2, .int 0, .int 1, .int 0, .int 0, .int 0, .ref a1, .ref a2, .int 0, .int 0, .ref a3, .ref a4, .ref a5, .ref a6, .ref a7, .ref a8, .ref a9, .int 0, .int 0, .int 0, .ref a10, .ref a11, .ref a12, .ref a13, .int 0, .int 0, .ref a14, .ref a15, .ref a16, .ref a17, .int 0, .int 0, .ref a18, .ref a19, .ref a20, .ref a21]))]) [] [0, 1, 2, 3, 4, 5, 6] rfl rfl (by decide) (by decide) (fun r15 H locs hB J hS => ?_)
      obtain ⟨rfl, hP1, hD1⟩ := hB
      obtain ⟨hP, hD⟩ := J _ hP1 hD1
      have hP : va_P D cl0 [(a4, .inl (k 1, 9, .inr (.inl (tL [] 0)))), (a5, .inl (k 1, 9, .inr (.inl (tL [] 0)))), (a10, .inl (k 1, 900, .inr (.inl (tL [] 0)))), (a11, .inl (k 0, 100, .inl (tI [] 0))), (a12, .inl (k 0, 100, .inl (tI [] 0))), (a13, .inl (k 0, 100, .inl (tI [] 0))), (a0, .inr (8, [.int 2, .int 0, .int 1, .int 0, .int 0, .int 0, .ref a1, .ref a2, .int 0, .int 0, .ref a3, .ref a4, .ref a5, .ref a6, .ref a7, .ref a8, .ref a9, .int 0, .int 0, .int 0, .ref a10, .ref a11, .ref a12, .ref a13, .int 0, .int 0, .ref a14, .ref a15, .ref a16, .ref a17, .int 0, .int 0, .ref a18, .ref a19, .ref a20, .ref a21]))] H := hP
      have hD : va_D A [(a4, .inl (k 1, 9, .inr (.inl (tL [] 0)))), (a5, .inl (k 1, 9, .inr (.inl (tL [] 0)))), (a10, .inl (k 1, 900, .inr (.inl (tL [] 0)))), (a11, .inl (k 0, 100, .inl (tI [] 0))), (a12, .inl (k 0, 100, .inl (tI [] 0))), (a13, .inl (k 0, 100, .inl (tI [] 0))), (a0, .inr (8, [.int 2, .int 0, .int 1, .int 0, .int 0, .int 0, .ref a1, .ref a2, .int 0, .int 0, .ref a3, .ref a4, .ref a5, .ref a6, .ref a7, .ref a8, .ref a9, .int 0, .int 0, .int 0, .ref a10, .ref a11, .ref a12, .ref a13, .int 0, .int 0, .ref a14, .ref a15, .ref a16, .ref a17, .int 0, .int 0, .ref a18, .ref a19, .ref a20, .ref a21]))] := hD
      exact retL (v := (-4000000000000000001)) hx hb hr hlocks hS (show ((-4000000000000000001) : Int64) = F_form x0 x1 by first | decide +kernel | (have f0 := dv_nlt (x := x0.toInt) (y := 0) c_5 (wd x0) (by decide +kernel); have f1 := dv_nlt (x := 1) (y := x0.toInt) c_6 (by decide +kernel) (wd x0); have f2 := dv_lt (x := x1.toInt) (y := 0) c_10 (wd x1) (by decide +kernel); unfold F_form; (repeat (first | rw [if_pos (by omega)] | rw [if_neg (by omega)])))) dX11_form_20
    · skip
      obtain ⟨hP, hD⟩ := J _ hP1 hD1
      have hP : va_P D cl0 [(a4, .inl (k 1, 9, .inr (.inl (tL [] 0)))), (a5, .inl (k 1, 9, .inr (.inl (tL [] 0)))), (a10, .inl (k 1, 900, .inr (.inl (tL [] 0)))), (a11, .inl (k 0, 100, .inl (tI [] 0))), (a12, .inl (k 0, 100, .inl (tI [] 0))), (a13, .inl (k 0, 100, .inl (tI [] 0))), (a0, .inr (8, [.int 2, .int 0, .int 1, .int 0, .int 0, .int 0, .ref a1, .ref a2, .int 0, .int 0, .ref a3, .ref a4, .ref a5, .ref a6, .ref a7, .ref a8, .ref a9, .int 0, .int 0, .int 0, .ref a10, .ref a11, .ref a12, .ref a13, .int 0, .int 0, .ref a14, .ref a15, .ref a16, .ref a17, .int 0, .int 0, .ref a18, .ref a19, .ref a20, .ref a21]))] H := hP
      have hD : va_D A [(a4, .inl (k 1, 9, .inr (.inl (tL [] 0)))), (a5, .inl (k 1, 9, .inr (.inl (tL [] 0)))), (a10, .inl (k 1, 900, .inr (.inl (tL [] 0)))), (a11, .inl (k 0, 100, .inl (tI [] 0))), (a12, .inl (k 0, 100, .inl (tI [] 0))), (a13, .inl (k 0, 100, .inl (tI [] 0))), (a0, .inr (8, [.int 2, .int 0, .int 1, .int 0, .int 0, .int 0, .ref a1, .ref a2, .int 0, .int 0, .ref a3, .ref a4, .ref a5, .ref a6, .ref a7, .ref a8, .ref a9, .int 0, .int 0, .int 0, .ref a10, .ref a11, .ref a12, .ref a13, .int 0, .int 0, .ref a14, .ref a15, .ref a16, .ref a17, .int 0, .int 0, .ref a18, .ref a19, .ref a20, .ref a21]))] := hD
      refine lv_if_ne (tgt := 21) hx hb dX11_form_13 (by decide) (fun cc => absurd (by decide +kernel) cc) (fun _ => ?_)
      refine lv_iconst (v := (-1)) hx hb dX11_form_16 (by decide) ?_
      refine cL (rS (As := [.int (-1)]) (rest := []) (wc := []) hx hb hml hown hU hK hP hD [] rfl (by decide) (cX11_far_1 l D k _ ) w1062 w1060 w1061 w72 hdX11_far ⟨rfl, rfl⟩ ⟨Nat.le_of_ble_eq_true rfl, Nat.le_of_ble_eq_true rfl⟩ rfl hl.1 (Nat.le_of_ble_eq_true rfl) dX11_form_17 ⟨Nat.le_of_ble_eq_true rfl, Nat.le_of_ble_eq_true rfl⟩) hP hD hS hA (wr := [(a4, .inl (k 1, 9, .inr (.inl (tL [] 0)))), (a5, .inl (k 1, 9, .inr (.inl (tL [] 0)))), (a10, .inl (k 1, 900, .inr (.inl (tL [] 0)))), (a11, .inl (k 0, 100, .inl (tI [] 0))), (a12, .inl (k 0, 100, .inl (tI [] 0))), (a13, .inl (k 0, 100, .inl (tI [] 0))), (a0, .inr (8, [.int 2, .int 0, .int 1, .int 0, .int 0, .int 0, .ref a1, .ref a2, .int 0, .int 0, .ref a3, .ref a4, .ref a5, .ref a6, .ref a7, .ref a8, .ref a9, .int 0, .int 0, .int 0, .ref a10, .ref a11, .ref a12, .ref a13, .int 0, .int 0, .ref a14, .ref a15, .ref a16, .ref a17, .int 0, .int 0, .ref a18, .ref a19, .ref a20, .ref a21]))]) [] [0, 1, 2, 3, 4, 5, 6] rfl rfl (by decide) (by decide) (fun r16 H locs hB J hS => ?_)
      obtain ⟨rfl, hP1, hD1⟩ := hB
      obtain ⟨hP, hD⟩ := J _ hP1 hD1
      have hP : va_P D cl0 [(a4, .inl (k 1, 9, .inr (.inl (tL [] 0)))), (a5, .inl (k 1, 9, .inr (.inl (tL [] 0)))), (a10, .inl (k 1, 900, .inr (.inl (tL [] 0)))), (a11, .inl (k 0, 100, .inl (tI [] 0))), (a12, .inl (k 0, 100, .inl (tI [] 0))), (a13, .inl (k 0, 100, .inl (tI [] 0))), (a0, .inr (8, [.int 2, .int 0, .int 1, .int 0, .int 0, .int 0, .ref a1, .ref a2, .int 0, .int 0, .ref a3, .ref a4, .ref a5, .ref a6, .ref a7, .ref a8, .ref a9, .int 0, .int 0, .int 0, .ref a10, .ref a11, .ref a12, .ref a13, .int 0, .int 0, .ref a14, .ref a15, .ref a16, .ref a17, .int 0, .int 0, .ref a18, .ref a19, .ref a20, .ref a21]))] H := hP
      have hD : va_D A [(a4, .inl (k 1, 9, .inr (.inl (tL [] 0)))), (a5, .inl (k 1, 9, .inr (.inl (tL [] 0)))), (a10, .inl (k 1, 900, .inr (.inl (tL [] 0)))), (a11, .inl (k 0, 100, .inl (tI [] 0))), (a12, .inl (k 0, 100, .inl (tI [] 0))), (a13, .inl (k 0, 100, .inl (tI [] 0))), (a0, .inr (8, [.int 2, .int 0, .int 1, .int 0, .int 0, .int 0, .ref a1, .ref a2, .int 0, .int 0, .ref a3, .ref a4, .ref a5, .ref a6, .ref a7, .ref a8, .ref a9, .int 0, .int 0, .int 0, .ref a10, .ref a11, .ref a12, .ref a13, .int 0, .int 0, .ref a14, .ref a15, .ref a16, .ref a17, .int 0, .int 0, .ref a18, .ref a19, .ref a20, .ref a21]))] := hD
      exact retL (v := (-4000000000000000001)) hx hb hr hlocks hS (show ((-4000000000000000001) : Int64) = F_form x0 x1 by first | decide +kernel | (have f0 := dv_nlt (x := x0.toInt) (y := 0) c_5 (wd x0) (by decide +kernel); have f1 := dv_nlt (x := 1) (y := x0.toInt) c_6 (by decide +kernel) (wd x0); have f2 := dv_nlt (x := x1.toInt) (y := 0) c_11 (wd x1) (by decide +kernel); have f3 := dv_lt (x := 1) (y := x1.toInt) c_12 (by decide +kernel) (wd x1); unfold F_form; (repeat (first | rw [if_pos (by omega)] | rw [if_neg (by omega)])))) dX11_form_20
    · skip
      obtain ⟨hP, hD⟩ := J _ hP1 hD1
      have hP : va_P D cl0 [(a4, .inl (k 1, 9, .inr (.inl (tL [] 0)))), (a5, .inl (k 1, 9, .inr (.inl (tL [] 0)))), (a10, .inl (k 1, 900, .inr (.inl (tL [] 0)))), (a11, .inl (k 0, 100, .inl (tI [] 0))), (a12, .inl (k 0, 100, .inl (tI [] 0))), (a13, .inl (k 0, 100, .inl (tI [] 0))), (a0, .inr (8, [.int 2, .int 0, .int 1, .int 0, .int 0, .int 0, .ref a1, .ref a2, .int 0, .int 0, .ref a3, .ref a4, .ref a5, .ref a6, .ref a7, .ref a8, .ref a9, .int 0, .int 0, .int 0, .ref a10, .ref a11, .ref a12, .ref a13, .int 0, .int 0, .ref a14, .ref a15, .ref a16, .ref a17, .int 0, .int 0, .ref a18, .ref a19, .ref a20, .ref a21]))] H := hP
      have hD : va_D A [(a4, .inl (k 1, 9, .inr (.inl (tL [] 0)))), (a5, .inl (k 1, 9, .inr (.inl (tL [] 0)))), (a10, .inl (k 1, 900, .inr (.inl (tL [] 0)))), (a11, .inl (k 0, 100, .inl (tI [] 0))), (a12, .inl (k 0, 100, .inl (tI [] 0))), (a13, .inl (k 0, 100, .inl (tI [] 0))), (a0, .inr (8, [.int 2, .int 0, .int 1, .int 0, .int 0, .int 0, .ref a1, .ref a2, .int 0, .int 0, .ref a3, .ref a4, .ref a5, .ref a6, .ref a7, .ref a8, .ref a9, .int 0, .int 0, .int 0, .ref a10, .ref a11, .ref a12, .ref a13, .int 0, .int 0, .ref a14, .ref a15, .ref a16, .ref a17, .int 0, .int 0, .ref a18, .ref a19, .ref a20, .ref a21]))] := hD
      refine lv_if_ne (tgt := 21) hx hb dX11_form_13 (by decide) (fun _ => ?_) (fun cc => absurd cc (by decide +kernel))
      refine lv_aload_n hx hb dX11_form_21 rfl (lv_at hl 0 rfl) ?_
      refine cV (rV (q0 := 6) (ci := 8) (As := []) (rest := []) (wc := [(a0, .inr (8, [.int 2, .int 0, .int 1, .int 0, .int 0, .int 0, .ref a1, .ref a2, .int 0, .int 0, .ref a3, .ref a4, .ref a5, .ref a6, .ref a7, .ref a8, .ref a9, .int 0, .int 0, .int 0, .ref a10, .ref a11, .ref a12, .ref a13, .int 0, .int 0, .ref a14, .ref a15, .ref a16, .ref a17, .int 0, .int 0, .ref a18, .ref a19, .ref a20, .ref a21])), (a4, .inl (k 1, 9, .inr (.inl (tL [] 0)))), (a10, .inl (k 1, 900, .inr (.inl (tL [] 0)))), (a11, .inl (k 0, 100, .inl (tI [] 0))), (a12, .inl (k 0, 100, .inl (tI [] 0))), (a13, .inl (k 0, 100, .inl (tI [] 0)))]) hx hb hml hown hU hK hP hD rfl rfl [6, 0, 2, 3, 4, 5] rfl (by decide) (cX11_findList_1 l D k _ a0 a4 a10 a11 a12 a13 a1 a2 a3 a5 a6 a7 a8 a9 a14 a15 a16 a17 a18 a19 a20 a21) w1039 w1036 w1038 w47 w72 hdX11_findList ⟨rfl, rfl⟩ ⟨Nat.le_of_ble_eq_true rfl, Nat.le_of_ble_eq_true rfl⟩ rfl hl.1 (Nat.le_of_ble_eq_true rfl) dX11_form_22 ⟨Nat.le_of_ble_eq_true rfl, Nat.le_of_ble_eq_true rfl⟩) hP hD hS hA (wr := [(a5, .inl (k 1, 9, .inr (.inl (tL [] 0))))]) [6, 0, 2, 3, 4, 5] [1] rfl rfl (by decide) (by decide) (fun H locs hB J hS => ?_)
      obtain ⟨hP1, hD1⟩ := hB
      obtain ⟨hP, hD⟩ := J _ hP1 hD1
      have hP : va_P D cl0 [(a5, .inl (k 1, 9, .inr (.inl (tL [] 0)))), (a0, .inr (8, [.int 2, .int 0, .int 1, .int 0, .int 0, .int 0, .ref a1, .ref a2, .int 0, .int 1, .ref a3, .ref a4, .ref a5, .ref a6, .ref a7, .ref a8, .ref a9, .int 0, .int 0, .int 0, .ref a10, .ref a11, .ref a12, .ref a13, .int 1, .int 1, .ref a14, .ref a15, .ref a16, .ref a17, .int 0, .int 0, .ref a18, .ref a19, .ref a20, .ref a21])), (a4, .inl (k 1, 9, .inr (.inl (tL [1, 0, 0, 0, 1, 0, 0, 0, 0] 0)))), (a10, .inl (k 1, 900, .inr (.inl (tL [1, 0, 0, 0, 1, 0, 0, 0, 0] 0)))), (a11, .inl (k 0, 100, .inl (tI [(-3)] 0))), (a12, .inl (k 0, 100, .inl (tI [(-3)] 0))), (a13, .inl (k 0, 100, .inl (tI [0] 0)))] H := hP
      have hD : va_D A [(a5, .inl (k 1, 9, .inr (.inl (tL [] 0)))), (a0, .inr (8, [.int 2, .int 0, .int 1, .int 0, .int 0, .int 0, .ref a1, .ref a2, .int 0, .int 1, .ref a3, .ref a4, .ref a5, .ref a6, .ref a7, .ref a8, .ref a9, .int 0, .int 0, .int 0, .ref a10, .ref a11, .ref a12, .ref a13, .int 1, .int 1, .ref a14, .ref a15, .ref a16, .ref a17, .int 0, .int 0, .ref a18, .ref a19, .ref a20, .ref a21])), (a4, .inl (k 1, 9, .inr (.inl (tL [1, 0, 0, 0, 1, 0, 0, 0, 0] 0)))), (a10, .inl (k 1, 900, .inr (.inl (tL [1, 0, 0, 0, 1, 0, 0, 0, 0] 0)))), (a11, .inl (k 0, 100, .inl (tI [(-3)] 0))), (a12, .inl (k 0, 100, .inl (tI [(-3)] 0))), (a13, .inl (k 0, 100, .inl (tI [0] 0)))] := hD
      refine lv_aload_n hx hb dX11_form_25 rfl (lv_at hl 0 rfl) ?_
      refine va_get (D := D) (ci := 8) (v := .int 1) (C := RX11) (T := TX11) (N := 36) hx hb hU iX11 hown hK.1 hP 1 rfl rfl 25 (by decide) (hU _ w810) (fun _ h9 => h9) rfl dX11_form_26 ?_
      refine lv_if_ne (tgt := 38) hx hb dX11_form_29 (by decide) (fun _ => ?_) (fun cc => absurd cc (by decide +kernel))
      refine lv_aload_n hx hb dX11_form_38 rfl (lv_at hl 0 rfl) ?_
      refine cI (rV (q0 := 1) (ci := 8) (As := []) (rest := []) (wc := [(a0, .inr (8, [.int 2, .int 0, .int 1, .int 0, .int 0, .int 0, .ref a1, .ref a2, .int 0, .int 1, .ref a3, .ref a4, .ref a5, .ref a6, .ref a7, .ref a8, .ref a9, .int 0, .int 0, .int 0, .ref a10, .ref a11, .ref a12, .ref a13, .int 1, .int 1, .ref a14, .ref a15, .ref a16, .ref a17, .int 0, .int 0, .ref a18, .ref a19, .ref a20, .ref a21])), (a4, .inl (k 1, 9, .inr (.inl (tL [1, 0, 0, 0, 1, 0, 0, 0, 0] 0)))), (a10, .inl (k 1, 900, .inr (.inl (tL [1, 0, 0, 0, 1, 0, 0, 0, 0] 0)))), (a5, .inl (k 1, 9, .inr (.inl (tL [] 0))))]) hx hb hml hown hU hK hP hD rfl rfl [1, 2, 3, 0] rfl (by decide) (cX11_findForm_1 l D k _ a0 a4 a10 a5 a1 a2 a3 a6 a7 a8 a9 a11 a12 a13 a14 a15 a16 a17 a18 a19 a20 a21) w1091 w1088 w1090 w52 w72 hdX11_findForm ⟨rfl, rfl⟩ ⟨Nat.le_of_ble_eq_true rfl, Nat.le_of_ble_eq_true rfl⟩ rfl hl.1 (Nat.le_of_ble_eq_true rfl) dX11_form_39 ⟨Nat.le_of_ble_eq_true rfl, Nat.le_of_ble_eq_true rfl⟩) hP hD hS hA (wr := [(a11, .inl (k 0, 100, .inl (tI [(-3)] 0))), (a12, .inl (k 0, 100, .inl (tI [(-3)] 0))), (a13, .inl (k 0, 100, .inl (tI [0] 0)))]) [1, 2, 3, 0] [4, 5, 6] rfl rfl (by decide) (by decide) (fun r18 H locs hB J hS => ?_)
      obtain ⟨rfl, hP1, hD1⟩ := hB
      obtain ⟨hP, hD⟩ := J _ hP1 hD1
      have hP : va_P D cl0 [(a11, .inl (k 0, 100, .inl (tI [(-3)] 0))), (a12, .inl (k 0, 100, .inl (tI [(-3)] 0))), (a13, .inl (k 0, 100, .inl (tI [0] 0))), (a4, .inl (k 1, 9, .inr (.inl (tL [1, 0, 0, 0, 1, 0, 0, 0, 0] 0)))), (a0, .inr (8, [.int 2, .int 0, .int 1, .int 0, .int 0, .int 0, .ref a1, .ref a2, .int 0, .int 1, .ref a3, .ref a4, .ref a5, .ref a6, .ref a7, .ref a8, .ref a9, .int 0, .int 0, .int 0, .ref a10, .ref a11, .ref a12, .ref a13, .int 1, .int 1, .ref a14, .ref a15, .ref a16, .ref a17, .int 0, .int 0, .ref a18, .ref a19, .ref a20, .ref a21])), (a10, .inl (k 1, 900, .inr (.inl (tL [1, 0, 0, 0, 1, 0, 0, 0, 0] 0)))), (a5, .inl (k 1, 9, .inr (.inl (tL [1, 0, 0, 0, 1, 0, 0, 0, 0] 0))))] H := hP
      have hD : va_D A [(a11, .inl (k 0, 100, .inl (tI [(-3)] 0))), (a12, .inl (k 0, 100, .inl (tI [(-3)] 0))), (a13, .inl (k 0, 100, .inl (tI [0] 0))), (a4, .inl (k 1, 9, .inr (.inl (tL [1, 0, 0, 0, 1, 0, 0, 0, 0] 0)))), (a0, .inr (8, [.int 2, .int 0, .int 1, .int 0, .int 0, .int 0, .ref a1, .ref a2, .int 0, .int 1, .ref a3, .ref a4, .ref a5, .ref a6, .ref a7, .ref a8, .ref a9, .int 0, .int 0, .int 0, .ref a10, .ref a11, .ref a12, .ref a13, .int 1, .int 1, .ref a14, .ref a15, .ref a16, .ref a17, .int 0, .int 0, .ref a18, .ref a19, .ref a20, .ref a21])), (a10, .inl (k 1, 900, .inr (.inl (tL [1, 0, 0, 0, 1, 0, 0, 0, 0] 0)))), (a5, .inl (k 1, 9, .inr (.inl (tL [1, 0, 0, 0, 1, 0, 0, 0, 0] 0))))] := hD
      refine lv_if_ne (tgt := 51) hx hb dX11_form_42 (by decide) (fun _ => ?_) (fun cc => absurd cc (by decide +kernel))
      refine lv_lconst (v := 0) hx hb dX11_form_51 (by decide) ?_
      refine lv_lstore_n (lv' := [(3, .long 0), (0, .ref a0), (1, .int x0), (2, .int x1)]) hx hb dX11_form_52 rfl hl (by decide) rfl (fun ls hl => ?_)
      refine lv_iconst (v := 0) hx hb dX11_form_53 (by decide) ?_
      refine lv_istore (lv' := [(5, .int 0), (3, .long 0), (0, .ref a0), (1, .int x0), (2, .int x1)]) hx hb dX11_form_54 hl (by decide) rfl (fun ls hl => ?_)
      refine lv_iload hx hb dX11_form_56 (lv_at hl 0 rfl) ?_
      refine lv_bipush (v := 9) hx hb dX11_form_58 (by decide) ?_
      refine lv_icmp_ge (tgt := 81) hx hb dX11_form_60 (by decide) (fun cc => absurd cc (by decide +kernel)) (fun _ => ?_)
      refine lv_lload_n hx hb dX11_form_63 rfl (lv_at hl 1 rfl) ?_
      refine lv_aload_n hx hb dX11_form_64 rfl (lv_at hl 2 rfl) ?_
      refine va_get (D := D) (ci := 8) (v := .ref a4) (C := RX11) (T := TX11) (N := 36) hx hb hU iX11 hown hK.1 hP 4 rfl rfl 11 (by decide) (hU _ w796) (fun _ h9 => h9) rfl dX11_form_65 ?_
      refine lv_iload hx hb dX11_form_68 (lv_at hl 0 rfl) ?_
      refine ld_l (j := 0) (v := 1) hx hb hK hP 3 rfl (by decide +kernel) rfl dX11_form_70 ?_
      refine cL (rS (As := [.long 0, .long 1]) (rest := []) (wc := []) hx hb hml hown hU hK hP hD [] rfl (by decide) (cX11_common_1 l D k _ ) w1094 w1092 w1093 w72 hdX11_common ⟨rfl, rfl⟩ ⟨Nat.le_of_ble_eq_true rfl, Nat.le_of_ble_eq_true rfl⟩ rfl hl.1 (Nat.le_of_ble_eq_true rfl) dX11_form_71 ⟨Nat.le_of_ble_eq_true rfl, Nat.le_of_ble_eq_true rfl⟩) hP hD hS hA (wr := [(a11, .inl (k 0, 100, .inl (tI [(-3)] 0))), (a12, .inl (k 0, 100, .inl (tI [(-3)] 0))), (a13, .inl (k 0, 100, .inl (tI [0] 0))), (a4, .inl (k 1, 9, .inr (.inl (tL [1, 0, 0, 0, 1, 0, 0, 0, 0] 0)))), (a0, .inr (8, [.int 2, .int 0, .int 1, .int 0, .int 0, .int 0, .ref a1, .ref a2, .int 0, .int 1, .ref a3, .ref a4, .ref a5, .ref a6, .ref a7, .ref a8, .ref a9, .int 0, .int 0, .int 0, .ref a10, .ref a11, .ref a12, .ref a13, .int 1, .int 1, .ref a14, .ref a15, .ref a16, .ref a17, .int 0, .int 0, .ref a18, .ref a19, .ref a20, .ref a21])), (a10, .inl (k 1, 900, .inr (.inl (tL [1, 0, 0, 0, 1, 0, 0, 0, 0] 0)))), (a5, .inl (k 1, 9, .inr (.inl (tL [1, 0, 0, 0, 1, 0, 0, 0, 0] 0))))]) [] [0, 1, 2, 3, 4, 5, 6] rfl rfl (by decide) (by decide) (fun r19 H locs hB J hS => ?_)
      obtain ⟨rfl, hP1, hD1⟩ := hB
      obtain ⟨hP, hD⟩ := J _ hP1 hD1
      have hP : va_P D cl0 [(a11, .inl (k 0, 100, .inl (tI [(-3)] 0))), (a12, .inl (k 0, 100, .inl (tI [(-3)] 0))), (a13, .inl (k 0, 100, .inl (tI [0] 0))), (a4, .inl (k 1, 9, .inr (.inl (tL [1, 0, 0, 0, 1, 0, 0, 0, 0] 0)))), (a0, .inr (8, [.int 2, .int 0, .int 1, .int 0, .int 0, .int 0, .ref a1, .ref a2, .int 0, .int 1, .ref a3, .ref a4, .ref a5, .ref a6, .ref a7, .ref a8, .ref a9, .int 0, .int 0, .int 0, .ref a10, .ref a11, .ref a12, .ref a13, .int 1, .int 1, .ref a14, .ref a15, .ref a16, .ref a17, .int 0, .int 0, .ref a18, .ref a19, .ref a20, .ref a21])), (a10, .inl (k 1, 900, .inr (.inl (tL [1, 0, 0, 0, 1, 0, 0, 0, 0] 0)))), (a5, .inl (k 1, 9, .inr (.inl (tL [1, 0, 0, 0, 1, 0, 0, 0, 0] 0))))] H := hP
      have hD : va_D A [(a11, .inl (k 0, 100, .inl (tI [(-3)] 0))), (a12, .inl (k 0, 100, .inl (tI [(-3)] 0))), (a13, .inl (k 0, 100, .inl (tI [0] 0))), (a4, .inl (k 1, 9, .inr (.inl (tL [1, 0, 0, 0, 1, 0, 0, 0, 0] 0)))), (a0, .inr (8, [.int 2, .int 0, .int 1, .int 0, .int 0, .int 0, .ref a1, .ref a2, .int 0, .int 1, .ref a3, .ref a4, .ref a5, .ref a6, .ref a7, .ref a8, .ref a9, .int 0, .int 0, .int 0, .ref a10, .ref a11, .ref a12, .ref a13, .int 1, .int 1, .ref a14, .ref a15, .ref a16, .ref a17, .int 0, .int 0, .ref a18, .ref a19, .ref a20, .ref a21])), (a10, .inl (k 1, 900, .inr (.inl (tL [1, 0, 0, 0, 1, 0, 0, 0, 0] 0)))), (a5, .inl (k 1, 9, .inr (.inl (tL [1, 0, 0, 0, 1, 0, 0, 0, 0] 0))))] := hD
      refine lv_lstore_n (lv' := [(3, .long 1), (5, .int 0), (0, .ref a0), (1, .int x0), (2, .int x1)]) hx hb dX11_form_74 rfl hl (by decide) rfl (fun ls hl => ?_)
      refine lv_iinc (v := 1) (lv' := [(5, .int 1), (3, .long 1), (0, .ref a0), (1, .int x0), (2, .int x1)]) hx hb dX11_form_75 hl (k := 1) rfl (by decide) (by decide) rfl (fun ls hl => ?_)
      refine lv_goto (tgt := 56) hx hb dX11_form_78 (by decide) ?_
      refine lv_iload hx hb dX11_form_56 (lv_at hl 0 rfl) ?_
      refine lv_bipush (v := 9) hx hb dX11_form_58 (by decide) ?_
      refine lv_icmp_ge (tgt := 81) hx hb dX11_form_60 (by decide) (fun cc => absurd cc (by decide +kernel)) (fun _ => ?_)
      refine lv_lload_n hx hb dX11_form_63 rfl (lv_at hl 1 rfl) ?_
      refine lv_aload_n hx hb dX11_form_64 rfl (lv_at hl 2 rfl) ?_
      refine va_get (D := D) (ci := 8) (v := .ref a4) (C := RX11) (T := TX11) (N := 36) hx hb hU iX11 hown hK.1 hP 4 rfl rfl 11 (by decide) (hU _ w796) (fun _ h9 => h9) rfl dX11_form_65 ?_
      refine lv_iload hx hb dX11_form_68 (lv_at hl 0 rfl) ?_
      refine ld_l (j := 1) (v := 0) hx hb hK hP 3 rfl (by decide +kernel) rfl dX11_form_70 ?_
      refine cL (rS (As := [.long 1, .long 0]) (rest := []) (wc := []) hx hb hml hown hU hK hP hD [] rfl (by decide) (cX11_common_2 l D k _ ) w1094 w1092 w1093 w72 hdX11_common ⟨rfl, rfl⟩ ⟨Nat.le_of_ble_eq_true rfl, Nat.le_of_ble_eq_true rfl⟩ rfl hl.1 (Nat.le_of_ble_eq_true rfl) dX11_form_71 ⟨Nat.le_of_ble_eq_true rfl, Nat.le_of_ble_eq_true rfl⟩) hP hD hS hA (wr := [(a11, .inl (k 0, 100, .inl (tI [(-3)] 0))), (a12, .inl (k 0, 100, .inl (tI [(-3)] 0))), (a13, .inl (k 0, 100, .inl (tI [0] 0))), (a4, .inl (k 1, 9, .inr (.inl (tL [1, 0, 0, 0, 1, 0, 0, 0, 0] 0)))), (a0, .inr (8, [.int 2, .int 0, .int 1, .int 0, .int 0, .int 0, .ref a1, .ref a2, .int 0, .int 1, .ref a3, .ref a4, .ref a5, .ref a6, .ref a7, .ref a8, .ref a9, .int 0, .int 0, .int 0, .ref a10, .ref a11, .ref a12, .ref a13, .int 1, .int 1, .ref a14, .ref a15, .ref a16, .ref a17, .int 0, .int 0, .ref a18, .ref a19, .ref a20, .ref a21])), (a10, .inl (k 1, 900, .inr (.inl (tL [1, 0, 0, 0, 1, 0, 0, 0, 0] 0)))), (a5, .inl (k 1, 9, .inr (.inl (tL [1, 0, 0, 0, 1, 0, 0, 0, 0] 0))))]) [] [0, 1, 2, 3, 4, 5, 6] rfl rfl (by decide) (by decide) (fun r20 H locs hB J hS => ?_)
      obtain ⟨rfl, hP1, hD1⟩ := hB
      obtain ⟨hP, hD⟩ := J _ hP1 hD1
      have hP : va_P D cl0 [(a11, .inl (k 0, 100, .inl (tI [(-3)] 0))), (a12, .inl (k 0, 100, .inl (tI [(-3)] 0))), (a13, .inl (k 0, 100, .inl (tI [0] 0))), (a4, .inl (k 1, 9, .inr (.inl (tL [1, 0, 0, 0, 1, 0, 0, 0, 0] 0)))), (a0, .inr (8, [.int 2, .int 0, .int 1, .int 0, .int 0, .int 0, .ref a1, .ref a2, .int 0, .int 1, .ref a3, .ref a4, .ref a5, .ref a6, .ref a7, .ref a8, .ref a9, .int 0, .int 0, .int 0, .ref a10, .ref a11, .ref a12, .ref a13, .int 1, .int 1, .ref a14, .ref a15, .ref a16, .ref a17, .int 0, .int 0, .ref a18, .ref a19, .ref a20, .ref a21])), (a10, .inl (k 1, 900, .inr (.inl (tL [1, 0, 0, 0, 1, 0, 0, 0, 0] 0)))), (a5, .inl (k 1, 9, .inr (.inl (tL [1, 0, 0, 0, 1, 0, 0, 0, 0] 0))))] H := hP
      have hD : va_D A [(a11, .inl (k 0, 100, .inl (tI [(-3)] 0))), (a12, .inl (k 0, 100, .inl (tI [(-3)] 0))), (a13, .inl (k 0, 100, .inl (tI [0] 0))), (a4, .inl (k 1, 9, .inr (.inl (tL [1, 0, 0, 0, 1, 0, 0, 0, 0] 0)))), (a0, .inr (8, [.int 2, .int 0, .int 1, .int 0, .int 0, .int 0, .ref a1, .ref a2, .int 0, .int 1, .ref a3, .ref a4, .ref a5, .ref a6, .ref a7, .ref a8, .ref a9, .int 0, .int 0, .int 0, .ref a10, .ref a11, .ref a12, .ref a13, .int 1, .int 1, .ref a14, .ref a15, .ref a16, .ref a17, .int 0, .int 0, .ref a18, .ref a19, .ref a20, .ref a21])), (a10, .inl (k 1, 900, .inr (.inl (tL [1, 0, 0, 0, 1, 0, 0, 0, 0] 0)))), (a5, .inl (k 1, 9, .inr (.inl (tL [1, 0, 0, 0, 1, 0, 0, 0, 0] 0))))] := hD
      refine lv_lstore_n (lv' := [(3, .long 1), (5, .int 1), (0, .ref a0), (1, .int x0), (2, .int x1)]) hx hb dX11_form_74 rfl hl (by decide) rfl (fun ls hl => ?_)
      refine lv_iinc (v := 2) (lv' := [(5, .int 2), (3, .long 1), (0, .ref a0), (1, .int x0), (2, .int x1)]) hx hb dX11_form_75 hl (k := 1) rfl (by decide) (by decide) rfl (fun ls hl => ?_)
      refine lv_goto (tgt := 56) hx hb dX11_form_78 (by decide) ?_
      refine lv_iload hx hb dX11_form_56 (lv_at hl 0 rfl) ?_
      refine lv_bipush (v := 9) hx hb dX11_form_58 (by decide) ?_
      refine lv_icmp_ge (tgt := 81) hx hb dX11_form_60 (by decide) (fun cc => absurd cc (by decide +kernel)) (fun _ => ?_)
      refine lv_lload_n hx hb dX11_form_63 rfl (lv_at hl 1 rfl) ?_
      refine lv_aload_n hx hb dX11_form_64 rfl (lv_at hl 2 rfl) ?_
      refine va_get (D := D) (ci := 8) (v := .ref a4) (C := RX11) (T := TX11) (N := 36) hx hb hU iX11 hown hK.1 hP 4 rfl rfl 11 (by decide) (hU _ w796) (fun _ h9 => h9) rfl dX11_form_65 ?_
      refine lv_iload hx hb dX11_form_68 (lv_at hl 0 rfl) ?_
      refine ld_l (j := 2) (v := 0) hx hb hK hP 3 rfl (by decide +kernel) rfl dX11_form_70 ?_
      refine cL (rS (As := [.long 1, .long 0]) (rest := []) (wc := []) hx hb hml hown hU hK hP hD [] rfl (by decide) (cX11_common_2 l D k _ ) w1094 w1092 w1093 w72 hdX11_common ⟨rfl, rfl⟩ ⟨Nat.le_of_ble_eq_true rfl, Nat.le_of_ble_eq_true rfl⟩ rfl hl.1 (Nat.le_of_ble_eq_true rfl) dX11_form_71 ⟨Nat.le_of_ble_eq_true rfl, Nat.le_of_ble_eq_true rfl⟩) hP hD hS hA (wr := [(a11, .inl (k 0, 100, .inl (tI [(-3)] 0))), (a12, .inl (k 0, 100, .inl (tI [(-3)] 0))), (a13, .inl (k 0, 100, .inl (tI [0] 0))), (a4, .inl (k 1, 9, .inr (.inl (tL [1, 0, 0, 0, 1, 0, 0, 0, 0] 0)))), (a0, .inr (8, [.int 2, .int 0, .int 1, .int 0, .int 0, .int 0, .ref a1, .ref a2, .int 0, .int 1, .ref a3, .ref a4, .ref a5, .ref a6, .ref a7, .ref a8, .ref a9, .int 0, .int 0, .int 0, .ref a10, .ref a11, .ref a12, .ref a13, .int 1, .int 1, .ref a14, .ref a15, .ref a16, .ref a17, .int 0, .int 0, .ref a18, .ref a19, .ref a20, .ref a21])), (a10, .inl (k 1, 900, .inr (.inl (tL [1, 0, 0, 0, 1, 0, 0, 0, 0] 0)))), (a5, .inl (k 1, 9, .inr (.inl (tL [1, 0, 0, 0, 1, 0, 0, 0, 0] 0))))]) [] [0, 1, 2, 3, 4, 5, 6] rfl rfl (by decide) (by decide) (fun r21 H locs hB J hS => ?_)
      obtain ⟨rfl, hP1, hD1⟩ := hB
      obtain ⟨hP, hD⟩ := J _ hP1 hD1
      have hP : va_P D cl0 [(a11, .inl (k 0, 100, .inl (tI [(-3)] 0))), (a12, .inl (k 0, 100, .inl (tI [(-3)] 0))), (a13, .inl (k 0, 100, .inl (tI [0] 0))), (a4, .inl (k 1, 9, .inr (.inl (tL [1, 0, 0, 0, 1, 0, 0, 0, 0] 0)))), (a0, .inr (8, [.int 2, .int 0, .int 1, .int 0, .int 0, .int 0, .ref a1, .ref a2, .int 0, .int 1, .ref a3, .ref a4, .ref a5, .ref a6, .ref a7, .ref a8, .ref a9, .int 0, .int 0, .int 0, .ref a10, .ref a11, .ref a12, .ref a13, .int 1, .int 1, .ref a14, .ref a15, .ref a16, .ref a17, .int 0, .int 0, .ref a18, .ref a19, .ref a20, .ref a21])), (a10, .inl (k 1, 900, .inr (.inl (tL [1, 0, 0, 0, 1, 0, 0, 0, 0] 0)))), (a5, .inl (k 1, 9, .inr (.inl (tL [1, 0, 0, 0, 1, 0, 0, 0, 0] 0))))] H := hP
      have hD : va_D A [(a11, .inl (k 0, 100, .inl (tI [(-3)] 0))), (a12, .inl (k 0, 100, .inl (tI [(-3)] 0))), (a13, .inl (k 0, 100, .inl (tI [0] 0))), (a4, .inl (k 1, 9, .inr (.inl (tL [1, 0, 0, 0, 1, 0, 0, 0, 0] 0)))), (a0, .inr (8, [.int 2, .int 0, .int 1, .int 0, .int 0, .int 0, .ref a1, .ref a2, .int 0, .int 1, .ref a3, .ref a4, .ref a5, .ref a6, .ref a7, .ref a8, .ref a9, .int 0, .int 0, .int 0, .ref a10, .ref a11, .ref a12, .ref a13, .int 1, .int 1, .ref a14, .ref a15, .ref a16, .ref a17, .int 0, .int 0, .ref a18, .ref a19, .ref a20, .ref a21])), (a10, .inl (k 1, 900, .inr (.inl (tL [1, 0, 0, 0, 1, 0, 0, 0, 0] 0)))), (a5, .inl (k 1, 9, .inr (.inl (tL [1, 0, 0, 0, 1, 0, 0, 0, 0] 0))))] := hD
      refine lv_lstore_n (lv' := [(3, .long 1), (5, .int 2), (0, .ref a0), (1, .int x0), (2, .int x1)]) hx hb dX11_form_74 rfl hl (by decide) rfl (fun ls hl => ?_)
      refine lv_iinc (v := 3) (lv' := [(5, .int 3), (3, .long 1), (0, .ref a0), (1, .int x0), (2, .int x1)]) hx hb dX11_form_75 hl (k := 1) rfl (by decide) (by decide) rfl (fun ls hl => ?_)
      refine lv_goto (tgt := 56) hx hb dX11_form_78 (by decide) ?_
      refine lv_iload hx hb dX11_form_56 (lv_at hl 0 rfl) ?_
      refine lv_bipush (v := 9) hx hb dX11_form_58 (by decide) ?_
      refine lv_icmp_ge (tgt := 81) hx hb dX11_form_60 (by decide) (fun cc => absurd cc (by decide +kernel)) (fun _ => ?_)
      refine lv_lload_n hx hb dX11_form_63 rfl (lv_at hl 1 rfl) ?_
      refine lv_aload_n hx hb dX11_form_64 rfl (lv_at hl 2 rfl) ?_
      refine va_get (D := D) (ci := 8) (v := .ref a4) (C := RX11) (T := TX11) (N := 36) hx hb hU iX11 hown hK.1 hP 4 rfl rfl 11 (by decide) (hU _ w796) (fun _ h9 => h9) rfl dX11_form_65 ?_
      refine lv_iload hx hb dX11_form_68 (lv_at hl 0 rfl) ?_
      refine ld_l (j := 3) (v := 0) hx hb hK hP 3 rfl (by decide +kernel) rfl dX11_form_70 ?_
      refine cL (rS (As := [.long 1, .long 0]) (rest := []) (wc := []) hx hb hml hown hU hK hP hD [] rfl (by decide) (cX11_common_2 l D k _ ) w1094 w1092 w1093 w72 hdX11_common ⟨rfl, rfl⟩ ⟨Nat.le_of_ble_eq_true rfl, Nat.le_of_ble_eq_true rfl⟩ rfl hl.1 (Nat.le_of_ble_eq_true rfl) dX11_form_71 ⟨Nat.le_of_ble_eq_true rfl, Nat.le_of_ble_eq_true rfl⟩) hP hD hS hA (wr := [(a11, .inl (k 0, 100, .inl (tI [(-3)] 0))), (a12, .inl (k 0, 100, .inl (tI [(-3)] 0))), (a13, .inl (k 0, 100, .inl (tI [0] 0))), (a4, .inl (k 1, 9, .inr (.inl (tL [1, 0, 0, 0, 1, 0, 0, 0, 0] 0)))), (a0, .inr (8, [.int 2, .int 0, .int 1, .int 0, .int 0, .int 0, .ref a1, .ref a2, .int 0, .int 1, .ref a3, .ref a4, .ref a5, .ref a6, .ref a7, .ref a8, .ref a9, .int 0, .int 0, .int 0, .ref a10, .ref a11, .ref a12, .ref a13, .int 1, .int 1, .ref a14, .ref a15, .ref a16, .ref a17, .int 0, .int 0, .ref a18, .ref a19, .ref a20, .ref a21])), (a10, .inl (k 1, 900, .inr (.inl (tL [1, 0, 0, 0, 1, 0, 0, 0, 0] 0)))), (a5, .inl (k 1, 9, .inr (.inl (tL [1, 0, 0, 0, 1, 0, 0, 0, 0] 0))))]) [] [0, 1, 2, 3, 4, 5, 6] rfl rfl (by decide) (by decide) (fun r22 H locs hB J hS => ?_)
      obtain ⟨rfl, hP1, hD1⟩ := hB
      obtain ⟨hP, hD⟩ := J _ hP1 hD1
      have hP : va_P D cl0 [(a11, .inl (k 0, 100, .inl (tI [(-3)] 0))), (a12, .inl (k 0, 100, .inl (tI [(-3)] 0))), (a13, .inl (k 0, 100, .inl (tI [0] 0))), (a4, .inl (k 1, 9, .inr (.inl (tL [1, 0, 0, 0, 1, 0, 0, 0, 0] 0)))), (a0, .inr (8, [.int 2, .int 0, .int 1, .int 0, .int 0, .int 0, .ref a1, .ref a2, .int 0, .int 1, .ref a3, .ref a4, .ref a5, .ref a6, .ref a7, .ref a8, .ref a9, .int 0, .int 0, .int 0, .ref a10, .ref a11, .ref a12, .ref a13, .int 1, .int 1, .ref a14, .ref a15, .ref a16, .ref a17, .int 0, .int 0, .ref a18, .ref a19, .ref a20, .ref a21])), (a10, .inl (k 1, 900, .inr (.inl (tL [1, 0, 0, 0, 1, 0, 0, 0, 0] 0)))), (a5, .inl (k 1, 9, .inr (.inl (tL [1, 0, 0, 0, 1, 0, 0, 0, 0] 0))))] H := hP
      have hD : va_D A [(a11, .inl (k 0, 100, .inl (tI [(-3)] 0))), (a12, .inl (k 0, 100, .inl (tI [(-3)] 0))), (a13, .inl (k 0, 100, .inl (tI [0] 0))), (a4, .inl (k 1, 9, .inr (.inl (tL [1, 0, 0, 0, 1, 0, 0, 0, 0] 0)))), (a0, .inr (8, [.int 2, .int 0, .int 1, .int 0, .int 0, .int 0, .ref a1, .ref a2, .int 0, .int 1, .ref a3, .ref a4, .ref a5, .ref a6, .ref a7, .ref a8, .ref a9, .int 0, .int 0, .int 0, .ref a10, .ref a11, .ref a12, .ref a13, .int 1, .int 1, .ref a14, .ref a15, .ref a16, .ref a17, .int 0, .int 0, .ref a18, .ref a19, .ref a20, .ref a21])), (a10, .inl (k 1, 900, .inr (.inl (tL [1, 0, 0, 0, 1, 0, 0, 0, 0] 0)))), (a5, .inl (k 1, 9, .inr (.inl (tL [1, 0, 0, 0, 1, 0, 0, 0, 0] 0))))] := hD
      refine lv_lstore_n (lv' := [(3, .long 1), (5, .int 3), (0, .ref a0), (1, .int x0), (2, .int x1)]) hx hb dX11_form_74 rfl hl (by decide) rfl (fun ls hl => ?_)
      refine lv_iinc (v := 4) (lv' := [(5, .int 4), (3, .long 1), (0, .ref a0), (1, .int x0), (2, .int x1)]) hx hb dX11_form_75 hl (k := 1) rfl (by decide) (by decide) rfl (fun ls hl => ?_)
      refine lv_goto (tgt := 56) hx hb dX11_form_78 (by decide) ?_
      refine lv_iload hx hb dX11_form_56 (lv_at hl 0 rfl) ?_
      refine lv_bipush (v := 9) hx hb dX11_form_58 (by decide) ?_
      refine lv_icmp_ge (tgt := 81) hx hb dX11_form_60 (by decide) (fun cc => absurd cc (by decide +kernel)) (fun _ => ?_)
      refine lv_lload_n hx hb dX11_form_63 rfl (lv_at hl 1 rfl) ?_
      refine lv_aload_n hx hb dX11_form_64 rfl (lv_at hl 2 rfl) ?_
      refine va_get (D := D) (ci := 8) (v := .ref a4) (C := RX11) (T := TX11) (N := 36) hx hb hU iX11 hown hK.1 hP 4 rfl rfl 11 (by decide) (hU _ w796) (fun _ h9 => h9) rfl dX11_form_65 ?_
      refine lv_iload hx hb dX11_form_68 (lv_at hl 0 rfl) ?_
      refine ld_l (j := 4) (v := 1) hx hb hK hP 3 rfl (by decide +kernel) rfl dX11_form_70 ?_
      refine cL (rS (As := [.long 1, .long 1]) (rest := []) (wc := []) hx hb hml hown hU hK hP hD [] rfl (by decide) (cX11_common_3 l D k _ ) w1094 w1092 w1093 w72 hdX11_common ⟨rfl, rfl⟩ ⟨Nat.le_of_ble_eq_true rfl, Nat.le_of_ble_eq_true rfl⟩ rfl hl.1 (Nat.le_of_ble_eq_true rfl) dX11_form_71 ⟨Nat.le_of_ble_eq_true rfl, Nat.le_of_ble_eq_true rfl⟩) hP hD hS hA (wr := [(a11, .inl (k 0, 100, .inl (tI [(-3)] 0))), (a12, .inl (k 0, 100, .inl (tI [(-3)] 0))), (a13, .inl (k 0, 100, .inl (tI [0] 0))), (a4, .inl (k 1, 9, .inr (.inl (tL [1, 0, 0, 0, 1, 0, 0, 0, 0] 0)))), (a0, .inr (8, [.int 2, .int 0, .int 1, .int 0, .int 0, .int 0, .ref a1, .ref a2, .int 0, .int 1, .ref a3, .ref a4, .ref a5, .ref a6, .ref a7, .ref a8, .ref a9, .int 0, .int 0, .int 0, .ref a10, .ref a11, .ref a12, .ref a13, .int 1, .int 1, .ref a14, .ref a15, .ref a16, .ref a17, .int 0, .int 0, .ref a18, .ref a19, .ref a20, .ref a21])), (a10, .inl (k 1, 900, .inr (.inl (tL [1, 0, 0, 0, 1, 0, 0, 0, 0] 0)))), (a5, .inl (k 1, 9, .inr (.inl (tL [1, 0, 0, 0, 1, 0, 0, 0, 0] 0))))]) [] [0, 1, 2, 3, 4, 5, 6] rfl rfl (by decide) (by decide) (fun r23 H locs hB J hS => ?_)
      obtain ⟨rfl, hP1, hD1⟩ := hB
      obtain ⟨hP, hD⟩ := J _ hP1 hD1
      have hP : va_P D cl0 [(a11, .inl (k 0, 100, .inl (tI [(-3)] 0))), (a12, .inl (k 0, 100, .inl (tI [(-3)] 0))), (a13, .inl (k 0, 100, .inl (tI [0] 0))), (a4, .inl (k 1, 9, .inr (.inl (tL [1, 0, 0, 0, 1, 0, 0, 0, 0] 0)))), (a0, .inr (8, [.int 2, .int 0, .int 1, .int 0, .int 0, .int 0, .ref a1, .ref a2, .int 0, .int 1, .ref a3, .ref a4, .ref a5, .ref a6, .ref a7, .ref a8, .ref a9, .int 0, .int 0, .int 0, .ref a10, .ref a11, .ref a12, .ref a13, .int 1, .int 1, .ref a14, .ref a15, .ref a16, .ref a17, .int 0, .int 0, .ref a18, .ref a19, .ref a20, .ref a21])), (a10, .inl (k 1, 900, .inr (.inl (tL [1, 0, 0, 0, 1, 0, 0, 0, 0] 0)))), (a5, .inl (k 1, 9, .inr (.inl (tL [1, 0, 0, 0, 1, 0, 0, 0, 0] 0))))] H := hP
      have hD : va_D A [(a11, .inl (k 0, 100, .inl (tI [(-3)] 0))), (a12, .inl (k 0, 100, .inl (tI [(-3)] 0))), (a13, .inl (k 0, 100, .inl (tI [0] 0))), (a4, .inl (k 1, 9, .inr (.inl (tL [1, 0, 0, 0, 1, 0, 0, 0, 0] 0)))), (a0, .inr (8, [.int 2, .int 0, .int 1, .int 0, .int 0, .int 0, .ref a1, .ref a2, .int 0, .int 1, .ref a3, .ref a4, .ref a5, .ref a6, .ref a7, .ref a8, .ref a9, .int 0, .int 0, .int 0, .ref a10, .ref a11, .ref a12, .ref a13, .int 1, .int 1, .ref a14, .ref a15, .ref a16, .ref a17, .int 0, .int 0, .ref a18, .ref a19, .ref a20, .ref a21])), (a10, .inl (k 1, 900, .inr (.inl (tL [1, 0, 0, 0, 1, 0, 0, 0, 0] 0)))), (a5, .inl (k 1, 9, .inr (.inl (tL [1, 0, 0, 0, 1, 0, 0, 0, 0] 0))))] := hD
      refine lv_lstore_n (lv' := [(3, .long 1), (5, .int 4), (0, .ref a0), (1, .int x0), (2, .int x1)]) hx hb dX11_form_74 rfl hl (by decide) rfl (fun ls hl => ?_)
      refine lv_iinc (v := 5) (lv' := [(5, .int 5), (3, .long 1), (0, .ref a0), (1, .int x0), (2, .int x1)]) hx hb dX11_form_75 hl (k := 1) rfl (by decide) (by decide) rfl (fun ls hl => ?_)
      refine lv_goto (tgt := 56) hx hb dX11_form_78 (by decide) ?_
      refine lv_iload hx hb dX11_form_56 (lv_at hl 0 rfl) ?_
      refine lv_bipush (v := 9) hx hb dX11_form_58 (by decide) ?_
      refine lv_icmp_ge (tgt := 81) hx hb dX11_form_60 (by decide) (fun cc => absurd cc (by decide +kernel)) (fun _ => ?_)
      refine lv_lload_n hx hb dX11_form_63 rfl (lv_at hl 1 rfl) ?_
      refine lv_aload_n hx hb dX11_form_64 rfl (lv_at hl 2 rfl) ?_
      refine va_get (D := D) (ci := 8) (v := .ref a4) (C := RX11) (T := TX11) (N := 36) hx hb hU iX11 hown hK.1 hP 4 rfl rfl 11 (by decide) (hU _ w796) (fun _ h9 => h9) rfl dX11_form_65 ?_
      refine lv_iload hx hb dX11_form_68 (lv_at hl 0 rfl) ?_
      refine ld_l (j := 5) (v := 0) hx hb hK hP 3 rfl (by decide +kernel) rfl dX11_form_70 ?_
      refine cL (rS (As := [.long 1, .long 0]) (rest := []) (wc := []) hx hb hml hown hU hK hP hD [] rfl (by decide) (cX11_common_2 l D k _ ) w1094 w1092 w1093 w72 hdX11_common ⟨rfl, rfl⟩ ⟨Nat.le_of_ble_eq_true rfl, Nat.le_of_ble_eq_true rfl⟩ rfl hl.1 (Nat.le_of_ble_eq_true rfl) dX11_form_71 ⟨Nat.le_of_ble_eq_true rfl, Nat.le_of_ble_eq_true rfl⟩) hP hD hS hA (wr := [(a11, .inl (k 0, 100, .inl (tI [(-3)] 0))), (a12, .inl (k 0, 100, .inl (tI [(-3)] 0))), (a13, .inl (k 0, 100, .inl (tI [0] 0))), (a4, .inl (k 1, 9, .inr (.inl (tL [1, 0, 0, 0, 1, 0, 0, 0, 0] 0)))), (a0, .inr (8, [.int 2, .int 0, .int 1, .int 0, .int 0, .int 0, .ref a1, .ref a2, .int 0, .int 1, .ref a3, .ref a4, .ref a5, .ref a6, .ref a7, .ref a8, .ref a9, .int 0, .int 0, .int 0, .ref a10, .ref a11, .ref a12, .ref a13, .int 1, .int 1, .ref a14, .ref a15, .ref a16, .ref a17, .int 0, .int 0, .ref a18, .ref a19, .ref a20, .ref a21])), (a10, .inl (k 1, 900, .inr (.inl (tL [1, 0, 0, 0, 1, 0, 0, 0, 0] 0)))), (a5, .inl (k 1, 9, .inr (.inl (tL [1, 0, 0, 0, 1, 0, 0, 0, 0] 0))))]) [] [0, 1, 2, 3, 4, 5, 6] rfl rfl (by decide) (by decide) (fun r24 H locs hB J hS => ?_)
      obtain ⟨rfl, hP1, hD1⟩ := hB
      obtain ⟨hP, hD⟩ := J _ hP1 hD1
      have hP : va_P D cl0 [(a11, .inl (k 0, 100, .inl (tI [(-3)] 0))), (a12, .inl (k 0, 100, .inl (tI [(-3)] 0))), (a13, .inl (k 0, 100, .inl (tI [0] 0))), (a4, .inl (k 1, 9, .inr (.inl (tL [1, 0, 0, 0, 1, 0, 0, 0, 0] 0)))), (a0, .inr (8, [.int 2, .int 0, .int 1, .int 0, .int 0, .int 0, .ref a1, .ref a2, .int 0, .int 1, .ref a3, .ref a4, .ref a5, .ref a6, .ref a7, .ref a8, .ref a9, .int 0, .int 0, .int 0, .ref a10, .ref a11, .ref a12, .ref a13, .int 1, .int 1, .ref a14, .ref a15, .ref a16, .ref a17, .int 0, .int 0, .ref a18, .ref a19, .ref a20, .ref a21])), (a10, .inl (k 1, 900, .inr (.inl (tL [1, 0, 0, 0, 1, 0, 0, 0, 0] 0)))), (a5, .inl (k 1, 9, .inr (.inl (tL [1, 0, 0, 0, 1, 0, 0, 0, 0] 0))))] H := hP
      have hD : va_D A [(a11, .inl (k 0, 100, .inl (tI [(-3)] 0))), (a12, .inl (k 0, 100, .inl (tI [(-3)] 0))), (a13, .inl (k 0, 100, .inl (tI [0] 0))), (a4, .inl (k 1, 9, .inr (.inl (tL [1, 0, 0, 0, 1, 0, 0, 0, 0] 0)))), (a0, .inr (8, [.int 2, .int 0, .int 1, .int 0, .int 0, .int 0, .ref a1, .ref a2, .int 0, .int 1, .ref a3, .ref a4, .ref a5, .ref a6, .ref a7, .ref a8, .ref a9, .int 0, .int 0, .int 0, .ref a10, .ref a11, .ref a12, .ref a13, .int 1, .int 1, .ref a14, .ref a15, .ref a16, .ref a17, .int 0, .int 0, .ref a18, .ref a19, .ref a20, .ref a21])), (a10, .inl (k 1, 900, .inr (.inl (tL [1, 0, 0, 0, 1, 0, 0, 0, 0] 0)))), (a5, .inl (k 1, 9, .inr (.inl (tL [1, 0, 0, 0, 1, 0, 0, 0, 0] 0))))] := hD
      refine lv_lstore_n (lv' := [(3, .long 1), (5, .int 5), (0, .ref a0), (1, .int x0), (2, .int x1)]) hx hb dX11_form_74 rfl hl (by decide) rfl (fun ls hl => ?_)
      refine lv_iinc (v := 6) (lv' := [(5, .int 6), (3, .long 1), (0, .ref a0), (1, .int x0), (2, .int x1)]) hx hb dX11_form_75 hl (k := 1) rfl (by decide) (by decide) rfl (fun ls hl => ?_)
      refine lv_goto (tgt := 56) hx hb dX11_form_78 (by decide) ?_
      refine lv_iload hx hb dX11_form_56 (lv_at hl 0 rfl) ?_
      refine lv_bipush (v := 9) hx hb dX11_form_58 (by decide) ?_
      refine lv_icmp_ge (tgt := 81) hx hb dX11_form_60 (by decide) (fun cc => absurd cc (by decide +kernel)) (fun _ => ?_)
      refine lv_lload_n hx hb dX11_form_63 rfl (lv_at hl 1 rfl) ?_
      refine lv_aload_n hx hb dX11_form_64 rfl (lv_at hl 2 rfl) ?_
      refine va_get (D := D) (ci := 8) (v := .ref a4) (C := RX11) (T := TX11) (N := 36) hx hb hU iX11 hown hK.1 hP 4 rfl rfl 11 (by decide) (hU _ w796) (fun _ h9 => h9) rfl dX11_form_65 ?_
      refine lv_iload hx hb dX11_form_68 (lv_at hl 0 rfl) ?_
      refine ld_l (j := 6) (v := 0) hx hb hK hP 3 rfl (by decide +kernel) rfl dX11_form_70 ?_
      refine cL (rS (As := [.long 1, .long 0]) (rest := []) (wc := []) hx hb hml hown hU hK hP hD [] rfl (by decide) (cX11_common_2 l D k _ ) w1094 w1092 w1093 w72 hdX11_common ⟨rfl, rfl⟩ ⟨Nat.le_of_ble_eq_true rfl, Nat.le_of_ble_eq_true rfl⟩ rfl hl.1 (Nat.le_of_ble_eq_true rfl) dX11_form_71 ⟨Nat.le_of_ble_eq_true rfl, Nat.le_of_ble_eq_true rfl⟩) hP hD hS hA (wr := [(a11, .inl (k 0, 100, .inl (tI [(-3)] 0))), (a12, .inl (k 0, 100, .inl (tI [(-3)] 0))), (a13, .inl (k 0, 100, .inl (tI [0] 0))), (a4, .inl (k 1, 9, .inr (.inl (tL [1, 0, 0, 0, 1, 0, 0, 0, 0] 0)))), (a0, .inr (8, [.int 2, .int 0, .int 1, .int 0, .int 0, .int 0, .ref a1, .ref a2, .int 0, .int 1, .ref a3, .ref a4, .ref a5, .ref a6, .ref a7, .ref a8, .ref a9, .int 0, .int 0, .int 0, .ref a10, .ref a11, .ref a12, .ref a13, .int 1, .int 1, .ref a14, .ref a15, .ref a16, .ref a17, .int 0, .int 0, .ref a18, .ref a19, .ref a20, .ref a21])), (a10, .inl (k 1, 900, .inr (.inl (tL [1, 0, 0, 0, 1, 0, 0, 0, 0] 0)))), (a5, .inl (k 1, 9, .inr (.inl (tL [1, 0, 0, 0, 1, 0, 0, 0, 0] 0))))]) [] [0, 1, 2, 3, 4, 5, 6] rfl rfl (by decide) (by decide) (fun r25 H locs hB J hS => ?_)
      obtain ⟨rfl, hP1, hD1⟩ := hB
      obtain ⟨hP, hD⟩ := J _ hP1 hD1
      have hP : va_P D cl0 [(a11, .inl (k 0, 100, .inl (tI [(-3)] 0))), (a12, .inl (k 0, 100, .inl (tI [(-3)] 0))), (a13, .inl (k 0, 100, .inl (tI [0] 0))), (a4, .inl (k 1, 9, .inr (.inl (tL [1, 0, 0, 0, 1, 0, 0, 0, 0] 0)))), (a0, .inr (8, [.int 2, .int 0, .int 1, .int 0, .int 0, .int 0, .ref a1, .ref a2, .int 0, .int 1, .ref a3, .ref a4, .ref a5, .ref a6, .ref a7, .ref a8, .ref a9, .int 0, .int 0, .int 0, .ref a10, .ref a11, .ref a12, .ref a13, .int 1, .int 1, .ref a14, .ref a15, .ref a16, .ref a17, .int 0, .int 0, .ref a18, .ref a19, .ref a20, .ref a21])), (a10, .inl (k 1, 900, .inr (.inl (tL [1, 0, 0, 0, 1, 0, 0, 0, 0] 0)))), (a5, .inl (k 1, 9, .inr (.inl (tL [1, 0, 0, 0, 1, 0, 0, 0, 0] 0))))] H := hP
      have hD : va_D A [(a11, .inl (k 0, 100, .inl (tI [(-3)] 0))), (a12, .inl (k 0, 100, .inl (tI [(-3)] 0))), (a13, .inl (k 0, 100, .inl (tI [0] 0))), (a4, .inl (k 1, 9, .inr (.inl (tL [1, 0, 0, 0, 1, 0, 0, 0, 0] 0)))), (a0, .inr (8, [.int 2, .int 0, .int 1, .int 0, .int 0, .int 0, .ref a1, .ref a2, .int 0, .int 1, .ref a3, .ref a4, .ref a5, .ref a6, .ref a7, .ref a8, .ref a9, .int 0, .int 0, .int 0, .ref a10, .ref a11, .ref a12, .ref a13, .int 1, .int 1, .ref a14, .ref a15, .ref a16, .ref a17, .int 0, .int 0, .ref a18, .ref a19, .ref a20, .ref a21])), (a10, .inl (k 1, 900, .inr (.inl (tL [1, 0, 0, 0, 1, 0, 0, 0, 0] 0)))), (a5, .inl (k 1, 9, .inr (.inl (tL [1, 0, 0, 0, 1, 0, 0, 0, 0] 0))))] := hD
      refine lv_lstore_n (lv' := [(3, .long 1), (5, .int 6), (0, .ref a0), (1, .int x0), (2, .int x1)]) hx hb dX11_form_74 rfl hl (by decide) rfl (fun ls hl => ?_)
      refine lv_iinc (v := 7) (lv' := [(5, .int 7), (3, .long 1), (0, .ref a0), (1, .int x0), (2, .int x1)]) hx hb dX11_form_75 hl (k := 1) rfl (by decide) (by decide) rfl (fun ls hl => ?_)
      refine lv_goto (tgt := 56) hx hb dX11_form_78 (by decide) ?_
      refine lv_iload hx hb dX11_form_56 (lv_at hl 0 rfl) ?_
      refine lv_bipush (v := 9) hx hb dX11_form_58 (by decide) ?_
      refine lv_icmp_ge (tgt := 81) hx hb dX11_form_60 (by decide) (fun cc => absurd cc (by decide +kernel)) (fun _ => ?_)
      refine lv_lload_n hx hb dX11_form_63 rfl (lv_at hl 1 rfl) ?_
      refine lv_aload_n hx hb dX11_form_64 rfl (lv_at hl 2 rfl) ?_
      refine va_get (D := D) (ci := 8) (v := .ref a4) (C := RX11) (T := TX11) (N := 36) hx hb hU iX11 hown hK.1 hP 4 rfl rfl 11 (by decide) (hU _ w796) (fun _ h9 => h9) rfl dX11_form_65 ?_
      refine lv_iload hx hb dX11_form_68 (lv_at hl 0 rfl) ?_
      refine ld_l (j := 7) (v := 0) hx hb hK hP 3 rfl (by decide +kernel) rfl dX11_form_70 ?_
      refine cL (rS (As := [.long 1, .long 0]) (rest := []) (wc := []) hx hb hml hown hU hK hP hD [] rfl (by decide) (cX11_common_2 l D k _ ) w1094 w1092 w1093 w72 hdX11_common ⟨rfl, rfl⟩ ⟨Nat.le_of_ble_eq_true rfl, Nat.le_of_ble_eq_true rfl⟩ rfl hl.1 (Nat.le_of_ble_eq_true rfl) dX11_form_71 ⟨Nat.le_of_ble_eq_true rfl, Nat.le_of_ble_eq_true rfl⟩) hP hD hS hA (wr := [(a11, .inl (k 0, 100, .inl (tI [(-3)] 0))), (a12, .inl (k 0, 100, .inl (tI [(-3)] 0))), (a13, .inl (k 0, 100, .inl (tI [0] 0))), (a4, .inl (k 1, 9, .inr (.inl (tL [1, 0, 0, 0, 1, 0, 0, 0, 0] 0)))), (a0, .inr (8, [.int 2, .int 0, .int 1, .int 0, .int 0, .int 0, .ref a1, .ref a2, .int 0, .int 1, .ref a3, .ref a4, .ref a5, .ref a6, .ref a7, .ref a8, .ref a9, .int 0, .int 0, .int 0, .ref a10, .ref a11, .ref a12, .ref a13, .int 1, .int 1, .ref a14, .ref a15, .ref a16, .ref a17, .int 0, .int 0, .ref a18, .ref a19, .ref a20, .ref a21])), (a10, .inl (k 1, 900, .inr (.inl (tL [1, 0, 0, 0, 1, 0, 0, 0, 0] 0)))), (a5, .inl (k 1, 9, .inr (.inl (tL [1, 0, 0, 0, 1, 0, 0, 0, 0] 0))))]) [] [0, 1, 2, 3, 4, 5, 6] rfl rfl (by decide) (by decide) (fun r26 H locs hB J hS => ?_)
      obtain ⟨rfl, hP1, hD1⟩ := hB
      obtain ⟨hP, hD⟩ := J _ hP1 hD1
      have hP : va_P D cl0 [(a11, .inl (k 0, 100, .inl (tI [(-3)] 0))), (a12, .inl (k 0, 100, .inl (tI [(-3)] 0))), (a13, .inl (k 0, 100, .inl (tI [0] 0))), (a4, .inl (k 1, 9, .inr (.inl (tL [1, 0, 0, 0, 1, 0, 0, 0, 0] 0)))), (a0, .inr (8, [.int 2, .int 0, .int 1, .int 0, .int 0, .int 0, .ref a1, .ref a2, .int 0, .int 1, .ref a3, .ref a4, .ref a5, .ref a6, .ref a7, .ref a8, .ref a9, .int 0, .int 0, .int 0, .ref a10, .ref a11, .ref a12, .ref a13, .int 1, .int 1, .ref a14, .ref a15, .ref a16, .ref a17, .int 0, .int 0, .ref a18, .ref a19, .ref a20, .ref a21])), (a10, .inl (k 1, 900, .inr (.inl (tL [1, 0, 0, 0, 1, 0, 0, 0, 0] 0)))), (a5, .inl (k 1, 9, .inr (.inl (tL [1, 0, 0, 0, 1, 0, 0, 0, 0] 0))))] H := hP
      have hD : va_D A [(a11, .inl (k 0, 100, .inl (tI [(-3)] 0))), (a12, .inl (k 0, 100, .inl (tI [(-3)] 0))), (a13, .inl (k 0, 100, .inl (tI [0] 0))), (a4, .inl (k 1, 9, .inr (.inl (tL [1, 0, 0, 0, 1, 0, 0, 0, 0] 0)))), (a0, .inr (8, [.int 2, .int 0, .int 1, .int 0, .int 0, .int 0, .ref a1, .ref a2, .int 0, .int 1, .ref a3, .ref a4, .ref a5, .ref a6, .ref a7, .ref a8, .ref a9, .int 0, .int 0, .int 0, .ref a10, .ref a11, .ref a12, .ref a13, .int 1, .int 1, .ref a14, .ref a15, .ref a16, .ref a17, .int 0, .int 0, .ref a18, .ref a19, .ref a20, .ref a21])), (a10, .inl (k 1, 900, .inr (.inl (tL [1, 0, 0, 0, 1, 0, 0, 0, 0] 0)))), (a5, .inl (k 1, 9, .inr (.inl (tL [1, 0, 0, 0, 1, 0, 0, 0, 0] 0))))] := hD
      refine lv_lstore_n (lv' := [(3, .long 1), (5, .int 7), (0, .ref a0), (1, .int x0), (2, .int x1)]) hx hb dX11_form_74 rfl hl (by decide) rfl (fun ls hl => ?_)
      refine lv_iinc (v := 8) (lv' := [(5, .int 8), (3, .long 1), (0, .ref a0), (1, .int x0), (2, .int x1)]) hx hb dX11_form_75 hl (k := 1) rfl (by decide) (by decide) rfl (fun ls hl => ?_)
      refine lv_goto (tgt := 56) hx hb dX11_form_78 (by decide) ?_
      refine lv_iload hx hb dX11_form_56 (lv_at hl 0 rfl) ?_
      refine lv_bipush (v := 9) hx hb dX11_form_58 (by decide) ?_
      refine lv_icmp_ge (tgt := 81) hx hb dX11_form_60 (by decide) (fun cc => absurd cc (by decide +kernel)) (fun _ => ?_)
      refine lv_lload_n hx hb dX11_form_63 rfl (lv_at hl 1 rfl) ?_
      refine lv_aload_n hx hb dX11_form_64 rfl (lv_at hl 2 rfl) ?_
      refine va_get (D := D) (ci := 8) (v := .ref a4) (C := RX11) (T := TX11) (N := 36) hx hb hU iX11 hown hK.1 hP 4 rfl rfl 11 (by decide) (hU _ w796) (fun _ h9 => h9) rfl dX11_form_65 ?_
      refine lv_iload hx hb dX11_form_68 (lv_at hl 0 rfl) ?_
      refine ld_l (j := 8) (v := 0) hx hb hK hP 3 rfl (by decide +kernel) rfl dX11_form_70 ?_
      refine cL (rS (As := [.long 1, .long 0]) (rest := []) (wc := []) hx hb hml hown hU hK hP hD [] rfl (by decide) (cX11_common_2 l D k _ ) w1094 w1092 w1093 w72 hdX11_common ⟨rfl, rfl⟩ ⟨Nat.le_of_ble_eq_true rfl, Nat.le_of_ble_eq_true rfl⟩ rfl hl.1 (Nat.le_of_ble_eq_true rfl) dX11_form_71 ⟨Nat.le_of_ble_eq_true rfl, Nat.le_of_ble_eq_true rfl⟩) hP hD hS hA (wr := [(a11, .inl (k 0, 100, .inl (tI [(-3)] 0))), (a12, .inl (k 0, 100, .inl (tI [(-3)] 0))), (a13, .inl (k 0, 100, .inl (tI [0] 0))), (a4, .inl (k 1, 9, .inr (.inl (tL [1, 0, 0, 0, 1, 0, 0, 0, 0] 0)))), (a0, .inr (8, [.int 2, .int 0, .int 1, .int 0, .int 0, .int 0, .ref a1, .ref a2, .int 0, .int 1, .ref a3, .ref a4, .ref a5, .ref a6, .ref a7, .ref a8, .ref a9, .int 0, .int 0, .int 0, .ref a10, .ref a11, .ref a12, .ref a13, .int 1, .int 1, .ref a14, .ref a15, .ref a16, .ref a17, .int 0, .int 0, .ref a18, .ref a19, .ref a20, .ref a21])), (a10, .inl (k 1, 900, .inr (.inl (tL [1, 0, 0, 0, 1, 0, 0, 0, 0] 0)))), (a5, .inl (k 1, 9, .inr (.inl (tL [1, 0, 0, 0, 1, 0, 0, 0, 0] 0))))]) [] [0, 1, 2, 3, 4, 5, 6] rfl rfl (by decide) (by decide) (fun r27 H locs hB J hS => ?_)
      obtain ⟨rfl, hP1, hD1⟩ := hB
      obtain ⟨hP, hD⟩ := J _ hP1 hD1
      have hP : va_P D cl0 [(a11, .inl (k 0, 100, .inl (tI [(-3)] 0))), (a12, .inl (k 0, 100, .inl (tI [(-3)] 0))), (a13, .inl (k 0, 100, .inl (tI [0] 0))), (a4, .inl (k 1, 9, .inr (.inl (tL [1, 0, 0, 0, 1, 0, 0, 0, 0] 0)))), (a0, .inr (8, [.int 2, .int 0, .int 1, .int 0, .int 0, .int 0, .ref a1, .ref a2, .int 0, .int 1, .ref a3, .ref a4, .ref a5, .ref a6, .ref a7, .ref a8, .ref a9, .int 0, .int 0, .int 0, .ref a10, .ref a11, .ref a12, .ref a13, .int 1, .int 1, .ref a14, .ref a15, .ref a16, .ref a17, .int 0, .int 0, .ref a18, .ref a19, .ref a20, .ref a21])), (a10, .inl (k 1, 900, .inr (.inl (tL [1, 0, 0, 0, 1, 0, 0, 0, 0] 0)))), (a5, .inl (k 1, 9, .inr (.inl (tL [1, 0, 0, 0, 1, 0, 0, 0, 0] 0))))] H := hP
      have hD : va_D A [(a11, .inl (k 0, 100, .inl (tI [(-3)] 0))), (a12, .inl (k 0, 100, .inl (tI [(-3)] 0))), (a13, .inl (k 0, 100, .inl (tI [0] 0))), (a4, .inl (k 1, 9, .inr (.inl (tL [1, 0, 0, 0, 1, 0, 0, 0, 0] 0)))), (a0, .inr (8, [.int 2, .int 0, .int 1, .int 0, .int 0, .int 0, .ref a1, .ref a2, .int 0, .int 1, .ref a3, .ref a4, .ref a5, .ref a6, .ref a7, .ref a8, .ref a9, .int 0, .int 0, .int 0, .ref a10, .ref a11, .ref a12, .ref a13, .int 1, .int 1, .ref a14, .ref a15, .ref a16, .ref a17, .int 0, .int 0, .ref a18, .ref a19, .ref a20, .ref a21])), (a10, .inl (k 1, 900, .inr (.inl (tL [1, 0, 0, 0, 1, 0, 0, 0, 0] 0)))), (a5, .inl (k 1, 9, .inr (.inl (tL [1, 0, 0, 0, 1, 0, 0, 0, 0] 0))))] := hD
      refine lv_lstore_n (lv' := [(3, .long 1), (5, .int 8), (0, .ref a0), (1, .int x0), (2, .int x1)]) hx hb dX11_form_74 rfl hl (by decide) rfl (fun ls hl => ?_)
      refine lv_iinc (v := 9) (lv' := [(5, .int 9), (3, .long 1), (0, .ref a0), (1, .int x0), (2, .int x1)]) hx hb dX11_form_75 hl (k := 1) rfl (by decide) (by decide) rfl (fun ls hl => ?_)
      refine lv_goto (tgt := 56) hx hb dX11_form_78 (by decide) ?_
      refine lv_iload hx hb dX11_form_56 (lv_at hl 0 rfl) ?_
      refine lv_bipush (v := 9) hx hb dX11_form_58 (by decide) ?_
      refine lv_icmp_ge (tgt := 81) hx hb dX11_form_60 (by decide) (fun _ => ?_) (fun cc => absurd (by decide +kernel) cc)
      refine lv_aload_n hx hb dX11_form_81 rfl (lv_at hl 2 rfl) ?_
      refine va_get (D := D) (ci := 8) (v := .ref a4) (C := RX11) (T := TX11) (N := 36) hx hb hU iX11 hown hK.1 hP 4 rfl rfl 11 (by decide) (hU _ w796) (fun _ h9 => h9) rfl dX11_form_82 ?_
      refine lv_iconst (v := 3) hx hb dX11_form_85 (by decide) ?_
      refine lv_iload_n hx hb dX11_form_86 rfl (lv_at hl 3 rfl) ?_
      refine lv_imul hx hb dX11_form_87 ?_
      refine lv_iload_n hx hb dX11_form_88 rfl (lv_at hl 4 rfl) ?_
      refine lv_iadd hx hb dX11_form_89 ?_
      have hsp : x0.toInt = 0 ∨ x0.toInt = 1 := by
        have f0 := dv_nlt (x := x0.toInt) (y := 0) c_5 (wd x0) (by decide +kernel)
        have f1 := dv_nlt (x := 1) (y := x0.toInt) c_6 (by decide +kernel) (wd x0)
        have f2 := dv_nlt (x := x1.toInt) (y := 0) c_13 (wd x1) (by decide +kernel)
        have f3 := dv_nlt (x := 1) (y := x1.toInt) c_14 (by decide +kernel) (wd x1)
        omega
      rcases hsp with hsp | hsp
      · skip
        obtain rfl : x0 = 0 := eq32 hsp (by decide +kernel)
        have hsp : x1.toInt = 0 ∨ x1.toInt = 1 := by
          have f2 := dv_nlt (x := x1.toInt) (y := 0) c_13 (wd x1) (by decide +kernel)
          have f3 := dv_nlt (x := 1) (y := x1.toInt) c_14 (by decide +kernel) (wd x1)
          have g_0 : (0 : Int32).toInt = 0 := (by decide +kernel)
          omega
        rcases hsp with hsp | hsp
        · skip
          obtain rfl : x1 = 0 := eq32 hsp (by decide +kernel)
          refine sv_i (v := 0) (by decide +kernel) ?_
          refine ld_l (j := 0) (v := 1) hx hb hK hP 3 rfl (by decide +kernel) rfl dX11_form_90 ?_
          refine lv_lload_n hx hb dX11_form_91 rfl (lv_at hl 1 rfl) ?_
          refine lv_ldiv hx hb dX11_form_92 (by decide +kernel) (sv_l (v := 1) (by decide +kernel) ?_)
          exact retL (v := 1) hx hb hr hlocks hS (show (1 : Int64) = F_form 0 0 by first | decide +kernel | (have g_0 : (0 : Int32).toInt = 0 := (by decide +kernel); unfold F_form; (repeat (first | rw [if_pos (by omega)] | rw [if_neg (by omega)])))) dX11_form_93
        · skip
          obtain rfl : x1 = 1 := eq32 hsp (by decide +kernel)
          refine sv_i (v := 1) (by decide +kernel) ?_
          refine ld_l (j := 1) (v := 0) hx hb hK hP 3 rfl (by decide +kernel) rfl dX11_form_90 ?_
          refine lv_lload_n hx hb dX11_form_91 rfl (lv_at hl 1 rfl) ?_
          refine lv_ldiv hx hb dX11_form_92 (by decide +kernel) (sv_l (v := 0) (by decide +kernel) ?_)
          exact retL (v := 0) hx hb hr hlocks hS (show (0 : Int64) = F_form 0 1 by first | decide +kernel | (have g_0 : (0 : Int32).toInt = 0 := (by decide +kernel); have g_1 : (1 : Int32).toInt = 1 := (by decide +kernel); unfold F_form; (repeat (first | rw [if_pos (by omega)] | rw [if_neg (by omega)])))) dX11_form_93
      · skip
        obtain rfl : x0 = 1 := eq32 hsp (by decide +kernel)
        have hsp : x1.toInt = 0 ∨ x1.toInt = 1 := by
          have f2 := dv_nlt (x := x1.toInt) (y := 0) c_13 (wd x1) (by decide +kernel)
          have f3 := dv_nlt (x := 1) (y := x1.toInt) c_14 (by decide +kernel) (wd x1)
          have g_1 : (1 : Int32).toInt = 1 := (by decide +kernel)
          omega
        rcases hsp with hsp | hsp
        · skip
          obtain rfl : x1 = 0 := eq32 hsp (by decide +kernel)
          refine sv_i (v := 3) (by decide +kernel) ?_
          refine ld_l (j := 3) (v := 0) hx hb hK hP 3 rfl (by decide +kernel) rfl dX11_form_90 ?_
          refine lv_lload_n hx hb dX11_form_91 rfl (lv_at hl 1 rfl) ?_
          refine lv_ldiv hx hb dX11_form_92 (by decide +kernel) (sv_l (v := 0) (by decide +kernel) ?_)
          exact retL (v := 0) hx hb hr hlocks hS (show (0 : Int64) = F_form 1 0 by first | decide +kernel | (have g_0 : (0 : Int32).toInt = 0 := (by decide +kernel); have g_1 : (1 : Int32).toInt = 1 := (by decide +kernel); unfold F_form; (repeat (first | rw [if_pos (by omega)] | rw [if_neg (by omega)])))) dX11_form_93
        · skip
          obtain rfl : x1 = 1 := eq32 hsp (by decide +kernel)
          refine sv_i (v := 4) (by decide +kernel) ?_
          refine ld_l (j := 4) (v := 1) hx hb hK hP 3 rfl (by decide +kernel) rfl dX11_form_90 ?_
          refine lv_lload_n hx hb dX11_form_91 rfl (lv_at hl 1 rfl) ?_
          refine lv_ldiv hx hb dX11_form_92 (by decide +kernel) (sv_l (v := 1) (by decide +kernel) ?_)
          exact retL (v := 1) hx hb hr hlocks hS (show (1 : Int64) = F_form 1 1 by first | decide +kernel | (have g_1 : (1 : Int32).toInt = 1 := (by decide +kernel); unfold F_form; (repeat (first | rw [if_pos (by omega)] | rw [if_neg (by omega)])))) dX11_form_93
