abbrev BX10_forgetWhatCame_1 (D : va_G) (k : Nat → ClassId) (h0 h1 h2 h3 h4 h5 h6 h7 h8 h9 h10 h11 h12 : Nat) (A : Nat → Prop) (H : Heap) : Prop := va_P D cl0 [(h0, .inr (7, [.ref h2, .ref h3, .int 0, .ref h4, .ref h5, .ref h6, .int 0, .ref h7, .int 0, .null, .ref h1, .int 0, .ref h8, .ref h9, .ref h10, .ref h11, .ref h12])), (h1, .inl (k 0, 8, .inl (tI [] 0)))] H ∧ va_D A [(h0, .inr (7, [.ref h2, .ref h3, .int 0, .ref h4, .ref h5, .ref h6, .int 0, .ref h7, .int 0, .null, .ref h1, .int 0, .ref h8, .ref h9, .ref h10, .ref h11, .ref h12])), (h1, .inl (k 0, 8, .inl (tI [] 0)))]
set_option maxHeartbeats 4000000 in
set_option maxRecDepth 100000 in
theorem cX10_forgetWhatCame_1 (l : Launch) (D : va_G) (k : Nat → ClassId) (sz : Nat) (h0 h1 h2 h3 h4 h5 h6 h7 h8 h9 h10 h11 h12 : Nat) : Met l yX10_forgetWhatCame (Cond.code yX10_forgetWhatCame cX10_forgetWhatCame 1 none :: uw) ({ frames := 1, cells := 0, slots := 0, locals := 23 }) (pC D k sz [.ref h0] [(h0, .inr (7, [.ref h2, .ref h3, .int 0, .ref h4, .ref h5, .ref h6, .int 0, .ref h7, .int 0, .null, .ref h1, .int 0, .ref h8, .ref h9, .ref h10, .ref h11, .ref h12])), (h1, .inl (k 0, 8, .inl (tI [] 0)))]) (qV (BX10_forgetWhatCame_1 D k h0 h1 h2 h3 h4 h5 h6 h7 h8 h9 h10 h11 h12 (va_A [(h0, .inr (7, [.ref h2, .ref h3, .int 0, .ref h4, .ref h5, .ref h6, .int 0, .ref h7, .int 0, .null, .ref h1, .int 0, .ref h8, .ref h9, .ref h10, .ref h11, .ref h12])), (h1, .inl (k 0, 8, .inl (tI [] 0)))] sz)) (va_A [(h0, .inr (7, [.ref h2, .ref h3, .int 0, .ref h4, .ref h5, .ref h6, .int 0, .ref h7, .int 0, .null, .ref h1, .int 0, .ref h8, .ref h9, .ref h10, .ref h11, .ref h12])), (h1, .inl (k 0, 8, .inl (tI [] 0)))] sz)) 0 0 (va_A [(h0, .inr (7, [.ref h2, .ref h3, .int 0, .ref h4, .ref h5, .ref h6, .int 0, .ref h7, .int 0, .null, .ref h1, .int 0, .ref h8, .ref h9, .ref h10, .ref h11, .ref h12])), (h1, .inl (k 0, 8, .inl (tI [] 0)))] sz) := by
  refine begin_ (Qc := fun A => qV (BX10_forgetWhatCame_1 D k h0 h1 h2 h3 h4 h5 h6 h7 h8 h9 h10 h11 h12 A) A) (by decide) (Nat.le_of_ble_eq_true rfl) ?_
  intro p e s m below meth c ls A hx hb hr hml hown hlocks hin hU hK hsz hP hD hS hA hl
  have hl : lv_has ls 1 [(0, .ref h0)] := hl
  clear hsz
  refine lv_aload_n hx hb dX10_forgetWhatCame_0 rfl (lv_at hl 0 rfl) ?_
  refine lv_iconst (v := 0) hx hb dX10_forgetWhatCame_1 (by decide) ?_
  refine va_put (D := D) (ci := 7) (v := .int 0) (ty := .boolean) (C := RX10) (T := TX10) (N := 17) hx hb hU iX10 tyX10 tyX10_ok nmX10 hown hK.1 hP hD hS 0 rfl rfl 6 (by decide) (hU _ w255) (fun _ h9 => h9) rfl (by decide +kernel) rfl rfl (Nat.le_of_ble_eq_true rfl) dX10_forgetWhatCame_2 (fun H locs hP hD hS => ?_)
  have hP : va_P D cl0 [(h0, .inr (7, [.ref h2, .ref h3, .int 0, .ref h4, .ref h5, .ref h6, .int 0, .ref h7, .int 0, .null, .ref h1, .int 0, .ref h8, .ref h9, .ref h10, .ref h11, .ref h12])), (h1, .inl (k 0, 8, .inl (tI [] 0)))] H := hP
  have hD : va_D A [(h0, .inr (7, [.ref h2, .ref h3, .int 0, .ref h4, .ref h5, .ref h6, .int 0, .ref h7, .int 0, .null, .ref h1, .int 0, .ref h8, .ref h9, .ref h10, .ref h11, .ref h12])), (h1, .inl (k 0, 8, .inl (tI [] 0)))] := hD
  refine lv_aload_n hx hb dX10_forgetWhatCame_5 rfl (lv_at hl 0 rfl) ?_
  refine lv_iconst (v := 0) hx hb dX10_forgetWhatCame_6 (by decide) ?_
  refine va_put (D := D) (ci := 7) (v := .int 0) (ty := .boolean) (C := RX10) (T := TX10) (N := 17) hx hb hU iX10 tyX10 tyX10_ok nmX10 hown hK.1 hP hD hS 0 rfl rfl 8 (by decide) (hU _ w257) (fun _ h9 => h9) rfl (by decide +kernel) rfl rfl (Nat.le_of_ble_eq_true rfl) dX10_forgetWhatCame_7 (fun H locs hP hD hS => ?_)
  have hP : va_P D cl0 [(h0, .inr (7, [.ref h2, .ref h3, .int 0, .ref h4, .ref h5, .ref h6, .int 0, .ref h7, .int 0, .null, .ref h1, .int 0, .ref h8, .ref h9, .ref h10, .ref h11, .ref h12])), (h1, .inl (k 0, 8, .inl (tI [] 0)))] H := hP
  have hD : va_D A [(h0, .inr (7, [.ref h2, .ref h3, .int 0, .ref h4, .ref h5, .ref h6, .int 0, .ref h7, .int 0, .null, .ref h1, .int 0, .ref h8, .ref h9, .ref h10, .ref h11, .ref h12])), (h1, .inl (k 0, 8, .inl (tI [] 0)))] := hD
  refine lv_aload_n hx hb dX10_forgetWhatCame_10 rfl (lv_at hl 0 rfl) ?_
  refine va_get (D := D) (ci := 7) (v := .ref h1) (C := RX10) (T := TX10) (N := 17) hx hb hU iX10 hown hK.1 hP 0 rfl rfl 10 (by decide) (hU _ w259) (fun _ h9 => h9) rfl dX10_forgetWhatCame_11 ?_
  refine lv_iconst (v := 0) hx hb dX10_forgetWhatCame_14 (by decide) ?_
  refine cV (rS (As := [.ref h1, .int 0]) (rest := []) (wc := [(h1, .inl (k 0, 8, .inl (tI [] 0)))]) hx hb hml hown hU hK hP hD [1] rfl (by decide) (c_fillI l D k _ h1 (8) (tI [] 0) (0) (by decide)) w311 w309 w310 w73 hdJ7_fill_53178 ⟨rfl, rfl⟩ ⟨Nat.le_of_ble_eq_true rfl, Nat.le_of_ble_eq_true rfl⟩ rfl hl.1 (Nat.le_of_ble_eq_true rfl) dX10_forgetWhatCame_15 ⟨Nat.le_of_ble_eq_true rfl, Nat.le_of_ble_eq_true rfl⟩) hP hD hS hA (wr := [(h0, .inr (7, [.ref h2, .ref h3, .int 0, .ref h4, .ref h5, .ref h6, .int 0, .ref h7, .int 0, .null, .ref h1, .int 0, .ref h8, .ref h9, .ref h10, .ref h11, .ref h12]))]) [1] [0] rfl rfl (by decide) (by decide) (fun H locs hB J hS => ?_)
  obtain ⟨hP1, hD1⟩ := hB
  obtain ⟨hP, hD⟩ := J _ hP1 hD1
  have hP : va_P D cl0 [(h0, .inr (7, [.ref h2, .ref h3, .int 0, .ref h4, .ref h5, .ref h6, .int 0, .ref h7, .int 0, .null, .ref h1, .int 0, .ref h8, .ref h9, .ref h10, .ref h11, .ref h12])), (h1, .inl (k 0, 8, .inl (tI [] 0)))] H := hP
  have hD : va_D A [(h0, .inr (7, [.ref h2, .ref h3, .int 0, .ref h4, .ref h5, .ref h6, .int 0, .ref h7, .int 0, .null, .ref h1, .int 0, .ref h8, .ref h9, .ref h10, .ref h11, .ref h12])), (h1, .inl (k 0, 8, .inl (tI [] 0)))] := hD
  exact retV hx hb hr hlocks hS (⟨hP, hD⟩) dX10_forgetWhatCame_18
abbrev BX10_size_1 (D : va_G) (k : Nat → ClassId) (a0 a1 a27 a3 a5 a8 a9 a18 a28 a29 a30 a31 a32 a2 : Nat) (x0 : Int32) (A : Nat → Prop) (r : Int32) (H : Heap) : Prop := r = F_size x0
set_option maxHeartbeats 4000000 in
set_option maxRecDepth 100000 in
theorem cX10_size_1 (l : Launch) (D : va_G) (k : Nat → ClassId) (sz : Nat) (a0 a1 a27 a3 a5 a8 a9 a18 a28 a29 a30 a31 a32 a2 : Nat) (x0 : Int32) : Met l yX10_size (Cond.code yX10_size cX10_size 3 (some .int) :: uw) ({ frames := 2, cells := 0, slots := 0, locals := 43 }) (pC D k sz [.ref a0, .int x0] [(a0, .inr (7, [.ref a1, .ref a3, .int 0, .ref a5, .ref a8, .ref a9, .int 0, .ref a18, .int 0, .null, .ref a27, .int 0, .ref a28, .ref a29, .ref a30, .ref a31, .ref a32])), (a1, .inr (4, [.int 2, .int 0, .int 1, .ref a2])), (a27, .inl (k 0, 8, .inl (tI [] 0)))]) (qI (BX10_size_1 D k a0 a1 a27 a3 a5 a8 a9 a18 a28 a29 a30 a31 a32 a2 x0 (va_A [(a0, .inr (7, [.ref a1, .ref a3, .int 0, .ref a5, .ref a8, .ref a9, .int 0, .ref a18, .int 0, .null, .ref a27, .int 0, .ref a28, .ref a29, .ref a30, .ref a31, .ref a32])), (a1, .inr (4, [.int 2, .int 0, .int 1, .ref a2])), (a27, .inl (k 0, 8, .inl (tI [] 0)))] sz)) (va_A [(a0, .inr (7, [.ref a1, .ref a3, .int 0, .ref a5, .ref a8, .ref a9, .int 0, .ref a18, .int 0, .null, .ref a27, .int 0, .ref a28, .ref a29, .ref a30, .ref a31, .ref a32])), (a1, .inr (4, [.int 2, .int 0, .int 1, .ref a2])), (a27, .inl (k 0, 8, .inl (tI [] 0)))] sz)) 0 0 (va_A [(a0, .inr (7, [.ref a1, .ref a3, .int 0, .ref a5, .ref a8, .ref a9, .int 0, .ref a18, .int 0, .null, .ref a27, .int 0, .ref a28, .ref a29, .ref a30, .ref a31, .ref a32])), (a1, .inr (4, [.int 2, .int 0, .int 1, .ref a2])), (a27, .inl (k 0, 8, .inl (tI [] 0)))] sz) := by
  refine begin_ (Qc := fun A => qI (BX10_size_1 D k a0 a1 a27 a3 a5 a8 a9 a18 a28 a29 a30 a31 a32 a2 x0 A) A) (by decide) (Nat.le_of_ble_eq_true rfl) ?_
  intro p e s m below meth c ls A hx hb hr hml hown hlocks hin hU hK hsz hP hD hS hA hl
  have hl : lv_has ls 3 [(0, .ref a0), (1, .int x0)] := hl
  clear hsz
  refine lv_iload_n hx hb dX10_size_0 rfl (lv_at hl 1 rfl) ?_
  refine lv_iconst (v := 1) hx hb dX10_size_1 (by decide) ?_
  refine lv_icmp_lt (tgt := 10) hx hb dX10_size_2 (by decide) (fun c_1 => ?_) (fun c_1 => ?_)
  · skip
    refine lv_iconst (v := (-1)) hx hb dX10_size_10 (by decide) ?_
    exact retI (v := (-1)) hx hb hr hlocks hS (show ((-1) : Int32) = F_size x0 by first | decide +kernel | (have f0 := cv_lt (x := x0.toInt) (y := 1) c_1 rfl (by decide +kernel); unfold F_size; (repeat (first | rw [if_pos (by omega)] | rw [if_neg (by omega)])))) dX10_size_11
  · skip
    refine lv_iload_n hx hb dX10_size_5 rfl (lv_at hl 1 rfl) ?_
    refine lv_iconst (v := 3) hx hb dX10_size_6 (by decide) ?_
    refine lv_icmp_le (tgt := 12) hx hb dX10_size_7 (by decide) (fun c_2 => ?_) (fun c_2 => ?_)
    · skip
      refine lv_aload_n hx hb dX10_size_12 rfl (lv_at hl 0 rfl) ?_
      refine va_get (D := D) (ci := 7) (v := .ref a1) (C := RX10) (T := TX10) (N := 17) hx hb hU iX10 hown hK.1 hP 0 rfl rfl 0 (by decide) (hU _ w249) (fun _ h9 => h9) rfl dX10_size_13 ?_
      refine va_get (D := D) (ci := 4) (v := .int 2) (C := RX5) (T := TX5) (N := 4) hx hb hU iX5 hown hK.1 hP 1 rfl rfl 0 (by decide) (hU _ w93) (fun _ h9 => h9) rfl dX10_size_16 ?_
      refine lv_istore_n (lv' := [(2, .int 2), (0, .ref a0), (1, .int x0)]) hx hb dX10_size_19 rfl hl (by decide) rfl (fun ls hl => ?_)
      refine lv_iload_n hx hb dX10_size_20 rfl (lv_at hl 2 rfl) ?_
      refine lv_iload_n hx hb dX10_size_21 rfl (lv_at hl 0 rfl) ?_
      have hsp : x0.toInt = 1 ∨ x0.toInt = 2 ∨ x0.toInt = 3 := by
        have f0 := cv_nlt (x := x0.toInt) (y := 1) c_1 rfl (by decide +kernel)
        have f1 := cv_le (x := x0.toInt) (y := 3) c_2 rfl (by decide +kernel)
        omega
      rcases hsp with hsp | hsp | hsp
      · skip
        obtain rfl : x0 = 1 := eq32 hsp (by decide +kernel)
        refine lv_icmp_eq (tgt := 45) hx hb dX10_size_22 (by decide) (fun cc => absurd cc (by decide +kernel)) (fun _ => ?_)
        refine lv_aload_n hx hb dX10_size_25 rfl (lv_at hl 1 rfl) ?_
        refine va_get (D := D) (ci := 7) (v := .ref a1) (C := RX10) (T := TX10) (N := 17) hx hb hU iX10 hown hK.1 hP 0 rfl rfl 0 (by decide) (hU _ w249) (fun _ h9 => h9) rfl dX10_size_26 ?_
        refine lv_iload_n hx hb dX10_size_29 rfl (lv_at hl 2 rfl) ?_
        refine va_put (D := D) (ci := 4) (v := .int 1) (ty := .int) (C := RX5) (T := TX5) (N := 4) hx hb hU iX5 tyX5 tyX5_ok nmX5 hown hK.1 hP hD hS 1 rfl rfl 0 (by decide) (hU _ w93) (fun _ h9 => h9) rfl (by decide +kernel) rfl rfl (Nat.le_of_ble_eq_true rfl) dX10_size_30 (fun H locs hP hD hS => ?_)
        have hP : va_P D cl0 [(a0, .inr (7, [.ref a1, .ref a3, .int 0, .ref a5, .ref a8, .ref a9, .int 0, .ref a18, .int 0, .null, .ref a27, .int 0, .ref a28, .ref a29, .ref a30, .ref a31, .ref a32])), (a1, .inr (4, [.int 1, .int 0, .int 1, .ref a2])), (a27, .inl (k 0, 8, .inl (tI [] 0)))] H := hP
        have hD : va_D A [(a0, .inr (7, [.ref a1, .ref a3, .int 0, .ref a5, .ref a8, .ref a9, .int 0, .ref a18, .int 0, .null, .ref a27, .int 0, .ref a28, .ref a29, .ref a30, .ref a31, .ref a32])), (a1, .inr (4, [.int 1, .int 0, .int 1, .ref a2])), (a27, .inl (k 0, 8, .inl (tI [] 0)))] := hD
        refine lv_aload_n hx hb dX10_size_33 rfl (lv_at hl 1 rfl) ?_
        refine va_get (D := D) (ci := 7) (v := .ref a1) (C := RX10) (T := TX10) (N := 17) hx hb hU iX10 hown hK.1 hP 0 rfl rfl 0 (by decide) (hU _ w249) (fun _ h9 => h9) rfl dX10_size_34 ?_
        refine lv_iconst (v := 0) hx hb dX10_size_37 (by decide) ?_
        refine va_put (D := D) (ci := 4) (v := .int 0) (ty := .int) (C := RX5) (T := TX5) (N := 4) hx hb hU iX5 tyX5 tyX5_ok nmX5 hown hK.1 hP hD hS 1 rfl rfl 1 (by decide) (hU _ w97) (fun _ h9 => h9) rfl (by decide +kernel) rfl rfl (Nat.le_of_ble_eq_true rfl) dX10_size_38 (fun H locs hP hD hS => ?_)
        have hP : va_P D cl0 [(a0, .inr (7, [.ref a1, .ref a3, .int 0, .ref a5, .ref a8, .ref a9, .int 0, .ref a18, .int 0, .null, .ref a27, .int 0, .ref a28, .ref a29, .ref a30, .ref a31, .ref a32])), (a1, .inr (4, [.int 1, .int 0, .int 1, .ref a2])), (a27, .inl (k 0, 8, .inl (tI [] 0)))] H := hP
        have hD : va_D A [(a0, .inr (7, [.ref a1, .ref a3, .int 0, .ref a5, .ref a8, .ref a9, .int 0, .ref a18, .int 0, .null, .ref a27, .int 0, .ref a28, .ref a29, .ref a30, .ref a31, .ref a32])), (a1, .inr (4, [.int 1, .int 0, .int 1, .ref a2])), (a27, .inl (k 0, 8, .inl (tI [] 0)))] := hD
        refine lv_aload_n hx hb dX10_size_41 rfl (lv_at hl 1 rfl) ?_
        refine cV (rV (q0 := 0) (ci := 7) (As := []) (rest := []) (wc := [(a0, .inr (7, [.ref a1, .ref a3, .int 0, .ref a5, .ref a8, .ref a9, .int 0, .ref a18, .int 0, .null, .ref a27, .int 0, .ref a28, .ref a29, .ref a30, .ref a31, .ref a32])), (a27, .inl (k 0, 8, .inl (tI [] 0)))]) hx hb hml hown hU hK hP hD rfl rfl [0, 2] rfl (by decide) (cX10_forgetWhatCame_1 l D k _ a0 a27 a1 a3 a5 a8 a9 a18 a28 a29 a30 a31 a32) w308 w305 w307 w0 w63 hdX10_forgetWhatCame ⟨rfl, rfl⟩ ⟨Nat.le_of_ble_eq_true rfl, Nat.le_of_ble_eq_true rfl⟩ rfl hl.1 (Nat.le_of_ble_eq_true rfl) dX10_size_42 ⟨Nat.le_of_ble_eq_true rfl, Nat.le_of_ble_eq_true rfl⟩) hP hD hS hA (wr := [(a1, .inr (4, [.int 1, .int 0, .int 1, .ref a2]))]) [0, 2] [1] rfl rfl (by decide) (by decide) (fun H locs hB J hS => ?_)
        obtain ⟨hP1, hD1⟩ := hB
        obtain ⟨hP, hD⟩ := J _ hP1 hD1
        have hP : va_P D cl0 [(a1, .inr (4, [.int 1, .int 0, .int 1, .ref a2])), (a0, .inr (7, [.ref a1, .ref a3, .int 0, .ref a5, .ref a8, .ref a9, .int 0, .ref a18, .int 0, .null, .ref a27, .int 0, .ref a28, .ref a29, .ref a30, .ref a31, .ref a32])), (a27, .inl (k 0, 8, .inl (tI [] 0)))] H := hP
        have hD : va_D A [(a1, .inr (4, [.int 1, .int 0, .int 1, .ref a2])), (a0, .inr (7, [.ref a1, .ref a3, .int 0, .ref a5, .ref a8, .ref a9, .int 0, .ref a18, .int 0, .null, .ref a27, .int 0, .ref a28, .ref a29, .ref a30, .ref a31, .ref a32])), (a27, .inl (k 0, 8, .inl (tI [] 0)))] := hD
        refine lv_iload_n hx hb dX10_size_45 rfl (lv_at hl 0 rfl) ?_
        exact retI (v := 2) hx hb hr hlocks hS (show (2 : Int32) = F_size 1 by first | decide +kernel | (have g_1 : (1 : Int32).toInt = 1 := (by decide +kernel); unfold F_size; (repeat (first | rw [if_pos (by omega)] | rw [if_neg (by omega)])))) dX10_size_46
      · skip
        obtain rfl : x0 = 2 := eq32 hsp (by decide +kernel)
        refine lv_icmp_eq (tgt := 45) hx hb dX10_size_22 (by decide) (fun _ => ?_) (fun cc => absurd (by decide +kernel) cc)
        refine lv_iload_n hx hb dX10_size_45 rfl (lv_at hl 0 rfl) ?_
        exact retI (v := 2) hx hb hr hlocks hS (show (2 : Int32) = F_size 2 by first | decide +kernel | (have g_2 : (2 : Int32).toInt = 2 := (by decide +kernel); unfold F_size; (repeat (first | rw [if_pos (by omega)] | rw [if_neg (by omega)])))) dX10_size_46
      · skip
        obtain rfl : x0 = 3 := eq32 hsp (by decide +kernel)
        refine lv_icmp_eq (tgt := 45) hx hb dX10_size_22 (by decide) (fun cc => absurd cc (by decide +kernel)) (fun _ => ?_)
        refine lv_aload_n hx hb dX10_size_25 rfl (lv_at hl 1 rfl) ?_
        refine va_get (D := D) (ci := 7) (v := .ref a1) (C := RX10) (T := TX10) (N := 17) hx hb hU iX10 hown hK.1 hP 0 rfl rfl 0 (by decide) (hU _ w249) (fun _ h9 => h9) rfl dX10_size_26 ?_
        refine lv_iload_n hx hb dX10_size_29 rfl (lv_at hl 2 rfl) ?_
        refine va_put (D := D) (ci := 4) (v := .int 3) (ty := .int) (C := RX5) (T := TX5) (N := 4) hx hb hU iX5 tyX5 tyX5_ok nmX5 hown hK.1 hP hD hS 1 rfl rfl 0 (by decide) (hU _ w93) (fun _ h9 => h9) rfl (by decide +kernel) rfl rfl (Nat.le_of_ble_eq_true rfl) dX10_size_30 (fun H locs hP hD hS => ?_)
        have hP : va_P D cl0 [(a0, .inr (7, [.ref a1, .ref a3, .int 0, .ref a5, .ref a8, .ref a9, .int 0, .ref a18, .int 0, .null, .ref a27, .int 0, .ref a28, .ref a29, .ref a30, .ref a31, .ref a32])), (a1, .inr (4, [.int 3, .int 0, .int 1, .ref a2])), (a27, .inl (k 0, 8, .inl (tI [] 0)))] H := hP
        have hD : va_D A [(a0, .inr (7, [.ref a1, .ref a3, .int 0, .ref a5, .ref a8, .ref a9, .int 0, .ref a18, .int 0, .null, .ref a27, .int 0, .ref a28, .ref a29, .ref a30, .ref a31, .ref a32])), (a1, .inr (4, [.int 3, .int 0, .int 1, .ref a2])), (a27, .inl (k 0, 8, .inl (tI [] 0)))] := hD
        refine lv_aload_n hx hb dX10_size_33 rfl (lv_at hl 1 rfl) ?_
        refine va_get (D := D) (ci := 7) (v := .ref a1) (C := RX10) (T := TX10) (N := 17) hx hb hU iX10 hown hK.1 hP 0 rfl rfl 0 (by decide) (hU _ w249) (fun _ h9 => h9) rfl dX10_size_34 ?_
        refine lv_iconst (v := 0) hx hb dX10_size_37 (by decide) ?_
        refine va_put (D := D) (ci := 4) (v := .int 0) (ty := .int) (C := RX5) (T := TX5) (N := 4) hx hb hU iX5 tyX5 tyX5_ok nmX5 hown hK.1 hP hD hS 1 rfl rfl 1 (by decide) (hU _ w97) (fun _ h9 => h9) rfl (by decide +kernel) rfl rfl (Nat.le_of_ble_eq_true rfl) dX10_size_38 (fun H locs hP hD hS => ?_)
        have hP : va_P D cl0 [(a0, .inr (7, [.ref a1, .ref a3, .int 0, .ref a5, .ref a8, .ref a9, .int 0, .ref a18, .int 0, .null, .ref a27, .int 0, .ref a28, .ref a29, .ref a30, .ref a31, .ref a32])), (a1, .inr (4, [.int 3, .int 0, .int 1, .ref a2])), (a27, .inl (k 0, 8, .inl (tI [] 0)))] H := hP
        have hD : va_D A [(a0, .inr (7, [.ref a1, .ref a3, .int 0, .ref a5, .ref a8, .ref a9, .int 0, .ref a18, .int 0, .null, .ref a27, .int 0, .ref a28, .ref a29, .ref a30, .ref a31, .ref a32])), (a1, .inr (4, [.int 3, .int 0, .int 1, .ref a2])), (a27, .inl (k 0, 8, .inl (tI [] 0)))] := hD
        refine lv_aload_n hx hb dX10_size_41 rfl (lv_at hl 1 rfl) ?_
        refine cV (rV (q0 := 0) (ci := 7) (As := []) (rest := []) (wc := [(a0, .inr (7, [.ref a1, .ref a3, .int 0, .ref a5, .ref a8, .ref a9, .int 0, .ref a18, .int 0, .null, .ref a27, .int 0, .ref a28, .ref a29, .ref a30, .ref a31, .ref a32])), (a27, .inl (k 0, 8, .inl (tI [] 0)))]) hx hb hml hown hU hK hP hD rfl rfl [0, 2] rfl (by decide) (cX10_forgetWhatCame_1 l D k _ a0 a27 a1 a3 a5 a8 a9 a18 a28 a29 a30 a31 a32) w308 w305 w307 w0 w63 hdX10_forgetWhatCame ⟨rfl, rfl⟩ ⟨Nat.le_of_ble_eq_true rfl, Nat.le_of_ble_eq_true rfl⟩ rfl hl.1 (Nat.le_of_ble_eq_true rfl) dX10_size_42 ⟨Nat.le_of_ble_eq_true rfl, Nat.le_of_ble_eq_true rfl⟩) hP hD hS hA (wr := [(a1, .inr (4, [.int 3, .int 0, .int 1, .ref a2]))]) [0, 2] [1] rfl rfl (by decide) (by decide) (fun H locs hB J hS => ?_)
        obtain ⟨hP1, hD1⟩ := hB
        obtain ⟨hP, hD⟩ := J _ hP1 hD1
        have hP : va_P D cl0 [(a1, .inr (4, [.int 3, .int 0, .int 1, .ref a2])), (a0, .inr (7, [.ref a1, .ref a3, .int 0, .ref a5, .ref a8, .ref a9, .int 0, .ref a18, .int 0, .null, .ref a27, .int 0, .ref a28, .ref a29, .ref a30, .ref a31, .ref a32])), (a27, .inl (k 0, 8, .inl (tI [] 0)))] H := hP
        have hD : va_D A [(a1, .inr (4, [.int 3, .int 0, .int 1, .ref a2])), (a0, .inr (7, [.ref a1, .ref a3, .int 0, .ref a5, .ref a8, .ref a9, .int 0, .ref a18, .int 0, .null, .ref a27, .int 0, .ref a28, .ref a29, .ref a30, .ref a31, .ref a32])), (a27, .inl (k 0, 8, .inl (tI [] 0)))] := hD
        refine lv_iload_n hx hb dX10_size_45 rfl (lv_at hl 0 rfl) ?_
        exact retI (v := 2) hx hb hr hlocks hS (show (2 : Int32) = F_size 3 by first | decide +kernel | (have g_3 : (3 : Int32).toInt = 3 := (by decide +kernel); unfold F_size; (repeat (first | rw [if_pos (by omega)] | rw [if_neg (by omega)])))) dX10_size_46
    · skip
      refine lv_iconst (v := (-1)) hx hb dX10_size_10 (by decide) ?_
      exact retI (v := (-1)) hx hb hr hlocks hS (show ((-1) : Int32) = F_size x0 by first | decide +kernel | (have f0 := cv_nlt (x := x0.toInt) (y := 1) c_1 rfl (by decide +kernel); have f1 := cv_nle (x := x0.toInt) (y := 3) c_2 rfl (by decide +kernel); unfold F_size; (repeat (first | rw [if_pos (by omega)] | rw [if_neg (by omega)])))) dX10_size_11
abbrev BX5_has_1 (D : va_G) (k : Nat → ClassId) (h0 h1 : Nat) (x0 : Int32) (A : Nat → Prop) (r : Int32) (H : Heap) : Prop := (x0 < 0 ∧ 0 = r ∧ va_P D cl0 [(h0, .inr (4, [.int 2, .int 0, .int 1, .ref h1]))] H ∧ va_D A [(h0, .inr (4, [.int 2, .int 0, .int 1, .ref h1]))]) ∨ (¬ (x0 < 0) ∧ 0 ≤ x0 ∧ 0 = r ∧ va_P D cl0 [(h0, .inr (4, [.int 2, .int 0, .int 1, .ref h1]))] H ∧ va_D A [(h0, .inr (4, [.int 2, .int 0, .int 1, .ref h1]))])
set_option maxHeartbeats 4000000 in
set_option maxRecDepth 100000 in
theorem cX5_has_1 (l : Launch) (D : va_G) (k : Nat → ClassId) (sz : Nat) (h0 h1 : Nat) (x0 : Int32) : Met l yX5_has (Cond.code yX5_has cX5_has 2 (some .boolean) :: uw) ({ frames := 0, cells := 0, slots := 0, locals := 0 }) (pC D k sz [.ref h0, .int x0] [(h0, .inr (4, [.int 2, .int 0, .int 1, .ref h1]))]) (qI (BX5_has_1 D k h0 h1 x0 (va_A [(h0, .inr (4, [.int 2, .int 0, .int 1, .ref h1]))] sz)) (va_A [(h0, .inr (4, [.int 2, .int 0, .int 1, .ref h1]))] sz)) 0 0 (va_A [(h0, .inr (4, [.int 2, .int 0, .int 1, .ref h1]))] sz) := by
  refine begin_ (Qc := fun A => qI (BX5_has_1 D k h0 h1 x0 A) A) (by decide) (Nat.le_of_ble_eq_true rfl) ?_
  intro p e s m below meth c ls A hx hb hr hml hown hlocks hin hU hK hsz hP hD hS hA hl
  have hl : lv_has ls 2 [(0, .ref h0), (1, .int x0)] := hl
  clear hsz
  refine lv_iload_n hx hb dX5_has_0 rfl (lv_at hl 1 rfl) ?_
  refine lv_if_lt (tgt := 16) hx hb dX5_has_1 (by decide) (fun c_1 => ?_) (fun c_1 => ?_)
  · skip
    refine lv_iconst (v := 0) hx hb dX5_has_16 (by decide) ?_
    exact retZ (v := 0) hx hb hr hlocks hS (Or.inl ⟨c_1, rfl, hP, hD⟩) dX5_has_17 (by decide +kernel)
  · skip
    refine lv_iload_n hx hb dX5_has_4 rfl (lv_at hl 1 rfl) ?_
    refine lv_aload_n hx hb dX5_has_5 rfl (lv_at hl 0 rfl) ?_
    refine va_get (D := D) (ci := 4) (v := .int 0) (C := RX5) (T := TX5) (N := 4) hx hb hU iX5 hown hK.1 hP 0 rfl rfl 1 (by decide) (hU _ w96) (fun _ h9 => h9) rfl dX5_has_6 ?_
    refine lv_icmp_ge (tgt := 16) hx hb dX5_has_9 (by decide) (fun c_2 => ?_) (fun c_2 => ?_)
    · skip
      refine lv_iconst (v := 0) hx hb dX5_has_16 (by decide) ?_
      exact retZ (v := 0) hx hb hr hlocks hS (Or.inr (⟨c_1, c_2, rfl, hP, hD⟩)) dX5_has_17 (by decide +kernel)
    · skip
      exfalso
      have f0 := cv_nlt (x := x0.toInt) (y := 0) c_1 rfl (by decide +kernel)
      have f1 := cv_nle (x := 0) (y := x0.toInt) c_2 (by decide +kernel) rfl
      omega
abbrev BX10_made_1 (D : va_G) (k : Nat → ClassId) (a0 a1 a3 a5 a8 a9 a18 a27 a28 a29 a30 a31 a32 a2 : Nat) (x0 : Int32) (x1 : Int32) (x2 : Int32) (A : Nat → Prop) (r : Int32) (H : Heap) : Prop := r = F_made x0 x1 x2
set_option maxHeartbeats 4000000 in
set_option maxRecDepth 100000 in
theorem cX10_made_1 (l : Launch) (D : va_G) (k : Nat → ClassId) (sz : Nat) (a0 a1 a3 a5 a8 a9 a18 a27 a28 a29 a30 a31 a32 a2 : Nat) (x0 : Int32) (x1 : Int32) (x2 : Int32) : Met l yX10_made (Cond.code yX10_made cX10_made 4 (some .int) :: uw) ({ frames := 1, cells := 0, slots := 0, locals := 21 }) (pC D k sz [.ref a0, .int x0, .int x1, .int x2] [(a0, .inr (7, [.ref a1, .ref a3, .int 0, .ref a5, .ref a8, .ref a9, .int 0, .ref a18, .int 0, .null, .ref a27, .int 0, .ref a28, .ref a29, .ref a30, .ref a31, .ref a32])), (a1, .inr (4, [.int 2, .int 0, .int 1, .ref a2]))]) (qI (BX10_made_1 D k a0 a1 a3 a5 a8 a9 a18 a27 a28 a29 a30 a31 a32 a2 x0 x1 x2 (va_A [(a0, .inr (7, [.ref a1, .ref a3, .int 0, .ref a5, .ref a8, .ref a9, .int 0, .ref a18, .int 0, .null, .ref a27, .int 0, .ref a28, .ref a29, .ref a30, .ref a31, .ref a32])), (a1, .inr (4, [.int 2, .int 0, .int 1, .ref a2]))] sz)) (va_A [(a0, .inr (7, [.ref a1, .ref a3, .int 0, .ref a5, .ref a8, .ref a9, .int 0, .ref a18, .int 0, .null, .ref a27, .int 0, .ref a28, .ref a29, .ref a30, .ref a31, .ref a32])), (a1, .inr (4, [.int 2, .int 0, .int 1, .ref a2]))] sz)) 0 0 (va_A [(a0, .inr (7, [.ref a1, .ref a3, .int 0, .ref a5, .ref a8, .ref a9, .int 0, .ref a18, .int 0, .null, .ref a27, .int 0, .ref a28, .ref a29, .ref a30, .ref a31, .ref a32])), (a1, .inr (4, [.int 2, .int 0, .int 1, .ref a2]))] sz) := by
  refine begin_ (Qc := fun A => qI (BX10_made_1 D k a0 a1 a3 a5 a8 a9 a18 a27 a28 a29 a30 a31 a32 a2 x0 x1 x2 A) A) (by decide) (Nat.le_of_ble_eq_true rfl) ?_
  intro p e s m below meth c ls A hx hb hr hml hown hlocks hin hU hK hsz hP hD hS hA hl
  have hl : lv_has ls 4 [(0, .ref a0), (1, .int x0), (2, .int x1), (3, .int x2)] := hl
  clear hsz
  refine lv_iload_n hx hb dX10_made_0 rfl (lv_at hl 1 rfl) ?_
  refine lv_if_lt (tgt := 35) hx hb dX10_made_1 (by decide) (fun c_1 => ?_) (fun c_1 => ?_)
  · skip
    refine lv_iconst (v := (-1)) hx hb dX10_made_35 (by decide) ?_
    exact retI (v := (-1)) hx hb hr hlocks hS (show ((-1) : Int32) = F_made x0 x1 x2 by rfl) dX10_made_36
  · skip
    refine lv_iload_n hx hb dX10_made_4 rfl (lv_at hl 1 rfl) ?_
    refine lv_iconst (v := 3) hx hb dX10_made_5 (by decide) ?_
    refine lv_icmp_gt (tgt := 35) hx hb dX10_made_6 (by decide) (fun c_2 => ?_) (fun c_2 => ?_)
    · skip
      refine lv_iconst (v := (-1)) hx hb dX10_made_35 (by decide) ?_
      exact retI (v := (-1)) hx hb hr hlocks hS (show ((-1) : Int32) = F_made x0 x1 x2 by rfl) dX10_made_36
    · skip
      refine lv_aload_n hx hb dX10_made_9 rfl (lv_at hl 0 rfl) ?_
      refine va_get (D := D) (ci := 7) (v := .ref a1) (C := RX10) (T := TX10) (N := 17) hx hb hU iX10 hown hK.1 hP 0 rfl rfl 0 (by decide) (hU _ w249) (fun _ h9 => h9) rfl dX10_made_10 ?_
      refine lv_iload_n hx hb dX10_made_13 rfl (lv_at hl 2 rfl) ?_
      refine cI (rV (q0 := 1) (ci := 4) (As := [.int x1]) (rest := []) (wc := [(a1, .inr (4, [.int 2, .int 0, .int 1, .ref a2]))]) hx hb hml hown hU hK hP hD rfl rfl [1] rfl (by decide) (cX5_has_1 l D k _ a1 a2 (x1)) w356 w353 w354 w355 w64 hdX5_has ⟨rfl, rfl⟩ ⟨Nat.le_of_ble_eq_true rfl, Nat.le_of_ble_eq_true rfl⟩ rfl hl.1 (Nat.le_of_ble_eq_true rfl) dX10_made_14 ⟨Nat.le_of_ble_eq_true rfl, Nat.le_of_ble_eq_true rfl⟩) hP hD hS hA (wr := [(a0, .inr (7, [.ref a1, .ref a3, .int 0, .ref a5, .ref a8, .ref a9, .int 0, .ref a18, .int 0, .null, .ref a27, .int 0, .ref a28, .ref a29, .ref a30, .ref a31, .ref a32]))]) [1] [0] rfl rfl (by decide) (by decide) (fun r3 H locs hB J hS => ?_)
      rcases hB with ⟨c_4, rfl, hP1, hD1⟩ | ⟨c_5, c_6, rfl, hP1, hD1⟩
      · skip
        obtain ⟨hP, hD⟩ := J _ hP1 hD1
        have hP : va_P D cl0 [(a0, .inr (7, [.ref a1, .ref a3, .int 0, .ref a5, .ref a8, .ref a9, .int 0, .ref a18, .int 0, .null, .ref a27, .int 0, .ref a28, .ref a29, .ref a30, .ref a31, .ref a32])), (a1, .inr (4, [.int 2, .int 0, .int 1, .ref a2]))] H := hP
        have hD : va_D A [(a0, .inr (7, [.ref a1, .ref a3, .int 0, .ref a5, .ref a8, .ref a9, .int 0, .ref a18, .int 0, .null, .ref a27, .int 0, .ref a28, .ref a29, .ref a30, .ref a31, .ref a32])), (a1, .inr (4, [.int 2, .int 0, .int 1, .ref a2]))] := hD
        refine lv_if_eq (tgt := 35) hx hb dX10_made_17 (by decide) (fun _ => ?_) (fun cc => absurd (by decide +kernel) cc)
        refine lv_iconst (v := (-1)) hx hb dX10_made_35 (by decide) ?_
        exact retI (v := (-1)) hx hb hr hlocks hS (show ((-1) : Int32) = F_made x0 x1 x2 by rfl) dX10_made_36
      · skip
        obtain ⟨hP, hD⟩ := J _ hP1 hD1
        have hP : va_P D cl0 [(a0, .inr (7, [.ref a1, .ref a3, .int 0, .ref a5, .ref a8, .ref a9, .int 0, .ref a18, .int 0, .null, .ref a27, .int 0, .ref a28, .ref a29, .ref a30, .ref a31, .ref a32])), (a1, .inr (4, [.int 2, .int 0, .int 1, .ref a2]))] H := hP
        have hD : va_D A [(a0, .inr (7, [.ref a1, .ref a3, .int 0, .ref a5, .ref a8, .ref a9, .int 0, .ref a18, .int 0, .null, .ref a27, .int 0, .ref a28, .ref a29, .ref a30, .ref a31, .ref a32])), (a1, .inr (4, [.int 2, .int 0, .int 1, .ref a2]))] := hD
        refine lv_if_eq (tgt := 35) hx hb dX10_made_17 (by decide) (fun _ => ?_) (fun cc => absurd (by decide +kernel) cc)
        refine lv_iconst (v := (-1)) hx hb dX10_made_35 (by decide) ?_
        exact retI (v := (-1)) hx hb hr hlocks hS (show ((-1) : Int32) = F_made x0 x1 x2 by rfl) dX10_made_36
abbrev BX10_drop_1 (D : va_G) (k : Nat → ClassId) (a0 a1 a3 a5 a8 a9 a18 a27 a28 a29 a30 a31 a32 a2 : Nat) (A : Nat → Prop) (r : Int32) (H : Heap) : Prop := r = F_drop
set_option maxHeartbeats 4000000 in
set_option maxRecDepth 100000 in
theorem cX10_drop_1 (l : Launch) (D : va_G) (k : Nat → ClassId) (sz : Nat) (a0 a1 a3 a5 a8 a9 a18 a27 a28 a29 a30 a31 a32 a2 : Nat) : Met l yX10_drop (Cond.code yX10_drop cX10_drop 1 (some .int) :: uw) ({ frames := 0, cells := 0, slots := 0, locals := 0 }) (pC D k sz [.ref a0] [(a0, .inr (7, [.ref a1, .ref a3, .int 0, .ref a5, .ref a8, .ref a9, .int 0, .ref a18, .int 0, .null, .ref a27, .int 0, .ref a28, .ref a29, .ref a30, .ref a31, .ref a32])), (a1, .inr (4, [.int 2, .int 0, .int 1, .ref a2]))]) (qI (BX10_drop_1 D k a0 a1 a3 a5 a8 a9 a18 a27 a28 a29 a30 a31 a32 a2 (va_A [(a0, .inr (7, [.ref a1, .ref a3, .int 0, .ref a5, .ref a8, .ref a9, .int 0, .ref a18, .int 0, .null, .ref a27, .int 0, .ref a28, .ref a29, .ref a30, .ref a31, .ref a32])), (a1, .inr (4, [.int 2, .int 0, .int 1, .ref a2]))] sz)) (va_A [(a0, .inr (7, [.ref a1, .ref a3, .int 0, .ref a5, .ref a8, .ref a9, .int 0, .ref a18, .int 0, .null, .ref a27, .int 0, .ref a28, .ref a29, .ref a30, .ref a31, .ref a32])), (a1, .inr (4, [.int 2, .int 0, .int 1, .ref a2]))] sz)) 0 0 (va_A [(a0, .inr (7, [.ref a1, .ref a3, .int 0, .ref a5, .ref a8, .ref a9, .int 0, .ref a18, .int 0, .null, .ref a27, .int 0, .ref a28, .ref a29, .ref a30, .ref a31, .ref a32])), (a1, .inr (4, [.int 2, .int 0, .int 1, .ref a2]))] sz) := by
  refine begin_ (Qc := fun A => qI (BX10_drop_1 D k a0 a1 a3 a5 a8 a9 a18 a27 a28 a29 a30 a31 a32 a2 A) A) (by decide) (Nat.le_of_ble_eq_true rfl) ?_
  intro p e s m below meth c ls A hx hb hr hml hown hlocks hin hU hK hsz hP hD hS hA hl
  have hl : lv_has ls 1 [(0, .ref a0)] := hl
  clear hsz
  refine lv_aload_n hx hb dX10_drop_0 rfl (lv_at hl 0 rfl) ?_
  refine va_get (D := D) (ci := 7) (v := .ref a1) (C := RX10) (T := TX10) (N := 17) hx hb hU iX10 hown hK.1 hP 0 rfl rfl 0 (by decide) (hU _ w249) (fun _ h9 => h9) rfl dX10_drop_1 ?_
  refine va_get (D := D) (ci := 4) (v := .int 0) (C := RX5) (T := TX5) (N := 4) hx hb hU iX5 hown hK.1 hP 1 rfl rfl 1 (by decide) (hU _ w97) (fun _ h9 => h9) rfl dX10_drop_4 ?_
  refine lv_if_ne (tgt := 13) hx hb dX10_drop_7 (by decide) (fun cc => absurd (by decide +kernel) cc) (fun _ => ?_)
  refine lv_bipush (v := (-3)) hx hb dX10_drop_10 (by decide) ?_
  exact retI (v := (-3)) hx hb hr hlocks hS (show ((-3) : Int32) = F_drop by rfl) dX10_drop_12
abbrev BX10_at_1 (D : va_G) (k : Nat → ClassId) (a0 a1 a3 a5 a8 a9 a18 a27 a28 a29 a30 a31 a32 a2 : Nat) (x0 : Int32) (x1 : Int32) (x2 : Int32) (A : Nat → Prop) (r : Int32) (H : Heap) : Prop := r = F_at x0 x1 x2
set_option maxHeartbeats 4000000 in
set_option maxRecDepth 100000 in
theorem cX10_at_1 (l : Launch) (D : va_G) (k : Nat → ClassId) (sz : Nat) (a0 a1 a3 a5 a8 a9 a18 a27 a28 a29 a30 a31 a32 a2 : Nat) (x0 : Int32) (x1 : Int32) (x2 : Int32) : Met l yX10_at (Cond.code yX10_at cX10_at 4 (some .int) :: uw) ({ frames := 1, cells := 0, slots := 0, locals := 21 }) (pC D k sz [.ref a0, .int x0, .int x1, .int x2] [(a0, .inr (7, [.ref a1, .ref a3, .int 0, .ref a5, .ref a8, .ref a9, .int 0, .ref a18, .int 0, .null, .ref a27, .int 0, .ref a28, .ref a29, .ref a30, .ref a31, .ref a32])), (a1, .inr (4, [.int 2, .int 0, .int 1, .ref a2]))]) (qI (BX10_at_1 D k a0 a1 a3 a5 a8 a9 a18 a27 a28 a29 a30 a31 a32 a2 x0 x1 x2 (va_A [(a0, .inr (7, [.ref a1, .ref a3, .int 0, .ref a5, .ref a8, .ref a9, .int 0, .ref a18, .int 0, .null, .ref a27, .int 0, .ref a28, .ref a29, .ref a30, .ref a31, .ref a32])), (a1, .inr (4, [.int 2, .int 0, .int 1, .ref a2]))] sz)) (va_A [(a0, .inr (7, [.ref a1, .ref a3, .int 0, .ref a5, .ref a8, .ref a9, .int 0, .ref a18, .int 0, .null, .ref a27, .int 0, .ref a28, .ref a29, .ref a30, .ref a31, .ref a32])), (a1, .inr (4, [.int 2, .int 0, .int 1, .ref a2]))] sz)) 0 0 (va_A [(a0, .inr (7, [.ref a1, .ref a3, .int 0, .ref a5, .ref a8, .ref a9, .int 0, .ref a18, .int 0, .null, .ref a27, .int 0, .ref a28, .ref a29, .ref a30, .ref a31, .ref a32])), (a1, .inr (4, [.int 2, .int 0, .int 1, .ref a2]))] sz) := by
  refine begin_ (Qc := fun A => qI (BX10_at_1 D k a0 a1 a3 a5 a8 a9 a18 a27 a28 a29 a30 a31 a32 a2 x0 x1 x2 A) A) (by decide) (Nat.le_of_ble_eq_true rfl) ?_
  intro p e s m below meth c ls A hx hb hr hml hown hlocks hin hU hK hsz hP hD hS hA hl
  have hl : lv_has ls 4 [(0, .ref a0), (1, .int x0), (2, .int x1), (3, .int x2)] := hl
  clear hsz
  refine lv_aload_n hx hb dX10_at_0 rfl (lv_at hl 0 rfl) ?_
  refine va_get (D := D) (ci := 7) (v := .ref a1) (C := RX10) (T := TX10) (N := 17) hx hb hU iX10 hown hK.1 hP 0 rfl rfl 0 (by decide) (hU _ w249) (fun _ h9 => h9) rfl dX10_at_1 ?_
  refine lv_iload_n hx hb dX10_at_4 rfl (lv_at hl 1 rfl) ?_
  refine cI (rV (q0 := 1) (ci := 4) (As := [.int x0]) (rest := []) (wc := [(a1, .inr (4, [.int 2, .int 0, .int 1, .ref a2]))]) hx hb hml hown hU hK hP hD rfl rfl [1] rfl (by decide) (cX5_has_1 l D k _ a1 a2 (x0)) w356 w353 w354 w355 w64 hdX5_has ⟨rfl, rfl⟩ ⟨Nat.le_of_ble_eq_true rfl, Nat.le_of_ble_eq_true rfl⟩ rfl hl.1 (Nat.le_of_ble_eq_true rfl) dX10_at_5 ⟨Nat.le_of_ble_eq_true rfl, Nat.le_of_ble_eq_true rfl⟩) hP hD hS hA (wr := [(a0, .inr (7, [.ref a1, .ref a3, .int 0, .ref a5, .ref a8, .ref a9, .int 0, .ref a18, .int 0, .null, .ref a27, .int 0, .ref a28, .ref a29, .ref a30, .ref a31, .ref a32]))]) [1] [0] rfl rfl (by decide) (by decide) (fun r1 H locs hB J hS => ?_)
  rcases hB with ⟨c_2, rfl, hP1, hD1⟩ | ⟨c_3, c_4, rfl, hP1, hD1⟩
  · skip
    obtain ⟨hP, hD⟩ := J _ hP1 hD1
    have hP : va_P D cl0 [(a0, .inr (7, [.ref a1, .ref a3, .int 0, .ref a5, .ref a8, .ref a9, .int 0, .ref a18, .int 0, .null, .ref a27, .int 0, .ref a28, .ref a29, .ref a30, .ref a31, .ref a32])), (a1, .inr (4, [.int 2, .int 0, .int 1, .ref a2]))] H := hP
    have hD : va_D A [(a0, .inr (7, [.ref a1, .ref a3, .int 0, .ref a5, .ref a8, .ref a9, .int 0, .ref a18, .int 0, .null, .ref a27, .int 0, .ref a28, .ref a29, .ref a30, .ref a31, .ref a32])), (a1, .inr (4, [.int 2, .int 0, .int 1, .ref a2]))] := hD
    refine lv_if_eq (tgt := 23) hx hb dX10_at_8 (by decide) (fun _ => ?_) (fun cc => absurd (by decide +kernel) cc)
    refine lv_iconst (v := (-1)) hx hb dX10_at_23 (by decide) ?_
    exact retI (v := (-1)) hx hb hr hlocks hS (show ((-1) : Int32) = F_at x0 x1 x2 by rfl) dX10_at_24
  · skip
    obtain ⟨hP, hD⟩ := J _ hP1 hD1
    have hP : va_P D cl0 [(a0, .inr (7, [.ref a1, .ref a3, .int 0, .ref a5, .ref a8, .ref a9, .int 0, .ref a18, .int 0, .null, .ref a27, .int 0, .ref a28, .ref a29, .ref a30, .ref a31, .ref a32])), (a1, .inr (4, [.int 2, .int 0, .int 1, .ref a2]))] H := hP
    have hD : va_D A [(a0, .inr (7, [.ref a1, .ref a3, .int 0, .ref a5, .ref a8, .ref a9, .int 0, .ref a18, .int 0, .null, .ref a27, .int 0, .ref a28, .ref a29, .ref a30, .ref a31, .ref a32])), (a1, .inr (4, [.int 2, .int 0, .int 1, .ref a2]))] := hD
    refine lv_if_eq (tgt := 23) hx hb dX10_at_8 (by decide) (fun _ => ?_) (fun cc => absurd (by decide +kernel) cc)
    refine lv_iconst (v := (-1)) hx hb dX10_at_23 (by decide) ?_
    exact retI (v := (-1)) hx hb hr hlocks hS (show ((-1) : Int32) = F_at x0 x1 x2 by rfl) dX10_at_24
abbrev BX10_of_1 (D : va_G) (k : Nat → ClassId) (a0 a1 a3 a5 a8 a9 a18 a27 a28 a29 a30 a31 a32 a2 : Nat) (x0 : Int32) (x1 : Int32) (A : Nat → Prop) (r : Int32) (H : Heap) : Prop := r = F_of x0 x1
set_option maxHeartbeats 4000000 in
set_option maxRecDepth 100000 in
theorem cX10_of_1 (l : Launch) (D : va_G) (k : Nat → ClassId) (sz : Nat) (a0 a1 a3 a5 a8 a9 a18 a27 a28 a29 a30 a31 a32 a2 : Nat) (x0 : Int32) (x1 : Int32) : Met l yX10_of (Cond.code yX10_of cX10_of 4 (some .int) :: uw) ({ frames := 1, cells := 0, slots := 0, locals := 21 }) (pC D k sz [.ref a0, .int x0, .int x1] [(a0, .inr (7, [.ref a1, .ref a3, .int 0, .ref a5, .ref a8, .ref a9, .int 0, .ref a18, .int 0, .null, .ref a27, .int 0, .ref a28, .ref a29, .ref a30, .ref a31, .ref a32])), (a1, .inr (4, [.int 2, .int 0, .int 1, .ref a2]))]) (qI (BX10_of_1 D k a0 a1 a3 a5 a8 a9 a18 a27 a28 a29 a30 a31 a32 a2 x0 x1 (va_A [(a0, .inr (7, [.ref a1, .ref a3, .int 0, .ref a5, .ref a8, .ref a9, .int 0, .ref a18, .int 0, .null, .ref a27, .int 0, .ref a28, .ref a29, .ref a30, .ref a31, .ref a32])), (a1, .inr (4, [.int 2, .int 0, .int 1, .ref a2]))] sz)) (va_A [(a0, .inr (7, [.ref a1, .ref a3, .int 0, .ref a5, .ref a8, .ref a9, .int 0, .ref a18, .int 0, .null, .ref a27, .int 0, .ref a28, .ref a29, .ref a30, .ref a31, .ref a32])), (a1, .inr (4, [.int 2, .int 0, .int 1, .ref a2]))] sz)) 0 0 (va_A [(a0, .inr (7, [.ref a1, .ref a3, .int 0, .ref a5, .ref a8, .ref a9, .int 0, .ref a18, .int 0, .null, .ref a27, .int 0, .ref a28, .ref a29, .ref a30, .ref a31, .ref a32])), (a1, .inr (4, [.int 2, .int 0, .int 1, .ref a2]))] sz) := by
  refine begin_ (Qc := fun A => qI (BX10_of_1 D k a0 a1 a3 a5 a8 a9 a18 a27 a28 a29 a30 a31 a32 a2 x0 x1 A) A) (by decide) (Nat.le_of_ble_eq_true rfl) ?_
  intro p e s m below meth c ls A hx hb hr hml hown hlocks hin hU hK hsz hP hD hS hA hl
  have hl : lv_has ls 4 [(0, .ref a0), (1, .int x0), (2, .int x1)] := hl
  clear hsz
  refine lv_aload_n hx hb dX10_of_0 rfl (lv_at hl 0 rfl) ?_
  refine va_get (D := D) (ci := 7) (v := .ref a1) (C := RX10) (T := TX10) (N := 17) hx hb hU iX10 hown hK.1 hP 0 rfl rfl 0 (by decide) (hU _ w249) (fun _ h9 => h9) rfl dX10_of_1 ?_
  refine lv_iload_n hx hb dX10_of_4 rfl (lv_at hl 1 rfl) ?_
  refine cI (rV (q0 := 1) (ci := 4) (As := [.int x0]) (rest := []) (wc := [(a1, .inr (4, [.int 2, .int 0, .int 1, .ref a2]))]) hx hb hml hown hU hK hP hD rfl rfl [1] rfl (by decide) (cX5_has_1 l D k _ a1 a2 (x0)) w356 w353 w354 w355 w64 hdX5_has ⟨rfl, rfl⟩ ⟨Nat.le_of_ble_eq_true rfl, Nat.le_of_ble_eq_true rfl⟩ rfl hl.1 (Nat.le_of_ble_eq_true rfl) dX10_of_5 ⟨Nat.le_of_ble_eq_true rfl, Nat.le_of_ble_eq_true rfl⟩) hP hD hS hA (wr := [(a0, .inr (7, [.ref a1, .ref a3, .int 0, .ref a5, .ref a8, .ref a9, .int 0, .ref a18, .int 0, .null, .ref a27, .int 0, .ref a28, .ref a29, .ref a30, .ref a31, .ref a32]))]) [1] [0] rfl rfl (by decide) (by decide) (fun r1 H locs hB J hS => ?_)
  rcases hB with ⟨c_2, rfl, hP1, hD1⟩ | ⟨c_3, c_4, rfl, hP1, hD1⟩
  · skip
    obtain ⟨hP, hD⟩ := J _ hP1 hD1
    have hP : va_P D cl0 [(a0, .inr (7, [.ref a1, .ref a3, .int 0, .ref a5, .ref a8, .ref a9, .int 0, .ref a18, .int 0, .null, .ref a27, .int 0, .ref a28, .ref a29, .ref a30, .ref a31, .ref a32])), (a1, .inr (4, [.int 2, .int 0, .int 1, .ref a2]))] H := hP
    have hD : va_D A [(a0, .inr (7, [.ref a1, .ref a3, .int 0, .ref a5, .ref a8, .ref a9, .int 0, .ref a18, .int 0, .null, .ref a27, .int 0, .ref a28, .ref a29, .ref a30, .ref a31, .ref a32])), (a1, .inr (4, [.int 2, .int 0, .int 1, .ref a2]))] := hD
    refine lv_if_eq (tgt := 20) hx hb dX10_of_8 (by decide) (fun _ => ?_) (fun cc => absurd (by decide +kernel) cc)
    refine lv_iconst (v := (-1)) hx hb dX10_of_20 (by decide) ?_
    exact retI (v := (-1)) hx hb hr hlocks hS (show ((-1) : Int32) = F_of x0 x1 by rfl) dX10_of_21
  · skip
    obtain ⟨hP, hD⟩ := J _ hP1 hD1
    have hP : va_P D cl0 [(a0, .inr (7, [.ref a1, .ref a3, .int 0, .ref a5, .ref a8, .ref a9, .int 0, .ref a18, .int 0, .null, .ref a27, .int 0, .ref a28, .ref a29, .ref a30, .ref a31, .ref a32])), (a1, .inr (4, [.int 2, .int 0, .int 1, .ref a2]))] H := hP
    have hD : va_D A [(a0, .inr (7, [.ref a1, .ref a3, .int 0, .ref a5, .ref a8, .ref a9, .int 0, .ref a18, .int 0, .null, .ref a27, .int 0, .ref a28, .ref a29, .ref a30, .ref a31, .ref a32])), (a1, .inr (4, [.int 2, .int 0, .int 1, .ref a2]))] := hD
    refine lv_if_eq (tgt := 20) hx hb dX10_of_8 (by decide) (fun _ => ?_) (fun cc => absurd (by decide +kernel) cc)
    refine lv_iconst (v := (-1)) hx hb dX10_of_20 (by decide) ?_
    exact retI (v := (-1)) hx hb hr hlocks hS (show ((-1) : Int32) = F_of x0 x1 by rfl) dX10_of_21
abbrev BX10_character_1 (D : va_G) (k : Nat → ClassId) (a0 a1 a3 a5 a8 a9 a18 a27 a28 a29 a30 a31 a32 a2 : Nat) (x0 : Int32) (x1 : Int32) (A : Nat → Prop) (r : Int32) (H : Heap) : Prop := r = F_character x0 x1
set_option maxHeartbeats 4000000 in
set_option maxRecDepth 100000 in
theorem cX10_character_1 (l : Launch) (D : va_G) (k : Nat → ClassId) (sz : Nat) (a0 a1 a3 a5 a8 a9 a18 a27 a28 a29 a30 a31 a32 a2 : Nat) (x0 : Int32) (x1 : Int32) : Met l yX10_character (Cond.code yX10_character cX10_character 3 (some .int) :: uw) ({ frames := 1, cells := 0, slots := 0, locals := 21 }) (pC D k sz [.ref a0, .int x0, .int x1] [(a0, .inr (7, [.ref a1, .ref a3, .int 0, .ref a5, .ref a8, .ref a9, .int 0, .ref a18, .int 0, .null, .ref a27, .int 0, .ref a28, .ref a29, .ref a30, .ref a31, .ref a32])), (a1, .inr (4, [.int 2, .int 0, .int 1, .ref a2]))]) (qI (BX10_character_1 D k a0 a1 a3 a5 a8 a9 a18 a27 a28 a29 a30 a31 a32 a2 x0 x1 (va_A [(a0, .inr (7, [.ref a1, .ref a3, .int 0, .ref a5, .ref a8, .ref a9, .int 0, .ref a18, .int 0, .null, .ref a27, .int 0, .ref a28, .ref a29, .ref a30, .ref a31, .ref a32])), (a1, .inr (4, [.int 2, .int 0, .int 1, .ref a2]))] sz)) (va_A [(a0, .inr (7, [.ref a1, .ref a3, .int 0, .ref a5, .ref a8, .ref a9, .int 0, .ref a18, .int 0, .null, .ref a27, .int 0, .ref a28, .ref a29, .ref a30, .ref a31, .ref a32])), (a1, .inr (4, [.int 2, .int 0, .int 1, .ref a2]))] sz)) 0 0 (va_A [(a0, .inr (7, [.ref a1, .ref a3, .int 0, .ref a5, .ref a8, .ref a9, .int 0, .ref a18, .int 0, .null, .ref a27, .int 0, .ref a28, .ref a29, .ref a30, .ref a31, .ref a32])), (a1, .inr (4, [.int 2, .int 0, .int 1, .ref a2]))] sz) := by
  refine begin_ (Qc := fun A => qI (BX10_character_1 D k a0 a1 a3 a5 a8 a9 a18 a27 a28 a29 a30 a31 a32 a2 x0 x1 A) A) (by decide) (Nat.le_of_ble_eq_true rfl) ?_
  intro p e s m below meth c ls A hx hb hr hml hown hlocks hin hU hK hsz hP hD hS hA hl
  have hl : lv_has ls 3 [(0, .ref a0), (1, .int x0), (2, .int x1)] := hl
  clear hsz
  refine lv_aload_n hx hb dX10_character_0 rfl (lv_at hl 0 rfl) ?_
  refine va_get (D := D) (ci := 7) (v := .ref a1) (C := RX10) (T := TX10) (N := 17) hx hb hU iX10 hown hK.1 hP 0 rfl rfl 0 (by decide) (hU _ w249) (fun _ h9 => h9) rfl dX10_character_1 ?_
  refine lv_iload_n hx hb dX10_character_4 rfl (lv_at hl 1 rfl) ?_
  refine cI (rV (q0 := 1) (ci := 4) (As := [.int x0]) (rest := []) (wc := [(a1, .inr (4, [.int 2, .int 0, .int 1, .ref a2]))]) hx hb hml hown hU hK hP hD rfl rfl [1] rfl (by decide) (cX5_has_1 l D k _ a1 a2 (x0)) w356 w353 w354 w355 w64 hdX5_has ⟨rfl, rfl⟩ ⟨Nat.le_of_ble_eq_true rfl, Nat.le_of_ble_eq_true rfl⟩ rfl hl.1 (Nat.le_of_ble_eq_true rfl) dX10_character_5 ⟨Nat.le_of_ble_eq_true rfl, Nat.le_of_ble_eq_true rfl⟩) hP hD hS hA (wr := [(a0, .inr (7, [.ref a1, .ref a3, .int 0, .ref a5, .ref a8, .ref a9, .int 0, .ref a18, .int 0, .null, .ref a27, .int 0, .ref a28, .ref a29, .ref a30, .ref a31, .ref a32]))]) [1] [0] rfl rfl (by decide) (by decide) (fun r1 H locs hB J hS => ?_)
  rcases hB with ⟨c_2, rfl, hP1, hD1⟩ | ⟨c_3, c_4, rfl, hP1, hD1⟩
  · skip
    obtain ⟨hP, hD⟩ := J _ hP1 hD1
    have hP : va_P D cl0 [(a0, .inr (7, [.ref a1, .ref a3, .int 0, .ref a5, .ref a8, .ref a9, .int 0, .ref a18, .int 0, .null, .ref a27, .int 0, .ref a28, .ref a29, .ref a30, .ref a31, .ref a32])), (a1, .inr (4, [.int 2, .int 0, .int 1, .ref a2]))] H := hP
    have hD : va_D A [(a0, .inr (7, [.ref a1, .ref a3, .int 0, .ref a5, .ref a8, .ref a9, .int 0, .ref a18, .int 0, .null, .ref a27, .int 0, .ref a28, .ref a29, .ref a30, .ref a31, .ref a32])), (a1, .inr (4, [.int 2, .int 0, .int 1, .ref a2]))] := hD
    refine lv_if_eq (tgt := 26) hx hb dX10_character_8 (by decide) (fun _ => ?_) (fun cc => absurd (by decide +kernel) cc)
    refine lv_iconst (v := (-1)) hx hb dX10_character_26 (by decide) ?_
    exact retI (v := (-1)) hx hb hr hlocks hS (show ((-1) : Int32) = F_character x0 x1 by rfl) dX10_character_27
  · skip
    obtain ⟨hP, hD⟩ := J _ hP1 hD1
    have hP : va_P D cl0 [(a0, .inr (7, [.ref a1, .ref a3, .int 0, .ref a5, .ref a8, .ref a9, .int 0, .ref a18, .int 0, .null, .ref a27, .int 0, .ref a28, .ref a29, .ref a30, .ref a31, .ref a32])), (a1, .inr (4, [.int 2, .int 0, .int 1, .ref a2]))] H := hP
    have hD : va_D A [(a0, .inr (7, [.ref a1, .ref a3, .int 0, .ref a5, .ref a8, .ref a9, .int 0, .ref a18, .int 0, .null, .ref a27, .int 0, .ref a28, .ref a29, .ref a30, .ref a31, .ref a32])), (a1, .inr (4, [.int 2, .int 0, .int 1, .ref a2]))] := hD
    refine lv_if_eq (tgt := 26) hx hb dX10_character_8 (by decide) (fun _ => ?_) (fun cc => absurd (by decide +kernel) cc)
    refine lv_iconst (v := (-1)) hx hb dX10_character_26 (by decide) ?_
    exact retI (v := (-1)) hx hb hr hlocks hS (show ((-1) : Int32) = F_character x0 x1 by rfl) dX10_character_27
abbrev BX10_factor_1 (D : va_G) (k : Nat → ClassId) (a0 a1 a3 a5 a8 a9 a18 a27 a28 a29 a30 a31 a32 a2 : Nat) (x0 : Int32) (x1 : Int32) (A : Nat → Prop) (r : Int32) (H : Heap) : Prop := r = F_factor x0 x1
set_option maxHeartbeats 4000000 in
set_option maxRecDepth 100000 in
theorem cX10_factor_1 (l : Launch) (D : va_G) (k : Nat → ClassId) (sz : Nat) (a0 a1 a3 a5 a8 a9 a18 a27 a28 a29 a30 a31 a32 a2 : Nat) (x0 : Int32) (x1 : Int32) : Met l yX10_factor (Cond.code yX10_factor cX10_factor 4 (some .int) :: uw) ({ frames := 1, cells := 0, slots := 0, locals := 21 }) (pC D k sz [.ref a0, .int x0, .int x1] [(a0, .inr (7, [.ref a1, .ref a3, .int 0, .ref a5, .ref a8, .ref a9, .int 0, .ref a18, .int 0, .null, .ref a27, .int 0, .ref a28, .ref a29, .ref a30, .ref a31, .ref a32])), (a1, .inr (4, [.int 2, .int 0, .int 1, .ref a2]))]) (qI (BX10_factor_1 D k a0 a1 a3 a5 a8 a9 a18 a27 a28 a29 a30 a31 a32 a2 x0 x1 (va_A [(a0, .inr (7, [.ref a1, .ref a3, .int 0, .ref a5, .ref a8, .ref a9, .int 0, .ref a18, .int 0, .null, .ref a27, .int 0, .ref a28, .ref a29, .ref a30, .ref a31, .ref a32])), (a1, .inr (4, [.int 2, .int 0, .int 1, .ref a2]))] sz)) (va_A [(a0, .inr (7, [.ref a1, .ref a3, .int 0, .ref a5, .ref a8, .ref a9, .int 0, .ref a18, .int 0, .null, .ref a27, .int 0, .ref a28, .ref a29, .ref a30, .ref a31, .ref a32])), (a1, .inr (4, [.int 2, .int 0, .int 1, .ref a2]))] sz)) 0 0 (va_A [(a0, .inr (7, [.ref a1, .ref a3, .int 0, .ref a5, .ref a8, .ref a9, .int 0, .ref a18, .int 0, .null, .ref a27, .int 0, .ref a28, .ref a29, .ref a30, .ref a31, .ref a32])), (a1, .inr (4, [.int 2, .int 0, .int 1, .ref a2]))] sz) := by
  refine begin_ (Qc := fun A => qI (BX10_factor_1 D k a0 a1 a3 a5 a8 a9 a18 a27 a28 a29 a30 a31 a32 a2 x0 x1 A) A) (by decide) (Nat.le_of_ble_eq_true rfl) ?_
  intro p e s m below meth c ls A hx hb hr hml hown hlocks hin hU hK hsz hP hD hS hA hl
  have hl : lv_has ls 4 [(0, .ref a0), (1, .int x0), (2, .int x1)] := hl
  clear hsz
  refine lv_aload_n hx hb dX10_factor_0 rfl (lv_at hl 0 rfl) ?_
  refine va_get (D := D) (ci := 7) (v := .ref a1) (C := RX10) (T := TX10) (N := 17) hx hb hU iX10 hown hK.1 hP 0 rfl rfl 0 (by decide) (hU _ w249) (fun _ h9 => h9) rfl dX10_factor_1 ?_
  refine lv_iload_n hx hb dX10_factor_4 rfl (lv_at hl 1 rfl) ?_
  refine cI (rV (q0 := 1) (ci := 4) (As := [.int x0]) (rest := []) (wc := [(a1, .inr (4, [.int 2, .int 0, .int 1, .ref a2]))]) hx hb hml hown hU hK hP hD rfl rfl [1] rfl (by decide) (cX5_has_1 l D k _ a1 a2 (x0)) w356 w353 w354 w355 w64 hdX5_has ⟨rfl, rfl⟩ ⟨Nat.le_of_ble_eq_true rfl, Nat.le_of_ble_eq_true rfl⟩ rfl hl.1 (Nat.le_of_ble_eq_true rfl) dX10_factor_5 ⟨Nat.le_of_ble_eq_true rfl, Nat.le_of_ble_eq_true rfl⟩) hP hD hS hA (wr := [(a0, .inr (7, [.ref a1, .ref a3, .int 0, .ref a5, .ref a8, .ref a9, .int 0, .ref a18, .int 0, .null, .ref a27, .int 0, .ref a28, .ref a29, .ref a30, .ref a31, .ref a32]))]) [1] [0] rfl rfl (by decide) (by decide) (fun r1 H locs hB J hS => ?_)
  rcases hB with ⟨c_2, rfl, hP1, hD1⟩ | ⟨c_3, c_4, rfl, hP1, hD1⟩
  · skip
    obtain ⟨hP, hD⟩ := J _ hP1 hD1
    have hP : va_P D cl0 [(a0, .inr (7, [.ref a1, .ref a3, .int 0, .ref a5, .ref a8, .ref a9, .int 0, .ref a18, .int 0, .null, .ref a27, .int 0, .ref a28, .ref a29, .ref a30, .ref a31, .ref a32])), (a1, .inr (4, [.int 2, .int 0, .int 1, .ref a2]))] H := hP
    have hD : va_D A [(a0, .inr (7, [.ref a1, .ref a3, .int 0, .ref a5, .ref a8, .ref a9, .int 0, .ref a18, .int 0, .null, .ref a27, .int 0, .ref a28, .ref a29, .ref a30, .ref a31, .ref a32])), (a1, .inr (4, [.int 2, .int 0, .int 1, .ref a2]))] := hD
    refine lv_if_eq (tgt := 18) hx hb dX10_factor_8 (by decide) (fun _ => ?_) (fun cc => absurd (by decide +kernel) cc)
    refine lv_iconst (v := (-1)) hx hb dX10_factor_18 (by decide) ?_
    exact retI (v := (-1)) hx hb hr hlocks hS (show ((-1) : Int32) = F_factor x0 x1 by rfl) dX10_factor_19
  · skip
    obtain ⟨hP, hD⟩ := J _ hP1 hD1
    have hP : va_P D cl0 [(a0, .inr (7, [.ref a1, .ref a3, .int 0, .ref a5, .ref a8, .ref a9, .int 0, .ref a18, .int 0, .null, .ref a27, .int 0, .ref a28, .ref a29, .ref a30, .ref a31, .ref a32])), (a1, .inr (4, [.int 2, .int 0, .int 1, .ref a2]))] H := hP
    have hD : va_D A [(a0, .inr (7, [.ref a1, .ref a3, .int 0, .ref a5, .ref a8, .ref a9, .int 0, .ref a18, .int 0, .null, .ref a27, .int 0, .ref a28, .ref a29, .ref a30, .ref a31, .ref a32])), (a1, .inr (4, [.int 2, .int 0, .int 1, .ref a2]))] := hD
    refine lv_if_eq (tgt := 18) hx hb dX10_factor_8 (by decide) (fun _ => ?_) (fun cc => absurd (by decide +kernel) cc)
    refine lv_iconst (v := (-1)) hx hb dX10_factor_18 (by decide) ?_
    exact retI (v := (-1)) hx hb hr hlocks hS (show ((-1) : Int32) = F_factor x0 x1 by rfl) dX10_factor_19
abbrev BX9_skipBlanks_1 (D : va_G) (k : Nat → ClassId) (h0 h1 h2 : Nat) (A : Nat → Prop) (H : Heap) : Prop := va_P D cl0 [(h0, .inr (6, [.ref h1, .int 0, .int 0, .int 0, .ref h2]))] H ∧ va_D A [(h0, .inr (6, [.ref h1, .int 0, .int 0, .int 0, .ref h2]))]
set_option maxHeartbeats 4000000 in
set_option maxRecDepth 100000 in
theorem cX9_skipBlanks_1 (l : Launch) (D : va_G) (k : Nat → ClassId) (sz : Nat) (h0 h1 h2 : Nat) : Met l yX9_skipBlanks (Cond.code yX9_skipBlanks cX9_skipBlanks 1 none :: uw) ({ frames := 0, cells := 0, slots := 0, locals := 0 }) (pC D k sz [.ref h0] [(h0, .inr (6, [.ref h1, .int 0, .int 0, .int 0, .ref h2]))]) (qV (BX9_skipBlanks_1 D k h0 h1 h2 (va_A [(h0, .inr (6, [.ref h1, .int 0, .int 0, .int 0, .ref h2]))] sz)) (va_A [(h0, .inr (6, [.ref h1, .int 0, .int 0, .int 0, .ref h2]))] sz)) 0 0 (va_A [(h0, .inr (6, [.ref h1, .int 0, .int 0, .int 0, .ref h2]))] sz) := by
  refine begin_ (Qc := fun A => qV (BX9_skipBlanks_1 D k h0 h1 h2 A) A) (by decide) (Nat.le_of_ble_eq_true rfl) ?_
  intro p e s m below meth c ls A hx hb hr hml hown hlocks hin hU hK hsz hP hD hS hA hl
  have hl : lv_has ls 1 [(0, .ref h0)] := hl
  clear hsz
  refine lv_aload_n hx hb dX9_skipBlanks_0 rfl (lv_at hl 0 rfl) ?_
  refine va_get (D := D) (ci := 6) (v := .int 0) (C := RX9) (T := TX9) (N := 5) hx hb hU iX9 hown hK.1 hP 0 rfl rfl 2 (by decide) (hU _ w123) (fun _ h9 => h9) rfl dX9_skipBlanks_1 ?_
  refine lv_aload_n hx hb dX9_skipBlanks_4 rfl (lv_at hl 0 rfl) ?_
  refine va_get (D := D) (ci := 6) (v := .int 0) (C := RX9) (T := TX9) (N := 5) hx hb hU iX9 hown hK.1 hP 0 rfl rfl 1 (by decide) (hU _ w121) (fun _ h9 => h9) rfl dX9_skipBlanks_5 ?_
  refine lv_icmp_ge (tgt := 38) hx hb dX9_skipBlanks_8 (by decide) (fun _ => ?_) (fun cc => absurd (by decide +kernel) cc)
  exact retV hx hb hr hlocks hS (⟨hP, hD⟩) dX9_skipBlanks_38
abbrev BX9_read_1 (D : va_G) (k : Nat → ClassId) (h0 h1 h2 : Nat) (A : Nat → Prop) (r : Int32) (H : Heap) : Prop := 1 = r ∧ va_P D cl0 [(h0, .inr (6, [.ref h1, .int 0, .int 0, .int 0, .ref h2]))] H ∧ va_D A [(h0, .inr (6, [.ref h1, .int 0, .int 0, .int 0, .ref h2]))]
set_option maxHeartbeats 4000000 in
set_option maxRecDepth 100000 in
theorem cX9_read_1 (l : Launch) (D : va_G) (k : Nat → ClassId) (sz : Nat) (h0 h1 h2 : Nat) : Met l yX9_read (Cond.code yX9_read cX9_read 2 (some .boolean) :: uw) ({ frames := 1, cells := 0, slots := 0, locals := 20 }) (pC D k sz [.ref h0, .int 2] [(h0, .inr (6, [.ref h1, .int 0, .int 0, .int 0, .ref h2]))]) (qI (BX9_read_1 D k h0 h1 h2 (va_A [(h0, .inr (6, [.ref h1, .int 0, .int 0, .int 0, .ref h2]))] sz)) (va_A [(h0, .inr (6, [.ref h1, .int 0, .int 0, .int 0, .ref h2]))] sz)) 0 0 (va_A [(h0, .inr (6, [.ref h1, .int 0, .int 0, .int 0, .ref h2]))] sz) := by
  refine begin_ (Qc := fun A => qI (BX9_read_1 D k h0 h1 h2 A) A) (by decide) (Nat.le_of_ble_eq_true rfl) ?_
  intro p e s m below meth c ls A hx hb hr hml hown hlocks hin hU hK hsz hP hD hS hA hl
  have hl : lv_has ls 2 [(0, .ref h0), (1, .int 2)] := hl
  clear hsz
  refine lv_aload_n hx hb dX9_read_0 rfl (lv_at hl 0 rfl) ?_
  refine lv_iconst (v := 0) hx hb dX9_read_1 (by decide) ?_
  refine va_put (D := D) (ci := 6) (v := .int 0) (ty := .int) (C := RX9) (T := TX9) (N := 5) hx hb hU iX9 tyX9 tyX9_ok nmX9 hown hK.1 hP hD hS 0 rfl rfl 2 (by decide) (hU _ w123) (fun _ h9 => h9) rfl (by decide +kernel) rfl rfl (Nat.le_of_ble_eq_true rfl) dX9_read_2 (fun H locs hP hD hS => ?_)
  have hP : va_P D cl0 [(h0, .inr (6, [.ref h1, .int 0, .int 0, .int 0, .ref h2]))] H := hP
  have hD : va_D A [(h0, .inr (6, [.ref h1, .int 0, .int 0, .int 0, .ref h2]))] := hD
  refine lv_aload_n hx hb dX9_read_5 rfl (lv_at hl 0 rfl) ?_
  refine lv_iconst (v := 0) hx hb dX9_read_6 (by decide) ?_
  refine va_put (D := D) (ci := 6) (v := .int 0) (ty := .int) (C := RX9) (T := TX9) (N := 5) hx hb hU iX9 tyX9 tyX9_ok nmX9 hown hK.1 hP hD hS 0 rfl rfl 3 (by decide) (hU _ w125) (fun _ h9 => h9) rfl (by decide +kernel) rfl rfl (Nat.le_of_ble_eq_true rfl) dX9_read_7 (fun H locs hP hD hS => ?_)
  have hP : va_P D cl0 [(h0, .inr (6, [.ref h1, .int 0, .int 0, .int 0, .ref h2]))] H := hP
  have hD : va_D A [(h0, .inr (6, [.ref h1, .int 0, .int 0, .int 0, .ref h2]))] := hD
  refine lv_aload_n hx hb dX9_read_10 rfl (lv_at hl 0 rfl) ?_
  refine cV (rV (q0 := 0) (ci := 6) (As := []) (rest := []) (wc := [(h0, .inr (6, [.ref h1, .int 0, .int 0, .int 0, .ref h2]))]) hx hb hml hown hU hK hP hD rfl rfl [0] rfl (by decide) (cX9_skipBlanks_1 l D k _ h0 h1 h2) w464 w461 w463 w5 w65 hdX9_skipBlanks ⟨rfl, rfl⟩ ⟨Nat.le_of_ble_eq_true rfl, Nat.le_of_ble_eq_true rfl⟩ rfl hl.1 (Nat.le_of_ble_eq_true rfl) dX9_read_11 ⟨Nat.le_of_ble_eq_true rfl, Nat.le_of_ble_eq_true rfl⟩) hP hD hS hA (wr := []) [0] [] rfl rfl (by decide) (by decide) (fun H locs hB J hS => ?_)
  obtain ⟨hP1, hD1⟩ := hB
  obtain ⟨hP, hD⟩ := J _ hP1 hD1
  have hP : va_P D cl0 [(h0, .inr (6, [.ref h1, .int 0, .int 0, .int 0, .ref h2]))] H := hP
  have hD : va_D A [(h0, .inr (6, [.ref h1, .int 0, .int 0, .int 0, .ref h2]))] := hD
  refine lv_aload_n hx hb dX9_read_14 rfl (lv_at hl 0 rfl) ?_
  refine va_get (D := D) (ci := 6) (v := .int 0) (C := RX9) (T := TX9) (N := 5) hx hb hU iX9 hown hK.1 hP 0 rfl rfl 2 (by decide) (hU _ w123) (fun _ h9 => h9) rfl dX9_read_15 ?_
  refine lv_aload_n hx hb dX9_read_18 rfl (lv_at hl 0 rfl) ?_
  refine va_get (D := D) (ci := 6) (v := .int 0) (C := RX9) (T := TX9) (N := 5) hx hb hU iX9 hown hK.1 hP 0 rfl rfl 1 (by decide) (hU _ w121) (fun _ h9 => h9) rfl dX9_read_19 ?_
  refine lv_icmp_ge (tgt := 60) hx hb dX9_read_22 (by decide) (fun _ => ?_) (fun cc => absurd (by decide +kernel) cc)
  refine lv_iconst (v := 1) hx hb dX9_read_60 (by decide) ?_
  exact retZ (v := 1) hx hb hr hlocks hS (⟨rfl, hP, hD⟩) dX9_read_61 (by decide +kernel)
abbrev BX10_text_1 (D : va_G) (k : Nat → ClassId) (a0 a1 a2 a5 a7 a27 a3 a8 a9 a18 a28 a29 a30 a31 a32 a6 : Nat) (A : Nat → Prop) (r : Int32) (H : Heap) : Prop := r = F_text
set_option maxHeartbeats 4000000 in
set_option maxRecDepth 100000 in
theorem cX10_text_1 (l : Launch) (D : va_G) (k : Nat → ClassId) (sz : Nat) (a0 a1 a2 a5 a7 a27 a3 a8 a9 a18 a28 a29 a30 a31 a32 a6 : Nat) : Met l yX10_text (Cond.code yX10_text cX10_text 2 (some .int) :: uw) ({ frames := 2, cells := 0, slots := 0, locals := 43 }) (pC D k sz [.ref a0] [(a0, .inr (7, [.ref a1, .ref a3, .int 0, .ref a5, .ref a8, .ref a9, .int 0, .ref a18, .int 0, .null, .ref a27, .int 0, .ref a28, .ref a29, .ref a30, .ref a31, .ref a32])), (a1, .inr (4, [.int 2, .int 0, .int 1, .ref a2])), (a2, .inl (k 1, 36, .inr (.inl (tL [] 0)))), (a5, .inr (6, [.ref a6, .int 0, .int 0, .int 0, .ref a7])), (a7, .inl (k 1, 36, .inr (.inl (tL [] 0)))), (a27, .inl (k 0, 8, .inl (tI [] 0)))]) (qI (BX10_text_1 D k a0 a1 a2 a5 a7 a27 a3 a8 a9 a18 a28 a29 a30 a31 a32 a6 (va_A [(a0, .inr (7, [.ref a1, .ref a3, .int 0, .ref a5, .ref a8, .ref a9, .int 0, .ref a18, .int 0, .null, .ref a27, .int 0, .ref a28, .ref a29, .ref a30, .ref a31, .ref a32])), (a1, .inr (4, [.int 2, .int 0, .int 1, .ref a2])), (a2, .inl (k 1, 36, .inr (.inl (tL [] 0)))), (a5, .inr (6, [.ref a6, .int 0, .int 0, .int 0, .ref a7])), (a7, .inl (k 1, 36, .inr (.inl (tL [] 0)))), (a27, .inl (k 0, 8, .inl (tI [] 0)))] sz)) (va_A [(a0, .inr (7, [.ref a1, .ref a3, .int 0, .ref a5, .ref a8, .ref a9, .int 0, .ref a18, .int 0, .null, .ref a27, .int 0, .ref a28, .ref a29, .ref a30, .ref a31, .ref a32])), (a1, .inr (4, [.int 2, .int 0, .int 1, .ref a2])), (a2, .inl (k 1, 36, .inr (.inl (tL [] 0)))), (a5, .inr (6, [.ref a6, .int 0, .int 0, .int 0, .ref a7])), (a7, .inl (k 1, 36, .inr (.inl (tL [] 0)))), (a27, .inl (k 0, 8, .inl (tI [] 0)))] sz)) 0 0 (va_A [(a0, .inr (7, [.ref a1, .ref a3, .int 0, .ref a5, .ref a8, .ref a9, .int 0, .ref a18, .int 0, .null, .ref a27, .int 0, .ref a28, .ref a29, .ref a30, .ref a31, .ref a32])), (a1, .inr (4, [.int 2, .int 0, .int 1, .ref a2])), (a2, .inl (k 1, 36, .inr (.inl (tL [] 0)))), (a5, .inr (6, [.ref a6, .int 0, .int 0, .int 0, .ref a7])), (a7, .inl (k 1, 36, .inr (.inl (tL [] 0)))), (a27, .inl (k 0, 8, .inl (tI [] 0)))] sz) := by
  refine begin_ (Qc := fun A => qI (BX10_text_1 D k a0 a1 a2 a5 a7 a27 a3 a8 a9 a18 a28 a29 a30 a31 a32 a6 A) A) (by decide) (Nat.le_of_ble_eq_true rfl) ?_
  intro p e s m below meth c ls A hx hb hr hml hown hlocks hin hU hK hsz hP hD hS hA hl
  have hl : lv_has ls 2 [(0, .ref a0)] := hl
  clear hsz
  refine lv_aload_n hx hb dX10_text_0 rfl (lv_at hl 0 rfl) ?_
  refine va_get (D := D) (ci := 7) (v := .ref a5) (C := RX10) (T := TX10) (N := 17) hx hb hU iX10 hown hK.1 hP 0 rfl rfl 3 (by decide) (hU _ w252) (fun _ h9 => h9) rfl dX10_text_1 ?_
  refine lv_aload_n hx hb dX10_text_4 rfl (lv_at hl 0 rfl) ?_
  refine va_get (D := D) (ci := 7) (v := .ref a1) (C := RX10) (T := TX10) (N := 17) hx hb hU iX10 hown hK.1 hP 0 rfl rfl 0 (by decide) (hU _ w249) (fun _ h9 => h9) rfl dX10_text_5 ?_
  refine va_get (D := D) (ci := 4) (v := .int 2) (C := RX5) (T := TX5) (N := 4) hx hb hU iX5 hown hK.1 hP 1 rfl rfl 0 (by decide) (hU _ w93) (fun _ h9 => h9) rfl dX10_text_8 ?_
  refine cI (rV (q0 := 3) (ci := 6) (As := [.int 2]) (rest := []) (wc := [(a5, .inr (6, [.ref a6, .int 0, .int 0, .int 0, .ref a7]))]) hx hb hml hown hU hK hP hD rfl rfl [3] rfl (by decide) (cX9_read_1 l D k _ a5 a6 a7) w460 w457 w458 w459 w65 hdX9_read ⟨rfl, rfl⟩ ⟨Nat.le_of_ble_eq_true rfl, Nat.le_of_ble_eq_true rfl⟩ rfl hl.1 (Nat.le_of_ble_eq_true rfl) dX10_text_11 ⟨Nat.le_of_ble_eq_true rfl, Nat.le_of_ble_eq_true rfl⟩) hP hD hS hA (wr := [(a0, .inr (7, [.ref a1, .ref a3, .int 0, .ref a5, .ref a8, .ref a9, .int 0, .ref a18, .int 0, .null, .ref a27, .int 0, .ref a28, .ref a29, .ref a30, .ref a31, .ref a32])), (a1, .inr (4, [.int 2, .int 0, .int 1, .ref a2])), (a2, .inl (k 1, 36, .inr (.inl (tL [] 0)))), (a7, .inl (k 1, 36, .inr (.inl (tL [] 0)))), (a27, .inl (k 0, 8, .inl (tI [] 0)))]) [3] [0, 1, 2, 4, 5] rfl rfl (by decide) (by decide) (fun r1 H locs hB J hS => ?_)
  obtain ⟨rfl, hP1, hD1⟩ := hB
  obtain ⟨hP, hD⟩ := J _ hP1 hD1
  have hP : va_P D cl0 [(a0, .inr (7, [.ref a1, .ref a3, .int 0, .ref a5, .ref a8, .ref a9, .int 0, .ref a18, .int 0, .null, .ref a27, .int 0, .ref a28, .ref a29, .ref a30, .ref a31, .ref a32])), (a1, .inr (4, [.int 2, .int 0, .int 1, .ref a2])), (a2, .inl (k 1, 36, .inr (.inl (tL [] 0)))), (a7, .inl (k 1, 36, .inr (.inl (tL [] 0)))), (a27, .inl (k 0, 8, .inl (tI [] 0))), (a5, .inr (6, [.ref a6, .int 0, .int 0, .int 0, .ref a7]))] H := hP
  have hD : va_D A [(a0, .inr (7, [.ref a1, .ref a3, .int 0, .ref a5, .ref a8, .ref a9, .int 0, .ref a18, .int 0, .null, .ref a27, .int 0, .ref a28, .ref a29, .ref a30, .ref a31, .ref a32])), (a1, .inr (4, [.int 2, .int 0, .int 1, .ref a2])), (a2, .inl (k 1, 36, .inr (.inl (tL [] 0)))), (a7, .inl (k 1, 36, .inr (.inl (tL [] 0)))), (a27, .inl (k 0, 8, .inl (tI [] 0))), (a5, .inr (6, [.ref a6, .int 0, .int 0, .int 0, .ref a7]))] := hD
  refine lv_istore_n (lv' := [(1, .int 1), (0, .ref a0)]) hx hb dX10_text_14 rfl hl (by decide) rfl (fun ls hl => ?_)
  refine lv_aload_n hx hb dX10_text_15 rfl (lv_at hl 1 rfl) ?_
  refine va_get (D := D) (ci := 7) (v := .ref a5) (C := RX10) (T := TX10) (N := 17) hx hb hU iX10 hown hK.1 hP 0 rfl rfl 3 (by decide) (hU _ w252) (fun _ h9 => h9) rfl dX10_text_16 ?_
  refine lv_iconst (v := 0) hx hb dX10_text_19 (by decide) ?_
  refine va_put (D := D) (ci := 6) (v := .int 0) (ty := .int) (C := RX9) (T := TX9) (N := 5) hx hb hU iX9 tyX9 tyX9_ok nmX9 hown hK.1 hP hD hS 5 rfl rfl 1 (by decide) (hU _ w122) (fun _ h9 => h9) rfl (by decide +kernel) rfl rfl (Nat.le_of_ble_eq_true rfl) dX10_text_20 (fun H locs hP hD hS => ?_)
  have hP : va_P D cl0 [(a0, .inr (7, [.ref a1, .ref a3, .int 0, .ref a5, .ref a8, .ref a9, .int 0, .ref a18, .int 0, .null, .ref a27, .int 0, .ref a28, .ref a29, .ref a30, .ref a31, .ref a32])), (a1, .inr (4, [.int 2, .int 0, .int 1, .ref a2])), (a2, .inl (k 1, 36, .inr (.inl (tL [] 0)))), (a7, .inl (k 1, 36, .inr (.inl (tL [] 0)))), (a27, .inl (k 0, 8, .inl (tI [] 0))), (a5, .inr (6, [.ref a6, .int 0, .int 0, .int 0, .ref a7]))] H := hP
  have hD : va_D A [(a0, .inr (7, [.ref a1, .ref a3, .int 0, .ref a5, .ref a8, .ref a9, .int 0, .ref a18, .int 0, .null, .ref a27, .int 0, .ref a28, .ref a29, .ref a30, .ref a31, .ref a32])), (a1, .inr (4, [.int 2, .int 0, .int 1, .ref a2])), (a2, .inl (k 1, 36, .inr (.inl (tL [] 0)))), (a7, .inl (k 1, 36, .inr (.inl (tL [] 0)))), (a27, .inl (k 0, 8, .inl (tI [] 0))), (a5, .inr (6, [.ref a6, .int 0, .int 0, .int 0, .ref a7]))] := hD
  refine lv_iload_n hx hb dX10_text_23 rfl (lv_at hl 0 rfl) ?_
  refine lv_if_ne (tgt := 38) hx hb dX10_text_24 (by decide) (fun _ => ?_) (fun cc => absurd cc (by decide +kernel))
  refine lv_aload_n hx hb dX10_text_38 rfl (lv_at hl 1 rfl) ?_
  refine va_get (D := D) (ci := 7) (v := .ref a1) (C := RX10) (T := TX10) (N := 17) hx hb hU iX10 hown hK.1 hP 0 rfl rfl 0 (by decide) (hU _ w249) (fun _ h9 => h9) rfl dX10_text_39 ?_
  refine lv_aload_n hx hb dX10_text_42 rfl (lv_at hl 1 rfl) ?_
  refine va_get (D := D) (ci := 7) (v := .ref a5) (C := RX10) (T := TX10) (N := 17) hx hb hU iX10 hown hK.1 hP 0 rfl rfl 3 (by decide) (hU _ w252) (fun _ h9 => h9) rfl dX10_text_43 ?_
  refine va_get (D := D) (ci := 6) (v := .int 0) (C := RX9) (T := TX9) (N := 5) hx hb hU iX9 hown hK.1 hP 5 rfl rfl 3 (by decide) (hU _ w126) (fun _ h9 => h9) rfl dX10_text_46 ?_
  refine va_put (D := D) (ci := 4) (v := .int 0) (ty := .int) (C := RX5) (T := TX5) (N := 4) hx hb hU iX5 tyX5 tyX5_ok nmX5 hown hK.1 hP hD hS 1 rfl rfl 1 (by decide) (hU _ w97) (fun _ h9 => h9) rfl (by decide +kernel) rfl rfl (Nat.le_of_ble_eq_true rfl) dX10_text_49 (fun H locs hP hD hS => ?_)
  have hP : va_P D cl0 [(a0, .inr (7, [.ref a1, .ref a3, .int 0, .ref a5, .ref a8, .ref a9, .int 0, .ref a18, .int 0, .null, .ref a27, .int 0, .ref a28, .ref a29, .ref a30, .ref a31, .ref a32])), (a1, .inr (4, [.int 2, .int 0, .int 1, .ref a2])), (a2, .inl (k 1, 36, .inr (.inl (tL [] 0)))), (a7, .inl (k 1, 36, .inr (.inl (tL [] 0)))), (a27, .inl (k 0, 8, .inl (tI [] 0))), (a5, .inr (6, [.ref a6, .int 0, .int 0, .int 0, .ref a7]))] H := hP
  have hD : va_D A [(a0, .inr (7, [.ref a1, .ref a3, .int 0, .ref a5, .ref a8, .ref a9, .int 0, .ref a18, .int 0, .null, .ref a27, .int 0, .ref a28, .ref a29, .ref a30, .ref a31, .ref a32])), (a1, .inr (4, [.int 2, .int 0, .int 1, .ref a2])), (a2, .inl (k 1, 36, .inr (.inl (tL [] 0)))), (a7, .inl (k 1, 36, .inr (.inl (tL [] 0)))), (a27, .inl (k 0, 8, .inl (tI [] 0))), (a5, .inr (6, [.ref a6, .int 0, .int 0, .int 0, .ref a7]))] := hD
  refine lv_aload_n hx hb dX10_text_52 rfl (lv_at hl 1 rfl) ?_
  refine va_get (D := D) (ci := 7) (v := .ref a5) (C := RX10) (T := TX10) (N := 17) hx hb hU iX10 hown hK.1 hP 0 rfl rfl 3 (by decide) (hU _ w252) (fun _ h9 => h9) rfl dX10_text_53 ?_
  refine va_get (D := D) (ci := 6) (v := .ref a7) (C := RX9) (T := TX9) (N := 5) hx hb hU iX9 hown hK.1 hP 5 rfl rfl 4 (by decide) (hU _ w128) (fun _ h9 => h9) rfl dX10_text_56 ?_
  refine lv_iconst (v := 0) hx hb dX10_text_59 (by decide) ?_
  refine lv_aload_n hx hb dX10_text_60 rfl (lv_at hl 1 rfl) ?_
  refine va_get (D := D) (ci := 7) (v := .ref a1) (C := RX10) (T := TX10) (N := 17) hx hb hU iX10 hown hK.1 hP 0 rfl rfl 0 (by decide) (hU _ w249) (fun _ h9 => h9) rfl dX10_text_61 ?_
  refine va_get (D := D) (ci := 4) (v := .ref a2) (C := RX5) (T := TX5) (N := 4) hx hb hU iX5 hown hK.1 hP 1 rfl rfl 3 (by decide) (hU _ w103) (fun _ h9 => h9) rfl dX10_text_64 ?_
  refine lv_iconst (v := 0) hx hb dX10_text_67 (by decide) ?_
  refine lv_aload_n hx hb dX10_text_68 rfl (lv_at hl 1 rfl) ?_
  refine va_get (D := D) (ci := 7) (v := .ref a5) (C := RX10) (T := TX10) (N := 17) hx hb hU iX10 hown hK.1 hP 0 rfl rfl 3 (by decide) (hU _ w252) (fun _ h9 => h9) rfl dX10_text_69 ?_
  refine va_get (D := D) (ci := 6) (v := .int 0) (C := RX9) (T := TX9) (N := 5) hx hb hU iX9 hown hK.1 hP 5 rfl rfl 3 (by decide) (hU _ w126) (fun _ h9 => h9) rfl dX10_text_72 ?_
  refine lv_bipush (v := 9) hx hb dX10_text_75 (by decide) ?_
  refine lv_imul hx hb dX10_text_77 (sv_i (v := 0) (by decide +kernel) ?_)
  refine cp_l (g' := tL [] 0) hx hb hml hl.1 hown hU w410 w348 w347 w75 hK hP hD hS 3 2 rfl rfl 0 0 0 (by decide +kernel) cpy_tL (Nat.le_of_ble_eq_true rfl) (Nat.le_of_ble_eq_true rfl) dX10_text_78 (fun H locs hP hD hS => ?_)
  have hP : va_P D cl0 [(a0, .inr (7, [.ref a1, .ref a3, .int 0, .ref a5, .ref a8, .ref a9, .int 0, .ref a18, .int 0, .null, .ref a27, .int 0, .ref a28, .ref a29, .ref a30, .ref a31, .ref a32])), (a1, .inr (4, [.int 2, .int 0, .int 1, .ref a2])), (a2, .inl (k 1, 36, .inr (.inl (tL [] 0)))), (a7, .inl (k 1, 36, .inr (.inl (tL [] 0)))), (a27, .inl (k 0, 8, .inl (tI [] 0))), (a5, .inr (6, [.ref a6, .int 0, .int 0, .int 0, .ref a7]))] H := hP
  have hD : va_D A [(a0, .inr (7, [.ref a1, .ref a3, .int 0, .ref a5, .ref a8, .ref a9, .int 0, .ref a18, .int 0, .null, .ref a27, .int 0, .ref a28, .ref a29, .ref a30, .ref a31, .ref a32])), (a1, .inr (4, [.int 2, .int 0, .int 1, .ref a2])), (a2, .inl (k 1, 36, .inr (.inl (tL [] 0)))), (a7, .inl (k 1, 36, .inr (.inl (tL [] 0)))), (a27, .inl (k 0, 8, .inl (tI [] 0))), (a5, .inr (6, [.ref a6, .int 0, .int 0, .int 0, .ref a7]))] := hD
  refine lv_aload_n hx hb dX10_text_81 rfl (lv_at hl 1 rfl) ?_
  refine cV (rV (q0 := 0) (ci := 7) (As := []) (rest := []) (wc := [(a0, .inr (7, [.ref a1, .ref a3, .int 0, .ref a5, .ref a8, .ref a9, .int 0, .ref a18, .int 0, .null, .ref a27, .int 0, .ref a28, .ref a29, .ref a30, .ref a31, .ref a32])), (a27, .inl (k 0, 8, .inl (tI [] 0)))]) hx hb hml hown hU hK hP hD rfl rfl [0, 4] rfl (by decide) (cX10_forgetWhatCame_1 l D k _ a0 a27 a1 a3 a5 a8 a9 a18 a28 a29 a30 a31 a32) w308 w305 w307 w0 w63 hdX10_forgetWhatCame ⟨rfl, rfl⟩ ⟨Nat.le_of_ble_eq_true rfl, Nat.le_of_ble_eq_true rfl⟩ rfl hl.1 (Nat.le_of_ble_eq_true rfl) dX10_text_82 ⟨Nat.le_of_ble_eq_true rfl, Nat.le_of_ble_eq_true rfl⟩) hP hD hS hA (wr := [(a1, .inr (4, [.int 2, .int 0, .int 1, .ref a2])), (a2, .inl (k 1, 36, .inr (.inl (tL [] 0)))), (a7, .inl (k 1, 36, .inr (.inl (tL [] 0)))), (a5, .inr (6, [.ref a6, .int 0, .int 0, .int 0, .ref a7]))]) [0, 4] [1, 2, 3, 5] rfl rfl (by decide) (by decide) (fun H locs hB J hS => ?_)
  obtain ⟨hP1, hD1⟩ := hB
  obtain ⟨hP, hD⟩ := J _ hP1 hD1
  have hP : va_P D cl0 [(a1, .inr (4, [.int 2, .int 0, .int 1, .ref a2])), (a2, .inl (k 1, 36, .inr (.inl (tL [] 0)))), (a7, .inl (k 1, 36, .inr (.inl (tL [] 0)))), (a5, .inr (6, [.ref a6, .int 0, .int 0, .int 0, .ref a7])), (a0, .inr (7, [.ref a1, .ref a3, .int 0, .ref a5, .ref a8, .ref a9, .int 0, .ref a18, .int 0, .null, .ref a27, .int 0, .ref a28, .ref a29, .ref a30, .ref a31, .ref a32])), (a27, .inl (k 0, 8, .inl (tI [] 0)))] H := hP
  have hD : va_D A [(a1, .inr (4, [.int 2, .int 0, .int 1, .ref a2])), (a2, .inl (k 1, 36, .inr (.inl (tL [] 0)))), (a7, .inl (k 1, 36, .inr (.inl (tL [] 0)))), (a5, .inr (6, [.ref a6, .int 0, .int 0, .int 0, .ref a7])), (a0, .inr (7, [.ref a1, .ref a3, .int 0, .ref a5, .ref a8, .ref a9, .int 0, .ref a18, .int 0, .null, .ref a27, .int 0, .ref a28, .ref a29, .ref a30, .ref a31, .ref a32])), (a27, .inl (k 0, 8, .inl (tI [] 0)))] := hD
  refine lv_aload_n hx hb dX10_text_85 rfl (lv_at hl 1 rfl) ?_
  refine va_get (D := D) (ci := 7) (v := .ref a1) (C := RX10) (T := TX10) (N := 17) hx hb hU iX10 hown hK.1 hP 4 rfl rfl 0 (by decide) (hU _ w249) (fun _ h9 => h9) rfl dX10_text_86 ?_
  refine va_get (D := D) (ci := 4) (v := .int 0) (C := RX5) (T := TX5) (N := 4) hx hb hU iX5 hown hK.1 hP 0 rfl rfl 1 (by decide) (hU _ w97) (fun _ h9 => h9) rfl dX10_text_89 ?_
  exact retI (v := 0) hx hb hr hlocks hS (show (0 : Int32) = F_text by rfl) dX10_text_92
abbrev BX10_asLong_1 (D : va_G) (k : Nat → ClassId) (A : Nat → Prop) (r : Int64) (H : Heap) : Prop := (-4000000000000000001) = r ∧ va_P D cl0 [] H ∧ va_D A []
set_option maxHeartbeats 4000000 in
set_option maxRecDepth 100000 in
theorem cX10_asLong_1 (l : Launch) (D : va_G) (k : Nat → ClassId) (sz : Nat) : Met l yX10_asLong (Cond.code yX10_asLong cX10_asLong 1 (some .long) :: uw) ({ frames := 0, cells := 0, slots := 0, locals := 0 }) (pC D k sz [.int (-1)] []) (qL (BX10_asLong_1 D k  (va_A [] sz)) (va_A [] sz)) 0 0 (va_A [] sz) := by
  refine begin_ (Qc := fun A => qL (BX10_asLong_1 D k  A) A) (by decide) (Nat.le_of_ble_eq_true rfl) ?_
  intro p e s m below meth c ls A hx hb hr hml hown hlocks hin hU hK hsz hP hD hS hA hl
  have hl : lv_has ls 1 [(0, .int (-1))] := hl
  clear hsz
  refine lv_iload_n hx hb dX10_asLong_0 rfl (lv_at hl 0 rfl) ?_
  refine lv_i2l (v := (-1)) hx hb dX10_asLong_1 (by decide +kernel) ?_
  refine lv_ldc2 hx hb hown (hU _ w573) dX10_asLong_2 ?_
  refine lv_lsub hx hb dX10_asLong_5 (sv_l (v := (-4000000000000000001)) (by decide +kernel) ?_)
  exact retL (v := (-4000000000000000001)) hx hb hr hlocks hS (⟨rfl, hP, hD⟩) dX10_asLong_6
abbrev BX10_point_1 (D : va_G) (k : Nat → ClassId) (a0 a1 a3 a5 a8 a9 a18 a27 a28 a29 a30 a31 a32 : Nat) (x0 : Int32) (x1 : Int32) (A : Nat → Prop) (r : Int64) (H : Heap) : Prop := r = F_point x0 x1
set_option maxHeartbeats 4000000 in
set_option maxRecDepth 100000 in
theorem cX10_point_1 (l : Launch) (D : va_G) (k : Nat → ClassId) (sz : Nat) (a0 a1 a3 a5 a8 a9 a18 a27 a28 a29 a30 a31 a32 : Nat) (x0 : Int32) (x1 : Int32) : Met l yX10_point (Cond.code yX10_point cX10_point 3 (some .long) :: uw) ({ frames := 1, cells := 0, slots := 0, locals := 20 }) (pC D k sz [.ref a0, .int x0, .int x1] [(a0, .inr (7, [.ref a1, .ref a3, .int 0, .ref a5, .ref a8, .ref a9, .int 0, .ref a18, .int 0, .null, .ref a27, .int 0, .ref a28, .ref a29, .ref a30, .ref a31, .ref a32]))]) (qL (BX10_point_1 D k a0 a1 a3 a5 a8 a9 a18 a27 a28 a29 a30 a31 a32 x0 x1 (va_A [(a0, .inr (7, [.ref a1, .ref a3, .int 0, .ref a5, .ref a8, .ref a9, .int 0, .ref a18, .int 0, .null, .ref a27, .int 0, .ref a28, .ref a29, .ref a30, .ref a31, .ref a32]))] sz)) (va_A [(a0, .inr (7, [.ref a1, .ref a3, .int 0, .ref a5, .ref a8, .ref a9, .int 0, .ref a18, .int 0, .null, .ref a27, .int 0, .ref a28, .ref a29, .ref a30, .ref a31, .ref a32]))] sz)) 0 0 (va_A [(a0, .inr (7, [.ref a1, .ref a3, .int 0, .ref a5, .ref a8, .ref a9, .int 0, .ref a18, .int 0, .null, .ref a27, .int 0, .ref a28, .ref a29, .ref a30, .ref a31, .ref a32]))] sz) := by
  refine begin_ (Qc := fun A => qL (BX10_point_1 D k a0 a1 a3 a5 a8 a9 a18 a27 a28 a29 a30 a31 a32 x0 x1 A) A) (by decide) (Nat.le_of_ble_eq_true rfl) ?_
  intro p e s m below meth c ls A hx hb hr hml hown hlocks hin hU hK hsz hP hD hS hA hl
  have hl : lv_has ls 3 [(0, .ref a0), (1, .int x0), (2, .int x1)] := hl
  clear hsz
  refine lv_aload_n hx hb dX10_point_0 rfl (lv_at hl 0 rfl) ?_
  refine va_get (D := D) (ci := 7) (v := .int 0) (C := RX10) (T := TX10) (N := 17) hx hb hU iX10 hown hK.1 hP 0 rfl rfl 8 (by decide) (hU _ w257) (fun _ h9 => h9) rfl dX10_point_1 ?_
  refine lv_if_eq (tgt := 33) hx hb dX10_point_4 (by decide) (fun _ => ?_) (fun cc => absurd (by decide +kernel) cc)
  refine lv_iconst (v := (-1)) hx hb dX10_point_33 (by decide) ?_
  refine cL (rS (As := [.int (-1)]) (rest := []) (wc := []) hx hb hml hown hU hK hP hD [] rfl (by decide) (cX10_asLong_1 l D k _ ) w572 w570 w571 w63 hdX10_asLong ⟨rfl, rfl⟩ ⟨Nat.le_of_ble_eq_true rfl, Nat.le_of_ble_eq_true rfl⟩ rfl hl.1 (Nat.le_of_ble_eq_true rfl) dX10_point_34 ⟨Nat.le_of_ble_eq_true rfl, Nat.le_of_ble_eq_true rfl⟩) hP hD hS hA (wr := [(a0, .inr (7, [.ref a1, .ref a3, .int 0, .ref a5, .ref a8, .ref a9, .int 0, .ref a18, .int 0, .null, .ref a27, .int 0, .ref a28, .ref a29, .ref a30, .ref a31, .ref a32]))]) [] [0] rfl rfl (by decide) (by decide) (fun r1 H locs hB J hS => ?_)
  obtain ⟨rfl, hP1, hD1⟩ := hB
  obtain ⟨hP, hD⟩ := J _ hP1 hD1
  have hP : va_P D cl0 [(a0, .inr (7, [.ref a1, .ref a3, .int 0, .ref a5, .ref a8, .ref a9, .int 0, .ref a18, .int 0, .null, .ref a27, .int 0, .ref a28, .ref a29, .ref a30, .ref a31, .ref a32]))] H := hP
  have hD : va_D A [(a0, .inr (7, [.ref a1, .ref a3, .int 0, .ref a5, .ref a8, .ref a9, .int 0, .ref a18, .int 0, .null, .ref a27, .int 0, .ref a28, .ref a29, .ref a30, .ref a31, .ref a32]))] := hD
  exact retL (v := (-4000000000000000001)) hx hb hr hlocks hS (show ((-4000000000000000001) : Int64) = F_point x0 x1 by rfl) dX10_point_37
abbrev BX10_round_1 (D : va_G) (k : Nat → ClassId) (a0 a1 a3 a5 a8 a9 a18 a27 a28 a29 a30 a31 a32 : Nat) (x0 : Int32) (A : Nat → Prop) (r : Int32) (H : Heap) : Prop := r = F_round x0
set_option maxHeartbeats 4000000 in
set_option maxRecDepth 100000 in
theorem cX10_round_1 (l : Launch) (D : va_G) (k : Nat → ClassId) (sz : Nat) (a0 a1 a3 a5 a8 a9 a18 a27 a28 a29 a30 a31 a32 : Nat) (x0 : Int32) : Met l yX10_round (Cond.code yX10_round cX10_round 2 (some .int) :: uw) ({ frames := 0, cells := 0, slots := 0, locals := 0 }) (pC D k sz [.ref a0, .int x0] [(a0, .inr (7, [.ref a1, .ref a3, .int 0, .ref a5, .ref a8, .ref a9, .int 0, .ref a18, .int 0, .null, .ref a27, .int 0, .ref a28, .ref a29, .ref a30, .ref a31, .ref a32]))]) (qI (BX10_round_1 D k a0 a1 a3 a5 a8 a9 a18 a27 a28 a29 a30 a31 a32 x0 (va_A [(a0, .inr (7, [.ref a1, .ref a3, .int 0, .ref a5, .ref a8, .ref a9, .int 0, .ref a18, .int 0, .null, .ref a27, .int 0, .ref a28, .ref a29, .ref a30, .ref a31, .ref a32]))] sz)) (va_A [(a0, .inr (7, [.ref a1, .ref a3, .int 0, .ref a5, .ref a8, .ref a9, .int 0, .ref a18, .int 0, .null, .ref a27, .int 0, .ref a28, .ref a29, .ref a30, .ref a31, .ref a32]))] sz)) 0 0 (va_A [(a0, .inr (7, [.ref a1, .ref a3, .int 0, .ref a5, .ref a8, .ref a9, .int 0, .ref a18, .int 0, .null, .ref a27, .int 0, .ref a28, .ref a29, .ref a30, .ref a31, .ref a32]))] sz) := by
  refine begin_ (Qc := fun A => qI (BX10_round_1 D k a0 a1 a3 a5 a8 a9 a18 a27 a28 a29 a30 a31 a32 x0 A) A) (by decide) (Nat.le_of_ble_eq_true rfl) ?_
  intro p e s m below meth c ls A hx hb hr hml hown hlocks hin hU hK hsz hP hD hS hA hl
  have hl : lv_has ls 2 [(0, .ref a0), (1, .int x0)] := hl
  clear hsz
  refine lv_iload_n hx hb dX10_round_0 rfl (lv_at hl 1 rfl) ?_
  refine lv_if_lt (tgt := 9) hx hb dX10_round_1 (by decide) (fun c_1 => ?_) (fun c_1 => ?_)
  · skip
    refine lv_iconst (v := (-1)) hx hb dX10_round_9 (by decide) ?_
    exact retI (v := (-1)) hx hb hr hlocks hS (show ((-1) : Int32) = F_round x0 by first | decide +kernel | (have f0 := cv_lt (x := x0.toInt) (y := 0) c_1 rfl (by decide +kernel); unfold F_round; (repeat (first | rw [if_pos (by omega)] | rw [if_neg (by omega)])))) dX10_round_10
  · skip
    refine lv_iload_n hx hb dX10_round_4 rfl (lv_at hl 1 rfl) ?_
    refine lv_iconst (v := 2) hx hb dX10_round_5 (by decide) ?_
    refine lv_icmp_le (tgt := 11) hx hb dX10_round_6 (by decide) (fun c_2 => ?_) (fun c_2 => ?_)
    · skip
      refine lv_aload_n hx hb dX10_round_11 rfl (lv_at hl 0 rfl) ?_
      refine va_get (D := D) (ci := 7) (v := .int 0) (C := RX10) (T := TX10) (N := 17) hx hb hU iX10 hown hK.1 hP 0 rfl rfl 8 (by decide) (hU _ w257) (fun _ h9 => h9) rfl dX10_round_12 ?_
      refine lv_if_ne (tgt := 21) hx hb dX10_round_15 (by decide) (fun cc => absurd (by decide +kernel) cc) (fun _ => ?_)
      refine lv_bipush (v := (-3)) hx hb dX10_round_18 (by decide) ?_
      exact retI (v := (-3)) hx hb hr hlocks hS (show ((-3) : Int32) = F_round x0 by first | decide +kernel | (have f0 := cv_nlt (x := x0.toInt) (y := 0) c_1 rfl (by decide +kernel); have f1 := cv_le (x := x0.toInt) (y := 2) c_2 rfl (by decide +kernel); unfold F_round; (repeat (first | rw [if_pos (by omega)] | rw [if_neg (by omega)])))) dX10_round_20
    · skip
      refine lv_iconst (v := (-1)) hx hb dX10_round_9 (by decide) ?_
      exact retI (v := (-1)) hx hb hr hlocks hS (show ((-1) : Int32) = F_round x0 by first | decide +kernel | (have f0 := cv_nlt (x := x0.toInt) (y := 0) c_1 rfl (by decide +kernel); have f1 := cv_nle (x := x0.toInt) (y := 2) c_2 rfl (by decide +kernel); unfold F_round; (repeat (first | rw [if_pos (by omega)] | rw [if_neg (by omega)])))) dX10_round_10
abbrev BX10_seed_1 (D : va_G) (k : Nat → ClassId) (a0 a1 a3 a5 a8 a9 a18 a27 a28 a29 a30 a31 a32 a2 : Nat) (x0 : Int32) (A : Nat → Prop) (r : Int32) (H : Heap) : Prop := r = F_seed x0
set_option maxHeartbeats 4000000 in
set_option maxRecDepth 100000 in
theorem cX10_seed_1 (l : Launch) (D : va_G) (k : Nat → ClassId) (sz : Nat) (a0 a1 a3 a5 a8 a9 a18 a27 a28 a29 a30 a31 a32 a2 : Nat) (x0 : Int32) : Met l yX10_seed (Cond.code yX10_seed cX10_seed 3 (some .int) :: uw) ({ frames := 0, cells := 0, slots := 0, locals := 0 }) (pC D k sz [.ref a0, .int x0] [(a0, .inr (7, [.ref a1, .ref a3, .int 0, .ref a5, .ref a8, .ref a9, .int 0, .ref a18, .int 0, .null, .ref a27, .int 0, .ref a28, .ref a29, .ref a30, .ref a31, .ref a32])), (a1, .inr (4, [.int 2, .int 0, .int 1, .ref a2]))]) (qI (BX10_seed_1 D k a0 a1 a3 a5 a8 a9 a18 a27 a28 a29 a30 a31 a32 a2 x0 (va_A [(a0, .inr (7, [.ref a1, .ref a3, .int 0, .ref a5, .ref a8, .ref a9, .int 0, .ref a18, .int 0, .null, .ref a27, .int 0, .ref a28, .ref a29, .ref a30, .ref a31, .ref a32])), (a1, .inr (4, [.int 2, .int 0, .int 1, .ref a2]))] sz)) (va_A [(a0, .inr (7, [.ref a1, .ref a3, .int 0, .ref a5, .ref a8, .ref a9, .int 0, .ref a18, .int 0, .null, .ref a27, .int 0, .ref a28, .ref a29, .ref a30, .ref a31, .ref a32])), (a1, .inr (4, [.int 2, .int 0, .int 1, .ref a2]))] sz)) 0 0 (va_A [(a0, .inr (7, [.ref a1, .ref a3, .int 0, .ref a5, .ref a8, .ref a9, .int 0, .ref a18, .int 0, .null, .ref a27, .int 0, .ref a28, .ref a29, .ref a30, .ref a31, .ref a32])), (a1, .inr (4, [.int 2, .int 0, .int 1, .ref a2]))] sz) := by
  refine begin_ (Qc := fun A => qI (BX10_seed_1 D k a0 a1 a3 a5 a8 a9 a18 a27 a28 a29 a30 a31 a32 a2 x0 A) A) (by decide) (Nat.le_of_ble_eq_true rfl) ?_
  intro p e s m below meth c ls A hx hb hr hml hown hlocks hin hU hK hsz hP hD hS hA hl
  have hl : lv_has ls 3 [(0, .ref a0), (1, .int x0)] := hl
  clear hsz
  refine lv_aload_n hx hb dX10_seed_0 rfl (lv_at hl 0 rfl) ?_
  refine va_get (D := D) (ci := 7) (v := .ref a1) (C := RX10) (T := TX10) (N := 17) hx hb hU iX10 hown hK.1 hP 0 rfl rfl 0 (by decide) (hU _ w249) (fun _ h9 => h9) rfl dX10_seed_1 ?_
  refine va_get (D := D) (ci := 4) (v := .int 1) (C := RX5) (T := TX5) (N := 4) hx hb hU iX5 hown hK.1 hP 1 rfl rfl 2 (by decide) (hU _ w99) (fun _ h9 => h9) rfl dX10_seed_4 ?_
  refine lv_istore_n (lv' := [(2, .int 1), (0, .ref a0), (1, .int x0)]) hx hb dX10_seed_7 rfl hl (by decide) rfl (fun ls hl => ?_)
  refine lv_aload_n hx hb dX10_seed_8 rfl (lv_at hl 1 rfl) ?_
  refine va_get (D := D) (ci := 7) (v := .ref a1) (C := RX10) (T := TX10) (N := 17) hx hb hU iX10 hown hK.1 hP 0 rfl rfl 0 (by decide) (hU _ w249) (fun _ h9 => h9) rfl dX10_seed_9 ?_
  refine lv_iload_n hx hb dX10_seed_12 rfl (lv_at hl 2 rfl) ?_
  refine va_put (D := D) (ci := 4) (v := .int x0) (ty := .int) (C := RX5) (T := TX5) (N := 4) hx hb hU iX5 tyX5 tyX5_ok nmX5 hown hK.1 hP hD hS 1 rfl rfl 2 (by decide) (hU _ w99) (fun _ h9 => h9) rfl (by decide +kernel) rfl rfl (Nat.le_of_ble_eq_true rfl) dX10_seed_13 (fun H locs hP hD hS => ?_)
  have hP : va_P D cl0 [(a0, .inr (7, [.ref a1, .ref a3, .int 0, .ref a5, .ref a8, .ref a9, .int 0, .ref a18, .int 0, .null, .ref a27, .int 0, .ref a28, .ref a29, .ref a30, .ref a31, .ref a32])), (a1, .inr (4, [.int 2, .int 0, .int x0, .ref a2]))] H := hP
  have hD : va_D A [(a0, .inr (7, [.ref a1, .ref a3, .int 0, .ref a5, .ref a8, .ref a9, .int 0, .ref a18, .int 0, .null, .ref a27, .int 0, .ref a28, .ref a29, .ref a30, .ref a31, .ref a32])), (a1, .inr (4, [.int 2, .int 0, .int x0, .ref a2]))] := hD
  refine lv_iload_n hx hb dX10_seed_16 rfl (lv_at hl 0 rfl) ?_
  exact retI (v := 1) hx hb hr hlocks hS (show (1 : Int32) = F_seed x0 by rfl) dX10_seed_17
abbrev BX5_become_1 (D : va_G) (k : Nat → ClassId) (h0 h1 h2 h3 : Nat) (A : Nat → Prop) (H : Heap) : Prop := va_P D cl0 [(h0, .inr (4, [.int 2, .int 0, .int 1, .ref h3])), (h1, .inr (4, [.int 2, .int 0, .int 1, .ref h2])), (h2, .inl (k 1, 36, .inr (.inl (tL [0, 0, 0, 0, 0, 0, 0, 0, 0, 0, 0, 0, 0, 0, 0, 0, 0, 0, 0, 0, 0, 0, 0, 0, 0, 0, 0, 0, 0, 0, 0, 0, 0, 0, 0, 0] 0)))), (h3, .inl (k 1, 36, .inr (.inl (tL [] 0))))] H ∧ va_D A [(h0, .inr (4, [.int 2, .int 0, .int 1, .ref h3])), (h1, .inr (4, [.int 2, .int 0, .int 1, .ref h2])), (h2, .inl (k 1, 36, .inr (.inl (tL [0, 0, 0, 0, 0, 0, 0, 0, 0, 0, 0, 0, 0, 0, 0, 0, 0, 0, 0, 0, 0, 0, 0, 0, 0, 0, 0, 0, 0, 0, 0, 0, 0, 0, 0, 0] 0)))), (h3, .inl (k 1, 36, .inr (.inl (tL [] 0))))]
set_option maxHeartbeats 4000000 in
set_option maxRecDepth 100000 in
theorem cX5_become_1 (l : Launch) (D : va_G) (k : Nat → ClassId) (sz : Nat) (h0 h1 h2 h3 : Nat) : Met l yX5_become (Cond.code yX5_become cX5_become 2 none :: uw) ({ frames := 1, cells := 0, slots := 0, locals := 26 }) (pC D k sz [.ref h1, .ref h0] [(h0, .inr (4, [.int 2, .int 0, .int 1, .ref h3])), (h1, .inr (4, [.int 2, .int 0, .int 1, .ref h2])), (h2, .inl (k 1, 36, .inr (.inl (tL [] 0)))), (h3, .inl (k 1, 36, .inr (.inl (tL [] 0))))]) (qV (BX5_become_1 D k h0 h1 h2 h3 (va_A [(h0, .inr (4, [.int 2, .int 0, .int 1, .ref h3])), (h1, .inr (4, [.int 2, .int 0, .int 1, .ref h2])), (h2, .inl (k 1, 36, .inr (.inl (tL [] 0)))), (h3, .inl (k 1, 36, .inr (.inl (tL [] 0))))] sz)) (va_A [(h0, .inr (4, [.int 2, .int 0, .int 1, .ref h3])), (h1, .inr (4, [.int 2, .int 0, .int 1, .ref h2])), (h2, .inl (k 1, 36, .inr (.inl (tL [] 0)))), (h3, .inl (k 1, 36, .inr (.inl (tL [] 0))))] sz)) 0 0 (va_A [(h0, .inr (4, [.int 2, .int 0, .int 1, .ref h3])), (h1, .inr (4, [.int 2, .int 0, .int 1, .ref h2])), (h2, .inl (k 1, 36, .inr (.inl (tL [] 0)))), (h3, .inl (k 1, 36, .inr (.inl (tL [] 0))))] sz) := by
  refine begin_ (Qc := fun A => qV (BX5_become_1 D k h0 h1 h2 h3 A) A) (by decide) (Nat.le_of_ble_eq_true rfl) ?_
  intro p e s m below meth c ls A hx hb hr hml hown hlocks hin hU hK hsz hP hD hS hA hl
  have hl : lv_has ls 2 [(0, .ref h1), (1, .ref h0)] := hl
  clear hsz
  refine lv_aload_n hx hb dX5_become_0 rfl (lv_at hl 0 rfl) ?_
  refine lv_aload_n hx hb dX5_become_1 rfl (lv_at hl 1 rfl) ?_
  refine va_get (D := D) (ci := 4) (v := .int 2) (C := RX5) (T := TX5) (N := 4) hx hb hU iX5 hown hK.1 hP 0 rfl rfl 0 (by decide) (hU _ w92) (fun _ h9 => h9) rfl dX5_become_2 ?_
  refine va_put (D := D) (ci := 4) (v := .int 2) (ty := .int) (C := RX5) (T := TX5) (N := 4) hx hb hU iX5 tyX5 tyX5_ok nmX5 hown hK.1 hP hD hS 1 rfl rfl 0 (by decide) (hU _ w92) (fun _ h9 => h9) rfl (by decide +kernel) rfl rfl (Nat.le_of_ble_eq_true rfl) dX5_become_5 (fun H locs hP hD hS => ?_)
  have hP : va_P D cl0 [(h0, .inr (4, [.int 2, .int 0, .int 1, .ref h3])), (h1, .inr (4, [.int 2, .int 0, .int 1, .ref h2])), (h2, .inl (k 1, 36, .inr (.inl (tL [] 0)))), (h3, .inl (k 1, 36, .inr (.inl (tL [] 0))))] H := hP
  have hD : va_D A [(h0, .inr (4, [.int 2, .int 0, .int 1, .ref h3])), (h1, .inr (4, [.int 2, .int 0, .int 1, .ref h2])), (h2, .inl (k 1, 36, .inr (.inl (tL [] 0)))), (h3, .inl (k 1, 36, .inr (.inl (tL [] 0))))] := hD
  refine lv_aload_n hx hb dX5_become_8 rfl (lv_at hl 0 rfl) ?_
  refine lv_aload_n hx hb dX5_become_9 rfl (lv_at hl 1 rfl) ?_
  refine va_get (D := D) (ci := 4) (v := .int 0) (C := RX5) (T := TX5) (N := 4) hx hb hU iX5 hown hK.1 hP 0 rfl rfl 1 (by decide) (hU _ w96) (fun _ h9 => h9) rfl dX5_become_10 ?_
  refine va_put (D := D) (ci := 4) (v := .int 0) (ty := .int) (C := RX5) (T := TX5) (N := 4) hx hb hU iX5 tyX5 tyX5_ok nmX5 hown hK.1 hP hD hS 1 rfl rfl 1 (by decide) (hU _ w96) (fun _ h9 => h9) rfl (by decide +kernel) rfl rfl (Nat.le_of_ble_eq_true rfl) dX5_become_13 (fun H locs hP hD hS => ?_)
  have hP : va_P D cl0 [(h0, .inr (4, [.int 2, .int 0, .int 1, .ref h3])), (h1, .inr (4, [.int 2, .int 0, .int 1, .ref h2])), (h2, .inl (k 1, 36, .inr (.inl (tL [] 0)))), (h3, .inl (k 1, 36, .inr (.inl (tL [] 0))))] H := hP
  have hD : va_D A [(h0, .inr (4, [.int 2, .int 0, .int 1, .ref h3])), (h1, .inr (4, [.int 2, .int 0, .int 1, .ref h2])), (h2, .inl (k 1, 36, .inr (.inl (tL [] 0)))), (h3, .inl (k 1, 36, .inr (.inl (tL [] 0))))] := hD
  refine lv_aload_n hx hb dX5_become_16 rfl (lv_at hl 0 rfl) ?_
  refine lv_aload_n hx hb dX5_become_17 rfl (lv_at hl 1 rfl) ?_
  refine va_get (D := D) (ci := 4) (v := .int 1) (C := RX5) (T := TX5) (N := 4) hx hb hU iX5 hown hK.1 hP 0 rfl rfl 2 (by decide) (hU _ w98) (fun _ h9 => h9) rfl dX5_become_18 ?_
  refine va_put (D := D) (ci := 4) (v := .int 1) (ty := .int) (C := RX5) (T := TX5) (N := 4) hx hb hU iX5 tyX5 tyX5_ok nmX5 hown hK.1 hP hD hS 1 rfl rfl 2 (by decide) (hU _ w98) (fun _ h9 => h9) rfl (by decide +kernel) rfl rfl (Nat.le_of_ble_eq_true rfl) dX5_become_21 (fun H locs hP hD hS => ?_)
  have hP : va_P D cl0 [(h0, .inr (4, [.int 2, .int 0, .int 1, .ref h3])), (h1, .inr (4, [.int 2, .int 0, .int 1, .ref h2])), (h2, .inl (k 1, 36, .inr (.inl (tL [] 0)))), (h3, .inl (k 1, 36, .inr (.inl (tL [] 0))))] H := hP
  have hD : va_D A [(h0, .inr (4, [.int 2, .int 0, .int 1, .ref h3])), (h1, .inr (4, [.int 2, .int 0, .int 1, .ref h2])), (h2, .inl (k 1, 36, .inr (.inl (tL [] 0)))), (h3, .inl (k 1, 36, .inr (.inl (tL [] 0))))] := hD
  refine lv_aload_n hx hb dX5_become_24 rfl (lv_at hl 1 rfl) ?_
  refine va_get (D := D) (ci := 4) (v := .ref h3) (C := RX5) (T := TX5) (N := 4) hx hb hU iX5 hown hK.1 hP 0 rfl rfl 3 (by decide) (hU _ w100) (fun _ h9 => h9) rfl dX5_become_25 ?_
  refine lv_iconst (v := 0) hx hb dX5_become_28 (by decide) ?_
  refine lv_aload_n hx hb dX5_become_29 rfl (lv_at hl 0 rfl) ?_
  refine va_get (D := D) (ci := 4) (v := .ref h2) (C := RX5) (T := TX5) (N := 4) hx hb hU iX5 hown hK.1 hP 1 rfl rfl 3 (by decide) (hU _ w100) (fun _ h9 => h9) rfl dX5_become_30 ?_
  refine lv_iconst (v := 0) hx hb dX5_become_33 (by decide) ?_
  refine lv_aload_n hx hb dX5_become_34 rfl (lv_at hl 0 rfl) ?_
  refine va_get (D := D) (ci := 4) (v := .ref h2) (C := RX5) (T := TX5) (N := 4) hx hb hU iX5 hown hK.1 hP 1 rfl rfl 3 (by decide) (hU _ w100) (fun _ h9 => h9) rfl dX5_become_35 ?_
  refine va_alen (v := 36) hx hb hK.1 hP 2 1 rfl rfl (by decide +kernel) dX5_become_38 ?_
  refine cp_l (g' := tL [0, 0, 0, 0, 0, 0, 0, 0, 0, 0, 0, 0, 0, 0, 0, 0, 0, 0, 0, 0, 0, 0, 0, 0, 0, 0, 0, 0, 0, 0, 0, 0, 0, 0, 0, 0] 0) hx hb hml hl.1 hown hU w346 w348 w347 w75 hK hP hD hS 3 2 rfl rfl 0 0 36 (by decide +kernel) cpy_tL (Nat.le_of_ble_eq_true rfl) (Nat.le_of_ble_eq_true rfl) dX5_become_39 (fun H locs hP hD hS => ?_)
  have hP : va_P D cl0 [(h0, .inr (4, [.int 2, .int 0, .int 1, .ref h3])), (h1, .inr (4, [.int 2, .int 0, .int 1, .ref h2])), (h2, .inl (k 1, 36, .inr (.inl (tL [0, 0, 0, 0, 0, 0, 0, 0, 0, 0, 0, 0, 0, 0, 0, 0, 0, 0, 0, 0, 0, 0, 0, 0, 0, 0, 0, 0, 0, 0, 0, 0, 0, 0, 0, 0] 0)))), (h3, .inl (k 1, 36, .inr (.inl (tL [] 0))))] H := hP
  have hD : va_D A [(h0, .inr (4, [.int 2, .int 0, .int 1, .ref h3])), (h1, .inr (4, [.int 2, .int 0, .int 1, .ref h2])), (h2, .inl (k 1, 36, .inr (.inl (tL [0, 0, 0, 0, 0, 0, 0, 0, 0, 0, 0, 0, 0, 0, 0, 0, 0, 0, 0, 0, 0, 0, 0, 0, 0, 0, 0, 0, 0, 0, 0, 0, 0, 0, 0, 0] 0)))), (h3, .inl (k 1, 36, .inr (.inl (tL [] 0))))] := hD
  exact retV hx hb hr hlocks hS (⟨hP, hD⟩) dX5_become_42
abbrev BX10_keep_1 (D : va_G) (k : Nat → ClassId) (a0 a1 a2 a3 a4 a5 a8 a9 a18 a27 a28 a29 a30 a31 a32 : Nat) (A : Nat → Prop) (r : Int32) (H : Heap) : Prop := r = F_keep
set_option maxHeartbeats 4000000 in
set_option maxRecDepth 100000 in
theorem cX10_keep_1 (l : Launch) (D : va_G) (k : Nat → ClassId) (sz : Nat) (a0 a1 a2 a3 a4 a5 a8 a9 a18 a27 a28 a29 a30 a31 a32 : Nat) : Met l yX10_keep (Cond.code yX10_keep cX10_keep 1 (some .int) :: uw) ({ frames := 2, cells := 0, slots := 0, locals := 47 }) (pC D k sz [.ref a0] [(a0, .inr (7, [.ref a1, .ref a3, .int 0, .ref a5, .ref a8, .ref a9, .int 0, .ref a18, .int 0, .null, .ref a27, .int 0, .ref a28, .ref a29, .ref a30, .ref a31, .ref a32])), (a1, .inr (4, [.int 2, .int 0, .int 1, .ref a2])), (a2, .inl (k 1, 36, .inr (.inl (tL [] 0)))), (a3, .inr (4, [.int 2, .int 0, .int 1, .ref a4])), (a4, .inl (k 1, 36, .inr (.inl (tL [] 0))))]) (qI (BX10_keep_1 D k a0 a1 a2 a3 a4 a5 a8 a9 a18 a27 a28 a29 a30 a31 a32 (va_A [(a0, .inr (7, [.ref a1, .ref a3, .int 0, .ref a5, .ref a8, .ref a9, .int 0, .ref a18, .int 0, .null, .ref a27, .int 0, .ref a28, .ref a29, .ref a30, .ref a31, .ref a32])), (a1, .inr (4, [.int 2, .int 0, .int 1, .ref a2])), (a2, .inl (k 1, 36, .inr (.inl (tL [] 0)))), (a3, .inr (4, [.int 2, .int 0, .int 1, .ref a4])), (a4, .inl (k 1, 36, .inr (.inl (tL [] 0))))] sz)) (va_A [(a0, .inr (7, [.ref a1, .ref a3, .int 0, .ref a5, .ref a8, .ref a9, .int 0, .ref a18, .int 0, .null, .ref a27, .int 0, .ref a28, .ref a29, .ref a30, .ref a31, .ref a32])), (a1, .inr (4, [.int 2, .int 0, .int 1, .ref a2])), (a2, .inl (k 1, 36, .inr (.inl (tL [] 0)))), (a3, .inr (4, [.int 2, .int 0, .int 1, .ref a4])), (a4, .inl (k 1, 36, .inr (.inl (tL [] 0))))] sz)) 0 0 (va_A [(a0, .inr (7, [.ref a1, .ref a3, .int 0, .ref a5, .ref a8, .ref a9, .int 0, .ref a18, .int 0, .null, .ref a27, .int 0, .ref a28, .ref a29, .ref a30, .ref a31, .ref a32])), (a1, .inr (4, [.int 2, .int 0, .int 1, .ref a2])), (a2, .inl (k 1, 36, .inr (.inl (tL [] 0)))), (a3, .inr (4, [.int 2, .int 0, .int 1, .ref a4])), (a4, .inl (k 1, 36, .inr (.inl (tL [] 0))))] sz) := by
  refine begin_ (Qc := fun A => qI (BX10_keep_1 D k a0 a1 a2 a3 a4 a5 a8 a9 a18 a27 a28 a29 a30 a31 a32 A) A) (by decide) (Nat.le_of_ble_eq_true rfl) ?_
  intro p e s m below meth c ls A hx hb hr hml hown hlocks hin hU hK hsz hP hD hS hA hl
  have hl : lv_has ls 1 [(0, .ref a0)] := hl
  clear hsz
  refine lv_aload_n hx hb dX10_keep_0 rfl (lv_at hl 0 rfl) ?_
  refine va_get (D := D) (ci := 7) (v := .ref a3) (C := RX10) (T := TX10) (N := 17) hx hb hU iX10 hown hK.1 hP 0 rfl rfl 1 (by decide) (hU _ w250) (fun _ h9 => h9) rfl dX10_keep_1 ?_
  refine lv_aload_n hx hb dX10_keep_4 rfl (lv_at hl 0 rfl) ?_
  refine va_get (D := D) (ci := 7) (v := .ref a1) (C := RX10) (T := TX10) (N := 17) hx hb hU iX10 hown hK.1 hP 0 rfl rfl 0 (by decide) (hU _ w249) (fun _ h9 => h9) rfl dX10_keep_5 ?_
  refine cV (rV (q0 := 3) (ci := 4) (As := [.ref a1]) (rest := []) (wc := [(a1, .inr (4, [.int 2, .int 0, .int 1, .ref a2])), (a3, .inr (4, [.int 2, .int 0, .int 1, .ref a4])), (a4, .inl (k 1, 36, .inr (.inl (tL [] 0)))), (a2, .inl (k 1, 36, .inr (.inl (tL [] 0))))]) hx hb hml hown hU hK hP hD rfl rfl [1, 3, 4, 2] rfl (by decide) (cX5_become_1 l D k _ a1 a3 a4 a2) w774 w771 w772 w773 w64 hdX5_become ⟨rfl, rfl⟩ ⟨Nat.le_of_ble_eq_true rfl, Nat.le_of_ble_eq_true rfl⟩ rfl hl.1 (Nat.le_of_ble_eq_true rfl) dX10_keep_8 ⟨Nat.le_of_ble_eq_true rfl, Nat.le_of_ble_eq_true rfl⟩) hP hD hS hA (wr := [(a0, .inr (7, [.ref a1, .ref a3, .int 0, .ref a5, .ref a8, .ref a9, .int 0, .ref a18, .int 0, .null, .ref a27, .int 0, .ref a28, .ref a29, .ref a30, .ref a31, .ref a32]))]) [1, 3, 4, 2] [0] rfl rfl (by decide) (by decide) (fun H locs hB J hS => ?_)
  obtain ⟨hP1, hD1⟩ := hB
  obtain ⟨hP, hD⟩ := J _ hP1 hD1
  have hP : va_P D cl0 [(a0, .inr (7, [.ref a1, .ref a3, .int 0, .ref a5, .ref a8, .ref a9, .int 0, .ref a18, .int 0, .null, .ref a27, .int 0, .ref a28, .ref a29, .ref a30, .ref a31, .ref a32])), (a1, .inr (4, [.int 2, .int 0, .int 1, .ref a2])), (a3, .inr (4, [.int 2, .int 0, .int 1, .ref a4])), (a4, .inl (k 1, 36, .inr (.inl (tL [0, 0, 0, 0, 0, 0, 0, 0, 0, 0, 0, 0, 0, 0, 0, 0, 0, 0, 0, 0, 0, 0, 0, 0, 0, 0, 0, 0, 0, 0, 0, 0, 0, 0, 0, 0] 0)))), (a2, .inl (k 1, 36, .inr (.inl (tL [] 0))))] H := hP
  have hD : va_D A [(a0, .inr (7, [.ref a1, .ref a3, .int 0, .ref a5, .ref a8, .ref a9, .int 0, .ref a18, .int 0, .null, .ref a27, .int 0, .ref a28, .ref a29, .ref a30, .ref a31, .ref a32])), (a1, .inr (4, [.int 2, .int 0, .int 1, .ref a2])), (a3, .inr (4, [.int 2, .int 0, .int 1, .ref a4])), (a4, .inl (k 1, 36, .inr (.inl (tL [0, 0, 0, 0, 0, 0, 0, 0, 0, 0, 0, 0, 0, 0, 0, 0, 0, 0, 0, 0, 0, 0, 0, 0, 0, 0, 0, 0, 0, 0, 0, 0, 0, 0, 0, 0] 0)))), (a2, .inl (k 1, 36, .inr (.inl (tL [] 0))))] := hD
  refine lv_aload_n hx hb dX10_keep_11 rfl (lv_at hl 0 rfl) ?_
  refine lv_iconst (v := 1) hx hb dX10_keep_12 (by decide) ?_
  refine va_put (D := D) (ci := 7) (v := .int 1) (ty := .boolean) (C := RX10) (T := TX10) (N := 17) hx hb hU iX10 tyX10 tyX10_ok nmX10 hown hK.1 hP hD hS 0 rfl rfl 2 (by decide) (hU _ w251) (fun _ h9 => h9) rfl (by decide +kernel) rfl rfl (Nat.le_of_ble_eq_true rfl) dX10_keep_13 (fun H locs hP hD hS => ?_)
  have hP : va_P D cl0 [(a0, .inr (7, [.ref a1, .ref a3, .int 1, .ref a5, .ref a8, .ref a9, .int 0, .ref a18, .int 0, .null, .ref a27, .int 0, .ref a28, .ref a29, .ref a30, .ref a31, .ref a32])), (a1, .inr (4, [.int 2, .int 0, .int 1, .ref a2])), (a3, .inr (4, [.int 2, .int 0, .int 1, .ref a4])), (a4, .inl (k 1, 36, .inr (.inl (tL [0, 0, 0, 0, 0, 0, 0, 0, 0, 0, 0, 0, 0, 0, 0, 0, 0, 0, 0, 0, 0, 0, 0, 0, 0, 0, 0, 0, 0, 0, 0, 0, 0, 0, 0, 0] 0)))), (a2, .inl (k 1, 36, .inr (.inl (tL [] 0))))] H := hP
  have hD : va_D A [(a0, .inr (7, [.ref a1, .ref a3, .int 1, .ref a5, .ref a8, .ref a9, .int 0, .ref a18, .int 0, .null, .ref a27, .int 0, .ref a28, .ref a29, .ref a30, .ref a31, .ref a32])), (a1, .inr (4, [.int 2, .int 0, .int 1, .ref a2])), (a3, .inr (4, [.int 2, .int 0, .int 1, .ref a4])), (a4, .inl (k 1, 36, .inr (.inl (tL [0, 0, 0, 0, 0, 0, 0, 0, 0, 0, 0, 0, 0, 0, 0, 0, 0, 0, 0, 0, 0, 0, 0, 0, 0, 0, 0, 0, 0, 0, 0, 0, 0, 0, 0, 0] 0)))), (a2, .inl (k 1, 36, .inr (.inl (tL [] 0))))] := hD
  refine lv_iconst (v := 1) hx hb dX10_keep_16 (by decide) ?_
  exact retI (v := 1) hx hb hr hlocks hS (show (1 : Int32) = F_keep by rfl) dX10_keep_17
abbrev BX10_again_1 (D : va_G) (k : Nat → ClassId) (a0 a1 a3 a5 a8 a9 a18 a27 a28 a29 a30 a31 a32 : Nat) (A : Nat → Prop) (r : Int32) (H : Heap) : Prop := r = F_again
set_option maxHeartbeats 4000000 in
set_option maxRecDepth 100000 in
theorem cX10_again_1 (l : Launch) (D : va_G) (k : Nat → ClassId) (sz : Nat) (a0 a1 a3 a5 a8 a9 a18 a27 a28 a29 a30 a31 a32 : Nat) : Met l yX10_again (Cond.code yX10_again cX10_again 1 (some .int) :: uw) ({ frames := 0, cells := 0, slots := 0, locals := 0 }) (pC D k sz [.ref a0] [(a0, .inr (7, [.ref a1, .ref a3, .int 0, .ref a5, .ref a8, .ref a9, .int 0, .ref a18, .int 0, .null, .ref a27, .int 0, .ref a28, .ref a29, .ref a30, .ref a31, .ref a32]))]) (qI (BX10_again_1 D k a0 a1 a3 a5 a8 a9 a18 a27 a28 a29 a30 a31 a32 (va_A [(a0, .inr (7, [.ref a1, .ref a3, .int 0, .ref a5, .ref a8, .ref a9, .int 0, .ref a18, .int 0, .null, .ref a27, .int 0, .ref a28, .ref a29, .ref a30, .ref a31, .ref a32]))] sz)) (va_A [(a0, .inr (7, [.ref a1, .ref a3, .int 0, .ref a5, .ref a8, .ref a9, .int 0, .ref a18, .int 0, .null, .ref a27, .int 0, .ref a28, .ref a29, .ref a30, .ref a31, .ref a32]))] sz)) 0 0 (va_A [(a0, .inr (7, [.ref a1, .ref a3, .int 0, .ref a5, .ref a8, .ref a9, .int 0, .ref a18, .int 0, .null, .ref a27, .int 0, .ref a28, .ref a29, .ref a30, .ref a31, .ref a32]))] sz) := by
  refine begin_ (Qc := fun A => qI (BX10_again_1 D k a0 a1 a3 a5 a8 a9 a18 a27 a28 a29 a30 a31 a32 A) A) (by decide) (Nat.le_of_ble_eq_true rfl) ?_
  intro p e s m below meth c ls A hx hb hr hml hown hlocks hin hU hK hsz hP hD hS hA hl
  have hl : lv_has ls 1 [(0, .ref a0)] := hl
  clear hsz
  refine lv_aload_n hx hb dX10_again_0 rfl (lv_at hl 0 rfl) ?_
  refine va_get (D := D) (ci := 7) (v := .int 0) (C := RX10) (T := TX10) (N := 17) hx hb hU iX10 hown hK.1 hP 0 rfl rfl 2 (by decide) (hU _ w251) (fun _ h9 => h9) rfl dX10_again_1 ?_
  refine lv_if_ne (tgt := 10) hx hb dX10_again_4 (by decide) (fun cc => absurd (by decide +kernel) cc) (fun _ => ?_)
  refine lv_bipush (v := (-3)) hx hb dX10_again_7 (by decide) ?_
  exact retI (v := (-3)) hx hb hr hlocks hS (show ((-3) : Int32) = F_again by rfl) dX10_again_9
abbrev BX10_many_1 (D : va_G) (k : Nat → ClassId) (a0 a1 a5 a3 a8 a9 a18 a27 a28 a29 a30 a31 a32 a2 a6 a7 : Nat) (x0 : Int32) (A : Nat → Prop) (r : Int32) (H : Heap) : Prop := r = F_many x0
set_option maxHeartbeats 4000000 in
set_option maxRecDepth 100000 in
theorem cX10_many_1 (l : Launch) (D : va_G) (k : Nat → ClassId) (sz : Nat) (a0 a1 a5 a3 a8 a9 a18 a27 a28 a29 a30 a31 a32 a2 a6 a7 : Nat) (x0 : Int32) : Met l yX10_many (Cond.code yX10_many cX10_many 2 (some .int) :: uw) ({ frames := 0, cells := 0, slots := 0, locals := 0 }) (pC D k sz [.ref a0, .int x0] [(a0, .inr (7, [.ref a1, .ref a3, .int 0, .ref a5, .ref a8, .ref a9, .int 0, .ref a18, .int 0, .null, .ref a27, .int 0, .ref a28, .ref a29, .ref a30, .ref a31, .ref a32])), (a1, .inr (4, [.int 2, .int 0, .int 1, .ref a2])), (a5, .inr (6, [.ref a6, .int 0, .int 0, .int 0, .ref a7]))]) (qI (BX10_many_1 D k a0 a1 a5 a3 a8 a9 a18 a27 a28 a29 a30 a31 a32 a2 a6 a7 x0 (va_A [(a0, .inr (7, [.ref a1, .ref a3, .int 0, .ref a5, .ref a8, .ref a9, .int 0, .ref a18, .int 0, .null, .ref a27, .int 0, .ref a28, .ref a29, .ref a30, .ref a31, .ref a32])), (a1, .inr (4, [.int 2, .int 0, .int 1, .ref a2])), (a5, .inr (6, [.ref a6, .int 0, .int 0, .int 0, .ref a7]))] sz)) (va_A [(a0, .inr (7, [.ref a1, .ref a3, .int 0, .ref a5, .ref a8, .ref a9, .int 0, .ref a18, .int 0, .null, .ref a27, .int 0, .ref a28, .ref a29, .ref a30, .ref a31, .ref a32])), (a1, .inr (4, [.int 2, .int 0, .int 1, .ref a2])), (a5, .inr (6, [.ref a6, .int 0, .int 0, .int 0, .ref a7]))] sz)) 0 0 (va_A [(a0, .inr (7, [.ref a1, .ref a3, .int 0, .ref a5, .ref a8, .ref a9, .int 0, .ref a18, .int 0, .null, .ref a27, .int 0, .ref a28, .ref a29, .ref a30, .ref a31, .ref a32])), (a1, .inr (4, [.int 2, .int 0, .int 1, .ref a2])), (a5, .inr (6, [.ref a6, .int 0, .int 0, .int 0, .ref a7]))] sz) := by
  refine begin_ (Qc := fun A => qI (BX10_many_1 D k a0 a1 a5 a3 a8 a9 a18 a27 a28 a29 a30 a31 a32 a2 a6 a7 x0 A) A) (by decide) (Nat.le_of_ble_eq_true rfl) ?_
  intro p e s m below meth c ls A hx hb hr hml hown hlocks hin hU hK hsz hP hD hS hA hl
  have hl : lv_has ls 2 [(0, .ref a0), (1, .int x0)] := hl
  clear hsz
  refine lv_iload_n hx hb dX10_many_0 rfl (lv_at hl 1 rfl) ?_
  rcases (show (x0.toInt < 0 ∨ 2 < x0.toInt) ∨ x0.toInt = 0 ∨ x0.toInt = 1 ∨ x0.toInt = 2 by omega) with c_1 | c_1 | c_1 | c_1
  · skip
    refine lv_tableOut (tgt := 52) hx hb dX10_many_1 c_1 (by decide) ?_
    refine lv_iconst (v := (-1)) hx hb dX10_many_52 (by decide) ?_
    exact retI (v := (-1)) hx hb hr hlocks hS (show ((-1) : Int32) = F_many x0 by first | decide +kernel | (skip; unfold F_many; (repeat (first | rw [if_pos (by omega)] | rw [if_neg (by omega)])))) dX10_many_53
  · skip
    obtain rfl : x0 = 0 := eq32 c_1 (by decide +kernel)
    refine lv_tableIn (tgt := 28) (off := 27) hx hb dX10_many_1 (by decide +kernel) (by decide +kernel) (by decide +kernel) (by decide) ?_
    refine lv_aload_n hx hb dX10_many_28 rfl (lv_at hl 0 rfl) ?_
    refine va_get (D := D) (ci := 7) (v := .ref a1) (C := RX10) (T := TX10) (N := 17) hx hb hU iX10 hown hK.1 hP 0 rfl rfl 0 (by decide) (hU _ w249) (fun _ h9 => h9) rfl dX10_many_29 ?_
    refine va_get (D := D) (ci := 4) (v := .int 2) (C := RX5) (T := TX5) (N := 4) hx hb hU iX5 hown hK.1 hP 1 rfl rfl 0 (by decide) (hU _ w93) (fun _ h9 => h9) rfl dX10_many_32 ?_
    exact retI (v := 2) hx hb hr hlocks hS (show (2 : Int32) = F_many 0 by first | decide +kernel | (have g_0 : (0 : Int32).toInt = 0 := (by decide +kernel); unfold F_many; (repeat (first | rw [if_pos (by omega)] | rw [if_neg (by omega)])))) dX10_many_35
  · skip
    obtain rfl : x0 = 1 := eq32 c_1 (by decide +kernel)
    refine lv_tableIn (tgt := 36) (off := 35) hx hb dX10_many_1 (by decide +kernel) (by decide +kernel) (by decide +kernel) (by decide) ?_
    refine lv_aload_n hx hb dX10_many_36 rfl (lv_at hl 0 rfl) ?_
    refine va_get (D := D) (ci := 7) (v := .ref a1) (C := RX10) (T := TX10) (N := 17) hx hb hU iX10 hown hK.1 hP 0 rfl rfl 0 (by decide) (hU _ w249) (fun _ h9 => h9) rfl dX10_many_37 ?_
    refine va_get (D := D) (ci := 4) (v := .int 0) (C := RX5) (T := TX5) (N := 4) hx hb hU iX5 hown hK.1 hP 1 rfl rfl 1 (by decide) (hU _ w97) (fun _ h9 => h9) rfl dX10_many_40 ?_
    exact retI (v := 0) hx hb hr hlocks hS (show (0 : Int32) = F_many 1 by first | decide +kernel | (have g_1 : (1 : Int32).toInt = 1 := (by decide +kernel); unfold F_many; (repeat (first | rw [if_pos (by omega)] | rw [if_neg (by omega)])))) dX10_many_43
  · skip
    obtain rfl : x0 = 2 := eq32 c_1 (by decide +kernel)
    refine lv_tableIn (tgt := 44) (off := 43) hx hb dX10_many_1 (by decide +kernel) (by decide +kernel) (by decide +kernel) (by decide) ?_
    refine lv_aload_n hx hb dX10_many_44 rfl (lv_at hl 0 rfl) ?_
    refine va_get (D := D) (ci := 7) (v := .ref a5) (C := RX10) (T := TX10) (N := 17) hx hb hU iX10 hown hK.1 hP 0 rfl rfl 3 (by decide) (hU _ w252) (fun _ h9 => h9) rfl dX10_many_45 ?_
    refine va_get (D := D) (ci := 6) (v := .int 0) (C := RX9) (T := TX9) (N := 5) hx hb hU iX9 hown hK.1 hP 2 rfl rfl 1 (by decide) (hU _ w122) (fun _ h9 => h9) rfl dX10_many_48 ?_
    exact retI (v := 0) hx hb hr hlocks hS (show (0 : Int32) = F_many 2 by first | decide +kernel | (have g_2 : (2 : Int32).toInt = 2 := (by decide +kernel); unfold F_many; (repeat (first | rw [if_pos (by omega)] | rw [if_neg (by omega)])))) dX10_many_51
abbrev BX5_isPlace_1 (D : va_G) (k : Nat → ClassId) (h0 h1 : Nat) (x0 : Int32) (x1 : Int32) (A : Nat → Prop) (r : Int32) (H : Heap) : Prop := (x0 < 0 ∧ 0 = r ∧ va_P D cl0 [(h0, .inr (4, [.int 2, .int 0, .int 1, .ref h1]))] H ∧ va_D A [(h0, .inr (4, [.int 2, .int 0, .int 1, .ref h1]))]) ∨ (¬ (x0 < 0) ∧ 2 ≤ x0 ∧ 0 = r ∧ va_P D cl0 [(h0, .inr (4, [.int 2, .int 0, .int 1, .ref h1]))] H ∧ va_D A [(h0, .inr (4, [.int 2, .int 0, .int 1, .ref h1]))]) ∨ (¬ (x0 < 0) ∧ ¬ (2 ≤ x0) ∧ x1 < 0 ∧ 0 = r ∧ va_P D cl0 [(h0, .inr (4, [.int 2, .int 0, .int 1, .ref h1]))] H ∧ va_D A [(h0, .inr (4, [.int 2, .int 0, .int 1, .ref h1]))]) ∨ (¬ (x0 < 0) ∧ ¬ (2 ≤ x0) ∧ ¬ (x1 < 0) ∧ 2 ≤ x1 ∧ 0 = r ∧ va_P D cl0 [(h0, .inr (4, [.int 2, .int 0, .int 1, .ref h1]))] H ∧ va_D A [(h0, .inr (4, [.int 2, .int 0, .int 1, .ref h1]))]) ∨ (¬ (x0 < 0) ∧ ¬ (2 ≤ x0) ∧ ¬ (x1 < 0) ∧ ¬ (2 ≤ x1) ∧ 1 = r ∧ va_P D cl0 [(h0, .inr (4, [.int 2, .int 0, .int 1, .ref h1]))] H ∧ va_D A [(h0, .inr (4, [.int 2, .int 0, .int 1, .ref h1]))])
set_option maxHeartbeats 4000000 in
set_option maxRecDepth 100000 in
theorem cX5_isPlace_1 (l : Launch) (D : va_G) (k : Nat → ClassId) (sz : Nat) (h0 h1 : Nat) (x0 : Int32) (x1 : Int32) : Met l yX5_isPlace (Cond.code yX5_isPlace cX5_isPlace 3 (some .boolean) :: uw) ({ frames := 0, cells := 0, slots := 0, locals := 0 }) (pC D k sz [.ref h0, .int x0, .int x1] [(h0, .inr (4, [.int 2, .int 0, .int 1, .ref h1]))]) (qI (BX5_isPlace_1 D k h0 h1 x0 x1 (va_A [(h0, .inr (4, [.int 2, .int 0, .int 1, .ref h1]))] sz)) (va_A [(h0, .inr (4, [.int 2, .int 0, .int 1, .ref h1]))] sz)) 0 0 (va_A [(h0, .inr (4, [.int 2, .int 0, .int 1, .ref h1]))] sz) := by
  refine begin_ (Qc := fun A => qI (BX5_isPlace_1 D k h0 h1 x0 x1 A) A) (by decide) (Nat.le_of_ble_eq_true rfl) ?_
  intro p e s m below meth c ls A hx hb hr hml hown hlocks hin hU hK hsz hP hD hS hA hl
  have hl : lv_has ls 3 [(0, .ref h0), (1, .int x0), (2, .int x1)] := hl
  clear hsz
  refine lv_iload_n hx hb dX5_isPlace_0 rfl (lv_at hl 1 rfl) ?_
  refine lv_if_lt (tgt := 28) hx hb dX5_isPlace_1 (by decide) (fun c_1 => ?_) (fun c_1 => ?_)
  · skip
    refine lv_iconst (v := 0) hx hb dX5_isPlace_28 (by decide) ?_
    exact retZ (v := 0) hx hb hr hlocks hS (Or.inl ⟨c_1, rfl, hP, hD⟩) dX5_isPlace_29 (by decide +kernel)
  · skip
    refine lv_iload_n hx hb dX5_isPlace_4 rfl (lv_at hl 1 rfl) ?_
    refine lv_aload_n hx hb dX5_isPlace_5 rfl (lv_at hl 0 rfl) ?_
    refine va_get (D := D) (ci := 4) (v := .int 2) (C := RX5) (T := TX5) (N := 4) hx hb hU iX5 hown hK.1 hP 0 rfl rfl 0 (by decide) (hU _ w92) (fun _ h9 => h9) rfl dX5_isPlace_6 ?_
    refine lv_icmp_ge (tgt := 28) hx hb dX5_isPlace_9 (by decide) (fun c_2 => ?_) (fun c_2 => ?_)
    · skip
      refine lv_iconst (v := 0) hx hb dX5_isPlace_28 (by decide) ?_
      exact retZ (v := 0) hx hb hr hlocks hS (Or.inr (Or.inl ⟨c_1, c_2, rfl, hP, hD⟩)) dX5_isPlace_29 (by decide +kernel)
    · skip
      refine lv_iload_n hx hb dX5_isPlace_12 rfl (lv_at hl 2 rfl) ?_
      refine lv_if_lt (tgt := 28) hx hb dX5_isPlace_13 (by decide) (fun c_3 => ?_) (fun c_3 => ?_)
      · skip
        refine lv_iconst (v := 0) hx hb dX5_isPlace_28 (by decide) ?_
        exact retZ (v := 0) hx hb hr hlocks hS (Or.inr (Or.inr (Or.inl ⟨c_1, c_2, c_3, rfl, hP, hD⟩))) dX5_isPlace_29 (by decide +kernel)
      · skip
        refine lv_iload_n hx hb dX5_isPlace_16 rfl (lv_at hl 2 rfl) ?_
        refine lv_aload_n hx hb dX5_isPlace_17 rfl (lv_at hl 0 rfl) ?_
        refine va_get (D := D) (ci := 4) (v := .int 2) (C := RX5) (T := TX5) (N := 4) hx hb hU iX5 hown hK.1 hP 0 rfl rfl 0 (by decide) (hU _ w92) (fun _ h9 => h9) rfl dX5_isPlace_18 ?_
        refine lv_icmp_ge (tgt := 28) hx hb dX5_isPlace_21 (by decide) (fun c_4 => ?_) (fun c_4 => ?_)
        · skip
          refine lv_iconst (v := 0) hx hb dX5_isPlace_28 (by decide) ?_
          exact retZ (v := 0) hx hb hr hlocks hS (Or.inr (Or.inr (Or.inr (Or.inl ⟨c_1, c_2, c_3, c_4, rfl, hP, hD⟩)))) dX5_isPlace_29 (by decide +kernel)
        · skip
          refine lv_iconst (v := 1) hx hb dX5_isPlace_24 (by decide) ?_
          refine lv_goto (tgt := 29) hx hb dX5_isPlace_25 (by decide) ?_
          exact retZ (v := 1) hx hb hr hlocks hS (Or.inr (Or.inr (Or.inr (Or.inr (⟨c_1, c_2, c_3, c_4, rfl, hP, hD⟩))))) dX5_isPlace_29 (by decide +kernel)
abbrev BX10_fitsUnit_1 (D : va_G) (k : Nat → ClassId) (x0 : Int32) (A : Nat → Prop) (r : Int32) (H : Heap) : Prop := (x0 = 1 ∧ 1 = r ∧ va_P D cl0 [] H ∧ va_D A []) ∨ (¬ (x0 = 1) ∧ ¬ (x0 = (-1)) ∧ 0 = r ∧ va_P D cl0 [] H ∧ va_D A []) ∨ (x0 = (-1) ∧ 1 = r ∧ va_P D cl0 [] H ∧ va_D A [])
set_option maxHeartbeats 4000000 in
set_option maxRecDepth 100000 in
theorem cX10_fitsUnit_1 (l : Launch) (D : va_G) (k : Nat → ClassId) (sz : Nat) (x0 : Int32) : Met l yX10_fitsUnit (Cond.code yX10_fitsUnit cX10_fitsUnit 2 (some .boolean) :: uw) ({ frames := 0, cells := 0, slots := 0, locals := 0 }) (pC D k sz [.int 1, .int x0] []) (qI (BX10_fitsUnit_1 D k x0 (va_A [] sz)) (va_A [] sz)) 0 0 (va_A [] sz) := by
  refine begin_ (Qc := fun A => qI (BX10_fitsUnit_1 D k x0 A) A) (by decide) (Nat.le_of_ble_eq_true rfl) ?_
  intro p e s m below meth c ls A hx hb hr hml hown hlocks hin hU hK hsz hP hD hS hA hl
  have hl : lv_has ls 2 [(0, .int 1), (1, .int x0)] := hl
  clear hsz
  refine lv_iload_n hx hb dX10_fitsUnit_0 rfl (lv_at hl 0 rfl) ?_
  refine lv_if_eq (tgt := 20) hx hb dX10_fitsUnit_1 (by decide) (fun cc => absurd cc (by decide +kernel)) (fun _ => ?_)
  refine lv_iload_n hx hb dX10_fitsUnit_4 rfl (lv_at hl 1 rfl) ?_
  refine lv_iconst (v := 1) hx hb dX10_fitsUnit_5 (by decide) ?_
  refine lv_icmp_eq (tgt := 14) hx hb dX10_fitsUnit_6 (by decide) (fun c_1 => ?_) (fun c_1 => ?_)
  · skip
    subst c_1
    refine lv_iconst (v := 1) hx hb dX10_fitsUnit_14 (by decide) ?_
    refine lv_goto (tgt := 19) hx hb dX10_fitsUnit_15 (by decide) ?_
    exact retZ (v := 1) hx hb hr hlocks hS (Or.inl ⟨rfl, rfl, hP, hD⟩) dX10_fitsUnit_19 (by decide +kernel)
  · skip
    refine lv_iload_n hx hb dX10_fitsUnit_9 rfl (lv_at hl 1 rfl) ?_
    refine lv_iconst (v := (-1)) hx hb dX10_fitsUnit_10 (by decide) ?_
    refine lv_icmp_ne (tgt := 18) hx hb dX10_fitsUnit_11 (by decide) (fun c_2 => ?_) (fun c_2 => ?_)
    · skip
      refine lv_iconst (v := 0) hx hb dX10_fitsUnit_18 (by decide) ?_
      exact retZ (v := 0) hx hb hr hlocks hS (Or.inr (Or.inl ⟨c_1, c_2, rfl, hP, hD⟩)) dX10_fitsUnit_19 (by decide +kernel)
    · skip
      subst c_2
      refine lv_iconst (v := 1) hx hb dX10_fitsUnit_14 (by decide) ?_
      refine lv_goto (tgt := 19) hx hb dX10_fitsUnit_15 (by decide) ?_
      exact retZ (v := 1) hx hb hr hlocks hS (Or.inr (Or.inr (⟨rfl, rfl, hP, hD⟩))) dX10_fitsUnit_19 (by decide +kernel)
abbrev BX5_isFull_1 (D : va_G) (k : Nat → ClassId) (h0 h1 : Nat) (A : Nat → Prop) (r : Int32) (H : Heap) : Prop := 0 = r ∧ va_P D cl0 [(h0, .inr (4, [.int 2, .int 0, .int 1, .ref h1]))] H ∧ va_D A [(h0, .inr (4, [.int 2, .int 0, .int 1, .ref h1]))]
set_option maxHeartbeats 4000000 in
set_option maxRecDepth 100000 in
theorem cX5_isFull_1 (l : Launch) (D : va_G) (k : Nat → ClassId) (sz : Nat) (h0 h1 : Nat) : Met l yX5_isFull (Cond.code yX5_isFull cX5_isFull 1 (some .boolean) :: uw) ({ frames := 0, cells := 0, slots := 0, locals := 0 }) (pC D k sz [.ref h0] [(h0, .inr (4, [.int 2, .int 0, .int 1, .ref h1]))]) (qI (BX5_isFull_1 D k h0 h1 (va_A [(h0, .inr (4, [.int 2, .int 0, .int 1, .ref h1]))] sz)) (va_A [(h0, .inr (4, [.int 2, .int 0, .int 1, .ref h1]))] sz)) 0 0 (va_A [(h0, .inr (4, [.int 2, .int 0, .int 1, .ref h1]))] sz) := by
  refine begin_ (Qc := fun A => qI (BX5_isFull_1 D k h0 h1 A) A) (by decide) (Nat.le_of_ble_eq_true rfl) ?_
  intro p e s m below meth c ls A hx hb hr hml hown hlocks hin hU hK hsz hP hD hS hA hl
  have hl : lv_has ls 1 [(0, .ref h0)] := hl
  clear hsz
  refine lv_aload_n hx hb dX5_isFull_0 rfl (lv_at hl 0 rfl) ?_
  refine va_get (D := D) (ci := 4) (v := .int 0) (C := RX5) (T := TX5) (N := 4) hx hb hU iX5 hown hK.1 hP 0 rfl rfl 1 (by decide) (hU _ w96) (fun _ h9 => h9) rfl dX5_isFull_1 ?_
  refine lv_iconst (v := 4) hx hb dX5_isFull_4 (by decide) ?_
  refine lv_icmp_lt (tgt := 12) hx hb dX5_isFull_5 (by decide) (fun _ => ?_) (fun cc => absurd (by decide +kernel) cc)
  refine lv_iconst (v := 0) hx hb dX5_isFull_12 (by decide) ?_
  exact retZ (v := 0) hx hb hr hlocks hS (⟨rfl, hP, hD⟩) dX5_isFull_13 (by decide +kernel)
abbrev BX7_becomeOne_1 (D : va_G) (k : Nat → ClassId) (h0 : Nat) (A : Nat → Prop) (H : Heap) : Prop := va_P D cl0 [(h0, .inl (k 1, 9, .inr (.inl (tL [1, 0, 0, 1] 0))))] H ∧ va_D A [(h0, .inl (k 1, 9, .inr (.inl (tL [1, 0, 0, 1] 0))))]
set_option maxHeartbeats 4000000 in
set_option maxRecDepth 100000 in
theorem cX7_becomeOne_1 (l : Launch) (D : va_G) (k : Nat → ClassId) (sz : Nat) (h0 : Nat) : Met l yX7_becomeOne (Cond.code yX7_becomeOne cX7_becomeOne 3 none :: uw) ({ frames := 1, cells := 0, slots := 0, locals := 24 }) (pC D k sz [.ref h0, .int 2] [(h0, .inl (k 1, 9, .inr (.inl (tL [] 0))))]) (qV (BX7_becomeOne_1 D k h0 (va_A [(h0, .inl (k 1, 9, .inr (.inl (tL [] 0))))] sz)) (va_A [(h0, .inl (k 1, 9, .inr (.inl (tL [] 0))))] sz)) 0 0 (va_A [(h0, .inl (k 1, 9, .inr (.inl (tL [] 0))))] sz) := by
  refine begin_ (Qc := fun A => qV (BX7_becomeOne_1 D k h0 A) A) (by decide) (Nat.le_of_ble_eq_true rfl) ?_
  intro p e s m below meth c ls A hx hb hr hml hown hlocks hin hU hK hsz hP hD hS hA hl
  have hl : lv_has ls 3 [(0, .ref h0), (1, .int 2)] := hl
  clear hsz
  refine lv_aload_n hx hb dX7_becomeOne_0 rfl (lv_at hl 0 rfl) ?_
  refine lv_lconst (v := 0) hx hb dX7_becomeOne_1 (by decide) ?_
  refine cV (rS (As := [.ref h0, .long 0]) (rest := []) (wc := [(h0, .inl (k 1, 9, .inr (.inl (tL [] 0))))]) hx hb hml hown hU hK hP hD [0] rfl (by decide) (c_fillL l D k _ h0 (9) (tL [] 0) (0) (by decide)) w336 w334 w335 w73 hdJ7_fill_d0a16 ⟨rfl, rfl⟩ ⟨Nat.le_of_ble_eq_true rfl, Nat.le_of_ble_eq_true rfl⟩ rfl hl.1 (Nat.le_of_ble_eq_true rfl) dX7_becomeOne_2 ⟨Nat.le_of_ble_eq_true rfl, Nat.le_of_ble_eq_true rfl⟩) hP hD hS hA (wr := []) [0] [] rfl rfl (by decide) (by decide) (fun H locs hB J hS => ?_)
  obtain ⟨hP1, hD1⟩ := hB
  obtain ⟨hP, hD⟩ := J _ hP1 hD1
  have hP : va_P D cl0 [(h0, .inl (k 1, 9, .inr (.inl (tL [] 0))))] H := hP
  have hD : va_D A [(h0, .inl (k 1, 9, .inr (.inl (tL [] 0))))] := hD
  refine lv_iconst (v := 0) hx hb dX7_becomeOne_5 (by decide) ?_
  refine lv_istore_n (lv' := [(2, .int 0), (0, .ref h0), (1, .int 2)]) hx hb dX7_becomeOne_6 rfl hl (by decide) rfl (fun ls hl => ?_)
  refine lv_iload_n hx hb dX7_becomeOne_7 rfl (lv_at hl 0 rfl) ?_
  refine lv_iload_n hx hb dX7_becomeOne_8 rfl (lv_at hl 2 rfl) ?_
  refine lv_icmp_ge (tgt := 26) hx hb dX7_becomeOne_9 (by decide) (fun cc => absurd cc (by decide +kernel)) (fun _ => ?_)
  refine lv_aload_n hx hb dX7_becomeOne_12 rfl (lv_at hl 1 rfl) ?_
  refine lv_iload_n hx hb dX7_becomeOne_13 rfl (lv_at hl 0 rfl) ?_
  refine lv_iload_n hx hb dX7_becomeOne_14 rfl (lv_at hl 2 rfl) ?_
  refine lv_imul hx hb dX7_becomeOne_15 (sv_i (v := 0) (by decide +kernel) ?_)
  refine lv_iload_n hx hb dX7_becomeOne_16 rfl (lv_at hl 0 rfl) ?_
  refine lv_iadd hx hb dX7_becomeOne_17 (sv_i (v := 0) (by decide +kernel) ?_)
  refine lv_lconst (v := 1) hx hb dX7_becomeOne_18 (by decide) ?_
  refine st_l (j := 0) (g := tL [1] 0) hx hb hK hP hD hS 0 rfl (by decide +kernel) upd_tL dX7_becomeOne_19 (fun H locs hP hD hS => ?_)
  have hP : va_P D cl0 [(h0, .inl (k 1, 9, .inr (.inl (tL [1] 0))))] H := hP
  have hD : va_D A [(h0, .inl (k 1, 9, .inr (.inl (tL [1] 0))))] := hD
  refine lv_iinc (v := 1) (lv' := [(2, .int 1), (0, .ref h0), (1, .int 2)]) hx hb dX7_becomeOne_20 hl (k := 0) rfl (by decide) (by decide) rfl (fun ls hl => ?_)
  refine lv_goto (tgt := 7) hx hb dX7_becomeOne_23 (by decide) ?_
  refine lv_iload_n hx hb dX7_becomeOne_7 rfl (lv_at hl 0 rfl) ?_
  refine lv_iload_n hx hb dX7_becomeOne_8 rfl (lv_at hl 2 rfl) ?_
  refine lv_icmp_ge (tgt := 26) hx hb dX7_becomeOne_9 (by decide) (fun cc => absurd cc (by decide +kernel)) (fun _ => ?_)
  refine lv_aload_n hx hb dX7_becomeOne_12 rfl (lv_at hl 1 rfl) ?_
  refine lv_iload_n hx hb dX7_becomeOne_13 rfl (lv_at hl 0 rfl) ?_
  refine lv_iload_n hx hb dX7_becomeOne_14 rfl (lv_at hl 2 rfl) ?_
  refine lv_imul hx hb dX7_becomeOne_15 (sv_i (v := 2) (by decide +kernel) ?_)
  refine lv_iload_n hx hb dX7_becomeOne_16 rfl (lv_at hl 0 rfl) ?_
  refine lv_iadd hx hb dX7_becomeOne_17 (sv_i (v := 3) (by decide +kernel) ?_)
  refine lv_lconst (v := 1) hx hb dX7_becomeOne_18 (by decide) ?_
  refine st_l (j := 3) (g := tL [1, 0, 0, 1] 0) hx hb hK hP hD hS 0 rfl (by decide +kernel) upd_tL dX7_becomeOne_19 (fun H locs hP hD hS => ?_)
  have hP : va_P D cl0 [(h0, .inl (k 1, 9, .inr (.inl (tL [1, 0, 0, 1] 0))))] H := hP
  have hD : va_D A [(h0, .inl (k 1, 9, .inr (.inl (tL [1, 0, 0, 1] 0))))] := hD
  refine lv_iinc (v := 2) (lv' := [(2, .int 2), (0, .ref h0), (1, .int 2)]) hx hb dX7_becomeOne_20 hl (k := 0) rfl (by decide) (by decide) rfl (fun ls hl => ?_)
  refine lv_goto (tgt := 7) hx hb dX7_becomeOne_23 (by decide) ?_
  refine lv_iload_n hx hb dX7_becomeOne_7 rfl (lv_at hl 0 rfl) ?_
  refine lv_iload_n hx hb dX7_becomeOne_8 rfl (lv_at hl 2 rfl) ?_
  refine lv_icmp_ge (tgt := 26) hx hb dX7_becomeOne_9 (by decide) (fun _ => ?_) (fun cc => absurd (by decide +kernel) cc)
  exact retV hx hb hr hlocks hS (⟨hP, hD⟩) dX7_becomeOne_26
abbrev BX5_append_1 (D : va_G) (k : Nat → ClassId) (h0 h1 h2 : Nat) (A : Nat → Prop) (r : Int32) (H : Heap) : Prop := 0 = r ∧ va_P D cl0 [(h1, .inl (k 1, 9, .inr (.inl (tL [1, 0, 0, 1] 0)))), (h2, .inl (k 1, 36, .inr (.inl (tL [1, 0, 0, 1, 0, 0, 0, 0, 0] 0)))), (h0, .inr (4, [.int 2, .int 1, .int 1, .ref h2]))] H ∧ va_D A [(h1, .inl (k 1, 9, .inr (.inl (tL [1, 0, 0, 1] 0)))), (h2, .inl (k 1, 36, .inr (.inl (tL [1, 0, 0, 1, 0, 0, 0, 0, 0] 0)))), (h0, .inr (4, [.int 2, .int 1, .int 1, .ref h2]))]
set_option maxHeartbeats 4000000 in
set_option maxRecDepth 100000 in
theorem cX5_append_1 (l : Launch) (D : va_G) (k : Nat → ClassId) (sz : Nat) (h0 h1 h2 : Nat) : Met l yX5_append (Cond.code yX5_append cX5_append 2 (some .int) :: uw) ({ frames := 1, cells := 0, slots := 0, locals := 26 }) (pC D k sz [.ref h0, .ref h1] [(h0, .inr (4, [.int 2, .int 0, .int 1, .ref h2])), (h1, .inl (k 1, 9, .inr (.inl (tL [1, 0, 0, 1] 0)))), (h2, .inl (k 1, 36, .inr (.inl (tL [] 0))))]) (qI (BX5_append_1 D k h0 h1 h2 (va_A [(h0, .inr (4, [.int 2, .int 0, .int 1, .ref h2])), (h1, .inl (k 1, 9, .inr (.inl (tL [1, 0, 0, 1] 0)))), (h2, .inl (k 1, 36, .inr (.inl (tL [] 0))))] sz)) (va_A [(h0, .inr (4, [.int 2, .int 0, .int 1, .ref h2])), (h1, .inl (k 1, 9, .inr (.inl (tL [1, 0, 0, 1] 0)))), (h2, .inl (k 1, 36, .inr (.inl (tL [] 0))))] sz)) 0 0 (va_A [(h0, .inr (4, [.int 2, .int 0, .int 1, .ref h2])), (h1, .inl (k 1, 9, .inr (.inl (tL [1, 0, 0, 1] 0)))), (h2, .inl (k 1, 36, .inr (.inl (tL [] 0))))] sz) := by
  refine begin_ (Qc := fun A => qI (BX5_append_1 D k h0 h1 h2 A) A) (by decide) (Nat.le_of_ble_eq_true rfl) ?_
  intro p e s m below meth c ls A hx hb hr hml hown hlocks hin hU hK hsz hP hD hS hA hl
  have hl : lv_has ls 2 [(0, .ref h0), (1, .ref h1)] := hl
  clear hsz
  refine lv_aload_n hx hb dX5_append_0 rfl (lv_at hl 0 rfl) ?_
  refine cI (rV (q0 := 0) (ci := 4) (As := []) (rest := []) (wc := [(h0, .inr (4, [.int 2, .int 0, .int 1, .ref h2]))]) hx hb hml hown hU hK hP hD rfl rfl [0] rfl (by decide) (cX5_isFull_1 l D k _ h0 h2) w326 w345 w324 w325 w64 hdX5_isFull ⟨rfl, rfl⟩ ⟨Nat.le_of_ble_eq_true rfl, Nat.le_of_ble_eq_true rfl⟩ rfl hl.1 (Nat.le_of_ble_eq_true rfl) dX5_append_1 ⟨Nat.le_of_ble_eq_true rfl, Nat.le_of_ble_eq_true rfl⟩) hP hD hS hA (wr := [(h1, .inl (k 1, 9, .inr (.inl (tL [1, 0, 0, 1] 0)))), (h2, .inl (k 1, 36, .inr (.inl (tL [] 0))))]) [0] [1, 2] rfl rfl (by decide) (by decide) (fun r1 H locs hB J hS => ?_)
  obtain ⟨rfl, hP1, hD1⟩ := hB
  obtain ⟨hP, hD⟩ := J _ hP1 hD1
  have hP : va_P D cl0 [(h1, .inl (k 1, 9, .inr (.inl (tL [1, 0, 0, 1] 0)))), (h2, .inl (k 1, 36, .inr (.inl (tL [] 0)))), (h0, .inr (4, [.int 2, .int 0, .int 1, .ref h2]))] H := hP
  have hD : va_D A [(h1, .inl (k 1, 9, .inr (.inl (tL [1, 0, 0, 1] 0)))), (h2, .inl (k 1, 36, .inr (.inl (tL [] 0)))), (h0, .inr (4, [.int 2, .int 0, .int 1, .ref h2]))] := hD
  refine lv_if_eq (tgt := 10) hx hb dX5_append_4 (by decide) (fun _ => ?_) (fun cc => absurd (by decide +kernel) cc)
  refine lv_aload_n hx hb dX5_append_10 rfl (lv_at hl 1 rfl) ?_
  refine lv_iconst (v := 0) hx hb dX5_append_11 (by decide) ?_
  refine lv_aload_n hx hb dX5_append_12 rfl (lv_at hl 0 rfl) ?_
  refine va_get (D := D) (ci := 4) (v := .ref h2) (C := RX5) (T := TX5) (N := 4) hx hb hU iX5 hown hK.1 hP 2 rfl rfl 3 (by decide) (hU _ w100) (fun _ h9 => h9) rfl dX5_append_13 ?_
  refine lv_aload_n hx hb dX5_append_16 rfl (lv_at hl 0 rfl) ?_
  refine va_get (D := D) (ci := 4) (v := .int 0) (C := RX5) (T := TX5) (N := 4) hx hb hU iX5 hown hK.1 hP 2 rfl rfl 1 (by decide) (hU _ w96) (fun _ h9 => h9) rfl dX5_append_17 ?_
  refine lv_bipush (v := 9) hx hb dX5_append_20 (by decide) ?_
  refine lv_imul hx hb dX5_append_22 (sv_i (v := 0) (by decide +kernel) ?_)
  refine lv_bipush (v := 9) hx hb dX5_append_23 (by decide) ?_
  refine cp_l (g' := tL [1, 0, 0, 1, 0, 0, 0, 0, 0] 0) hx hb hml hl.1 hown hU w346 w348 w347 w75 hK hP hD hS 0 1 rfl rfl 0 0 9 (by decide +kernel) cpy_tL (Nat.le_of_ble_eq_true rfl) (Nat.le_of_ble_eq_true rfl) dX5_append_25 (fun H locs hP hD hS => ?_)
  have hP : va_P D cl0 [(h1, .inl (k 1, 9, .inr (.inl (tL [1, 0, 0, 1] 0)))), (h2, .inl (k 1, 36, .inr (.inl (tL [1, 0, 0, 1, 0, 0, 0, 0, 0] 0)))), (h0, .inr (4, [.int 2, .int 0, .int 1, .ref h2]))] H := hP
  have hD : va_D A [(h1, .inl (k 1, 9, .inr (.inl (tL [1, 0, 0, 1] 0)))), (h2, .inl (k 1, 36, .inr (.inl (tL [1, 0, 0, 1, 0, 0, 0, 0, 0] 0)))), (h0, .inr (4, [.int 2, .int 0, .int 1, .ref h2]))] := hD
  refine lv_aload_n hx hb dX5_append_28 rfl (lv_at hl 0 rfl) ?_
  refine lv_dup hx hb dX5_append_29 rfl ?_
  refine va_get (D := D) (ci := 4) (v := .int 0) (C := RX5) (T := TX5) (N := 4) hx hb hU iX5 hown hK.1 hP 2 rfl rfl 1 (by decide) (hU _ w96) (fun _ h9 => h9) rfl dX5_append_30 ?_
  refine lv_iconst (v := 1) hx hb dX5_append_33 (by decide) ?_
  refine lv_iadd hx hb dX5_append_34 (sv_i (v := 1) (by decide +kernel) ?_)
  refine va_put (D := D) (ci := 4) (v := .int 1) (ty := .int) (C := RX5) (T := TX5) (N := 4) hx hb hU iX5 tyX5 tyX5_ok nmX5 hown hK.1 hP hD hS 2 rfl rfl 1 (by decide) (hU _ w96) (fun _ h9 => h9) rfl (by decide +kernel) rfl rfl (Nat.le_of_ble_eq_true rfl) dX5_append_35 (fun H locs hP hD hS => ?_)
  have hP : va_P D cl0 [(h1, .inl (k 1, 9, .inr (.inl (tL [1, 0, 0, 1] 0)))), (h2, .inl (k 1, 36, .inr (.inl (tL [1, 0, 0, 1, 0, 0, 0, 0, 0] 0)))), (h0, .inr (4, [.int 2, .int 1, .int 1, .ref h2]))] H := hP
  have hD : va_D A [(h1, .inl (k 1, 9, .inr (.inl (tL [1, 0, 0, 1] 0)))), (h2, .inl (k 1, 36, .inr (.inl (tL [1, 0, 0, 1, 0, 0, 0, 0, 0] 0)))), (h0, .inr (4, [.int 2, .int 1, .int 1, .ref h2]))] := hD
  refine lv_aload_n hx hb dX5_append_38 rfl (lv_at hl 0 rfl) ?_
  refine va_get (D := D) (ci := 4) (v := .int 1) (C := RX5) (T := TX5) (N := 4) hx hb hU iX5 hown hK.1 hP 2 rfl rfl 1 (by decide) (hU _ w96) (fun _ h9 => h9) rfl dX5_append_39 ?_
  refine lv_iconst (v := 1) hx hb dX5_append_42 (by decide) ?_
  refine lv_isub hx hb dX5_append_43 (sv_i (v := 0) (by decide +kernel) ?_)
  exact retI (v := 0) hx hb hr hlocks hS (⟨rfl, hP, hD⟩) dX5_append_44
abbrev BX10_addSquare_1 (D : va_G) (k : Nat → ClassId) (h0 h1 h2 h3 h4 h5 h6 h7 h8 h9 h10 h11 h12 h13 : Nat) (A : Nat → Prop) (r : Int32) (H : Heap) : Prop := 0 = r ∧ va_P D cl0 [(h2, .inl (k 1, 9, .inr (.inl (tL [1, 0, 0, 1] 0)))), (h3, .inl (k 1, 36, .inr (.inl (tL [1, 0, 0, 1, 0, 0, 0, 0, 0] 0)))), (h1, .inr (4, [.int 2, .int 1, .int 1, .ref h3])), (h0, .inr (7, [.ref h1, .ref h5, .int 0, .ref h6, .ref h7, .ref h8, .int 0, .ref h9, .int 0, .null, .ref h4, .int 0, .ref h10, .ref h11, .ref h12, .ref h2, .ref h13])), (h4, .inl (k 0, 8, .inl (tI [] 0)))] H ∧ va_D A [(h2, .inl (k 1, 9, .inr (.inl (tL [1, 0, 0, 1] 0)))), (h3, .inl (k 1, 36, .inr (.inl (tL [1, 0, 0, 1, 0, 0, 0, 0, 0] 0)))), (h1, .inr (4, [.int 2, .int 1, .int 1, .ref h3])), (h0, .inr (7, [.ref h1, .ref h5, .int 0, .ref h6, .ref h7, .ref h8, .int 0, .ref h9, .int 0, .null, .ref h4, .int 0, .ref h10, .ref h11, .ref h12, .ref h2, .ref h13])), (h4, .inl (k 0, 8, .inl (tI [] 0)))]
set_option maxHeartbeats 4000000 in
set_option maxRecDepth 100000 in
theorem cX10_addSquare_1 (l : Launch) (D : va_G) (k : Nat → ClassId) (sz : Nat) (h0 h1 h2 h3 h4 h5 h6 h7 h8 h9 h10 h11 h12 h13 : Nat) : Met l yX10_addSquare (Cond.code yX10_addSquare cX10_addSquare 2 (some .int) :: uw) ({ frames := 2, cells := 0, slots := 0, locals := 47 }) (pC D k sz [.ref h0] [(h0, .inr (7, [.ref h1, .ref h5, .int 0, .ref h6, .ref h7, .ref h8, .int 0, .ref h9, .int 0, .null, .ref h4, .int 0, .ref h10, .ref h11, .ref h12, .ref h2, .ref h13])), (h1, .inr (4, [.int 2, .int 0, .int 1, .ref h3])), (h2, .inl (k 1, 9, .inr (.inl (tL [1, 0, 0, 1] 0)))), (h3, .inl (k 1, 36, .inr (.inl (tL [] 0)))), (h4, .inl (k 0, 8, .inl (tI [] 0)))]) (qI (BX10_addSquare_1 D k h0 h1 h2 h3 h4 h5 h6 h7 h8 h9 h10 h11 h12 h13 (va_A [(h0, .inr (7, [.ref h1, .ref h5, .int 0, .ref h6, .ref h7, .ref h8, .int 0, .ref h9, .int 0, .null, .ref h4, .int 0, .ref h10, .ref h11, .ref h12, .ref h2, .ref h13])), (h1, .inr (4, [.int 2, .int 0, .int 1, .ref h3])), (h2, .inl (k 1, 9, .inr (.inl (tL [1, 0, 0, 1] 0)))), (h3, .inl (k 1, 36, .inr (.inl (tL [] 0)))), (h4, .inl (k 0, 8, .inl (tI [] 0)))] sz)) (va_A [(h0, .inr (7, [.ref h1, .ref h5, .int 0, .ref h6, .ref h7, .ref h8, .int 0, .ref h9, .int 0, .null, .ref h4, .int 0, .ref h10, .ref h11, .ref h12, .ref h2, .ref h13])), (h1, .inr (4, [.int 2, .int 0, .int 1, .ref h3])), (h2, .inl (k 1, 9, .inr (.inl (tL [1, 0, 0, 1] 0)))), (h3, .inl (k 1, 36, .inr (.inl (tL [] 0)))), (h4, .inl (k 0, 8, .inl (tI [] 0)))] sz)) 0 0 (va_A [(h0, .inr (7, [.ref h1, .ref h5, .int 0, .ref h6, .ref h7, .ref h8, .int 0, .ref h9, .int 0, .null, .ref h4, .int 0, .ref h10, .ref h11, .ref h12, .ref h2, .ref h13])), (h1, .inr (4, [.int 2, .int 0, .int 1, .ref h3])), (h2, .inl (k 1, 9, .inr (.inl (tL [1, 0, 0, 1] 0)))), (h3, .inl (k 1, 36, .inr (.inl (tL [] 0)))), (h4, .inl (k 0, 8, .inl (tI [] 0)))] sz) := by
  refine begin_ (Qc := fun A => qI (BX10_addSquare_1 D k h0 h1 h2 h3 h4 h5 h6 h7 h8 h9 h10 h11 h12 h13 A) A) (by decide) (Nat.le_of_ble_eq_true rfl) ?_
  intro p e s m below meth c ls A hx hb hr hml hown hlocks hin hU hK hsz hP hD hS hA hl
  have hl : lv_has ls 2 [(0, .ref h0)] := hl
  clear hsz
  refine lv_aload_n hx hb dX10_addSquare_0 rfl (lv_at hl 0 rfl) ?_
  refine va_get (D := D) (ci := 7) (v := .ref h1) (C := RX10) (T := TX10) (N := 17) hx hb hU iX10 hown hK.1 hP 0 rfl rfl 0 (by decide) (hU _ w249) (fun _ h9 => h9) rfl dX10_addSquare_1 ?_
  refine lv_aload_n hx hb dX10_addSquare_4 rfl (lv_at hl 0 rfl) ?_
  refine va_get (D := D) (ci := 7) (v := .ref h2) (C := RX10) (T := TX10) (N := 17) hx hb hU iX10 hown hK.1 hP 0 rfl rfl 15 (by decide) (hU _ w264) (fun _ h9 => h9) rfl dX10_addSquare_5 ?_
  refine cI (rV (q0 := 1) (ci := 4) (As := [.ref h2]) (rest := []) (wc := [(h1, .inr (4, [.int 2, .int 0, .int 1, .ref h3])), (h2, .inl (k 1, 9, .inr (.inl (tL [1, 0, 0, 1] 0)))), (h3, .inl (k 1, 36, .inr (.inl (tL [] 0))))]) hx hb hml hown hU hK hP hD rfl rfl [1, 2, 3] rfl (by decide) (cX5_append_1 l D k _ h1 h2 h3) w344 w341 w342 w343 w64 hdX5_append ⟨rfl, rfl⟩ ⟨Nat.le_of_ble_eq_true rfl, Nat.le_of_ble_eq_true rfl⟩ rfl hl.1 (Nat.le_of_ble_eq_true rfl) dX10_addSquare_8 ⟨Nat.le_of_ble_eq_true rfl, Nat.le_of_ble_eq_true rfl⟩) hP hD hS hA (wr := [(h0, .inr (7, [.ref h1, .ref h5, .int 0, .ref h6, .ref h7, .ref h8, .int 0, .ref h9, .int 0, .null, .ref h4, .int 0, .ref h10, .ref h11, .ref h12, .ref h2, .ref h13])), (h4, .inl (k 0, 8, .inl (tI [] 0)))]) [1, 2, 3] [0, 4] rfl rfl (by decide) (by decide) (fun r1 H locs hB J hS => ?_)
  obtain ⟨rfl, hP1, hD1⟩ := hB
  obtain ⟨hP, hD⟩ := J _ hP1 hD1
  have hP : va_P D cl0 [(h0, .inr (7, [.ref h1, .ref h5, .int 0, .ref h6, .ref h7, .ref h8, .int 0, .ref h9, .int 0, .null, .ref h4, .int 0, .ref h10, .ref h11, .ref h12, .ref h2, .ref h13])), (h4, .inl (k 0, 8, .inl (tI [] 0))), (h2, .inl (k 1, 9, .inr (.inl (tL [1, 0, 0, 1] 0)))), (h3, .inl (k 1, 36, .inr (.inl (tL [1, 0, 0, 1, 0, 0, 0, 0, 0] 0)))), (h1, .inr (4, [.int 2, .int 1, .int 1, .ref h3]))] H := hP
  have hD : va_D A [(h0, .inr (7, [.ref h1, .ref h5, .int 0, .ref h6, .ref h7, .ref h8, .int 0, .ref h9, .int 0, .null, .ref h4, .int 0, .ref h10, .ref h11, .ref h12, .ref h2, .ref h13])), (h4, .inl (k 0, 8, .inl (tI [] 0))), (h2, .inl (k 1, 9, .inr (.inl (tL [1, 0, 0, 1] 0)))), (h3, .inl (k 1, 36, .inr (.inl (tL [1, 0, 0, 1, 0, 0, 0, 0, 0] 0)))), (h1, .inr (4, [.int 2, .int 1, .int 1, .ref h3]))] := hD
  refine lv_istore_n (lv' := [(1, .int 0), (0, .ref h0)]) hx hb dX10_addSquare_11 rfl hl (by decide) rfl (fun ls hl => ?_)
  refine lv_aload_n hx hb dX10_addSquare_12 rfl (lv_at hl 1 rfl) ?_
  refine cV (rV (q0 := 0) (ci := 7) (As := []) (rest := []) (wc := [(h0, .inr (7, [.ref h1, .ref h5, .int 0, .ref h6, .ref h7, .ref h8, .int 0, .ref h9, .int 0, .null, .ref h4, .int 0, .ref h10, .ref h11, .ref h12, .ref h2, .ref h13])), (h4, .inl (k 0, 8, .inl (tI [] 0)))]) hx hb hml hown hU hK hP hD rfl rfl [0, 1] rfl (by decide) (cX10_forgetWhatCame_1 l D k _ h0 h4 h1 h5 h6 h7 h8 h9 h10 h11 h12 h2 h13) w308 w305 w307 w0 w63 hdX10_forgetWhatCame ⟨rfl, rfl⟩ ⟨Nat.le_of_ble_eq_true rfl, Nat.le_of_ble_eq_true rfl⟩ rfl hl.1 (Nat.le_of_ble_eq_true rfl) dX10_addSquare_13 ⟨Nat.le_of_ble_eq_true rfl, Nat.le_of_ble_eq_true rfl⟩) hP hD hS hA (wr := [(h2, .inl (k 1, 9, .inr (.inl (tL [1, 0, 0, 1] 0)))), (h3, .inl (k 1, 36, .inr (.inl (tL [1, 0, 0, 1, 0, 0, 0, 0, 0] 0)))), (h1, .inr (4, [.int 2, .int 1, .int 1, .ref h3]))]) [0, 1] [2, 3, 4] rfl rfl (by decide) (by decide) (fun H locs hB J hS => ?_)
  obtain ⟨hP1, hD1⟩ := hB
  obtain ⟨hP, hD⟩ := J _ hP1 hD1
  have hP : va_P D cl0 [(h2, .inl (k 1, 9, .inr (.inl (tL [1, 0, 0, 1] 0)))), (h3, .inl (k 1, 36, .inr (.inl (tL [1, 0, 0, 1, 0, 0, 0, 0, 0] 0)))), (h1, .inr (4, [.int 2, .int 1, .int 1, .ref h3])), (h0, .inr (7, [.ref h1, .ref h5, .int 0, .ref h6, .ref h7, .ref h8, .int 0, .ref h9, .int 0, .null, .ref h4, .int 0, .ref h10, .ref h11, .ref h12, .ref h2, .ref h13])), (h4, .inl (k 0, 8, .inl (tI [] 0)))] H := hP
  have hD : va_D A [(h2, .inl (k 1, 9, .inr (.inl (tL [1, 0, 0, 1] 0)))), (h3, .inl (k 1, 36, .inr (.inl (tL [1, 0, 0, 1, 0, 0, 0, 0, 0] 0)))), (h1, .inr (4, [.int 2, .int 1, .int 1, .ref h3])), (h0, .inr (7, [.ref h1, .ref h5, .int 0, .ref h6, .ref h7, .ref h8, .int 0, .ref h9, .int 0, .null, .ref h4, .int 0, .ref h10, .ref h11, .ref h12, .ref h2, .ref h13])), (h4, .inl (k 0, 8, .inl (tI [] 0)))] := hD
  refine lv_iload_n hx hb dX10_addSquare_16 rfl (lv_at hl 0 rfl) ?_
  exact retI (v := 0) hx hb hr hlocks hS (⟨rfl, hP, hD⟩) dX10_addSquare_17
abbrev BX10_addUnit_1 (D : va_G) (k : Nat → ClassId) (h0 h1 h2 h3 h4 h5 h6 h7 h8 h9 h10 h11 h12 h13 : Nat) (A : Nat → Prop) (r : Int32) (H : Heap) : Prop := 0 = r ∧ va_P D cl0 [(h2, .inl (k 1, 9, .inr (.inl (tL [1, 0, 0, 1] 0)))), (h3, .inl (k 1, 36, .inr (.inl (tL [1, 0, 0, 1, 0, 0, 0, 0, 0] 0)))), (h1, .inr (4, [.int 2, .int 1, .int 1, .ref h3])), (h0, .inr (7, [.ref h1, .ref h5, .int 0, .ref h6, .ref h7, .ref h8, .int 0, .ref h9, .int 0, .null, .ref h4, .int 0, .ref h10, .ref h11, .ref h12, .ref h2, .ref h13])), (h4, .inl (k 0, 8, .inl (tI [] 0)))] H ∧ va_D A [(h2, .inl (k 1, 9, .inr (.inl (tL [1, 0, 0, 1] 0)))), (h3, .inl (k 1, 36, .inr (.inl (tL [1, 0, 0, 1, 0, 0, 0, 0, 0] 0)))), (h1, .inr (4, [.int 2, .int 1, .int 1, .ref h3])), (h0, .inr (7, [.ref h1, .ref h5, .int 0, .ref h6, .ref h7, .ref h8, .int 0, .ref h9, .int 0, .null, .ref h4, .int 0, .ref h10, .ref h11, .ref h12, .ref h2, .ref h13])), (h4, .inl (k 0, 8, .inl (tI [] 0)))]
set_option maxHeartbeats 4000000 in
set_option maxRecDepth 100000 in
theorem cX10_addUnit_1 (l : Launch) (D : va_G) (k : Nat → ClassId) (sz : Nat) (h0 h1 h2 h3 h4 h5 h6 h7 h8 h9 h10 h11 h12 h13 : Nat) : Met l yX10_addUnit (Cond.code yX10_addUnit cX10_addUnit 4 (some .int) :: uw) ({ frames := 3, cells := 0, slots := 0, locals := 68 }) (pC D k sz [.ref h0, .int 0, .int 0, .int 1] [(h0, .inr (7, [.ref h1, .ref h5, .int 0, .ref h6, .ref h7, .ref h8, .int 0, .ref h9, .int 0, .null, .ref h4, .int 0, .ref h10, .ref h11, .ref h12, .ref h2, .ref h13])), (h1, .inr (4, [.int 2, .int 0, .int 1, .ref h3])), (h2, .inl (k 1, 9, .inr (.inl (tL [] 0)))), (h3, .inl (k 1, 36, .inr (.inl (tL [] 0)))), (h4, .inl (k 0, 8, .inl (tI [] 0)))]) (qI (BX10_addUnit_1 D k h0 h1 h2 h3 h4 h5 h6 h7 h8 h9 h10 h11 h12 h13 (va_A [(h0, .inr (7, [.ref h1, .ref h5, .int 0, .ref h6, .ref h7, .ref h8, .int 0, .ref h9, .int 0, .null, .ref h4, .int 0, .ref h10, .ref h11, .ref h12, .ref h2, .ref h13])), (h1, .inr (4, [.int 2, .int 0, .int 1, .ref h3])), (h2, .inl (k 1, 9, .inr (.inl (tL [] 0)))), (h3, .inl (k 1, 36, .inr (.inl (tL [] 0)))), (h4, .inl (k 0, 8, .inl (tI [] 0)))] sz)) (va_A [(h0, .inr (7, [.ref h1, .ref h5, .int 0, .ref h6, .ref h7, .ref h8, .int 0, .ref h9, .int 0, .null, .ref h4, .int 0, .ref h10, .ref h11, .ref h12, .ref h2, .ref h13])), (h1, .inr (4, [.int 2, .int 0, .int 1, .ref h3])), (h2, .inl (k 1, 9, .inr (.inl (tL [] 0)))), (h3, .inl (k 1, 36, .inr (.inl (tL [] 0)))), (h4, .inl (k 0, 8, .inl (tI [] 0)))] sz)) 0 0 (va_A [(h0, .inr (7, [.ref h1, .ref h5, .int 0, .ref h6, .ref h7, .ref h8, .int 0, .ref h9, .int 0, .null, .ref h4, .int 0, .ref h10, .ref h11, .ref h12, .ref h2, .ref h13])), (h1, .inr (4, [.int 2, .int 0, .int 1, .ref h3])), (h2, .inl (k 1, 9, .inr (.inl (tL [] 0)))), (h3, .inl (k 1, 36, .inr (.inl (tL [] 0)))), (h4, .inl (k 0, 8, .inl (tI [] 0)))] sz) := by
  refine begin_ (Qc := fun A => qI (BX10_addUnit_1 D k h0 h1 h2 h3 h4 h5 h6 h7 h8 h9 h10 h11 h12 h13 A) A) (by decide) (Nat.le_of_ble_eq_true rfl) ?_
  intro p e s m below meth c ls A hx hb hr hml hown hlocks hin hU hK hsz hP hD hS hA hl
  have hl : lv_has ls 4 [(0, .ref h0), (1, .int 0), (2, .int 0), (3, .int 1)] := hl
  clear hsz
  refine lv_aload_n hx hb dX10_addUnit_0 rfl (lv_at hl 0 rfl) ?_
  refine va_get (D := D) (ci := 7) (v := .ref h2) (C := RX10) (T := TX10) (N := 17) hx hb hU iX10 hown hK.1 hP 0 rfl rfl 15 (by decide) (hU _ w264) (fun _ h9 => h9) rfl dX10_addUnit_1 ?_
  refine lv_aload_n hx hb dX10_addUnit_4 rfl (lv_at hl 0 rfl) ?_
  refine va_get (D := D) (ci := 7) (v := .ref h1) (C := RX10) (T := TX10) (N := 17) hx hb hU iX10 hown hK.1 hP 0 rfl rfl 0 (by decide) (hU _ w249) (fun _ h9 => h9) rfl dX10_addUnit_5 ?_
  refine va_get (D := D) (ci := 4) (v := .int 2) (C := RX5) (T := TX5) (N := 4) hx hb hU iX5 hown hK.1 hP 1 rfl rfl 0 (by decide) (hU _ w93) (fun _ h9 => h9) rfl dX10_addUnit_8 ?_
  refine cV (rS (As := [.ref h2, .int 2]) (rest := []) (wc := [(h2, .inl (k 1, 9, .inr (.inl (tL [] 0))))]) hx hb hml hown hU hK hP hD [2] rfl (by decide) (cX7_becomeOne_1 l D k _ h2) w333 w331 w332 w74 hdX7_becomeOne ⟨rfl, rfl⟩ ⟨Nat.le_of_ble_eq_true rfl, Nat.le_of_ble_eq_true rfl⟩ rfl hl.1 (Nat.le_of_ble_eq_true rfl) dX10_addUnit_11 ⟨Nat.le_of_ble_eq_true rfl, Nat.le_of_ble_eq_true rfl⟩) hP hD hS hA (wr := [(h0, .inr (7, [.ref h1, .ref h5, .int 0, .ref h6, .ref h7, .ref h8, .int 0, .ref h9, .int 0, .null, .ref h4, .int 0, .ref h10, .ref h11, .ref h12, .ref h2, .ref h13])), (h1, .inr (4, [.int 2, .int 0, .int 1, .ref h3])), (h3, .inl (k 1, 36, .inr (.inl (tL [] 0)))), (h4, .inl (k 0, 8, .inl (tI [] 0)))]) [2] [0, 1, 3, 4] rfl rfl (by decide) (by decide) (fun H locs hB J hS => ?_)
  obtain ⟨hP1, hD1⟩ := hB
  obtain ⟨hP, hD⟩ := J _ hP1 hD1
  have hP : va_P D cl0 [(h0, .inr (7, [.ref h1, .ref h5, .int 0, .ref h6, .ref h7, .ref h8, .int 0, .ref h9, .int 0, .null, .ref h4, .int 0, .ref h10, .ref h11, .ref h12, .ref h2, .ref h13])), (h1, .inr (4, [.int 2, .int 0, .int 1, .ref h3])), (h3, .inl (k 1, 36, .inr (.inl (tL [] 0)))), (h4, .inl (k 0, 8, .inl (tI [] 0))), (h2, .inl (k 1, 9, .inr (.inl (tL [1, 0, 0, 1] 0))))] H := hP
  have hD : va_D A [(h0, .inr (7, [.ref h1, .ref h5, .int 0, .ref h6, .ref h7, .ref h8, .int 0, .ref h9, .int 0, .null, .ref h4, .int 0, .ref h10, .ref h11, .ref h12, .ref h2, .ref h13])), (h1, .inr (4, [.int 2, .int 0, .int 1, .ref h3])), (h3, .inl (k 1, 36, .inr (.inl (tL [] 0)))), (h4, .inl (k 0, 8, .inl (tI [] 0))), (h2, .inl (k 1, 9, .inr (.inl (tL [1, 0, 0, 1] 0))))] := hD
  refine lv_aload_n hx hb dX10_addUnit_14 rfl (lv_at hl 0 rfl) ?_
  refine va_get (D := D) (ci := 7) (v := .ref h2) (C := RX10) (T := TX10) (N := 17) hx hb hU iX10 hown hK.1 hP 0 rfl rfl 15 (by decide) (hU _ w264) (fun _ h9 => h9) rfl dX10_addUnit_15 ?_
  refine lv_iload_n hx hb dX10_addUnit_18 rfl (lv_at hl 1 rfl) ?_
  refine lv_aload_n hx hb dX10_addUnit_19 rfl (lv_at hl 0 rfl) ?_
  refine va_get (D := D) (ci := 7) (v := .ref h1) (C := RX10) (T := TX10) (N := 17) hx hb hU iX10 hown hK.1 hP 0 rfl rfl 0 (by decide) (hU _ w249) (fun _ h9 => h9) rfl dX10_addUnit_20 ?_
  refine va_get (D := D) (ci := 4) (v := .int 2) (C := RX5) (T := TX5) (N := 4) hx hb hU iX5 hown hK.1 hP 1 rfl rfl 0 (by decide) (hU _ w93) (fun _ h9 => h9) rfl dX10_addUnit_23 ?_
  refine lv_imul hx hb dX10_addUnit_26 (sv_i (v := 0) (by decide +kernel) ?_)
  refine lv_iload_n hx hb dX10_addUnit_27 rfl (lv_at hl 2 rfl) ?_
  refine lv_iadd hx hb dX10_addUnit_28 (sv_i (v := 0) (by decide +kernel) ?_)
  refine lv_iload_n hx hb dX10_addUnit_29 rfl (lv_at hl 3 rfl) ?_
  refine lv_i2l (v := 1) hx hb dX10_addUnit_30 (by decide +kernel) ?_
  refine st_l (j := 0) (g := tL [1, 0, 0, 1] 0) hx hb hK hP hD hS 4 rfl (by decide +kernel) upd_tL dX10_addUnit_31 (fun H locs hP hD hS => ?_)
  have hP : va_P D cl0 [(h0, .inr (7, [.ref h1, .ref h5, .int 0, .ref h6, .ref h7, .ref h8, .int 0, .ref h9, .int 0, .null, .ref h4, .int 0, .ref h10, .ref h11, .ref h12, .ref h2, .ref h13])), (h1, .inr (4, [.int 2, .int 0, .int 1, .ref h3])), (h3, .inl (k 1, 36, .inr (.inl (tL [] 0)))), (h4, .inl (k 0, 8, .inl (tI [] 0))), (h2, .inl (k 1, 9, .inr (.inl (tL [1, 0, 0, 1] 0))))] H := hP
  have hD : va_D A [(h0, .inr (7, [.ref h1, .ref h5, .int 0, .ref h6, .ref h7, .ref h8, .int 0, .ref h9, .int 0, .null, .ref h4, .int 0, .ref h10, .ref h11, .ref h12, .ref h2, .ref h13])), (h1, .inr (4, [.int 2, .int 0, .int 1, .ref h3])), (h3, .inl (k 1, 36, .inr (.inl (tL [] 0)))), (h4, .inl (k 0, 8, .inl (tI [] 0))), (h2, .inl (k 1, 9, .inr (.inl (tL [1, 0, 0, 1] 0))))] := hD
  refine lv_aload_n hx hb dX10_addUnit_32 rfl (lv_at hl 0 rfl) ?_
  refine cI (rV (q0 := 0) (ci := 7) (As := []) (rest := []) (wc := [(h0, .inr (7, [.ref h1, .ref h5, .int 0, .ref h6, .ref h7, .ref h8, .int 0, .ref h9, .int 0, .null, .ref h4, .int 0, .ref h10, .ref h11, .ref h12, .ref h2, .ref h13])), (h1, .inr (4, [.int 2, .int 0, .int 1, .ref h3])), (h2, .inl (k 1, 9, .inr (.inl (tL [1, 0, 0, 1] 0)))), (h3, .inl (k 1, 36, .inr (.inl (tL [] 0)))), (h4, .inl (k 0, 8, .inl (tI [] 0)))]) hx hb hml hown hU hK hP hD rfl rfl [0, 1, 4, 2, 3] rfl (by decide) (cX10_addSquare_1 l D k _ h0 h1 h2 h3 h4 h5 h6 h7 h8 h9 h10 h11 h12 h13) w340 w337 w339 w2 w63 hdX10_addSquare ⟨rfl, rfl⟩ ⟨Nat.le_of_ble_eq_true rfl, Nat.le_of_ble_eq_true rfl⟩ rfl hl.1 (Nat.le_of_ble_eq_true rfl) dX10_addUnit_33 ⟨Nat.le_of_ble_eq_true rfl, Nat.le_of_ble_eq_true rfl⟩) hP hD hS hA (wr := []) [0, 1, 4, 2, 3] [] rfl rfl (by decide) (by decide) (fun r2 H locs hB J hS => ?_)
  obtain ⟨rfl, hP1, hD1⟩ := hB
  obtain ⟨hP, hD⟩ := J _ hP1 hD1
  have hP : va_P D cl0 [(h2, .inl (k 1, 9, .inr (.inl (tL [1, 0, 0, 1] 0)))), (h3, .inl (k 1, 36, .inr (.inl (tL [1, 0, 0, 1, 0, 0, 0, 0, 0] 0)))), (h1, .inr (4, [.int 2, .int 1, .int 1, .ref h3])), (h0, .inr (7, [.ref h1, .ref h5, .int 0, .ref h6, .ref h7, .ref h8, .int 0, .ref h9, .int 0, .null, .ref h4, .int 0, .ref h10, .ref h11, .ref h12, .ref h2, .ref h13])), (h4, .inl (k 0, 8, .inl (tI [] 0)))] H := hP
  have hD : va_D A [(h2, .inl (k 1, 9, .inr (.inl (tL [1, 0, 0, 1] 0)))), (h3, .inl (k 1, 36, .inr (.inl (tL [1, 0, 0, 1, 0, 0, 0, 0, 0] 0)))), (h1, .inr (4, [.int 2, .int 1, .int 1, .ref h3])), (h0, .inr (7, [.ref h1, .ref h5, .int 0, .ref h6, .ref h7, .ref h8, .int 0, .ref h9, .int 0, .null, .ref h4, .int 0, .ref h10, .ref h11, .ref h12, .ref h2, .ref h13])), (h4, .inl (k 0, 8, .inl (tI [] 0)))] := hD
  exact retI (v := 0) hx hb hr hlocks hS (⟨rfl, hP, hD⟩) dX10_addUnit_36
abbrev BX5_append_2 (D : va_G) (k : Nat → ClassId) (h0 h1 h2 : Nat) (A : Nat → Prop) (r : Int32) (H : Heap) : Prop := 0 = r ∧ va_P D cl0 [(h1, .inl (k 1, 9, .inr (.inl (tL [(-1), 0, 0, 1] 0)))), (h2, .inl (k 1, 36, .inr (.inl (tL [(-1), 0, 0, 1, 0, 0, 0, 0, 0] 0)))), (h0, .inr (4, [.int 2, .int 1, .int 1, .ref h2]))] H ∧ va_D A [(h1, .inl (k 1, 9, .inr (.inl (tL [(-1), 0, 0, 1] 0)))), (h2, .inl (k 1, 36, .inr (.inl (tL [(-1), 0, 0, 1, 0, 0, 0, 0, 0] 0)))), (h0, .inr (4, [.int 2, .int 1, .int 1, .ref h2]))]
set_option maxHeartbeats 4000000 in
set_option maxRecDepth 100000 in
theorem cX5_append_2 (l : Launch) (D : va_G) (k : Nat → ClassId) (sz : Nat) (h0 h1 h2 : Nat) : Met l yX5_append (Cond.code yX5_append cX5_append 2 (some .int) :: uw) ({ frames := 1, cells := 0, slots := 0, locals := 26 }) (pC D k sz [.ref h0, .ref h1] [(h0, .inr (4, [.int 2, .int 0, .int 1, .ref h2])), (h1, .inl (k 1, 9, .inr (.inl (tL [(-1), 0, 0, 1] 0)))), (h2, .inl (k 1, 36, .inr (.inl (tL [] 0))))]) (qI (BX5_append_2 D k h0 h1 h2 (va_A [(h0, .inr (4, [.int 2, .int 0, .int 1, .ref h2])), (h1, .inl (k 1, 9, .inr (.inl (tL [(-1), 0, 0, 1] 0)))), (h2, .inl (k 1, 36, .inr (.inl (tL [] 0))))] sz)) (va_A [(h0, .inr (4, [.int 2, .int 0, .int 1, .ref h2])), (h1, .inl (k 1, 9, .inr (.inl (tL [(-1), 0, 0, 1] 0)))), (h2, .inl (k 1, 36, .inr (.inl (tL [] 0))))] sz)) 0 0 (va_A [(h0, .inr (4, [.int 2, .int 0, .int 1, .ref h2])), (h1, .inl (k 1, 9, .inr (.inl (tL [(-1), 0, 0, 1] 0)))), (h2, .inl (k 1, 36, .inr (.inl (tL [] 0))))] sz) := by
  refine begin_ (Qc := fun A => qI (BX5_append_2 D k h0 h1 h2 A) A) (by decide) (Nat.le_of_ble_eq_true rfl) ?_
  intro p e s m below meth c ls A hx hb hr hml hown hlocks hin hU hK hsz hP hD hS hA hl
  have hl : lv_has ls 2 [(0, .ref h0), (1, .ref h1)] := hl
  clear hsz
  refine lv_aload_n hx hb dX5_append_0 rfl (lv_at hl 0 rfl) ?_
  refine cI (rV (q0 := 0) (ci := 4) (As := []) (rest := []) (wc := [(h0, .inr (4, [.int 2, .int 0, .int 1, .ref h2]))]) hx hb hml hown hU hK hP hD rfl rfl [0] rfl (by decide) (cX5_isFull_1 l D k _ h0 h2) w326 w345 w324 w325 w64 hdX5_isFull ⟨rfl, rfl⟩ ⟨Nat.le_of_ble_eq_true rfl, Nat.le_of_ble_eq_true rfl⟩ rfl hl.1 (Nat.le_of_ble_eq_true rfl) dX5_append_1 ⟨Nat.le_of_ble_eq_true rfl, Nat.le_of_ble_eq_true rfl⟩) hP hD hS hA (wr := [(h1, .inl (k 1, 9, .inr (.inl (tL [(-1), 0, 0, 1] 0)))), (h2, .inl (k 1, 36, .inr (.inl (tL [] 0))))]) [0] [1, 2] rfl rfl (by decide) (by decide) (fun r1 H locs hB J hS => ?_)
  obtain ⟨rfl, hP1, hD1⟩ := hB
  obtain ⟨hP, hD⟩ := J _ hP1 hD1
  have hP : va_P D cl0 [(h1, .inl (k 1, 9, .inr (.inl (tL [(-1), 0, 0, 1] 0)))), (h2, .inl (k 1, 36, .inr (.inl (tL [] 0)))), (h0, .inr (4, [.int 2, .int 0, .int 1, .ref h2]))] H := hP
  have hD : va_D A [(h1, .inl (k 1, 9, .inr (.inl (tL [(-1), 0, 0, 1] 0)))), (h2, .inl (k 1, 36, .inr (.inl (tL [] 0)))), (h0, .inr (4, [.int 2, .int 0, .int 1, .ref h2]))] := hD
  refine lv_if_eq (tgt := 10) hx hb dX5_append_4 (by decide) (fun _ => ?_) (fun cc => absurd (by decide +kernel) cc)
  refine lv_aload_n hx hb dX5_append_10 rfl (lv_at hl 1 rfl) ?_
  refine lv_iconst (v := 0) hx hb dX5_append_11 (by decide) ?_
  refine lv_aload_n hx hb dX5_append_12 rfl (lv_at hl 0 rfl) ?_
  refine va_get (D := D) (ci := 4) (v := .ref h2) (C := RX5) (T := TX5) (N := 4) hx hb hU iX5 hown hK.1 hP 2 rfl rfl 3 (by decide) (hU _ w100) (fun _ h9 => h9) rfl dX5_append_13 ?_
  refine lv_aload_n hx hb dX5_append_16 rfl (lv_at hl 0 rfl) ?_
  refine va_get (D := D) (ci := 4) (v := .int 0) (C := RX5) (T := TX5) (N := 4) hx hb hU iX5 hown hK.1 hP 2 rfl rfl 1 (by decide) (hU _ w96) (fun _ h9 => h9) rfl dX5_append_17 ?_
  refine lv_bipush (v := 9) hx hb dX5_append_20 (by decide) ?_
  refine lv_imul hx hb dX5_append_22 (sv_i (v := 0) (by decide +kernel) ?_)
  refine lv_bipush (v := 9) hx hb dX5_append_23 (by decide) ?_
  refine cp_l (g' := tL [(-1), 0, 0, 1, 0, 0, 0, 0, 0] 0) hx hb hml hl.1 hown hU w346 w348 w347 w75 hK hP hD hS 0 1 rfl rfl 0 0 9 (by decide +kernel) cpy_tL (Nat.le_of_ble_eq_true rfl) (Nat.le_of_ble_eq_true rfl) dX5_append_25 (fun H locs hP hD hS => ?_)
  have hP : va_P D cl0 [(h1, .inl (k 1, 9, .inr (.inl (tL [(-1), 0, 0, 1] 0)))), (h2, .inl (k 1, 36, .inr (.inl (tL [(-1), 0, 0, 1, 0, 0, 0, 0, 0] 0)))), (h0, .inr (4, [.int 2, .int 0, .int 1, .ref h2]))] H := hP
  have hD : va_D A [(h1, .inl (k 1, 9, .inr (.inl (tL [(-1), 0, 0, 1] 0)))), (h2, .inl (k 1, 36, .inr (.inl (tL [(-1), 0, 0, 1, 0, 0, 0, 0, 0] 0)))), (h0, .inr (4, [.int 2, .int 0, .int 1, .ref h2]))] := hD
  refine lv_aload_n hx hb dX5_append_28 rfl (lv_at hl 0 rfl) ?_
  refine lv_dup hx hb dX5_append_29 rfl ?_
  refine va_get (D := D) (ci := 4) (v := .int 0) (C := RX5) (T := TX5) (N := 4) hx hb hU iX5 hown hK.1 hP 2 rfl rfl 1 (by decide) (hU _ w96) (fun _ h9 => h9) rfl dX5_append_30 ?_
  refine lv_iconst (v := 1) hx hb dX5_append_33 (by decide) ?_
  refine lv_iadd hx hb dX5_append_34 (sv_i (v := 1) (by decide +kernel) ?_)
  refine va_put (D := D) (ci := 4) (v := .int 1) (ty := .int) (C := RX5) (T := TX5) (N := 4) hx hb hU iX5 tyX5 tyX5_ok nmX5 hown hK.1 hP hD hS 2 rfl rfl 1 (by decide) (hU _ w96) (fun _ h9 => h9) rfl (by decide +kernel) rfl rfl (Nat.le_of_ble_eq_true rfl) dX5_append_35 (fun H locs hP hD hS => ?_)
  have hP : va_P D cl0 [(h1, .inl (k 1, 9, .inr (.inl (tL [(-1), 0, 0, 1] 0)))), (h2, .inl (k 1, 36, .inr (.inl (tL [(-1), 0, 0, 1, 0, 0, 0, 0, 0] 0)))), (h0, .inr (4, [.int 2, .int 1, .int 1, .ref h2]))] H := hP
  have hD : va_D A [(h1, .inl (k 1, 9, .inr (.inl (tL [(-1), 0, 0, 1] 0)))), (h2, .inl (k 1, 36, .inr (.inl (tL [(-1), 0, 0, 1, 0, 0, 0, 0, 0] 0)))), (h0, .inr (4, [.int 2, .int 1, .int 1, .ref h2]))] := hD
  refine lv_aload_n hx hb dX5_append_38 rfl (lv_at hl 0 rfl) ?_
  refine va_get (D := D) (ci := 4) (v := .int 1) (C := RX5) (T := TX5) (N := 4) hx hb hU iX5 hown hK.1 hP 2 rfl rfl 1 (by decide) (hU _ w96) (fun _ h9 => h9) rfl dX5_append_39 ?_
  refine lv_iconst (v := 1) hx hb dX5_append_42 (by decide) ?_
  refine lv_isub hx hb dX5_append_43 (sv_i (v := 0) (by decide +kernel) ?_)
  exact retI (v := 0) hx hb hr hlocks hS (⟨rfl, hP, hD⟩) dX5_append_44
abbrev BX10_addSquare_2 (D : va_G) (k : Nat → ClassId) (h0 h1 h2 h3 h4 h5 h6 h7 h8 h9 h10 h11 h12 h13 : Nat) (A : Nat → Prop) (r : Int32) (H : Heap) : Prop := 0 = r ∧ va_P D cl0 [(h2, .inl (k 1, 9, .inr (.inl (tL [(-1), 0, 0, 1] 0)))), (h3, .inl (k 1, 36, .inr (.inl (tL [(-1), 0, 0, 1, 0, 0, 0, 0, 0] 0)))), (h1, .inr (4, [.int 2, .int 1, .int 1, .ref h3])), (h0, .inr (7, [.ref h1, .ref h5, .int 0, .ref h6, .ref h7, .ref h8, .int 0, .ref h9, .int 0, .null, .ref h4, .int 0, .ref h10, .ref h11, .ref h12, .ref h2, .ref h13])), (h4, .inl (k 0, 8, .inl (tI [] 0)))] H ∧ va_D A [(h2, .inl (k 1, 9, .inr (.inl (tL [(-1), 0, 0, 1] 0)))), (h3, .inl (k 1, 36, .inr (.inl (tL [(-1), 0, 0, 1, 0, 0, 0, 0, 0] 0)))), (h1, .inr (4, [.int 2, .int 1, .int 1, .ref h3])), (h0, .inr (7, [.ref h1, .ref h5, .int 0, .ref h6, .ref h7, .ref h8, .int 0, .ref h9, .int 0, .null, .ref h4, .int 0, .ref h10, .ref h11, .ref h12, .ref h2, .ref h13])), (h4, .inl (k 0, 8, .inl (tI [] 0)))]
set_option maxHeartbeats 4000000 in
set_option maxRecDepth 100000 in
theorem cX10_addSquare_2 (l : Launch) (D : va_G) (k : Nat → ClassId) (sz : Nat) (h0 h1 h2 h3 h4 h5 h6 h7 h8 h9 h10 h11 h12 h13 : Nat) : Met l yX10_addSquare (Cond.code yX10_addSquare cX10_addSquare 2 (some .int) :: uw) ({ frames := 2, cells := 0, slots := 0, locals := 47 }) (pC D k sz [.ref h0] [(h0, .inr (7, [.ref h1, .ref h5, .int 0, .ref h6, .ref h7, .ref h8, .int 0, .ref h9, .int 0, .null, .ref h4, .int 0, .ref h10, .ref h11, .ref h12, .ref h2, .ref h13])), (h1, .inr (4, [.int 2, .int 0, .int 1, .ref h3])), (h2, .inl (k 1, 9, .inr (.inl (tL [(-1), 0, 0, 1] 0)))), (h3, .inl (k 1, 36, .inr (.inl (tL [] 0)))), (h4, .inl (k 0, 8, .inl (tI [] 0)))]) (qI (BX10_addSquare_2 D k h0 h1 h2 h3 h4 h5 h6 h7 h8 h9 h10 h11 h12 h13 (va_A [(h0, .inr (7, [.ref h1, .ref h5, .int 0, .ref h6, .ref h7, .ref h8, .int 0, .ref h9, .int 0, .null, .ref h4, .int 0, .ref h10, .ref h11, .ref h12, .ref h2, .ref h13])), (h1, .inr (4, [.int 2, .int 0, .int 1, .ref h3])), (h2, .inl (k 1, 9, .inr (.inl (tL [(-1), 0, 0, 1] 0)))), (h3, .inl (k 1, 36, .inr (.inl (tL [] 0)))), (h4, .inl (k 0, 8, .inl (tI [] 0)))] sz)) (va_A [(h0, .inr (7, [.ref h1, .ref h5, .int 0, .ref h6, .ref h7, .ref h8, .int 0, .ref h9, .int 0, .null, .ref h4, .int 0, .ref h10, .ref h11, .ref h12, .ref h2, .ref h13])), (h1, .inr (4, [.int 2, .int 0, .int 1, .ref h3])), (h2, .inl (k 1, 9, .inr (.inl (tL [(-1), 0, 0, 1] 0)))), (h3, .inl (k 1, 36, .inr (.inl (tL [] 0)))), (h4, .inl (k 0, 8, .inl (tI [] 0)))] sz)) 0 0 (va_A [(h0, .inr (7, [.ref h1, .ref h5, .int 0, .ref h6, .ref h7, .ref h8, .int 0, .ref h9, .int 0, .null, .ref h4, .int 0, .ref h10, .ref h11, .ref h12, .ref h2, .ref h13])), (h1, .inr (4, [.int 2, .int 0, .int 1, .ref h3])), (h2, .inl (k 1, 9, .inr (.inl (tL [(-1), 0, 0, 1] 0)))), (h3, .inl (k 1, 36, .inr (.inl (tL [] 0)))), (h4, .inl (k 0, 8, .inl (tI [] 0)))] sz) := by
  refine begin_ (Qc := fun A => qI (BX10_addSquare_2 D k h0 h1 h2 h3 h4 h5 h6 h7 h8 h9 h10 h11 h12 h13 A) A) (by decide) (Nat.le_of_ble_eq_true rfl) ?_
  intro p e s m below meth c ls A hx hb hr hml hown hlocks hin hU hK hsz hP hD hS hA hl
  have hl : lv_has ls 2 [(0, .ref h0)] := hl
  clear hsz
  refine lv_aload_n hx hb dX10_addSquare_0 rfl (lv_at hl 0 rfl) ?_
  refine va_get (D := D) (ci := 7) (v := .ref h1) (C := RX10) (T := TX10) (N := 17) hx hb hU iX10 hown hK.1 hP 0 rfl rfl 0 (by decide) (hU _ w249) (fun _ h9 => h9) rfl dX10_addSquare_1 ?_
  refine lv_aload_n hx hb dX10_addSquare_4 rfl (lv_at hl 0 rfl) ?_
  refine va_get (D := D) (ci := 7) (v := .ref h2) (C := RX10) (T := TX10) (N := 17) hx hb hU iX10 hown hK.1 hP 0 rfl rfl 15 (by decide) (hU _ w264) (fun _ h9 => h9) rfl dX10_addSquare_5 ?_
  refine cI (rV (q0 := 1) (ci := 4) (As := [.ref h2]) (rest := []) (wc := [(h1, .inr (4, [.int 2, .int 0, .int 1, .ref h3])), (h2, .inl (k 1, 9, .inr (.inl (tL [(-1), 0, 0, 1] 0)))), (h3, .inl (k 1, 36, .inr (.inl (tL [] 0))))]) hx hb hml hown hU hK hP hD rfl rfl [1, 2, 3] rfl (by decide) (cX5_append_2 l D k _ h1 h2 h3) w344 w341 w342 w343 w64 hdX5_append ⟨rfl, rfl⟩ ⟨Nat.le_of_ble_eq_true rfl, Nat.le_of_ble_eq_true rfl⟩ rfl hl.1 (Nat.le_of_ble_eq_true rfl) dX10_addSquare_8 ⟨Nat.le_of_ble_eq_true rfl, Nat.le_of_ble_eq_true rfl⟩) hP hD hS hA (wr := [(h0, .inr (7, [.ref h1, .ref h5, .int 0, .ref h6, .ref h7, .ref h8, .int 0, .ref h9, .int 0, .null, .ref h4, .int 0, .ref h10, .ref h11, .ref h12, .ref h2, .ref h13])), (h4, .inl (k 0, 8, .inl (tI [] 0)))]) [1, 2, 3] [0, 4] rfl rfl (by decide) (by decide) (fun r1 H locs hB J hS => ?_)
  obtain ⟨rfl, hP1, hD1⟩ := hB
  obtain ⟨hP, hD⟩ := J _ hP1 hD1
  have hP : va_P D cl0 [(h0, .inr (7, [.ref h1, .ref h5, .int 0, .ref h6, .ref h7, .ref h8, .int 0, .ref h9, .int 0, .null, .ref h4, .int 0, .ref h10, .ref h11, .ref h12, .ref h2, .ref h13])), (h4, .inl (k 0, 8, .inl (tI [] 0))), (h2, .inl (k 1, 9, .inr (.inl (tL [(-1), 0, 0, 1] 0)))), (h3, .inl (k 1, 36, .inr (.inl (tL [(-1), 0, 0, 1, 0, 0, 0, 0, 0] 0)))), (h1, .inr (4, [.int 2, .int 1, .int 1, .ref h3]))] H := hP
  have hD : va_D A [(h0, .inr (7, [.ref h1, .ref h5, .int 0, .ref h6, .ref h7, .ref h8, .int 0, .ref h9, .int 0, .null, .ref h4, .int 0, .ref h10, .ref h11, .ref h12, .ref h2, .ref h13])), (h4, .inl (k 0, 8, .inl (tI [] 0))), (h2, .inl (k 1, 9, .inr (.inl (tL [(-1), 0, 0, 1] 0)))), (h3, .inl (k 1, 36, .inr (.inl (tL [(-1), 0, 0, 1, 0, 0, 0, 0, 0] 0)))), (h1, .inr (4, [.int 2, .int 1, .int 1, .ref h3]))] := hD
  refine lv_istore_n (lv' := [(1, .int 0), (0, .ref h0)]) hx hb dX10_addSquare_11 rfl hl (by decide) rfl (fun ls hl => ?_)
  refine lv_aload_n hx hb dX10_addSquare_12 rfl (lv_at hl 1 rfl) ?_
  refine cV (rV (q0 := 0) (ci := 7) (As := []) (rest := []) (wc := [(h0, .inr (7, [.ref h1, .ref h5, .int 0, .ref h6, .ref h7, .ref h8, .int 0, .ref h9, .int 0, .null, .ref h4, .int 0, .ref h10, .ref h11, .ref h12, .ref h2, .ref h13])), (h4, .inl (k 0, 8, .inl (tI [] 0)))]) hx hb hml hown hU hK hP hD rfl rfl [0, 1] rfl (by decide) (cX10_forgetWhatCame_1 l D k _ h0 h4 h1 h5 h6 h7 h8 h9 h10 h11 h12 h2 h13) w308 w305 w307 w0 w63 hdX10_forgetWhatCame ⟨rfl, rfl⟩ ⟨Nat.le_of_ble_eq_true rfl, Nat.le_of_ble_eq_true rfl⟩ rfl hl.1 (Nat.le_of_ble_eq_true rfl) dX10_addSquare_13 ⟨Nat.le_of_ble_eq_true rfl, Nat.le_of_ble_eq_true rfl⟩) hP hD hS hA (wr := [(h2, .inl (k 1, 9, .inr (.inl (tL [(-1), 0, 0, 1] 0)))), (h3, .inl (k 1, 36, .inr (.inl (tL [(-1), 0, 0, 1, 0, 0, 0, 0, 0] 0)))), (h1, .inr (4, [.int 2, .int 1, .int 1, .ref h3]))]) [0, 1] [2, 3, 4] rfl rfl (by decide) (by decide) (fun H locs hB J hS => ?_)
  obtain ⟨hP1, hD1⟩ := hB
  obtain ⟨hP, hD⟩ := J _ hP1 hD1
  have hP : va_P D cl0 [(h2, .inl (k 1, 9, .inr (.inl (tL [(-1), 0, 0, 1] 0)))), (h3, .inl (k 1, 36, .inr (.inl (tL [(-1), 0, 0, 1, 0, 0, 0, 0, 0] 0)))), (h1, .inr (4, [.int 2, .int 1, .int 1, .ref h3])), (h0, .inr (7, [.ref h1, .ref h5, .int 0, .ref h6, .ref h7, .ref h8, .int 0, .ref h9, .int 0, .null, .ref h4, .int 0, .ref h10, .ref h11, .ref h12, .ref h2, .ref h13])), (h4, .inl (k 0, 8, .inl (tI [] 0)))] H := hP
  have hD : va_D A [(h2, .inl (k 1, 9, .inr (.inl (tL [(-1), 0, 0, 1] 0)))), (h3, .inl (k 1, 36, .inr (.inl (tL [(-1), 0, 0, 1, 0, 0, 0, 0, 0] 0)))), (h1, .inr (4, [.int 2, .int 1, .int 1, .ref h3])), (h0, .inr (7, [.ref h1, .ref h5, .int 0, .ref h6, .ref h7, .ref h8, .int 0, .ref h9, .int 0, .null, .ref h4, .int 0, .ref h10, .ref h11, .ref h12, .ref h2, .ref h13])), (h4, .inl (k 0, 8, .inl (tI [] 0)))] := hD
  refine lv_iload_n hx hb dX10_addSquare_16 rfl (lv_at hl 0 rfl) ?_
  exact retI (v := 0) hx hb hr hlocks hS (⟨rfl, hP, hD⟩) dX10_addSquare_17
abbrev BX10_addUnit_2 (D : va_G) (k : Nat → ClassId) (h0 h1 h2 h3 h4 h5 h6 h7 h8 h9 h10 h11 h12 h13 : Nat) (A : Nat → Prop) (r : Int32) (H : Heap) : Prop := 0 = r ∧ va_P D cl0 [(h2, .inl (k 1, 9, .inr (.inl (tL [(-1), 0, 0, 1] 0)))), (h3, .inl (k 1, 36, .inr (.inl (tL [(-1), 0, 0, 1, 0, 0, 0, 0, 0] 0)))), (h1, .inr (4, [.int 2, .int 1, .int 1, .ref h3])), (h0, .inr (7, [.ref h1, .ref h5, .int 0, .ref h6, .ref h7, .ref h8, .int 0, .ref h9, .int 0, .null, .ref h4, .int 0, .ref h10, .ref h11, .ref h12, .ref h2, .ref h13])), (h4, .inl (k 0, 8, .inl (tI [] 0)))] H ∧ va_D A [(h2, .inl (k 1, 9, .inr (.inl (tL [(-1), 0, 0, 1] 0)))), (h3, .inl (k 1, 36, .inr (.inl (tL [(-1), 0, 0, 1, 0, 0, 0, 0, 0] 0)))), (h1, .inr (4, [.int 2, .int 1, .int 1, .ref h3])), (h0, .inr (7, [.ref h1, .ref h5, .int 0, .ref h6, .ref h7, .ref h8, .int 0, .ref h9, .int 0, .null, .ref h4, .int 0, .ref h10, .ref h11, .ref h12, .ref h2, .ref h13])), (h4, .inl (k 0, 8, .inl (tI [] 0)))]
set_option maxHeartbeats 4000000 in
set_option maxRecDepth 100000 in
theorem cX10_addUnit_2 (l : Launch) (D : va_G) (k : Nat → ClassId) (sz : Nat) (h0 h1 h2 h3 h4 h5 h6 h7 h8 h9 h10 h11 h12 h13 : Nat) : Met l yX10_addUnit (Cond.code yX10_addUnit cX10_addUnit 4 (some .int) :: uw) ({ frames := 3, cells := 0, slots := 0, locals := 68 }) (pC D k sz [.ref h0, .int 0, .int 0, .int (-1)] [(h0, .inr (7, [.ref h1, .ref h5, .int 0, .ref h6, .ref h7, .ref h8, .int 0, .ref h9, .int 0, .null, .ref h4, .int 0, .ref h10, .ref h11, .ref h12, .ref h2, .ref h13])), (h1, .inr (4, [.int 2, .int 0, .int 1, .ref h3])), (h2, .inl (k 1, 9, .inr (.inl (tL [] 0)))), (h3, .inl (k 1, 36, .inr (.inl (tL [] 0)))), (h4, .inl (k 0, 8, .inl (tI [] 0)))]) (qI (BX10_addUnit_2 D k h0 h1 h2 h3 h4 h5 h6 h7 h8 h9 h10 h11 h12 h13 (va_A [(h0, .inr (7, [.ref h1, .ref h5, .int 0, .ref h6, .ref h7, .ref h8, .int 0, .ref h9, .int 0, .null, .ref h4, .int 0, .ref h10, .ref h11, .ref h12, .ref h2, .ref h13])), (h1, .inr (4, [.int 2, .int 0, .int 1, .ref h3])), (h2, .inl (k 1, 9, .inr (.inl (tL [] 0)))), (h3, .inl (k 1, 36, .inr (.inl (tL [] 0)))), (h4, .inl (k 0, 8, .inl (tI [] 0)))] sz)) (va_A [(h0, .inr (7, [.ref h1, .ref h5, .int 0, .ref h6, .ref h7, .ref h8, .int 0, .ref h9, .int 0, .null, .ref h4, .int 0, .ref h10, .ref h11, .ref h12, .ref h2, .ref h13])), (h1, .inr (4, [.int 2, .int 0, .int 1, .ref h3])), (h2, .inl (k 1, 9, .inr (.inl (tL [] 0)))), (h3, .inl (k 1, 36, .inr (.inl (tL [] 0)))), (h4, .inl (k 0, 8, .inl (tI [] 0)))] sz)) 0 0 (va_A [(h0, .inr (7, [.ref h1, .ref h5, .int 0, .ref h6, .ref h7, .ref h8, .int 0, .ref h9, .int 0, .null, .ref h4, .int 0, .ref h10, .ref h11, .ref h12, .ref h2, .ref h13])), (h1, .inr (4, [.int 2, .int 0, .int 1, .ref h3])), (h2, .inl (k 1, 9, .inr (.inl (tL [] 0)))), (h3, .inl (k 1, 36, .inr (.inl (tL [] 0)))), (h4, .inl (k 0, 8, .inl (tI [] 0)))] sz) := by
  refine begin_ (Qc := fun A => qI (BX10_addUnit_2 D k h0 h1 h2 h3 h4 h5 h6 h7 h8 h9 h10 h11 h12 h13 A) A) (by decide) (Nat.le_of_ble_eq_true rfl) ?_
  intro p e s m below meth c ls A hx hb hr hml hown hlocks hin hU hK hsz hP hD hS hA hl
  have hl : lv_has ls 4 [(0, .ref h0), (1, .int 0), (2, .int 0), (3, .int (-1))] := hl
  clear hsz
  refine lv_aload_n hx hb dX10_addUnit_0 rfl (lv_at hl 0 rfl) ?_
  refine va_get (D := D) (ci := 7) (v := .ref h2) (C := RX10) (T := TX10) (N := 17) hx hb hU iX10 hown hK.1 hP 0 rfl rfl 15 (by decide) (hU _ w264) (fun _ h9 => h9) rfl dX10_addUnit_1 ?_
  refine lv_aload_n hx hb dX10_addUnit_4 rfl (lv_at hl 0 rfl) ?_
  refine va_get (D := D) (ci := 7) (v := .ref h1) (C := RX10) (T := TX10) (N := 17) hx hb hU iX10 hown hK.1 hP 0 rfl rfl 0 (by decide) (hU _ w249) (fun _ h9 => h9) rfl dX10_addUnit_5 ?_
  refine va_get (D := D) (ci := 4) (v := .int 2) (C := RX5) (T := TX5) (N := 4) hx hb hU iX5 hown hK.1 hP 1 rfl rfl 0 (by decide) (hU _ w93) (fun _ h9 => h9) rfl dX10_addUnit_8 ?_
  refine cV (rS (As := [.ref h2, .int 2]) (rest := []) (wc := [(h2, .inl (k 1, 9, .inr (.inl (tL [] 0))))]) hx hb hml hown hU hK hP hD [2] rfl (by decide) (cX7_becomeOne_1 l D k _ h2) w333 w331 w332 w74 hdX7_becomeOne ⟨rfl, rfl⟩ ⟨Nat.le_of_ble_eq_true rfl, Nat.le_of_ble_eq_true rfl⟩ rfl hl.1 (Nat.le_of_ble_eq_true rfl) dX10_addUnit_11 ⟨Nat.le_of_ble_eq_true rfl, Nat.le_of_ble_eq_true rfl⟩) hP hD hS hA (wr := [(h0, .inr (7, [.ref h1, .ref h5, .int 0, .ref h6, .ref h7, .ref h8, .int 0, .ref h9, .int 0, .null, .ref h4, .int 0, .ref h10, .ref h11, .ref h12, .ref h2, .ref h13])), (h1, .inr (4, [.int 2, .int 0, .int 1, .ref h3])), (h3, .inl (k 1, 36, .inr (.inl (tL [] 0)))), (h4, .inl (k 0, 8, .inl (tI [] 0)))]) [2] [0, 1, 3, 4] rfl rfl (by decide) (by decide) (fun H locs hB J hS => ?_)
  obtain ⟨hP1, hD1⟩ := hB
  obtain ⟨hP, hD⟩ := J _ hP1 hD1
  have hP : va_P D cl0 [(h0, .inr (7, [.ref h1, .ref h5, .int 0, .ref h6, .ref h7, .ref h8, .int 0, .ref h9, .int 0, .null, .ref h4, .int 0, .ref h10, .ref h11, .ref h12, .ref h2, .ref h13])), (h1, .inr (4, [.int 2, .int 0, .int 1, .ref h3])), (h3, .inl (k 1, 36, .inr (.inl (tL [] 0)))), (h4, .inl (k 0, 8, .inl (tI [] 0))), (h2, .inl (k 1, 9, .inr (.inl (tL [1, 0, 0, 1] 0))))] H := hP
  have hD : va_D A [(h0, .inr (7, [.ref h1, .ref h5, .int 0, .ref h6, .ref h7, .ref h8, .int 0, .ref h9, .int 0, .null, .ref h4, .int 0, .ref h10, .ref h11, .ref h12, .ref h2, .ref h13])), (h1, .inr (4, [.int 2, .int 0, .int 1, .ref h3])), (h3, .inl (k 1, 36, .inr (.inl (tL [] 0)))), (h4, .inl (k 0, 8, .inl (tI [] 0))), (h2, .inl (k 1, 9, .inr (.inl (tL [1, 0, 0, 1] 0))))] := hD
  refine lv_aload_n hx hb dX10_addUnit_14 rfl (lv_at hl 0 rfl) ?_
  refine va_get (D := D) (ci := 7) (v := .ref h2) (C := RX10) (T := TX10) (N := 17) hx hb hU iX10 hown hK.1 hP 0 rfl rfl 15 (by decide) (hU _ w264) (fun _ h9 => h9) rfl dX10_addUnit_15 ?_
  refine lv_iload_n hx hb dX10_addUnit_18 rfl (lv_at hl 1 rfl) ?_
  refine lv_aload_n hx hb dX10_addUnit_19 rfl (lv_at hl 0 rfl) ?_
  refine va_get (D := D) (ci := 7) (v := .ref h1) (C := RX10) (T := TX10) (N := 17) hx hb hU iX10 hown hK.1 hP 0 rfl rfl 0 (by decide) (hU _ w249) (fun _ h9 => h9) rfl dX10_addUnit_20 ?_
  refine va_get (D := D) (ci := 4) (v := .int 2) (C := RX5) (T := TX5) (N := 4) hx hb hU iX5 hown hK.1 hP 1 rfl rfl 0 (by decide) (hU _ w93) (fun _ h9 => h9) rfl dX10_addUnit_23 ?_
  refine lv_imul hx hb dX10_addUnit_26 (sv_i (v := 0) (by decide +kernel) ?_)
  refine lv_iload_n hx hb dX10_addUnit_27 rfl (lv_at hl 2 rfl) ?_
  refine lv_iadd hx hb dX10_addUnit_28 (sv_i (v := 0) (by decide +kernel) ?_)
  refine lv_iload_n hx hb dX10_addUnit_29 rfl (lv_at hl 3 rfl) ?_
  refine lv_i2l (v := (-1)) hx hb dX10_addUnit_30 (by decide +kernel) ?_
  refine st_l (j := 0) (g := tL [(-1), 0, 0, 1] 0) hx hb hK hP hD hS 4 rfl (by decide +kernel) upd_tL dX10_addUnit_31 (fun H locs hP hD hS => ?_)
  have hP : va_P D cl0 [(h0, .inr (7, [.ref h1, .ref h5, .int 0, .ref h6, .ref h7, .ref h8, .int 0, .ref h9, .int 0, .null, .ref h4, .int 0, .ref h10, .ref h11, .ref h12, .ref h2, .ref h13])), (h1, .inr (4, [.int 2, .int 0, .int 1, .ref h3])), (h3, .inl (k 1, 36, .inr (.inl (tL [] 0)))), (h4, .inl (k 0, 8, .inl (tI [] 0))), (h2, .inl (k 1, 9, .inr (.inl (tL [(-1), 0, 0, 1] 0))))] H := hP
  have hD : va_D A [(h0, .inr (7, [.ref h1, .ref h5, .int 0, .ref h6, .ref h7, .ref h8, .int 0, .ref h9, .int 0, .null, .ref h4, .int 0, .ref h10, .ref h11, .ref h12, .ref h2, .ref h13])), (h1, .inr (4, [.int 2, .int 0, .int 1, .ref h3])), (h3, .inl (k 1, 36, .inr (.inl (tL [] 0)))), (h4, .inl (k 0, 8, .inl (tI [] 0))), (h2, .inl (k 1, 9, .inr (.inl (tL [(-1), 0, 0, 1] 0))))] := hD
  refine lv_aload_n hx hb dX10_addUnit_32 rfl (lv_at hl 0 rfl) ?_
  refine cI (rV (q0 := 0) (ci := 7) (As := []) (rest := []) (wc := [(h0, .inr (7, [.ref h1, .ref h5, .int 0, .ref h6, .ref h7, .ref h8, .int 0, .ref h9, .int 0, .null, .ref h4, .int 0, .ref h10, .ref h11, .ref h12, .ref h2, .ref h13])), (h1, .inr (4, [.int 2, .int 0, .int 1, .ref h3])), (h2, .inl (k 1, 9, .inr (.inl (tL [(-1), 0, 0, 1] 0)))), (h3, .inl (k 1, 36, .inr (.inl (tL [] 0)))), (h4, .inl (k 0, 8, .inl (tI [] 0)))]) hx hb hml hown hU hK hP hD rfl rfl [0, 1, 4, 2, 3] rfl (by decide) (cX10_addSquare_2 l D k _ h0 h1 h2 h3 h4 h5 h6 h7 h8 h9 h10 h11 h12 h13) w340 w337 w339 w2 w63 hdX10_addSquare ⟨rfl, rfl⟩ ⟨Nat.le_of_ble_eq_true rfl, Nat.le_of_ble_eq_true rfl⟩ rfl hl.1 (Nat.le_of_ble_eq_true rfl) dX10_addUnit_33 ⟨Nat.le_of_ble_eq_true rfl, Nat.le_of_ble_eq_true rfl⟩) hP hD hS hA (wr := []) [0, 1, 4, 2, 3] [] rfl rfl (by decide) (by decide) (fun r2 H locs hB J hS => ?_)
  obtain ⟨rfl, hP1, hD1⟩ := hB
  obtain ⟨hP, hD⟩ := J _ hP1 hD1
  have hP : va_P D cl0 [(h2, .inl (k 1, 9, .inr (.inl (tL [(-1), 0, 0, 1] 0)))), (h3, .inl (k 1, 36, .inr (.inl (tL [(-1), 0, 0, 1, 0, 0, 0, 0, 0] 0)))), (h1, .inr (4, [.int 2, .int 1, .int 1, .ref h3])), (h0, .inr (7, [.ref h1, .ref h5, .int 0, .ref h6, .ref h7, .ref h8, .int 0, .ref h9, .int 0, .null, .ref h4, .int 0, .ref h10, .ref h11, .ref h12, .ref h2, .ref h13])), (h4, .inl (k 0, 8, .inl (tI [] 0)))] H := hP
  have hD : va_D A [(h2, .inl (k 1, 9, .inr (.inl (tL [(-1), 0, 0, 1] 0)))), (h3, .inl (k 1, 36, .inr (.inl (tL [(-1), 0, 0, 1, 0, 0, 0, 0, 0] 0)))), (h1, .inr (4, [.int 2, .int 1, .int 1, .ref h3])), (h0, .inr (7, [.ref h1, .ref h5, .int 0, .ref h6, .ref h7, .ref h8, .int 0, .ref h9, .int 0, .null, .ref h4, .int 0, .ref h10, .ref h11, .ref h12, .ref h2, .ref h13])), (h4, .inl (k 0, 8, .inl (tI [] 0)))] := hD
  exact retI (v := 0) hx hb hr hlocks hS (⟨rfl, hP, hD⟩) dX10_addUnit_36
abbrev BX10_fitsUnit_2 (D : va_G) (k : Nat → ClassId) (x0 : Int32) (A : Nat → Prop) (r : Int32) (H : Heap) : Prop := (x0 < (-99) ∧ 0 = r ∧ va_P D cl0 [] H ∧ va_D A []) ∨ (¬ (x0 < (-99)) ∧ 99 < x0 ∧ 0 = r ∧ va_P D cl0 [] H ∧ va_D A []) ∨ (¬ (x0 < (-99)) ∧ ¬ (99 < x0) ∧ 1 = r ∧ va_P D cl0 [] H ∧ va_D A [])
set_option maxHeartbeats 4000000 in
set_option maxRecDepth 100000 in
theorem cX10_fitsUnit_2 (l : Launch) (D : va_G) (k : Nat → ClassId) (sz : Nat) (x0 : Int32) : Met l yX10_fitsUnit (Cond.code yX10_fitsUnit cX10_fitsUnit 2 (some .boolean) :: uw) ({ frames := 0, cells := 0, slots := 0, locals := 0 }) (pC D k sz [.int 0, .int x0] []) (qI (BX10_fitsUnit_2 D k x0 (va_A [] sz)) (va_A [] sz)) 0 0 (va_A [] sz) := by
  refine begin_ (Qc := fun A => qI (BX10_fitsUnit_2 D k x0 A) A) (by decide) (Nat.le_of_ble_eq_true rfl) ?_
  intro p e s m below meth c ls A hx hb hr hml hown hlocks hin hU hK hsz hP hD hS hA hl
  have hl : lv_has ls 2 [(0, .int 0), (1, .int x0)] := hl
  clear hsz
  refine lv_iload_n hx hb dX10_fitsUnit_0 rfl (lv_at hl 0 rfl) ?_
  refine lv_if_eq (tgt := 20) hx hb dX10_fitsUnit_1 (by decide) (fun _ => ?_) (fun cc => absurd (by decide +kernel) cc)
  refine lv_iload_n hx hb dX10_fitsUnit_20 rfl (lv_at hl 1 rfl) ?_
  refine lv_bipush (v := (-99)) hx hb dX10_fitsUnit_21 (by decide) ?_
  refine lv_icmp_lt (tgt := 36) hx hb dX10_fitsUnit_23 (by decide) (fun c_1 => ?_) (fun c_1 => ?_)
  · skip
    refine lv_iconst (v := 0) hx hb dX10_fitsUnit_36 (by decide) ?_
    exact retZ (v := 0) hx hb hr hlocks hS (Or.inl ⟨c_1, rfl, hP, hD⟩) dX10_fitsUnit_37 (by decide +kernel)
  · skip
    refine lv_iload_n hx hb dX10_fitsUnit_26 rfl (lv_at hl 1 rfl) ?_
    refine lv_bipush (v := 99) hx hb dX10_fitsUnit_27 (by decide) ?_
    refine lv_icmp_gt (tgt := 36) hx hb dX10_fitsUnit_29 (by decide) (fun c_2 => ?_) (fun c_2 => ?_)
    · skip
      refine lv_iconst (v := 0) hx hb dX10_fitsUnit_36 (by decide) ?_
      exact retZ (v := 0) hx hb hr hlocks hS (Or.inr (Or.inl ⟨c_1, c_2, rfl, hP, hD⟩)) dX10_fitsUnit_37 (by decide +kernel)
    · skip
      refine lv_iconst (v := 1) hx hb dX10_fitsUnit_32 (by decide) ?_
      refine lv_goto (tgt := 37) hx hb dX10_fitsUnit_33 (by decide) ?_
      exact retZ (v := 1) hx hb hr hlocks hS (Or.inr (Or.inr (⟨c_1, c_2, rfl, hP, hD⟩))) dX10_fitsUnit_37 (by decide +kernel)
abbrev BX5_append_3 (D : va_G) (k : Nat → ClassId) (h0 h1 h2 : Nat) (x0 : Int64) (A : Nat → Prop) (r : Int32) (H : Heap) : Prop := 0 = r ∧ va_P D cl0 [(h1, .inl (k 1, 9, .inr (.inl (tL [1, x0, 0, 1] 0)))), (h2, .inl (k 1, 36, .inr (.inl (tL [1, x0, 0, 1, 0, 0, 0, 0, 0] 0)))), (h0, .inr (4, [.int 2, .int 1, .int 1, .ref h2]))] H ∧ va_D A [(h1, .inl (k 1, 9, .inr (.inl (tL [1, x0, 0, 1] 0)))), (h2, .inl (k 1, 36, .inr (.inl (tL [1, x0, 0, 1, 0, 0, 0, 0, 0] 0)))), (h0, .inr (4, [.int 2, .int 1, .int 1, .ref h2]))]
set_option maxHeartbeats 4000000 in
set_option maxRecDepth 100000 in
theorem cX5_append_3 (l : Launch) (D : va_G) (k : Nat → ClassId) (sz : Nat) (h0 h1 h2 : Nat) (x0 : Int64) : Met l yX5_append (Cond.code yX5_append cX5_append 2 (some .int) :: uw) ({ frames := 1, cells := 0, slots := 0, locals := 26 }) (pC D k sz [.ref h0, .ref h1] [(h0, .inr (4, [.int 2, .int 0, .int 1, .ref h2])), (h1, .inl (k 1, 9, .inr (.inl (tL [1, x0, 0, 1] 0)))), (h2, .inl (k 1, 36, .inr (.inl (tL [] 0))))]) (qI (BX5_append_3 D k h0 h1 h2 x0 (va_A [(h0, .inr (4, [.int 2, .int 0, .int 1, .ref h2])), (h1, .inl (k 1, 9, .inr (.inl (tL [1, x0, 0, 1] 0)))), (h2, .inl (k 1, 36, .inr (.inl (tL [] 0))))] sz)) (va_A [(h0, .inr (4, [.int 2, .int 0, .int 1, .ref h2])), (h1, .inl (k 1, 9, .inr (.inl (tL [1, x0, 0, 1] 0)))), (h2, .inl (k 1, 36, .inr (.inl (tL [] 0))))] sz)) 0 0 (va_A [(h0, .inr (4, [.int 2, .int 0, .int 1, .ref h2])), (h1, .inl (k 1, 9, .inr (.inl (tL [1, x0, 0, 1] 0)))), (h2, .inl (k 1, 36, .inr (.inl (tL [] 0))))] sz) := by
  refine begin_ (Qc := fun A => qI (BX5_append_3 D k h0 h1 h2 x0 A) A) (by decide) (Nat.le_of_ble_eq_true rfl) ?_
  intro p e s m below meth c ls A hx hb hr hml hown hlocks hin hU hK hsz hP hD hS hA hl
  have hl : lv_has ls 2 [(0, .ref h0), (1, .ref h1)] := hl
  clear hsz
  refine lv_aload_n hx hb dX5_append_0 rfl (lv_at hl 0 rfl) ?_
  refine cI (rV (q0 := 0) (ci := 4) (As := []) (rest := []) (wc := [(h0, .inr (4, [.int 2, .int 0, .int 1, .ref h2]))]) hx hb hml hown hU hK hP hD rfl rfl [0] rfl (by decide) (cX5_isFull_1 l D k _ h0 h2) w326 w345 w324 w325 w64 hdX5_isFull ⟨rfl, rfl⟩ ⟨Nat.le_of_ble_eq_true rfl, Nat.le_of_ble_eq_true rfl⟩ rfl hl.1 (Nat.le_of_ble_eq_true rfl) dX5_append_1 ⟨Nat.le_of_ble_eq_true rfl, Nat.le_of_ble_eq_true rfl⟩) hP hD hS hA (wr := [(h1, .inl (k 1, 9, .inr (.inl (tL [1, x0, 0, 1] 0)))), (h2, .inl (k 1, 36, .inr (.inl (tL [] 0))))]) [0] [1, 2] rfl rfl (by decide) (by decide) (fun r1 H locs hB J hS => ?_)
  obtain ⟨rfl, hP1, hD1⟩ := hB
  obtain ⟨hP, hD⟩ := J _ hP1 hD1
  have hP : va_P D cl0 [(h1, .inl (k 1, 9, .inr (.inl (tL [1, x0, 0, 1] 0)))), (h2, .inl (k 1, 36, .inr (.inl (tL [] 0)))), (h0, .inr (4, [.int 2, .int 0, .int 1, .ref h2]))] H := hP
  have hD : va_D A [(h1, .inl (k 1, 9, .inr (.inl (tL [1, x0, 0, 1] 0)))), (h2, .inl (k 1, 36, .inr (.inl (tL [] 0)))), (h0, .inr (4, [.int 2, .int 0, .int 1, .ref h2]))] := hD
  refine lv_if_eq (tgt := 10) hx hb dX5_append_4 (by decide) (fun _ => ?_) (fun cc => absurd (by decide +kernel) cc)
  refine lv_aload_n hx hb dX5_append_10 rfl (lv_at hl 1 rfl) ?_
  refine lv_iconst (v := 0) hx hb dX5_append_11 (by decide) ?_
  refine lv_aload_n hx hb dX5_append_12 rfl (lv_at hl 0 rfl) ?_
  refine va_get (D := D) (ci := 4) (v := .ref h2) (C := RX5) (T := TX5) (N := 4) hx hb hU iX5 hown hK.1 hP 2 rfl rfl 3 (by decide) (hU _ w100) (fun _ h9 => h9) rfl dX5_append_13 ?_
  refine lv_aload_n hx hb dX5_append_16 rfl (lv_at hl 0 rfl) ?_
  refine va_get (D := D) (ci := 4) (v := .int 0) (C := RX5) (T := TX5) (N := 4) hx hb hU iX5 hown hK.1 hP 2 rfl rfl 1 (by decide) (hU _ w96) (fun _ h9 => h9) rfl dX5_append_17 ?_
  refine lv_bipush (v := 9) hx hb dX5_append_20 (by decide) ?_
  refine lv_imul hx hb dX5_append_22 (sv_i (v := 0) (by decide +kernel) ?_)
  refine lv_bipush (v := 9) hx hb dX5_append_23 (by decide) ?_
  refine cp_l (g' := tL [1, x0, 0, 1, 0, 0, 0, 0, 0] 0) hx hb hml hl.1 hown hU w346 w348 w347 w75 hK hP hD hS 0 1 rfl rfl 0 0 9 (by decide +kernel) cpy_tL (Nat.le_of_ble_eq_true rfl) (Nat.le_of_ble_eq_true rfl) dX5_append_25 (fun H locs hP hD hS => ?_)
  have hP : va_P D cl0 [(h1, .inl (k 1, 9, .inr (.inl (tL [1, x0, 0, 1] 0)))), (h2, .inl (k 1, 36, .inr (.inl (tL [1, x0, 0, 1, 0, 0, 0, 0, 0] 0)))), (h0, .inr (4, [.int 2, .int 0, .int 1, .ref h2]))] H := hP
  have hD : va_D A [(h1, .inl (k 1, 9, .inr (.inl (tL [1, x0, 0, 1] 0)))), (h2, .inl (k 1, 36, .inr (.inl (tL [1, x0, 0, 1, 0, 0, 0, 0, 0] 0)))), (h0, .inr (4, [.int 2, .int 0, .int 1, .ref h2]))] := hD
  refine lv_aload_n hx hb dX5_append_28 rfl (lv_at hl 0 rfl) ?_
  refine lv_dup hx hb dX5_append_29 rfl ?_
  refine va_get (D := D) (ci := 4) (v := .int 0) (C := RX5) (T := TX5) (N := 4) hx hb hU iX5 hown hK.1 hP 2 rfl rfl 1 (by decide) (hU _ w96) (fun _ h9 => h9) rfl dX5_append_30 ?_
  refine lv_iconst (v := 1) hx hb dX5_append_33 (by decide) ?_
  refine lv_iadd hx hb dX5_append_34 (sv_i (v := 1) (by decide +kernel) ?_)
  refine va_put (D := D) (ci := 4) (v := .int 1) (ty := .int) (C := RX5) (T := TX5) (N := 4) hx hb hU iX5 tyX5 tyX5_ok nmX5 hown hK.1 hP hD hS 2 rfl rfl 1 (by decide) (hU _ w96) (fun _ h9 => h9) rfl (by decide +kernel) rfl rfl (Nat.le_of_ble_eq_true rfl) dX5_append_35 (fun H locs hP hD hS => ?_)
  have hP : va_P D cl0 [(h1, .inl (k 1, 9, .inr (.inl (tL [1, x0, 0, 1] 0)))), (h2, .inl (k 1, 36, .inr (.inl (tL [1, x0, 0, 1, 0, 0, 0, 0, 0] 0)))), (h0, .inr (4, [.int 2, .int 1, .int 1, .ref h2]))] H := hP
  have hD : va_D A [(h1, .inl (k 1, 9, .inr (.inl (tL [1, x0, 0, 1] 0)))), (h2, .inl (k 1, 36, .inr (.inl (tL [1, x0, 0, 1, 0, 0, 0, 0, 0] 0)))), (h0, .inr (4, [.int 2, .int 1, .int 1, .ref h2]))] := hD
  refine lv_aload_n hx hb dX5_append_38 rfl (lv_at hl 0 rfl) ?_
  refine va_get (D := D) (ci := 4) (v := .int 1) (C := RX5) (T := TX5) (N := 4) hx hb hU iX5 hown hK.1 hP 2 rfl rfl 1 (by decide) (hU _ w96) (fun _ h9 => h9) rfl dX5_append_39 ?_
  refine lv_iconst (v := 1) hx hb dX5_append_42 (by decide) ?_
  refine lv_isub hx hb dX5_append_43 (sv_i (v := 0) (by decide +kernel) ?_)
  exact retI (v := 0) hx hb hr hlocks hS (⟨rfl, hP, hD⟩) dX5_append_44
abbrev BX10_addSquare_3 (D : va_G) (k : Nat → ClassId) (h0 h1 h2 h3 h4 h5 h6 h7 h8 h9 h10 h11 h12 h13 : Nat) (x0 : Int64) (A : Nat → Prop) (r : Int32) (H : Heap) : Prop := 0 = r ∧ va_P D cl0 [(h2, .inl (k 1, 9, .inr (.inl (tL [1, x0, 0, 1] 0)))), (h3, .inl (k 1, 36, .inr (.inl (tL [1, x0, 0, 1, 0, 0, 0, 0, 0] 0)))), (h1, .inr (4, [.int 2, .int 1, .int 1, .ref h3])), (h0, .inr (7, [.ref h1, .ref h5, .int 0, .ref h6, .ref h7, .ref h8, .int 0, .ref h9, .int 0, .null, .ref h4, .int 0, .ref h10, .ref h11, .ref h12, .ref h2, .ref h13])), (h4, .inl (k 0, 8, .inl (tI [] 0)))] H ∧ va_D A [(h2, .inl (k 1, 9, .inr (.inl (tL [1, x0, 0, 1] 0)))), (h3, .inl (k 1, 36, .inr (.inl (tL [1, x0, 0, 1, 0, 0, 0, 0, 0] 0)))), (h1, .inr (4, [.int 2, .int 1, .int 1, .ref h3])), (h0, .inr (7, [.ref h1, .ref h5, .int 0, .ref h6, .ref h7, .ref h8, .int 0, .ref h9, .int 0, .null, .ref h4, .int 0, .ref h10, .ref h11, .ref h12, .ref h2, .ref h13])), (h4, .inl (k 0, 8, .inl (tI [] 0)))]
set_option maxHeartbeats 4000000 in
set_option maxRecDepth 100000 in
theorem cX10_addSquare_3 (l : Launch) (D : va_G) (k : Nat → ClassId) (sz : Nat) (h0 h1 h2 h3 h4 h5 h6 h7 h8 h9 h10 h11 h12 h13 : Nat) (x0 : Int64) : Met l yX10_addSquare (Cond.code yX10_addSquare cX10_addSquare 2 (some .int) :: uw) ({ frames := 2, cells := 0, slots := 0, locals := 47 }) (pC D k sz [.ref h0] [(h0, .inr (7, [.ref h1, .ref h5, .int 0, .ref h6, .ref h7, .ref h8, .int 0, .ref h9, .int 0, .null, .ref h4, .int 0, .ref h10, .ref h11, .ref h12, .ref h2, .ref h13])), (h1, .inr (4, [.int 2, .int 0, .int 1, .ref h3])), (h2, .inl (k 1, 9, .inr (.inl (tL [1, x0, 0, 1] 0)))), (h3, .inl (k 1, 36, .inr (.inl (tL [] 0)))), (h4, .inl (k 0, 8, .inl (tI [] 0)))]) (qI (BX10_addSquare_3 D k h0 h1 h2 h3 h4 h5 h6 h7 h8 h9 h10 h11 h12 h13 x0 (va_A [(h0, .inr (7, [.ref h1, .ref h5, .int 0, .ref h6, .ref h7, .ref h8, .int 0, .ref h9, .int 0, .null, .ref h4, .int 0, .ref h10, .ref h11, .ref h12, .ref h2, .ref h13])), (h1, .inr (4, [.int 2, .int 0, .int 1, .ref h3])), (h2, .inl (k 1, 9, .inr (.inl (tL [1, x0, 0, 1] 0)))), (h3, .inl (k 1, 36, .inr (.inl (tL [] 0)))), (h4, .inl (k 0, 8, .inl (tI [] 0)))] sz)) (va_A [(h0, .inr (7, [.ref h1, .ref h5, .int 0, .ref h6, .ref h7, .ref h8, .int 0, .ref h9, .int 0, .null, .ref h4, .int 0, .ref h10, .ref h11, .ref h12, .ref h2, .ref h13])), (h1, .inr (4, [.int 2, .int 0, .int 1, .ref h3])), (h2, .inl (k 1, 9, .inr (.inl (tL [1, x0, 0, 1] 0)))), (h3, .inl (k 1, 36, .inr (.inl (tL [] 0)))), (h4, .inl (k 0, 8, .inl (tI [] 0)))] sz)) 0 0 (va_A [(h0, .inr (7, [.ref h1, .ref h5, .int 0, .ref h6, .ref h7, .ref h8, .int 0, .ref h9, .int 0, .null, .ref h4, .int 0, .ref h10, .ref h11, .ref h12, .ref h2, .ref h13])), (h1, .inr (4, [.int 2, .int 0, .int 1, .ref h3])), (h2, .inl (k 1, 9, .inr (.inl (tL [1, x0, 0, 1] 0)))), (h3, .inl (k 1, 36, .inr (.inl (tL [] 0)))), (h4, .inl (k 0, 8, .inl (tI [] 0)))] sz) := by
  refine begin_ (Qc := fun A => qI (BX10_addSquare_3 D k h0 h1 h2 h3 h4 h5 h6 h7 h8 h9 h10 h11 h12 h13 x0 A) A) (by decide) (Nat.le_of_ble_eq_true rfl) ?_
  intro p e s m below meth c ls A hx hb hr hml hown hlocks hin hU hK hsz hP hD hS hA hl
  have hl : lv_has ls 2 [(0, .ref h0)] := hl
  clear hsz
  refine lv_aload_n hx hb dX10_addSquare_0 rfl (lv_at hl 0 rfl) ?_
  refine va_get (D := D) (ci := 7) (v := .ref h1) (C := RX10) (T := TX10) (N := 17) hx hb hU iX10 hown hK.1 hP 0 rfl rfl 0 (by decide) (hU _ w249) (fun _ h9 => h9) rfl dX10_addSquare_1 ?_
  refine lv_aload_n hx hb dX10_addSquare_4 rfl (lv_at hl 0 rfl) ?_
  refine va_get (D := D) (ci := 7) (v := .ref h2) (C := RX10) (T := TX10) (N := 17) hx hb hU iX10 hown hK.1 hP 0 rfl rfl 15 (by decide) (hU _ w264) (fun _ h9 => h9) rfl dX10_addSquare_5 ?_
  refine cI (rV (q0 := 1) (ci := 4) (As := [.ref h2]) (rest := []) (wc := [(h1, .inr (4, [.int 2, .int 0, .int 1, .ref h3])), (h2, .inl (k 1, 9, .inr (.inl (tL [1, x0, 0, 1] 0)))), (h3, .inl (k 1, 36, .inr (.inl (tL [] 0))))]) hx hb hml hown hU hK hP hD rfl rfl [1, 2, 3] rfl (by decide) (cX5_append_3 l D k _ h1 h2 h3 (x0)) w344 w341 w342 w343 w64 hdX5_append ⟨rfl, rfl⟩ ⟨Nat.le_of_ble_eq_true rfl, Nat.le_of_ble_eq_true rfl⟩ rfl hl.1 (Nat.le_of_ble_eq_true rfl) dX10_addSquare_8 ⟨Nat.le_of_ble_eq_true rfl, Nat.le_of_ble_eq_true rfl⟩) hP hD hS hA (wr := [(h0, .inr (7, [.ref h1, .ref h5, .int 0, .ref h6, .ref h7, .ref h8, .int 0, .ref h9, .int 0, .null, .ref h4, .int 0, .ref h10, .ref h11, .ref h12, .ref h2, .ref h13])), (h4, .inl (k 0, 8, .inl (tI [] 0)))]) [1, 2, 3] [0, 4] rfl rfl (by decide) (by decide) (fun r1 H locs hB J hS => ?_)
  obtain ⟨rfl, hP1, hD1⟩ := hB
  obtain ⟨hP, hD⟩ := J _ hP1 hD1
  have hP : va_P D cl0 [(h0, .inr (7, [.ref h1, .ref h5, .int 0, .ref h6, .ref h7, .ref h8, .int 0, .ref h9, .int 0, .null, .ref h4, .int 0, .ref h10, .ref h11, .ref h12, .ref h2, .ref h13])), (h4, .inl (k 0, 8, .inl (tI [] 0))), (h2, .inl (k 1, 9, .inr (.inl (tL [1, x0, 0, 1] 0)))), (h3, .inl (k 1, 36, .inr (.inl (tL [1, x0, 0, 1, 0, 0, 0, 0, 0] 0)))), (h1, .inr (4, [.int 2, .int 1, .int 1, .ref h3]))] H := hP
  have hD : va_D A [(h0, .inr (7, [.ref h1, .ref h5, .int 0, .ref h6, .ref h7, .ref h8, .int 0, .ref h9, .int 0, .null, .ref h4, .int 0, .ref h10, .ref h11, .ref h12, .ref h2, .ref h13])), (h4, .inl (k 0, 8, .inl (tI [] 0))), (h2, .inl (k 1, 9, .inr (.inl (tL [1, x0, 0, 1] 0)))), (h3, .inl (k 1, 36, .inr (.inl (tL [1, x0, 0, 1, 0, 0, 0, 0, 0] 0)))), (h1, .inr (4, [.int 2, .int 1, .int 1, .ref h3]))] := hD
  refine lv_istore_n (lv' := [(1, .int 0), (0, .ref h0)]) hx hb dX10_addSquare_11 rfl hl (by decide) rfl (fun ls hl => ?_)
  refine lv_aload_n hx hb dX10_addSquare_12 rfl (lv_at hl 1 rfl) ?_
  refine cV (rV (q0 := 0) (ci := 7) (As := []) (rest := []) (wc := [(h0, .inr (7, [.ref h1, .ref h5, .int 0, .ref h6, .ref h7, .ref h8, .int 0, .ref h9, .int 0, .null, .ref h4, .int 0, .ref h10, .ref h11, .ref h12, .ref h2, .ref h13])), (h4, .inl (k 0, 8, .inl (tI [] 0)))]) hx hb hml hown hU hK hP hD rfl rfl [0, 1] rfl (by decide) (cX10_forgetWhatCame_1 l D k _ h0 h4 h1 h5 h6 h7 h8 h9 h10 h11 h12 h2 h13) w308 w305 w307 w0 w63 hdX10_forgetWhatCame ⟨rfl, rfl⟩ ⟨Nat.le_of_ble_eq_true rfl, Nat.le_of_ble_eq_true rfl⟩ rfl hl.1 (Nat.le_of_ble_eq_true rfl) dX10_addSquare_13 ⟨Nat.le_of_ble_eq_true rfl, Nat.le_of_ble_eq_true rfl⟩) hP hD hS hA (wr := [(h2, .inl (k 1, 9, .inr (.inl (tL [1, x0, 0, 1] 0)))), (h3, .inl (k 1, 36, .inr (.inl (tL [1, x0, 0, 1, 0, 0, 0, 0, 0] 0)))), (h1, .inr (4, [.int 2, .int 1, .int 1, .ref h3]))]) [0, 1] [2, 3, 4] rfl rfl (by decide) (by decide) (fun H locs hB J hS => ?_)
  obtain ⟨hP1, hD1⟩ := hB
  obtain ⟨hP, hD⟩ := J _ hP1 hD1
  have hP : va_P D cl0 [(h2, .inl (k 1, 9, .inr (.inl (tL [1, x0, 0, 1] 0)))), (h3, .inl (k 1, 36, .inr (.inl (tL [1, x0, 0, 1, 0, 0, 0, 0, 0] 0)))), (h1, .inr (4, [.int 2, .int 1, .int 1, .ref h3])), (h0, .inr (7, [.ref h1, .ref h5, .int 0, .ref h6, .ref h7, .ref h8, .int 0, .ref h9, .int 0, .null, .ref h4, .int 0, .ref h10, .ref h11, .ref h12, .ref h2, .ref h13])), (h4, .inl (k 0, 8, .inl (tI [] 0)))] H := hP
  have hD : va_D A [(h2, .inl (k 1, 9, .inr (.inl (tL [1, x0, 0, 1] 0)))), (h3, .inl (k 1, 36, .inr (.inl (tL [1, x0, 0, 1, 0, 0, 0, 0, 0] 0)))), (h1, .inr (4, [.int 2, .int 1, .int 1, .ref h3])), (h0, .inr (7, [.ref h1, .ref h5, .int 0, .ref h6, .ref h7, .ref h8, .int 0, .ref h9, .int 0, .null, .ref h4, .int 0, .ref h10, .ref h11, .ref h12, .ref h2, .ref h13])), (h4, .inl (k 0, 8, .inl (tI [] 0)))] := hD
  refine lv_iload_n hx hb dX10_addSquare_16 rfl (lv_at hl 0 rfl) ?_
  exact retI (v := 0) hx hb hr hlocks hS (⟨rfl, hP, hD⟩) dX10_addSquare_17
abbrev BX10_addUnit_3 (D : va_G) (k : Nat → ClassId) (h0 h1 h2 h3 h4 h5 h6 h7 h8 h9 h10 h11 h12 h13 : Nat) (x0 : Int32) (A : Nat → Prop) (r : Int32) (H : Heap) : Prop := 0 = r ∧ va_P D cl0 [(h2, .inl (k 1, 9, .inr (.inl (tL [1, x0.toInt64, 0, 1] 0)))), (h3, .inl (k 1, 36, .inr (.inl (tL [1, x0.toInt64, 0, 1, 0, 0, 0, 0, 0] 0)))), (h1, .inr (4, [.int 2, .int 1, .int 1, .ref h3])), (h0, .inr (7, [.ref h1, .ref h5, .int 0, .ref h6, .ref h7, .ref h8, .int 0, .ref h9, .int 0, .null, .ref h4, .int 0, .ref h10, .ref h11, .ref h12, .ref h2, .ref h13])), (h4, .inl (k 0, 8, .inl (tI [] 0)))] H ∧ va_D A [(h2, .inl (k 1, 9, .inr (.inl (tL [1, x0.toInt64, 0, 1] 0)))), (h3, .inl (k 1, 36, .inr (.inl (tL [1, x0.toInt64, 0, 1, 0, 0, 0, 0, 0] 0)))), (h1, .inr (4, [.int 2, .int 1, .int 1, .ref h3])), (h0, .inr (7, [.ref h1, .ref h5, .int 0, .ref h6, .ref h7, .ref h8, .int 0, .ref h9, .int 0, .null, .ref h4, .int 0, .ref h10, .ref h11, .ref h12, .ref h2, .ref h13])), (h4, .inl (k 0, 8, .inl (tI [] 0)))]
set_option maxHeartbeats 4000000 in
set_option maxRecDepth 100000 in
theorem cX10_addUnit_3 (l : Launch) (D : va_G) (k : Nat → ClassId) (sz : Nat) (h0 h1 h2 h3 h4 h5 h6 h7 h8 h9 h10 h11 h12 h13 : Nat) (x0 : Int32) : Met l yX10_addUnit (Cond.code yX10_addUnit cX10_addUnit 4 (some .int) :: uw) ({ frames := 3, cells := 0, slots := 0, locals := 68 }) (pC D k sz [.ref h0, .int 0, .int 1, .int x0] [(h0, .inr (7, [.ref h1, .ref h5, .int 0, .ref h6, .ref h7, .ref h8, .int 0, .ref h9, .int 0, .null, .ref h4, .int 0, .ref h10, .ref h11, .ref h12, .ref h2, .ref h13])), (h1, .inr (4, [.int 2, .int 0, .int 1, .ref h3])), (h2, .inl (k 1, 9, .inr (.inl (tL [] 0)))), (h3, .inl (k 1, 36, .inr (.inl (tL [] 0)))), (h4, .inl (k 0, 8, .inl (tI [] 0)))]) (qI (BX10_addUnit_3 D k h0 h1 h2 h3 h4 h5 h6 h7 h8 h9 h10 h11 h12 h13 x0 (va_A [(h0, .inr (7, [.ref h1, .ref h5, .int 0, .ref h6, .ref h7, .ref h8, .int 0, .ref h9, .int 0, .null, .ref h4, .int 0, .ref h10, .ref h11, .ref h12, .ref h2, .ref h13])), (h1, .inr (4, [.int 2, .int 0, .int 1, .ref h3])), (h2, .inl (k 1, 9, .inr (.inl (tL [] 0)))), (h3, .inl (k 1, 36, .inr (.inl (tL [] 0)))), (h4, .inl (k 0, 8, .inl (tI [] 0)))] sz)) (va_A [(h0, .inr (7, [.ref h1, .ref h5, .int 0, .ref h6, .ref h7, .ref h8, .int 0, .ref h9, .int 0, .null, .ref h4, .int 0, .ref h10, .ref h11, .ref h12, .ref h2, .ref h13])), (h1, .inr (4, [.int 2, .int 0, .int 1, .ref h3])), (h2, .inl (k 1, 9, .inr (.inl (tL [] 0)))), (h3, .inl (k 1, 36, .inr (.inl (tL [] 0)))), (h4, .inl (k 0, 8, .inl (tI [] 0)))] sz)) 0 0 (va_A [(h0, .inr (7, [.ref h1, .ref h5, .int 0, .ref h6, .ref h7, .ref h8, .int 0, .ref h9, .int 0, .null, .ref h4, .int 0, .ref h10, .ref h11, .ref h12, .ref h2, .ref h13])), (h1, .inr (4, [.int 2, .int 0, .int 1, .ref h3])), (h2, .inl (k 1, 9, .inr (.inl (tL [] 0)))), (h3, .inl (k 1, 36, .inr (.inl (tL [] 0)))), (h4, .inl (k 0, 8, .inl (tI [] 0)))] sz) := by
  refine begin_ (Qc := fun A => qI (BX10_addUnit_3 D k h0 h1 h2 h3 h4 h5 h6 h7 h8 h9 h10 h11 h12 h13 x0 A) A) (by decide) (Nat.le_of_ble_eq_true rfl) ?_
  intro p e s m below meth c ls A hx hb hr hml hown hlocks hin hU hK hsz hP hD hS hA hl
  have hl : lv_has ls 4 [(0, .ref h0), (1, .int 0), (2, .int 1), (3, .int x0)] := hl
  clear hsz
  refine lv_aload_n hx hb dX10_addUnit_0 rfl (lv_at hl 0 rfl) ?_
  refine va_get (D := D) (ci := 7) (v := .ref h2) (C := RX10) (T := TX10) (N := 17) hx hb hU iX10 hown hK.1 hP 0 rfl rfl 15 (by decide) (hU _ w264) (fun _ h9 => h9) rfl dX10_addUnit_1 ?_
  refine lv_aload_n hx hb dX10_addUnit_4 rfl (lv_at hl 0 rfl) ?_
  refine va_get (D := D) (ci := 7) (v := .ref h1) (C := RX10) (T := TX10) (N := 17) hx hb hU iX10 hown hK.1 hP 0 rfl rfl 0 (by decide) (hU _ w249) (fun _ h9 => h9) rfl dX10_addUnit_5 ?_
  refine va_get (D := D) (ci := 4) (v := .int 2) (C := RX5) (T := TX5) (N := 4) hx hb hU iX5 hown hK.1 hP 1 rfl rfl 0 (by decide) (hU _ w93) (fun _ h9 => h9) rfl dX10_addUnit_8 ?_
  refine cV (rS (As := [.ref h2, .int 2]) (rest := []) (wc := [(h2, .inl (k 1, 9, .inr (.inl (tL [] 0))))]) hx hb hml hown hU hK hP hD [2] rfl (by decide) (cX7_becomeOne_1 l D k _ h2) w333 w331 w332 w74 hdX7_becomeOne ⟨rfl, rfl⟩ ⟨Nat.le_of_ble_eq_true rfl, Nat.le_of_ble_eq_true rfl⟩ rfl hl.1 (Nat.le_of_ble_eq_true rfl) dX10_addUnit_11 ⟨Nat.le_of_ble_eq_true rfl, Nat.le_of_ble_eq_true rfl⟩) hP hD hS hA (wr := [(h0, .inr (7, [.ref h1, .ref h5, .int 0, .ref h6, .ref h7, .ref h8, .int 0, .ref h9, .int 0, .null, .ref h4, .int 0, .ref h10, .ref h11, .ref h12, .ref h2, .ref h13])), (h1, .inr (4, [.int 2, .int 0, .int 1, .ref h3])), (h3, .inl (k 1, 36, .inr (.inl (tL [] 0)))), (h4, .inl (k 0, 8, .inl (tI [] 0)))]) [2] [0, 1, 3, 4] rfl rfl (by decide) (by decide) (fun H locs hB J hS => ?_)
  obtain ⟨hP1, hD1⟩ := hB
  obtain ⟨hP, hD⟩ := J _ hP1 hD1
  have hP : va_P D cl0 [(h0, .inr (7, [.ref h1, .ref h5, .int 0, .ref h6, .ref h7, .ref h8, .int 0, .ref h9, .int 0, .null, .ref h4, .int 0, .ref h10, .ref h11, .ref h12, .ref h2, .ref h13])), (h1, .inr (4, [.int 2, .int 0, .int 1, .ref h3])), (h3, .inl (k 1, 36, .inr (.inl (tL [] 0)))), (h4, .inl (k 0, 8, .inl (tI [] 0))), (h2, .inl (k 1, 9, .inr (.inl (tL [1, 0, 0, 1] 0))))] H := hP
  have hD : va_D A [(h0, .inr (7, [.ref h1, .ref h5, .int 0, .ref h6, .ref h7, .ref h8, .int 0, .ref h9, .int 0, .null, .ref h4, .int 0, .ref h10, .ref h11, .ref h12, .ref h2, .ref h13])), (h1, .inr (4, [.int 2, .int 0, .int 1, .ref h3])), (h3, .inl (k 1, 36, .inr (.inl (tL [] 0)))), (h4, .inl (k 0, 8, .inl (tI [] 0))), (h2, .inl (k 1, 9, .inr (.inl (tL [1, 0, 0, 1] 0))))] := hD
  refine lv_aload_n hx hb dX10_addUnit_14 rfl (lv_at hl 0 rfl) ?_
  refine va_get (D := D) (ci := 7) (v := .ref h2) (C := RX10) (T := TX10) (N := 17) hx hb hU iX10 hown hK.1 hP 0 rfl rfl 15 (by decide) (hU _ w264) (fun _ h9 => h9) rfl dX10_addUnit_15 ?_
  refine lv_iload_n hx hb dX10_addUnit_18 rfl (lv_at hl 1 rfl) ?_
  refine lv_aload_n hx hb dX10_addUnit_19 rfl (lv_at hl 0 rfl) ?_
  refine va_get (D := D) (ci := 7) (v := .ref h1) (C := RX10) (T := TX10) (N := 17) hx hb hU iX10 hown hK.1 hP 0 rfl rfl 0 (by decide) (hU _ w249) (fun _ h9 => h9) rfl dX10_addUnit_20 ?_
  refine va_get (D := D) (ci := 4) (v := .int 2) (C := RX5) (T := TX5) (N := 4) hx hb hU iX5 hown hK.1 hP 1 rfl rfl 0 (by decide) (hU _ w93) (fun _ h9 => h9) rfl dX10_addUnit_23 ?_
  refine lv_imul hx hb dX10_addUnit_26 (sv_i (v := 0) (by decide +kernel) ?_)
  refine lv_iload_n hx hb dX10_addUnit_27 rfl (lv_at hl 2 rfl) ?_
  refine lv_iadd hx hb dX10_addUnit_28 (sv_i (v := 1) (by decide +kernel) ?_)
  refine lv_iload_n hx hb dX10_addUnit_29 rfl (lv_at hl 3 rfl) ?_
  refine lv_i2l (v := x0.toInt64) hx hb dX10_addUnit_30 rfl ?_
  refine st_l (j := 1) (g := tL [1, x0.toInt64, 0, 1] 0) hx hb hK hP hD hS 4 rfl (by decide +kernel) upd_tL dX10_addUnit_31 (fun H locs hP hD hS => ?_)
  have hP : va_P D cl0 [(h0, .inr (7, [.ref h1, .ref h5, .int 0, .ref h6, .ref h7, .ref h8, .int 0, .ref h9, .int 0, .null, .ref h4, .int 0, .ref h10, .ref h11, .ref h12, .ref h2, .ref h13])), (h1, .inr (4, [.int 2, .int 0, .int 1, .ref h3])), (h3, .inl (k 1, 36, .inr (.inl (tL [] 0)))), (h4, .inl (k 0, 8, .inl (tI [] 0))), (h2, .inl (k 1, 9, .inr (.inl (tL [1, x0.toInt64, 0, 1] 0))))] H := hP
  have hD : va_D A [(h0, .inr (7, [.ref h1, .ref h5, .int 0, .ref h6, .ref h7, .ref h8, .int 0, .ref h9, .int 0, .null, .ref h4, .int 0, .ref h10, .ref h11, .ref h12, .ref h2, .ref h13])), (h1, .inr (4, [.int 2, .int 0, .int 1, .ref h3])), (h3, .inl (k 1, 36, .inr (.inl (tL [] 0)))), (h4, .inl (k 0, 8, .inl (tI [] 0))), (h2, .inl (k 1, 9, .inr (.inl (tL [1, x0.toInt64, 0, 1] 0))))] := hD
  refine lv_aload_n hx hb dX10_addUnit_32 rfl (lv_at hl 0 rfl) ?_
  refine cI (rV (q0 := 0) (ci := 7) (As := []) (rest := []) (wc := [(h0, .inr (7, [.ref h1, .ref h5, .int 0, .ref h6, .ref h7, .ref h8, .int 0, .ref h9, .int 0, .null, .ref h4, .int 0, .ref h10, .ref h11, .ref h12, .ref h2, .ref h13])), (h1, .inr (4, [.int 2, .int 0, .int 1, .ref h3])), (h2, .inl (k 1, 9, .inr (.inl (tL [1, x0.toInt64, 0, 1] 0)))), (h3, .inl (k 1, 36, .inr (.inl (tL [] 0)))), (h4, .inl (k 0, 8, .inl (tI [] 0)))]) hx hb hml hown hU hK hP hD rfl rfl [0, 1, 4, 2, 3] rfl (by decide) (cX10_addSquare_3 l D k _ h0 h1 h2 h3 h4 h5 h6 h7 h8 h9 h10 h11 h12 h13 (x0.toInt64)) w340 w337 w339 w2 w63 hdX10_addSquare ⟨rfl, rfl⟩ ⟨Nat.le_of_ble_eq_true rfl, Nat.le_of_ble_eq_true rfl⟩ rfl hl.1 (Nat.le_of_ble_eq_true rfl) dX10_addUnit_33 ⟨Nat.le_of_ble_eq_true rfl, Nat.le_of_ble_eq_true rfl⟩) hP hD hS hA (wr := []) [0, 1, 4, 2, 3] [] rfl rfl (by decide) (by decide) (fun r2 H locs hB J hS => ?_)
  obtain ⟨rfl, hP1, hD1⟩ := hB
  obtain ⟨hP, hD⟩ := J _ hP1 hD1
  have hP : va_P D cl0 [(h2, .inl (k 1, 9, .inr (.inl (tL [1, x0.toInt64, 0, 1] 0)))), (h3, .inl (k 1, 36, .inr (.inl (tL [1, x0.toInt64, 0, 1, 0, 0, 0, 0, 0] 0)))), (h1, .inr (4, [.int 2, .int 1, .int 1, .ref h3])), (h0, .inr (7, [.ref h1, .ref h5, .int 0, .ref h6, .ref h7, .ref h8, .int 0, .ref h9, .int 0, .null, .ref h4, .int 0, .ref h10, .ref h11, .ref h12, .ref h2, .ref h13])), (h4, .inl (k 0, 8, .inl (tI [] 0)))] H := hP
  have hD : va_D A [(h2, .inl (k 1, 9, .inr (.inl (tL [1, x0.toInt64, 0, 1] 0)))), (h3, .inl (k 1, 36, .inr (.inl (tL [1, x0.toInt64, 0, 1, 0, 0, 0, 0, 0] 0)))), (h1, .inr (4, [.int 2, .int 1, .int 1, .ref h3])), (h0, .inr (7, [.ref h1, .ref h5, .int 0, .ref h6, .ref h7, .ref h8, .int 0, .ref h9, .int 0, .null, .ref h4, .int 0, .ref h10, .ref h11, .ref h12, .ref h2, .ref h13])), (h4, .inl (k 0, 8, .inl (tI [] 0)))] := hD
  exact retI (v := 0) hx hb hr hlocks hS (⟨rfl, hP, hD⟩) dX10_addUnit_36
abbrev BX5_append_4 (D : va_G) (k : Nat → ClassId) (h0 h1 h2 : Nat) (x0 : Int64) (A : Nat → Prop) (r : Int32) (H : Heap) : Prop := 0 = r ∧ va_P D cl0 [(h1, .inl (k 1, 9, .inr (.inl (tL [1, 0, x0, 1] 0)))), (h2, .inl (k 1, 36, .inr (.inl (tL [1, 0, x0, 1, 0, 0, 0, 0, 0] 0)))), (h0, .inr (4, [.int 2, .int 1, .int 1, .ref h2]))] H ∧ va_D A [(h1, .inl (k 1, 9, .inr (.inl (tL [1, 0, x0, 1] 0)))), (h2, .inl (k 1, 36, .inr (.inl (tL [1, 0, x0, 1, 0, 0, 0, 0, 0] 0)))), (h0, .inr (4, [.int 2, .int 1, .int 1, .ref h2]))]
set_option maxHeartbeats 4000000 in
set_option maxRecDepth 100000 in
theorem cX5_append_4 (l : Launch) (D : va_G) (k : Nat → ClassId) (sz : Nat) (h0 h1 h2 : Nat) (x0 : Int64) : Met l yX5_append (Cond.code yX5_append cX5_append 2 (some .int) :: uw) ({ frames := 1, cells := 0, slots := 0, locals := 26 }) (pC D k sz [.ref h0, .ref h1] [(h0, .inr (4, [.int 2, .int 0, .int 1, .ref h2])), (h1, .inl (k 1, 9, .inr (.inl (tL [1, 0, x0, 1] 0)))), (h2, .inl (k 1, 36, .inr (.inl (tL [] 0))))]) (qI (BX5_append_4 D k h0 h1 h2 x0 (va_A [(h0, .inr (4, [.int 2, .int 0, .int 1, .ref h2])), (h1, .inl (k 1, 9, .inr (.inl (tL [1, 0, x0, 1] 0)))), (h2, .inl (k 1, 36, .inr (.inl (tL [] 0))))] sz)) (va_A [(h0, .inr (4, [.int 2, .int 0, .int 1, .ref h2])), (h1, .inl (k 1, 9, .inr (.inl (tL [1, 0, x0, 1] 0)))), (h2, .inl (k 1, 36, .inr (.inl (tL [] 0))))] sz)) 0 0 (va_A [(h0, .inr (4, [.int 2, .int 0, .int 1, .ref h2])), (h1, .inl (k 1, 9, .inr (.inl (tL [1, 0, x0, 1] 0)))), (h2, .inl (k 1, 36, .inr (.inl (tL [] 0))))] sz) := by
  refine begin_ (Qc := fun A => qI (BX5_append_4 D k h0 h1 h2 x0 A) A) (by decide) (Nat.le_of_ble_eq_true rfl) ?_
  intro p e s m below meth c ls A hx hb hr hml hown hlocks hin hU hK hsz hP hD hS hA hl
  have hl : lv_has ls 2 [(0, .ref h0), (1, .ref h1)] := hl
  clear hsz
  refine lv_aload_n hx hb dX5_append_0 rfl (lv_at hl 0 rfl) ?_
  refine cI (rV (q0 := 0) (ci := 4) (As := []) (rest := []) (wc := [(h0, .inr (4, [.int 2, .int 0, .int 1, .ref h2]))]) hx hb hml hown hU hK hP hD rfl rfl [0] rfl (by decide) (cX5_isFull_1 l D k _ h0 h2) w326 w345 w324 w325 w64 hdX5_isFull ⟨rfl, rfl⟩ ⟨Nat.le_of_ble_eq_true rfl, Nat.le_of_ble_eq_true rfl⟩ rfl hl.1 (Nat.le_of_ble_eq_true rfl) dX5_append_1 ⟨Nat.le_of_ble_eq_true rfl, Nat.le_of_ble_eq_true rfl⟩) hP hD hS hA (wr := [(h1, .inl (k 1, 9, .inr (.inl (tL [1, 0, x0, 1] 0)))), (h2, .inl (k 1, 36, .inr (.inl (tL [] 0))))]) [0] [1, 2] rfl rfl (by decide) (by decide) (fun r1 H locs hB J hS => ?_)
  obtain ⟨rfl, hP1, hD1⟩ := hB
  obtain ⟨hP, hD⟩ := J _ hP1 hD1
  have hP : va_P D cl0 [(h1, .inl (k 1, 9, .inr (.inl (tL [1, 0, x0, 1] 0)))), (h2, .inl (k 1, 36, .inr (.inl (tL [] 0)))), (h0, .inr (4, [.int 2, .int 0, .int 1, .ref h2]))] H := hP
  have hD : va_D A [(h1, .inl (k 1, 9, .inr (.inl (tL [1, 0, x0, 1] 0)))), (h2, .inl (k 1, 36, .inr (.inl (tL [] 0)))), (h0, .inr (4, [.int 2, .int 0, .int 1, .ref h2]))] := hD
  refine lv_if_eq (tgt := 10) hx hb dX5_append_4 (by decide) (fun _ => ?_) (fun cc => absurd (by decide +kernel) cc)
  refine lv_aload_n hx hb dX5_append_10 rfl (lv_at hl 1 rfl) ?_
  refine lv_iconst (v := 0) hx hb dX5_append_11 (by decide) ?_
  refine lv_aload_n hx hb dX5_append_12 rfl (lv_at hl 0 rfl) ?_
  refine va_get (D := D) (ci := 4) (v := .ref h2) (C := RX5) (T := TX5) (N := 4) hx hb hU iX5 hown hK.1 hP 2 rfl rfl 3 (by decide) (hU _ w100) (fun _ h9 => h9) rfl dX5_append_13 ?_
  refine lv_aload_n hx hb dX5_append_16 rfl (lv_at hl 0 rfl) ?_
  refine va_get (D := D) (ci := 4) (v := .int 0) (C := RX5) (T := TX5) (N := 4) hx hb hU iX5 hown hK.1 hP 2 rfl rfl 1 (by decide) (hU _ w96) (fun _ h9 => h9) rfl dX5_append_17 ?_
  refine lv_bipush (v := 9) hx hb dX5_append_20 (by decide) ?_
  refine lv_imul hx hb dX5_append_22 (sv_i (v := 0) (by decide +kernel) ?_)
  refine lv_bipush (v := 9) hx hb dX5_append_23 (by decide) ?_
  refine cp_l (g' := tL [1, 0, x0, 1, 0, 0, 0, 0, 0] 0) hx hb hml hl.1 hown hU w346 w348 w347 w75 hK hP hD hS 0 1 rfl rfl 0 0 9 (by decide +kernel) cpy_tL (Nat.le_of_ble_eq_true rfl) (Nat.le_of_ble_eq_true rfl) dX5_append_25 (fun H locs hP hD hS => ?_)
  have hP : va_P D cl0 [(h1, .inl (k 1, 9, .inr (.inl (tL [1, 0, x0, 1] 0)))), (h2, .inl (k 1, 36, .inr (.inl (tL [1, 0, x0, 1, 0, 0, 0, 0, 0] 0)))), (h0, .inr (4, [.int 2, .int 0, .int 1, .ref h2]))] H := hP
  have hD : va_D A [(h1, .inl (k 1, 9, .inr (.inl (tL [1, 0, x0, 1] 0)))), (h2, .inl (k 1, 36, .inr (.inl (tL [1, 0, x0, 1, 0, 0, 0, 0, 0] 0)))), (h0, .inr (4, [.int 2, .int 0, .int 1, .ref h2]))] := hD
  refine lv_aload_n hx hb dX5_append_28 rfl (lv_at hl 0 rfl) ?_
  refine lv_dup hx hb dX5_append_29 rfl ?_
  refine va_get (D := D) (ci := 4) (v := .int 0) (C := RX5) (T := TX5) (N := 4) hx hb hU iX5 hown hK.1 hP 2 rfl rfl 1 (by decide) (hU _ w96) (fun _ h9 => h9) rfl dX5_append_30 ?_
  refine lv_iconst (v := 1) hx hb dX5_append_33 (by decide) ?_
  refine lv_iadd hx hb dX5_append_34 (sv_i (v := 1) (by decide +kernel) ?_)
  refine va_put (D := D) (ci := 4) (v := .int 1) (ty := .int) (C := RX5) (T := TX5) (N := 4) hx hb hU iX5 tyX5 tyX5_ok nmX5 hown hK.1 hP hD hS 2 rfl rfl 1 (by decide) (hU _ w96) (fun _ h9 => h9) rfl (by decide +kernel) rfl rfl (Nat.le_of_ble_eq_true rfl) dX5_append_35 (fun H locs hP hD hS => ?_)
  have hP : va_P D cl0 [(h1, .inl (k 1, 9, .inr (.inl (tL [1, 0, x0, 1] 0)))), (h2, .inl (k 1, 36, .inr (.inl (tL [1, 0, x0, 1, 0, 0, 0, 0, 0] 0)))), (h0, .inr (4, [.int 2, .int 1, .int 1, .ref h2]))] H := hP
  have hD : va_D A [(h1, .inl (k 1, 9, .inr (.inl (tL [1, 0, x0, 1] 0)))), (h2, .inl (k 1, 36, .inr (.inl (tL [1, 0, x0, 1, 0, 0, 0, 0, 0] 0)))), (h0, .inr (4, [.int 2, .int 1, .int 1, .ref h2]))] := hD
  refine lv_aload_n hx hb dX5_append_38 rfl (lv_at hl 0 rfl) ?_
  refine va_get (D := D) (ci := 4) (v := .int 1) (C := RX5) (T := TX5) (N := 4) hx hb hU iX5 hown hK.1 hP 2 rfl rfl 1 (by decide) (hU _ w96) (fun _ h9 => h9) rfl dX5_append_39 ?_
  refine lv_iconst (v := 1) hx hb dX5_append_42 (by decide) ?_
  refine lv_isub hx hb dX5_append_43 (sv_i (v := 0) (by decide +kernel) ?_)
  exact retI (v := 0) hx hb hr hlocks hS (⟨rfl, hP, hD⟩) dX5_append_44
abbrev BX10_addSquare_4 (D : va_G) (k : Nat → ClassId) (h0 h1 h2 h3 h4 h5 h6 h7 h8 h9 h10 h11 h12 h13 : Nat) (x0 : Int64) (A : Nat → Prop) (r : Int32) (H : Heap) : Prop := 0 = r ∧ va_P D cl0 [(h2, .inl (k 1, 9, .inr (.inl (tL [1, 0, x0, 1] 0)))), (h3, .inl (k 1, 36, .inr (.inl (tL [1, 0, x0, 1, 0, 0, 0, 0, 0] 0)))), (h1, .inr (4, [.int 2, .int 1, .int 1, .ref h3])), (h0, .inr (7, [.ref h1, .ref h5, .int 0, .ref h6, .ref h7, .ref h8, .int 0, .ref h9, .int 0, .null, .ref h4, .int 0, .ref h10, .ref h11, .ref h12, .ref h2, .ref h13])), (h4, .inl (k 0, 8, .inl (tI [] 0)))] H ∧ va_D A [(h2, .inl (k 1, 9, .inr (.inl (tL [1, 0, x0, 1] 0)))), (h3, .inl (k 1, 36, .inr (.inl (tL [1, 0, x0, 1, 0, 0, 0, 0, 0] 0)))), (h1, .inr (4, [.int 2, .int 1, .int 1, .ref h3])), (h0, .inr (7, [.ref h1, .ref h5, .int 0, .ref h6, .ref h7, .ref h8, .int 0, .ref h9, .int 0, .null, .ref h4, .int 0, .ref h10, .ref h11, .ref h12, .ref h2, .ref h13])), (h4, .inl (k 0, 8, .inl (tI [] 0)))]
set_option maxHeartbeats 4000000 in
set_option maxRecDepth 100000 in
theorem cX10_addSquare_4 (l : Launch) (D : va_G) (k : Nat → ClassId) (sz : Nat) (h0 h1 h2 h3 h4 h5 h6 h7 h8 h9 h10 h11 h12 h13 : Nat) (x0 : Int64) : Met l yX10_addSquare (Cond.code yX10_addSquare cX10_addSquare 2 (some .int) :: uw) ({ frames := 2, cells := 0, slots := 0, locals := 47 }) (pC D k sz [.ref h0] [(h0, .inr (7, [.ref h1, .ref h5, .int 0, .ref h6, .ref h7, .ref h8, .int 0, .ref h9, .int 0, .null, .ref h4, .int 0, .ref h10, .ref h11, .ref h12, .ref h2, .ref h13])), (h1, .inr (4, [.int 2, .int 0, .int 1, .ref h3])), (h2, .inl (k 1, 9, .inr (.inl (tL [1, 0, x0, 1] 0)))), (h3, .inl (k 1, 36, .inr (.inl (tL [] 0)))), (h4, .inl (k 0, 8, .inl (tI [] 0)))]) (qI (BX10_addSquare_4 D k h0 h1 h2 h3 h4 h5 h6 h7 h8 h9 h10 h11 h12 h13 x0 (va_A [(h0, .inr (7, [.ref h1, .ref h5, .int 0, .ref h6, .ref h7, .ref h8, .int 0, .ref h9, .int 0, .null, .ref h4, .int 0, .ref h10, .ref h11, .ref h12, .ref h2, .ref h13])), (h1, .inr (4, [.int 2, .int 0, .int 1, .ref h3])), (h2, .inl (k 1, 9, .inr (.inl (tL [1, 0, x0, 1] 0)))), (h3, .inl (k 1, 36, .inr (.inl (tL [] 0)))), (h4, .inl (k 0, 8, .inl (tI [] 0)))] sz)) (va_A [(h0, .inr (7, [.ref h1, .ref h5, .int 0, .ref h6, .ref h7, .ref h8, .int 0, .ref h9, .int 0, .null, .ref h4, .int 0, .ref h10, .ref h11, .ref h12, .ref h2, .ref h13])), (h1, .inr (4, [.int 2, .int 0, .int 1, .ref h3])), (h2, .inl (k 1, 9, .inr (.inl (tL [1, 0, x0, 1] 0)))), (h3, .inl (k 1, 36, .inr (.inl (tL [] 0)))), (h4, .inl (k 0, 8, .inl (tI [] 0)))] sz)) 0 0 (va_A [(h0, .inr (7, [.ref h1, .ref h5, .int 0, .ref h6, .ref h7, .ref h8, .int 0, .ref h9, .int 0, .null, .ref h4, .int 0, .ref h10, .ref h11, .ref h12, .ref h2, .ref h13])), (h1, .inr (4, [.int 2, .int 0, .int 1, .ref h3])), (h2, .inl (k 1, 9, .inr (.inl (tL [1, 0, x0, 1] 0)))), (h3, .inl (k 1, 36, .inr (.inl (tL [] 0)))), (h4, .inl (k 0, 8, .inl (tI [] 0)))] sz) := by
  refine begin_ (Qc := fun A => qI (BX10_addSquare_4 D k h0 h1 h2 h3 h4 h5 h6 h7 h8 h9 h10 h11 h12 h13 x0 A) A) (by decide) (Nat.le_of_ble_eq_true rfl) ?_
  intro p e s m below meth c ls A hx hb hr hml hown hlocks hin hU hK hsz hP hD hS hA hl
  have hl : lv_has ls 2 [(0, .ref h0)] := hl
  clear hsz
  refine lv_aload_n hx hb dX10_addSquare_0 rfl (lv_at hl 0 rfl) ?_
  refine va_get (D := D) (ci := 7) (v := .ref h1) (C := RX10) (T := TX10) (N := 17) hx hb hU iX10 hown hK.1 hP 0 rfl rfl 0 (by decide) (hU _ w249) (fun _ h9 => h9) rfl dX10_addSquare_1 ?_
  refine lv_aload_n hx hb dX10_addSquare_4 rfl (lv_at hl 0 rfl) ?_
  refine va_get (D := D) (ci := 7) (v := .ref h2) (C := RX10) (T := TX10) (N := 17) hx hb hU iX10 hown hK.1 hP 0 rfl rfl 15 (by decide) (hU _ w264) (fun _ h9 => h9) rfl dX10_addSquare_5 ?_
  refine cI (rV (q0 := 1) (ci := 4) (As := [.ref h2]) (rest := []) (wc := [(h1, .inr (4, [.int 2, .int 0, .int 1, .ref h3])), (h2, .inl (k 1, 9, .inr (.inl (tL [1, 0, x0, 1] 0)))), (h3, .inl (k 1, 36, .inr (.inl (tL [] 0))))]) hx hb hml hown hU hK hP hD rfl rfl [1, 2, 3] rfl (by decide) (cX5_append_4 l D k _ h1 h2 h3 (x0)) w344 w341 w342 w343 w64 hdX5_append ⟨rfl, rfl⟩ ⟨Nat.le_of_ble_eq_true rfl, Nat.le_of_ble_eq_true rfl⟩ rfl hl.1 (Nat.le_of_ble_eq_true rfl) dX10_addSquare_8 ⟨Nat.le_of_ble_eq_true rfl, Nat.le_of_ble_eq_true rfl⟩) hP hD hS hA (wr := [(h0, .inr (7, [.ref h1, .ref h5, .int 0, .ref h6, .ref h7, .ref h8, .int 0, .ref h9, .int 0, .null, .ref h4, .int 0, .ref h10, .ref h11, .ref h12, .ref h2, .ref h13])), (h4, .inl (k 0, 8, .inl (tI [] 0)))]) [1, 2, 3] [0, 4] rfl rfl (by decide) (by decide) (fun r1 H locs hB J hS => ?_)
  obtain ⟨rfl, hP1, hD1⟩ := hB
  obtain ⟨hP, hD⟩ := J _ hP1 hD1
  have hP : va_P D cl0 [(h0, .inr (7, [.ref h1, .ref h5, .int 0, .ref h6, .ref h7, .ref h8, .int 0, .ref h9, .int 0, .null, .ref h4, .int 0, .ref h10, .ref h11, .ref h12, .ref h2, .ref h13])), (h4, .inl (k 0, 8, .inl (tI [] 0))), (h2, .inl (k 1, 9, .inr (.inl (tL [1, 0, x0, 1] 0)))), (h3, .inl (k 1, 36, .inr (.inl (tL [1, 0, x0, 1, 0, 0, 0, 0, 0] 0)))), (h1, .inr (4, [.int 2, .int 1, .int 1, .ref h3]))] H := hP
  have hD : va_D A [(h0, .inr (7, [.ref h1, .ref h5, .int 0, .ref h6, .ref h7, .ref h8, .int 0, .ref h9, .int 0, .null, .ref h4, .int 0, .ref h10, .ref h11, .ref h12, .ref h2, .ref h13])), (h4, .inl (k 0, 8, .inl (tI [] 0))), (h2, .inl (k 1, 9, .inr (.inl (tL [1, 0, x0, 1] 0)))), (h3, .inl (k 1, 36, .inr (.inl (tL [1, 0, x0, 1, 0, 0, 0, 0, 0] 0)))), (h1, .inr (4, [.int 2, .int 1, .int 1, .ref h3]))] := hD
  refine lv_istore_n (lv' := [(1, .int 0), (0, .ref h0)]) hx hb dX10_addSquare_11 rfl hl (by decide) rfl (fun ls hl => ?_)
  refine lv_aload_n hx hb dX10_addSquare_12 rfl (lv_at hl 1 rfl) ?_
  refine cV (rV (q0 := 0) (ci := 7) (As := []) (rest := []) (wc := [(h0, .inr (7, [.ref h1, .ref h5, .int 0, .ref h6, .ref h7, .ref h8, .int 0, .ref h9, .int 0, .null, .ref h4, .int 0, .ref h10, .ref h11, .ref h12, .ref h2, .ref h13])), (h4, .inl (k 0, 8, .inl (tI [] 0)))]) hx hb hml hown hU hK hP hD rfl rfl [0, 1] rfl (by decide) (cX10_forgetWhatCame_1 l D k _ h0 h4 h1 h5 h6 h7 h8 h9 h10 h11 h12 h2 h13) w308 w305 w307 w0 w63 hdX10_forgetWhatCame ⟨rfl, rfl⟩ ⟨Nat.le_of_ble_eq_true rfl, Nat.le_of_ble_eq_true rfl⟩ rfl hl.1 (Nat.le_of_ble_eq_true rfl) dX10_addSquare_13 ⟨Nat.le_of_ble_eq_true rfl, Nat.le_of_ble_eq_true rfl⟩) hP hD hS hA (wr := [(h2, .inl (k 1, 9, .inr (.inl (tL [1, 0, x0, 1] 0)))), (h3, .inl (k 1, 36, .inr (.inl (tL [1, 0, x0, 1, 0, 0, 0, 0, 0] 0)))), (h1, .inr (4, [.int 2, .int 1, .int 1, .ref h3]))]) [0, 1] [2, 3, 4] rfl rfl (by decide) (by decide) (fun H locs hB J hS => ?_)
  obtain ⟨hP1, hD1⟩ := hB
  obtain ⟨hP, hD⟩ := J _ hP1 hD1
  have hP : va_P D cl0 [(h2, .inl (k 1, 9, .inr (.inl (tL [1, 0, x0, 1] 0)))), (h3, .inl (k 1, 36, .inr (.inl (tL [1, 0, x0, 1, 0, 0, 0, 0, 0] 0)))), (h1, .inr (4, [.int 2, .int 1, .int 1, .ref h3])), (h0, .inr (7, [.ref h1, .ref h5, .int 0, .ref h6, .ref h7, .ref h8, .int 0, .ref h9, .int 0, .null, .ref h4, .int 0, .ref h10, .ref h11, .ref h12, .ref h2, .ref h13])), (h4, .inl (k 0, 8, .inl (tI [] 0)))] H := hP
  have hD : va_D A [(h2, .inl (k 1, 9, .inr (.inl (tL [1, 0, x0, 1] 0)))), (h3, .inl (k 1, 36, .inr (.inl (tL [1, 0, x0, 1, 0, 0, 0, 0, 0] 0)))), (h1, .inr (4, [.int 2, .int 1, .int 1, .ref h3])), (h0, .inr (7, [.ref h1, .ref h5, .int 0, .ref h6, .ref h7, .ref h8, .int 0, .ref h9, .int 0, .null, .ref h4, .int 0, .ref h10, .ref h11, .ref h12, .ref h2, .ref h13])), (h4, .inl (k 0, 8, .inl (tI [] 0)))] := hD
  refine lv_iload_n hx hb dX10_addSquare_16 rfl (lv_at hl 0 rfl) ?_
  exact retI (v := 0) hx hb hr hlocks hS (⟨rfl, hP, hD⟩) dX10_addSquare_17
abbrev BX10_addUnit_4 (D : va_G) (k : Nat → ClassId) (h0 h1 h2 h3 h4 h5 h6 h7 h8 h9 h10 h11 h12 h13 : Nat) (x0 : Int32) (A : Nat → Prop) (r : Int32) (H : Heap) : Prop := 0 = r ∧ va_P D cl0 [(h2, .inl (k 1, 9, .inr (.inl (tL [1, 0, x0.toInt64, 1] 0)))), (h3, .inl (k 1, 36, .inr (.inl (tL [1, 0, x0.toInt64, 1, 0, 0, 0, 0, 0] 0)))), (h1, .inr (4, [.int 2, .int 1, .int 1, .ref h3])), (h0, .inr (7, [.ref h1, .ref h5, .int 0, .ref h6, .ref h7, .ref h8, .int 0, .ref h9, .int 0, .null, .ref h4, .int 0, .ref h10, .ref h11, .ref h12, .ref h2, .ref h13])), (h4, .inl (k 0, 8, .inl (tI [] 0)))] H ∧ va_D A [(h2, .inl (k 1, 9, .inr (.inl (tL [1, 0, x0.toInt64, 1] 0)))), (h3, .inl (k 1, 36, .inr (.inl (tL [1, 0, x0.toInt64, 1, 0, 0, 0, 0, 0] 0)))), (h1, .inr (4, [.int 2, .int 1, .int 1, .ref h3])), (h0, .inr (7, [.ref h1, .ref h5, .int 0, .ref h6, .ref h7, .ref h8, .int 0, .ref h9, .int 0, .null, .ref h4, .int 0, .ref h10, .ref h11, .ref h12, .ref h2, .ref h13])), (h4, .inl (k 0, 8, .inl (tI [] 0)))]
set_option maxHeartbeats 4000000 in
set_option maxRecDepth 100000 in
theorem cX10_addUnit_4 (l : Launch) (D : va_G) (k : Nat → ClassId) (sz : Nat) (h0 h1 h2 h3 h4 h5 h6 h7 h8 h9 h10 h11 h12 h13 : Nat) (x0 : Int32) : Met l yX10_addUnit (Cond.code yX10_addUnit cX10_addUnit 4 (some .int) :: uw) ({ frames := 3, cells := 0, slots := 0, locals := 68 }) (pC D k sz [.ref h0, .int 1, .int 0, .int x0] [(h0, .inr (7, [.ref h1, .ref h5, .int 0, .ref h6, .ref h7, .ref h8, .int 0, .ref h9, .int 0, .null, .ref h4, .int 0, .ref h10, .ref h11, .ref h12, .ref h2, .ref h13])), (h1, .inr (4, [.int 2, .int 0, .int 1, .ref h3])), (h2, .inl (k 1, 9, .inr (.inl (tL [] 0)))), (h3, .inl (k 1, 36, .inr (.inl (tL [] 0)))), (h4, .inl (k 0, 8, .inl (tI [] 0)))]) (qI (BX10_addUnit_4 D k h0 h1 h2 h3 h4 h5 h6 h7 h8 h9 h10 h11 h12 h13 x0 (va_A [(h0, .inr (7, [.ref h1, .ref h5, .int 0, .ref h6, .ref h7, .ref h8, .int 0, .ref h9, .int 0, .null, .ref h4, .int 0, .ref h10, .ref h11, .ref h12, .ref h2, .ref h13])), (h1, .inr (4, [.int 2, .int 0, .int 1, .ref h3])), (h2, .inl (k 1, 9, .inr (.inl (tL [] 0)))), (h3, .inl (k 1, 36, .inr (.inl (tL [] 0)))), (h4, .inl (k 0, 8, .inl (tI [] 0)))] sz)) (va_A [(h0, .inr (7, [.ref h1, .ref h5, .int 0, .ref h6, .ref h7, .ref h8, .int 0, .ref h9, .int 0, .null, .ref h4, .int 0, .ref h10, .ref h11, .ref h12, .ref h2, .ref h13])), (h1, .inr (4, [.int 2, .int 0, .int 1, .ref h3])), (h2, .inl (k 1, 9, .inr (.inl (tL [] 0)))), (h3, .inl (k 1, 36, .inr (.inl (tL [] 0)))), (h4, .inl (k 0, 8, .inl (tI [] 0)))] sz)) 0 0 (va_A [(h0, .inr (7, [.ref h1, .ref h5, .int 0, .ref h6, .ref h7, .ref h8, .int 0, .ref h9, .int 0, .null, .ref h4, .int 0, .ref h10, .ref h11, .ref h12, .ref h2, .ref h13])), (h1, .inr (4, [.int 2, .int 0, .int 1, .ref h3])), (h2, .inl (k 1, 9, .inr (.inl (tL [] 0)))), (h3, .inl (k 1, 36, .inr (.inl (tL [] 0)))), (h4, .inl (k 0, 8, .inl (tI [] 0)))] sz) := by
  refine begin_ (Qc := fun A => qI (BX10_addUnit_4 D k h0 h1 h2 h3 h4 h5 h6 h7 h8 h9 h10 h11 h12 h13 x0 A) A) (by decide) (Nat.le_of_ble_eq_true rfl) ?_
  intro p e s m below meth c ls A hx hb hr hml hown hlocks hin hU hK hsz hP hD hS hA hl
  have hl : lv_has ls 4 [(0, .ref h0), (1, .int 1), (2, .int 0), (3, .int x0)] := hl
  clear hsz
  refine lv_aload_n hx hb dX10_addUnit_0 rfl (lv_at hl 0 rfl) ?_
  refine va_get (D := D) (ci := 7) (v := .ref h2) (C := RX10) (T := TX10) (N := 17) hx hb hU iX10 hown hK.1 hP 0 rfl rfl 15 (by decide) (hU _ w264) (fun _ h9 => h9) rfl dX10_addUnit_1 ?_
  refine lv_aload_n hx hb dX10_addUnit_4 rfl (lv_at hl 0 rfl) ?_
  refine va_get (D := D) (ci := 7) (v := .ref h1) (C := RX10) (T := TX10) (N := 17) hx hb hU iX10 hown hK.1 hP 0 rfl rfl 0 (by decide) (hU _ w249) (fun _ h9 => h9) rfl dX10_addUnit_5 ?_
  refine va_get (D := D) (ci := 4) (v := .int 2) (C := RX5) (T := TX5) (N := 4) hx hb hU iX5 hown hK.1 hP 1 rfl rfl 0 (by decide) (hU _ w93) (fun _ h9 => h9) rfl dX10_addUnit_8 ?_
  refine cV (rS (As := [.ref h2, .int 2]) (rest := []) (wc := [(h2, .inl (k 1, 9, .inr (.inl (tL [] 0))))]) hx hb hml hown hU hK hP hD [2] rfl (by decide) (cX7_becomeOne_1 l D k _ h2) w333 w331 w332 w74 hdX7_becomeOne ⟨rfl, rfl⟩ ⟨Nat.le_of_ble_eq_true rfl, Nat.le_of_ble_eq_true rfl⟩ rfl hl.1 (Nat.le_of_ble_eq_true rfl) dX10_addUnit_11 ⟨Nat.le_of_ble_eq_true rfl, Nat.le_of_ble_eq_true rfl⟩) hP hD hS hA (wr := [(h0, .inr (7, [.ref h1, .ref h5, .int 0, .ref h6, .ref h7, .ref h8, .int 0, .ref h9, .int 0, .null, .ref h4, .int 0, .ref h10, .ref h11, .ref h12, .ref h2, .ref h13])), (h1, .inr (4, [.int 2, .int 0, .int 1, .ref h3])), (h3, .inl (k 1, 36, .inr (.inl (tL [] 0)))), (h4, .inl (k 0, 8, .inl (tI [] 0)))]) [2] [0, 1, 3, 4] rfl rfl (by decide) (by decide) (fun H locs hB J hS => ?_)
  obtain ⟨hP1, hD1⟩ := hB
  obtain ⟨hP, hD⟩ := J _ hP1 hD1
  have hP : va_P D cl0 [(h0, .inr (7, [.ref h1, .ref h5, .int 0, .ref h6, .ref h7, .ref h8, .int 0, .ref h9, .int 0, .null, .ref h4, .int 0, .ref h10, .ref h11, .ref h12, .ref h2, .ref h13])), (h1, .inr (4, [.int 2, .int 0, .int 1, .ref h3])), (h3, .inl (k 1, 36, .inr (.inl (tL [] 0)))), (h4, .inl (k 0, 8, .inl (tI [] 0))), (h2, .inl (k 1, 9, .inr (.inl (tL [1, 0, 0, 1] 0))))] H := hP
  have hD : va_D A [(h0, .inr (7, [.ref h1, .ref h5, .int 0, .ref h6, .ref h7, .ref h8, .int 0, .ref h9, .int 0, .null, .ref h4, .int 0, .ref h10, .ref h11, .ref h12, .ref h2, .ref h13])), (h1, .inr (4, [.int 2, .int 0, .int 1, .ref h3])), (h3, .inl (k 1, 36, .inr (.inl (tL [] 0)))), (h4, .inl (k 0, 8, .inl (tI [] 0))), (h2, .inl (k 1, 9, .inr (.inl (tL [1, 0, 0, 1] 0))))] := hD
  refine lv_aload_n hx hb dX10_addUnit_14 rfl (lv_at hl 0 rfl) ?_
  refine va_get (D := D) (ci := 7) (v := .ref h2) (C := RX10) (T := TX10) (N := 17) hx hb hU iX10 hown hK.1 hP 0 rfl rfl 15 (by decide) (hU _ w264) (fun _ h9 => h9) rfl dX10_addUnit_15 ?_
  refine lv_iload_n hx hb dX10_addUnit_18 rfl (lv_at hl 1 rfl) ?_
  refine lv_aload_n hx hb dX10_addUnit_19 rfl (lv_at hl 0 rfl) ?_
  refine va_get (D := D) (ci := 7) (v := .ref h1) (C := RX10) (T := TX10) (N := 17) hx hb hU iX10 hown hK.1 hP 0 rfl rfl 0 (by decide) (hU _ w249) (fun _ h9 => h9) rfl dX10_addUnit_20 ?_
  refine va_get (D := D) (ci := 4) (v := .int 2) (C := RX5) (T := TX5) (N := 4) hx hb hU iX5 hown hK.1 hP 1 rfl rfl 0 (by decide) (hU _ w93) (fun _ h9 => h9) rfl dX10_addUnit_23 ?_
  refine lv_imul hx hb dX10_addUnit_26 (sv_i (v := 2) (by decide +kernel) ?_)
  refine lv_iload_n hx hb dX10_addUnit_27 rfl (lv_at hl 2 rfl) ?_
  refine lv_iadd hx hb dX10_addUnit_28 (sv_i (v := 2) (by decide +kernel) ?_)
  refine lv_iload_n hx hb dX10_addUnit_29 rfl (lv_at hl 3 rfl) ?_
  refine lv_i2l (v := x0.toInt64) hx hb dX10_addUnit_30 rfl ?_
  refine st_l (j := 2) (g := tL [1, 0, x0.toInt64, 1] 0) hx hb hK hP hD hS 4 rfl (by decide +kernel) upd_tL dX10_addUnit_31 (fun H locs hP hD hS => ?_)
  have hP : va_P D cl0 [(h0, .inr (7, [.ref h1, .ref h5, .int 0, .ref h6, .ref h7, .ref h8, .int 0, .ref h9, .int 0, .null, .ref h4, .int 0, .ref h10, .ref h11, .ref h12, .ref h2, .ref h13])), (h1, .inr (4, [.int 2, .int 0, .int 1, .ref h3])), (h3, .inl (k 1, 36, .inr (.inl (tL [] 0)))), (h4, .inl (k 0, 8, .inl (tI [] 0))), (h2, .inl (k 1, 9, .inr (.inl (tL [1, 0, x0.toInt64, 1] 0))))] H := hP
  have hD : va_D A [(h0, .inr (7, [.ref h1, .ref h5, .int 0, .ref h6, .ref h7, .ref h8, .int 0, .ref h9, .int 0, .null, .ref h4, .int 0, .ref h10, .ref h11, .ref h12, .ref h2, .ref h13])), (h1, .inr (4, [.int 2, .int 0, .int 1, .ref h3])), (h3, .inl (k 1, 36, .inr (.inl (tL [] 0)))), (h4, .inl (k 0, 8, .inl (tI [] 0))), (h2, .inl (k 1, 9, .inr (.inl (tL [1, 0, x0.toInt64, 1] 0))))] := hD
  refine lv_aload_n hx hb dX10_addUnit_32 rfl (lv_at hl 0 rfl) ?_
  refine cI (rV (q0 := 0) (ci := 7) (As := []) (rest := []) (wc := [(h0, .inr (7, [.ref h1, .ref h5, .int 0, .ref h6, .ref h7, .ref h8, .int 0, .ref h9, .int 0, .null, .ref h4, .int 0, .ref h10, .ref h11, .ref h12, .ref h2, .ref h13])), (h1, .inr (4, [.int 2, .int 0, .int 1, .ref h3])), (h2, .inl (k 1, 9, .inr (.inl (tL [1, 0, x0.toInt64, 1] 0)))), (h3, .inl (k 1, 36, .inr (.inl (tL [] 0)))), (h4, .inl (k 0, 8, .inl (tI [] 0)))]) hx hb hml hown hU hK hP hD rfl rfl [0, 1, 4, 2, 3] rfl (by decide) (cX10_addSquare_4 l D k _ h0 h1 h2 h3 h4 h5 h6 h7 h8 h9 h10 h11 h12 h13 (x0.toInt64)) w340 w337 w339 w2 w63 hdX10_addSquare ⟨rfl, rfl⟩ ⟨Nat.le_of_ble_eq_true rfl, Nat.le_of_ble_eq_true rfl⟩ rfl hl.1 (Nat.le_of_ble_eq_true rfl) dX10_addUnit_33 ⟨Nat.le_of_ble_eq_true rfl, Nat.le_of_ble_eq_true rfl⟩) hP hD hS hA (wr := []) [0, 1, 4, 2, 3] [] rfl rfl (by decide) (by decide) (fun r2 H locs hB J hS => ?_)
  obtain ⟨rfl, hP1, hD1⟩ := hB
  obtain ⟨hP, hD⟩ := J _ hP1 hD1
  have hP : va_P D cl0 [(h2, .inl (k 1, 9, .inr (.inl (tL [1, 0, x0.toInt64, 1] 0)))), (h3, .inl (k 1, 36, .inr (.inl (tL [1, 0, x0.toInt64, 1, 0, 0, 0, 0, 0] 0)))), (h1, .inr (4, [.int 2, .int 1, .int 1, .ref h3])), (h0, .inr (7, [.ref h1, .ref h5, .int 0, .ref h6, .ref h7, .ref h8, .int 0, .ref h9, .int 0, .null, .ref h4, .int 0, .ref h10, .ref h11, .ref h12, .ref h2, .ref h13])), (h4, .inl (k 0, 8, .inl (tI [] 0)))] H := hP
  have hD : va_D A [(h2, .inl (k 1, 9, .inr (.inl (tL [1, 0, x0.toInt64, 1] 0)))), (h3, .inl (k 1, 36, .inr (.inl (tL [1, 0, x0.toInt64, 1, 0, 0, 0, 0, 0] 0)))), (h1, .inr (4, [.int 2, .int 1, .int 1, .ref h3])), (h0, .inr (7, [.ref h1, .ref h5, .int 0, .ref h6, .ref h7, .ref h8, .int 0, .ref h9, .int 0, .null, .ref h4, .int 0, .ref h10, .ref h11, .ref h12, .ref h2, .ref h13])), (h4, .inl (k 0, 8, .inl (tI [] 0)))] := hD
  exact retI (v := 0) hx hb hr hlocks hS (⟨rfl, hP, hD⟩) dX10_addUnit_36
abbrev BX10_addUnit_5 (D : va_G) (k : Nat → ClassId) (h0 h1 h2 h3 h4 h5 h6 h7 h8 h9 h10 h11 h12 h13 : Nat) (A : Nat → Prop) (r : Int32) (H : Heap) : Prop := 0 = r ∧ va_P D cl0 [(h2, .inl (k 1, 9, .inr (.inl (tL [1, 0, 0, 1] 0)))), (h3, .inl (k 1, 36, .inr (.inl (tL [1, 0, 0, 1, 0, 0, 0, 0, 0] 0)))), (h1, .inr (4, [.int 2, .int 1, .int 1, .ref h3])), (h0, .inr (7, [.ref h1, .ref h5, .int 0, .ref h6, .ref h7, .ref h8, .int 0, .ref h9, .int 0, .null, .ref h4, .int 0, .ref h10, .ref h11, .ref h12, .ref h2, .ref h13])), (h4, .inl (k 0, 8, .inl (tI [] 0)))] H ∧ va_D A [(h2, .inl (k 1, 9, .inr (.inl (tL [1, 0, 0, 1] 0)))), (h3, .inl (k 1, 36, .inr (.inl (tL [1, 0, 0, 1, 0, 0, 0, 0, 0] 0)))), (h1, .inr (4, [.int 2, .int 1, .int 1, .ref h3])), (h0, .inr (7, [.ref h1, .ref h5, .int 0, .ref h6, .ref h7, .ref h8, .int 0, .ref h9, .int 0, .null, .ref h4, .int 0, .ref h10, .ref h11, .ref h12, .ref h2, .ref h13])), (h4, .inl (k 0, 8, .inl (tI [] 0)))]
set_option maxHeartbeats 4000000 in
set_option maxRecDepth 100000 in
theorem cX10_addUnit_5 (l : Launch) (D : va_G) (k : Nat → ClassId) (sz : Nat) (h0 h1 h2 h3 h4 h5 h6 h7 h8 h9 h10 h11 h12 h13 : Nat) : Met l yX10_addUnit (Cond.code yX10_addUnit cX10_addUnit 4 (some .int) :: uw) ({ frames := 3, cells := 0, slots := 0, locals := 68 }) (pC D k sz [.ref h0, .int 1, .int 1, .int 1] [(h0, .inr (7, [.ref h1, .ref h5, .int 0, .ref h6, .ref h7, .ref h8, .int 0, .ref h9, .int 0, .null, .ref h4, .int 0, .ref h10, .ref h11, .ref h12, .ref h2, .ref h13])), (h1, .inr (4, [.int 2, .int 0, .int 1, .ref h3])), (h2, .inl (k 1, 9, .inr (.inl (tL [] 0)))), (h3, .inl (k 1, 36, .inr (.inl (tL [] 0)))), (h4, .inl (k 0, 8, .inl (tI [] 0)))]) (qI (BX10_addUnit_5 D k h0 h1 h2 h3 h4 h5 h6 h7 h8 h9 h10 h11 h12 h13 (va_A [(h0, .inr (7, [.ref h1, .ref h5, .int 0, .ref h6, .ref h7, .ref h8, .int 0, .ref h9, .int 0, .null, .ref h4, .int 0, .ref h10, .ref h11, .ref h12, .ref h2, .ref h13])), (h1, .inr (4, [.int 2, .int 0, .int 1, .ref h3])), (h2, .inl (k 1, 9, .inr (.inl (tL [] 0)))), (h3, .inl (k 1, 36, .inr (.inl (tL [] 0)))), (h4, .inl (k 0, 8, .inl (tI [] 0)))] sz)) (va_A [(h0, .inr (7, [.ref h1, .ref h5, .int 0, .ref h6, .ref h7, .ref h8, .int 0, .ref h9, .int 0, .null, .ref h4, .int 0, .ref h10, .ref h11, .ref h12, .ref h2, .ref h13])), (h1, .inr (4, [.int 2, .int 0, .int 1, .ref h3])), (h2, .inl (k 1, 9, .inr (.inl (tL [] 0)))), (h3, .inl (k 1, 36, .inr (.inl (tL [] 0)))), (h4, .inl (k 0, 8, .inl (tI [] 0)))] sz)) 0 0 (va_A [(h0, .inr (7, [.ref h1, .ref h5, .int 0, .ref h6, .ref h7, .ref h8, .int 0, .ref h9, .int 0, .null, .ref h4, .int 0, .ref h10, .ref h11, .ref h12, .ref h2, .ref h13])), (h1, .inr (4, [.int 2, .int 0, .int 1, .ref h3])), (h2, .inl (k 1, 9, .inr (.inl (tL [] 0)))), (h3, .inl (k 1, 36, .inr (.inl (tL [] 0)))), (h4, .inl (k 0, 8, .inl (tI [] 0)))] sz) := by
  refine begin_ (Qc := fun A => qI (BX10_addUnit_5 D k h0 h1 h2 h3 h4 h5 h6 h7 h8 h9 h10 h11 h12 h13 A) A) (by decide) (Nat.le_of_ble_eq_true rfl) ?_
  intro p e s m below meth c ls A hx hb hr hml hown hlocks hin hU hK hsz hP hD hS hA hl
  have hl : lv_has ls 4 [(0, .ref h0), (1, .int 1), (2, .int 1), (3, .int 1)] := hl
  clear hsz
  refine lv_aload_n hx hb dX10_addUnit_0 rfl (lv_at hl 0 rfl) ?_
  refine va_get (D := D) (ci := 7) (v := .ref h2) (C := RX10) (T := TX10) (N := 17) hx hb hU iX10 hown hK.1 hP 0 rfl rfl 15 (by decide) (hU _ w264) (fun _ h9 => h9) rfl dX10_addUnit_1 ?_
  refine lv_aload_n hx hb dX10_addUnit_4 rfl (lv_at hl 0 rfl) ?_
  refine va_get (D := D) (ci := 7) (v := .ref h1) (C := RX10) (T := TX10) (N := 17) hx hb hU iX10 hown hK.1 hP 0 rfl rfl 0 (by decide) (hU _ w249) (fun _ h9 => h9) rfl dX10_addUnit_5 ?_
  refine va_get (D := D) (ci := 4) (v := .int 2) (C := RX5) (T := TX5) (N := 4) hx hb hU iX5 hown hK.1 hP 1 rfl rfl 0 (by decide) (hU _ w93) (fun _ h9 => h9) rfl dX10_addUnit_8 ?_
  refine cV (rS (As := [.ref h2, .int 2]) (rest := []) (wc := [(h2, .inl (k 1, 9, .inr (.inl (tL [] 0))))]) hx hb hml hown hU hK hP hD [2] rfl (by decide) (cX7_becomeOne_1 l D k _ h2) w333 w331 w332 w74 hdX7_becomeOne ⟨rfl, rfl⟩ ⟨Nat.le_of_ble_eq_true rfl, Nat.le_of_ble_eq_true rfl⟩ rfl hl.1 (Nat.le_of_ble_eq_true rfl) dX10_addUnit_11 ⟨Nat.le_of_ble_eq_true rfl, Nat.le_of_ble_eq_true rfl⟩) hP hD hS hA (wr := [(h0, .inr (7, [.ref h1, .ref h5, .int 0, .ref h6, .ref h7, .ref h8, .int 0, .ref h9, .int 0, .null, .ref h4, .int 0, .ref h10, .ref h11, .ref h12, .ref h2, .ref h13])), (h1, .inr (4, [.int 2, .int 0, .int 1, .ref h3])), (h3, .inl (k 1, 36, .inr (.inl (tL [] 0)))), (h4, .inl (k 0, 8, .inl (tI [] 0)))]) [2] [0, 1, 3, 4] rfl rfl (by decide) (by decide) (fun H locs hB J hS => ?_)
  obtain ⟨hP1, hD1⟩ := hB
  obtain ⟨hP, hD⟩ := J _ hP1 hD1
  have hP : va_P D cl0 [(h0, .inr (7, [.ref h1, .ref h5, .int 0, .ref h6, .ref h7, .ref h8, .int 0, .ref h9, .int 0, .null, .ref h4, .int 0, .ref h10, .ref h11, .ref h12, .ref h2, .ref h13])), (h1, .inr (4, [.int 2, .int 0, .int 1, .ref h3])), (h3, .inl (k 1, 36, .inr (.inl (tL [] 0)))), (h4, .inl (k 0, 8, .inl (tI [] 0))), (h2, .inl (k 1, 9, .inr (.inl (tL [1, 0, 0, 1] 0))))] H := hP
  have hD : va_D A [(h0, .inr (7, [.ref h1, .ref h5, .int 0, .ref h6, .ref h7, .ref h8, .int 0, .ref h9, .int 0, .null, .ref h4, .int 0, .ref h10, .ref h11, .ref h12, .ref h2, .ref h13])), (h1, .inr (4, [.int 2, .int 0, .int 1, .ref h3])), (h3, .inl (k 1, 36, .inr (.inl (tL [] 0)))), (h4, .inl (k 0, 8, .inl (tI [] 0))), (h2, .inl (k 1, 9, .inr (.inl (tL [1, 0, 0, 1] 0))))] := hD
  refine lv_aload_n hx hb dX10_addUnit_14 rfl (lv_at hl 0 rfl) ?_
  refine va_get (D := D) (ci := 7) (v := .ref h2) (C := RX10) (T := TX10) (N := 17) hx hb hU iX10 hown hK.1 hP 0 rfl rfl 15 (by decide) (hU _ w264) (fun _ h9 => h9) rfl dX10_addUnit_15 ?_
  refine lv_iload_n hx hb dX10_addUnit_18 rfl (lv_at hl 1 rfl) ?_
  refine lv_aload_n hx hb dX10_addUnit_19 rfl (lv_at hl 0 rfl) ?_
  refine va_get (D := D) (ci := 7) (v := .ref h1) (C := RX10) (T := TX10) (N := 17) hx hb hU iX10 hown hK.1 hP 0 rfl rfl 0 (by decide) (hU _ w249) (fun _ h9 => h9) rfl dX10_addUnit_20 ?_
  refine va_get (D := D) (ci := 4) (v := .int 2) (C := RX5) (T := TX5) (N := 4) hx hb hU iX5 hown hK.1 hP 1 rfl rfl 0 (by decide) (hU _ w93) (fun _ h9 => h9) rfl dX10_addUnit_23 ?_
  refine lv_imul hx hb dX10_addUnit_26 (sv_i (v := 2) (by decide +kernel) ?_)
  refine lv_iload_n hx hb dX10_addUnit_27 rfl (lv_at hl 2 rfl) ?_
  refine lv_iadd hx hb dX10_addUnit_28 (sv_i (v := 3) (by decide +kernel) ?_)
  refine lv_iload_n hx hb dX10_addUnit_29 rfl (lv_at hl 3 rfl) ?_
  refine lv_i2l (v := 1) hx hb dX10_addUnit_30 (by decide +kernel) ?_
  refine st_l (j := 3) (g := tL [1, 0, 0, 1] 0) hx hb hK hP hD hS 4 rfl (by decide +kernel) upd_tL dX10_addUnit_31 (fun H locs hP hD hS => ?_)
  have hP : va_P D cl0 [(h0, .inr (7, [.ref h1, .ref h5, .int 0, .ref h6, .ref h7, .ref h8, .int 0, .ref h9, .int 0, .null, .ref h4, .int 0, .ref h10, .ref h11, .ref h12, .ref h2, .ref h13])), (h1, .inr (4, [.int 2, .int 0, .int 1, .ref h3])), (h3, .inl (k 1, 36, .inr (.inl (tL [] 0)))), (h4, .inl (k 0, 8, .inl (tI [] 0))), (h2, .inl (k 1, 9, .inr (.inl (tL [1, 0, 0, 1] 0))))] H := hP
  have hD : va_D A [(h0, .inr (7, [.ref h1, .ref h5, .int 0, .ref h6, .ref h7, .ref h8, .int 0, .ref h9, .int 0, .null, .ref h4, .int 0, .ref h10, .ref h11, .ref h12, .ref h2, .ref h13])), (h1, .inr (4, [.int 2, .int 0, .int 1, .ref h3])), (h3, .inl (k 1, 36, .inr (.inl (tL [] 0)))), (h4, .inl (k 0, 8, .inl (tI [] 0))), (h2, .inl (k 1, 9, .inr (.inl (tL [1, 0, 0, 1] 0))))] := hD
  refine lv_aload_n hx hb dX10_addUnit_32 rfl (lv_at hl 0 rfl) ?_
  refine cI (rV (q0 := 0) (ci := 7) (As := []) (rest := []) (wc := [(h0, .inr (7, [.ref h1, .ref h5, .int 0, .ref h6, .ref h7, .ref h8, .int 0, .ref h9, .int 0, .null, .ref h4, .int 0, .ref h10, .ref h11, .ref h12, .ref h2, .ref h13])), (h1, .inr (4, [.int 2, .int 0, .int 1, .ref h3])), (h2, .inl (k 1, 9, .inr (.inl (tL [1, 0, 0, 1] 0)))), (h3, .inl (k 1, 36, .inr (.inl (tL [] 0)))), (h4, .inl (k 0, 8, .inl (tI [] 0)))]) hx hb hml hown hU hK hP hD rfl rfl [0, 1, 4, 2, 3] rfl (by decide) (cX10_addSquare_1 l D k _ h0 h1 h2 h3 h4 h5 h6 h7 h8 h9 h10 h11 h12 h13) w340 w337 w339 w2 w63 hdX10_addSquare ⟨rfl, rfl⟩ ⟨Nat.le_of_ble_eq_true rfl, Nat.le_of_ble_eq_true rfl⟩ rfl hl.1 (Nat.le_of_ble_eq_true rfl) dX10_addUnit_33 ⟨Nat.le_of_ble_eq_true rfl, Nat.le_of_ble_eq_true rfl⟩) hP hD hS hA (wr := []) [0, 1, 4, 2, 3] [] rfl rfl (by decide) (by decide) (fun r2 H locs hB J hS => ?_)
  obtain ⟨rfl, hP1, hD1⟩ := hB
  obtain ⟨hP, hD⟩ := J _ hP1 hD1
  have hP : va_P D cl0 [(h2, .inl (k 1, 9, .inr (.inl (tL [1, 0, 0, 1] 0)))), (h3, .inl (k 1, 36, .inr (.inl (tL [1, 0, 0, 1, 0, 0, 0, 0, 0] 0)))), (h1, .inr (4, [.int 2, .int 1, .int 1, .ref h3])), (h0, .inr (7, [.ref h1, .ref h5, .int 0, .ref h6, .ref h7, .ref h8, .int 0, .ref h9, .int 0, .null, .ref h4, .int 0, .ref h10, .ref h11, .ref h12, .ref h2, .ref h13])), (h4, .inl (k 0, 8, .inl (tI [] 0)))] H := hP
  have hD : va_D A [(h2, .inl (k 1, 9, .inr (.inl (tL [1, 0, 0, 1] 0)))), (h3, .inl (k 1, 36, .inr (.inl (tL [1, 0, 0, 1, 0, 0, 0, 0, 0] 0)))), (h1, .inr (4, [.int 2, .int 1, .int 1, .ref h3])), (h0, .inr (7, [.ref h1, .ref h5, .int 0, .ref h6, .ref h7, .ref h8, .int 0, .ref h9, .int 0, .null, .ref h4, .int 0, .ref h10, .ref h11, .ref h12, .ref h2, .ref h13])), (h4, .inl (k 0, 8, .inl (tI [] 0)))] := hD
  exact retI (v := 0) hx hb hr hlocks hS (⟨rfl, hP, hD⟩) dX10_addUnit_36
abbrev BX5_append_5 (D : va_G) (k : Nat → ClassId) (h0 h1 h2 : Nat) (A : Nat → Prop) (r : Int32) (H : Heap) : Prop := 0 = r ∧ va_P D cl0 [(h1, .inl (k 1, 9, .inr (.inl (tL [1, 0, 0, (-1)] 0)))), (h2, .inl (k 1, 36, .inr (.inl (tL [1, 0, 0, (-1), 0, 0, 0, 0, 0] 0)))), (h0, .inr (4, [.int 2, .int 1, .int 1, .ref h2]))] H ∧ va_D A [(h1, .inl (k 1, 9, .inr (.inl (tL [1, 0, 0, (-1)] 0)))), (h2, .inl (k 1, 36, .inr (.inl (tL [1, 0, 0, (-1), 0, 0, 0, 0, 0] 0)))), (h0, .inr (4, [.int 2, .int 1, .int 1, .ref h2]))]
set_option maxHeartbeats 4000000 in
set_option maxRecDepth 100000 in
theorem cX5_append_5 (l : Launch) (D : va_G) (k : Nat → ClassId) (sz : Nat) (h0 h1 h2 : Nat) : Met l yX5_append (Cond.code yX5_append cX5_append 2 (some .int) :: uw) ({ frames := 1, cells := 0, slots := 0, locals := 26 }) (pC D k sz [.ref h0, .ref h1] [(h0, .inr (4, [.int 2, .int 0, .int 1, .ref h2])), (h1, .inl (k 1, 9, .inr (.inl (tL [1, 0, 0, (-1)] 0)))), (h2, .inl (k 1, 36, .inr (.inl (tL [] 0))))]) (qI (BX5_append_5 D k h0 h1 h2 (va_A [(h0, .inr (4, [.int 2, .int 0, .int 1, .ref h2])), (h1, .inl (k 1, 9, .inr (.inl (tL [1, 0, 0, (-1)] 0)))), (h2, .inl (k 1, 36, .inr (.inl (tL [] 0))))] sz)) (va_A [(h0, .inr (4, [.int 2, .int 0, .int 1, .ref h2])), (h1, .inl (k 1, 9, .inr (.inl (tL [1, 0, 0, (-1)] 0)))), (h2, .inl (k 1, 36, .inr (.inl (tL [] 0))))] sz)) 0 0 (va_A [(h0, .inr (4, [.int 2, .int 0, .int 1, .ref h2])), (h1, .inl (k 1, 9, .inr (.inl (tL [1, 0, 0, (-1)] 0)))), (h2, .inl (k 1, 36, .inr (.inl (tL [] 0))))] sz) := by
  refine begin_ (Qc := fun A => qI (BX5_append_5 D k h0 h1 h2 A) A) (by decide) (Nat.le_of_ble_eq_true rfl) ?_
  intro p e s m below meth c ls A hx hb hr hml hown hlocks hin hU hK hsz hP hD hS hA hl
  have hl : lv_has ls 2 [(0, .ref h0), (1, .ref h1)] := hl
  clear hsz
  refine lv_aload_n hx hb dX5_append_0 rfl (lv_at hl 0 rfl) ?_
  refine cI (rV (q0 := 0) (ci := 4) (As := []) (rest := []) (wc := [(h0, .inr (4, [.int 2, .int 0, .int 1, .ref h2]))]) hx hb hml hown hU hK hP hD rfl rfl [0] rfl (by decide) (cX5_isFull_1 l D k _ h0 h2) w326 w345 w324 w325 w64 hdX5_isFull ⟨rfl, rfl⟩ ⟨Nat.le_of_ble_eq_true rfl, Nat.le_of_ble_eq_true rfl⟩ rfl hl.1 (Nat.le_of_ble_eq_true rfl) dX5_append_1 ⟨Nat.le_of_ble_eq_true rfl, Nat.le_of_ble_eq_true rfl⟩) hP hD hS hA (wr := [(h1, .inl (k 1, 9, .inr (.inl (tL [1, 0, 0, (-1)] 0)))), (h2, .inl (k 1, 36, .inr (.inl (tL [] 0))))]) [0] [1, 2] rfl rfl (by decide) (by decide) (fun r1 H locs hB J hS => ?_)
  obtain ⟨rfl, hP1, hD1⟩ := hB
  obtain ⟨hP, hD⟩ := J _ hP1 hD1
  have hP : va_P D cl0 [(h1, .inl (k 1, 9, .inr (.inl (tL [1, 0, 0, (-1)] 0)))), (h2, .inl (k 1, 36, .inr (.inl (tL [] 0)))), (h0, .inr (4, [.int 2, .int 0, .int 1, .ref h2]))] H := hP
  have hD : va_D A [(h1, .inl (k 1, 9, .inr (.inl (tL [1, 0, 0, (-1)] 0)))), (h2, .inl (k 1, 36, .inr (.inl (tL [] 0)))), (h0, .inr (4, [.int 2, .int 0, .int 1, .ref h2]))] := hD
  refine lv_if_eq (tgt := 10) hx hb dX5_append_4 (by decide) (fun _ => ?_) (fun cc => absurd (by decide +kernel) cc)
  refine lv_aload_n hx hb dX5_append_10 rfl (lv_at hl 1 rfl) ?_
  refine lv_iconst (v := 0) hx hb dX5_append_11 (by decide) ?_
  refine lv_aload_n hx hb dX5_append_12 rfl (lv_at hl 0 rfl) ?_
  refine va_get (D := D) (ci := 4) (v := .ref h2) (C := RX5) (T := TX5) (N := 4) hx hb hU iX5 hown hK.1 hP 2 rfl rfl 3 (by decide) (hU _ w100) (fun _ h9 => h9) rfl dX5_append_13 ?_
  refine lv_aload_n hx hb dX5_append_16 rfl (lv_at hl 0 rfl) ?_
  refine va_get (D := D) (ci := 4) (v := .int 0) (C := RX5) (T := TX5) (N := 4) hx hb hU iX5 hown hK.1 hP 2 rfl rfl 1 (by decide) (hU _ w96) (fun _ h9 => h9) rfl dX5_append_17 ?_
  refine lv_bipush (v := 9) hx hb dX5_append_20 (by decide) ?_
  refine lv_imul hx hb dX5_append_22 (sv_i (v := 0) (by decide +kernel) ?_)
  refine lv_bipush (v := 9) hx hb dX5_append_23 (by decide) ?_
  refine cp_l (g' := tL [1, 0, 0, (-1), 0, 0, 0, 0, 0] 0) hx hb hml hl.1 hown hU w346 w348 w347 w75 hK hP hD hS 0 1 rfl rfl 0 0 9 (by decide +kernel) cpy_tL (Nat.le_of_ble_eq_true rfl) (Nat.le_of_ble_eq_true rfl) dX5_append_25 (fun H locs hP hD hS => ?_)
  have hP : va_P D cl0 [(h1, .inl (k 1, 9, .inr (.inl (tL [1, 0, 0, (-1)] 0)))), (h2, .inl (k 1, 36, .inr (.inl (tL [1, 0, 0, (-1), 0, 0, 0, 0, 0] 0)))), (h0, .inr (4, [.int 2, .int 0, .int 1, .ref h2]))] H := hP
  have hD : va_D A [(h1, .inl (k 1, 9, .inr (.inl (tL [1, 0, 0, (-1)] 0)))), (h2, .inl (k 1, 36, .inr (.inl (tL [1, 0, 0, (-1), 0, 0, 0, 0, 0] 0)))), (h0, .inr (4, [.int 2, .int 0, .int 1, .ref h2]))] := hD
  refine lv_aload_n hx hb dX5_append_28 rfl (lv_at hl 0 rfl) ?_
  refine lv_dup hx hb dX5_append_29 rfl ?_
  refine va_get (D := D) (ci := 4) (v := .int 0) (C := RX5) (T := TX5) (N := 4) hx hb hU iX5 hown hK.1 hP 2 rfl rfl 1 (by decide) (hU _ w96) (fun _ h9 => h9) rfl dX5_append_30 ?_
  refine lv_iconst (v := 1) hx hb dX5_append_33 (by decide) ?_
  refine lv_iadd hx hb dX5_append_34 (sv_i (v := 1) (by decide +kernel) ?_)
  refine va_put (D := D) (ci := 4) (v := .int 1) (ty := .int) (C := RX5) (T := TX5) (N := 4) hx hb hU iX5 tyX5 tyX5_ok nmX5 hown hK.1 hP hD hS 2 rfl rfl 1 (by decide) (hU _ w96) (fun _ h9 => h9) rfl (by decide +kernel) rfl rfl (Nat.le_of_ble_eq_true rfl) dX5_append_35 (fun H locs hP hD hS => ?_)
  have hP : va_P D cl0 [(h1, .inl (k 1, 9, .inr (.inl (tL [1, 0, 0, (-1)] 0)))), (h2, .inl (k 1, 36, .inr (.inl (tL [1, 0, 0, (-1), 0, 0, 0, 0, 0] 0)))), (h0, .inr (4, [.int 2, .int 1, .int 1, .ref h2]))] H := hP
  have hD : va_D A [(h1, .inl (k 1, 9, .inr (.inl (tL [1, 0, 0, (-1)] 0)))), (h2, .inl (k 1, 36, .inr (.inl (tL [1, 0, 0, (-1), 0, 0, 0, 0, 0] 0)))), (h0, .inr (4, [.int 2, .int 1, .int 1, .ref h2]))] := hD
  refine lv_aload_n hx hb dX5_append_38 rfl (lv_at hl 0 rfl) ?_
  refine va_get (D := D) (ci := 4) (v := .int 1) (C := RX5) (T := TX5) (N := 4) hx hb hU iX5 hown hK.1 hP 2 rfl rfl 1 (by decide) (hU _ w96) (fun _ h9 => h9) rfl dX5_append_39 ?_
  refine lv_iconst (v := 1) hx hb dX5_append_42 (by decide) ?_
  refine lv_isub hx hb dX5_append_43 (sv_i (v := 0) (by decide +kernel) ?_)
  exact retI (v := 0) hx hb hr hlocks hS (⟨rfl, hP, hD⟩) dX5_append_44
abbrev BX10_addSquare_5 (D : va_G) (k : Nat → ClassId) (h0 h1 h2 h3 h4 h5 h6 h7 h8 h9 h10 h11 h12 h13 : Nat) (A : Nat → Prop) (r : Int32) (H : Heap) : Prop := 0 = r ∧ va_P D cl0 [(h2, .inl (k 1, 9, .inr (.inl (tL [1, 0, 0, (-1)] 0)))), (h3, .inl (k 1, 36, .inr (.inl (tL [1, 0, 0, (-1), 0, 0, 0, 0, 0] 0)))), (h1, .inr (4, [.int 2, .int 1, .int 1, .ref h3])), (h0, .inr (7, [.ref h1, .ref h5, .int 0, .ref h6, .ref h7, .ref h8, .int 0, .ref h9, .int 0, .null, .ref h4, .int 0, .ref h10, .ref h11, .ref h12, .ref h2, .ref h13])), (h4, .inl (k 0, 8, .inl (tI [] 0)))] H ∧ va_D A [(h2, .inl (k 1, 9, .inr (.inl (tL [1, 0, 0, (-1)] 0)))), (h3, .inl (k 1, 36, .inr (.inl (tL [1, 0, 0, (-1), 0, 0, 0, 0, 0] 0)))), (h1, .inr (4, [.int 2, .int 1, .int 1, .ref h3])), (h0, .inr (7, [.ref h1, .ref h5, .int 0, .ref h6, .ref h7, .ref h8, .int 0, .ref h9, .int 0, .null, .ref h4, .int 0, .ref h10, .ref h11, .ref h12, .ref h2, .ref h13])), (h4, .inl (k 0, 8, .inl (tI [] 0)))]
set_option maxHeartbeats 4000000 in
set_option maxRecDepth 100000 in
theorem cX10_addSquare_5 (l : Launch) (D : va_G) (k : Nat → ClassId) (sz : Nat) (h0 h1 h2 h3 h4 h5 h6 h7 h8 h9 h10 h11 h12 h13 : Nat) : Met l yX10_addSquare (Cond.code yX10_addSquare cX10_addSquare 2 (some .int) :: uw) ({ frames := 2, cells := 0, slots := 0, locals := 47 }) (pC D k sz [.ref h0] [(h0, .inr (7, [.ref h1, .ref h5, .int 0, .ref h6, .ref h7, .ref h8, .int 0, .ref h9, .int 0, .null, .ref h4, .int 0, .ref h10, .ref h11, .ref h12, .ref h2, .ref h13])), (h1, .inr (4, [.int 2, .int 0, .int 1, .ref h3])), (h2, .inl (k 1, 9, .inr (.inl (tL [1, 0, 0, (-1)] 0)))), (h3, .inl (k 1, 36, .inr (.inl (tL [] 0)))), (h4, .inl (k 0, 8, .inl (tI [] 0)))]) (qI (BX10_addSquare_5 D k h0 h1 h2 h3 h4 h5 h6 h7 h8 h9 h10 h11 h12 h13 (va_A [(h0, .inr (7, [.ref h1, .ref h5, .int 0, .ref h6, .ref h7, .ref h8, .int 0, .ref h9, .int 0, .null, .ref h4, .int 0, .ref h10, .ref h11, .ref h12, .ref h2, .ref h13])), (h1, .inr (4, [.int 2, .int 0, .int 1, .ref h3])), (h2, .inl (k 1, 9, .inr (.inl (tL [1, 0, 0, (-1)] 0)))), (h3, .inl (k 1, 36, .inr (.inl (tL [] 0)))), (h4, .inl (k 0, 8, .inl (tI [] 0)))] sz)) (va_A [(h0, .inr (7, [.ref h1, .ref h5, .int 0, .ref h6, .ref h7, .ref h8, .int 0, .ref h9, .int 0, .null, .ref h4, .int 0, .ref h10, .ref h11, .ref h12, .ref h2, .ref h13])), (h1, .inr (4, [.int 2, .int 0, .int 1, .ref h3])), (h2, .inl (k 1, 9, .inr (.inl (tL [1, 0, 0, (-1)] 0)))), (h3, .inl (k 1, 36, .inr (.inl (tL [] 0)))), (h4, .inl (k 0, 8, .inl (tI [] 0)))] sz)) 0 0 (va_A [(h0, .inr (7, [.ref h1, .ref h5, .int 0, .ref h6, .ref h7, .ref h8, .int 0, .ref h9, .int 0, .null, .ref h4, .int 0, .ref h10, .ref h11, .ref h12, .ref h2, .ref h13])), (h1, .inr (4, [.int 2, .int 0, .int 1, .ref h3])), (h2, .inl (k 1, 9, .inr (.inl (tL [1, 0, 0, (-1)] 0)))), (h3, .inl (k 1, 36, .inr (.inl (tL [] 0)))), (h4, .inl (k 0, 8, .inl (tI [] 0)))] sz) := by
  refine begin_ (Qc := fun A => qI (BX10_addSquare_5 D k h0 h1 h2 h3 h4 h5 h6 h7 h8 h9 h10 h11 h12 h13 A) A) (by decide) (Nat.le_of_ble_eq_true rfl) ?_
  intro p e s m below meth c ls A hx hb hr hml hown hlocks hin hU hK hsz hP hD hS hA hl
  have hl : lv_has ls 2 [(0, .ref h0)] := hl
  clear hsz
  refine lv_aload_n hx hb dX10_addSquare_0 rfl (lv_at hl 0 rfl) ?_
  refine va_get (D := D) (ci := 7) (v := .ref h1) (C := RX10) (T := TX10) (N := 17) hx hb hU iX10 hown hK.1 hP 0 rfl rfl 0 (by decide) (hU _ w249) (fun _ h9 => h9) rfl dX10_addSquare_1 ?_
  refine lv_aload_n hx hb dX10_addSquare_4 rfl (lv_at hl 0 rfl) ?_
  refine va_get (D := D) (ci := 7) (v := .ref h2) (C := RX10) (T := TX10) (N := 17) hx hb hU iX10 hown hK.1 hP 0 rfl rfl 15 (by decide) (hU _ w264) (fun _ h9 => h9) rfl dX10_addSquare_5 ?_
  refine cI (rV (q0 := 1) (ci := 4) (As := [.ref h2]) (rest := []) (wc := [(h1, .inr (4, [.int 2, .int 0, .int 1, .ref h3])), (h2, .inl (k 1, 9, .inr (.inl (tL [1, 0, 0, (-1)] 0)))), (h3, .inl (k 1, 36, .inr (.inl (tL [] 0))))]) hx hb hml hown hU hK hP hD rfl rfl [1, 2, 3] rfl (by decide) (cX5_append_5 l D k _ h1 h2 h3) w344 w341 w342 w343 w64 hdX5_append ⟨rfl, rfl⟩ ⟨Nat.le_of_ble_eq_true rfl, Nat.le_of_ble_eq_true rfl⟩ rfl hl.1 (Nat.le_of_ble_eq_true rfl) dX10_addSquare_8 ⟨Nat.le_of_ble_eq_true rfl, Nat.le_of_ble_eq_true rfl⟩) hP hD hS hA (wr := [(h0, .inr (7, [.ref h1, .ref h5, .int 0, .ref h6, .ref h7, .ref h8, .int 0, .ref h9, .int 0, .null, .ref h4, .int 0, .ref h10, .ref h11, .ref h12, .ref h2, .ref h13])), (h4, .inl (k 0, 8, .inl (tI [] 0)))]) [1, 2, 3] [0, 4] rfl rfl (by decide) (by decide) (fun r1 H locs hB J hS => ?_)
  obtain ⟨rfl, hP1, hD1⟩ := hB
  obtain ⟨hP, hD⟩ := J _ hP1 hD1
  have hP : va_P D cl0 [(h0, .inr (7, [.ref h1, .ref h5, .int 0, .ref h6, .ref h7, .ref h8, .int 0, .ref h9, .int 0, .null, .ref h4, .int 0, .ref h10, .ref h11, .ref h12, .ref h2, .ref h13])), (h4, .inl (k 0, 8, .inl (tI [] 0))), (h2, .inl (k 1, 9, .inr (.inl (tL [1, 0, 0, (-1)] 0)))), (h3, .inl (k 1, 36, .inr (.inl (tL [1, 0, 0, (-1), 0, 0, 0, 0, 0] 0)))), (h1, .inr (4, [.int 2, .int 1, .int 1, .ref h3]))] H := hP
  have hD : va_D A [(h0, .inr (7, [.ref h1, .ref h5, .int 0, .ref h6, .ref h7, .ref h8, .int 0, .ref h9, .int 0, .null, .ref h4, .int 0, .ref h10, .ref h11, .ref h12, .ref h2, .ref h13])), (h4, .inl (k 0, 8, .inl (tI [] 0))), (h2, .inl (k 1, 9, .inr (.inl (tL [1, 0, 0, (-1)] 0)))), (h3, .inl (k 1, 36, .inr (.inl (tL [1, 0, 0, (-1), 0, 0, 0, 0, 0] 0)))), (h1, .inr (4, [.int 2, .int 1, .int 1, .ref h3]))] := hD
  refine lv_istore_n (lv' := [(1, .int 0), (0, .ref h0)]) hx hb dX10_addSquare_11 rfl hl (by decide) rfl (fun ls hl => ?_)
  refine lv_aload_n hx hb dX10_addSquare_12 rfl (lv_at hl 1 rfl) ?_
  refine cV (rV (q0 := 0) (ci := 7) (As := []) (rest := []) (wc := [(h0, .inr (7, [.ref h1, .ref h5, .int 0, .ref h6, .ref h7, .ref h8, .int 0, .ref h9, .int 0, .null, .ref h4, .int 0, .ref h10, .ref h11, .ref h12, .ref h2, .ref h13])), (h4, .inl (k 0, 8, .inl (tI [] 0)))]) hx hb hml hown hU hK hP hD rfl rfl [0, 1] rfl (by decide) (cX10_forgetWhatCame_1 l D k _ h0 h4 h1 h5 h6 h7 h8 h9 h10 h11 h12 h2 h13) w308 w305 w307 w0 w63 hdX10_forgetWhatCame ⟨rfl, rfl⟩ ⟨Nat.le_of_ble_eq_true rfl, Nat.le_of_ble_eq_true rfl⟩ rfl hl.1 (Nat.le_of_ble_eq_true rfl) dX10_addSquare_13 ⟨Nat.le_of_ble_eq_true rfl, Nat.le_of_ble_eq_true rfl⟩) hP hD hS hA (wr := [(h2, .inl (k 1, 9, .inr (.inl (tL [1, 0, 0, (-1)] 0)))), (h3, .inl (k 1, 36, .inr (.inl (tL [1, 0, 0, (-1), 0, 0, 0, 0, 0] 0)))), (h1, .inr (4, [.int 2, .int 1, .int 1, .ref h3]))]) [0, 1] [2, 3, 4] rfl rfl (by decide) (by decide) (fun H locs hB J hS => ?_)
  obtain ⟨hP1, hD1⟩ := hB
  obtain ⟨hP, hD⟩ := J _ hP1 hD1
  have hP : va_P D cl0 [(h2, .inl (k 1, 9, .inr (.inl (tL [1, 0, 0, (-1)] 0)))), (h3, .inl (k 1, 36, .inr (.inl (tL [1, 0, 0, (-1), 0, 0, 0, 0, 0] 0)))), (h1, .inr (4, [.int 2, .int 1, .int 1, .ref h3])), (h0, .inr (7, [.ref h1, .ref h5, .int 0, .ref h6, .ref h7, .ref h8, .int 0, .ref h9, .int 0, .null, .ref h4, .int 0, .ref h10, .ref h11, .ref h12, .ref h2, .ref h13])), (h4, .inl (k 0, 8, .inl (tI [] 0)))] H := hP
  have hD : va_D A [(h2, .inl (k 1, 9, .inr (.inl (tL [1, 0, 0, (-1)] 0)))), (h3, .inl (k 1, 36, .inr (.inl (tL [1, 0, 0, (-1), 0, 0, 0, 0, 0] 0)))), (h1, .inr (4, [.int 2, .int 1, .int 1, .ref h3])), (h0, .inr (7, [.ref h1, .ref h5, .int 0, .ref h6, .ref h7, .ref h8, .int 0, .ref h9, .int 0, .null, .ref h4, .int 0, .ref h10, .ref h11, .ref h12, .ref h2, .ref h13])), (h4, .inl (k 0, 8, .inl (tI [] 0)))] := hD
  refine lv_iload_n hx hb dX10_addSquare_16 rfl (lv_at hl 0 rfl) ?_
  exact retI (v := 0) hx hb hr hlocks hS (⟨rfl, hP, hD⟩) dX10_addSquare_17
abbrev BX10_addUnit_6 (D : va_G) (k : Nat → ClassId) (h0 h1 h2 h3 h4 h5 h6 h7 h8 h9 h10 h11 h12 h13 : Nat) (A : Nat → Prop) (r : Int32) (H : Heap) : Prop := 0 = r ∧ va_P D cl0 [(h2, .inl (k 1, 9, .inr (.inl (tL [1, 0, 0, (-1)] 0)))), (h3, .inl (k 1, 36, .inr (.inl (tL [1, 0, 0, (-1), 0, 0, 0, 0, 0] 0)))), (h1, .inr (4, [.int 2, .int 1, .int 1, .ref h3])), (h0, .inr (7, [.ref h1, .ref h5, .int 0, .ref h6, .ref h7, .ref h8, .int 0, .ref h9, .int 0, .null, .ref h4, .int 0, .ref h10, .ref h11, .ref h12, .ref h2, .ref h13])), (h4, .inl (k 0, 8, .inl (tI [] 0)))] H ∧ va_D A [(h2, .inl (k 1, 9, .inr (.inl (tL [1, 0, 0, (-1)] 0)))), (h3, .inl (k 1, 36, .inr (.inl (tL [1, 0, 0, (-1), 0, 0, 0, 0, 0] 0)))), (h1, .inr (4, [.int 2, .int 1, .int 1, .ref h3])), (h0, .inr (7, [.ref h1, .ref h5, .int 0, .ref h6, .ref h7, .ref h8, .int 0, .ref h9, .int 0, .null, .ref h4, .int 0, .ref h10, .ref h11, .ref h12, .ref h2, .ref h13])), (h4, .inl (k 0, 8, .inl (tI [] 0)))]
set_option maxHeartbeats 4000000 in
set_option maxRecDepth 100000 in
theorem cX10_addUnit_6 (l : Launch) (D : va_G) (k : Nat → ClassId) (sz : Nat) (h0 h1 h2 h3 h4 h5 h6 h7 h8 h9 h10 h11 h12 h13 : Nat) : Met l yX10_addUnit (Cond.code yX10_addUnit cX10_addUnit 4 (some .int) :: uw) ({ frames := 3, cells := 0, slots := 0, locals := 68 }) (pC D k sz [.ref h0, .int 1, .int 1, .int (-1)] [(h0, .inr (7, [.ref h1, .ref h5, .int 0, .ref h6, .ref h7, .ref h8, .int 0, .ref h9, .int 0, .null, .ref h4, .int 0, .ref h10, .ref h11, .ref h12, .ref h2, .ref h13])), (h1, .inr (4, [.int 2, .int 0, .int 1, .ref h3])), (h2, .inl (k 1, 9, .inr (.inl (tL [] 0)))), (h3, .inl (k 1, 36, .inr (.inl (tL [] 0)))), (h4, .inl (k 0, 8, .inl (tI [] 0)))]) (qI (BX10_addUnit_6 D k h0 h1 h2 h3 h4 h5 h6 h7 h8 h9 h10 h11 h12 h13 (va_A [(h0, .inr (7, [.ref h1, .ref h5, .int 0, .ref h6, .ref h7, .ref h8, .int 0, .ref h9, .int 0, .null, .ref h4, .int 0, .ref h10, .ref h11, .ref h12, .ref h2, .ref h13])), (h1, .inr (4, [.int 2, .int 0, .int 1, .ref h3])), (h2, .inl (k 1, 9, .inr (.inl (tL [] 0)))), (h3, .inl (k 1, 36, .inr (.inl (tL [] 0)))), (h4, .inl (k 0, 8, .inl (tI [] 0)))] sz)) (va_A [(h0, .inr (7, [.ref h1, .ref h5, .int 0, .ref h6, .ref h7, .ref h8, .int 0, .ref h9, .int 0, .null, .ref h4, .int 0, .ref h10, .ref h11, .ref h12, .ref h2, .ref h13])), (h1, .inr (4, [.int 2, .int 0, .int 1, .ref h3])), (h2, .inl (k 1, 9, .inr (.inl (tL [] 0)))), (h3, .inl (k 1, 36, .inr (.inl (tL [] 0)))), (h4, .inl (k 0, 8, .inl (tI [] 0)))] sz)) 0 0 (va_A [(h0, .inr (7, [.ref h1, .ref h5, .int 0, .ref h6, .ref h7, .ref h8, .int 0, .ref h9, .int 0, .null, .ref h4, .int 0, .ref h10, .ref h11, .ref h12, .ref h2, .ref h13])), (h1, .inr (4, [.int 2, .int 0, .int 1, .ref h3])), (h2, .inl (k 1, 9, .inr (.inl (tL [] 0)))), (h3, .inl (k 1, 36, .inr (.inl (tL [] 0)))), (h4, .inl (k 0, 8, .inl (tI [] 0)))] sz) := by
  refine begin_ (Qc := fun A => qI (BX10_addUnit_6 D k h0 h1 h2 h3 h4 h5 h6 h7 h8 h9 h10 h11 h12 h13 A) A) (by decide) (Nat.le_of_ble_eq_true rfl) ?_
  intro p e s m below meth c ls A hx hb hr hml hown hlocks hin hU hK hsz hP hD hS hA hl
  have hl : lv_has ls 4 [(0, .ref h0), (1, .int 1), (2, .int 1), (3, .int (-1))] := hl
  clear hsz
  refine lv_aload_n hx hb dX10_addUnit_0 rfl (lv_at hl 0 rfl) ?_
  refine va_get (D := D) (ci := 7) (v := .ref h2) (C := RX10) (T := TX10) (N := 17) hx hb hU iX10 hown hK.1 hP 0 rfl rfl 15 (by decide) (hU _ w264) (fun _ h9 => h9) rfl dX10_addUnit_1 ?_
  refine lv_aload_n hx hb dX10_addUnit_4 rfl (lv_at hl 0 rfl) ?_
  refine va_get (D := D) (ci := 7) (v := .ref h1) (C := RX10) (T := TX10) (N := 17) hx hb hU iX10 hown hK.1 hP 0 rfl rfl 0 (by decide) (hU _ w249) (fun _ h9 => h9) rfl dX10_addUnit_5 ?_
  refine va_get (D := D) (ci := 4) (v := .int 2) (C := RX5) (T := TX5) (N := 4) hx hb hU iX5 hown hK.1 hP 1 rfl rfl 0 (by decide) (hU _ w93) (fun _ h9 => h9) rfl dX10_addUnit_8 ?_
  refine cV (rS (As := [.ref h2, .int 2]) (rest := []) (wc := [(h2, .inl (k 1, 9, .inr (.inl (tL [] 0))))]) hx hb hml hown hU hK hP hD [2] rfl (by decide) (cX7_becomeOne_1 l D k _ h2) w333 w331 w332 w74 hdX7_becomeOne ⟨rfl, rfl⟩ ⟨Nat.le_of_ble_eq_true rfl, Nat.le_of_ble_eq_true rfl⟩ rfl hl.1 (Nat.le_of_ble_eq_true rfl) dX10_addUnit_11 ⟨Nat.le_of_ble_eq_true rfl, Nat.le_of_ble_eq_true rfl⟩) hP hD hS hA (wr := [(h0, .inr (7, [.ref h1, .ref h5, .int 0, .ref h6, .ref h7, .ref h8, .int 0, .ref h9, .int 0, .null, .ref h4, .int 0, .ref h10, .ref h11, .ref h12, .ref h2, .ref h13])), (h1, .inr (4, [.int 2, .int 0, .int 1, .ref h3])), (h3, .inl (k 1, 36, .inr (.inl (tL [] 0)))), (h4, .inl (k 0, 8, .inl (tI [] 0)))]) [2] [0, 1, 3, 4] rfl rfl (by decide) (by decide) (fun H locs hB J hS => ?_)
  obtain ⟨hP1, hD1⟩ := hB
  obtain ⟨hP, hD⟩ := J _ hP1 hD1
  have hP : va_P D cl0 [(h0, .inr (7, [.ref h1, .ref h5, .int 0, .ref h6, .ref h7, .ref h8, .int 0, .ref h9, .int 0, .null, .ref h4, .int 0, .ref h10, .ref h11, .ref h12, .ref h2, .ref h13])), (h1, .inr (4, [.int 2, .int 0, .int 1, .ref h3])), (h3, .inl (k 1, 36, .inr (.inl (tL [] 0)))), (h4, .inl (k 0, 8, .inl (tI [] 0))), (h2, .inl (k 1, 9, .inr (.inl (tL [1, 0, 0, 1] 0))))] H := hP
  have hD : va_D A [(h0, .inr (7, [.ref h1, .ref h5, .int 0, .ref h6, .ref h7, .ref h8, .int 0, .ref h9, .int 0, .null, .ref h4, .int 0, .ref h10, .ref h11, .ref h12, .ref h2, .ref h13])), (h1, .inr (4, [.int 2, .int 0, .int 1, .ref h3])), (h3, .inl (k 1, 36, .inr (.inl (tL [] 0)))), (h4, .inl (k 0, 8, .inl (tI [] 0))), (h2, .inl (k 1, 9, .inr (.inl (tL [1, 0, 0, 1] 0))))] := hD
  refine lv_aload_n hx hb dX10_addUnit_14 rfl (lv_at hl 0 rfl) ?_
  refine va_get (D := D) (ci := 7) (v := .ref h2) (C := RX10) (T := TX10) (N := 17) hx hb hU iX10 hown hK.1 hP 0 rfl rfl 15 (by decide) (hU _ w264) (fun _ h9 => h9) rfl dX10_addUnit_15 ?_
  refine lv_iload_n hx hb dX10_addUnit_18 rfl (lv_at hl 1 rfl) ?_
  refine lv_aload_n hx hb dX10_addUnit_19 rfl (lv_at hl 0 rfl) ?_
  refine va_get (D := D) (ci := 7) (v := .ref h1) (C := RX10) (T := TX10) (N := 17) hx hb hU iX10 hown hK.1 hP 0 rfl rfl 0 (by decide) (hU _ w249) (fun _ h9 => h9) rfl dX10_addUnit_20 ?_
  refine va_get (D := D) (ci := 4) (v := .int 2) (C := RX5) (T := TX5) (N := 4) hx hb hU iX5 hown hK.1 hP 1 rfl rfl 0 (by decide) (hU _ w93) (fun _ h9 => h9) rfl dX10_addUnit_23 ?_
  refine lv_imul hx hb dX10_addUnit_26 (sv_i (v := 2) (by decide +kernel) ?_)
  refine lv_iload_n hx hb dX10_addUnit_27 rfl (lv_at hl 2 rfl) ?_
  refine lv_iadd hx hb dX10_addUnit_28 (sv_i (v := 3) (by decide +kernel) ?_)
  refine lv_iload_n hx hb dX10_addUnit_29 rfl (lv_at hl 3 rfl) ?_
  refine lv_i2l (v := (-1)) hx hb dX10_addUnit_30 (by decide +kernel) ?_
  refine st_l (j := 3) (g := tL [1, 0, 0, (-1)] 0) hx hb hK hP hD hS 4 rfl (by decide +kernel) upd_tL dX10_addUnit_31 (fun H locs hP hD hS => ?_)
  have hP : va_P D cl0 [(h0, .inr (7, [.ref h1, .ref h5, .int 0, .ref h6, .ref h7, .ref h8, .int 0, .ref h9, .int 0, .null, .ref h4, .int 0, .ref h10, .ref h11, .ref h12, .ref h2, .ref h13])), (h1, .inr (4, [.int 2, .int 0, .int 1, .ref h3])), (h3, .inl (k 1, 36, .inr (.inl (tL [] 0)))), (h4, .inl (k 0, 8, .inl (tI [] 0))), (h2, .inl (k 1, 9, .inr (.inl (tL [1, 0, 0, (-1)] 0))))] H := hP
  have hD : va_D A [(h0, .inr (7, [.ref h1, .ref h5, .int 0, .ref h6, .ref h7, .ref h8, .int 0, .ref h9, .int 0, .null, .ref h4, .int 0, .ref h10, .ref h11, .ref h12, .ref h2, .ref h13])), (h1, .inr (4, [.int 2, .int 0, .int 1, .ref h3])), (h3, .inl (k 1, 36, .inr (.inl (tL [] 0)))), (h4, .inl (k 0, 8, .inl (tI [] 0))), (h2, .inl (k 1, 9, .inr (.inl (tL [1, 0, 0, (-1)] 0))))] := hD
  refine lv_aload_n hx hb dX10_addUnit_32 rfl (lv_at hl 0 rfl) ?_
  refine cI (rV (q0 := 0) (ci := 7) (As := []) (rest := []) (wc := [(h0, .inr (7, [.ref h1, .ref h5, .int 0, .ref h6, .ref h7, .ref h8, .int 0, .ref h9, .int 0, .null, .ref h4, .int 0, .ref h10, .ref h11, .ref h12, .ref h2, .ref h13])), (h1, .inr (4, [.int 2, .int 0, .int 1, .ref h3])), (h2, .inl (k 1, 9, .inr (.inl (tL [1, 0, 0, (-1)] 0)))), (h3, .inl (k 1, 36, .inr (.inl (tL [] 0)))), (h4, .inl (k 0, 8, .inl (tI [] 0)))]) hx hb hml hown hU hK hP hD rfl rfl [0, 1, 4, 2, 3] rfl (by decide) (cX10_addSquare_5 l D k _ h0 h1 h2 h3 h4 h5 h6 h7 h8 h9 h10 h11 h12 h13) w340 w337 w339 w2 w63 hdX10_addSquare ⟨rfl, rfl⟩ ⟨Nat.le_of_ble_eq_true rfl, Nat.le_of_ble_eq_true rfl⟩ rfl hl.1 (Nat.le_of_ble_eq_true rfl) dX10_addUnit_33 ⟨Nat.le_of_ble_eq_true rfl, Nat.le_of_ble_eq_true rfl⟩) hP hD hS hA (wr := []) [0, 1, 4, 2, 3] [] rfl rfl (by decide) (by decide) (fun r2 H locs hB J hS => ?_)
  obtain ⟨rfl, hP1, hD1⟩ := hB
  obtain ⟨hP, hD⟩ := J _ hP1 hD1
  have hP : va_P D cl0 [(h2, .inl (k 1, 9, .inr (.inl (tL [1, 0, 0, (-1)] 0)))), (h3, .inl (k 1, 36, .inr (.inl (tL [1, 0, 0, (-1), 0, 0, 0, 0, 0] 0)))), (h1, .inr (4, [.int 2, .int 1, .int 1, .ref h3])), (h0, .inr (7, [.ref h1, .ref h5, .int 0, .ref h6, .ref h7, .ref h8, .int 0, .ref h9, .int 0, .null, .ref h4, .int 0, .ref h10, .ref h11, .ref h12, .ref h2, .ref h13])), (h4, .inl (k 0, 8, .inl (tI [] 0)))] H := hP
  have hD : va_D A [(h2, .inl (k 1, 9, .inr (.inl (tL [1, 0, 0, (-1)] 0)))), (h3, .inl (k 1, 36, .inr (.inl (tL [1, 0, 0, (-1), 0, 0, 0, 0, 0] 0)))), (h1, .inr (4, [.int 2, .int 1, .int 1, .ref h3])), (h0, .inr (7, [.ref h1, .ref h5, .int 0, .ref h6, .ref h7, .ref h8, .int 0, .ref h9, .int 0, .null, .ref h4, .int 0, .ref h10, .ref h11, .ref h12, .ref h2, .ref h13])), (h4, .inl (k 0, 8, .inl (tI [] 0)))] := hD
  exact retI (v := 0) hx hb hr hlocks hS (⟨rfl, hP, hD⟩) dX10_addUnit_36
abbrev BX10_unit_1 (D : va_G) (k : Nat → ClassId) (a0 a1 a2 a27 a31 a3 a5 a8 a9 a18 a28 a29 a30 a32 : Nat) (x0 : Int32) (x1 : Int32) (x2 : Int32) (A : Nat → Prop) (r : Int32) (H : Heap) : Prop := r = F_unit x0 x1 x2
set_option maxHeartbeats 4000000 in
set_option maxRecDepth 100000 in
theorem cX10_unit_1 (l : Launch) (D : va_G) (k : Nat → ClassId) (sz : Nat) (a0 a1 a2 a27 a31 a3 a5 a8 a9 a18 a28 a29 a30 a32 : Nat) (x0 : Int32) (x1 : Int32) (x2 : Int32) : Met l yX10_unit (Cond.code yX10_unit cX10_unit 4 (some .int) :: uw) ({ frames := 4, cells := 0, slots := 0, locals := 91 }) (pC D k sz [.ref a0, .int x0, .int x1, .int x2] [(a0, .inr (7, [.ref a1, .ref a3, .int 0, .ref a5, .ref a8, .ref a9, .int 0, .ref a18, .int 0, .null, .ref a27, .int 0, .ref a28, .ref a29, .ref a30, .ref a31, .ref a32])), (a1, .inr (4, [.int 2, .int 0, .int 1, .ref a2])), (a2, .inl (k 1, 36, .inr (.inl (tL [] 0)))), (a27, .inl (k 0, 8, .inl (tI [] 0))), (a31, .inl (k 1, 9, .inr (.inl (tL [] 0))))]) (qI (BX10_unit_1 D k a0 a1 a2 a27 a31 a3 a5 a8 a9 a18 a28 a29 a30 a32 x0 x1 x2 (va_A [(a0, .inr (7, [.ref a1, .ref a3, .int 0, .ref a5, .ref a8, .ref a9, .int 0, .ref a18, .int 0, .null, .ref a27, .int 0, .ref a28, .ref a29, .ref a30, .ref a31, .ref a32])), (a1, .inr (4, [.int 2, .int 0, .int 1, .ref a2])), (a2, .inl (k 1, 36, .inr (.inl (tL [] 0)))), (a27, .inl (k 0, 8, .inl (tI [] 0))), (a31, .inl (k 1, 9, .inr (.inl (tL [] 0))))] sz)) (va_A [(a0, .inr (7, [.ref a1, .ref a3, .int 0, .ref a5, .ref a8, .ref a9, .int 0, .ref a18, .int 0, .null, .ref a27, .int 0, .ref a28, .ref a29, .ref a30, .ref a31, .ref a32])), (a1, .inr (4, [.int 2, .int 0, .int 1, .ref a2])), (a2, .inl (k 1, 36, .inr (.inl (tL [] 0)))), (a27, .inl (k 0, 8, .inl (tI [] 0))), (a31, .inl (k 1, 9, .inr (.inl (tL [] 0))))] sz)) 0 0 (va_A [(a0, .inr (7, [.ref a1, .ref a3, .int 0, .ref a5, .ref a8, .ref a9, .int 0, .ref a18, .int 0, .null, .ref a27, .int 0, .ref a28, .ref a29, .ref a30, .ref a31, .ref a32])), (a1, .inr (4, [.int 2, .int 0, .int 1, .ref a2])), (a2, .inl (k 1, 36, .inr (.inl (tL [] 0)))), (a27, .inl (k 0, 8, .inl (tI [] 0))), (a31, .inl (k 1, 9, .inr (.inl (tL [] 0))))] sz) := by
  refine begin_ (Qc := fun A => qI (BX10_unit_1 D k a0 a1 a2 a27 a31 a3 a5 a8 a9 a18 a28 a29 a30 a32 x0 x1 x2 A) A) (by decide) (Nat.le_of_ble_eq_true rfl) ?_
  intro p e s m below meth c ls A hx hb hr hml hown hlocks hin hU hK hsz hP hD hS hA hl
  have hl : lv_has ls 4 [(0, .ref a0), (1, .int x0), (2, .int x1), (3, .int x2)] := hl
  clear hsz
  refine lv_aload_n hx hb dX10_unit_0 rfl (lv_at hl 0 rfl) ?_
  refine va_get (D := D) (ci := 7) (v := .ref a1) (C := RX10) (T := TX10) (N := 17) hx hb hU iX10 hown hK.1 hP 0 rfl rfl 0 (by decide) (hU _ w249) (fun _ h9 => h9) rfl dX10_unit_1 ?_
  refine lv_iload_n hx hb dX10_unit_4 rfl (lv_at hl 1 rfl) ?_
  refine lv_iload_n hx hb dX10_unit_5 rfl (lv_at hl 2 rfl) ?_
  refine cI (rV (q0 := 1) (ci := 4) (As := [.int x0, .int x1]) (rest := []) (wc := [(a1, .inr (4, [.int 2, .int 0, .int 1, .ref a2]))]) hx hb hml hown hU hK hP hD rfl rfl [1] rfl (by decide) (cX5_isPlace_1 l D k _ a1 a2 (x0) (x1)) w319 w316 w317 w318 w64 hdX5_isPlace ⟨rfl, rfl⟩ ⟨Nat.le_of_ble_eq_true rfl, Nat.le_of_ble_eq_true rfl⟩ rfl hl.1 (Nat.le_of_ble_eq_true rfl) dX10_unit_6 ⟨Nat.le_of_ble_eq_true rfl, Nat.le_of_ble_eq_true rfl⟩) hP hD hS hA (wr := [(a0, .inr (7, [.ref a1, .ref a3, .int 0, .ref a5, .ref a8, .ref a9, .int 0, .ref a18, .int 0, .null, .ref a27, .int 0, .ref a28, .ref a29, .ref a30, .ref a31, .ref a32])), (a2, .inl (k 1, 36, .inr (.inl (tL [] 0)))), (a27, .inl (k 0, 8, .inl (tI [] 0))), (a31, .inl (k 1, 9, .inr (.inl (tL [] 0))))]) [1] [0, 2, 3, 4] rfl rfl (by decide) (by decide) (fun r1 H locs hB J hS => ?_)
  rcases hB with ⟨c_2, rfl, hP1, hD1⟩ | ⟨c_3, c_4, rfl, hP1, hD1⟩ | ⟨c_5, c_6, c_7, rfl, hP1, hD1⟩ | ⟨c_8, c_9, c_10, c_11, rfl, hP1, hD1⟩ | ⟨c_12, c_13, c_14, c_15, rfl, hP1, hD1⟩
  · skip
    obtain ⟨hP, hD⟩ := J _ hP1 hD1
    have hP : va_P D cl0 [(a0, .inr (7, [.ref a1, .ref a3, .int 0, .ref a5, .ref a8, .ref a9, .int 0, .ref a18, .int 0, .null, .ref a27, .int 0, .ref a28, .ref a29, .ref a30, .ref a31, .ref a32])), (a2, .inl (k 1, 36, .inr (.inl (tL [] 0)))), (a27, .inl (k 0, 8, .inl (tI [] 0))), (a31, .inl (k 1, 9, .inr (.inl (tL [] 0)))), (a1, .inr (4, [.int 2, .int 0, .int 1, .ref a2]))] H := hP
    have hD : va_D A [(a0, .inr (7, [.ref a1, .ref a3, .int 0, .ref a5, .ref a8, .ref a9, .int 0, .ref a18, .int 0, .null, .ref a27, .int 0, .ref a28, .ref a29, .ref a30, .ref a31, .ref a32])), (a2, .inl (k 1, 36, .inr (.inl (tL [] 0)))), (a27, .inl (k 0, 8, .inl (tI [] 0))), (a31, .inl (k 1, 9, .inr (.inl (tL [] 0)))), (a1, .inr (4, [.int 2, .int 0, .int 1, .ref a2]))] := hD
    refine lv_if_eq (tgt := 29) hx hb dX10_unit_9 (by decide) (fun _ => ?_) (fun cc => absurd (by decide +kernel) cc)
    refine lv_iconst (v := (-1)) hx hb dX10_unit_29 (by decide) ?_
    exact retI (v := (-1)) hx hb hr hlocks hS (show ((-1) : Int32) = F_unit x0 x1 x2 by first | decide +kernel | (have f0 := cv_lt (x := x0.toInt) (y := 0) c_2 rfl (by decide +kernel); unfold F_unit; (repeat (first | rw [if_pos (by omega)] | rw [if_neg (by omega)])))) dX10_unit_30
  · skip
    obtain ⟨hP, hD⟩ := J _ hP1 hD1
    have hP : va_P D cl0 [(a0, .inr (7, [.ref a1, .ref a3, .int 0, .ref a5, .ref a8, .ref a9, .int 0, .ref a18, .int 0, .null, .ref a27, .int 0, .ref a28, .ref a29, .ref a30, .ref a31, .ref a32])), (a2, .inl (k 1, 36, .inr (.inl (tL [] 0)))), (a27, .inl (k 0, 8, .inl (tI [] 0))), (a31, .inl (k 1, 9, .inr (.inl (tL [] 0)))), (a1, .inr (4, [.int 2, .int 0, .int 1, .ref a2]))] H := hP
    have hD : va_D A [(a0, .inr (7, [.ref a1, .ref a3, .int 0, .ref a5, .ref a8, .ref a9, .int 0, .ref a18, .int 0, .null, .ref a27, .int 0, .ref a28, .ref a29, .ref a30, .ref a31, .ref a32])), (a2, .inl (k 1, 36, .inr (.inl (tL [] 0)))), (a27, .inl (k 0, 8, .inl (tI [] 0))), (a31, .inl (k 1, 9, .inr (.inl (tL [] 0)))), (a1, .inr (4, [.int 2, .int 0, .int 1, .ref a2]))] := hD
    refine lv_if_eq (tgt := 29) hx hb dX10_unit_9 (by decide) (fun _ => ?_) (fun cc => absurd (by decide +kernel) cc)
    refine lv_iconst (v := (-1)) hx hb dX10_unit_29 (by decide) ?_
    exact retI (v := (-1)) hx hb hr hlocks hS (show ((-1) : Int32) = F_unit x0 x1 x2 by first | decide +kernel | (have f0 := cv_nlt (x := x0.toInt) (y := 0) c_3 rfl (by decide +kernel); have f1 := cv_le (x := 2) (y := x0.toInt) c_4 (by decide +kernel) rfl; unfold F_unit; (repeat (first | rw [if_pos (by omega)] | rw [if_neg (by omega)])))) dX10_unit_30
  · skip
    obtain ⟨hP, hD⟩ := J _ hP1 hD1
    have hP : va_P D cl0 [(a0, .inr (7, [.ref a1, .ref a3, .int 0, .ref a5, .ref a8, .ref a9, .int 0, .ref a18, .int 0, .null, .ref a27, .int 0, .ref a28, .ref a29, .ref a30, .ref a31, .ref a32])), (a2, .inl (k 1, 36, .inr (.inl (tL [] 0)))), (a27, .inl (k 0, 8, .inl (tI [] 0))), (a31, .inl (k 1, 9, .inr (.inl (tL [] 0)))), (a1, .inr (4, [.int 2, .int 0, .int 1, .ref a2]))] H := hP
    have hD : va_D A [(a0, .inr (7, [.ref a1, .ref a3, .int 0, .ref a5, .ref a8, .ref a9, .int 0, .ref a18, .int 0, .null, .ref a27, .int 0, .ref a28, .ref a29, .ref a30, .ref a31, .ref a32])), (a2, .inl (k 1, 36, .inr (.inl (tL [] 0)))), (a27, .inl (k 0, 8, .inl (tI [] 0))), (a31, .inl (k 1, 9, .inr (.inl (tL [] 0)))), (a1, .inr (4, [.int 2, .int 0, .int 1, .ref a2]))] := hD
    refine lv_if_eq (tgt := 29) hx hb dX10_unit_9 (by decide) (fun _ => ?_) (fun cc => absurd (by decide +kernel) cc)
    refine lv_iconst (v := (-1)) hx hb dX10_unit_29 (by decide) ?_
    exact retI (v := (-1)) hx hb hr hlocks hS (show ((-1) : Int32) = F_unit x0 x1 x2 by first | decide +kernel | (have f0 := cv_nlt (x := x0.toInt) (y := 0) c_5 rfl (by decide +kernel); have f1 := cv_nle (x := 2) (y := x0.toInt) c_6 (by decide +kernel) rfl; have f2 := cv_lt (x := x1.toInt) (y := 0) c_7 rfl (by decide +kernel); unfold F_unit; (repeat (first | rw [if_pos (by omega)] | rw [if_neg (by omega)])))) dX10_unit_30
  · skip
    obtain ⟨hP, hD⟩ := J _ hP1 hD1
    have hP : va_P D cl0 [(a0, .inr (7, [.ref a1, .ref a3, .int 0, .ref a5, .ref a8, .ref a9, .int 0, .ref a18, .int 0, .null, .ref a27, .int 0, .ref a28, .ref a29, .ref a30, .ref a31, .ref a32])), (a2, .inl (k 1, 36, .inr (.inl (tL [] 0)))), (a27, .inl (k 0, 8, .inl (tI [] 0))), (a31, .inl (k 1, 9, .inr (.inl (tL [] 0)))), (a1, .inr (4, [.int 2, .int 0, .int 1, .ref a2]))] H := hP
    have hD : va_D A [(a0, .inr (7, [.ref a1, .ref a3, .int 0, .ref a5, .ref a8, .ref a9, .int 0, .ref a18, .int 0, .null, .ref a27, .int 0, .ref a28, .ref a29, .ref a30, .ref a31, .ref a32])), (a2, .inl (k 1, 36, .inr (.inl (tL [] 0)))), (a27, .inl (k 0, 8, .inl (tI [] 0))), (a31, .inl (k 1, 9, .inr (.inl (tL [] 0)))), (a1, .inr (4, [.int 2, .int 0, .int 1, .ref a2]))] := hD
    refine lv_if_eq (tgt := 29) hx hb dX10_unit_9 (by decide) (fun _ => ?_) (fun cc => absurd (by decide +kernel) cc)
    refine lv_iconst (v := (-1)) hx hb dX10_unit_29 (by decide) ?_
    exact retI (v := (-1)) hx hb hr hlocks hS (show ((-1) : Int32) = F_unit x0 x1 x2 by first | decide +kernel | (have f0 := cv_nlt (x := x0.toInt) (y := 0) c_8 rfl (by decide +kernel); have f1 := cv_nle (x := 2) (y := x0.toInt) c_9 (by decide +kernel) rfl; have f2 := cv_nlt (x := x1.toInt) (y := 0) c_10 rfl (by decide +kernel); have f3 := cv_le (x := 2) (y := x1.toInt) c_11 (by decide +kernel) rfl; unfold F_unit; (repeat (first | rw [if_pos (by omega)] | rw [if_neg (by omega)])))) dX10_unit_30
  · skip
    obtain ⟨hP, hD⟩ := J _ hP1 hD1
    have hP : va_P D cl0 [(a0, .inr (7, [.ref a1, .ref a3, .int 0, .ref a5, .ref a8, .ref a9, .int 0, .ref a18, .int 0, .null, .ref a27, .int 0, .ref a28, .ref a29, .ref a30, .ref a31, .ref a32])), (a2, .inl (k 1, 36, .inr (.inl (tL [] 0)))), (a27, .inl (k 0, 8, .inl (tI [] 0))), (a31, .inl (k 1, 9, .inr (.inl (tL [] 0)))), (a1, .inr (4, [.int 2, .int 0, .int 1, .ref a2]))] H := hP
    have hD : va_D A [(a0, .inr (7, [.ref a1, .ref a3, .int 0, .ref a5, .ref a8, .ref a9, .int 0, .ref a18, .int 0, .null, .ref a27, .int 0, .ref a28, .ref a29, .ref a30, .ref a31, .ref a32])), (a2, .inl (k 1, 36, .inr (.inl (tL [] 0)))), (a27, .inl (k 0, 8, .inl (tI [] 0))), (a31, .inl (k 1, 9, .inr (.inl (tL [] 0)))), (a1, .inr (4, [.int 2, .int 0, .int 1, .ref a2]))] := hD
    refine lv_if_eq (tgt := 29) hx hb dX10_unit_9 (by decide) (fun cc => absurd cc (by decide +kernel)) (fun _ => ?_)
    refine lv_iload_n hx hb dX10_unit_12 rfl (lv_at hl 1 rfl) ?_
    refine lv_iload_n hx hb dX10_unit_13 rfl (lv_at hl 2 rfl) ?_
    have hsp : x0.toInt = 0 ∨ x0.toInt = 1 := by
      have f0 := cv_nlt (x := x0.toInt) (y := 0) c_12 rfl (by decide +kernel)
      have f1 := cv_nle (x := 2) (y := x0.toInt) c_13 (by decide +kernel) rfl
      have f2 := cv_nlt (x := x1.toInt) (y := 0) c_14 rfl (by decide +kernel)
      have f3 := cv_nle (x := 2) (y := x1.toInt) c_15 (by decide +kernel) rfl
      omega
    rcases hsp with hsp | hsp
    · skip
      obtain rfl : x0 = 0 := eq32 hsp (by decide +kernel)
      have hsp : x1.toInt = 0 ∨ x1.toInt = 1 := by
        have f2 := cv_nlt (x := x1.toInt) (y := 0) c_14 rfl (by decide +kernel)
        have f3 := cv_nle (x := 2) (y := x1.toInt) c_15 (by decide +kernel) rfl
        have g_0 : (0 : Int32).toInt = 0 := (by decide +kernel)
        omega
      rcases hsp with hsp | hsp
      · skip
        obtain rfl : x1 = 0 := eq32 hsp (by decide +kernel)
        refine lv_icmp_ne (tgt := 21) hx hb dX10_unit_14 (by decide) (fun cc => absurd (by decide +kernel) cc) (fun _ => ?_)
        refine lv_iconst (v := 1) hx hb dX10_unit_17 (by decide) ?_
        refine lv_goto (tgt := 22) hx hb dX10_unit_18 (by decide) ?_
        refine lv_iload_n hx hb dX10_unit_22 rfl (lv_at hl 3 rfl) ?_
        refine cI (rS (As := [.int 1, .int x2]) (rest := []) (wc := []) hx hb hml hown hU hK hP hD [] rfl (by decide) (cX10_fitsUnit_1 l D k _ (x2)) w322 w320 w321 w63 hdX10_fitsUnit ⟨rfl, rfl⟩ ⟨Nat.le_of_ble_eq_true rfl, Nat.le_of_ble_eq_true rfl⟩ rfl hl.1 (Nat.le_of_ble_eq_true rfl) dX10_unit_23 ⟨Nat.le_of_ble_eq_true rfl, Nat.le_of_ble_eq_true rfl⟩) hP hD hS hA (wr := [(a0, .inr (7, [.ref a1, .ref a3, .int 0, .ref a5, .ref a8, .ref a9, .int 0, .ref a18, .int 0, .null, .ref a27, .int 0, .ref a28, .ref a29, .ref a30, .ref a31, .ref a32])), (a2, .inl (k 1, 36, .inr (.inl (tL [] 0)))), (a27, .inl (k 0, 8, .inl (tI [] 0))), (a31, .inl (k 1, 9, .inr (.inl (tL [] 0)))), (a1, .inr (4, [.int 2, .int 0, .int 1, .ref a2]))]) [] [0, 1, 2, 3, 4] rfl rfl (by decide) (by decide) (fun r16 H locs hB J hS => ?_)
        rcases hB with ⟨c_17, rfl, hP1, hD1⟩ | ⟨c_18, c_19, rfl, hP1, hD1⟩ | ⟨c_20, rfl, hP1, hD1⟩
        · skip
          obtain ⟨hP, hD⟩ := J _ hP1 hD1
          have hP : va_P D cl0 [(a0, .inr (7, [.ref a1, .ref a3, .int 0, .ref a5, .ref a8, .ref a9, .int 0, .ref a18, .int 0, .null, .ref a27, .int 0, .ref a28, .ref a29, .ref a30, .ref a31, .ref a32])), (a2, .inl (k 1, 36, .inr (.inl (tL [] 0)))), (a27, .inl (k 0, 8, .inl (tI [] 0))), (a31, .inl (k 1, 9, .inr (.inl (tL [] 0)))), (a1, .inr (4, [.int 2, .int 0, .int 1, .ref a2]))] H := hP
          have hD : va_D A [(a0, .inr (7, [.ref a1, .ref a3, .int 0, .ref a5, .ref a8, .ref a9, .int 0, .ref a18, .int 0, .null, .ref a27, .int 0, .ref a28, .ref a29, .ref a30, .ref a31, .ref a32])), (a2, .inl (k 1, 36, .inr (.inl (tL [] 0)))), (a27, .inl (k 0, 8, .inl (tI [] 0))), (a31, .inl (k 1, 9, .inr (.inl (tL [] 0)))), (a1, .inr (4, [.int 2, .int 0, .int 1, .ref a2]))] := hD
          subst c_17
          refine lv_if_ne (tgt := 31) hx hb dX10_unit_26 (by decide) (fun _ => ?_) (fun cc => absurd cc (by decide +kernel))
          refine lv_aload_n hx hb dX10_unit_31 rfl (lv_at hl 0 rfl) ?_
          refine va_get (D := D) (ci := 7) (v := .ref a1) (C := RX10) (T := TX10) (N := 17) hx hb hU iX10 hown hK.1 hP 0 rfl rfl 0 (by decide) (hU _ w249) (fun _ h9 => h9) rfl dX10_unit_32 ?_
          refine cI (rV (q0 := 4) (ci := 4) (As := []) (rest := []) (wc := [(a1, .inr (4, [.int 2, .int 0, .int 1, .ref a2]))]) hx hb hml hown hU hK hP hD rfl rfl [4] rfl (by decide) (cX5_isFull_1 l D k _ a1 a2) w326 w323 w324 w325 w64 hdX5_isFull ⟨rfl, rfl⟩ ⟨Nat.le_of_ble_eq_true rfl, Nat.le_of_ble_eq_true rfl⟩ rfl hl.1 (Nat.le_of_ble_eq_true rfl) dX10_unit_35 ⟨Nat.le_of_ble_eq_true rfl, Nat.le_of_ble_eq_true rfl⟩) hP hD hS hA (wr := [(a0, .inr (7, [.ref a1, .ref a3, .int 0, .ref a5, .ref a8, .ref a9, .int 0, .ref a18, .int 0, .null, .ref a27, .int 0, .ref a28, .ref a29, .ref a30, .ref a31, .ref a32])), (a2, .inl (k 1, 36, .inr (.inl (tL [] 0)))), (a27, .inl (k 0, 8, .inl (tI [] 0))), (a31, .inl (k 1, 9, .inr (.inl (tL [] 0))))]) [4] [0, 1, 2, 3] rfl rfl (by decide) (by decide) (fun r21 H locs hB J hS => ?_)
          obtain ⟨rfl, hP1, hD1⟩ := hB
          obtain ⟨hP, hD⟩ := J _ hP1 hD1
          have hP : va_P D cl0 [(a0, .inr (7, [.ref a1, .ref a3, .int 0, .ref a5, .ref a8, .ref a9, .int 0, .ref a18, .int 0, .null, .ref a27, .int 0, .ref a28, .ref a29, .ref a30, .ref a31, .ref a32])), (a2, .inl (k 1, 36, .inr (.inl (tL [] 0)))), (a27, .inl (k 0, 8, .inl (tI [] 0))), (a31, .inl (k 1, 9, .inr (.inl (tL [] 0)))), (a1, .inr (4, [.int 2, .int 0, .int 1, .ref a2]))] H := hP
          have hD : va_D A [(a0, .inr (7, [.ref a1, .ref a3, .int 0, .ref a5, .ref a8, .ref a9, .int 0, .ref a18, .int 0, .null, .ref a27, .int 0, .ref a28, .ref a29, .ref a30, .ref a31, .ref a32])), (a2, .inl (k 1, 36, .inr (.inl (tL [] 0)))), (a27, .inl (k 0, 8, .inl (tI [] 0))), (a31, .inl (k 1, 9, .inr (.inl (tL [] 0)))), (a1, .inr (4, [.int 2, .int 0, .int 1, .ref a2]))] := hD
          refine lv_if_eq (tgt := 44) hx hb dX10_unit_38 (by decide) (fun _ => ?_) (fun cc => absurd (by decide +kernel) cc)
          refine lv_aload_n hx hb dX10_unit_44 rfl (lv_at hl 0 rfl) ?_
          refine lv_iload_n hx hb dX10_unit_45 rfl (lv_at hl 1 rfl) ?_
          refine lv_iload_n hx hb dX10_unit_46 rfl (lv_at hl 2 rfl) ?_
          refine lv_iload_n hx hb dX10_unit_47 rfl (lv_at hl 3 rfl) ?_
          refine cI (rV (q0 := 0) (ci := 7) (As := [.int 0, .int 0, .int 1]) (rest := []) (wc := [(a0, .inr (7, [.ref a1, .ref a3, .int 0, .ref a5, .ref a8, .ref a9, .int 0, .ref a18, .int 0, .null, .ref a27, .int 0, .ref a28, .ref a29, .ref a30, .ref a31, .ref a32])), (a1, .inr (4, [.int 2, .int 0, .int 1, .ref a2])), (a31, .inl (k 1, 9, .inr (.inl (tL [] 0)))), (a2, .inl (k 1, 36, .inr (.inl (tL [] 0)))), (a27, .inl (k 0, 8, .inl (tI [] 0)))]) hx hb hml hown hU hK hP hD rfl rfl [0, 4, 3, 1, 2] rfl (by decide) (cX10_addUnit_1 l D k _ a0 a1 a31 a2 a27 a3 a5 a8 a9 a18 a28 a29 a30 a32) w330 w327 w329 w1 w63 hdX10_addUnit ⟨rfl, rfl⟩ ⟨Nat.le_of_ble_eq_true rfl, Nat.le_of_ble_eq_true rfl⟩ rfl hl.1 (Nat.le_of_ble_eq_true rfl) dX10_unit_48 ⟨Nat.le_of_ble_eq_true rfl, Nat.le_of_ble_eq_true rfl⟩) hP hD hS hA (wr := []) [0, 4, 3, 1, 2] [] rfl rfl (by decide) (by decide) (fun r22 H locs hB J hS => ?_)
          obtain ⟨rfl, hP1, hD1⟩ := hB
          obtain ⟨hP, hD⟩ := J _ hP1 hD1
          have hP : va_P D cl0 [(a31, .inl (k 1, 9, .inr (.inl (tL [1, 0, 0, 1] 0)))), (a2, .inl (k 1, 36, .inr (.inl (tL [1, 0, 0, 1, 0, 0, 0, 0, 0] 0)))), (a1, .inr (4, [.int 2, .int 1, .int 1, .ref a2])), (a0, .inr (7, [.ref a1, .ref a3, .int 0, .ref a5, .ref a8, .ref a9, .int 0, .ref a18, .int 0, .null, .ref a27, .int 0, .ref a28, .ref a29, .ref a30, .ref a31, .ref a32])), (a27, .inl (k 0, 8, .inl (tI [] 0)))] H := hP
          have hD : va_D A [(a31, .inl (k 1, 9, .inr (.inl (tL [1, 0, 0, 1] 0)))), (a2, .inl (k 1, 36, .inr (.inl (tL [1, 0, 0, 1, 0, 0, 0, 0, 0] 0)))), (a1, .inr (4, [.int 2, .int 1, .int 1, .ref a2])), (a0, .inr (7, [.ref a1, .ref a3, .int 0, .ref a5, .ref a8, .ref a9, .int 0, .ref a18, .int 0, .null, .ref a27, .int 0, .ref a28, .ref a29, .ref a30, .ref a31, .ref a32])), (a27, .inl (k 0, 8, .inl (tI [] 0)))] := hD
          exact retI (v := 0) hx hb hr hlocks hS (show (0 : Int32) = F_unit 0 0 1 by first | decide +kernel | (have g_0 : (0 : Int32).toInt = 0 := (by decide +kernel); have g_1 : (1 : Int32).toInt = 1 := (by decide +kernel); unfold F_unit; (repeat (first | rw [if_pos (by omega)] | rw [if_neg (by omega)])))) dX10_unit_51
        · skip
          obtain ⟨hP, hD⟩ := J _ hP1 hD1
          have hP : va_P D cl0 [(a0, .inr (7, [.ref a1, .ref a3, .int 0, .ref a5, .ref a8, .ref a9, .int 0, .ref a18, .int 0, .null, .ref a27, .int 0, .ref a28, .ref a29, .ref a30, .ref a31, .ref a32])), (a2, .inl (k 1, 36, .inr (.inl (tL [] 0)))), (a27, .inl (k 0, 8, .inl (tI [] 0))), (a31, .inl (k 1, 9, .inr (.inl (tL [] 0)))), (a1, .inr (4, [.int 2, .int 0, .int 1, .ref a2]))] H := hP
          have hD : va_D A [(a0, .inr (7, [.ref a1, .ref a3, .int 0, .ref a5, .ref a8, .ref a9, .int 0, .ref a18, .int 0, .null, .ref a27, .int 0, .ref a28, .ref a29, .ref a30, .ref a31, .ref a32])), (a2, .inl (k 1, 36, .inr (.inl (tL [] 0)))), (a27, .inl (k 0, 8, .inl (tI [] 0))), (a31, .inl (k 1, 9, .inr (.inl (tL [] 0)))), (a1, .inr (4, [.int 2, .int 0, .int 1, .ref a2]))] := hD
          refine lv_if_ne (tgt := 31) hx hb dX10_unit_26 (by decide) (fun cc => absurd (by decide +kernel) cc) (fun _ => ?_)
          refine lv_iconst (v := (-1)) hx hb dX10_unit_29 (by decide) ?_
          exact retI (v := (-1)) hx hb hr hlocks hS (show ((-1) : Int32) = F_unit 0 0 x2 by first | decide +kernel | (have f4 := cv_ne (x := x2.toInt) (y := 1) c_18 rfl (by decide +kernel); have f5 := cv_ne (x := x2.toInt) (y := (-1)) c_19 rfl (by decide +kernel); have g_0 : (0 : Int32).toInt = 0 := (by decide +kernel); unfold F_unit; (repeat (first | rw [if_pos (by omega)] | rw [if_neg (by omega)])))) dX10_unit_30
        · skip
          obtain ⟨hP, hD⟩ := J _ hP1 hD1
          have hP : va_P D cl0 [(a0, .inr (7, [.ref a1, .ref a3, .int 0, .ref a5, .ref a8, .ref a9, .int 0, .ref a18, .int 0, .null, .ref a27, .int 0, .ref a28, .ref a29, .ref a30, .ref a31, .ref a32])), (a2, .inl (k 1, 36, .inr (.inl (tL [] 0)))), (a27, .inl (k 0, 8, .inl (tI [] 0))), (a31, .inl (k 1, 9, .inr (.inl (tL [] 0)))), (a1, .inr (4, [.int 2, .int 0, .int 1, .ref a2]))] H := hP
          have hD : va_D A [(a0, .inr (7, [.ref a1, .ref a3, .int 0, .ref a5, .ref a8, .ref a9, .int 0, .ref a18, .int 0, .null, .ref a27, .int 0, .ref a28, .ref a29, .ref a30, .ref a31, .ref a32])), (a2, .inl (k 1, 36, .inr (.inl (tL [] 0)))), (a27, .inl (k 0, 8, .inl (tI [] 0))), (a31, .inl (k 1, 9, .inr (.inl (tL [] 0)))), (a1, .inr (4, [.int 2, .int 0, .int 1, .ref a2]))] := hD
          subst c_20
          refine lv_if_ne (tgt := 31) hx hb dX10_unit_26 (by decide) (fun _ => ?_) (fun cc => absurd cc (by decide +kernel))
          refine lv_aload_n hx hb dX10_unit_31 rfl (lv_at hl 0 rfl) ?_
          refine va_get (D := D) (ci := 7) (v := .ref a1) (C := RX10) (T := TX10) (N := 17) hx hb hU iX10 hown hK.1 hP 0 rfl rfl 0 (by decide) (hU _ w249) (fun _ h9 => h9) rfl dX10_unit_32 ?_
          refine cI (rV (q0 := 4) (ci := 4) (As := []) (rest := []) (wc := [(a1, .inr (4, [.int 2, .int 0, .int 1, .ref a2]))]) hx hb hml hown hU hK hP hD rfl rfl [4] rfl (by decide) (cX5_isFull_1 l D k _ a1 a2) w326 w323 w324 w325 w64 hdX5_isFull ⟨rfl, rfl⟩ ⟨Nat.le_of_ble_eq_true rfl, Nat.le_of_ble_eq_true rfl⟩ rfl hl.1 (Nat.le_of_ble_eq_true rfl) dX10_unit_35 ⟨Nat.le_of_ble_eq_true rfl, Nat.le_of_ble_eq_true rfl⟩) hP hD hS hA (wr := [(a0, .inr (7, [.ref a1, .ref a3, .int 0, .ref a5, .ref a8, .ref a9, .int 0, .ref a18, .int 0, .null, .ref a27, .int 0, .ref a28, .ref a29, .ref a30, .ref a31, .ref a32])), (a2, .inl (k 1, 36, .inr (.inl (tL [] 0)))), (a27, .inl (k 0, 8, .inl (tI [] 0))), (a31, .inl (k 1, 9, .inr (.inl (tL [] 0))))]) [4] [0, 1, 2, 3] rfl rfl (by decide) (by decide) (fun r23 H locs hB J hS => ?_)
          obtain ⟨rfl, hP1, hD1⟩ := hB
          obtain ⟨hP, hD⟩ := J _ hP1 hD1
          have hP : va_P D cl0 [(a0, .inr (7, [.ref a1, .ref a3, .int 0, .ref a5, .ref a8, .ref a9, .int 0, .ref a18, .int 0, .null, .ref a27, .int 0, .ref a28, .ref a29, .ref a30, .ref a31, .ref a32])), (a2, .inl (k 1, 36, .inr (.inl (tL [] 0)))), (a27, .inl (k 0, 8, .inl (tI [] 0))), (a31, .inl (k 1, 9, .inr (.inl (tL [] 0)))), (a1, .inr (4, [.int 2, .int 0, .int 1, .ref a2]))] H := hP
          have hD : va_D A [(a0, .inr (7, [.ref a1, .ref a3, .int 0, .ref a5, .ref a8, .ref a9, .int 0, .ref a18, .int 0, .null, .ref a27, .int 0, .ref a28, .ref a29, .ref a30, .ref a31, .ref a32])), (a2, .inl (k 1, 36, .inr (.inl (tL [] 0)))), (a27, .inl (k 0, 8, .inl (tI [] 0))), (a31, .inl (k 1, 9, .inr (.inl (tL [] 0)))), (a1, .inr (4, [.int 2, .int 0, .int 1, .ref a2]))] := hD
          refine lv_if_eq (tgt := 44) hx hb dX10_unit_38 (by decide) (fun _ => ?_) (fun cc => absurd (by decide +kernel) cc)
          refine lv_aload_n hx hb dX10_unit_44 rfl (lv_at hl 0 rfl) ?_
          refine lv_iload_n hx hb dX10_unit_45 rfl (lv_at hl 1 rfl) ?_
          refine lv_iload_n hx hb dX10_unit_46 rfl (lv_at hl 2 rfl) ?_
          refine lv_iload_n hx hb dX10_unit_47 rfl (lv_at hl 3 rfl) ?_
          refine cI (rV (q0 := 0) (ci := 7) (As := [.int 0, .int 0, .int (-1)]) (rest := []) (wc := [(a0, .inr (7, [.ref a1, .ref a3, .int 0, .ref a5, .ref a8, .ref a9, .int 0, .ref a18, .int 0, .null, .ref a27, .int 0, .ref a28, .ref a29, .ref a30, .ref a31, .ref a32])), (a1, .inr (4, [.int 2, .int 0, .int 1, .ref a2])), (a31, .inl (k 1, 9, .inr (.inl (tL [] 0)))), (a2, .inl (k 1, 36, .inr (.inl (tL [] 0)))), (a27, .inl (k 0, 8, .inl (tI [] 0)))]) hx hb hml hown hU hK hP hD rfl rfl [0, 4, 3, 1, 2] rfl (by decide) (cX10_addUnit_2 l D k _ a0 a1 a31 a2 a27 a3 a5 a8 a9 a18 a28 a29 a30 a32) w330 w327 w329 w1 w63 hdX10_addUnit ⟨rfl, rfl⟩ ⟨Nat.le_of_ble_eq_true rfl, Nat.le_of_ble_eq_true rfl⟩ rfl hl.1 (Nat.le_of_ble_eq_true rfl) dX10_unit_48 ⟨Nat.le_of_ble_eq_true rfl, Nat.le_of_ble_eq_true rfl⟩) hP hD hS hA (wr := []) [0, 4, 3, 1, 2] [] rfl rfl (by decide) (by decide) (fun r24 H locs hB J hS => ?_)
          obtain ⟨rfl, hP1, hD1⟩ := hB
          obtain ⟨hP, hD⟩ := J _ hP1 hD1
          have hP : va_P D cl0 [(a31, .inl (k 1, 9, .inr (.inl (tL [(-1), 0, 0, 1] 0)))), (a2, .inl (k 1, 36, .inr (.inl (tL [(-1), 0, 0, 1, 0, 0, 0, 0, 0] 0)))), (a1, .inr (4, [.int 2, .int 1, .int 1, .ref a2])), (a0, .inr (7, [.ref a1, .ref a3, .int 0, .ref a5, .ref a8, .ref a9, .int 0, .ref a18, .int 0, .null, .ref a27, .int 0, .ref a28, .ref a29, .ref a30, .ref a31, .ref a32])), (a27, .inl (k 0, 8, .inl (tI [] 0)))] H := hP
          have hD : va_D A [(a31, .inl (k 1, 9, .inr (.inl (tL [(-1), 0, 0, 1] 0)))), (a2, .inl (k 1, 36, .inr (.inl (tL [(-1), 0, 0, 1, 0, 0, 0, 0, 0] 0)))), (a1, .inr (4, [.int 2, .int 1, .int 1, .ref a2])), (a0, .inr (7, [.ref a1, .ref a3, .int 0, .ref a5, .ref a8, .ref a9, .int 0, .ref a18, .int 0, .null, .ref a27, .int 0, .ref a28, .ref a29, .ref a30, .ref a31, .ref a32])), (a27, .inl (k 0, 8, .inl (tI [] 0)))] := hD
          exact retI (v := 0) hx hb hr hlocks hS (show (0 : Int32) = F_unit 0 0 (-1) by first | decide +kernel | (have g_m1 : ((-1) : Int32).toInt = (-1) := (by decide +kernel); have g_0 : (0 : Int32).toInt = 0 := (by decide +kernel); unfold F_unit; (repeat (first | rw [if_pos (by omega)] | rw [if_neg (by omega)])))) dX10_unit_51
      · skip
        obtain rfl : x1 = 1 := eq32 hsp (by decide +kernel)
        refine lv_icmp_ne (tgt := 21) hx hb dX10_unit_14 (by decide) (fun _ => ?_) (fun cc => absurd cc (by decide +kernel))
        refine lv_iconst (v := 0) hx hb dX10_unit_21 (by decide) ?_
        refine lv_iload_n hx hb dX10_unit_22 rfl (lv_at hl 3 rfl) ?_
        refine cI (rS (As := [.int 0, .int x2]) (rest := []) (wc := []) hx hb hml hown hU hK hP hD [] rfl (by decide) (cX10_fitsUnit_2 l D k _ (x2)) w322 w320 w321 w63 hdX10_fitsUnit ⟨rfl, rfl⟩ ⟨Nat.le_of_ble_eq_true rfl, Nat.le_of_ble_eq_true rfl⟩ rfl hl.1 (Nat.le_of_ble_eq_true rfl) dX10_unit_23 ⟨Nat.le_of_ble_eq_true rfl, Nat.le_of_ble_eq_true rfl⟩) hP hD hS hA (wr := [(a0, .inr (7, [.ref a1, .ref a3, .int 0, .ref a5, .ref a8, .ref a9, .int 0, .ref a18, .int 0, .null, .ref a27, .int 0, .ref a28, .ref a29, .ref a30, .ref a31, .ref a32])), (a2, .inl (k 1, 36, .inr (.inl (tL [] 0)))), (a27, .inl (k 0, 8, .inl (tI [] 0))), (a31, .inl (k 1, 9, .inr (.inl (tL [] 0)))), (a1, .inr (4, [.int 2, .int 0, .int 1, .ref a2]))]) [] [0, 1, 2, 3, 4] rfl rfl (by decide) (by decide) (fun r25 H locs hB J hS => ?_)
        rcases hB with ⟨c_26, rfl, hP1, hD1⟩ | ⟨c_27, c_28, rfl, hP1, hD1⟩ | ⟨c_29, c_30, rfl, hP1, hD1⟩
        · skip
          obtain ⟨hP, hD⟩ := J _ hP1 hD1
          have hP : va_P D cl0 [(a0, .inr (7, [.ref a1, .ref a3, .int 0, .ref a5, .ref a8, .ref a9, .int 0, .ref a18, .int 0, .null, .ref a27, .int 0, .ref a28, .ref a29, .ref a30, .ref a31, .ref a32])), (a2, .inl (k 1, 36, .inr (.inl (tL [] 0)))), (a27, .inl (k 0, 8, .inl (tI [] 0))), (a31, .inl (k 1, 9, .inr (.inl (tL [] 0)))), (a1, .inr (4, [.int 2, .int 0, .int 1, .ref a2]))] H := hP
          have hD : va_D A [(a0, .inr (7, [.ref a1, .ref a3, .int 0, .ref a5, .ref a8, .ref a9, .int 0, .ref a18, .int 0, .null, .ref a27, .int 0, .ref a28, .ref a29, .ref a30, .ref a31, .ref a32])), (a2, .inl (k 1, 36, .inr (.inl (tL [] 0)))), (a27, .inl (k 0, 8, .inl (tI [] 0))), (a31, .inl (k 1, 9, .inr (.inl (tL [] 0)))), (a1, .inr (4, [.int 2, .int 0, .int 1, .ref a2]))] := hD
          refine lv_if_ne (tgt := 31) hx hb dX10_unit_26 (by decide) (fun cc => absurd (by decide +kernel) cc) (fun _ => ?_)
          refine lv_iconst (v := (-1)) hx hb dX10_unit_29 (by decide) ?_
          exact retI (v := (-1)) hx hb hr hlocks hS (show ((-1) : Int32) = F_unit 0 1 x2 by first | decide +kernel | (have f4 := cv_lt (x := x2.toInt) (y := (-99)) c_26 rfl (by decide +kernel); have g_0 : (0 : Int32).toInt = 0 := (by decide +kernel); have g_1 : (1 : Int32).toInt = 1 := (by decide +kernel); unfold F_unit; (repeat (first | rw [if_pos (by omega)] | rw [if_neg (by omega)])))) dX10_unit_30
        · skip
          obtain ⟨hP, hD⟩ := J _ hP1 hD1
          have hP : va_P D cl0 [(a0, .inr (7, [.ref a1, .ref a3, .int 0, .ref a5, .ref a8, .ref a9, .int 0, .ref a18, .int 0, .null, .ref a27, .int 0, .ref a28, .ref a29, .ref a30, .ref a31, .ref a32])), (a2, .inl (k 1, 36, .inr (.inl (tL [] 0)))), (a27, .inl (k 0, 8, .inl (tI [] 0))), (a31, .inl (k 1, 9, .inr (.inl (tL [] 0)))), (a1, .inr (4, [.int 2, .int 0, .int 1, .ref a2]))] H := hP
          have hD : va_D A [(a0, .inr (7, [.ref a1, .ref a3, .int 0, .ref a5, .ref a8, .ref a9, .int 0, .ref a18, .int 0, .null, .ref a27, .int 0, .ref a28, .ref a29, .ref a30, .ref a31, .ref a32])), (a2, .inl (k 1, 36, .inr (.inl (tL [] 0)))), (a27, .inl (k 0, 8, .inl (tI [] 0))), (a31, .inl (k 1, 9, .inr (.inl (tL [] 0)))), (a1, .inr (4, [.int 2, .int 0, .int 1, .ref a2]))] := hD
          refine lv_if_ne (tgt := 31) hx hb dX10_unit_26 (by decide) (fun cc => absurd (by decide +kernel) cc) (fun _ => ?_)
          refine lv_iconst (v := (-1)) hx hb dX10_unit_29 (by decide) ?_
          exact retI (v := (-1)) hx hb hr hlocks hS (show ((-1) : Int32) = F_unit 0 1 x2 by first | decide +kernel | (have f4 := cv_nlt (x := x2.toInt) (y := (-99)) c_27 rfl (by decide +kernel); have f5 := cv_lt (x := 99) (y := x2.toInt) c_28 (by decide +kernel) rfl; have g_0 : (0 : Int32).toInt = 0 := (by decide +kernel); have g_1 : (1 : Int32).toInt = 1 := (by decide +kernel); unfold F_unit; (repeat (first | rw [if_pos (by omega)] | rw [if_neg (by omega)])))) dX10_unit_30
        · skip
          obtain ⟨hP, hD⟩ := J _ hP1 hD1
          have hP : va_P D cl0 [(a0, .inr (7, [.ref a1, .ref a3, .int 0, .ref a5, .ref a8, .ref a9, .int 0, .ref a18, .int 0, .null, .ref a27, .int 0, .ref a28, .ref a29, .ref a30, .ref a31, .ref a32])), (a2, .inl (k 1, 36, .inr (.inl (tL [] 0)))), (a27, .inl (k 0, 8, .inl (tI [] 0))), (a31, .inl (k 1, 9, .inr (.inl (tL [] 0)))), (a1, .inr (4, [.int 2, .int 0, .int 1, .ref a2]))] H := hP
          have hD : va_D A [(a0, .inr (7, [.ref a1, .ref a3, .int 0, .ref a5, .ref a8, .ref a9, .int 0, .ref a18, .int 0, .null, .ref a27, .int 0, .ref a28, .ref a29, .ref a30, .ref a31, .ref a32])), (a2, .inl (k 1, 36, .inr (.inl (tL [] 0)))), (a27, .inl (k 0, 8, .inl (tI [] 0))), (a31, .inl (k 1, 9, .inr (.inl (tL [] 0)))), (a1, .inr (4, [.int 2, .int 0, .int 1, .ref a2]))] := hD
          refine lv_if_ne (tgt := 31) hx hb dX10_unit_26 (by decide) (fun _ => ?_) (fun cc => absurd cc (by decide +kernel))
          refine lv_aload_n hx hb dX10_unit_31 rfl (lv_at hl 0 rfl) ?_
          refine va_get (D := D) (ci := 7) (v := .ref a1) (C := RX10) (T := TX10) (N := 17) hx hb hU iX10 hown hK.1 hP 0 rfl rfl 0 (by decide) (hU _ w249) (fun _ h9 => h9) rfl dX10_unit_32 ?_
          refine cI (rV (q0 := 4) (ci := 4) (As := []) (rest := []) (wc := [(a1, .inr (4, [.int 2, .int 0, .int 1, .ref a2]))]) hx hb hml hown hU hK hP hD rfl rfl [4] rfl (by decide) (cX5_isFull_1 l D k _ a1 a2) w326 w323 w324 w325 w64 hdX5_isFull ⟨rfl, rfl⟩ ⟨Nat.le_of_ble_eq_true rfl, Nat.le_of_ble_eq_true rfl⟩ rfl hl.1 (Nat.le_of_ble_eq_true rfl) dX10_unit_35 ⟨Nat.le_of_ble_eq_true rfl, Nat.le_of_ble_eq_true rfl⟩) hP hD hS hA (wr := [(a0, .inr (7, [.ref a1, .ref a3, .int 0, .ref a5, .ref a8, .ref a9, .int 0, .ref a18, .int 0, .null, .ref a27, .int 0, .ref a28, .ref a29, .ref a30, .ref a31, .ref a32])), (a2, .inl (k 1, 36, .inr (.inl (tL [] 0)))), (a27, .inl (k 0, 8, .inl (tI [] 0))), (a31, .inl (k 1, 9, .inr (.inl (tL [] 0))))]) [4] [0, 1, 2, 3] rfl rfl (by decide) (by decide) (fun r31 H locs hB J hS => ?_)
          obtain ⟨rfl, hP1, hD1⟩ := hB
          obtain ⟨hP, hD⟩ := J _ hP1 hD1
          have hP : va_P D cl0 [(a0, .inr (7, [.ref a1, .ref a3, .int 0, .ref a5, .ref a8, .ref a9, .int 0, .ref a18, .int 0, .null, .ref a27, .int 0, .ref a28, .ref a29, .ref a30, .ref a31, .ref a32])), (a2, .inl (k 1, 36, .inr (.inl (tL [] 0)))), (a27, .inl (k 0, 8, .inl (tI [] 0))), (a31, .inl (k 1, 9, .inr (.inl (tL [] 0)))), (a1, .inr (4, [.int 2, .int 0, .int 1, .ref a2]))] H := hP
          have hD : va_D A [(a0, .inr (7, [.ref a1, .ref a3, .int 0, .ref a5, .ref a8, .ref a9, .int 0, .ref a18, .int 0, .null, .ref a27, .int 0, .ref a28, .ref a29, .ref a30, .ref a31, .ref a32])), (a2, .inl (k 1, 36, .inr (.inl (tL [] 0)))), (a27, .inl (k 0, 8, .inl (tI [] 0))), (a31, .inl (k 1, 9, .inr (.inl (tL [] 0)))), (a1, .inr (4, [.int 2, .int 0, .int 1, .ref a2]))] := hD
          refine lv_if_eq (tgt := 44) hx hb dX10_unit_38 (by decide) (fun _ => ?_) (fun cc => absurd (by decide +kernel) cc)
          refine lv_aload_n hx hb dX10_unit_44 rfl (lv_at hl 0 rfl) ?_
          refine lv_iload_n hx hb dX10_unit_45 rfl (lv_at hl 1 rfl) ?_
          refine lv_iload_n hx hb dX10_unit_46 rfl (lv_at hl 2 rfl) ?_
          refine lv_iload_n hx hb dX10_unit_47 rfl (lv_at hl 3 rfl) ?_
          refine cI (rV (q0 := 0) (ci := 7) (As := [.int 0, .int 1, .int x2]) (rest := []) (wc := [(a0, .inr (7, [.ref a1, .ref a3, .int 0, .ref a5, .ref a8, .ref a9, .int 0, .ref a18, .int 0, .null, .ref a27, .int 0, .ref a28, .ref a29, .ref a30, .ref a31, .ref a32])), (a1, .inr (4, [.int 2, .int 0, .int 1, .ref a2])), (a31, .inl (k 1, 9, .inr (.inl (tL [] 0)))), (a2, .inl (k 1, 36, .inr (.inl (tL [] 0)))), (a27, .inl (k 0, 8, .inl (tI [] 0)))]) hx hb hml hown hU hK hP hD rfl rfl [0, 4, 3, 1, 2] rfl (by decide) (cX10_addUnit_3 l D k _ a0 a1 a31 a2 a27 a3 a5 a8 a9 a18 a28 a29 a30 a32 (x2)) w330 w327 w329 w1 w63 hdX10_addUnit ⟨rfl, rfl⟩ ⟨Nat.le_of_ble_eq_true rfl, Nat.le_of_ble_eq_true rfl⟩ rfl hl.1 (Nat.le_of_ble_eq_true rfl) dX10_unit_48 ⟨Nat.le_of_ble_eq_true rfl, Nat.le_of_ble_eq_true rfl⟩) hP hD hS hA (wr := []) [0, 4, 3, 1, 2] [] rfl rfl (by decide) (by decide) (fun r32 H locs hB J hS => ?_)
          obtain ⟨rfl, hP1, hD1⟩ := hB
          obtain ⟨hP, hD⟩ := J _ hP1 hD1
          have hP : va_P D cl0 [(a31, .inl (k 1, 9, .inr (.inl (tL [1, x2.toInt64, 0, 1] 0)))), (a2, .inl (k 1, 36, .inr (.inl (tL [1, x2.toInt64, 0, 1, 0, 0, 0, 0, 0] 0)))), (a1, .inr (4, [.int 2, .int 1, .int 1, .ref a2])), (a0, .inr (7, [.ref a1, .ref a3, .int 0, .ref a5, .ref a8, .ref a9, .int 0, .ref a18, .int 0, .null, .ref a27, .int 0, .ref a28, .ref a29, .ref a30, .ref a31, .ref a32])), (a27, .inl (k 0, 8, .inl (tI [] 0)))] H := hP
          have hD : va_D A [(a31, .inl (k 1, 9, .inr (.inl (tL [1, x2.toInt64, 0, 1] 0)))), (a2, .inl (k 1, 36, .inr (.inl (tL [1, x2.toInt64, 0, 1, 0, 0, 0, 0, 0] 0)))), (a1, .inr (4, [.int 2, .int 1, .int 1, .ref a2])), (a0, .inr (7, [.ref a1, .ref a3, .int 0, .ref a5, .ref a8, .ref a9, .int 0, .ref a18, .int 0, .null, .ref a27, .int 0, .ref a28, .ref a29, .ref a30, .ref a31, .ref a32])), (a27, .inl (k 0, 8, .inl (tI [] 0)))] := hD
          exact retI (v := 0) hx hb hr hlocks hS (show (0 : Int32) = F_unit 0 1 x2 by first | decide +kernel | (have f4 := cv_nlt (x := x2.toInt) (y := (-99)) c_29 rfl (by decide +kernel); have f5 := cv_nlt (x := 99) (y := x2.toInt) c_30 (by decide +kernel) rfl; have g_0 : (0 : Int32).toInt = 0 := (by decide +kernel); have g_1 : (1 : Int32).toInt = 1 := (by decide +kernel); unfold F_unit; (repeat (first | rw [if_pos (by omega)] | rw [if_neg (by omega)])))) dX10_unit_51
    · skip
      obtain rfl : x0 = 1 := eq32 hsp (by decide +kernel)
      have hsp : x1.toInt = 0 ∨ x1.toInt = 1 := by
        have f2 := cv_nlt (x := x1.toInt) (y := 0) c_14 rfl (by decide +kernel)
        have f3 := cv_nle (x := 2) (y := x1.toInt) c_15 (by decide +kernel) rfl
        have g_1 : (1 : Int32).toInt = 1 := (by decide +kernel)
        omega
      rcases hsp with hsp | hsp
      · skip
        obtain rfl : x1 = 0 := eq32 hsp (by decide +kernel)
        refine lv_icmp_ne (tgt := 21) hx hb dX10_unit_14 (by decide) (fun _ => ?_) (fun cc => absurd cc (by decide +kernel))
        refine lv_iconst (v := 0) hx hb dX10_unit_21 (by decide) ?_
        refine lv_iload_n hx hb dX10_unit_22 rfl (lv_at hl 3 rfl) ?_
        refine cI (rS (As := [.int 0, .int x2]) (rest := []) (wc := []) hx hb hml hown hU hK hP hD [] rfl (by decide) (cX10_fitsUnit_2 l D k _ (x2)) w322 w320 w321 w63 hdX10_fitsUnit ⟨rfl, rfl⟩ ⟨Nat.le_of_ble_eq_true rfl, Nat.le_of_ble_eq_true rfl⟩ rfl hl.1 (Nat.le_of_ble_eq_true rfl) dX10_unit_23 ⟨Nat.le_of_ble_eq_true rfl, Nat.le_of_ble_eq_true rfl⟩) hP hD hS hA (wr := [(a0, .inr (7, [.ref a1, .ref a3, .int 0, .ref a5, .ref a8, .ref a9, .int 0, .ref a18, .int 0, .null, .ref a27, .int 0, .ref a28, .ref a29, .ref a30, .ref a31, .ref a32])), (a2, .inl (k 1, 36, .inr (.inl (tL [] 0)))), (a27, .inl (k 0, 8, .inl (tI [] 0))), (a31, .inl (k 1, 9, .inr (.inl (tL [] 0)))), (a1, .inr (4, [.int 2, .int 0, .int 1, .ref a2]))]) [] [0, 1, 2, 3, 4] rfl rfl (by decide) (by decide) (fun r33 H locs hB J hS => ?_)
        rcases hB with ⟨c_34, rfl, hP1, hD1⟩ | ⟨c_35, c_36, rfl, hP1, hD1⟩ | ⟨c_37, c_38, rfl, hP1, hD1⟩
        · skip
          obtain ⟨hP, hD⟩ := J _ hP1 hD1
          have hP : va_P D cl0 [(a0, .inr (7, [.ref a1, .ref a3, .int 0, .ref a5, .ref a8, .ref a9, .int 0, .ref a18, .int 0, .null, .ref a27, .int 0, .ref a28, .ref a29, .ref a30, .ref a31, .ref a32])), (a2, .inl (k 1, 36, .inr (.inl (tL [] 0)))), (a27, .inl (k 0, 8, .inl (tI [] 0))), (a31, .inl (k 1, 9, .inr (.inl (tL [] 0)))), (a1, .inr (4, [.int 2, .int 0, .int 1, .ref a2]))] H := hP
          have hD : va_D A [(a0, .inr (7, [.ref a1, .ref a3, .int 0, .ref a5, .ref a8, .ref a9, .int 0, .ref a18, .int 0, .null, .ref a27, .int 0, .ref a28, .ref a29, .ref a30, .ref a31, .ref a32])), (a2, .inl (k 1, 36, .inr (.inl (tL [] 0)))), (a27, .inl (k 0, 8, .inl (tI [] 0))), (a31, .inl (k 1, 9, .inr (.inl (tL [] 0)))), (a1, .inr (4, [.int 2, .int 0, .int 1, .ref a2]))] := hD
          refine lv_if_ne (tgt := 31) hx hb dX10_unit_26 (by decide) (fun cc => absurd (by decide +kernel) cc) (fun _ => ?_)
          refine lv_iconst (v := (-1)) hx hb dX10_unit_29 (by decide) ?_
          exact retI (v := (-1)) hx hb hr hlocks hS (show ((-1) : Int32) = F_unit 1 0 x2 by first | decide +kernel | (have f4 := cv_lt (x := x2.toInt) (y := (-99)) c_34 rfl (by decide +kernel); have g_0 : (0 : Int32).toInt = 0 := (by decide +kernel); have g_1 : (1 : Int32).toInt = 1 := (by decide +kernel); unfold F_unit; (repeat (first | rw [if_pos (by omega)] | rw [if_neg (by omega)])))) dX10_unit_30
        · skip
          obtain ⟨hP, hD⟩ := J _ hP1 hD1
          have hP : va_P D cl0 [(a0, .inr (7, [.ref a1, .ref a3, .int 0, .ref a5, .ref a8, .ref a9, .int 0, .ref a18, .int 0, .null, .ref a27, .int 0, .ref a28, .ref a29, .ref a30, .ref a31, .ref a32])), (a2, .inl (k 1, 36, .inr (.inl (tL [] 0)))), (a27, .inl (k 0, 8, .inl (tI [] 0))), (a31, .inl (k 1, 9, .inr (.inl (tL [] 0)))), (a1, .inr (4, [.int 2, .int 0, .int 1, .ref a2]))] H := hP
          have hD : va_D A [(a0, .inr (7, [.ref a1, .ref a3, .int 0, .ref a5, .ref a8, .ref a9, .int 0, .ref a18, .int 0, .null, .ref a27, .int 0, .ref a28, .ref a29, .ref a30, .ref a31, .ref a32])), (a2, .inl (k 1, 36, .inr (.inl (tL [] 0)))), (a27, .inl (k 0, 8, .inl (tI [] 0))), (a31, .inl (k 1, 9, .inr (.inl (tL [] 0)))), (a1, .inr (4, [.int 2, .int 0, .int 1, .ref a2]))] := hD
          refine lv_if_ne (tgt := 31) hx hb dX10_unit_26 (by decide) (fun cc => absurd (by decide +kernel) cc) (fun _ => ?_)
          refine lv_iconst (v := (-1)) hx hb dX10_unit_29 (by decide) ?_
          exact retI (v := (-1)) hx hb hr hlocks hS (show ((-1) : Int32) = F_unit 1 0 x2 by first | decide +kernel | (have f4 := cv_nlt (x := x2.toInt) (y := (-99)) c_35 rfl (by decide +kernel); have f5 := cv_lt (x := 99) (y := x2.toInt) c_36 (by decide +kernel) rfl; have g_0 : (0 : Int32).toInt = 0 := (by decide +kernel); have g_1 : (1 : Int32).toInt = 1 := (by decide +kernel); unfold F_unit; (repeat (first | rw [if_pos (by omega)] | rw [if_neg (by omega)])))) dX10_unit_30
        · skip
          obtain ⟨hP, hD⟩ := J _ hP1 hD1
          have hP : va_P D cl0 [(a0, .inr (7, [.ref a1, .ref a3, .int 0, .ref a5, .ref a8, .ref a9, .int 0, .ref a18, .int 0, .null, .ref a27, .int 0, .ref a28, .ref a29, .ref a30, .ref a31, .ref a32])), (a2, .inl (k 1, 36, .inr (.inl (tL [] 0)))), (a27, .inl (k 0, 8, .inl (tI [] 0))), (a31, .inl (k 1, 9, .inr (.inl (tL [] 0)))), (a1, .inr (4, [.int 2, .int 0, .int 1, .ref a2]))] H := hP
          have hD : va_D A [(a0, .inr (7, [.ref a1, .ref a3, .int 0, .ref a5, .ref a8, .ref a9, .int 0, .ref a18, .int 0, .null, .ref a27, .int 0, .ref a28, .ref a29, .ref a30, .ref a31, .ref a32])), (a2, .inl (k 1, 36, .inr (.inl (tL [] 0)))), (a27, .inl (k 0, 8, .inl (tI [] 0))), (a31, .inl (k 1, 9, .inr (.inl (tL [] 0)))), (a1, .inr (4, [.int 2, .int 0, .int 1, .ref a2]))] := hD
          refine lv_if_ne (tgt := 31) hx hb dX10_unit_26 (by decide) (fun _ => ?_) (fun cc => absurd cc (by decide +kernel))
          refine lv_aload_n hx hb dX10_unit_31 rfl (lv_at hl 0 rfl) ?_
          refine va_get (D := D) (ci := 7) (v := .ref a1) (C := RX10) (T := TX10) (N := 17) hx hb hU iX10 hown hK.1 hP 0 rfl rfl 0 (by decide) (hU _ w249) (fun _ h9 => h9) rfl dX10_unit_32 ?_
          refine cI (rV (q0 := 4) (ci := 4) (As := []) (rest := []) (wc := [(a1, .inr (4, [.int 2, .int 0, .int 1, .ref a2]))]) hx hb hml hown hU hK hP hD rfl rfl [4] rfl (by decide) (cX5_isFull_1 l D k _ a1 a2) w326 w323 w324 w325 w64 hdX5_isFull ⟨rfl, rfl⟩ ⟨Nat.le_of_ble_eq_true rfl, Nat.le_of_ble_eq_true rfl⟩ rfl hl.1 (Nat.le_of_ble_eq_true rfl) dX10_unit_35 ⟨Nat.le_of_ble_eq_true rfl, Nat.le_of_ble_eq_true rfl⟩) hP hD hS hA (wr := [(a0, .inr (7, [.ref a1, .ref a3, .int 0, .ref a5, .ref a8, .ref a9, .int 0, .ref a18, .int 0, .null, .ref a27, .int 0, .ref a28, .ref a29, .ref a30, .ref a31, .ref a32])), (a2, .inl (k 1, 36, .inr (.inl (tL [] 0)))), (a27, .inl (k 0, 8, .inl (tI [] 0))), (a31, .inl (k 1, 9, .inr (.inl (tL [] 0))))]) [4] [0, 1, 2, 3] rfl rfl (by decide) (by decide) (fun r39 H locs hB J hS => ?_)
          obtain ⟨rfl, hP1, hD1⟩ := hB
          obtain ⟨hP, hD⟩ := J _ hP1 hD1
          have hP : va_P D cl0 [(a0, .inr (7, [.ref a1, .ref a3, .int 0, .ref a5, .ref a8, .ref a9, .int 0, .ref a18, .int 0, .null, .ref a27, .int 0, .ref a28, .ref a29, .ref a30, .ref a31, .ref a32])), (a2, .inl (k 1, 36, .inr (.inl (tL [] 0)))), (a27, .inl (k 0, 8, .inl (tI [] 0))), (a31, .inl (k 1, 9, .inr (.inl (tL [] 0)))), (a1, .inr (4, [.int 2, .int 0, .int 1, .ref a2]))] H := hP
          have hD : va_D A [(a0, .inr (7, [.ref a1, .ref a3, .int 0, .ref a5, .ref a8, .ref a9, .int 0, .ref a18, .int 0, .null, .ref a27, .int 0, .ref a28, .ref a29, .ref a30, .ref a31, .ref a32])), (a2, .inl (k 1, 36, .inr (.inl (tL [] 0)))), (a27, .inl (k 0, 8, .inl (tI [] 0))), (a31, .inl (k 1, 9, .inr (.inl (tL [] 0)))), (a1, .inr (4, [.int 2, .int 0, .int 1, .ref a2]))] := hD
          refine lv_if_eq (tgt := 44) hx hb dX10_unit_38 (by decide) (fun _ => ?_) (fun cc => absurd (by decide +kernel) cc)
          refine lv_aload_n hx hb dX10_unit_44 rfl (lv_at hl 0 rfl) ?_
          refine lv_iload_n hx hb dX10_unit_45 rfl (lv_at hl 1 rfl) ?_
          refine lv_iload_n hx hb dX10_unit_46 rfl (lv_at hl 2 rfl) ?_
          refine lv_iload_n hx hb dX10_unit_47 rfl (lv_at hl 3 rfl) ?_
          refine cI (rV (q0 := 0) (ci := 7) (As := [.int 1, .int 0, .int x2]) (rest := []) (wc := [(a0, .inr (7, [.ref a1, .ref a3, .int 0, .ref a5, .ref a8, .ref a9, .int 0, .ref a18, .int 0, .null, .ref a27, .int 0, .ref a28, .ref a29, .ref a30, .ref a31, .ref a32])), (a1, .inr (4, [.int 2, .int 0, .int 1, .ref a2])), (a31, .inl (k 1, 9, .inr (.inl (tL [] 0)))), (a2, .inl (k 1, 36, .inr (.inl (tL [] 0)))), (a27, .inl (k 0, 8, .inl (tI [] 0)))]) hx hb hml hown hU hK hP hD rfl rfl [0, 4, 3, 1, 2] rfl (by decide) (cX10_addUnit_4 l D k _ a0 a1 a31 a2 a27 a3 a5 a8 a9 a18 a28 a29 a30 a32 (x2)) w330 w327 w329 w1 w63 hdX10_addUnit ⟨rfl, rfl⟩ ⟨Nat.le_of_ble_eq_true rfl, Nat.le_of_ble_eq_true rfl⟩ rfl hl.1 (Nat.le_of_ble_eq_true rfl) dX10_unit_48 ⟨Nat.le_of_ble_eq_true rfl, Nat.le_of_ble_eq_true rfl⟩) hP hD hS hA (wr := []) [0, 4, 3, 1, 2] [] rfl rfl (by decide) (by decide) (fun r40 H locs hB J hS => ?_)
          obtain ⟨rfl, hP1, hD1⟩ := hB
          obtain ⟨hP, hD⟩ := J _ hP1 hD1
          have hP : va_P D cl0 [(a31, .inl (k 1, 9, .inr (.inl (tL [1, 0, x2.toInt64, 1] 0)))), (a2, .inl (k 1, 36, .inr (.inl (tL [1, 0, x2.toInt64, 1, 0, 0, 0, 0, 0] 0)))), (a1, .inr (4, [.int 2, .int 1, .int 1, .ref a2])), (a0, .inr (7, [.ref a1, .ref a3, .int 0, .ref a5, .ref a8, .ref a9, .int 0, .ref a18, .int 0, .null, .ref a27, .int 0, .ref a28, .ref a29, .ref a30, .ref a31, .ref a32])), (a27, .inl (k 0, 8, .inl (tI [] 0)))] H := hP
          have hD : va_D A [(a31, .inl (k 1, 9, .inr (.inl (tL [1, 0, x2.toInt64, 1] 0)))), (a2, .inl (k 1, 36, .inr (.inl (tL [1, 0, x2.toInt64, 1, 0, 0, 0, 0, 0] 0)))), (a1, .inr (4, [.int 2, .int 1, .int 1, .ref a2])), (a0, .inr (7, [.ref a1, .ref a3, .int 0, .ref a5, .ref a8, .ref a9, .int 0, .ref a18, .int 0, .null, .ref a27, .int 0, .ref a28, .ref a29, .ref a30, .ref a31, .ref a32])), (a27, .inl (k 0, 8, .inl (tI [] 0)))] := hD
          exact retI (v := 0) hx hb hr hlocks hS (show (0 : Int32) = F_unit 1 0 x2 by first | decide +kernel | (have f4 := cv_nlt (x := x2.toInt) (y := (-99)) c_37 rfl (by decide +kernel); have f5 := cv_nlt (x := 99) (y := x2.toInt) c_38 (by decide +kernel) rfl; have g_0 : (0 : Int32).toInt = 0 := (by decide +kernel); have g_1 : (1 : Int32).toInt = 1 := (by decide +kernel); unfold F_unit; (repeat (first | rw [if_pos (by omega)] | rw [if_neg (by omega)])))) dX10_unit_51
      · skip
        obtain rfl : x1 = 1 := eq32 hsp (by decide +kernel)
        refine lv_icmp_ne (tgt := 21) hx hb dX10_unit_14 (by decide) (fun cc => absurd (by decide +kernel) cc) (fun _ => ?_)
        refine lv_iconst (v := 1) hx hb dX10_unit_17 (by decide) ?_
        refine lv_goto (tgt := 22) hx hb dX10_unit_18 (by decide) ?_
        refine lv_iload_n hx hb dX10_unit_22 rfl (lv_at hl 3 rfl) ?_
        refine cI (rS (As := [.int 1, .int x2]) (rest := []) (wc := []) hx hb hml hown hU hK hP hD [] rfl (by decide) (cX10_fitsUnit_1 l D k _ (x2)) w322 w320 w321 w63 hdX10_fitsUnit ⟨rfl, rfl⟩ ⟨Nat.le_of_ble_eq_true rfl, Nat.le_of_ble_eq_true rfl⟩ rfl hl.1 (Nat.le_of_ble_eq_true rfl) dX10_unit_23 ⟨Nat.le_of_ble_eq_true rfl, Nat.le_of_ble_eq_true rfl⟩) hP hD hS hA (wr := [(a0, .inr (7, [.ref a1, .ref a3, .int 0, .ref a5, .ref a8, .ref a9, .int 0, .ref a18, .int 0, .null, .ref a27, .int 0, .ref a28, .ref a29, .ref a30, .ref a31, .ref a32])), (a2, .inl (k 1, 36, .inr (.inl (tL [] 0)))), (a27, .inl (k 0, 8, .inl (tI [] 0))), (a31, .inl (k 1, 9, .inr (.inl (tL [] 0)))), (a1, .inr (4, [.int 2, .int 0, .int 1, .ref a2]))]) [] [0, 1, 2, 3, 4] rfl rfl (by decide) (by decide) (fun r41 H locs hB J hS => ?_)
        rcases hB with ⟨c_42, rfl, hP1, hD1⟩ | ⟨c_43, c_44, rfl, hP1, hD1⟩ | ⟨c_45, rfl, hP1, hD1⟩
        · skip
          obtain ⟨hP, hD⟩ := J _ hP1 hD1
          have hP : va_P D cl0 [(a0, .inr (7, [.ref a1, .ref a3, .int 0, .ref a5, .ref a8, .ref a9, .int 0, .ref a18, .int 0, .null, .ref a27, .int 0, .ref a28, .ref a29, .ref a30, .ref a31, .ref a32])), (a2, .inl (k 1, 36, .inr (.inl (tL [] 0)))), (a27, .inl (k 0, 8, .inl (tI [] 0))), (a31, .inl (k 1, 9, .inr (.inl (tL [] 0)))), (a1, .inr (4, [.int 2, .int 0, .int 1, .ref a2]))] H := hP
          have hD : va_D A [(a0, .inr (7, [.ref a1, .ref a3, .int 0, .ref a5, .ref a8, .ref a9, .int 0, .ref a18, .int 0, .null, .ref a27, .int 0, .ref a28, .ref a29, .ref a30, .ref a31, .ref a32])), (a2, .inl (k 1, 36, .inr (.inl (tL [] 0)))), (a27, .inl (k 0, 8, .inl (tI [] 0))), (a31, .inl (k 1, 9, .inr (.inl (tL [] 0)))), (a1, .inr (4, [.int 2, .int 0, .int 1, .ref a2]))] := hD
          subst c_42
          refine lv_if_ne (tgt := 31) hx hb dX10_unit_26 (by decide) (fun _ => ?_) (fun cc => absurd cc (by decide +kernel))
          refine lv_aload_n hx hb dX10_unit_31 rfl (lv_at hl 0 rfl) ?_
          refine va_get (D := D) (ci := 7) (v := .ref a1) (C := RX10) (T := TX10) (N := 17) hx hb hU iX10 hown hK.1 hP 0 rfl rfl 0 (by decide) (hU _ w249) (fun _ h9 => h9) rfl dX10_unit_32 ?_
          refine cI (rV (q0 := 4) (ci := 4) (As := []) (rest := []) (wc := [(a1, .inr (4, [.int 2, .int 0, .int 1, .ref a2]))]) hx hb hml hown hU hK hP hD rfl rfl [4] rfl (by decide) (cX5_isFull_1 l D k _ a1 a2) w326 w323 w324 w325 w64 hdX5_isFull ⟨rfl, rfl⟩ ⟨Nat.le_of_ble_eq_true rfl, Nat.le_of_ble_eq_true rfl⟩ rfl hl.1 (Nat.le_of_ble_eq_true rfl) dX10_unit_35 ⟨Nat.le_of_ble_eq_true rfl, Nat.le_of_ble_eq_true rfl⟩) hP hD hS hA (wr := [(a0, .inr (7, [.ref a1, .ref a3, .int 0, .ref a5, .ref a8, .ref a9, .int 0, .ref a18, .int 0, .null, .ref a27, .int 0, .ref a28, .ref a29, .ref a30, .ref a31, .ref a32])), (a2, .inl (k 1, 36, .inr (.inl (tL [] 0)))), (a27, .inl (k 0, 8, .inl (tI [] 0))), (a31, .inl (k 1, 9, .inr (.inl (tL [] 0))))]) [4] [0, 1, 2, 3] rfl rfl (by decide) (by decide) (fun r46 H locs hB J hS => ?_)
          obtain ⟨rfl, hP1, hD1⟩ := hB
          obtain ⟨hP, hD⟩ := J _ hP1 hD1
          have hP : va_P D cl0 [(a0, .inr (7, [.ref a1, .ref a3, .int 0, .ref a5, .ref a8, .ref a9, .int 0, .ref a18, .int 0, .null, .ref a27, .int 0, .ref a28, .ref a29, .ref a30, .ref a31, .ref a32])), (a2, .inl (k 1, 36, .inr (.inl (tL [] 0)))), (a27, .inl (k 0, 8, .inl (tI [] 0))), (a31, .inl (k 1, 9, .inr (.inl (tL [] 0)))), (a1, .inr (4, [.int 2, .int 0, .int 1, .ref a2]))] H := hP
          have hD : va_D A [(a0, .inr (7, [.ref a1, .ref a3, .int 0, .ref a5, .ref a8, .ref a9, .int 0, .ref a18, .int 0, .null, .ref a27, .int 0, .ref a28, .ref a29, .ref a30, .ref a31, .ref a32])), (a2, .inl (k 1, 36, .inr (.inl (tL [] 0)))), (a27, .inl (k 0, 8, .inl (tI [] 0))), (a31, .inl (k 1, 9, .inr (.inl (tL [] 0)))), (a1, .inr (4, [.int 2, .int 0, .int 1, .ref a2]))] := hD
          refine lv_if_eq (tgt := 44) hx hb dX10_unit_38 (by decide) (fun _ => ?_) (fun cc => absurd (by decide +kernel) cc)
          refine lv_aload_n hx hb dX10_unit_44 rfl (lv_at hl 0 rfl) ?_
          refine lv_iload_n hx hb dX10_unit_45 rfl (lv_at hl 1 rfl) ?_
          refine lv_iload_n hx hb dX10_unit_46 rfl (lv_at hl 2 rfl) ?_
          refine lv_iload_n hx hb dX10_unit_47 rfl (lv_at hl 3 rfl) ?_
          refine cI (rV (q0 := 0) (ci := 7) (As := [.int 1, .int 1, .int 1]) (rest := []) (wc := [(a0, .inr (7, [.ref a1, .ref a3, .int 0, .ref a5, .ref a8, .ref a9, .int 0, .ref a18, .int 0, .null, .ref a27, .int 0, .ref a28, .ref a29, .ref a30, .ref a31, .ref a32])), (a1, .inr (4, [.int 2, .int 0, .int 1, .ref a2])), (a31, .inl (k 1, 9, .inr (.inl (tL [] 0)))), (a2, .inl (k 1, 36, .inr (.inl (tL [] 0)))), (a27, .inl (k 0, 8, .inl (tI [] 0)))]) hx hb hml hown hU hK hP hD rfl rfl [0, 4, 3, 1, 2] rfl (by decide) (cX10_addUnit_5 l D k _ a0 a1 a31 a2 a27 a3 a5 a8 a9 a18 a28 a29 a30 a32) w330 w327 w329 w1 w63 hdX10_addUnit ⟨rfl, rfl⟩ ⟨Nat.le_of_ble_eq_true rfl, Nat.le_of_ble_eq_true rfl⟩ rfl hl.1 (Nat.le_of_ble_eq_true rfl) dX10_unit_48 ⟨Nat.le_of_ble_eq_true rfl, Nat.le_of_ble_eq_true rfl⟩) hP hD hS hA (wr := []) [0, 4, 3, 1, 2] [] rfl rfl (by decide) (by decide) (fun r47 H locs hB J hS => ?_)
          obtain ⟨rfl, hP1, hD1⟩ := hB
          obtain ⟨hP, hD⟩ := J _ hP1 hD1
          have hP : va_P D cl0 [(a31, .inl (k 1, 9, .inr (.inl (tL [1, 0, 0, 1] 0)))), (a2, .inl (k 1, 36, .inr (.inl (tL [1, 0, 0, 1, 0, 0, 0, 0, 0] 0)))), (a1, .inr (4, [.int 2, .int 1, .int 1, .ref a2])), (a0, .inr (7, [.ref a1, .ref a3, .int 0, .ref a5, .ref a8, .ref a9, .int 0, .ref a18, .int 0, .null, .ref a27, .int 0, .ref a28, .ref a29, .ref a30, .ref a31, .ref a32])), (a27, .inl (k 0, 8, .inl (tI [] 0)))] H := hP
          have hD : va_D A [(a31, .inl (k 1, 9, .inr (.inl (tL [1, 0, 0, 1] 0)))), (a2, .inl (k 1, 36, .inr (.inl (tL [1, 0, 0, 1, 0, 0, 0, 0, 0] 0)))), (a1, .inr (4, [.int 2, .int 1, .int 1, .ref a2])), (a0, .inr (7, [.ref a1, .ref a3, .int 0, .ref a5, .ref a8, .ref a9, .int 0, .ref a18, .int 0, .null, .ref a27, .int 0, .ref a28, .ref a29, .ref a30, .ref a31, .ref a32])), (a27, .inl (k 0, 8, .inl (tI [] 0)))] := hD
          exact retI (v := 0) hx hb hr hlocks hS (show (0 : Int32) = F_unit 1 1 1 by first | decide +kernel | (have g_1 : (1 : Int32).toInt = 1 := (by decide +kernel); unfold F_unit; (repeat (first | rw [if_pos (by omega)] | rw [if_neg (by omega)])))) dX10_unit_51
        · skip
          obtain ⟨hP, hD⟩ := J _ hP1 hD1
          have hP : va_P D cl0 [(a0, .inr (7, [.ref a1, .ref a3, .int 0, .ref a5, .ref a8, .ref a9, .int 0, .ref a18, .int 0, .null, .ref a27, .int 0, .ref a28, .ref a29, .ref a30, .ref a31, .ref a32])), (a2, .inl (k 1, 36, .inr (.inl (tL [] 0)))), (a27, .inl (k 0, 8, .inl (tI [] 0))), (a31, .inl (k 1, 9, .inr (.inl (tL [] 0)))), (a1, .inr (4, [.int 2, .int 0, .int 1, .ref a2]))] H := hP
          have hD : va_D A [(a0, .inr (7, [.ref a1, .ref a3, .int 0, .ref a5, .ref a8, .ref a9, .int 0, .ref a18, .int 0, .null, .ref a27, .int 0, .ref a28, .ref a29, .ref a30, .ref a31, .ref a32])), (a2, .inl (k 1, 36, .inr (.inl (tL [] 0)))), (a27, .inl (k 0, 8, .inl (tI [] 0))), (a31, .inl (k 1, 9, .inr (.inl (tL [] 0)))), (a1, .inr (4, [.int 2, .int 0, .int 1, .ref a2]))] := hD
          refine lv_if_ne (tgt := 31) hx hb dX10_unit_26 (by decide) (fun cc => absurd (by decide +kernel) cc) (fun _ => ?_)
          refine lv_iconst (v := (-1)) hx hb dX10_unit_29 (by decide) ?_
          exact retI (v := (-1)) hx hb hr hlocks hS (show ((-1) : Int32) = F_unit 1 1 x2 by first | decide +kernel | (have f4 := cv_ne (x := x2.toInt) (y := 1) c_43 rfl (by decide +kernel); have f5 := cv_ne (x := x2.toInt) (y := (-1)) c_44 rfl (by decide +kernel); have g_1 : (1 : Int32).toInt = 1 := (by decide +kernel); unfold F_unit; (repeat (first | rw [if_pos (by omega)] | rw [if_neg (by omega)])))) dX10_unit_30
        · skip
          obtain ⟨hP, hD⟩ := J _ hP1 hD1
          have hP : va_P D cl0 [(a0, .inr (7, [.ref a1, .ref a3, .int 0, .ref a5, .ref a8, .ref a9, .int 0, .ref a18, .int 0, .null, .ref a27, .int 0, .ref a28, .ref a29, .ref a30, .ref a31, .ref a32])), (a2, .inl (k 1, 36, .inr (.inl (tL [] 0)))), (a27, .inl (k 0, 8, .inl (tI [] 0))), (a31, .inl (k 1, 9, .inr (.inl (tL [] 0)))), (a1, .inr (4, [.int 2, .int 0, .int 1, .ref a2]))] H := hP
          have hD : va_D A [(a0, .inr (7, [.ref a1, .ref a3, .int 0, .ref a5, .ref a8, .ref a9, .int 0, .ref a18, .int 0, .null, .ref a27, .int 0, .ref a28, .ref a29, .ref a30, .ref a31, .ref a32])), (a2, .inl (k 1, 36, .inr (.inl (tL [] 0)))), (a27, .inl (k 0, 8, .inl (tI [] 0))), (a31, .inl (k 1, 9, .inr (.inl (tL [] 0)))), (a1, .inr (4, [.int 2, .int 0, .int 1, .ref a2]))] := hD
          subst c_45
          refine lv_if_ne (tgt := 31) hx hb dX10_unit_26 (by decide) (fun _ => ?_) (fun cc => absurd cc (by decide +kernel))
          refine lv_aload_n hx hb dX10_unit_31 rfl (lv_at hl 0 rfl) ?_
          refine va_get (D := D) (ci := 7) (v := .ref a1) (C := RX10) (T := TX10) (N := 17) hx hb hU iX10 hown hK.1 hP 0 rfl rfl 0 (by decide) (hU _ w249) (fun _ h9 => h9) rfl dX10_unit_32 ?_
          refine cI (rV (q0 := 4) (ci := 4) (As := []) (rest := []) (wc := [(a1, .inr (4, [.int 2, .int 0, .int 1, .ref a2]))]) hx hb hml hown hU hK hP hD rfl rfl [4] rfl (by decide) (cX5_isFull_1 l D k _ a1 a2) w326 w323 w324 w325 w64 hdX5_isFull ⟨rfl, rfl⟩ ⟨Nat.le_of_ble_eq_true rfl, Nat.le_of_ble_eq_true rfl⟩ rfl hl.1 (Nat.le_of_ble_eq_true rfl) dX10_unit_35 ⟨Nat.le_of_ble_eq_true rfl, Nat.le_of_ble_eq_true rfl⟩) hP hD hS hA (wr := [(a0, .inr (7, [.ref a1, .ref a3, .int 0, .ref a5, .ref a8, .ref a9, .int 0, .ref a18, .int 0, .null, .ref a27, .int 0, .ref a28, .ref a29, .ref a30, .ref a31, .ref a32])), (a2, .inl (k 1, 36, .inr (.inl (tL [] 0)))), (a27, .inl (k 0, 8, .inl (tI [] 0))), (a31, .inl (k 1, 9, .inr (.inl (tL [] 0))))]) [4] [0, 1, 2, 3] rfl rfl (by decide) (by decide) (fun r48 H locs hB J hS => ?_)
          obtain ⟨rfl, hP1, hD1⟩ := hB
          obtain ⟨hP, hD⟩ := J _ hP1 hD1
          have hP : va_P D cl0 [(a0, .inr (7, [.ref a1, .ref a3, .int 0, .ref a5, .ref a8, .ref a9, .int 0, .ref a18, .int 0, .null, .ref a27, .int 0, .ref a28, .ref a29, .ref a30, .ref a31, .ref a32])), (a2, .inl (k 1, 36, .inr (.inl (tL [] 0)))), (a27, .inl (k 0, 8, .inl (tI [] 0))), (a31, .inl (k 1, 9, .inr (.inl (tL [] 0)))), (a1, .inr (4, [.int 2, .int 0, .int 1, .ref a2]))] H := hP
          have hD : va_D A [(a0, .inr (7, [.ref a1, .ref a3, .int 0, .ref a5, .ref a8, .ref a9, .int 0, .ref a18, .int 0, .null, .ref a27, .int 0, .ref a28, .ref a29, .ref a30, .ref a31, .ref a32])), (a2, .inl (k 1, 36, .inr (.inl (tL [] 0)))), (a27, .inl (k 0, 8, .inl (tI [] 0))), (a31, .inl (k 1, 9, .inr (.inl (tL [] 0)))), (a1, .inr (4, [.int 2, .int 0, .int 1, .ref a2]))] := hD
          refine lv_if_eq (tgt := 44) hx hb dX10_unit_38 (by decide) (fun _ => ?_) (fun cc => absurd (by decide +kernel) cc)
          refine lv_aload_n hx hb dX10_unit_44 rfl (lv_at hl 0 rfl) ?_
          refine lv_iload_n hx hb dX10_unit_45 rfl (lv_at hl 1 rfl) ?_
          refine lv_iload_n hx hb dX10_unit_46 rfl (lv_at hl 2 rfl) ?_
          refine lv_iload_n hx hb dX10_unit_47 rfl (lv_at hl 3 rfl) ?_
          refine cI (rV (q0 := 0) (ci := 7) (As := [.int 1, .int 1, .int (-1)]) (rest := []) (wc := [(a0, .inr (7, [.ref a1, .ref a3, .int 0, .ref a5, .ref a8, .ref a9, .int 0, .ref a18, .int 0, .null, .ref a27, .int 0, .ref a28, .ref a29, .ref a30, .ref a31, .ref a32])), (a1, .inr (4, [.int 2, .int 0, .int 1, .ref a2])), (a31, .inl (k 1, 9, .inr (.inl (tL [] 0)))), (a2, .inl (k 1, 36, .inr (.inl (tL [] 0)))), (a27, .inl (k 0, 8, .inl (tI [] 0)))]) hx hb hml hown hU hK hP hD rfl rfl [0, 4, 3, 1, 2] rfl (by decide) (cX10_addUnit_6 l D k _ a0 a1 a31 a2 a27 a3 a5 a8 a9 a18 a28 a29 a30 a32) w330 w327 w329 w1 w63 hdX10_addUnit ⟨rfl, rfl⟩ ⟨Nat.le_of_ble_eq_true rfl, Nat.le_of_ble_eq_true rfl⟩ rfl hl.1 (Nat.le_of_ble_eq_true rfl) dX10_unit_48 ⟨Nat.le_of_ble_eq_true rfl, Nat.le_of_ble_eq_true rfl⟩) hP hD hS hA (wr := []) [0, 4, 3, 1, 2] [] rfl rfl (by decide) (by decide) (fun r49 H locs hB J hS => ?_)
          obtain ⟨rfl, hP1, hD1⟩ := hB
          obtain ⟨hP, hD⟩ := J _ hP1 hD1
          have hP : va_P D cl0 [(a31, .inl (k 1, 9, .inr (.inl (tL [1, 0, 0, (-1)] 0)))), (a2, .inl (k 1, 36, .inr (.inl (tL [1, 0, 0, (-1), 0, 0, 0, 0, 0] 0)))), (a1, .inr (4, [.int 2, .int 1, .int 1, .ref a2])), (a0, .inr (7, [.ref a1, .ref a3, .int 0, .ref a5, .ref a8, .ref a9, .int 0, .ref a18, .int 0, .null, .ref a27, .int 0, .ref a28, .ref a29, .ref a30, .ref a31, .ref a32])), (a27, .inl (k 0, 8, .inl (tI [] 0)))] H := hP
          have hD : va_D A [(a31, .inl (k 1, 9, .inr (.inl (tL [1, 0, 0, (-1)] 0)))), (a2, .inl (k 1, 36, .inr (.inl (tL [1, 0, 0, (-1), 0, 0, 0, 0, 0] 0)))), (a1, .inr (4, [.int 2, .int 1, .int 1, .ref a2])), (a0, .inr (7, [.ref a1, .ref a3, .int 0, .ref a5, .ref a8, .ref a9, .int 0, .ref a18, .int 0, .null, .ref a27, .int 0, .ref a28, .ref a29, .ref a30, .ref a31, .ref a32])), (a27, .inl (k 0, 8, .inl (tI [] 0)))] := hD
          exact retI (v := 0) hx hb hr hlocks hS (show (0 : Int32) = F_unit 1 1 (-1) by first | decide +kernel | (have g_m1 : ((-1) : Int32).toInt = (-1) := (by decide +kernel); have g_1 : (1 : Int32).toInt = 1 := (by decide +kernel); unfold F_unit; (repeat (first | rw [if_pos (by omega)] | rw [if_neg (by omega)])))) dX10_unit_51
abbrev BX9_receive_1 (D : va_G) (k : Nat → ClassId) (h0 h1 h2 : Nat) (x0 : Int64) (A : Nat → Prop) (H : Heap) : Prop := va_P D cl0 [(h0, .inr (6, [.ref h1, .int 1, .int 0, .int 0, .ref h2]))] H ∧ va_D A [(h0, .inr (6, [.ref h1, .int 1, .int 0, .int 0, .ref h2]))]
set_option maxHeartbeats 4000000 in
set_option maxRecDepth 100000 in
theorem cX9_receive_1 (l : Launch) (D : va_G) (k : Nat → ClassId) (sz : Nat) (h0 h1 h2 : Nat) (x0 : Int64) : Met l yX9_receive (Cond.code yX9_receive cX9_receive 5 none :: uw) ({ frames := 0, cells := 0, slots := 0, locals := 0 }) (pC D k sz [.ref h0, .long x0, .int 1] [(h0, .inr (6, [.ref h1, .int 0, .int 0, .int 0, .ref h2])), (h1, .inl (k 2, 120, .inl (tI [] 0)))]) (qV (BX9_receive_1 D k h0 h1 h2 x0 (va_A [(h0, .inr (6, [.ref h1, .int 0, .int 0, .int 0, .ref h2])), (h1, .inl (k 2, 120, .inl (tI [] 0)))] sz)) (va_A [(h0, .inr (6, [.ref h1, .int 0, .int 0, .int 0, .ref h2])), (h1, .inl (k 2, 120, .inl (tI [] 0)))] sz)) 0 0 (va_A [(h0, .inr (6, [.ref h1, .int 0, .int 0, .int 0, .ref h2])), (h1, .inl (k 2, 120, .inl (tI [] 0)))] sz) := by
  refine begin_ (Qc := fun A => qV (BX9_receive_1 D k h0 h1 h2 x0 A) A) (by decide) (Nat.le_of_ble_eq_true rfl) ?_
  intro p e s m below meth c ls A hx hb hr hml hown hlocks hin hU hK hsz hP hD hS hA hl
  have hl : lv_has ls 5 [(0, .ref h0), (1, .long x0), (3, .int 1)] := hl
  clear hsz
  refine lv_iconst (v := 0) hx hb dX9_receive_0 (by decide) ?_
  refine lv_istore (lv' := [(4, .int 0), (0, .ref h0), (1, .long x0), (3, .int 1)]) hx hb dX9_receive_1 hl (by decide) rfl (fun ls hl => ?_)
  refine lv_iload hx hb dX9_receive_3 (lv_at hl 0 rfl) ?_
  refine lv_iload_n hx hb dX9_receive_5 rfl (lv_at hl 3 rfl) ?_
  refine lv_icmp_ge (tgt := 52) hx hb dX9_receive_6 (by decide) (fun cc => absurd cc (by decide +kernel)) (fun _ => ?_)
  refine lv_aload_n hx hb dX9_receive_9 rfl (lv_at hl 1 rfl) ?_
  refine va_get (D := D) (ci := 6) (v := .int 0) (C := RX9) (T := TX9) (N := 5) hx hb hU iX9 hown hK.1 hP 0 rfl rfl 1 (by decide) (hU _ w121) (fun _ h9 => h9) rfl dX9_receive_10 ?_
  refine lv_bipush (v := 120) hx hb dX9_receive_13 (by decide) ?_
  refine lv_icmp_ge (tgt := 52) hx hb dX9_receive_15 (by decide) (fun cc => absurd cc (by decide +kernel)) (fun _ => ?_)
  refine lv_aload_n hx hb dX9_receive_18 rfl (lv_at hl 1 rfl) ?_
  refine va_get (D := D) (ci := 6) (v := .ref h1) (C := RX9) (T := TX9) (N := 5) hx hb hU iX9 hown hK.1 hP 0 rfl rfl 0 (by decide) (hU _ w120) (fun _ h9 => h9) rfl dX9_receive_19 ?_
  refine lv_aload_n hx hb dX9_receive_22 rfl (lv_at hl 1 rfl) ?_
  refine va_get (D := D) (ci := 6) (v := .int 0) (C := RX9) (T := TX9) (N := 5) hx hb hU iX9 hown hK.1 hP 0 rfl rfl 1 (by decide) (hU _ w121) (fun _ h9 => h9) rfl dX9_receive_23 ?_
  refine lv_lload_n hx hb dX9_receive_26 rfl (lv_at hl 2 rfl) ?_
  refine lv_bipush (v := 8) hx hb dX9_receive_27 (by decide) ?_
  refine lv_iload hx hb dX9_receive_29 (lv_at hl 0 rfl) ?_
  refine lv_imul hx hb dX9_receive_31 (sv_i (v := 0) (by decide +kernel) ?_)
  refine lv_lushr hx hb dX9_receive_32 rfl (lv_topl (fun v1 _ => ?_))
  refine lv_l2i (v := v1.toInt32) hx hb dX9_receive_33 rfl ?_
  refine lv_i2b hx hb dX9_receive_34 rfl (lv_topi (fun v2 _ => ?_))
  refine st_b (j := 0) hx hb hK hP hD hS 1 rfl (by decide +kernel) dX9_receive_35 (fun H locs g3 hP hD hS => ?_)
  have hP : va_P D cl0 [(h0, .inr (6, [.ref h1, .int 0, .int 0, .int 0, .ref h2])), (h1, .inl (k 2, 120, .inl (g3)))] H := hP
  have hD : va_D A [(h0, .inr (6, [.ref h1, .int 0, .int 0, .int 0, .ref h2])), (h1, .inl (k 2, 120, .inl (g3)))] := hD
  refine lv_aload_n hx hb dX9_receive_36 rfl (lv_at hl 1 rfl) ?_
  refine lv_dup hx hb dX9_receive_37 rfl ?_
  refine va_get (D := D) (ci := 6) (v := .int 0) (C := RX9) (T := TX9) (N := 5) hx hb hU iX9 hown hK.1 hP 0 rfl rfl 1 (by decide) (hU _ w121) (fun _ h9 => h9) rfl dX9_receive_38 ?_
  refine lv_iconst (v := 1) hx hb dX9_receive_41 (by decide) ?_
  refine lv_iadd hx hb dX9_receive_42 (sv_i (v := 1) (by decide +kernel) ?_)
  refine va_put (D := D) (ci := 6) (v := .int 1) (ty := .int) (C := RX9) (T := TX9) (N := 5) hx hb hU iX9 tyX9 tyX9_ok nmX9 hown hK.1 hP hD hS 0 rfl rfl 1 (by decide) (hU _ w121) (fun _ h9 => h9) rfl (by decide +kernel) rfl rfl (Nat.le_of_ble_eq_true rfl) dX9_receive_43 (fun H locs hP hD hS => ?_)
  have hP : va_P D cl0 [(h0, .inr (6, [.ref h1, .int 1, .int 0, .int 0, .ref h2])), (h1, .inl (k 2, 120, .inl (g3)))] H := hP
  have hD : va_D A [(h0, .inr (6, [.ref h1, .int 1, .int 0, .int 0, .ref h2])), (h1, .inl (k 2, 120, .inl (g3)))] := hD
  refine lv_iinc (v := 1) (lv' := [(4, .int 1), (0, .ref h0), (1, .long x0), (3, .int 1)]) hx hb dX9_receive_46 hl (k := 0) rfl (by decide) (by decide) rfl (fun ls hl => ?_)
  refine lv_goto (tgt := 3) hx hb dX9_receive_49 (by decide) ?_
  refine lv_iload hx hb dX9_receive_3 (lv_at hl 0 rfl) ?_
  refine lv_iload_n hx hb dX9_receive_5 rfl (lv_at hl 3 rfl) ?_
  refine lv_icmp_ge (tgt := 52) hx hb dX9_receive_6 (by decide) (fun _ => ?_) (fun cc => absurd (by decide +kernel) cc)
  exact retV hx hb hr hlocks hS (⟨hP.sub [0] rfl, hD.sub [0] (by decide) rfl⟩) dX9_receive_52
abbrev BX9_receive_2 (D : va_G) (k : Nat → ClassId) (h0 h1 h2 : Nat) (x0 : Int64) (A : Nat → Prop) (H : Heap) : Prop := va_P D cl0 [(h0, .inr (6, [.ref h1, .int 2, .int 0, .int 0, .ref h2]))] H ∧ va_D A [(h0, .inr (6, [.ref h1, .int 2, .int 0, .int 0, .ref h2]))]
set_option maxHeartbeats 4000000 in
set_option maxRecDepth 100000 in
theorem cX9_receive_2 (l : Launch) (D : va_G) (k : Nat → ClassId) (sz : Nat) (h0 h1 h2 : Nat) (x0 : Int64) : Met l yX9_receive (Cond.code yX9_receive cX9_receive 5 none :: uw) ({ frames := 0, cells := 0, slots := 0, locals := 0 }) (pC D k sz [.ref h0, .long x0, .int 2] [(h0, .inr (6, [.ref h1, .int 0, .int 0, .int 0, .ref h2])), (h1, .inl (k 2, 120, .inl (tI [] 0)))]) (qV (BX9_receive_2 D k h0 h1 h2 x0 (va_A [(h0, .inr (6, [.ref h1, .int 0, .int 0, .int 0, .ref h2])), (h1, .inl (k 2, 120, .inl (tI [] 0)))] sz)) (va_A [(h0, .inr (6, [.ref h1, .int 0, .int 0, .int 0, .ref h2])), (h1, .inl (k 2, 120, .inl (tI [] 0)))] sz)) 0 0 (va_A [(h0, .inr (6, [.ref h1, .int 0, .int 0, .int 0, .ref h2])), (h1, .inl (k 2, 120, .inl (tI [] 0)))] sz) := by
  refine begin_ (Qc := fun A => qV (BX9_receive_2 D k h0 h1 h2 x0 A) A) (by decide) (Nat.le_of_ble_eq_true rfl) ?_
  intro p e s m below meth c ls A hx hb hr hml hown hlocks hin hU hK hsz hP hD hS hA hl
  have hl : lv_has ls 5 [(0, .ref h0), (1, .long x0), (3, .int 2)] := hl
  clear hsz
  refine lv_iconst (v := 0) hx hb dX9_receive_0 (by decide) ?_
  refine lv_istore (lv' := [(4, .int 0), (0, .ref h0), (1, .long x0), (3, .int 2)]) hx hb dX9_receive_1 hl (by decide) rfl (fun ls hl => ?_)
  refine lv_iload hx hb dX9_receive_3 (lv_at hl 0 rfl) ?_
  refine lv_iload_n hx hb dX9_receive_5 rfl (lv_at hl 3 rfl) ?_
  refine lv_icmp_ge (tgt := 52) hx hb dX9_receive_6 (by decide) (fun cc => absurd cc (by decide +kernel)) (fun _ => ?_)
  refine lv_aload_n hx hb dX9_receive_9 rfl (lv_at hl 1 rfl) ?_
  refine va_get (D := D) (ci := 6) (v := .int 0) (C := RX9) (T := TX9) (N := 5) hx hb hU iX9 hown hK.1 hP 0 rfl rfl 1 (by decide) (hU _ w121) (fun _ h9 => h9) rfl dX9_receive_10 ?_
  refine lv_bipush (v := 120) hx hb dX9_receive_13 (by decide) ?_
  refine lv_icmp_ge (tgt := 52) hx hb dX9_receive_15 (by decide) (fun cc => absurd cc (by decide +kernel)) (fun _ => ?_)
  refine lv_aload_n hx hb dX9_receive_18 rfl (lv_at hl 1 rfl) ?_
  refine va_get (D := D) (ci := 6) (v := .ref h1) (C := RX9) (T := TX9) (N := 5) hx hb hU iX9 hown hK.1 hP 0 rfl rfl 0 (by decide) (hU _ w120) (fun _ h9 => h9) rfl dX9_receive_19 ?_
  refine lv_aload_n hx hb dX9_receive_22 rfl (lv_at hl 1 rfl) ?_
  refine va_get (D := D) (ci := 6) (v := .int 0) (C := RX9) (T := TX9) (N := 5) hx hb hU iX9 hown hK.1 hP 0 rfl rfl 1 (by decide) (hU _ w121) (fun _ h9 => h9) rfl dX9_receive_23 ?_
  refine lv_lload_n hx hb dX9_receive_26 rfl (lv_at hl 2 rfl) ?_
  refine lv_bipush (v := 8) hx hb dX9_receive_27 (by decide) ?_
  refine lv_iload hx hb dX9_receive_29 (lv_at hl 0 rfl) ?_
  refine lv_imul hx hb dX9_receive_31 (sv_i (v := 0) (by decide +kernel) ?_)
  refine lv_lushr hx hb dX9_receive_32 rfl (lv_topl (fun v1 _ => ?_))
  refine lv_l2i (v := v1.toInt32) hx hb dX9_receive_33 rfl ?_
  refine lv_i2b hx hb dX9_receive_34 rfl (lv_topi (fun v2 _ => ?_))
  refine st_b (j := 0) hx hb hK hP hD hS 1 rfl (by decide +kernel) dX9_receive_35 (fun H locs g3 hP hD hS => ?_)
  have hP : va_P D cl0 [(h0, .inr (6, [.ref h1, .int 0, .int 0, .int 0, .ref h2])), (h1, .inl (k 2, 120, .inl (g3)))] H := hP
  have hD : va_D A [(h0, .inr (6, [.ref h1, .int 0, .int 0, .int 0, .ref h2])), (h1, .inl (k 2, 120, .inl (g3)))] := hD
  refine lv_aload_n hx hb dX9_receive_36 rfl (lv_at hl 1 rfl) ?_
  refine lv_dup hx hb dX9_receive_37 rfl ?_
  refine va_get (D := D) (ci := 6) (v := .int 0) (C := RX9) (T := TX9) (N := 5) hx hb hU iX9 hown hK.1 hP 0 rfl rfl 1 (by decide) (hU _ w121) (fun _ h9 => h9) rfl dX9_receive_38 ?_
  refine lv_iconst (v := 1) hx hb dX9_receive_41 (by decide) ?_
  refine lv_iadd hx hb dX9_receive_42 (sv_i (v := 1) (by decide +kernel) ?_)
  refine va_put (D := D) (ci := 6) (v := .int 1) (ty := .int) (C := RX9) (T := TX9) (N := 5) hx hb hU iX9 tyX9 tyX9_ok nmX9 hown hK.1 hP hD hS 0 rfl rfl 1 (by decide) (hU _ w121) (fun _ h9 => h9) rfl (by decide +kernel) rfl rfl (Nat.le_of_ble_eq_true rfl) dX9_receive_43 (fun H locs hP hD hS => ?_)
  have hP : va_P D cl0 [(h0, .inr (6, [.ref h1, .int 1, .int 0, .int 0, .ref h2])), (h1, .inl (k 2, 120, .inl (g3)))] H := hP
  have hD : va_D A [(h0, .inr (6, [.ref h1, .int 1, .int 0, .int 0, .ref h2])), (h1, .inl (k 2, 120, .inl (g3)))] := hD
  refine lv_iinc (v := 1) (lv' := [(4, .int 1), (0, .ref h0), (1, .long x0), (3, .int 2)]) hx hb dX9_receive_46 hl (k := 0) rfl (by decide) (by decide) rfl (fun ls hl => ?_)
  refine lv_goto (tgt := 3) hx hb dX9_receive_49 (by decide) ?_
  refine lv_iload hx hb dX9_receive_3 (lv_at hl 0 rfl) ?_
  refine lv_iload_n hx hb dX9_receive_5 rfl (lv_at hl 3 rfl) ?_
  refine lv_icmp_ge (tgt := 52) hx hb dX9_receive_6 (by decide) (fun cc => absurd cc (by decide +kernel)) (fun _ => ?_)
  refine lv_aload_n hx hb dX9_receive_9 rfl (lv_at hl 1 rfl) ?_
  refine va_get (D := D) (ci := 6) (v := .int 1) (C := RX9) (T := TX9) (N := 5) hx hb hU iX9 hown hK.1 hP 0 rfl rfl 1 (by decide) (hU _ w121) (fun _ h9 => h9) rfl dX9_receive_10 ?_
  refine lv_bipush (v := 120) hx hb dX9_receive_13 (by decide) ?_
  refine lv_icmp_ge (tgt := 52) hx hb dX9_receive_15 (by decide) (fun cc => absurd cc (by decide +kernel)) (fun _ => ?_)
  refine lv_aload_n hx hb dX9_receive_18 rfl (lv_at hl 1 rfl) ?_
  refine va_get (D := D) (ci := 6) (v := .ref h1) (C := RX9) (T := TX9) (N := 5) hx hb hU iX9 hown hK.1 hP 0 rfl rfl 0 (by decide) (hU _ w120) (fun _ h9 => h9) rfl dX9_receive_19 ?_
  refine lv_aload_n hx hb dX9_receive_22 rfl (lv_at hl 1 rfl) ?_
  refine va_get (D := D) (ci := 6) (v := .int 1) (C := RX9) (T := TX9) (N := 5) hx hb hU iX9 hown hK.1 hP 0 rfl rfl 1 (by decide) (hU _ w121) (fun _ h9 => h9) rfl dX9_receive_23 ?_
  refine lv_lload_n hx hb dX9_receive_26 rfl (lv_at hl 2 rfl) ?_
  refine lv_bipush (v := 8) hx hb dX9_receive_27 (by decide) ?_
  refine lv_iload hx hb dX9_receive_29 (lv_at hl 0 rfl) ?_
  refine lv_imul hx hb dX9_receive_31 (sv_i (v := 8) (by decide +kernel) ?_)
  refine lv_lushr hx hb dX9_receive_32 rfl (lv_topl (fun v4 _ => ?_))
  refine lv_l2i (v := v4.toInt32) hx hb dX9_receive_33 rfl ?_
  refine lv_i2b hx hb dX9_receive_34 rfl (lv_topi (fun v5 _ => ?_))
  refine st_b (j := 1) hx hb hK hP hD hS 1 rfl (by decide +kernel) dX9_receive_35 (fun H locs g6 hP hD hS => ?_)
  have hP : va_P D cl0 [(h0, .inr (6, [.ref h1, .int 1, .int 0, .int 0, .ref h2])), (h1, .inl (k 2, 120, .inl (g6)))] H := hP
  have hD : va_D A [(h0, .inr (6, [.ref h1, .int 1, .int 0, .int 0, .ref h2])), (h1, .inl (k 2, 120, .inl (g6)))] := hD
  refine lv_aload_n hx hb dX9_receive_36 rfl (lv_at hl 1 rfl) ?_
  refine lv_dup hx hb dX9_receive_37 rfl ?_
  refine va_get (D := D) (ci := 6) (v := .int 1) (C := RX9) (T := TX9) (N := 5) hx hb hU iX9 hown hK.1 hP 0 rfl rfl 1 (by decide) (hU _ w121) (fun _ h9 => h9) rfl dX9_receive_38 ?_
  refine lv_iconst (v := 1) hx hb dX9_receive_41 (by decide) ?_
  refine lv_iadd hx hb dX9_receive_42 (sv_i (v := 2) (by decide +kernel) ?_)
  refine va_put (D := D) (ci := 6) (v := .int 2) (ty := .int) (C := RX9) (T := TX9) (N := 5) hx hb hU iX9 tyX9 tyX9_ok nmX9 hown hK.1 hP hD hS 0 rfl rfl 1 (by decide) (hU _ w121) (fun _ h9 => h9) rfl (by decide +kernel) rfl rfl (Nat.le_of_ble_eq_true rfl) dX9_receive_43 (fun H locs hP hD hS => ?_)
  have hP : va_P D cl0 [(h0, .inr (6, [.ref h1, .int 2, .int 0, .int 0, .ref h2])), (h1, .inl (k 2, 120, .inl (g6)))] H := hP
  have hD : va_D A [(h0, .inr (6, [.ref h1, .int 2, .int 0, .int 0, .ref h2])), (h1, .inl (k 2, 120, .inl (g6)))] := hD
  refine lv_iinc (v := 2) (lv' := [(4, .int 2), (0, .ref h0), (1, .long x0), (3, .int 2)]) hx hb dX9_receive_46 hl (k := 0) rfl (by decide) (by decide) rfl (fun ls hl => ?_)
  refine lv_goto (tgt := 3) hx hb dX9_receive_49 (by decide) ?_
  refine lv_iload hx hb dX9_receive_3 (lv_at hl 0 rfl) ?_
  refine lv_iload_n hx hb dX9_receive_5 rfl (lv_at hl 3 rfl) ?_
  refine lv_icmp_ge (tgt := 52) hx hb dX9_receive_6 (by decide) (fun _ => ?_) (fun cc => absurd (by decide +kernel) cc)
  exact retV hx hb hr hlocks hS (⟨hP.sub [0] rfl, hD.sub [0] (by decide) rfl⟩) dX9_receive_52
abbrev BX9_receive_3 (D : va_G) (k : Nat → ClassId) (h0 h1 h2 : Nat) (x0 : Int64) (A : Nat → Prop) (H : Heap) : Prop := va_P D cl0 [(h0, .inr (6, [.ref h1, .int 3, .int 0, .int 0, .ref h2]))] H ∧ va_D A [(h0, .inr (6, [.ref h1, .int 3, .int 0, .int 0, .ref h2]))]
set_option maxHeartbeats 4000000 in
set_option maxRecDepth 100000 in
theorem cX9_receive_3 (l : Launch) (D : va_G) (k : Nat → ClassId) (sz : Nat) (h0 h1 h2 : Nat) (x0 : Int64) : Met l yX9_receive (Cond.code yX9_receive cX9_receive 5 none :: uw) ({ frames := 0, cells := 0, slots := 0, locals := 0 }) (pC D k sz [.ref h0, .long x0, .int 3] [(h0, .inr (6, [.ref h1, .int 0, .int 0, .int 0, .ref h2])), (h1, .inl (k 2, 120, .inl (tI [] 0)))]) (qV (BX9_receive_3 D k h0 h1 h2 x0 (va_A [(h0, .inr (6, [.ref h1, .int 0, .int 0, .int 0, .ref h2])), (h1, .inl (k 2, 120, .inl (tI [] 0)))] sz)) (va_A [(h0, .inr (6, [.ref h1, .int 0, .int 0, .int 0, .ref h2])), (h1, .inl (k 2, 120, .inl (tI [] 0)))] sz)) 0 0 (va_A [(h0, .inr (6, [.ref h1, .int 0, .int 0, .int 0, .ref h2])), (h1, .inl (k 2, 120, .inl (tI [] 0)))] sz) := by
  refine begin_ (Qc := fun A => qV (BX9_receive_3 D k h0 h1 h2 x0 A) A) (by decide) (Nat.le_of_ble_eq_true rfl) ?_
  intro p e s m below meth c ls A hx hb hr hml hown hlocks hin hU hK hsz hP hD hS hA hl
  have hl : lv_has ls 5 [(0, .ref h0), (1, .long x0), (3, .int 3)] := hl
  clear hsz
  refine lv_iconst (v := 0) hx hb dX9_receive_0 (by decide) ?_
  refine lv_istore (lv' := [(4, .int 0), (0, .ref h0), (1, .long x0), (3, .int 3)]) hx hb dX9_receive_1 hl (by decide) rfl (fun ls hl => ?_)
  refine lv_iload hx hb dX9_receive_3 (lv_at hl 0 rfl) ?_
  refine lv_iload_n hx hb dX9_receive_5 rfl (lv_at hl 3 rfl) ?_
  refine lv_icmp_ge (tgt := 52) hx hb dX9_receive_6 (by decide) (fun cc => absurd cc (by decide +kernel)) (fun _ => ?_)
  refine lv_aload_n hx hb dX9_receive_9 rfl (lv_at hl 1 rfl) ?_
  refine va_get (D := D) (ci := 6) (v := .int 0) (C := RX9) (T := TX9) (N := 5) hx hb hU iX9 hown hK.1 hP 0 rfl rfl 1 (by decide) (hU _ w121) (fun _ h9 => h9) rfl dX9_receive_10 ?_
  refine lv_bipush (v := 120) hx hb dX9_receive_13 (by decide) ?_
  refine lv_icmp_ge (tgt := 52) hx hb dX9_receive_15 (by decide) (fun cc => absurd cc (by decide +kernel)) (fun _ => ?_)
  refine lv_aload_n hx hb dX9_receive_18 rfl (lv_at hl 1 rfl) ?_
  refine va_get (D := D) (ci := 6) (v := .ref h1) (C := RX9) (T := TX9) (N := 5) hx hb hU iX9 hown hK.1 hP 0 rfl rfl 0 (by decide) (hU _ w120) (fun _ h9 => h9) rfl dX9_receive_19 ?_
  refine lv_aload_n hx hb dX9_receive_22 rfl (lv_at hl 1 rfl) ?_
  refine va_get (D := D) (ci := 6) (v := .int 0) (C := RX9) (T := TX9) (N := 5) hx hb hU iX9 hown hK.1 hP 0 rfl rfl 1 (by decide) (hU _ w121) (fun _ h9 => h9) rfl dX9_receive_23 ?_
  refine lv_lload_n hx hb dX9_receive_26 rfl (lv_at hl 2 rfl) ?_
  refine lv_bipush (v := 8) hx hb dX9_receive_27 (by decide) ?_
  refine lv_iload hx hb dX9_receive_29 (lv_at hl 0 rfl) ?_
  refine lv_imul hx hb dX9_receive_31 (sv_i (v := 0) (by decide +kernel) ?_)
  refine lv_lushr hx hb dX9_receive_32 rfl (lv_topl (fun v1 _ => ?_))
  refine lv_l2i (v := v1.toInt32) hx hb dX9_receive_33 rfl ?_
  refine lv_i2b hx hb dX9_receive_34 rfl (lv_topi (fun v2 _ => ?_))
  refine st_b (j := 0) hx hb hK hP hD hS 1 rfl (by decide +kernel) dX9_receive_35 (fun H locs g3 hP hD hS => ?_)
  have hP : va_P D cl0 [(h0, .inr (6, [.ref h1, .int 0, .int 0, .int 0, .ref h2])), (h1, .inl (k 2, 120, .inl (g3)))] H := hP
  have hD : va_D A [(h0, .inr (6, [.ref h1, .int 0, .int 0, .int 0, .ref h2])), (h1, .inl (k 2, 120, .inl (g3)))] := hD
  refine lv_aload_n hx hb dX9_receive_36 rfl (lv_at hl 1 rfl) ?_
  refine lv_dup hx hb dX9_receive_37 rfl ?_
  refine va_get (D := D) (ci := 6) (v := .int 0) (C := RX9) (T := TX9) (N := 5) hx hb hU iX9 hown hK.1 hP 0 rfl rfl 1 (by decide) (hU _ w121) (fun _ h9 => h9) rfl dX9_receive_38 ?_
  refine lv_iconst (v := 1) hx hb dX9_receive_41 (by decide) ?_
  refine lv_iadd hx hb dX9_receive_42 (sv_i (v := 1) (by decide +kernel) ?_)
  refine va_put (D := D) (ci := 6) (v := .int 1) (ty := .int) (C := RX9) (T := TX9) (N := 5) hx hb hU iX9 tyX9 tyX9_ok nmX9 hown hK.1 hP hD hS 0 rfl rfl 1 (by decide) (hU _ w121) (fun _ h9 => h9) rfl (by decide +kernel) rfl rfl (Nat.le_of_ble_eq_true rfl) dX9_receive_43 (fun H locs hP hD hS => ?_)
  have hP : va_P D cl0 [(h0, .inr (6, [.ref h1, .int 1, .int 0, .int 0, .ref h2])), (h1, .inl (k 2, 120, .inl (g3)))] H := hP
  have hD : va_D A [(h0, .inr (6, [.ref h1, .int 1, .int 0, .int 0, .ref h2])), (h1, .inl (k 2, 120, .inl (g3)))] := hD
  refine lv_iinc (v := 1) (lv' := [(4, .int 1), (0, .ref h0), (1, .long x0), (3, .int 3)]) hx hb dX9_receive_46 hl (k := 0) rfl (by decide) (by decide) rfl (fun ls hl => ?_)
  refine lv_goto (tgt := 3) hx hb dX9_receive_49 (by decide) ?_
  refine lv_iload hx hb dX9_receive_3 (lv_at hl 0 rfl) ?_
  refine lv_iload_n hx hb dX9_receive_5 rfl (lv_at hl 3 rfl) ?_
  refine lv_icmp_ge (tgt := 52) hx hb dX9_receive_6 (by decide) (fun cc => absurd cc (by decide +kernel)) (fun _ => ?_)
  refine lv_aload_n hx hb dX9_receive_9 rfl (lv_at hl 1 rfl) ?_
  refine va_get (D := D) (ci := 6) (v := .int 1) (C := RX9) (T := TX9) (N := 5) hx hb hU iX9 hown hK.1 hP 0 rfl rfl 1 (by decide) (hU _ w121) (fun _ h9 => h9) rfl dX9_receive_10 ?_
  refine lv_bipush (v := 120) hx hb dX9_receive_13 (by decide) ?_
  refine lv_icmp_ge (tgt := 52) hx hb dX9_receive_15 (by decide) (fun cc => absurd cc (by decide +kernel)) (fun _ => ?_)
  refine lv_aload_n hx hb dX9_receive_18 rfl (lv_at hl 1 rfl) ?_
  refine va_get (D := D) (ci := 6) (v := .ref h1) (C := RX9) (T := TX9) (N := 5) hx hb hU iX9 hown hK.1 hP 0 rfl rfl 0 (by decide) (hU _ w120) (fun _ h9 => h9) rfl dX9_receive_19 ?_
  refine lv_aload_n hx hb dX9_receive_22 rfl (lv_at hl 1 rfl) ?_
  refine va_get (D := D) (ci := 6) (v := .int 1) (C := RX9) (T := TX9) (N := 5) hx hb hU iX9 hown hK.1 hP 0 rfl rfl 1 (by decide) (hU _ w121) (fun _ h9 => h9) rfl dX9_receive_23 ?_
  refine lv_lload_n hx hb dX9_receive_26 rfl (lv_at hl 2 rfl) ?_
  refine lv_bipush (v := 8) hx hb dX9_receive_27 (by decide) ?_
  refine lv_iload hx hb dX9_receive_29 (lv_at hl 0 rfl) ?_
  refine lv_imul hx hb dX9_receive_31 (sv_i (v := 8) (by decide +kernel) ?_)
  refine lv_lushr hx hb dX9_receive_32 rfl (lv_topl (fun v4 _ => ?_))
  refine lv_l2i (v := v4.toInt32) hx hb dX9_receive_33 rfl ?_
  refine lv_i2b hx hb dX9_receive_34 rfl (lv_topi (fun v5 _ => ?_))
  refine st_b (j := 1) hx hb hK hP hD hS 1 rfl (by decide +kernel) dX9_receive_35 (fun H locs g6 hP hD hS => ?_)
  have hP : va_P D cl0 [(h0, .inr (6, [.ref h1, .int 1, .int 0, .int 0, .ref h2])), (h1, .inl (k 2, 120, .inl (g6)))] H := hP
  have hD : va_D A [(h0, .inr (6, [.ref h1, .int 1, .int 0, .int 0, .ref h2])), (h1, .inl (k 2, 120, .inl (g6)))] := hD
  refine lv_aload_n hx hb dX9_receive_36 rfl (lv_at hl 1 rfl) ?_
  refine lv_dup hx hb dX9_receive_37 rfl ?_
  refine va_get (D := D) (ci := 6) (v := .int 1) (C := RX9) (T := TX9) (N := 5) hx hb hU iX9 hown hK.1 hP 0 rfl rfl 1 (by decide) (hU _ w121) (fun _ h9 => h9) rfl dX9_receive_38 ?_
  refine lv_iconst (v := 1) hx hb dX9_receive_41 (by decide) ?_
  refine lv_iadd hx hb dX9_receive_42 (sv_i (v := 2) (by decide +kernel) ?_)
  refine va_put (D := D) (ci := 6) (v := .int 2) (ty := .int) (C := RX9) (T := TX9) (N := 5) hx hb hU iX9 tyX9 tyX9_ok nmX9 hown hK.1 hP hD hS 0 rfl rfl 1 (by decide) (hU _ w121) (fun _ h9 => h9) rfl (by decide +kernel) rfl rfl (Nat.le_of_ble_eq_true rfl) dX9_receive_43 (fun H locs hP hD hS => ?_)
  have hP : va_P D cl0 [(h0, .inr (6, [.ref h1, .int 2, .int 0, .int 0, .ref h2])), (h1, .inl (k 2, 120, .inl (g6)))] H := hP
  have hD : va_D A [(h0, .inr (6, [.ref h1, .int 2, .int 0, .int 0, .ref h2])), (h1, .inl (k 2, 120, .inl (g6)))] := hD
  refine lv_iinc (v := 2) (lv' := [(4, .int 2), (0, .ref h0), (1, .long x0), (3, .int 3)]) hx hb dX9_receive_46 hl (k := 0) rfl (by decide) (by decide) rfl (fun ls hl => ?_)
  refine lv_goto (tgt := 3) hx hb dX9_receive_49 (by decide) ?_
  refine lv_iload hx hb dX9_receive_3 (lv_at hl 0 rfl) ?_
  refine lv_iload_n hx hb dX9_receive_5 rfl (lv_at hl 3 rfl) ?_
  refine lv_icmp_ge (tgt := 52) hx hb dX9_receive_6 (by decide) (fun cc => absurd cc (by decide +kernel)) (fun _ => ?_)
  refine lv_aload_n hx hb dX9_receive_9 rfl (lv_at hl 1 rfl) ?_
  refine va_get (D := D) (ci := 6) (v := .int 2) (C := RX9) (T := TX9) (N := 5) hx hb hU iX9 hown hK.1 hP 0 rfl rfl 1 (by decide) (hU _ w121) (fun _ h9 => h9) rfl dX9_receive_10 ?_
  refine lv_bipush (v := 120) hx hb dX9_receive_13 (by decide) ?_
  refine lv_icmp_ge (tgt := 52) hx hb dX9_receive_15 (by decide) (fun cc => absurd cc (by decide +kernel)) (fun _ => ?_)
  refine lv_aload_n hx hb dX9_receive_18 rfl (lv_at hl 1 rfl) ?_
  refine va_get (D := D) (ci := 6) (v := .ref h1) (C := RX9) (T := TX9) (N := 5) hx hb hU iX9 hown hK.1 hP 0 rfl rfl 0 (by decide) (hU _ w120) (fun _ h9 => h9) rfl dX9_receive_19 ?_
  refine lv_aload_n hx hb dX9_receive_22 rfl (lv_at hl 1 rfl) ?_
  refine va_get (D := D) (ci := 6) (v := .int 2) (C := RX9) (T := TX9) (N := 5) hx hb hU iX9 hown hK.1 hP 0 rfl rfl 1 (by decide) (hU _ w121) (fun _ h9 => h9) rfl dX9_receive_23 ?_
  refine lv_lload_n hx hb dX9_receive_26 rfl (lv_at hl 2 rfl) ?_
  refine lv_bipush (v := 8) hx hb dX9_receive_27 (by decide) ?_
  refine lv_iload hx hb dX9_receive_29 (lv_at hl 0 rfl) ?_
  refine lv_imul hx hb dX9_receive_31 (sv_i (v := 16) (by decide +kernel) ?_)
  refine lv_lushr hx hb dX9_receive_32 rfl (lv_topl (fun v7 _ => ?_))
  refine lv_l2i (v := v7.toInt32) hx hb dX9_receive_33 rfl ?_
  refine lv_i2b hx hb dX9_receive_34 rfl (lv_topi (fun v8 _ => ?_))
  refine st_b (j := 2) hx hb hK hP hD hS 1 rfl (by decide +kernel) dX9_receive_35 (fun H locs g9 hP hD hS => ?_)
  have hP : va_P D cl0 [(h0, .inr (6, [.ref h1, .int 2, .int 0, .int 0, .ref h2])), (h1, .inl (k 2, 120, .inl (g9)))] H := hP
  have hD : va_D A [(h0, .inr (6, [.ref h1, .int 2, .int 0, .int 0, .ref h2])), (h1, .inl (k 2, 120, .inl (g9)))] := hD
  refine lv_aload_n hx hb dX9_receive_36 rfl (lv_at hl 1 rfl) ?_
  refine lv_dup hx hb dX9_receive_37 rfl ?_
  refine va_get (D := D) (ci := 6) (v := .int 2) (C := RX9) (T := TX9) (N := 5) hx hb hU iX9 hown hK.1 hP 0 rfl rfl 1 (by decide) (hU _ w121) (fun _ h9 => h9) rfl dX9_receive_38 ?_
  refine lv_iconst (v := 1) hx hb dX9_receive_41 (by decide) ?_
  refine lv_iadd hx hb dX9_receive_42 (sv_i (v := 3) (by decide +kernel) ?_)
  refine va_put (D := D) (ci := 6) (v := .int 3) (ty := .int) (C := RX9) (T := TX9) (N := 5) hx hb hU iX9 tyX9 tyX9_ok nmX9 hown hK.1 hP hD hS 0 rfl rfl 1 (by decide) (hU _ w121) (fun _ h9 => h9) rfl (by decide +kernel) rfl rfl (Nat.le_of_ble_eq_true rfl) dX9_receive_43 (fun H locs hP hD hS => ?_)
  have hP : va_P D cl0 [(h0, .inr (6, [.ref h1, .int 3, .int 0, .int 0, .ref h2])), (h1, .inl (k 2, 120, .inl (g9)))] H := hP
  have hD : va_D A [(h0, .inr (6, [.ref h1, .int 3, .int 0, .int 0, .ref h2])), (h1, .inl (k 2, 120, .inl (g9)))] := hD
  refine lv_iinc (v := 3) (lv' := [(4, .int 3), (0, .ref h0), (1, .long x0), (3, .int 3)]) hx hb dX9_receive_46 hl (k := 0) rfl (by decide) (by decide) rfl (fun ls hl => ?_)
  refine lv_goto (tgt := 3) hx hb dX9_receive_49 (by decide) ?_
  refine lv_iload hx hb dX9_receive_3 (lv_at hl 0 rfl) ?_
  refine lv_iload_n hx hb dX9_receive_5 rfl (lv_at hl 3 rfl) ?_
  refine lv_icmp_ge (tgt := 52) hx hb dX9_receive_6 (by decide) (fun _ => ?_) (fun cc => absurd (by decide +kernel) cc)
  exact retV hx hb hr hlocks hS (⟨hP.sub [0] rfl, hD.sub [0] (by decide) rfl⟩) dX9_receive_52
abbrev BX9_receive_4 (D : va_G) (k : Nat → ClassId) (h0 h1 h2 : Nat) (x0 : Int64) (A : Nat → Prop) (H : Heap) : Prop := va_P D cl0 [(h0, .inr (6, [.ref h1, .int 4, .int 0, .int 0, .ref h2]))] H ∧ va_D A [(h0, .inr (6, [.ref h1, .int 4, .int 0, .int 0, .ref h2]))]
set_option maxHeartbeats 4000000 in
set_option maxRecDepth 100000 in
theorem cX9_receive_4 (l : Launch) (D : va_G) (k : Nat → ClassId) (sz : Nat) (h0 h1 h2 : Nat) (x0 : Int64) : Met l yX9_receive (Cond.code yX9_receive cX9_receive 5 none :: uw) ({ frames := 0, cells := 0, slots := 0, locals := 0 }) (pC D k sz [.ref h0, .long x0, .int 4] [(h0, .inr (6, [.ref h1, .int 0, .int 0, .int 0, .ref h2])), (h1, .inl (k 2, 120, .inl (tI [] 0)))]) (qV (BX9_receive_4 D k h0 h1 h2 x0 (va_A [(h0, .inr (6, [.ref h1, .int 0, .int 0, .int 0, .ref h2])), (h1, .inl (k 2, 120, .inl (tI [] 0)))] sz)) (va_A [(h0, .inr (6, [.ref h1, .int 0, .int 0, .int 0, .ref h2])), (h1, .inl (k 2, 120, .inl (tI [] 0)))] sz)) 0 0 (va_A [(h0, .inr (6, [.ref h1, .int 0, .int 0, .int 0, .ref h2])), (h1, .inl (k 2, 120, .inl (tI [] 0)))] sz) := by
  refine begin_ (Qc := fun A => qV (BX9_receive_4 D k h0 h1 h2 x0 A) A) (by decide) (Nat.le_of_ble_eq_true rfl) ?_
  intro p e s m below meth c ls A hx hb hr hml hown hlocks hin hU hK hsz hP hD hS hA hl
  have hl : lv_has ls 5 [(0, .ref h0), (1, .long x0), (3, .int 4)] := hl
  clear hsz
  refine lv_iconst (v := 0) hx hb dX9_receive_0 (by decide) ?_
  refine lv_istore (lv' := [(4, .int 0), (0, .ref h0), (1, .long x0), (3, .int 4)]) hx hb dX9_receive_1 hl (by decide) rfl (fun ls hl => ?_)
  refine lv_iload hx hb dX9_receive_3 (lv_at hl 0 rfl) ?_
  refine lv_iload_n hx hb dX9_receive_5 rfl (lv_at hl 3 rfl) ?_
  refine lv_icmp_ge (tgt := 52) hx hb dX9_receive_6 (by decide) (fun cc => absurd cc (by decide +kernel)) (fun _ => ?_)
  refine lv_aload_n hx hb dX9_receive_9 rfl (lv_at hl 1 rfl) ?_
  refine va_get (D := D) (ci := 6) (v := .int 0) (C := RX9) (T := TX9) (N := 5) hx hb hU iX9 hown hK.1 hP 0 rfl rfl 1 (by decide) (hU _ w121) (fun _ h9 => h9) rfl dX9_receive_10 ?_
  refine lv_bipush (v := 120) hx hb dX9_receive_13 (by decide) ?_
  refine lv_icmp_ge (tgt := 52) hx hb dX9_receive_15 (by decide) (fun cc => absurd cc (by decide +kernel)) (fun _ => ?_)
  refine lv_aload_n hx hb dX9_receive_18 rfl (lv_at hl 1 rfl) ?_
  refine va_get (D := D) (ci := 6) (v := .ref h1) (C := RX9) (T := TX9) (N := 5) hx hb hU iX9 hown hK.1 hP 0 rfl rfl 0 (by decide) (hU _ w120) (fun _ h9 => h9) rfl dX9_receive_19 ?_
  refine lv_aload_n hx hb dX9_receive_22 rfl (lv_at hl 1 rfl) ?_
  refine va_get (D := D) (ci := 6) (v := .int 0) (C := RX9) (T := TX9) (N := 5) hx hb hU iX9 hown hK.1 hP 0 rfl rfl 1 (by decide) (hU _ w121) (fun _ h9 => h9) rfl dX9_receive_23 ?_
  refine lv_lload_n hx hb dX9_receive_26 rfl (lv_at hl 2 rfl) ?_
  refine lv_bipush (v := 8) hx hb dX9_receive_27 (by decide) ?_
  refine lv_iload hx hb dX9_receive_29 (lv_at hl 0 rfl) ?_
  refine lv_imul hx hb dX9_receive_31 (sv_i (v := 0) (by decide +kernel) ?_)
  refine lv_lushr hx hb dX9_receive_32 rfl (lv_topl (fun v1 _ => ?_))
  refine lv_l2i (v := v1.toInt32) hx hb dX9_receive_33 rfl ?_
  refine lv_i2b hx hb dX9_receive_34 rfl (lv_topi (fun v2 _ => ?_))
  refine st_b (j := 0) hx hb hK hP hD hS 1 rfl (by decide +kernel) dX9_receive_35 (fun H locs g3 hP hD hS => ?_)
  have hP : va_P D cl0 [(h0, .inr (6, [.ref h1, .int 0, .int 0, .int 0, .ref h2])), (h1, .inl (k 2, 120, .inl (g3)))] H := hP
  have hD : va_D A [(h0, .inr (6, [.ref h1, .int 0, .int 0, .int 0, .ref h2])), (h1, .inl (k 2, 120, .inl (g3)))] := hD
  refine lv_aload_n hx hb dX9_receive_36 rfl (lv_at hl 1 rfl) ?_
  refine lv_dup hx hb dX9_receive_37 rfl ?_
  refine va_get (D := D) (ci := 6) (v := .int 0) (C := RX9) (T := TX9) (N := 5) hx hb hU iX9 hown hK.1 hP 0 rfl rfl 1 (by decide) (hU _ w121) (fun _ h9 => h9) rfl dX9_receive_38 ?_
  refine lv_iconst (v := 1) hx hb dX9_receive_41 (by decide) ?_
  refine lv_iadd hx hb dX9_receive_42 (sv_i (v := 1) (by decide +kernel) ?_)
  refine va_put (D := D) (ci := 6) (v := .int 1) (ty := .int) (C := RX9) (T := TX9) (N := 5) hx hb hU iX9 tyX9 tyX9_ok nmX9 hown hK.1 hP hD hS 0 rfl rfl 1 (by decide) (hU _ w121) (fun _ h9 => h9) rfl (by decide +kernel) rfl rfl (Nat.le_of_ble_eq_true rfl) dX9_receive_43 (fun H locs hP hD hS => ?_)
  have hP : va_P D cl0 [(h0, .inr (6, [.ref h1, .int 1, .int 0, .int 0, .ref h2])), (h1, .inl (k 2, 120, .inl (g3)))] H := hP
  have hD : va_D A [(h0, .inr (6, [.ref h1, .int 1, .int 0, .int 0, .ref h2])), (h1, .inl (k 2, 120, .inl (g3)))] := hD
  refine lv_iinc (v := 1) (lv' := [(4, .int 1), (0, .ref h0), (1, .long x0), (3, .int 4)]) hx hb dX9_receive_46 hl (k := 0) rfl (by decide) (by decide) rfl (fun ls hl => ?_)
  refine lv_goto (tgt := 3) hx hb dX9_receive_49 (by decide) ?_
  refine lv_iload hx hb dX9_receive_3 (lv_at hl 0 rfl) ?_
  refine lv_iload_n hx hb dX9_receive_5 rfl (lv_at hl 3 rfl) ?_
  refine lv_icmp_ge (tgt := 52) hx hb dX9_receive_6 (by decide) (fun cc => absurd cc (by decide +kernel)) (fun _ => ?_)
  refine lv_aload_n hx hb dX9_receive_9 rfl (lv_at hl 1 rfl) ?_
  refine va_get (D := D) (ci := 6) (v := .int 1) (C := RX9) (T := TX9) (N := 5) hx hb hU iX9 hown hK.1 hP 0 rfl rfl 1 (by decide) (hU _ w121) (fun _ h9 => h9) rfl dX9_receive_10 ?_
  refine lv_bipush (v := 120) hx hb dX9_receive_13 (by decide) ?_
  refine lv_icmp_ge (tgt := 52) hx hb dX9_receive_15 (by decide) (fun cc => absurd cc (by decide +kernel)) (fun _ => ?_)
  refine lv_aload_n hx hb dX9_receive_18 rfl (lv_at hl 1 rfl) ?_
  refine va_get (D := D) (ci := 6) (v := .ref h1) (C := RX9) (T := TX9) (N := 5) hx hb hU iX9 hown hK.1 hP 0 rfl rfl 0 (by decide) (hU _ w120) (fun _ h9 => h9) rfl dX9_receive_19 ?_
  refine lv_aload_n hx hb dX9_receive_22 rfl (lv_at hl 1 rfl) ?_
  refine va_get (D := D) (ci := 6) (v := .int 1) (C := RX9) (T := TX9) (N := 5) hx hb hU iX9 hown hK.1 hP 0 rfl rfl 1 (by decide) (hU _ w121) (fun _ h9 => h9) rfl dX9_receive_23 ?_
  refine lv_lload_n hx hb dX9_receive_26 rfl (lv_at hl 2 rfl) ?_
  refine lv_bipush (v := 8) hx hb dX9_receive_27 (by decide) ?_
  refine lv_iload hx hb dX9_receive_29 (lv_at hl 0 rfl) ?_
  refine lv_imul hx hb dX9_receive_31 (sv_i (v := 8) (by decide +kernel) ?_)
  refine lv_lushr hx hb dX9_receive_32 rfl (lv_topl (fun v4 _ => ?_))
  refine lv_l2i (v := v4.toInt32) hx hb dX9_receive_33 rfl ?_
  refine lv_i2b hx hb dX9_receive_34 rfl (lv_topi (fun v5 _ => ?_))
  refine st_b (j := 1) hx hb hK hP hD hS 1 rfl (by decide +kernel) dX9_receive_35 (fun H locs g6 hP hD hS => ?_)
  have hP : va_P D cl0 [(h0, .inr (6, [.ref h1, .int 1, .int 0, .int 0, .ref h2])), (h1, .inl (k 2, 120, .inl (g6)))] H := hP
  have hD : va_D A [(h0, .inr (6, [.ref h1, .int 1, .int 0, .int 0, .ref h2])), (h1, .inl (k 2, 120, .inl (g6)))] := hD
  refine lv_aload_n hx hb dX9_receive_36 rfl (lv_at hl 1 rfl) ?_
  refine lv_dup hx hb dX9_receive_37 rfl ?_
  refine va_get (D := D) (ci := 6) (v := .int 1) (C := RX9) (T := TX9) (N := 5) hx hb hU iX9 hown hK.1 hP 0 rfl rfl 1 (by decide) (hU _ w121) (fun _ h9 => h9) rfl dX9_receive_38 ?_
  refine lv_iconst (v := 1) hx hb dX9_receive_41 (by decide) ?_
  refine lv_iadd hx hb dX9_receive_42 (sv_i (v := 2) (by decide +kernel) ?_)
  refine va_put (D := D) (ci := 6) (v := .int 2) (ty := .int) (C := RX9) (T := TX9) (N := 5) hx hb hU iX9 tyX9 tyX9_ok nmX9 hown hK.1 hP hD hS 0 rfl rfl 1 (by decide) (hU _ w121) (fun _ h9 => h9) rfl (by decide +kernel) rfl rfl (Nat.le_of_ble_eq_true rfl) dX9_receive_43 (fun H locs hP hD hS => ?_)
  have hP : va_P D cl0 [(h0, .inr (6, [.ref h1, .int 2, .int 0, .int 0, .ref h2])), (h1, .inl (k 2, 120, .inl (g6)))] H := hP
  have hD : va_D A [(h0, .inr (6, [.ref h1, .int 2, .int 0, .int 0, .ref h2])), (h1, .inl (k 2, 120, .inl (g6)))] := hD
  refine lv_iinc (v := 2) (lv' := [(4, .int 2), (0, .ref h0), (1, .long x0), (3, .int 4)]) hx hb dX9_receive_46 hl (k := 0) rfl (by decide) (by decide) rfl (fun ls hl => ?_)
  refine lv_goto (tgt := 3) hx hb dX9_receive_49 (by decide) ?_
  refine lv_iload hx hb dX9_receive_3 (lv_at hl 0 rfl) ?_
  refine lv_iload_n hx hb dX9_receive_5 rfl (lv_at hl 3 rfl) ?_
  refine lv_icmp_ge (tgt := 52) hx hb dX9_receive_6 (by decide) (fun cc => absurd cc (by decide +kernel)) (fun _ => ?_)
  refine lv_aload_n hx hb dX9_receive_9 rfl (lv_at hl 1 rfl) ?_
  refine va_get (D := D) (ci := 6) (v := .int 2) (C := RX9) (T := TX9) (N := 5) hx hb hU iX9 hown hK.1 hP 0 rfl rfl 1 (by decide) (hU _ w121) (fun _ h9 => h9) rfl dX9_receive_10 ?_
  refine lv_bipush (v := 120) hx hb dX9_receive_13 (by decide) ?_
  refine lv_icmp_ge (tgt := 52) hx hb dX9_receive_15 (by decide) (fun cc => absurd cc (by decide +kernel)) (fun _ => ?_)
  refine lv_aload_n hx hb dX9_receive_18 rfl (lv_at hl 1 rfl) ?_
  refine va_get (D := D) (ci := 6) (v := .ref h1) (C := RX9) (T := TX9) (N := 5) hx hb hU iX9 hown hK.1 hP 0 rfl rfl 0 (by decide) (hU _ w120) (fun _ h9 => h9) rfl dX9_receive_19 ?_
  refine lv_aload_n hx hb dX9_receive_22 rfl (lv_at hl 1 rfl) ?_
  refine va_get (D := D) (ci := 6) (v := .int 2) (C := RX9) (T := TX9) (N := 5) hx hb hU iX9 hown hK.1 hP 0 rfl rfl 1 (by decide) (hU _ w121) (fun _ h9 => h9) rfl dX9_receive_23 ?_
  refine lv_lload_n hx hb dX9_receive_26 rfl (lv_at hl 2 rfl) ?_
  refine lv_bipush (v := 8) hx hb dX9_receive_27 (by decide) ?_
  refine lv_iload hx hb dX9_receive_29 (lv_at hl 0 rfl) ?_
  refine lv_imul hx hb dX9_receive_31 (sv_i (v := 16) (by decide +kernel) ?_)
  refine lv_lushr hx hb dX9_receive_32 rfl (lv_topl (fun v7 _ => ?_))
  refine lv_l2i (v := v7.toInt32) hx hb dX9_receive_33 rfl ?_
  refine lv_i2b hx hb dX9_receive_34 rfl (lv_topi (fun v8 _ => ?_))
  refine st_b (j := 2) hx hb hK hP hD hS 1 rfl (by decide +kernel) dX9_receive_35 (fun H locs g9 hP hD hS => ?_)
  have hP : va_P D cl0 [(h0, .inr (6, [.ref h1, .int 2, .int 0, .int 0, .ref h2])), (h1, .inl (k 2, 120, .inl (g9)))] H := hP
  have hD : va_D A [(h0, .inr (6, [.ref h1, .int 2, .int 0, .int 0, .ref h2])), (h1, .inl (k 2, 120, .inl (g9)))] := hD
  refine lv_aload_n hx hb dX9_receive_36 rfl (lv_at hl 1 rfl) ?_
  refine lv_dup hx hb dX9_receive_37 rfl ?_
  refine va_get (D := D) (ci := 6) (v := .int 2) (C := RX9) (T := TX9) (N := 5) hx hb hU iX9 hown hK.1 hP 0 rfl rfl 1 (by decide) (hU _ w121) (fun _ h9 => h9) rfl dX9_receive_38 ?_
  refine lv_iconst (v := 1) hx hb dX9_receive_41 (by decide) ?_
  refine lv_iadd hx hb dX9_receive_42 (sv_i (v := 3) (by decide +kernel) ?_)
  refine va_put (D := D) (ci := 6) (v := .int 3) (ty := .int) (C := RX9) (T := TX9) (N := 5) hx hb hU iX9 tyX9 tyX9_ok nmX9 hown hK.1 hP hD hS 0 rfl rfl 1 (by decide) (hU _ w121) (fun _ h9 => h9) rfl (by decide +kernel) rfl rfl (Nat.le_of_ble_eq_true rfl) dX9_receive_43 (fun H locs hP hD hS => ?_)
  have hP : va_P D cl0 [(h0, .inr (6, [.ref h1, .int 3, .int 0, .int 0, .ref h2])), (h1, .inl (k 2, 120, .inl (g9)))] H := hP
  have hD : va_D A [(h0, .inr (6, [.ref h1, .int 3, .int 0, .int 0, .ref h2])), (h1, .inl (k 2, 120, .inl (g9)))] := hD
  refine lv_iinc (v := 3) (lv' := [(4, .int 3), (0, .ref h0), (1, .long x0), (3, .int 4)]) hx hb dX9_receive_46 hl (k := 0) rfl (by decide) (by decide) rfl (fun ls hl => ?_)
  refine lv_goto (tgt := 3) hx hb dX9_receive_49 (by decide) ?_
  refine lv_iload hx hb dX9_receive_3 (lv_at hl 0 rfl) ?_
  refine lv_iload_n hx hb dX9_receive_5 rfl (lv_at hl 3 rfl) ?_
  refine lv_icmp_ge (tgt := 52) hx hb dX9_receive_6 (by decide) (fun cc => absurd cc (by decide +kernel)) (fun _ => ?_)
  refine lv_aload_n hx hb dX9_receive_9 rfl (lv_at hl 1 rfl) ?_
  refine va_get (D := D) (ci := 6) (v := .int 3) (C := RX9) (T := TX9) (N := 5) hx hb hU iX9 hown hK.1 hP 0 rfl rfl 1 (by decide) (hU _ w121) (fun _ h9 => h9) rfl dX9_receive_10 ?_
  refine lv_bipush (v := 120) hx hb dX9_receive_13 (by decide) ?_
  refine lv_icmp_ge (tgt := 52) hx hb dX9_receive_15 (by decide) (fun cc => absurd cc (by decide +kernel)) (fun _ => ?_)
  refine lv_aload_n hx hb dX9_receive_18 rfl (lv_at hl 1 rfl) ?_
  refine va_get (D := D) (ci := 6) (v := .ref h1) (C := RX9) (T := TX9) (N := 5) hx hb hU iX9 hown hK.1 hP 0 rfl rfl 0 (by decide) (hU _ w120) (fun _ h9 => h9) rfl dX9_receive_19 ?_
  refine lv_aload_n hx hb dX9_receive_22 rfl (lv_at hl 1 rfl) ?_
  refine va_get (D := D) (ci := 6) (v := .int 3) (C := RX9) (T := TX9) (N := 5) hx hb hU iX9 hown hK.1 hP 0 rfl rfl 1 (by decide) (hU _ w121) (fun _ h9 => h9) rfl dX9_receive_23 ?_
  refine lv_lload_n hx hb dX9_receive_26 rfl (lv_at hl 2 rfl) ?_
  refine lv_bipush (v := 8) hx hb dX9_receive_27 (by decide) ?_
  refine lv_iload hx hb dX9_receive_29 (lv_at hl 0 rfl) ?_
  refine lv_imul hx hb dX9_receive_31 (sv_i (v := 24) (by decide +kernel) ?_)
  refine lv_lushr hx hb dX9_receive_32 rfl (lv_topl (fun v10 _ => ?_))
  refine lv_l2i (v := v10.toInt32) hx hb dX9_receive_33 rfl ?_
  refine lv_i2b hx hb dX9_receive_34 rfl (lv_topi (fun v11 _ => ?_))
  refine st_b (j := 3) hx hb hK hP hD hS 1 rfl (by decide +kernel) dX9_receive_35 (fun H locs g12 hP hD hS => ?_)
  have hP : va_P D cl0 [(h0, .inr (6, [.ref h1, .int 3, .int 0, .int 0, .ref h2])), (h1, .inl (k 2, 120, .inl (g12)))] H := hP
  have hD : va_D A [(h0, .inr (6, [.ref h1, .int 3, .int 0, .int 0, .ref h2])), (h1, .inl (k 2, 120, .inl (g12)))] := hD
  refine lv_aload_n hx hb dX9_receive_36 rfl (lv_at hl 1 rfl) ?_
  refine lv_dup hx hb dX9_receive_37 rfl ?_
  refine va_get (D := D) (ci := 6) (v := .int 3) (C := RX9) (T := TX9) (N := 5) hx hb hU iX9 hown hK.1 hP 0 rfl rfl 1 (by decide) (hU _ w121) (fun _ h9 => h9) rfl dX9_receive_38 ?_
  refine lv_iconst (v := 1) hx hb dX9_receive_41 (by decide) ?_
  refine lv_iadd hx hb dX9_receive_42 (sv_i (v := 4) (by decide +kernel) ?_)
  refine va_put (D := D) (ci := 6) (v := .int 4) (ty := .int) (C := RX9) (T := TX9) (N := 5) hx hb hU iX9 tyX9 tyX9_ok nmX9 hown hK.1 hP hD hS 0 rfl rfl 1 (by decide) (hU _ w121) (fun _ h9 => h9) rfl (by decide +kernel) rfl rfl (Nat.le_of_ble_eq_true rfl) dX9_receive_43 (fun H locs hP hD hS => ?_)
  have hP : va_P D cl0 [(h0, .inr (6, [.ref h1, .int 4, .int 0, .int 0, .ref h2])), (h1, .inl (k 2, 120, .inl (g12)))] H := hP
  have hD : va_D A [(h0, .inr (6, [.ref h1, .int 4, .int 0, .int 0, .ref h2])), (h1, .inl (k 2, 120, .inl (g12)))] := hD
  refine lv_iinc (v := 4) (lv' := [(4, .int 4), (0, .ref h0), (1, .long x0), (3, .int 4)]) hx hb dX9_receive_46 hl (k := 0) rfl (by decide) (by decide) rfl (fun ls hl => ?_)
  refine lv_goto (tgt := 3) hx hb dX9_receive_49 (by decide) ?_
  refine lv_iload hx hb dX9_receive_3 (lv_at hl 0 rfl) ?_
  refine lv_iload_n hx hb dX9_receive_5 rfl (lv_at hl 3 rfl) ?_
  refine lv_icmp_ge (tgt := 52) hx hb dX9_receive_6 (by decide) (fun _ => ?_) (fun cc => absurd (by decide +kernel) cc)
  exact retV hx hb hr hlocks hS (⟨hP.sub [0] rfl, hD.sub [0] (by decide) rfl⟩) dX9_receive_52
abbrev BX9_receive_5 (D : va_G) (k : Nat → ClassId) (h0 h1 h2 : Nat) (x0 : Int64) (A : Nat → Prop) (H : Heap) : Prop := va_P D cl0 [(h0, .inr (6, [.ref h1, .int 5, .int 0, .int 0, .ref h2]))] H ∧ va_D A [(h0, .inr (6, [.ref h1, .int 5, .int 0, .int 0, .ref h2]))]
set_option maxHeartbeats 4000000 in
set_option maxRecDepth 100000 in
theorem cX9_receive_5 (l : Launch) (D : va_G) (k : Nat → ClassId) (sz : Nat) (h0 h1 h2 : Nat) (x0 : Int64) : Met l yX9_receive (Cond.code yX9_receive cX9_receive 5 none :: uw) ({ frames := 0, cells := 0, slots := 0, locals := 0 }) (pC D k sz [.ref h0, .long x0, .int 5] [(h0, .inr (6, [.ref h1, .int 0, .int 0, .int 0, .ref h2])), (h1, .inl (k 2, 120, .inl (tI [] 0)))]) (qV (BX9_receive_5 D k h0 h1 h2 x0 (va_A [(h0, .inr (6, [.ref h1, .int 0, .int 0, .int 0, .ref h2])), (h1, .inl (k 2, 120, .inl (tI [] 0)))] sz)) (va_A [(h0, .inr (6, [.ref h1, .int 0, .int 0, .int 0, .ref h2])), (h1, .inl (k 2, 120, .inl (tI [] 0)))] sz)) 0 0 (va_A [(h0, .inr (6, [.ref h1, .int 0, .int 0, .int 0, .ref h2])), (h1, .inl (k 2, 120, .inl (tI [] 0)))] sz) := by
  refine begin_ (Qc := fun A => qV (BX9_receive_5 D k h0 h1 h2 x0 A) A) (by decide) (Nat.le_of_ble_eq_true rfl) ?_
  intro p e s m below meth c ls A hx hb hr hml hown hlocks hin hU hK hsz hP hD hS hA hl
  have hl : lv_has ls 5 [(0, .ref h0), (1, .long x0), (3, .int 5)] := hl
  clear hsz
  refine lv_iconst (v := 0) hx hb dX9_receive_0 (by decide) ?_
  refine lv_istore (lv' := [(4, .int 0), (0, .ref h0), (1, .long x0), (3, .int 5)]) hx hb dX9_receive_1 hl (by decide) rfl (fun ls hl => ?_)
  refine lv_iload hx hb dX9_receive_3 (lv_at hl 0 rfl) ?_
  refine lv_iload_n hx hb dX9_receive_5 rfl (lv_at hl 3 rfl) ?_
  refine lv_icmp_ge (tgt := 52) hx hb dX9_receive_6 (by decide) (fun cc => absurd cc (by decide +kernel)) (fun _ => ?_)
  refine lv_aload_n hx hb dX9_receive_9 rfl (lv_at hl 1 rfl) ?_
  refine va_get (D := D) (ci := 6) (v := .int 0) (C := RX9) (T := TX9) (N := 5) hx hb hU iX9 hown hK.1 hP 0 rfl rfl 1 (by decide) (hU _ w121) (fun _ h9 => h9) rfl dX9_receive_10 ?_
  refine lv_bipush (v := 120) hx hb dX9_receive_13 (by decide) ?_
  refine lv_icmp_ge (tgt := 52) hx hb dX9_receive_15 (by decide) (fun cc => absurd cc (by decide +kernel)) (fun _ => ?_)
  refine lv_aload_n hx hb dX9_receive_18 rfl (lv_at hl 1 rfl) ?_
  refine va_get (D := D) (ci := 6) (v := .ref h1) (C := RX9) (T := TX9) (N := 5) hx hb hU iX9 hown hK.1 hP 0 rfl rfl 0 (by decide) (hU _ w120) (fun _ h9 => h9) rfl dX9_receive_19 ?_
  refine lv_aload_n hx hb dX9_receive_22 rfl (lv_at hl 1 rfl) ?_
  refine va_get (D := D) (ci := 6) (v := .int 0) (C := RX9) (T := TX9) (N := 5) hx hb hU iX9 hown hK.1 hP 0 rfl rfl 1 (by decide) (hU _ w121) (fun _ h9 => h9) rfl dX9_receive_23 ?_
  refine lv_lload_n hx hb dX9_receive_26 rfl (lv_at hl 2 rfl) ?_
  refine lv_bipush (v := 8) hx hb dX9_receive_27 (by decide) ?_
  refine lv_iload hx hb dX9_receive_29 (lv_at hl 0 rfl) ?_
  refine lv_imul hx hb dX9_receive_31 (sv_i (v := 0) (by decide +kernel) ?_)
  refine lv_lushr hx hb dX9_receive_32 rfl (lv_topl (fun v1 _ => ?_))
  refine lv_l2i (v := v1.toInt32) hx hb dX9_receive_33 rfl ?_
  refine lv_i2b hx hb dX9_receive_34 rfl (lv_topi (fun v2 _ => ?_))
  refine st_b (j := 0) hx hb hK hP hD hS 1 rfl (by decide +kernel) dX9_receive_35 (fun H locs g3 hP hD hS => ?_)
  have hP : va_P D cl0 [(h0, .inr (6, [.ref h1, .int 0, .int 0, .int 0, .ref h2])), (h1, .inl (k 2, 120, .inl (g3)))] H := hP
  have hD : va_D A [(h0, .inr (6, [.ref h1, .int 0, .int 0, .int 0, .ref h2])), (h1, .inl (k 2, 120, .inl (g3)))] := hD
  refine lv_aload_n hx hb dX9_receive_36 rfl (lv_at hl 1 rfl) ?_
  refine lv_dup hx hb dX9_receive_37 rfl ?_
  refine va_get (D := D) (ci := 6) (v := .int 0) (C := RX9) (T := TX9) (N := 5) hx hb hU iX9 hown hK.1 hP 0 rfl rfl 1 (by decide) (hU _ w121) (fun _ h9 => h9) rfl dX9_receive_38 ?_
  refine lv_iconst (v := 1) hx hb dX9_receive_41 (by decide) ?_
  refine lv_iadd hx hb dX9_receive_42 (sv_i (v := 1) (by decide +kernel) ?_)
  refine va_put (D := D) (ci := 6) (v := .int 1) (ty := .int) (C := RX9) (T := TX9) (N := 5) hx hb hU iX9 tyX9 tyX9_ok nmX9 hown hK.1 hP hD hS 0 rfl rfl 1 (by decide) (hU _ w121) (fun _ h9 => h9) rfl (by decide +kernel) rfl rfl (Nat.le_of_ble_eq_true rfl) dX9_receive_43 (fun H locs hP hD hS => ?_)
  have hP : va_P D cl0 [(h0, .inr (6, [.ref h1, .int 1, .int 0, .int 0, .ref h2])), (h1, .inl (k 2, 120, .inl (g3)))] H := hP
  have hD : va_D A [(h0, .inr (6, [.ref h1, .int 1, .int 0, .int 0, .ref h2])), (h1, .inl (k 2, 120, .inl (g3)))] := hD
  refine lv_iinc (v := 1) (lv' := [(4, .int 1), (0, .ref h0), (1, .long x0), (3, .int 5)]) hx hb dX9_receive_46 hl (k := 0) rfl (by decide) (by decide) rfl (fun ls hl => ?_)
  refine lv_goto (tgt := 3) hx hb dX9_receive_49 (by decide) ?_
  refine lv_iload hx hb dX9_receive_3 (lv_at hl 0 rfl) ?_
  refine lv_iload_n hx hb dX9_receive_5 rfl (lv_at hl 3 rfl) ?_
  refine lv_icmp_ge (tgt := 52) hx hb dX9_receive_6 (by decide) (fun cc => absurd cc (by decide +kernel)) (fun _ => ?_)
  refine lv_aload_n hx hb dX9_receive_9 rfl (lv_at hl 1 rfl) ?_
  refine va_get (D := D) (ci := 6) (v := .int 1) (C := RX9) (T := TX9) (N := 5) hx hb hU iX9 hown hK.1 hP 0 rfl rfl 1 (by decide) (hU _ w121) (fun _ h9 => h9) rfl dX9_receive_10 ?_
  refine lv_bipush (v := 120) hx hb dX9_receive_13 (by decide) ?_
  refine lv_icmp_ge (tgt := 52) hx hb dX9_receive_15 (by decide) (fun cc => absurd cc (by decide +kernel)) (fun _ => ?_)
  refine lv_aload_n hx hb dX9_receive_18 rfl (lv_at hl 1 rfl) ?_
  refine va_get (D := D) (ci := 6) (v := .ref h1) (C := RX9) (T := TX9) (N := 5) hx hb hU iX9 hown hK.1 hP 0 rfl rfl 0 (by decide) (hU _ w120) (fun _ h9 => h9) rfl dX9_receive_19 ?_
  refine lv_aload_n hx hb dX9_receive_22 rfl (lv_at hl 1 rfl) ?_
  refine va_get (D := D) (ci := 6) (v := .int 1) (C := RX9) (T := TX9) (N := 5) hx hb hU iX9 hown hK.1 hP 0 rfl rfl 1 (by decide) (hU _ w121) (fun _ h9 => h9) rfl dX9_receive_23 ?_
  refine lv_lload_n hx hb dX9_receive_26 rfl (lv_at hl 2 rfl) ?_
  refine lv_bipush (v := 8) hx hb dX9_receive_27 (by decide) ?_
  refine lv_iload hx hb dX9_receive_29 (lv_at hl 0 rfl) ?_
  refine lv_imul hx hb dX9_receive_31 (sv_i (v := 8) (by decide +kernel) ?_)
  refine lv_lushr hx hb dX9_receive_32 rfl (lv_topl (fun v4 _ => ?_))
  refine lv_l2i (v := v4.toInt32) hx hb dX9_receive_33 rfl ?_
  refine lv_i2b hx hb dX9_receive_34 rfl (lv_topi (fun v5 _ => ?_))
  refine st_b (j := 1) hx hb hK hP hD hS 1 rfl (by decide +kernel) dX9_receive_35 (fun H locs g6 hP hD hS => ?_)
  have hP : va_P D cl0 [(h0, .inr (6, [.ref h1, .int 1, .int 0, .int 0, .ref h2])), (h1, .inl (k 2, 120, .inl (g6)))] H := hP
  have hD : va_D A [(h0, .inr (6, [.ref h1, .int 1, .int 0, .int 0, .ref h2])), (h1, .inl (k 2, 120, .inl (g6)))] := hD
  refine lv_aload_n hx hb dX9_receive_36 rfl (lv_at hl 1 rfl) ?_
  refine lv_dup hx hb dX9_receive_37 rfl ?_
  refine va_get (D := D) (ci := 6) (v := .int 1) (C := RX9) (T := TX9) (N := 5) hx hb hU iX9 hown hK.1 hP 0 rfl rfl 1 (by decide) (hU _ w121) (fun _ h9 => h9) rfl dX9_receive_38 ?_
  refine lv_iconst (v := 1) hx hb dX9_receive_41 (by decide) ?_
  refine lv_iadd hx hb dX9_receive_42 (sv_i (v := 2) (by decide +kernel) ?_)
  refine va_put (D := D) (ci := 6) (v := .int 2) (ty := .int) (C := RX9) (T := TX9) (N := 5) hx hb hU iX9 tyX9 tyX9_ok nmX9 hown hK.1 hP hD hS 0 rfl rfl 1 (by decide) (hU _ w121) (fun _ h9 => h9) rfl (by decide +kernel) rfl rfl (Nat.le_of_ble_eq_true rfl) dX9_receive_43 (fun H locs hP hD hS => ?_)
  have hP : va_P D cl0 [(h0, .inr (6, [.ref h1, .int 2, .int 0, .int 0, .ref h2])), (h1, .inl (k 2, 120, .inl (g6)))] H := hP
  have hD : va_D A [(h0, .inr (6, [.ref h1, .int 2, .int 0, .int 0, .ref h2])), (h1, .inl (k 2, 120, .inl (g6)))] := hD
  refine lv_iinc (v := 2) (lv' := [(4, .int 2), (0, .ref h0), (1, .long x0), (3, .int 5)]) hx hb dX9_receive_46 hl (k := 0) rfl (by decide) (by decide) rfl (fun ls hl => ?_)
  refine lv_goto (tgt := 3) hx hb dX9_receive_49 (by decide) ?_
  refine lv_iload hx hb dX9_receive_3 (lv_at hl 0 rfl) ?_
  refine lv_iload_n hx hb dX9_receive_5 rfl (lv_at hl 3 rfl) ?_
  refine lv_icmp_ge (tgt := 52) hx hb dX9_receive_6 (by decide) (fun cc => absurd cc (by decide +kernel)) (fun _ => ?_)
  refine lv_aload_n hx hb dX9_receive_9 rfl (lv_at hl 1 rfl) ?_
  refine va_get (D := D) (ci := 6) (v := .int 2) (C := RX9) (T := TX9) (N := 5) hx hb hU iX9 hown hK.1 hP 0 rfl rfl 1 (by decide) (hU _ w121) (fun _ h9 => h9) rfl dX9_receive_10 ?_
  refine lv_bipush (v := 120) hx hb dX9_receive_13 (by decide) ?_
  refine lv_icmp_ge (tgt := 52) hx hb dX9_receive_15 (by decide) (fun cc => absurd cc (by decide +kernel)) (fun _ => ?_)
  refine lv_aload_n hx hb dX9_receive_18 rfl (lv_at hl 1 rfl) ?_
  refine va_get (D := D) (ci := 6) (v := .ref h1) (C := RX9) (T := TX9) (N := 5) hx hb hU iX9 hown hK.1 hP 0 rfl rfl 0 (by decide) (hU _ w120) (fun _ h9 => h9) rfl dX9_receive_19 ?_
  refine lv_aload_n hx hb dX9_receive_22 rfl (lv_at hl 1 rfl) ?_
  refine va_get (D := D) (ci := 6) (v := .int 2) (C := RX9) (T := TX9) (N := 5) hx hb hU iX9 hown hK.1 hP 0 rfl rfl 1 (by decide) (hU _ w121) (fun _ h9 => h9) rfl dX9_receive_23 ?_
  refine lv_lload_n hx hb dX9_receive_26 rfl (lv_at hl 2 rfl) ?_
  refine lv_bipush (v := 8) hx hb dX9_receive_27 (by decide) ?_
  refine lv_iload hx hb dX9_receive_29 (lv_at hl 0 rfl) ?_
  refine lv_imul hx hb dX9_receive_31 (sv_i (v := 16) (by decide +kernel) ?_)
  refine lv_lushr hx hb dX9_receive_32 rfl (lv_topl (fun v7 _ => ?_))
  refine lv_l2i (v := v7.toInt32) hx hb dX9_receive_33 rfl ?_
  refine lv_i2b hx hb dX9_receive_34 rfl (lv_topi (fun v8 _ => ?_))
  refine st_b (j := 2) hx hb hK hP hD hS 1 rfl (by decide +kernel) dX9_receive_35 (fun H locs g9 hP hD hS => ?_)
  have hP : va_P D cl0 [(h0, .inr (6, [.ref h1, .int 2, .int 0, .int 0, .ref h2])), (h1, .inl (k 2, 120, .inl (g9)))] H := hP
  have hD : va_D A [(h0, .inr (6, [.ref h1, .int 2, .int 0, .int 0, .ref h2])), (h1, .inl (k 2, 120, .inl (g9)))] := hD
  refine lv_aload_n hx hb dX9_receive_36 rfl (lv_at hl 1 rfl) ?_
  refine lv_dup hx hb dX9_receive_37 rfl ?_
  refine va_get (D := D) (ci := 6) (v := .int 2) (C := RX9) (T := TX9) (N := 5) hx hb hU iX9 hown hK.1 hP 0 rfl rfl 1 (by decide) (hU _ w121) (fun _ h9 => h9) rfl dX9_receive_38 ?_
  refine lv_iconst (v := 1) hx hb dX9_receive_41 (by decide) ?_
  refine lv_iadd hx hb dX9_receive_42 (sv_i (v := 3) (by decide +kernel) ?_)
  refine va_put (D := D) (ci := 6) (v := .int 3) (ty := .int) (C := RX9) (T := TX9) (N := 5) hx hb hU iX9 tyX9 tyX9_ok nmX9 hown hK.1 hP hD hS 0 rfl rfl 1 (by decide) (hU _ w121) (fun _ h9 => h9) rfl (by decide +kernel) rfl rfl (Nat.le_of_ble_eq_true rfl) dX9_receive_43 (fun H locs hP hD hS => ?_)
  have hP : va_P D cl0 [(h0, .inr (6, [.ref h1, .int 3, .int 0, .int 0, .ref h2])), (h1, .inl (k 2, 120, .inl (g9)))] H := hP
  have hD : va_D A [(h0, .inr (6, [.ref h1, .int 3, .int 0, .int 0, .ref h2])), (h1, .inl (k 2, 120, .inl (g9)))] := hD
  refine lv_iinc (v := 3) (lv' := [(4, .int 3), (0, .ref h0), (1, .long x0), (3, .int 5)]) hx hb dX9_receive_46 hl (k := 0) rfl (by decide) (by decide) rfl (fun ls hl => ?_)
  refine lv_goto (tgt := 3) hx hb dX9_receive_49 (by decide) ?_
  refine lv_iload hx hb dX9_receive_3 (lv_at hl 0 rfl) ?_
  refine lv_iload_n hx hb dX9_receive_5 rfl (lv_at hl 3 rfl) ?_
  refine lv_icmp_ge (tgt := 52) hx hb dX9_receive_6 (by decide) (fun cc => absurd cc (by decide +kernel)) (fun _ => ?_)
  refine lv_aload_n hx hb dX9_receive_9 rfl (lv_at hl 1 rfl) ?_
  refine va_get (D := D) (ci := 6) (v := .int 3) (C := RX9) (T := TX9) (N := 5) hx hb hU iX9 hown hK.1 hP 0 rfl rfl 1 (by decide) (hU _ w121) (fun _ h9 => h9) rfl dX9_receive_10 ?_
  refine lv_bipush (v := 120) hx hb dX9_receive_13 (by decide) ?_
  refine lv_icmp_ge (tgt := 52) hx hb dX9_receive_15 (by decide) (fun cc => absurd cc (by decide +kernel)) (fun _ => ?_)
  refine lv_aload_n hx hb dX9_receive_18 rfl (lv_at hl 1 rfl) ?_
  refine va_get (D := D) (ci := 6) (v := .ref h1) (C := RX9) (T := TX9) (N := 5) hx hb hU iX9 hown hK.1 hP 0 rfl rfl 0 (by decide) (hU _ w120) (fun _ h9 => h9) rfl dX9_receive_19 ?_
  refine lv_aload_n hx hb dX9_receive_22 rfl (lv_at hl 1 rfl) ?_
  refine va_get (D := D) (ci := 6) (v := .int 3) (C := RX9) (T := TX9) (N := 5) hx hb hU iX9 hown hK.1 hP 0 rfl rfl 1 (by decide) (hU _ w121) (fun _ h9 => h9) rfl dX9_receive_23 ?_
  refine lv_lload_n hx hb dX9_receive_26 rfl (lv_at hl 2 rfl) ?_
  refine lv_bipush (v := 8) hx hb dX9_receive_27 (by decide) ?_
  refine lv_iload hx hb dX9_receive_29 (lv_at hl 0 rfl) ?_
  refine lv_imul hx hb dX9_receive_31 (sv_i (v := 24) (by decide +kernel) ?_)
  refine lv_lushr hx hb dX9_receive_32 rfl (lv_topl (fun v10 _ => ?_))
  refine lv_l2i (v := v10.toInt32) hx hb dX9_receive_33 rfl ?_
  refine lv_i2b hx hb dX9_receive_34 rfl (lv_topi (fun v11 _ => ?_))
  refine st_b (j := 3) hx hb hK hP hD hS 1 rfl (by decide +kernel) dX9_receive_35 (fun H locs g12 hP hD hS => ?_)
  have hP : va_P D cl0 [(h0, .inr (6, [.ref h1, .int 3, .int 0, .int 0, .ref h2])), (h1, .inl (k 2, 120, .inl (g12)))] H := hP
  have hD : va_D A [(h0, .inr (6, [.ref h1, .int 3, .int 0, .int 0, .ref h2])), (h1, .inl (k 2, 120, .inl (g12)))] := hD
  refine lv_aload_n hx hb dX9_receive_36 rfl (lv_at hl 1 rfl) ?_
  refine lv_dup hx hb dX9_receive_37 rfl ?_
  refine va_get (D := D) (ci := 6) (v := .int 3) (C := RX9) (T := TX9) (N := 5) hx hb hU iX9 hown hK.1 hP 0 rfl rfl 1 (by decide) (hU _ w121) (fun _ h9 => h9) rfl dX9_receive_38 ?_
  refine lv_iconst (v := 1) hx hb dX9_receive_41 (by decide) ?_
  refine lv_iadd hx hb dX9_receive_42 (sv_i (v := 4) (by decide +kernel) ?_)
  refine va_put (D := D) (ci := 6) (v := .int 4) (ty := .int) (C := RX9) (T := TX9) (N := 5) hx hb hU iX9 tyX9 tyX9_ok nmX9 hown hK.1 hP hD hS 0 rfl rfl 1 (by decide) (hU _ w121) (fun _ h9 => h9) rfl (by decide +kernel) rfl rfl (Nat.le_of_ble_eq_true rfl) dX9_receive_43 (fun H locs hP hD hS => ?_)
  have hP : va_P D cl0 [(h0, .inr (6, [.ref h1, .int 4, .int 0, .int 0, .ref h2])), (h1, .inl (k 2, 120, .inl (g12)))] H := hP
  have hD : va_D A [(h0, .inr (6, [.ref h1, .int 4, .int 0, .int 0, .ref h2])), (h1, .inl (k 2, 120, .inl (g12)))] := hD
  refine lv_iinc (v := 4) (lv' := [(4, .int 4), (0, .ref h0), (1, .long x0), (3, .int 5)]) hx hb dX9_receive_46 hl (k := 0) rfl (by decide) (by decide) rfl (fun ls hl => ?_)
  refine lv_goto (tgt := 3) hx hb dX9_receive_49 (by decide) ?_
  refine lv_iload hx hb dX9_receive_3 (lv_at hl 0 rfl) ?_
  refine lv_iload_n hx hb dX9_receive_5 rfl (lv_at hl 3 rfl) ?_
  refine lv_icmp_ge (tgt := 52) hx hb dX9_receive_6 (by decide) (fun cc => absurd cc (by decide +kernel)) (fun _ => ?_)
  refine lv_aload_n hx hb dX9_receive_9 rfl (lv_at hl 1 rfl) ?_
  refine va_get (D := D) (ci := 6) (v := .int 4) (C := RX9) (T := TX9) (N := 5) hx hb hU iX9 hown hK.1 hP 0 rfl rfl 1 (by decide) (hU _ w121) (fun _ h9 => h9) rfl dX9_receive_10 ?_
  refine lv_bipush (v := 120) hx hb dX9_receive_13 (by decide) ?_
  refine lv_icmp_ge (tgt := 52) hx hb dX9_receive_15 (by decide) (fun cc => absurd cc (by decide +kernel)) (fun _ => ?_)
  refine lv_aload_n hx hb dX9_receive_18 rfl (lv_at hl 1 rfl) ?_
  refine va_get (D := D) (ci := 6) (v := .ref h1) (C := RX9) (T := TX9) (N := 5) hx hb hU iX9 hown hK.1 hP 0 rfl rfl 0 (by decide) (hU _ w120) (fun _ h9 => h9) rfl dX9_receive_19 ?_
  refine lv_aload_n hx hb dX9_receive_22 rfl (lv_at hl 1 rfl) ?_
  refine va_get (D := D) (ci := 6) (v := .int 4) (C := RX9) (T := TX9) (N := 5) hx hb hU iX9 hown hK.1 hP 0 rfl rfl 1 (by decide) (hU _ w121) (fun _ h9 => h9) rfl dX9_receive_23 ?_
  refine lv_lload_n hx hb dX9_receive_26 rfl (lv_at hl 2 rfl) ?_
  refine lv_bipush (v := 8) hx hb dX9_receive_27 (by decide) ?_
  refine lv_iload hx hb dX9_receive_29 (lv_at hl 0 rfl) ?_
  refine lv_imul hx hb dX9_receive_31 (sv_i (v := 32) (by decide +kernel) ?_)
  refine lv_lushr hx hb dX9_receive_32 rfl (lv_topl (fun v13 _ => ?_))
  refine lv_l2i (v := v13.toInt32) hx hb dX9_receive_33 rfl ?_
  refine lv_i2b hx hb dX9_receive_34 rfl (lv_topi (fun v14 _ => ?_))
  refine st_b (j := 4) hx hb hK hP hD hS 1 rfl (by decide +kernel) dX9_receive_35 (fun H locs g15 hP hD hS => ?_)
  have hP : va_P D cl0 [(h0, .inr (6, [.ref h1, .int 4, .int 0, .int 0, .ref h2])), (h1, .inl (k 2, 120, .inl (g15)))] H := hP
  have hD : va_D A [(h0, .inr (6, [.ref h1, .int 4, .int 0, .int 0, .ref h2])), (h1, .inl (k 2, 120, .inl (g15)))] := hD
  refine lv_aload_n hx hb dX9_receive_36 rfl (lv_at hl 1 rfl) ?_
  refine lv_dup hx hb dX9_receive_37 rfl ?_
  refine va_get (D := D) (ci := 6) (v := .int 4) (C := RX9) (T := TX9) (N := 5) hx hb hU iX9 hown hK.1 hP 0 rfl rfl 1 (by decide) (hU _ w121) (fun _ h9 => h9) rfl dX9_receive_38 ?_
  refine lv_iconst (v := 1) hx hb dX9_receive_41 (by decide) ?_
  refine lv_iadd hx hb dX9_receive_42 (sv_i (v := 5) (by decide +kernel) ?_)
  refine va_put (D := D) (ci := 6) (v := .int 5) (ty := .int) (C := RX9) (T := TX9) (N := 5) hx hb hU iX9 tyX9 tyX9_ok nmX9 hown hK.1 hP hD hS 0 rfl rfl 1 (by decide) (hU _ w121) (fun _ h9 => h9) rfl (by decide +kernel) rfl rfl (Nat.le_of_ble_eq_true rfl) dX9_receive_43 (fun H locs hP hD hS => ?_)
  have hP : va_P D cl0 [(h0, .inr (6, [.ref h1, .int 5, .int 0, .int 0, .ref h2])), (h1, .inl (k 2, 120, .inl (g15)))] H := hP
  have hD : va_D A [(h0, .inr (6, [.ref h1, .int 5, .int 0, .int 0, .ref h2])), (h1, .inl (k 2, 120, .inl (g15)))] := hD
  refine lv_iinc (v := 5) (lv' := [(4, .int 5), (0, .ref h0), (1, .long x0), (3, .int 5)]) hx hb dX9_receive_46 hl (k := 0) rfl (by decide) (by decide) rfl (fun ls hl => ?_)
  refine lv_goto (tgt := 3) hx hb dX9_receive_49 (by decide) ?_
  refine lv_iload hx hb dX9_receive_3 (lv_at hl 0 rfl) ?_
  refine lv_iload_n hx hb dX9_receive_5 rfl (lv_at hl 3 rfl) ?_
  refine lv_icmp_ge (tgt := 52) hx hb dX9_receive_6 (by decide) (fun _ => ?_) (fun cc => absurd (by decide +kernel) cc)
  exact retV hx hb hr hlocks hS (⟨hP.sub [0] rfl, hD.sub [0] (by decide) rfl⟩) dX9_receive_52
abbrev BX9_receive_6 (D : va_G) (k : Nat → ClassId) (h0 h1 h2 : Nat) (x0 : Int64) (A : Nat → Prop) (H : Heap) : Prop := va_P D cl0 [(h0, .inr (6, [.ref h1, .int 6, .int 0, .int 0, .ref h2]))] H ∧ va_D A [(h0, .inr (6, [.ref h1, .int 6, .int 0, .int 0, .ref h2]))]
set_option maxHeartbeats 4000000 in
set_option maxRecDepth 100000 in
theorem cX9_receive_6 (l : Launch) (D : va_G) (k : Nat → ClassId) (sz : Nat) (h0 h1 h2 : Nat) (x0 : Int64) : Met l yX9_receive (Cond.code yX9_receive cX9_receive 5 none :: uw) ({ frames := 0, cells := 0, slots := 0, locals := 0 }) (pC D k sz [.ref h0, .long x0, .int 6] [(h0, .inr (6, [.ref h1, .int 0, .int 0, .int 0, .ref h2])), (h1, .inl (k 2, 120, .inl (tI [] 0)))]) (qV (BX9_receive_6 D k h0 h1 h2 x0 (va_A [(h0, .inr (6, [.ref h1, .int 0, .int 0, .int 0, .ref h2])), (h1, .inl (k 2, 120, .inl (tI [] 0)))] sz)) (va_A [(h0, .inr (6, [.ref h1, .int 0, .int 0, .int 0, .ref h2])), (h1, .inl (k 2, 120, .inl (tI [] 0)))] sz)) 0 0 (va_A [(h0, .inr (6, [.ref h1, .int 0, .int 0, .int 0, .ref h2])), (h1, .inl (k 2, 120, .inl (tI [] 0)))] sz) := by
  refine begin_ (Qc := fun A => qV (BX9_receive_6 D k h0 h1 h2 x0 A) A) (by decide) (Nat.le_of_ble_eq_true rfl) ?_
  intro p e s m below meth c ls A hx hb hr hml hown hlocks hin hU hK hsz hP hD hS hA hl
  have hl : lv_has ls 5 [(0, .ref h0), (1, .long x0), (3, .int 6)] := hl
  clear hsz
  refine lv_iconst (v := 0) hx hb dX9_receive_0 (by decide) ?_
  refine lv_istore (lv' := [(4, .int 0), (0, .ref h0), (1, .long x0), (3, .int 6)]) hx hb dX9_receive_1 hl (by decide) rfl (fun ls hl => ?_)
  refine lv_iload hx hb dX9_receive_3 (lv_at hl 0 rfl) ?_
  refine lv_iload_n hx hb dX9_receive_5 rfl (lv_at hl 3 rfl) ?_
  refine lv_icmp_ge (tgt := 52) hx hb dX9_receive_6 (by decide) (fun cc => absurd cc (by decide +kernel)) (fun _ => ?_)
  refine lv_aload_n hx hb dX9_receive_9 rfl (lv_at hl 1 rfl) ?_
  refine va_get (D := D) (ci := 6) (v := .int 0) (C := RX9) (T := TX9) (N := 5) hx hb hU iX9 hown hK.1 hP 0 rfl rfl 1 (by decide) (hU _ w121) (fun _ h9 => h9) rfl dX9_receive_10 ?_
  refine lv_bipush (v := 120) hx hb dX9_receive_13 (by decide) ?_
  refine lv_icmp_ge (tgt := 52) hx hb dX9_receive_15 (by decide) (fun cc => absurd cc (by decide +kernel)) (fun _ => ?_)
  refine lv_aload_n hx hb dX9_receive_18 rfl (lv_at hl 1 rfl) ?_
  refine va_get (D := D) (ci := 6) (v := .ref h1) (C := RX9) (T := TX9) (N := 5) hx hb hU iX9 hown hK.1 hP 0 rfl rfl 0 (by decide) (hU _ w120) (fun _ h9 => h9) rfl dX9_receive_19 ?_
  refine lv_aload_n hx hb dX9_receive_22 rfl (lv_at hl 1 rfl) ?_
  refine va_get (D := D) (ci := 6) (v := .int 0) (C := RX9) (T := TX9) (N := 5) hx hb hU iX9 hown hK.1 hP 0 rfl rfl 1 (by decide) (hU _ w121) (fun _ h9 => h9) rfl dX9_receive_23 ?_
  refine lv_lload_n hx hb dX9_receive_26 rfl (lv_at hl 2 rfl) ?_
  refine lv_bipush (v := 8) hx hb dX9_receive_27 (by decide) ?_
  refine lv_iload hx hb dX9_receive_29 (lv_at hl 0 rfl) ?_
  refine lv_imul hx hb dX9_receive_31 (sv_i (v := 0) (by decide +kernel) ?_)
  refine lv_lushr hx hb dX9_receive_32 rfl (lv_topl (fun v1 _ => ?_))
  refine lv_l2i (v := v1.toInt32) hx hb dX9_receive_33 rfl ?_
  refine lv_i2b hx hb dX9_receive_34 rfl (lv_topi (fun v2 _ => ?_))
  refine st_b (j := 0) hx hb hK hP hD hS 1 rfl (by decide +kernel) dX9_receive_35 (fun H locs g3 hP hD hS => ?_)
  have hP : va_P D cl0 [(h0, .inr (6, [.ref h1, .int 0, .int 0, .int 0, .ref h2])), (h1, .inl (k 2, 120, .inl (g3)))] H := hP
  have hD : va_D A [(h0, .inr (6, [.ref h1, .int 0, .int 0, .int 0, .ref h2])), (h1, .inl (k 2, 120, .inl (g3)))] := hD
  refine lv_aload_n hx hb dX9_receive_36 rfl (lv_at hl 1 rfl) ?_
  refine lv_dup hx hb dX9_receive_37 rfl ?_
  refine va_get (D := D) (ci := 6) (v := .int 0) (C := RX9) (T := TX9) (N := 5) hx hb hU iX9 hown hK.1 hP 0 rfl rfl 1 (by decide) (hU _ w121) (fun _ h9 => h9) rfl dX9_receive_38 ?_
  refine lv_iconst (v := 1) hx hb dX9_receive_41 (by decide) ?_
  refine lv_iadd hx hb dX9_receive_42 (sv_i (v := 1) (by decide +kernel) ?_)
  refine va_put (D := D) (ci := 6) (v := .int 1) (ty := .int) (C := RX9) (T := TX9) (N := 5) hx hb hU iX9 tyX9 tyX9_ok nmX9 hown hK.1 hP hD hS 0 rfl rfl 1 (by decide) (hU _ w121) (fun _ h9 => h9) rfl (by decide +kernel) rfl rfl (Nat.le_of_ble_eq_true rfl) dX9_receive_43 (fun H locs hP hD hS => ?_)
  have hP : va_P D cl0 [(h0, .inr (6, [.ref h1, .int 1, .int 0, .int 0, .ref h2])), (h1, .inl (k 2, 120, .inl (g3)))] H := hP
  have hD : va_D A [(h0, .inr (6, [.ref h1, .int 1, .int 0, .int 0, .ref h2])), (h1, .inl (k 2, 120, .inl (g3)))] := hD
  refine lv_iinc (v := 1) (lv' := [(4, .int 1), (0, .ref h0), (1, .long x0), (3, .int 6)]) hx hb dX9_receive_46 hl (k := 0) rfl (by decide) (by decide) rfl (fun ls hl => ?_)
  refine lv_goto (tgt := 3) hx hb dX9_receive_49 (by decide) ?_
  refine lv_iload hx hb dX9_receive_3 (lv_at hl 0 rfl) ?_
  refine lv_iload_n hx hb dX9_receive_5 rfl (lv_at hl 3 rfl) ?_
  refine lv_icmp_ge (tgt := 52) hx hb dX9_receive_6 (by decide) (fun cc => absurd cc (by decide +kernel)) (fun _ => ?_)
  refine lv_aload_n hx hb dX9_receive_9 rfl (lv_at hl 1 rfl) ?_
  refine va_get (D := D) (ci := 6) (v := .int 1) (C := RX9) (T := TX9) (N := 5) hx hb hU iX9 hown hK.1 hP 0 rfl rfl 1 (by decide) (hU _ w121) (fun _ h9 => h9) rfl dX9_receive_10 ?_
  refine lv_bipush (v := 120) hx hb dX9_receive_13 (by decide) ?_
  refine lv_icmp_ge (tgt := 52) hx hb dX9_receive_15 (by decide) (fun cc => absurd cc (by decide +kernel)) (fun _ => ?_)
  refine lv_aload_n hx hb dX9_receive_18 rfl (lv_at hl 1 rfl) ?_
  refine va_get (D := D) (ci := 6) (v := .ref h1) (C := RX9) (T := TX9) (N := 5) hx hb hU iX9 hown hK.1 hP 0 rfl rfl 0 (by decide) (hU _ w120) (fun _ h9 => h9) rfl dX9_receive_19 ?_
  refine lv_aload_n hx hb dX9_receive_22 rfl (lv_at hl 1 rfl) ?_
  refine va_get (D := D) (ci := 6) (v := .int 1) (C := RX9) (T := TX9) (N := 5) hx hb hU iX9 hown hK.1 hP 0 rfl rfl 1 (by decide) (hU _ w121) (fun _ h9 => h9) rfl dX9_receive_23 ?_
  refine lv_lload_n hx hb dX9_receive_26 rfl (lv_at hl 2 rfl) ?_
  refine lv_bipush (v := 8) hx hb dX9_receive_27 (by decide) ?_
  refine lv_iload hx hb dX9_receive_29 (lv_at hl 0 rfl) ?_
  refine lv_imul hx hb dX9_receive_31 (sv_i (v := 8) (by decide +kernel) ?_)
  refine lv_lushr hx hb dX9_receive_32 rfl (lv_topl (fun v4 _ => ?_))
  refine lv_l2i (v := v4.toInt32) hx hb dX9_receive_33 rfl ?_
  refine lv_i2b hx hb dX9_receive_34 rfl (lv_topi (fun v5 _ => ?_))
  refine st_b (j := 1) hx hb hK hP hD hS 1 rfl (by decide +kernel) dX9_receive_35 (fun H locs g6 hP hD hS => ?_)
  have hP : va_P D cl0 [(h0, .inr (6, [.ref h1, .int 1, .int 0, .int 0, .ref h2])), (h1, .inl (k 2, 120, .inl (g6)))] H := hP
  have hD : va_D A [(h0, .inr (6, [.ref h1, .int 1, .int 0, .int 0, .ref h2])), (h1, .inl (k 2, 120, .inl (g6)))] := hD
  refine lv_aload_n hx hb dX9_receive_36 rfl (lv_at hl 1 rfl) ?_
  refine lv_dup hx hb dX9_receive_37 rfl ?_
  refine va_get (D := D) (ci := 6) (v := .int 1) (C := RX9) (T := TX9) (N := 5) hx hb hU iX9 hown hK.1 hP 0 rfl rfl 1 (by decide) (hU _ w121) (fun _ h9 => h9) rfl dX9_receive_38 ?_
  refine lv_iconst (v := 1) hx hb dX9_receive_41 (by decide) ?_
  refine lv_iadd hx hb dX9_receive_42 (sv_i (v := 2) (by decide +kernel) ?_)
  refine va_put (D := D) (ci := 6) (v := .int 2) (ty := .int) (C := RX9) (T := TX9) (N := 5) hx hb hU iX9 tyX9 tyX9_ok nmX9 hown hK.1 hP hD hS 0 rfl rfl 1 (by decide) (hU _ w121) (fun _ h9 => h9) rfl (by decide +kernel) rfl rfl (Nat.le_of_ble_eq_true rfl) dX9_receive_43 (fun H locs hP hD hS => ?_)
  have hP : va_P D cl0 [(h0, .inr (6, [.ref h1, .int 2, .int 0, .int 0, .ref h2])), (h1, .inl (k 2, 120, .inl (g6)))] H := hP
  have hD : va_D A [(h0, .inr (6, [.ref h1, .int 2, .int 0, .int 0, .ref h2])), (h1, .inl (k 2, 120, .inl (g6)))] := hD
  refine lv_iinc (v := 2) (lv' := [(4, .int 2), (0, .ref h0), (1, .long x0), (3, .int 6)]) hx hb dX9_receive_46 hl (k := 0) rfl (by decide) (by decide) rfl (fun ls hl => ?_)
  refine lv_goto (tgt := 3) hx hb dX9_receive_49 (by decide) ?_
  refine lv_iload hx hb dX9_receive_3 (lv_at hl 0 rfl) ?_
  refine lv_iload_n hx hb dX9_receive_5 rfl (lv_at hl 3 rfl) ?_
  refine lv_icmp_ge (tgt := 52) hx hb dX9_receive_6 (by decide) (fun cc => absurd cc (by decide +kernel)) (fun _ => ?_)
  refine lv_aload_n hx hb dX9_receive_9 rfl (lv_at hl 1 rfl) ?_
  refine va_get (D := D) (ci := 6) (v := .int 2) (C := RX9) (T := TX9) (N := 5) hx hb hU iX9 hown hK.1 hP 0 rfl rfl 1 (by decide) (hU _ w121) (fun _ h9 => h9) rfl dX9_receive_10 ?_
  refine lv_bipush (v := 120) hx hb dX9_receive_13 (by decide) ?_
  refine lv_icmp_ge (tgt := 52) hx hb dX9_receive_15 (by decide) (fun cc => absurd cc (by decide +kernel)) (fun _ => ?_)
  refine lv_aload_n hx hb dX9_receive_18 rfl (lv_at hl 1 rfl) ?_
  refine va_get (D := D) (ci := 6) (v := .ref h1) (C := RX9) (T := TX9) (N := 5) hx hb hU iX9 hown hK.1 hP 0 rfl rfl 0 (by decide) (hU _ w120) (fun _ h9 => h9) rfl dX9_receive_19 ?_
  refine lv_aload_n hx hb dX9_receive_22 rfl (lv_at hl 1 rfl) ?_
  refine va_get (D := D) (ci := 6) (v := .int 2) (C := RX9) (T := TX9) (N := 5) hx hb hU iX9 hown hK.1 hP 0 rfl rfl 1 (by decide) (hU _ w121) (fun _ h9 => h9) rfl dX9_receive_23 ?_
  refine lv_lload_n hx hb dX9_receive_26 rfl (lv_at hl 2 rfl) ?_
  refine lv_bipush (v := 8) hx hb dX9_receive_27 (by decide) ?_
  refine lv_iload hx hb dX9_receive_29 (lv_at hl 0 rfl) ?_
  refine lv_imul hx hb dX9_receive_31 (sv_i (v := 16) (by decide +kernel) ?_)
  refine lv_lushr hx hb dX9_receive_32 rfl (lv_topl (fun v7 _ => ?_))
  refine lv_l2i (v := v7.toInt32) hx hb dX9_receive_33 rfl ?_
  refine lv_i2b hx hb dX9_receive_34 rfl (lv_topi (fun v8 _ => ?_))
  refine st_b (j := 2) hx hb hK hP hD hS 1 rfl (by decide +kernel) dX9_receive_35 (fun H locs g9 hP hD hS => ?_)
  have hP : va_P D cl0 [(h0, .inr (6, [.ref h1, .int 2, .int 0, .int 0, .ref h2])), (h1, .inl (k 2, 120, .inl (g9)))] H := hP
  have hD : va_D A [(h0, .inr (6, [.ref h1, .int 2, .int 0, .int 0, .ref h2])), (h1, .inl (k 2, 120, .inl (g9)))] := hD
  refine lv_aload_n hx hb dX9_receive_36 rfl (lv_at hl 1 rfl) ?_
  refine lv_dup hx hb dX9_receive_37 rfl ?_
  refine va_get (D := D) (ci := 6) (v := .int 2) (C := RX9) (T := TX9) (N := 5) hx hb hU iX9 hown hK.1 hP 0 rfl rfl 1 (by decide) (hU _ w121) (fun _ h9 => h9) rfl dX9_receive_38 ?_
  refine lv_iconst (v := 1) hx hb dX9_receive_41 (by decide) ?_
  refine lv_iadd hx hb dX9_receive_42 (sv_i (v := 3) (by decide +kernel) ?_)
  refine va_put (D := D) (ci := 6) (v := .int 3) (ty := .int) (C := RX9) (T := TX9) (N := 5) hx hb hU iX9 tyX9 tyX9_ok nmX9 hown hK.1 hP hD hS 0 rfl rfl 1 (by decide) (hU _ w121) (fun _ h9 => h9) rfl (by decide +kernel) rfl rfl (Nat.le_of_ble_eq_true rfl) dX9_receive_43 (fun H locs hP hD hS => ?_)
  have hP : va_P D cl0 [(h0, .inr (6, [.ref h1, .int 3, .int 0, .int 0, .ref h2])), (h1, .inl (k 2, 120, .inl (g9)))] H := hP
  have hD : va_D A [(h0, .inr (6, [.ref h1, .int 3, .int 0, .int 0, .ref h2])), (h1, .inl (k 2, 120, .inl (g9)))] := hD
  refine lv_iinc (v := 3) (lv' := [(4, .int 3), (0, .ref h0), (1, .long x0), (3, .int 6)]) hx hb dX9_receive_46 hl (k := 0) rfl (by decide) (by decide) rfl (fun ls hl => ?_)
  refine lv_goto (tgt := 3) hx hb dX9_receive_49 (by decide) ?_
  refine lv_iload hx hb dX9_receive_3 (lv_at hl 0 rfl) ?_
  refine lv_iload_n hx hb dX9_receive_5 rfl (lv_at hl 3 rfl) ?_
  refine lv_icmp_ge (tgt := 52) hx hb dX9_receive_6 (by decide) (fun cc => absurd cc (by decide +kernel)) (fun _ => ?_)
  refine lv_aload_n hx hb dX9_receive_9 rfl (lv_at hl 1 rfl) ?_
  refine va_get (D := D) (ci := 6) (v := .int 3) (C := RX9) (T := TX9) (N := 5) hx hb hU iX9 hown hK.1 hP 0 rfl rfl 1 (by decide) (hU _ w121) (fun _ h9 => h9) rfl dX9_receive_10 ?_
  refine lv_bipush (v := 120) hx hb dX9_receive_13 (by decide) ?_
  refine lv_icmp_ge (tgt := 52) hx hb dX9_receive_15 (by decide) (fun cc => absurd cc (by decide +kernel)) (fun _ => ?_)
  refine lv_aload_n hx hb dX9_receive_18 rfl (lv_at hl 1 rfl) ?_
  refine va_get (D := D) (ci := 6) (v := .ref h1) (C := RX9) (T := TX9) (N := 5) hx hb hU iX9 hown hK.1 hP 0 rfl rfl 0 (by decide) (hU _ w120) (fun _ h9 => h9) rfl dX9_receive_19 ?_
  refine lv_aload_n hx hb dX9_receive_22 rfl (lv_at hl 1 rfl) ?_
  refine va_get (D := D) (ci := 6) (v := .int 3) (C := RX9) (T := TX9) (N := 5) hx hb hU iX9 hown hK.1 hP 0 rfl rfl 1 (by decide) (hU _ w121) (fun _ h9 => h9) rfl dX9_receive_23 ?_
  refine lv_lload_n hx hb dX9_receive_26 rfl (lv_at hl 2 rfl) ?_
  refine lv_bipush (v := 8) hx hb dX9_receive_27 (by decide) ?_
  refine lv_iload hx hb dX9_receive_29 (lv_at hl 0 rfl) ?_
  refine lv_imul hx hb dX9_receive_31 (sv_i (v := 24) (by decide +kernel) ?_)
  refine lv_lushr hx hb dX9_receive_32 rfl (lv_topl (fun v10 _ => ?_))
  refine lv_l2i (v := v10.toInt32) hx hb dX9_receive_33 rfl ?_
  refine lv_i2b hx hb dX9_receive_34 rfl (lv_topi (fun v11 _ => ?_))
  refine st_b (j := 3) hx hb hK hP hD hS 1 rfl (by decide +kernel) dX9_receive_35 (fun H locs g12 hP hD hS => ?_)
  have hP : va_P D cl0 [(h0, .inr (6, [.ref h1, .int 3, .int 0, .int 0, .ref h2])), (h1, .inl (k 2, 120, .inl (g12)))] H := hP
  have hD : va_D A [(h0, .inr (6, [.ref h1, .int 3, .int 0, .int 0, .ref h2])), (h1, .inl (k 2, 120, .inl (g12)))] := hD
  refine lv_aload_n hx hb dX9_receive_36 rfl (lv_at hl 1 rfl) ?_
  refine lv_dup hx hb dX9_receive_37 rfl ?_
  refine va_get (D := D) (ci := 6) (v := .int 3) (C := RX9) (T := TX9) (N := 5) hx hb hU iX9 hown hK.1 hP 0 rfl rfl 1 (by decide) (hU _ w121) (fun _ h9 => h9) rfl dX9_receive_38 ?_
  refine lv_iconst (v := 1) hx hb dX9_receive_41 (by decide) ?_
  refine lv_iadd hx hb dX9_receive_42 (sv_i (v := 4) (by decide +kernel) ?_)
  refine va_put (D := D) (ci := 6) (v := .int 4) (ty := .int) (C := RX9) (T := TX9) (N := 5) hx hb hU iX9 tyX9 tyX9_ok nmX9 hown hK.1 hP hD hS 0 rfl rfl 1 (by decide) (hU _ w121) (fun _ h9 => h9) rfl (by decide +kernel) rfl rfl (Nat.le_of_ble_eq_true rfl) dX9_receive_43 (fun H locs hP hD hS => ?_)
  have hP : va_P D cl0 [(h0, .inr (6, [.ref h1, .int 4, .int 0, .int 0, .ref h2])), (h1, .inl (k 2, 120, .inl (g12)))] H := hP
  have hD : va_D A [(h0, .inr (6, [.ref h1, .int 4, .int 0, .int 0, .ref h2])), (h1, .inl (k 2, 120, .inl (g12)))] := hD
  refine lv_iinc (v := 4) (lv' := [(4, .int 4), (0, .ref h0), (1, .long x0), (3, .int 6)]) hx hb dX9_receive_46 hl (k := 0) rfl (by decide) (by decide) rfl (fun ls hl => ?_)
  refine lv_goto (tgt := 3) hx hb dX9_receive_49 (by decide) ?_
  refine lv_iload hx hb dX9_receive_3 (lv_at hl 0 rfl) ?_
  refine lv_iload_n hx hb dX9_receive_5 rfl (lv_at hl 3 rfl) ?_
  refine lv_icmp_ge (tgt := 52) hx hb dX9_receive_6 (by decide) (fun cc => absurd cc (by decide +kernel)) (fun _ => ?_)
  refine lv_aload_n hx hb dX9_receive_9 rfl (lv_at hl 1 rfl) ?_
  refine va_get (D := D) (ci := 6) (v := .int 4) (C := RX9) (T := TX9) (N := 5) hx hb hU iX9 hown hK.1 hP 0 rfl rfl 1 (by decide) (hU _ w121) (fun _ h9 => h9) rfl dX9_receive_10 ?_
  refine lv_bipush (v := 120) hx hb dX9_receive_13 (by decide) ?_
  refine lv_icmp_ge (tgt := 52) hx hb dX9_receive_15 (by decide) (fun cc => absurd cc (by decide +kernel)) (fun _ => ?_)
  refine lv_aload_n hx hb dX9_receive_18 rfl (lv_at hl 1 rfl) ?_
  refine va_get (D := D) (ci := 6) (v := .ref h1) (C := RX9) (T := TX9) (N := 5) hx hb hU iX9 hown hK.1 hP 0 rfl rfl 0 (by decide) (hU _ w120) (fun _ h9 => h9) rfl dX9_receive_19 ?_
  refine lv_aload_n hx hb dX9_receive_22 rfl (lv_at hl 1 rfl) ?_
  refine va_get (D := D) (ci := 6) (v := .int 4) (C := RX9) (T := TX9) (N := 5) hx hb hU iX9 hown hK.1 hP 0 rfl rfl 1 (by decide) (hU _ w121) (fun _ h9 => h9) rfl dX9_receive_23 ?_
  refine lv_lload_n hx hb dX9_receive_26 rfl (lv_at hl 2 rfl) ?_
  refine lv_bipush (v := 8) hx hb dX9_receive_27 (by decide) ?_
  refine lv_iload hx hb dX9_receive_29 (lv_at hl 0 rfl) ?_
  refine lv_imul hx hb dX9_receive_31 (sv_i (v := 32) (by decide +kernel) ?_)
  refine lv_lushr hx hb dX9_receive_32 rfl (lv_topl (fun v13 _ => ?_))
  refine lv_l2i (v := v13.toInt32) hx hb dX9_receive_33 rfl ?_
  refine lv_i2b hx hb dX9_receive_34 rfl (lv_topi (fun v14 _ => ?_))
  refine st_b (j := 4) hx hb hK hP hD hS 1 rfl (by decide +kernel) dX9_receive_35 (fun H locs g15 hP hD hS => ?_)
  have hP : va_P D cl0 [(h0, .inr (6, [.ref h1, .int 4, .int 0, .int 0, .ref h2])), (h1, .inl (k 2, 120, .inl (g15)))] H := hP
  have hD : va_D A [(h0, .inr (6, [.ref h1, .int 4, .int 0, .int 0, .ref h2])), (h1, .inl (k 2, 120, .inl (g15)))] := hD
  refine lv_aload_n hx hb dX9_receive_36 rfl (lv_at hl 1 rfl) ?_
  refine lv_dup hx hb dX9_receive_37 rfl ?_
  refine va_get (D := D) (ci := 6) (v := .int 4) (C := RX9) (T := TX9) (N := 5) hx hb hU iX9 hown hK.1 hP 0 rfl rfl 1 (by decide) (hU _ w121) (fun _ h9 => h9) rfl dX9_receive_38 ?_
  refine lv_iconst (v := 1) hx hb dX9_receive_41 (by decide) ?_
  refine lv_iadd hx hb dX9_receive_42 (sv_i (v := 5) (by decide +kernel) ?_)
  refine va_put (D := D) (ci := 6) (v := .int 5) (ty := .int) (C := RX9) (T := TX9) (N := 5) hx hb hU iX9 tyX9 tyX9_ok nmX9 hown hK.1 hP hD hS 0 rfl rfl 1 (by decide) (hU _ w121) (fun _ h9 => h9) rfl (by decide +kernel) rfl rfl (Nat.le_of_ble_eq_true rfl) dX9_receive_43 (fun H locs hP hD hS => ?_)
  have hP : va_P D cl0 [(h0, .inr (6, [.ref h1, .int 5, .int 0, .int 0, .ref h2])), (h1, .inl (k 2, 120, .inl (g15)))] H := hP
  have hD : va_D A [(h0, .inr (6, [.ref h1, .int 5, .int 0, .int 0, .ref h2])), (h1, .inl (k 2, 120, .inl (g15)))] := hD
  refine lv_iinc (v := 5) (lv' := [(4, .int 5), (0, .ref h0), (1, .long x0), (3, .int 6)]) hx hb dX9_receive_46 hl (k := 0) rfl (by decide) (by decide) rfl (fun ls hl => ?_)
  refine lv_goto (tgt := 3) hx hb dX9_receive_49 (by decide) ?_
  refine lv_iload hx hb dX9_receive_3 (lv_at hl 0 rfl) ?_
  refine lv_iload_n hx hb dX9_receive_5 rfl (lv_at hl 3 rfl) ?_
  refine lv_icmp_ge (tgt := 52) hx hb dX9_receive_6 (by decide) (fun cc => absurd cc (by decide +kernel)) (fun _ => ?_)
  refine lv_aload_n hx hb dX9_receive_9 rfl (lv_at hl 1 rfl) ?_
  refine va_get (D := D) (ci := 6) (v := .int 5) (C := RX9) (T := TX9) (N := 5) hx hb hU iX9 hown hK.1 hP 0 rfl rfl 1 (by decide) (hU _ w121) (fun _ h9 => h9) rfl dX9_receive_10 ?_
  refine lv_bipush (v := 120) hx hb dX9_receive_13 (by decide) ?_
  refine lv_icmp_ge (tgt := 52) hx hb dX9_receive_15 (by decide) (fun cc => absurd cc (by decide +kernel)) (fun _ => ?_)
  refine lv_aload_n hx hb dX9_receive_18 rfl (lv_at hl 1 rfl) ?_
  refine va_get (D := D) (ci := 6) (v := .ref h1) (C := RX9) (T := TX9) (N := 5) hx hb hU iX9 hown hK.1 hP 0 rfl rfl 0 (by decide) (hU _ w120) (fun _ h9 => h9) rfl dX9_receive_19 ?_
  refine lv_aload_n hx hb dX9_receive_22 rfl (lv_at hl 1 rfl) ?_
  refine va_get (D := D) (ci := 6) (v := .int 5) (C := RX9) (T := TX9) (N := 5) hx hb hU iX9 hown hK.1 hP 0 rfl rfl 1 (by decide) (hU _ w121) (fun _ h9 => h9) rfl dX9_receive_23 ?_
  refine lv_lload_n hx hb dX9_receive_26 rfl (lv_at hl 2 rfl) ?_
  refine lv_bipush (v := 8) hx hb dX9_receive_27 (by decide) ?_
  refine lv_iload hx hb dX9_receive_29 (lv_at hl 0 rfl) ?_
  refine lv_imul hx hb dX9_receive_31 (sv_i (v := 40) (by decide +kernel) ?_)
  refine lv_lushr hx hb dX9_receive_32 rfl (lv_topl (fun v16 _ => ?_))
  refine lv_l2i (v := v16.toInt32) hx hb dX9_receive_33 rfl ?_
  refine lv_i2b hx hb dX9_receive_34 rfl (lv_topi (fun v17 _ => ?_))
  refine st_b (j := 5) hx hb hK hP hD hS 1 rfl (by decide +kernel) dX9_receive_35 (fun H locs g18 hP hD hS => ?_)
  have hP : va_P D cl0 [(h0, .inr (6, [.ref h1, .int 5, .int 0, .int 0, .ref h2])), (h1, .inl (k 2, 120, .inl (g18)))] H := hP
  have hD : va_D A [(h0, .inr (6, [.ref h1, .int 5, .int 0, .int 0, .ref h2])), (h1, .inl (k 2, 120, .inl (g18)))] := hD
  refine lv_aload_n hx hb dX9_receive_36 rfl (lv_at hl 1 rfl) ?_
  refine lv_dup hx hb dX9_receive_37 rfl ?_
  refine va_get (D := D) (ci := 6) (v := .int 5) (C := RX9) (T := TX9) (N := 5) hx hb hU iX9 hown hK.1 hP 0 rfl rfl 1 (by decide) (hU _ w121) (fun _ h9 => h9) rfl dX9_receive_38 ?_
  refine lv_iconst (v := 1) hx hb dX9_receive_41 (by decide) ?_
  refine lv_iadd hx hb dX9_receive_42 (sv_i (v := 6) (by decide +kernel) ?_)
  refine va_put (D := D) (ci := 6) (v := .int 6) (ty := .int) (C := RX9) (T := TX9) (N := 5) hx hb hU iX9 tyX9 tyX9_ok nmX9 hown hK.1 hP hD hS 0 rfl rfl 1 (by decide) (hU _ w121) (fun _ h9 => h9) rfl (by decide +kernel) rfl rfl (Nat.le_of_ble_eq_true rfl) dX9_receive_43 (fun H locs hP hD hS => ?_)
  have hP : va_P D cl0 [(h0, .inr (6, [.ref h1, .int 6, .int 0, .int 0, .ref h2])), (h1, .inl (k 2, 120, .inl (g18)))] H := hP
  have hD : va_D A [(h0, .inr (6, [.ref h1, .int 6, .int 0, .int 0, .ref h2])), (h1, .inl (k 2, 120, .inl (g18)))] := hD
  refine lv_iinc (v := 6) (lv' := [(4, .int 6), (0, .ref h0), (1, .long x0), (3, .int 6)]) hx hb dX9_receive_46 hl (k := 0) rfl (by decide) (by decide) rfl (fun ls hl => ?_)
  refine lv_goto (tgt := 3) hx hb dX9_receive_49 (by decide) ?_
  refine lv_iload hx hb dX9_receive_3 (lv_at hl 0 rfl) ?_
  refine lv_iload_n hx hb dX9_receive_5 rfl (lv_at hl 3 rfl) ?_
  refine lv_icmp_ge (tgt := 52) hx hb dX9_receive_6 (by decide) (fun _ => ?_) (fun cc => absurd (by decide +kernel) cc)
  exact retV hx hb hr hlocks hS (⟨hP.sub [0] rfl, hD.sub [0] (by decide) rfl⟩) dX9_receive_52
abbrev BX9_receive_7 (D : va_G) (k : Nat → ClassId) (h0 h1 h2 : Nat) (x0 : Int64) (A : Nat → Prop) (H : Heap) : Prop := va_P D cl0 [(h0, .inr (6, [.ref h1, .int 7, .int 0, .int 0, .ref h2]))] H ∧ va_D A [(h0, .inr (6, [.ref h1, .int 7, .int 0, .int 0, .ref h2]))]
set_option maxHeartbeats 4000000 in
set_option maxRecDepth 100000 in
theorem cX9_receive_7 (l : Launch) (D : va_G) (k : Nat → ClassId) (sz : Nat) (h0 h1 h2 : Nat) (x0 : Int64) : Met l yX9_receive (Cond.code yX9_receive cX9_receive 5 none :: uw) ({ frames := 0, cells := 0, slots := 0, locals := 0 }) (pC D k sz [.ref h0, .long x0, .int 7] [(h0, .inr (6, [.ref h1, .int 0, .int 0, .int 0, .ref h2])), (h1, .inl (k 2, 120, .inl (tI [] 0)))]) (qV (BX9_receive_7 D k h0 h1 h2 x0 (va_A [(h0, .inr (6, [.ref h1, .int 0, .int 0, .int 0, .ref h2])), (h1, .inl (k 2, 120, .inl (tI [] 0)))] sz)) (va_A [(h0, .inr (6, [.ref h1, .int 0, .int 0, .int 0, .ref h2])), (h1, .inl (k 2, 120, .inl (tI [] 0)))] sz)) 0 0 (va_A [(h0, .inr (6, [.ref h1, .int 0, .int 0, .int 0, .ref h2])), (h1, .inl (k 2, 120, .inl (tI [] 0)))] sz) := by
  refine begin_ (Qc := fun A => qV (BX9_receive_7 D k h0 h1 h2 x0 A) A) (by decide) (Nat.le_of_ble_eq_true rfl) ?_
  intro p e s m below meth c ls A hx hb hr hml hown hlocks hin hU hK hsz hP hD hS hA hl
  have hl : lv_has ls 5 [(0, .ref h0), (1, .long x0), (3, .int 7)] := hl
  clear hsz
  refine lv_iconst (v := 0) hx hb dX9_receive_0 (by decide) ?_
  refine lv_istore (lv' := [(4, .int 0), (0, .ref h0), (1, .long x0), (3, .int 7)]) hx hb dX9_receive_1 hl (by decide) rfl (fun ls hl => ?_)
  refine lv_iload hx hb dX9_receive_3 (lv_at hl 0 rfl) ?_
  refine lv_iload_n hx hb dX9_receive_5 rfl (lv_at hl 3 rfl) ?_
  refine lv_icmp_ge (tgt := 52) hx hb dX9_receive_6 (by decide) (fun cc => absurd cc (by decide +kernel)) (fun _ => ?_)
  refine lv_aload_n hx hb dX9_receive_9 rfl (lv_at hl 1 rfl) ?_
  refine va_get (D := D) (ci := 6) (v := .int 0) (C := RX9) (T := TX9) (N := 5) hx hb hU iX9 hown hK.1 hP 0 rfl rfl 1 (by decide) (hU _ w121) (fun _ h9 => h9) rfl dX9_receive_10 ?_
  refine lv_bipush (v := 120) hx hb dX9_receive_13 (by decide) ?_
  refine lv_icmp_ge (tgt := 52) hx hb dX9_receive_15 (by decide) (fun cc => absurd cc (by decide +kernel)) (fun _ => ?_)
  refine lv_aload_n hx hb dX9_receive_18 rfl (lv_at hl 1 rfl) ?_
  refine va_get (D := D) (ci := 6) (v := .ref h1) (C := RX9) (T := TX9) (N := 5) hx hb hU iX9 hown hK.1 hP 0 rfl rfl 0 (by decide) (hU _ w120) (fun _ h9 => h9) rfl dX9_receive_19 ?_
  refine lv_aload_n hx hb dX9_receive_22 rfl (lv_at hl 1 rfl) ?_
  refine va_get (D := D) (ci := 6) (v := .int 0) (C := RX9) (T := TX9) (N := 5) hx hb hU iX9 hown hK.1 hP 0 rfl rfl 1 (by decide) (hU _ w121) (fun _ h9 => h9) rfl dX9_receive_23 ?_
  refine lv_lload_n hx hb dX9_receive_26 rfl (lv_at hl 2 rfl) ?_
  refine lv_bipush (v := 8) hx hb dX9_receive_27 (by decide) ?_
  refine lv_iload hx hb dX9_receive_29 (lv_at hl 0 rfl) ?_
  refine lv_imul hx hb dX9_receive_31 (sv_i (v := 0) (by decide +kernel) ?_)
  refine lv_lushr hx hb dX9_receive_32 rfl (lv_topl (fun v1 _ => ?_))
  refine lv_l2i (v := v1.toInt32) hx hb dX9_receive_33 rfl ?_
  refine lv_i2b hx hb dX9_receive_34 rfl (lv_topi (fun v2 _ => ?_))
  refine st_b (j := 0) hx hb hK hP hD hS 1 rfl (by decide +kernel) dX9_receive_35 (fun H locs g3 hP hD hS => ?_)
  have hP : va_P D cl0 [(h0, .inr (6, [.ref h1, .int 0, .int 0, .int 0, .ref h2])), (h1, .inl (k 2, 120, .inl (g3)))] H := hP
  have hD : va_D A [(h0, .inr (6, [.ref h1, .int 0, .int 0, .int 0, .ref h2])), (h1, .inl (k 2, 120, .inl (g3)))] := hD
  refine lv_aload_n hx hb dX9_receive_36 rfl (lv_at hl 1 rfl) ?_
  refine lv_dup hx hb dX9_receive_37 rfl ?_
  refine va_get (D := D) (ci := 6) (v := .int 0) (C := RX9) (T := TX9) (N := 5) hx hb hU iX9 hown hK.1 hP 0 rfl rfl 1 (by decide) (hU _ w121) (fun _ h9 => h9) rfl dX9_receive_38 ?_
  refine lv_iconst (v := 1) hx hb dX9_receive_41 (by decide) ?_
  refine lv_iadd hx hb dX9_receive_42 (sv_i (v := 1) (by decide +kernel) ?_)
  refine va_put (D := D) (ci := 6) (v := .int 1) (ty := .int) (C := RX9) (T := TX9) (N := 5) hx hb hU iX9 tyX9 tyX9_ok nmX9 hown hK.1 hP hD hS 0 rfl rfl 1 (by decide) (hU _ w121) (fun _ h9 => h9) rfl (by decide +kernel) rfl rfl (Nat.le_of_ble_eq_true rfl) dX9_receive_43 (fun H locs hP hD hS => ?_)
  have hP : va_P D cl0 [(h0, .inr (6, [.ref h1, .int 1, .int 0, .int 0, .ref h2])), (h1, .inl (k 2, 120, .inl (g3)))] H := hP
  have hD : va_D A [(h0, .inr (6, [.ref h1, .int 1, .int 0, .int 0, .ref h2])), (h1, .inl (k 2, 120, .inl (g3)))] := hD
  refine lv_iinc (v := 1) (lv' := [(4, .int 1), (0, .ref h0), (1, .long x0), (3, .int 7)]) hx hb dX9_receive_46 hl (k := 0) rfl (by decide) (by decide) rfl (fun ls hl => ?_)
  refine lv_goto (tgt := 3) hx hb dX9_receive_49 (by decide) ?_
  refine lv_iload hx hb dX9_receive_3 (lv_at hl 0 rfl) ?_
  refine lv_iload_n hx hb dX9_receive_5 rfl (lv_at hl 3 rfl) ?_
  refine lv_icmp_ge (tgt := 52) hx hb dX9_receive_6 (by decide) (fun cc => absurd cc (by decide +kernel)) (fun _ => ?_)
  refine lv_aload_n hx hb dX9_receive_9 rfl (lv_at hl 1 rfl) ?_
  refine va_get (D := D) (ci := 6) (v := .int 1) (C := RX9) (T := TX9) (N := 5) hx hb hU iX9 hown hK.1 hP 0 rfl rfl 1 (by decide) (hU _ w121) (fun _ h9 => h9) rfl dX9_receive_10 ?_
  refine lv_bipush (v := 120) hx hb dX9_receive_13 (by decide) ?_
  refine lv_icmp_ge (tgt := 52) hx hb dX9_receive_15 (by decide) (fun cc => absurd cc (by decide +kernel)) (fun _ => ?_)
  refine lv_aload_n hx hb dX9_receive_18 rfl (lv_at hl 1 rfl) ?_
  refine va_get (D := D) (ci := 6) (v := .ref h1) (C := RX9) (T := TX9) (N := 5) hx hb hU iX9 hown hK.1 hP 0 rfl rfl 0 (by decide) (hU _ w120) (fun _ h9 => h9) rfl dX9_receive_19 ?_
  refine lv_aload_n hx hb dX9_receive_22 rfl (lv_at hl 1 rfl) ?_
  refine va_get (D := D) (ci := 6) (v := .int 1) (C := RX9) (T := TX9) (N := 5) hx hb hU iX9 hown hK.1 hP 0 rfl rfl 1 (by decide) (hU _ w121) (fun _ h9 => h9) rfl dX9_receive_23 ?_
  refine lv_lload_n hx hb dX9_receive_26 rfl (lv_at hl 2 rfl) ?_
  refine lv_bipush (v := 8) hx hb dX9_receive_27 (by decide) ?_
  refine lv_iload hx hb dX9_receive_29 (lv_at hl 0 rfl) ?_
  refine lv_imul hx hb dX9_receive_31 (sv_i (v := 8) (by decide +kernel) ?_)
  refine lv_lushr hx hb dX9_receive_32 rfl (lv_topl (fun v4 _ => ?_))
  refine lv_l2i (v := v4.toInt32) hx hb dX9_receive_33 rfl ?_
  refine lv_i2b hx hb dX9_receive_34 rfl (lv_topi (fun v5 _ => ?_))
  refine st_b (j := 1) hx hb hK hP hD hS 1 rfl (by decide +kernel) dX9_receive_35 (fun H locs g6 hP hD hS => ?_)
  have hP : va_P D cl0 [(h0, .inr (6, [.ref h1, .int 1, .int 0, .int 0, .ref h2])), (h1, .inl (k 2, 120, .inl (g6)))] H := hP
  have hD : va_D A [(h0, .inr (6, [.ref h1, .int 1, .int 0, .int 0, .ref h2])), (h1, .inl (k 2, 120, .inl (g6)))] := hD
  refine lv_aload_n hx hb dX9_receive_36 rfl (lv_at hl 1 rfl) ?_
  refine lv_dup hx hb dX9_receive_37 rfl ?_
  refine va_get (D := D) (ci := 6) (v := .int 1) (C := RX9) (T := TX9) (N := 5) hx hb hU iX9 hown hK.1 hP 0 rfl rfl 1 (by decide) (hU _ w121) (fun _ h9 => h9) rfl dX9_receive_38 ?_
  refine lv_iconst (v := 1) hx hb dX9_receive_41 (by decide) ?_
  refine lv_iadd hx hb dX9_receive_42 (sv_i (v := 2) (by decide +kernel) ?_)
  refine va_put (D := D) (ci := 6) (v := .int 2) (ty := .int) (C := RX9) (T := TX9) (N := 5) hx hb hU iX9 tyX9 tyX9_ok nmX9 hown hK.1 hP hD hS 0 rfl rfl 1 (by decide) (hU _ w121) (fun _ h9 => h9) rfl (by decide +kernel) rfl rfl (Nat.le_of_ble_eq_true rfl) dX9_receive_43 (fun H locs hP hD hS => ?_)
  have hP : va_P D cl0 [(h0, .inr (6, [.ref h1, .int 2, .int 0, .int 0, .ref h2])), (h1, .inl (k 2, 120, .inl (g6)))] H := hP
  have hD : va_D A [(h0, .inr (6, [.ref h1, .int 2, .int 0, .int 0, .ref h2])), (h1, .inl (k 2, 120, .inl (g6)))] := hD
  refine lv_iinc (v := 2) (lv' := [(4, .int 2), (0, .ref h0), (1, .long x0), (3, .int 7)]) hx hb dX9_receive_46 hl (k := 0) rfl (by decide) (by decide) rfl (fun ls hl => ?_)
  refine lv_goto (tgt := 3) hx hb dX9_receive_49 (by decide) ?_
  refine lv_iload hx hb dX9_receive_3 (lv_at hl 0 rfl) ?_
  refine lv_iload_n hx hb dX9_receive_5 rfl (lv_at hl 3 rfl) ?_
  refine lv_icmp_ge (tgt := 52) hx hb dX9_receive_6 (by decide) (fun cc => absurd cc (by decide +kernel)) (fun _ => ?_)
  refine lv_aload_n hx hb dX9_receive_9 rfl (lv_at hl 1 rfl) ?_
  refine va_get (D := D) (ci := 6) (v := .int 2) (C := RX9) (T := TX9) (N := 5) hx hb hU iX9 hown hK.1 hP 0 rfl rfl 1 (by decide) (hU _ w121) (fun _ h9 => h9) rfl dX9_receive_10 ?_
  refine lv_bipush (v := 120) hx hb dX9_receive_13 (by decide) ?_
  refine lv_icmp_ge (tgt := 52) hx hb dX9_receive_15 (by decide) (fun cc => absurd cc (by decide +kernel)) (fun _ => ?_)
  refine lv_aload_n hx hb dX9_receive_18 rfl (lv_at hl 1 rfl) ?_
  refine va_get (D := D) (ci := 6) (v := .ref h1) (C := RX9) (T := TX9) (N := 5) hx hb hU iX9 hown hK.1 hP 0 rfl rfl 0 (by decide) (hU _ w120) (fun _ h9 => h9) rfl dX9_receive_19 ?_
  refine lv_aload_n hx hb dX9_receive_22 rfl (lv_at hl 1 rfl) ?_
  refine va_get (D := D) (ci := 6) (v := .int 2) (C := RX9) (T := TX9) (N := 5) hx hb hU iX9 hown hK.1 hP 0 rfl rfl 1 (by decide) (hU _ w121) (fun _ h9 => h9) rfl dX9_receive_23 ?_
  refine lv_lload_n hx hb dX9_receive_26 rfl (lv_at hl 2 rfl) ?_
  refine lv_bipush (v := 8) hx hb dX9_receive_27 (by decide) ?_
  refine lv_iload hx hb dX9_receive_29 (lv_at hl 0 rfl) ?_
  refine lv_imul hx hb dX9_receive_31 (sv_i (v := 16) (by decide +kernel) ?_)
  refine lv_lushr hx hb dX9_receive_32 rfl (lv_topl (fun v7 _ => ?_))
  refine lv_l2i (v := v7.toInt32) hx hb dX9_receive_33 rfl ?_
  refine lv_i2b hx hb dX9_receive_34 rfl (lv_topi (fun v8 _ => ?_))
  refine st_b (j := 2) hx hb hK hP hD hS 1 rfl (by decide +kernel) dX9_receive_35 (fun H locs g9 hP hD hS => ?_)
  have hP : va_P D cl0 [(h0, .inr (6, [.ref h1, .int 2, .int 0, .int 0, .ref h2])), (h1, .inl (k 2, 120, .inl (g9)))] H := hP
  have hD : va_D A [(h0, .inr (6, [.ref h1, .int 2, .int 0, .int 0, .ref h2])), (h1, .inl (k 2, 120, .inl (g9)))] := hD
  refine lv_aload_n hx hb dX9_receive_36 rfl (lv_at hl 1 rfl) ?_
  refine lv_dup hx hb dX9_receive_37 rfl ?_
  refine va_get (D := D) (ci := 6) (v := .int 2) (C := RX9) (T := TX9) (N := 5) hx hb hU iX9 hown hK.1 hP 0 rfl rfl 1 (by decide) (hU _ w121) (fun _ h9 => h9) rfl dX9_receive_38 ?_
  refine lv_iconst (v := 1) hx hb dX9_receive_41 (by decide) ?_
  refine lv_iadd hx hb dX9_receive_42 (sv_i (v := 3) (by decide +kernel) ?_)
  refine va_put (D := D) (ci := 6) (v := .int 3) (ty := .int) (C := RX9) (T := TX9) (N := 5) hx hb hU iX9 tyX9 tyX9_ok nmX9 hown hK.1 hP hD hS 0 rfl rfl 1 (by decide) (hU _ w121) (fun _ h9 => h9) rfl (by decide +kernel) rfl rfl (Nat.le_of_ble_eq_true rfl) dX9_receive_43 (fun H locs hP hD hS => ?_)
  have hP : va_P D cl0 [(h0, .inr (6, [.ref h1, .int 3, .int 0, .int 0, .ref h2])), (h1, .inl (k 2, 120, .inl (g9)))] H := hP
  have hD : va_D A [(h0, .inr (6, [.ref h1, .int 3, .int 0, .int 0, .ref h2])), (h1, .inl (k 2, 120, .inl (g9)))] := hD
  refine lv_iinc (v := 3) (lv' := [(4, .int 3), (0, .ref h0), (1, .long x0), (3, .int 7)]) hx hb dX9_receive_46 hl (k := 0) rfl (by decide) (by decide) rfl (fun ls hl => ?_)
  refine lv_goto (tgt := 3) hx hb dX9_receive_49 (by decide) ?_
  refine lv_iload hx hb dX9_receive_3 (lv_at hl 0 rfl) ?_
  refine lv_iload_n hx hb dX9_receive_5 rfl (lv_at hl 3 rfl) ?_
  refine lv_icmp_ge (tgt := 52) hx hb dX9_receive_6 (by decide) (fun cc => absurd cc (by decide +kernel)) (fun _ => ?_)
  refine lv_aload_n hx hb dX9_receive_9 rfl (lv_at hl 1 rfl) ?_
  refine va_get (D := D) (ci := 6) (v := .int 3) (C := RX9) (T := TX9) (N := 5) hx hb hU iX9 hown hK.1 hP 0 rfl rfl 1 (by decide) (hU _ w121) (fun _ h9 => h9) rfl dX9_receive_10 ?_
  refine lv_bipush (v := 120) hx hb dX9_receive_13 (by decide) ?_
  refine lv_icmp_ge (tgt := 52) hx hb dX9_receive_15 (by decide) (fun cc => absurd cc (by decide +kernel)) (fun _ => ?_)
  refine lv_aload_n hx hb dX9_receive_18 rfl (lv_at hl 1 rfl) ?_
  refine va_get (D := D) (ci := 6) (v := .ref h1) (C := RX9) (T := TX9) (N := 5) hx hb hU iX9 hown hK.1 hP 0 rfl rfl 0 (by decide) (hU _ w120) (fun _ h9 => h9) rfl dX9_receive_19 ?_
  refine lv_aload_n hx hb dX9_receive_22 rfl (lv_at hl 1 rfl) ?_
  refine va_get (D := D) (ci := 6) (v := .int 3) (C := RX9) (T := TX9) (N := 5) hx hb hU iX9 hown hK.1 hP 0 rfl rfl 1 (by decide) (hU _ w121) (fun _ h9 => h9) rfl dX9_receive_23 ?_
  refine lv_lload_n hx hb dX9_receive_26 rfl (lv_at hl 2 rfl) ?_
  refine lv_bipush (v := 8) hx hb dX9_receive_27 (by decide) ?_
  refine lv_iload hx hb dX9_receive_29 (lv_at hl 0 rfl) ?_
  refine lv_imul hx hb dX9_receive_31 (sv_i (v := 24) (by decide +kernel) ?_)
  refine lv_lushr hx hb dX9_receive_32 rfl (lv_topl (fun v10 _ => ?_))
  refine lv_l2i (v := v10.toInt32) hx hb dX9_receive_33 rfl ?_
  refine lv_i2b hx hb dX9_receive_34 rfl (lv_topi (fun v11 _ => ?_))
  refine st_b (j := 3) hx hb hK hP hD hS 1 rfl (by decide +kernel) dX9_receive_35 (fun H locs g12 hP hD hS => ?_)
  have hP : va_P D cl0 [(h0, .inr (6, [.ref h1, .int 3, .int 0, .int 0, .ref h2])), (h1, .inl (k 2, 120, .inl (g12)))] H := hP
  have hD : va_D A [(h0, .inr (6, [.ref h1, .int 3, .int 0, .int 0, .ref h2])), (h1, .inl (k 2, 120, .inl (g12)))] := hD
  refine lv_aload_n hx hb dX9_receive_36 rfl (lv_at hl 1 rfl) ?_
  refine lv_dup hx hb dX9_receive_37 rfl ?_
  refine va_get (D := D) (ci := 6) (v := .int 3) (C := RX9) (T := TX9) (N := 5) hx hb hU iX9 hown hK.1 hP 0 rfl rfl 1 (by decide) (hU _ w121) (fun _ h9 => h9) rfl dX9_receive_38 ?_
  refine lv_iconst (v := 1) hx hb dX9_receive_41 (by decide) ?_
  refine lv_iadd hx hb dX9_receive_42 (sv_i (v := 4) (by decide +kernel) ?_)
  refine va_put (D := D) (ci := 6) (v := .int 4) (ty := .int) (C := RX9) (T := TX9) (N := 5) hx hb hU iX9 tyX9 tyX9_ok nmX9 hown hK.1 hP hD hS 0 rfl rfl 1 (by decide) (hU _ w121) (fun _ h9 => h9) rfl (by decide +kernel) rfl rfl (Nat.le_of_ble_eq_true rfl) dX9_receive_43 (fun H locs hP hD hS => ?_)
  have hP : va_P D cl0 [(h0, .inr (6, [.ref h1, .int 4, .int 0, .int 0, .ref h2])), (h1, .inl (k 2, 120, .inl (g12)))] H := hP
  have hD : va_D A [(h0, .inr (6, [.ref h1, .int 4, .int 0, .int 0, .ref h2])), (h1, .inl (k 2, 120, .inl (g12)))] := hD
  refine lv_iinc (v := 4) (lv' := [(4, .int 4), (0, .ref h0), (1, .long x0), (3, .int 7)]) hx hb dX9_receive_46 hl (k := 0) rfl (by decide) (by decide) rfl (fun ls hl => ?_)
  refine lv_goto (tgt := 3) hx hb dX9_receive_49 (by decide) ?_
  refine lv_iload hx hb dX9_receive_3 (lv_at hl 0 rfl) ?_
  refine lv_iload_n hx hb dX9_receive_5 rfl (lv_at hl 3 rfl) ?_
  refine lv_icmp_ge (tgt := 52) hx hb dX9_receive_6 (by decide) (fun cc => absurd cc (by decide +kernel)) (fun _ => ?_)
  refine lv_aload_n hx hb dX9_receive_9 rfl (lv_at hl 1 rfl) ?_
  refine va_get (D := D) (ci := 6) (v := .int 4) (C := RX9) (T := TX9) (N := 5) hx hb hU iX9 hown hK.1 hP 0 rfl rfl 1 (by decide) (hU _ w121) (fun _ h9 => h9) rfl dX9_receive_10 ?_
  refine lv_bipush (v := 120) hx hb dX9_receive_13 (by decide) ?_
  refine lv_icmp_ge (tgt := 52) hx hb dX9_receive_15 (by decide) (fun cc => absurd cc (by decide +kernel)) (fun _ => ?_)
  refine lv_aload_n hx hb dX9_receive_18 rfl (lv_at hl 1 rfl) ?_
  refine va_get (D := D) (ci := 6) (v := .ref h1) (C := RX9) (T := TX9) (N := 5) hx hb hU iX9 hown hK.1 hP 0 rfl rfl 0 (by decide) (hU _ w120) (fun _ h9 => h9) rfl dX9_receive_19 ?_
  refine lv_aload_n hx hb dX9_receive_22 rfl (lv_at hl 1 rfl) ?_
  refine va_get (D := D) (ci := 6) (v := .int 4) (C := RX9) (T := TX9) (N := 5) hx hb hU iX9 hown hK.1 hP 0 rfl rfl 1 (by decide) (hU _ w121) (fun _ h9 => h9) rfl dX9_receive_23 ?_
  refine lv_lload_n hx hb dX9_receive_26 rfl (lv_at hl 2 rfl) ?_
  refine lv_bipush (v := 8) hx hb dX9_receive_27 (by decide) ?_
  refine lv_iload hx hb dX9_receive_29 (lv_at hl 0 rfl) ?_
  refine lv_imul hx hb dX9_receive_31 (sv_i (v := 32) (by decide +kernel) ?_)
  refine lv_lushr hx hb dX9_receive_32 rfl (lv_topl (fun v13 _ => ?_))
  refine lv_l2i (v := v13.toInt32) hx hb dX9_receive_33 rfl ?_
  refine lv_i2b hx hb dX9_receive_34 rfl (lv_topi (fun v14 _ => ?_))
  refine st_b (j := 4) hx hb hK hP hD hS 1 rfl (by decide +kernel) dX9_receive_35 (fun H locs g15 hP hD hS => ?_)
  have hP : va_P D cl0 [(h0, .inr (6, [.ref h1, .int 4, .int 0, .int 0, .ref h2])), (h1, .inl (k 2, 120, .inl (g15)))] H := hP
  have hD : va_D A [(h0, .inr (6, [.ref h1, .int 4, .int 0, .int 0, .ref h2])), (h1, .inl (k 2, 120, .inl (g15)))] := hD
  refine lv_aload_n hx hb dX9_receive_36 rfl (lv_at hl 1 rfl) ?_
  refine lv_dup hx hb dX9_receive_37 rfl ?_
  refine va_get (D := D) (ci := 6) (v := .int 4) (C := RX9) (T := TX9) (N := 5) hx hb hU iX9 hown hK.1 hP 0 rfl rfl 1 (by decide) (hU _ w121) (fun _ h9 => h9) rfl dX9_receive_38 ?_
  refine lv_iconst (v := 1) hx hb dX9_receive_41 (by decide) ?_
  refine lv_iadd hx hb dX9_receive_42 (sv_i (v := 5) (by decide +kernel) ?_)
  refine va_put (D := D) (ci := 6) (v := .int 5) (ty := .int) (C := RX9) (T := TX9) (N := 5) hx hb hU iX9 tyX9 tyX9_ok nmX9 hown hK.1 hP hD hS 0 rfl rfl 1 (by decide) (hU _ w121) (fun _ h9 => h9) rfl (by decide +kernel) rfl rfl (Nat.le_of_ble_eq_true rfl) dX9_receive_43 (fun H locs hP hD hS => ?_)
  have hP : va_P D cl0 [(h0, .inr (6, [.ref h1, .int 5, .int 0, .int 0, .ref h2])), (h1, .inl (k 2, 120, .inl (g15)))] H := hP
  have hD : va_D A [(h0, .inr (6, [.ref h1, .int 5, .int 0, .int 0, .ref h2])), (h1, .inl (k 2, 120, .inl (g15)))] := hD
  refine lv_iinc (v := 5) (lv' := [(4, .int 5), (0, .ref h0), (1, .long x0), (3, .int 7)]) hx hb dX9_receive_46 hl (k := 0) rfl (by decide) (by decide) rfl (fun ls hl => ?_)
  refine lv_goto (tgt := 3) hx hb dX9_receive_49 (by decide) ?_
  refine lv_iload hx hb dX9_receive_3 (lv_at hl 0 rfl) ?_
  refine lv_iload_n hx hb dX9_receive_5 rfl (lv_at hl 3 rfl) ?_
  refine lv_icmp_ge (tgt := 52) hx hb dX9_receive_6 (by decide) (fun cc => absurd cc (by decide +kernel)) (fun _ => ?_)
  refine lv_aload_n hx hb dX9_receive_9 rfl (lv_at hl 1 rfl) ?_
  refine va_get (D := D) (ci := 6) (v := .int 5) (C := RX9) (T := TX9) (N := 5) hx hb hU iX9 hown hK.1 hP 0 rfl rfl 1 (by decide) (hU _ w121) (fun _ h9 => h9) rfl dX9_receive_10 ?_
  refine lv_bipush (v := 120) hx hb dX9_receive_13 (by decide) ?_
  refine lv_icmp_ge (tgt := 52) hx hb dX9_receive_15 (by decide) (fun cc => absurd cc (by decide +kernel)) (fun _ => ?_)
  refine lv_aload_n hx hb dX9_receive_18 rfl (lv_at hl 1 rfl) ?_
  refine va_get (D := D) (ci := 6) (v := .ref h1) (C := RX9) (T := TX9) (N := 5) hx hb hU iX9 hown hK.1 hP 0 rfl rfl 0 (by decide) (hU _ w120) (fun _ h9 => h9) rfl dX9_receive_19 ?_
  refine lv_aload_n hx hb dX9_receive_22 rfl (lv_at hl 1 rfl) ?_
  refine va_get (D := D) (ci := 6) (v := .int 5) (C := RX9) (T := TX9) (N := 5) hx hb hU iX9 hown hK.1 hP 0 rfl rfl 1 (by decide) (hU _ w121) (fun _ h9 => h9) rfl dX9_receive_23 ?_
  refine lv_lload_n hx hb dX9_receive_26 rfl (lv_at hl 2 rfl) ?_
  refine lv_bipush (v := 8) hx hb dX9_receive_27 (by decide) ?_
  refine lv_iload hx hb dX9_receive_29 (lv_at hl 0 rfl) ?_
  refine lv_imul hx hb dX9_receive_31 (sv_i (v := 40) (by decide +kernel) ?_)
  refine lv_lushr hx hb dX9_receive_32 rfl (lv_topl (fun v16 _ => ?_))
  refine lv_l2i (v := v16.toInt32) hx hb dX9_receive_33 rfl ?_
  refine lv_i2b hx hb dX9_receive_34 rfl (lv_topi (fun v17 _ => ?_))
  refine st_b (j := 5) hx hb hK hP hD hS 1 rfl (by decide +kernel) dX9_receive_35 (fun H locs g18 hP hD hS => ?_)
  have hP : va_P D cl0 [(h0, .inr (6, [.ref h1, .int 5, .int 0, .int 0, .ref h2])), (h1, .inl (k 2, 120, .inl (g18)))] H := hP
  have hD : va_D A [(h0, .inr (6, [.ref h1, .int 5, .int 0, .int 0, .ref h2])), (h1, .inl (k 2, 120, .inl (g18)))] := hD
  refine lv_aload_n hx hb dX9_receive_36 rfl (lv_at hl 1 rfl) ?_
  refine lv_dup hx hb dX9_receive_37 rfl ?_
  refine va_get (D := D) (ci := 6) (v := .int 5) (C := RX9) (T := TX9) (N := 5) hx hb hU iX9 hown hK.1 hP 0 rfl rfl 1 (by decide) (hU _ w121) (fun _ h9 => h9) rfl dX9_receive_38 ?_
  refine lv_iconst (v := 1) hx hb dX9_receive_41 (by decide) ?_
  refine lv_iadd hx hb dX9_receive_42 (sv_i (v := 6) (by decide +kernel) ?_)
  refine va_put (D := D) (ci := 6) (v := .int 6) (ty := .int) (C := RX9) (T := TX9) (N := 5) hx hb hU iX9 tyX9 tyX9_ok nmX9 hown hK.1 hP hD hS 0 rfl rfl 1 (by decide) (hU _ w121) (fun _ h9 => h9) rfl (by decide +kernel) rfl rfl (Nat.le_of_ble_eq_true rfl) dX9_receive_43 (fun H locs hP hD hS => ?_)
  have hP : va_P D cl0 [(h0, .inr (6, [.ref h1, .int 6, .int 0, .int 0, .ref h2])), (h1, .inl (k 2, 120, .inl (g18)))] H := hP
  have hD : va_D A [(h0, .inr (6, [.ref h1, .int 6, .int 0, .int 0, .ref h2])), (h1, .inl (k 2, 120, .inl (g18)))] := hD
  refine lv_iinc (v := 6) (lv' := [(4, .int 6), (0, .ref h0), (1, .long x0), (3, .int 7)]) hx hb dX9_receive_46 hl (k := 0) rfl (by decide) (by decide) rfl (fun ls hl => ?_)
  refine lv_goto (tgt := 3) hx hb dX9_receive_49 (by decide) ?_
  refine lv_iload hx hb dX9_receive_3 (lv_at hl 0 rfl) ?_
  refine lv_iload_n hx hb dX9_receive_5 rfl (lv_at hl 3 rfl) ?_
  refine lv_icmp_ge (tgt := 52) hx hb dX9_receive_6 (by decide) (fun cc => absurd cc (by decide +kernel)) (fun _ => ?_)
  refine lv_aload_n hx hb dX9_receive_9 rfl (lv_at hl 1 rfl) ?_
  refine va_get (D := D) (ci := 6) (v := .int 6) (C := RX9) (T := TX9) (N := 5) hx hb hU iX9 hown hK.1 hP 0 rfl rfl 1 (by decide) (hU _ w121) (fun _ h9 => h9) rfl dX9_receive_10 ?_
  refine lv_bipush (v := 120) hx hb dX9_receive_13 (by decide) ?_
  refine lv_icmp_ge (tgt := 52) hx hb dX9_receive_15 (by decide) (fun cc => absurd cc (by decide +kernel)) (fun _ => ?_)
  refine lv_aload_n hx hb dX9_receive_18 rfl (lv_at hl 1 rfl) ?_
  refine va_get (D := D) (ci := 6) (v := .ref h1) (C := RX9) (T := TX9) (N := 5) hx hb hU iX9 hown hK.1 hP 0 rfl rfl 0 (by decide) (hU _ w120) (fun _ h9 => h9) rfl dX9_receive_19 ?_
  refine lv_aload_n hx hb dX9_receive_22 rfl (lv_at hl 1 rfl) ?_
  refine va_get (D := D) (ci := 6) (v := .int 6) (C := RX9) (T := TX9) (N := 5) hx hb hU iX9 hown hK.1 hP 0 rfl rfl 1 (by decide) (hU _ w121) (fun _ h9 => h9) rfl dX9_receive_23 ?_
  refine lv_lload_n hx hb dX9_receive_26 rfl (lv_at hl 2 rfl) ?_
  refine lv_bipush (v := 8) hx hb dX9_receive_27 (by decide) ?_
  refine lv_iload hx hb dX9_receive_29 (lv_at hl 0 rfl) ?_
  refine lv_imul hx hb dX9_receive_31 (sv_i (v := 48) (by decide +kernel) ?_)
  refine lv_lushr hx hb dX9_receive_32 rfl (lv_topl (fun v19 _ => ?_))
  refine lv_l2i (v := v19.toInt32) hx hb dX9_receive_33 rfl ?_
  refine lv_i2b hx hb dX9_receive_34 rfl (lv_topi (fun v20 _ => ?_))
  refine st_b (j := 6) hx hb hK hP hD hS 1 rfl (by decide +kernel) dX9_receive_35 (fun H locs g21 hP hD hS => ?_)
  have hP : va_P D cl0 [(h0, .inr (6, [.ref h1, .int 6, .int 0, .int 0, .ref h2])), (h1, .inl (k 2, 120, .inl (g21)))] H := hP
  have hD : va_D A [(h0, .inr (6, [.ref h1, .int 6, .int 0, .int 0, .ref h2])), (h1, .inl (k 2, 120, .inl (g21)))] := hD
  refine lv_aload_n hx hb dX9_receive_36 rfl (lv_at hl 1 rfl) ?_
  refine lv_dup hx hb dX9_receive_37 rfl ?_
  refine va_get (D := D) (ci := 6) (v := .int 6) (C := RX9) (T := TX9) (N := 5) hx hb hU iX9 hown hK.1 hP 0 rfl rfl 1 (by decide) (hU _ w121) (fun _ h9 => h9) rfl dX9_receive_38 ?_
  refine lv_iconst (v := 1) hx hb dX9_receive_41 (by decide) ?_
  refine lv_iadd hx hb dX9_receive_42 (sv_i (v := 7) (by decide +kernel) ?_)
  refine va_put (D := D) (ci := 6) (v := .int 7) (ty := .int) (C := RX9) (T := TX9) (N := 5) hx hb hU iX9 tyX9 tyX9_ok nmX9 hown hK.1 hP hD hS 0 rfl rfl 1 (by decide) (hU _ w121) (fun _ h9 => h9) rfl (by decide +kernel) rfl rfl (Nat.le_of_ble_eq_true rfl) dX9_receive_43 (fun H locs hP hD hS => ?_)
  have hP : va_P D cl0 [(h0, .inr (6, [.ref h1, .int 7, .int 0, .int 0, .ref h2])), (h1, .inl (k 2, 120, .inl (g21)))] H := hP
  have hD : va_D A [(h0, .inr (6, [.ref h1, .int 7, .int 0, .int 0, .ref h2])), (h1, .inl (k 2, 120, .inl (g21)))] := hD
  refine lv_iinc (v := 7) (lv' := [(4, .int 7), (0, .ref h0), (1, .long x0), (3, .int 7)]) hx hb dX9_receive_46 hl (k := 0) rfl (by decide) (by decide) rfl (fun ls hl => ?_)
  refine lv_goto (tgt := 3) hx hb dX9_receive_49 (by decide) ?_
  refine lv_iload hx hb dX9_receive_3 (lv_at hl 0 rfl) ?_
  refine lv_iload_n hx hb dX9_receive_5 rfl (lv_at hl 3 rfl) ?_
  refine lv_icmp_ge (tgt := 52) hx hb dX9_receive_6 (by decide) (fun _ => ?_) (fun cc => absurd (by decide +kernel) cc)
  exact retV hx hb hr hlocks hS (⟨hP.sub [0] rfl, hD.sub [0] (by decide) rfl⟩) dX9_receive_52
abbrev BX9_receive_8 (D : va_G) (k : Nat → ClassId) (h0 h1 h2 : Nat) (x0 : Int64) (A : Nat → Prop) (H : Heap) : Prop := va_P D cl0 [(h0, .inr (6, [.ref h1, .int 8, .int 0, .int 0, .ref h2]))] H ∧ va_D A [(h0, .inr (6, [.ref h1, .int 8, .int 0, .int 0, .ref h2]))]
set_option maxHeartbeats 4000000 in
set_option maxRecDepth 100000 in
theorem cX9_receive_8 (l : Launch) (D : va_G) (k : Nat → ClassId) (sz : Nat) (h0 h1 h2 : Nat) (x0 : Int64) : Met l yX9_receive (Cond.code yX9_receive cX9_receive 5 none :: uw) ({ frames := 0, cells := 0, slots := 0, locals := 0 }) (pC D k sz [.ref h0, .long x0, .int 8] [(h0, .inr (6, [.ref h1, .int 0, .int 0, .int 0, .ref h2])), (h1, .inl (k 2, 120, .inl (tI [] 0)))]) (qV (BX9_receive_8 D k h0 h1 h2 x0 (va_A [(h0, .inr (6, [.ref h1, .int 0, .int 0, .int 0, .ref h2])), (h1, .inl (k 2, 120, .inl (tI [] 0)))] sz)) (va_A [(h0, .inr (6, [.ref h1, .int 0, .int 0, .int 0, .ref h2])), (h1, .inl (k 2, 120, .inl (tI [] 0)))] sz)) 0 0 (va_A [(h0, .inr (6, [.ref h1, .int 0, .int 0, .int 0, .ref h2])), (h1, .inl (k 2, 120, .inl (tI [] 0)))] sz) := by
  refine begin_ (Qc := fun A => qV (BX9_receive_8 D k h0 h1 h2 x0 A) A) (by decide) (Nat.le_of_ble_eq_true rfl) ?_
  intro p e s m below meth c ls A hx hb hr hml hown hlocks hin hU hK hsz hP hD hS hA hl
  have hl : lv_has ls 5 [(0, .ref h0), (1, .long x0), (3, .int 8)] := hl
  clear hsz
  refine lv_iconst (v := 0) hx hb dX9_receive_0 (by decide) ?_
  refine lv_istore (lv' := [(4, .int 0), (0, .ref h0), (1, .long x0), (3, .int 8)]) hx hb dX9_receive_1 hl (by decide) rfl (fun ls hl => ?_)
  refine lv_iload hx hb dX9_receive_3 (lv_at hl 0 rfl) ?_
  refine lv_iload_n hx hb dX9_receive_5 rfl (lv_at hl 3 rfl) ?_
  refine lv_icmp_ge (tgt := 52) hx hb dX9_receive_6 (by decide) (fun cc => absurd cc (by decide +kernel)) (fun _ => ?_)
  refine lv_aload_n hx hb dX9_receive_9 rfl (lv_at hl 1 rfl) ?_
  refine va_get (D := D) (ci := 6) (v := .int 0) (C := RX9) (T := TX9) (N := 5) hx hb hU iX9 hown hK.1 hP 0 rfl rfl 1 (by decide) (hU _ w121) (fun _ h9 => h9) rfl dX9_receive_10 ?_
  refine lv_bipush (v := 120) hx hb dX9_receive_13 (by decide) ?_
  refine lv_icmp_ge (tgt := 52) hx hb dX9_receive_15 (by decide) (fun cc => absurd cc (by decide +kernel)) (fun _ => ?_)
  refine lv_aload_n hx hb dX9_receive_18 rfl (lv_at hl 1 rfl) ?_
  refine va_get (D := D) (ci := 6) (v := .ref h1) (C := RX9) (T := TX9) (N := 5) hx hb hU iX9 hown hK.1 hP 0 rfl rfl 0 (by decide) (hU _ w120) (fun _ h9 => h9) rfl dX9_receive_19 ?_
  refine lv_aload_n hx hb dX9_receive_22 rfl (lv_at hl 1 rfl) ?_
  refine va_get (D := D) (ci := 6) (v := .int 0) (C := RX9) (T := TX9) (N := 5) hx hb hU iX9 hown hK.1 hP 0 rfl rfl 1 (by decide) (hU _ w121) (fun _ h9 => h9) rfl dX9_receive_23 ?_
  refine lv_lload_n hx hb dX9_receive_26 rfl (lv_at hl 2 rfl) ?_
  refine lv_bipush (v := 8) hx hb dX9_receive_27 (by decide) ?_
  refine lv_iload hx hb dX9_receive_29 (lv_at hl 0 rfl) ?_
  refine lv_imul hx hb dX9_receive_31 (sv_i (v := 0) (by decide +kernel) ?_)
  refine lv_lushr hx hb dX9_receive_32 rfl (lv_topl (fun v1 _ => ?_))
  refine lv_l2i (v := v1.toInt32) hx hb dX9_receive_33 rfl ?_
  refine lv_i2b hx hb dX9_receive_34 rfl (lv_topi (fun v2 _ => ?_))
  refine st_b (j := 0) hx hb hK hP hD hS 1 rfl (by decide +kernel) dX9_receive_35 (fun H locs g3 hP hD hS => ?_)
  have hP : va_P D cl0 [(h0, .inr (6, [.ref h1, .int 0, .int 0, .int 0, .ref h2])), (h1, .inl (k 2, 120, .inl (g3)))] H := hP
  have hD : va_D A [(h0, .inr (6, [.ref h1, .int 0, .int 0, .int 0, .ref h2])), (h1, .inl (k 2, 120, .inl (g3)))] := hD
  refine lv_aload_n hx hb dX9_receive_36 rfl (lv_at hl 1 rfl) ?_
  refine lv_dup hx hb dX9_receive_37 rfl ?_
  refine va_get (D := D) (ci := 6) (v := .int 0) (C := RX9) (T := TX9) (N := 5) hx hb hU iX9 hown hK.1 hP 0 rfl rfl 1 (by decide) (hU _ w121) (fun _ h9 => h9) rfl dX9_receive_38 ?_
  refine lv_iconst (v := 1) hx hb dX9_receive_41 (by decide) ?_
  refine lv_iadd hx hb dX9_receive_42 (sv_i (v := 1) (by decide +kernel) ?_)
  refine va_put (D := D) (ci := 6) (v := .int 1) (ty := .int) (C := RX9) (T := TX9) (N := 5) hx hb hU iX9 tyX9 tyX9_ok nmX9 hown hK.1 hP hD hS 0 rfl rfl 1 (by decide) (hU _ w121) (fun _ h9 => h9) rfl (by decide +kernel) rfl rfl (Nat.le_of_ble_eq_true rfl) dX9_receive_43 (fun H locs hP hD hS => ?_)
  have hP : va_P D cl0 [(h0, .inr (6, [.ref h1, .int 1, .int 0, .int 0, .ref h2])), (h1, .inl (k 2, 120, .inl (g3)))] H := hP
  have hD : va_D A [(h0, .inr (6, [.ref h1, .int 1, .int 0, .int 0, .ref h2])), (h1, .inl (k 2, 120, .inl (g3)))] := hD
  refine lv_iinc (v := 1) (lv' := [(4, .int 1), (0, .ref h0), (1, .long x0), (3, .int 8)]) hx hb dX9_receive_46 hl (k := 0) rfl (by decide) (by decide) rfl (fun ls hl => ?_)
  refine lv_goto (tgt := 3) hx hb dX9_receive_49 (by decide) ?_
  refine lv_iload hx hb dX9_receive_3 (lv_at hl 0 rfl) ?_
  refine lv_iload_n hx hb dX9_receive_5 rfl (lv_at hl 3 rfl) ?_
  refine lv_icmp_ge (tgt := 52) hx hb dX9_receive_6 (by decide) (fun cc => absurd cc (by decide +kernel)) (fun _ => ?_)
  refine lv_aload_n hx hb dX9_receive_9 rfl (lv_at hl 1 rfl) ?_
  refine va_get (D := D) (ci := 6) (v := .int 1) (C := RX9) (T := TX9) (N := 5) hx hb hU iX9 hown hK.1 hP 0 rfl rfl 1 (by decide) (hU _ w121) (fun _ h9 => h9) rfl dX9_receive_10 ?_
  refine lv_bipush (v := 120) hx hb dX9_receive_13 (by decide) ?_
  refine lv_icmp_ge (tgt := 52) hx hb dX9_receive_15 (by decide) (fun cc => absurd cc (by decide +kernel)) (fun _ => ?_)
  refine lv_aload_n hx hb dX9_receive_18 rfl (lv_at hl 1 rfl) ?_
  refine va_get (D := D) (ci := 6) (v := .ref h1) (C := RX9) (T := TX9) (N := 5) hx hb hU iX9 hown hK.1 hP 0 rfl rfl 0 (by decide) (hU _ w120) (fun _ h9 => h9) rfl dX9_receive_19 ?_
  refine lv_aload_n hx hb dX9_receive_22 rfl (lv_at hl 1 rfl) ?_
  refine va_get (D := D) (ci := 6) (v := .int 1) (C := RX9) (T := TX9) (N := 5) hx hb hU iX9 hown hK.1 hP 0 rfl rfl 1 (by decide) (hU _ w121) (fun _ h9 => h9) rfl dX9_receive_23 ?_
  refine lv_lload_n hx hb dX9_receive_26 rfl (lv_at hl 2 rfl) ?_
  refine lv_bipush (v := 8) hx hb dX9_receive_27 (by decide) ?_
  refine lv_iload hx hb dX9_receive_29 (lv_at hl 0 rfl) ?_
  refine lv_imul hx hb dX9_receive_31 (sv_i (v := 8) (by decide +kernel) ?_)
  refine lv_lushr hx hb dX9_receive_32 rfl (lv_topl (fun v4 _ => ?_))
  refine lv_l2i (v := v4.toInt32) hx hb dX9_receive_33 rfl ?_
  refine lv_i2b hx hb dX9_receive_34 rfl (lv_topi (fun v5 _ => ?_))
  refine st_b (j := 1) hx hb hK hP hD hS 1 rfl (by decide +kernel) dX9_receive_35 (fun H locs g6 hP hD hS => ?_)
  have hP : va_P D cl0 [(h0, .inr (6, [.ref h1, .int 1, .int 0, .int 0, .ref h2])), (h1, .inl (k 2, 120, .inl (g6)))] H := hP
  have hD : va_D A [(h0, .inr (6, [.ref h1, .int 1, .int 0, .int 0, .ref h2])), (h1, .inl (k 2, 120, .inl (g6)))] := hD
  refine lv_aload_n hx hb dX9_receive_36 rfl (lv_at hl 1 rfl) ?_
  refine lv_dup hx hb dX9_receive_37 rfl ?_
  refine va_get (D := D) (ci := 6) (v := .int 1) (C := RX9) (T := TX9) (N := 5) hx hb hU iX9 hown hK.1 hP 0 rfl rfl 1 (by decide) (hU _ w121) (fun _ h9 => h9) rfl dX9_receive_38 ?_
  refine lv_iconst (v := 1) hx hb dX9_receive_41 (by decide) ?_
  refine lv_iadd hx hb dX9_receive_42 (sv_i (v := 2) (by decide +kernel) ?_)
  refine va_put (D := D) (ci := 6) (v := .int 2) (ty := .int) (C := RX9) (T := TX9) (N := 5) hx hb hU iX9 tyX9 tyX9_ok nmX9 hown hK.1 hP hD hS 0 rfl rfl 1 (by decide) (hU _ w121) (fun _ h9 => h9) rfl (by decide +kernel) rfl rfl (Nat.le_of_ble_eq_true rfl) dX9_receive_43 (fun H locs hP hD hS => ?_)
  have hP : va_P D cl0 [(h0, .inr (6, [.ref h1, .int 2, .int 0, .int 0, .ref h2])), (h1, .inl (k 2, 120, .inl (g6)))] H := hP
  have hD : va_D A [(h0, .inr (6, [.ref h1, .int 2, .int 0, .int 0, .ref h2])), (h1, .inl (k 2, 120, .inl (g6)))] := hD
  refine lv_iinc (v := 2) (lv' := [(4, .int 2), (0, .ref h0), (1, .long x0), (3, .int 8)]) hx hb dX9_receive_46 hl (k := 0) rfl (by decide) (by decide) rfl (fun ls hl => ?_)
  refine lv_goto (tgt := 3) hx hb dX9_receive_49 (by decide) ?_
  refine lv_iload hx hb dX9_receive_3 (lv_at hl 0 rfl) ?_
  refine lv_iload_n hx hb dX9_receive_5 rfl (lv_at hl 3 rfl) ?_
  refine lv_icmp_ge (tgt := 52) hx hb dX9_receive_6 (by decide) (fun cc => absurd cc (by decide +kernel)) (fun _ => ?_)
  refine lv_aload_n hx hb dX9_receive_9 rfl (lv_at hl 1 rfl) ?_
  refine va_get (D := D) (ci := 6) (v := .int 2) (C := RX9) (T := TX9) (N := 5) hx hb hU iX9 hown hK.1 hP 0 rfl rfl 1 (by decide) (hU _ w121) (fun _ h9 => h9) rfl dX9_receive_10 ?_
  refine lv_bipush (v := 120) hx hb dX9_receive_13 (by decide) ?_
  refine lv_icmp_ge (tgt := 52) hx hb dX9_receive_15 (by decide) (fun cc => absurd cc (by decide +kernel)) (fun _ => ?_)
  refine lv_aload_n hx hb dX9_receive_18 rfl (lv_at hl 1 rfl) ?_
  refine va_get (D := D) (ci := 6) (v := .ref h1) (C := RX9) (T := TX9) (N := 5) hx hb hU iX9 hown hK.1 hP 0 rfl rfl 0 (by decide) (hU _ w120) (fun _ h9 => h9) rfl dX9_receive_19 ?_
  refine lv_aload_n hx hb dX9_receive_22 rfl (lv_at hl 1 rfl) ?_
  refine va_get (D := D) (ci := 6) (v := .int 2) (C := RX9) (T := TX9) (N := 5) hx hb hU iX9 hown hK.1 hP 0 rfl rfl 1 (by decide) (hU _ w121) (fun _ h9 => h9) rfl dX9_receive_23 ?_
  refine lv_lload_n hx hb dX9_receive_26 rfl (lv_at hl 2 rfl) ?_
  refine lv_bipush (v := 8) hx hb dX9_receive_27 (by decide) ?_
  refine lv_iload hx hb dX9_receive_29 (lv_at hl 0 rfl) ?_
  refine lv_imul hx hb dX9_receive_31 (sv_i (v := 16) (by decide +kernel) ?_)
  refine lv_lushr hx hb dX9_receive_32 rfl (lv_topl (fun v7 _ => ?_))
  refine lv_l2i (v := v7.toInt32) hx hb dX9_receive_33 rfl ?_
  refine lv_i2b hx hb dX9_receive_34 rfl (lv_topi (fun v8 _ => ?_))
  refine st_b (j := 2) hx hb hK hP hD hS 1 rfl (by decide +kernel) dX9_receive_35 (fun H locs g9 hP hD hS => ?_)
  have hP : va_P D cl0 [(h0, .inr (6, [.ref h1, .int 2, .int 0, .int 0, .ref h2])), (h1, .inl (k 2, 120, .inl (g9)))] H := hP
  have hD : va_D A [(h0, .inr (6, [.ref h1, .int 2, .int 0, .int 0, .ref h2])), (h1, .inl (k 2, 120, .inl (g9)))] := hD
  refine lv_aload_n hx hb dX9_receive_36 rfl (lv_at hl 1 rfl) ?_
  refine lv_dup hx hb dX9_receive_37 rfl ?_
  refine va_get (D := D) (ci := 6) (v := .int 2) (C := RX9) (T := TX9) (N := 5) hx hb hU iX9 hown hK.1 hP 0 rfl rfl 1 (by decide) (hU _ w121) (fun _ h9 => h9) rfl dX9_receive_38 ?_
  refine lv_iconst (v := 1) hx hb dX9_receive_41 (by decide) ?_
  refine lv_iadd hx hb dX9_receive_42 (sv_i (v := 3) (by decide +kernel) ?_)
  refine va_put (D := D) (ci := 6) (v := .int 3) (ty := .int) (C := RX9) (T := TX9) (N := 5) hx hb hU iX9 tyX9 tyX9_ok nmX9 hown hK.1 hP hD hS 0 rfl rfl 1 (by decide) (hU _ w121) (fun _ h9 => h9) rfl (by decide +kernel) rfl rfl (Nat.le_of_ble_eq_true rfl) dX9_receive_43 (fun H locs hP hD hS => ?_)
  have hP : va_P D cl0 [(h0, .inr (6, [.ref h1, .int 3, .int 0, .int 0, .ref h2])), (h1, .inl (k 2, 120, .inl (g9)))] H := hP
  have hD : va_D A [(h0, .inr (6, [.ref h1, .int 3, .int 0, .int 0, .ref h2])), (h1, .inl (k 2, 120, .inl (g9)))] := hD
  refine lv_iinc (v := 3) (lv' := [(4, .int 3), (0, .ref h0), (1, .long x0), (3, .int 8)]) hx hb dX9_receive_46 hl (k := 0) rfl (by decide) (by decide) rfl (fun ls hl => ?_)
  refine lv_goto (tgt := 3) hx hb dX9_receive_49 (by decide) ?_
  refine lv_iload hx hb dX9_receive_3 (lv_at hl 0 rfl) ?_
  refine lv_iload_n hx hb dX9_receive_5 rfl (lv_at hl 3 rfl) ?_
  refine lv_icmp_ge (tgt := 52) hx hb dX9_receive_6 (by decide) (fun cc => absurd cc (by decide +kernel)) (fun _ => ?_)
  refine lv_aload_n hx hb dX9_receive_9 rfl (lv_at hl 1 rfl) ?_
  refine va_get (D := D) (ci := 6) (v := .int 3) (C := RX9) (T := TX9) (N := 5) hx hb hU iX9 hown hK.1 hP 0 rfl rfl 1 (by decide) (hU _ w121) (fun _ h9 => h9) rfl dX9_receive_10 ?_
  refine lv_bipush (v := 120) hx hb dX9_receive_13 (by decide) ?_
  refine lv_icmp_ge (tgt := 52) hx hb dX9_receive_15 (by decide) (fun cc => absurd cc (by decide +kernel)) (fun _ => ?_)
  refine lv_aload_n hx hb dX9_receive_18 rfl (lv_at hl 1 rfl) ?_
  refine va_get (D := D) (ci := 6) (v := .ref h1) (C := RX9) (T := TX9) (N := 5) hx hb hU iX9 hown hK.1 hP 0 rfl rfl 0 (by decide) (hU _ w120) (fun _ h9 => h9) rfl dX9_receive_19 ?_
  refine lv_aload_n hx hb dX9_receive_22 rfl (lv_at hl 1 rfl) ?_
  refine va_get (D := D) (ci := 6) (v := .int 3) (C := RX9) (T := TX9) (N := 5) hx hb hU iX9 hown hK.1 hP 0 rfl rfl 1 (by decide) (hU _ w121) (fun _ h9 => h9) rfl dX9_receive_23 ?_
  refine lv_lload_n hx hb dX9_receive_26 rfl (lv_at hl 2 rfl) ?_
  refine lv_bipush (v := 8) hx hb dX9_receive_27 (by decide) ?_
  refine lv_iload hx hb dX9_receive_29 (lv_at hl 0 rfl) ?_
  refine lv_imul hx hb dX9_receive_31 (sv_i (v := 24) (by decide +kernel) ?_)
  refine lv_lushr hx hb dX9_receive_32 rfl (lv_topl (fun v10 _ => ?_))
  refine lv_l2i (v := v10.toInt32) hx hb dX9_receive_33 rfl ?_
  refine lv_i2b hx hb dX9_receive_34 rfl (lv_topi (fun v11 _ => ?_))
  refine st_b (j := 3) hx hb hK hP hD hS 1 rfl (by decide +kernel) dX9_receive_35 (fun H locs g12 hP hD hS => ?_)
  have hP : va_P D cl0 [(h0, .inr (6, [.ref h1, .int 3, .int 0, .int 0, .ref h2])), (h1, .inl (k 2, 120, .inl (g12)))] H := hP
  have hD : va_D A [(h0, .inr (6, [.ref h1, .int 3, .int 0, .int 0, .ref h2])), (h1, .inl (k 2, 120, .inl (g12)))] := hD
  refine lv_aload_n hx hb dX9_receive_36 rfl (lv_at hl 1 rfl) ?_
  refine lv_dup hx hb dX9_receive_37 rfl ?_
  refine va_get (D := D) (ci := 6) (v := .int 3) (C := RX9) (T := TX9) (N := 5) hx hb hU iX9 hown hK.1 hP 0 rfl rfl 1 (by decide) (hU _ w121) (fun _ h9 => h9) rfl dX9_receive_38 ?_
  refine lv_iconst (v := 1) hx hb dX9_receive_41 (by decide) ?_
  refine lv_iadd hx hb dX9_receive_42 (sv_i (v := 4) (by decide +kernel) ?_)
  refine va_put (D := D) (ci := 6) (v := .int 4) (ty := .int) (C := RX9) (T := TX9) (N := 5) hx hb hU iX9 tyX9 tyX9_ok nmX9 hown hK.1 hP hD hS 0 rfl rfl 1 (by decide) (hU _ w121) (fun _ h9 => h9) rfl (by decide +kernel) rfl rfl (Nat.le_of_ble_eq_true rfl) dX9_receive_43 (fun H locs hP hD hS => ?_)
  have hP : va_P D cl0 [(h0, .inr (6, [.ref h1, .int 4, .int 0, .int 0, .ref h2])), (h1, .inl (k 2, 120, .inl (g12)))] H := hP
  have hD : va_D A [(h0, .inr (6, [.ref h1, .int 4, .int 0, .int 0, .ref h2])), (h1, .inl (k 2, 120, .inl (g12)))] := hD
  refine lv_iinc (v := 4) (lv' := [(4, .int 4), (0, .ref h0), (1, .long x0), (3, .int 8)]) hx hb dX9_receive_46 hl (k := 0) rfl (by decide) (by decide) rfl (fun ls hl => ?_)
  refine lv_goto (tgt := 3) hx hb dX9_receive_49 (by decide) ?_
  refine lv_iload hx hb dX9_receive_3 (lv_at hl 0 rfl) ?_
  refine lv_iload_n hx hb dX9_receive_5 rfl (lv_at hl 3 rfl) ?_
  refine lv_icmp_ge (tgt := 52) hx hb dX9_receive_6 (by decide) (fun cc => absurd cc (by decide +kernel)) (fun _ => ?_)
  refine lv_aload_n hx hb dX9_receive_9 rfl (lv_at hl 1 rfl) ?_
  refine va_get (D := D) (ci := 6) (v := .int 4) (C := RX9) (T := TX9) (N := 5) hx hb hU iX9 hown hK.1 hP 0 rfl rfl 1 (by decide) (hU _ w121) (fun _ h9 => h9) rfl dX9_receive_10 ?_
  refine lv_bipush (v := 120) hx hb dX9_receive_13 (by decide) ?_
  refine lv_icmp_ge (tgt := 52) hx hb dX9_receive_15 (by decide) (fun cc => absurd cc (by decide +kernel)) (fun _ => ?_)
  refine lv_aload_n hx hb dX9_receive_18 rfl (lv_at hl 1 rfl) ?_
  refine va_get (D := D) (ci := 6) (v := .ref h1) (C := RX9) (T := TX9) (N := 5) hx hb hU iX9 hown hK.1 hP 0 rfl rfl 0 (by decide) (hU _ w120) (fun _ h9 => h9) rfl dX9_receive_19 ?_
  refine lv_aload_n hx hb dX9_receive_22 rfl (lv_at hl 1 rfl) ?_
  refine va_get (D := D) (ci := 6) (v := .int 4) (C := RX9) (T := TX9) (N := 5) hx hb hU iX9 hown hK.1 hP 0 rfl rfl 1 (by decide) (hU _ w121) (fun _ h9 => h9) rfl dX9_receive_23 ?_
  refine lv_lload_n hx hb dX9_receive_26 rfl (lv_at hl 2 rfl) ?_
  refine lv_bipush (v := 8) hx hb dX9_receive_27 (by decide) ?_
  refine lv_iload hx hb dX9_receive_29 (lv_at hl 0 rfl) ?_
  refine lv_imul hx hb dX9_receive_31 (sv_i (v := 32) (by decide +kernel) ?_)
  refine lv_lushr hx hb dX9_receive_32 rfl (lv_topl (fun v13 _ => ?_))
  refine lv_l2i (v := v13.toInt32) hx hb dX9_receive_33 rfl ?_
  refine lv_i2b hx hb dX9_receive_34 rfl (lv_topi (fun v14 _ => ?_))
  refine st_b (j := 4) hx hb hK hP hD hS 1 rfl (by decide +kernel) dX9_receive_35 (fun H locs g15 hP hD hS => ?_)
  have hP : va_P D cl0 [(h0, .inr (6, [.ref h1, .int 4, .int 0, .int 0, .ref h2])), (h1, .inl (k 2, 120, .inl (g15)))] H := hP
  have hD : va_D A [(h0, .inr (6, [.ref h1, .int 4, .int 0, .int 0, .ref h2])), (h1, .inl (k 2, 120, .inl (g15)))] := hD
  refine lv_aload_n hx hb dX9_receive_36 rfl (lv_at hl 1 rfl) ?_
  refine lv_dup hx hb dX9_receive_37 rfl ?_
  refine va_get (D := D) (ci := 6) (v := .int 4) (C := RX9) (T := TX9) (N := 5) hx hb hU iX9 hown hK.1 hP 0 rfl rfl 1 (by decide) (hU _ w121) (fun _ h9 => h9) rfl dX9_receive_38 ?_
  refine lv_iconst (v := 1) hx hb dX9_receive_41 (by decide) ?_
  refine lv_iadd hx hb dX9_receive_42 (sv_i (v := 5) (by decide +kernel) ?_)
  refine va_put (D := D) (ci := 6) (v := .int 5) (ty := .int) (C := RX9) (T := TX9) (N := 5) hx hb hU iX9 tyX9 tyX9_ok nmX9 hown hK.1 hP hD hS 0 rfl rfl 1 (by decide) (hU _ w121) (fun _ h9 => h9) rfl (by decide +kernel) rfl rfl (Nat.le_of_ble_eq_true rfl) dX9_receive_43 (fun H locs hP hD hS => ?_)
  have hP : va_P D cl0 [(h0, .inr (6, [.ref h1, .int 5, .int 0, .int 0, .ref h2])), (h1, .inl (k 2, 120, .inl (g15)))] H := hP
  have hD : va_D A [(h0, .inr (6, [.ref h1, .int 5, .int 0, .int 0, .ref h2])), (h1, .inl (k 2, 120, .inl (g15)))] := hD
  refine lv_iinc (v := 5) (lv' := [(4, .int 5), (0, .ref h0), (1, .long x0), (3, .int 8)]) hx hb dX9_receive_46 hl (k := 0) rfl (by decide) (by decide) rfl (fun ls hl => ?_)
  refine lv_goto (tgt := 3) hx hb dX9_receive_49 (by decide) ?_
  refine lv_iload hx hb dX9_receive_3 (lv_at hl 0 rfl) ?_
  refine lv_iload_n hx hb dX9_receive_5 rfl (lv_at hl 3 rfl) ?_
  refine lv_icmp_ge (tgt := 52) hx hb dX9_receive_6 (by decide) (fun cc => absurd cc (by decide +kernel)) (fun _ => ?_)
  refine lv_aload_n hx hb dX9_receive_9 rfl (lv_at hl 1 rfl) ?_
  refine va_get (D := D) (ci := 6) (v := .int 5) (C := RX9) (T := TX9) (N := 5) hx hb hU iX9 hown hK.1 hP 0 rfl rfl 1 (by decide) (hU _ w121) (fun _ h9 => h9) rfl dX9_receive_10 ?_
  refine lv_bipush (v := 120) hx hb dX9_receive_13 (by decide) ?_
  refine lv_icmp_ge (tgt := 52) hx hb dX9_receive_15 (by decide) (fun cc => absurd cc (by decide +kernel)) (fun _ => ?_)
  refine lv_aload_n hx hb dX9_receive_18 rfl (lv_at hl 1 rfl) ?_
  refine va_get (D := D) (ci := 6) (v := .ref h1) (C := RX9) (T := TX9) (N := 5) hx hb hU iX9 hown hK.1 hP 0 rfl rfl 0 (by decide) (hU _ w120) (fun _ h9 => h9) rfl dX9_receive_19 ?_
  refine lv_aload_n hx hb dX9_receive_22 rfl (lv_at hl 1 rfl) ?_
  refine va_get (D := D) (ci := 6) (v := .int 5) (C := RX9) (T := TX9) (N := 5) hx hb hU iX9 hown hK.1 hP 0 rfl rfl 1 (by decide) (hU _ w121) (fun _ h9 => h9) rfl dX9_receive_23 ?_
  refine lv_lload_n hx hb dX9_receive_26 rfl (lv_at hl 2 rfl) ?_
  refine lv_bipush (v := 8) hx hb dX9_receive_27 (by decide) ?_
  refine lv_iload hx hb dX9_receive_29 (lv_at hl 0 rfl) ?_
  refine lv_imul hx hb dX9_receive_31 (sv_i (v := 40) (by decide +kernel) ?_)
  refine lv_lushr hx hb dX9_receive_32 rfl (lv_topl (fun v16 _ => ?_))
  refine lv_l2i (v := v16.toInt32) hx hb dX9_receive_33 rfl ?_
  refine lv_i2b hx hb dX9_receive_34 rfl (lv_topi (fun v17 _ => ?_))
  refine st_b (j := 5) hx hb hK hP hD hS 1 rfl (by decide +kernel) dX9_receive_35 (fun H locs g18 hP hD hS => ?_)
  have hP : va_P D cl0 [(h0, .inr (6, [.ref h1, .int 5, .int 0, .int 0, .ref h2])), (h1, .inl (k 2, 120, .inl (g18)))] H := hP
  have hD : va_D A [(h0, .inr (6, [.ref h1, .int 5, .int 0, .int 0, .ref h2])), (h1, .inl (k 2, 120, .inl (g18)))] := hD
  refine lv_aload_n hx hb dX9_receive_36 rfl (lv_at hl 1 rfl) ?_
  refine lv_dup hx hb dX9_receive_37 rfl ?_
  refine va_get (D := D) (ci := 6) (v := .int 5) (C := RX9) (T := TX9) (N := 5) hx hb hU iX9 hown hK.1 hP 0 rfl rfl 1 (by decide) (hU _ w121) (fun _ h9 => h9) rfl dX9_receive_38 ?_
  refine lv_iconst (v := 1) hx hb dX9_receive_41 (by decide) ?_
  refine lv_iadd hx hb dX9_receive_42 (sv_i (v := 6) (by decide +kernel) ?_)
  refine va_put (D := D) (ci := 6) (v := .int 6) (ty := .int) (C := RX9) (T := TX9) (N := 5) hx hb hU iX9 tyX9 tyX9_ok nmX9 hown hK.1 hP hD hS 0 rfl rfl 1 (by decide) (hU _ w121) (fun _ h9 => h9) rfl (by decide +kernel) rfl rfl (Nat.le_of_ble_eq_true rfl) dX9_receive_43 (fun H locs hP hD hS => ?_)
  have hP : va_P D cl0 [(h0, .inr (6, [.ref h1, .int 6, .int 0, .int 0, .ref h2])), (h1, .inl (k 2, 120, .inl (g18)))] H := hP
  have hD : va_D A [(h0, .inr (6, [.ref h1, .int 6, .int 0, .int 0, .ref h2])), (h1, .inl (k 2, 120, .inl (g18)))] := hD
  refine lv_iinc (v := 6) (lv' := [(4, .int 6), (0, .ref h0), (1, .long x0), (3, .int 8)]) hx hb dX9_receive_46 hl (k := 0) rfl (by decide) (by decide) rfl (fun ls hl => ?_)
  refine lv_goto (tgt := 3) hx hb dX9_receive_49 (by decide) ?_
  refine lv_iload hx hb dX9_receive_3 (lv_at hl 0 rfl) ?_
  refine lv_iload_n hx hb dX9_receive_5 rfl (lv_at hl 3 rfl) ?_
  refine lv_icmp_ge (tgt := 52) hx hb dX9_receive_6 (by decide) (fun cc => absurd cc (by decide +kernel)) (fun _ => ?_)
  refine lv_aload_n hx hb dX9_receive_9 rfl (lv_at hl 1 rfl) ?_
  refine va_get (D := D) (ci := 6) (v := .int 6) (C := RX9) (T := TX9) (N := 5) hx hb hU iX9 hown hK.1 hP 0 rfl rfl 1 (by decide) (hU _ w121) (fun _ h9 => h9) rfl dX9_receive_10 ?_
  refine lv_bipush (v := 120) hx hb dX9_receive_13 (by decide) ?_
  refine lv_icmp_ge (tgt := 52) hx hb dX9_receive_15 (by decide) (fun cc => absurd cc (by decide +kernel)) (fun _ => ?_)
  refine lv_aload_n hx hb dX9_receive_18 rfl (lv_at hl 1 rfl) ?_
  refine va_get (D := D) (ci := 6) (v := .ref h1) (C := RX9) (T := TX9) (N := 5) hx hb hU iX9 hown hK.1 hP 0 rfl rfl 0 (by decide) (hU _ w120) (fun _ h9 => h9) rfl dX9_receive_19 ?_
  refine lv_aload_n hx hb dX9_receive_22 rfl (lv_at hl 1 rfl) ?_
  refine va_get (D := D) (ci := 6) (v := .int 6) (C := RX9) (T := TX9) (N := 5) hx hb hU iX9 hown hK.1 hP 0 rfl rfl 1 (by decide) (hU _ w121) (fun _ h9 => h9) rfl dX9_receive_23 ?_
  refine lv_lload_n hx hb dX9_receive_26 rfl (lv_at hl 2 rfl) ?_
  refine lv_bipush (v := 8) hx hb dX9_receive_27 (by decide) ?_
  refine lv_iload hx hb dX9_receive_29 (lv_at hl 0 rfl) ?_
  refine lv_imul hx hb dX9_receive_31 (sv_i (v := 48) (by decide +kernel) ?_)
  refine lv_lushr hx hb dX9_receive_32 rfl (lv_topl (fun v19 _ => ?_))
  refine lv_l2i (v := v19.toInt32) hx hb dX9_receive_33 rfl ?_
  refine lv_i2b hx hb dX9_receive_34 rfl (lv_topi (fun v20 _ => ?_))
  refine st_b (j := 6) hx hb hK hP hD hS 1 rfl (by decide +kernel) dX9_receive_35 (fun H locs g21 hP hD hS => ?_)
  have hP : va_P D cl0 [(h0, .inr (6, [.ref h1, .int 6, .int 0, .int 0, .ref h2])), (h1, .inl (k 2, 120, .inl (g21)))] H := hP
  have hD : va_D A [(h0, .inr (6, [.ref h1, .int 6, .int 0, .int 0, .ref h2])), (h1, .inl (k 2, 120, .inl (g21)))] := hD
  refine lv_aload_n hx hb dX9_receive_36 rfl (lv_at hl 1 rfl) ?_
  refine lv_dup hx hb dX9_receive_37 rfl ?_
  refine va_get (D := D) (ci := 6) (v := .int 6) (C := RX9) (T := TX9) (N := 5) hx hb hU iX9 hown hK.1 hP 0 rfl rfl 1 (by decide) (hU _ w121) (fun _ h9 => h9) rfl dX9_receive_38 ?_
  refine lv_iconst (v := 1) hx hb dX9_receive_41 (by decide) ?_
  refine lv_iadd hx hb dX9_receive_42 (sv_i (v := 7) (by decide +kernel) ?_)
  refine va_put (D := D) (ci := 6) (v := .int 7) (ty := .int) (C := RX9) (T := TX9) (N := 5) hx hb hU iX9 tyX9 tyX9_ok nmX9 hown hK.1 hP hD hS 0 rfl rfl 1 (by decide) (hU _ w121) (fun _ h9 => h9) rfl (by decide +kernel) rfl rfl (Nat.le_of_ble_eq_true rfl) dX9_receive_43 (fun H locs hP hD hS => ?_)
  have hP : va_P D cl0 [(h0, .inr (6, [.ref h1, .int 7, .int 0, .int 0, .ref h2])), (h1, .inl (k 2, 120, .inl (g21)))] H := hP
  have hD : va_D A [(h0, .inr (6, [.ref h1, .int 7, .int 0, .int 0, .ref h2])), (h1, .inl (k 2, 120, .inl (g21)))] := hD
  refine lv_iinc (v := 7) (lv' := [(4, .int 7), (0, .ref h0), (1, .long x0), (3, .int 8)]) hx hb dX9_receive_46 hl (k := 0) rfl (by decide) (by decide) rfl (fun ls hl => ?_)
  refine lv_goto (tgt := 3) hx hb dX9_receive_49 (by decide) ?_
  refine lv_iload hx hb dX9_receive_3 (lv_at hl 0 rfl) ?_
  refine lv_iload_n hx hb dX9_receive_5 rfl (lv_at hl 3 rfl) ?_
  refine lv_icmp_ge (tgt := 52) hx hb dX9_receive_6 (by decide) (fun cc => absurd cc (by decide +kernel)) (fun _ => ?_)
  refine lv_aload_n hx hb dX9_receive_9 rfl (lv_at hl 1 rfl) ?_
  refine va_get (D := D) (ci := 6) (v := .int 7) (C := RX9) (T := TX9) (N := 5) hx hb hU iX9 hown hK.1 hP 0 rfl rfl 1 (by decide) (hU _ w121) (fun _ h9 => h9) rfl dX9_receive_10 ?_
  refine lv_bipush (v := 120) hx hb dX9_receive_13 (by decide) ?_
  refine lv_icmp_ge (tgt := 52) hx hb dX9_receive_15 (by decide) (fun cc => absurd cc (by decide +kernel)) (fun _ => ?_)
  refine lv_aload_n hx hb dX9_receive_18 rfl (lv_at hl 1 rfl) ?_
  refine va_get (D := D) (ci := 6) (v := .ref h1) (C := RX9) (T := TX9) (N := 5) hx hb hU iX9 hown hK.1 hP 0 rfl rfl 0 (by decide) (hU _ w120) (fun _ h9 => h9) rfl dX9_receive_19 ?_
  refine lv_aload_n hx hb dX9_receive_22 rfl (lv_at hl 1 rfl) ?_
  refine va_get (D := D) (ci := 6) (v := .int 7) (C := RX9) (T := TX9) (N := 5) hx hb hU iX9 hown hK.1 hP 0 rfl rfl 1 (by decide) (hU _ w121) (fun _ h9 => h9) rfl dX9_receive_23 ?_
  refine lv_lload_n hx hb dX9_receive_26 rfl (lv_at hl 2 rfl) ?_
  refine lv_bipush (v := 8) hx hb dX9_receive_27 (by decide) ?_
  refine lv_iload hx hb dX9_receive_29 (lv_at hl 0 rfl) ?_
  refine lv_imul hx hb dX9_receive_31 (sv_i (v := 56) (by decide +kernel) ?_)
  refine lv_lushr hx hb dX9_receive_32 rfl (lv_topl (fun v22 _ => ?_))
  refine lv_l2i (v := v22.toInt32) hx hb dX9_receive_33 rfl ?_
  refine lv_i2b hx hb dX9_receive_34 rfl (lv_topi (fun v23 _ => ?_))
  refine st_b (j := 7) hx hb hK hP hD hS 1 rfl (by decide +kernel) dX9_receive_35 (fun H locs g24 hP hD hS => ?_)
  have hP : va_P D cl0 [(h0, .inr (6, [.ref h1, .int 7, .int 0, .int 0, .ref h2])), (h1, .inl (k 2, 120, .inl (g24)))] H := hP
  have hD : va_D A [(h0, .inr (6, [.ref h1, .int 7, .int 0, .int 0, .ref h2])), (h1, .inl (k 2, 120, .inl (g24)))] := hD
  refine lv_aload_n hx hb dX9_receive_36 rfl (lv_at hl 1 rfl) ?_
  refine lv_dup hx hb dX9_receive_37 rfl ?_
  refine va_get (D := D) (ci := 6) (v := .int 7) (C := RX9) (T := TX9) (N := 5) hx hb hU iX9 hown hK.1 hP 0 rfl rfl 1 (by decide) (hU _ w121) (fun _ h9 => h9) rfl dX9_receive_38 ?_
  refine lv_iconst (v := 1) hx hb dX9_receive_41 (by decide) ?_
  refine lv_iadd hx hb dX9_receive_42 (sv_i (v := 8) (by decide +kernel) ?_)
  refine va_put (D := D) (ci := 6) (v := .int 8) (ty := .int) (C := RX9) (T := TX9) (N := 5) hx hb hU iX9 tyX9 tyX9_ok nmX9 hown hK.1 hP hD hS 0 rfl rfl 1 (by decide) (hU _ w121) (fun _ h9 => h9) rfl (by decide +kernel) rfl rfl (Nat.le_of_ble_eq_true rfl) dX9_receive_43 (fun H locs hP hD hS => ?_)
  have hP : va_P D cl0 [(h0, .inr (6, [.ref h1, .int 8, .int 0, .int 0, .ref h2])), (h1, .inl (k 2, 120, .inl (g24)))] H := hP
  have hD : va_D A [(h0, .inr (6, [.ref h1, .int 8, .int 0, .int 0, .ref h2])), (h1, .inl (k 2, 120, .inl (g24)))] := hD
  refine lv_iinc (v := 8) (lv' := [(4, .int 8), (0, .ref h0), (1, .long x0), (3, .int 8)]) hx hb dX9_receive_46 hl (k := 0) rfl (by decide) (by decide) rfl (fun ls hl => ?_)
  refine lv_goto (tgt := 3) hx hb dX9_receive_49 (by decide) ?_
  refine lv_iload hx hb dX9_receive_3 (lv_at hl 0 rfl) ?_
  refine lv_iload_n hx hb dX9_receive_5 rfl (lv_at hl 3 rfl) ?_
  refine lv_icmp_ge (tgt := 52) hx hb dX9_receive_6 (by decide) (fun _ => ?_) (fun cc => absurd (by decide +kernel) cc)
  exact retV hx hb hr hlocks hS (⟨hP.sub [0] rfl, hD.sub [0] (by decide) rfl⟩) dX9_receive_52
abbrev BX10_feed_1 (D : va_G) (k : Nat → ClassId) (a0 a5 a6 a1 a3 a8 a9 a18 a27 a28 a29 a30 a31 a32 a7 : Nat) (x0 : Int64) (x1 : Int32) (A : Nat → Prop) (r : Int32) (H : Heap) : Prop := r = F_feed x0 x1
set_option maxHeartbeats 4000000 in
set_option maxRecDepth 100000 in
theorem cX10_feed_1 (l : Launch) (D : va_G) (k : Nat → ClassId) (sz : Nat) (a0 a5 a6 a1 a3 a8 a9 a18 a27 a28 a29 a30 a31 a32 a7 : Nat) (x0 : Int64) (x1 : Int32) : Met l yX10_feed (Cond.code yX10_feed cX10_feed 4 (some .int) :: uw) ({ frames := 1, cells := 0, slots := 0, locals := 24 }) (pC D k sz [.ref a0, .long x0, .int x1] [(a0, .inr (7, [.ref a1, .ref a3, .int 0, .ref a5, .ref a8, .ref a9, .int 0, .ref a18, .int 0, .null, .ref a27, .int 0, .ref a28, .ref a29, .ref a30, .ref a31, .ref a32])), (a5, .inr (6, [.ref a6, .int 0, .int 0, .int 0, .ref a7])), (a6, .inl (k 2, 120, .inl (tI [] 0)))]) (qI (BX10_feed_1 D k a0 a5 a6 a1 a3 a8 a9 a18 a27 a28 a29 a30 a31 a32 a7 x0 x1 (va_A [(a0, .inr (7, [.ref a1, .ref a3, .int 0, .ref a5, .ref a8, .ref a9, .int 0, .ref a18, .int 0, .null, .ref a27, .int 0, .ref a28, .ref a29, .ref a30, .ref a31, .ref a32])), (a5, .inr (6, [.ref a6, .int 0, .int 0, .int 0, .ref a7])), (a6, .inl (k 2, 120, .inl (tI [] 0)))] sz)) (va_A [(a0, .inr (7, [.ref a1, .ref a3, .int 0, .ref a5, .ref a8, .ref a9, .int 0, .ref a18, .int 0, .null, .ref a27, .int 0, .ref a28, .ref a29, .ref a30, .ref a31, .ref a32])), (a5, .inr (6, [.ref a6, .int 0, .int 0, .int 0, .ref a7])), (a6, .inl (k 2, 120, .inl (tI [] 0)))] sz)) 0 0 (va_A [(a0, .inr (7, [.ref a1, .ref a3, .int 0, .ref a5, .ref a8, .ref a9, .int 0, .ref a18, .int 0, .null, .ref a27, .int 0, .ref a28, .ref a29, .ref a30, .ref a31, .ref a32])), (a5, .inr (6, [.ref a6, .int 0, .int 0, .int 0, .ref a7])), (a6, .inl (k 2, 120, .inl (tI [] 0)))] sz) := by
  refine begin_ (Qc := fun A => qI (BX10_feed_1 D k a0 a5 a6 a1 a3 a8 a9 a18 a27 a28 a29 a30 a31 a32 a7 x0 x1 A) A) (by decide) (Nat.le_of_ble_eq_true rfl) ?_
  intro p e s m below meth c ls A hx hb hr hml hown hlocks hin hU hK hsz hP hD hS hA hl
  have hl : lv_has ls 4 [(0, .ref a0), (1, .long x0), (3, .int x1)] := hl
  clear hsz
  refine lv_iload_n hx hb dX10_feed_0 rfl (lv_at hl 2 rfl) ?_
  refine lv_iconst (v := 1) hx hb dX10_feed_1 (by decide) ?_
  refine lv_icmp_lt (tgt := 11) hx hb dX10_feed_2 (by decide) (fun c_1 => ?_) (fun c_1 => ?_)
  · skip
    refine lv_iconst (v := (-1)) hx hb dX10_feed_11 (by decide) ?_
    exact retI (v := (-1)) hx hb hr hlocks hS (show ((-1) : Int32) = F_feed x0 x1 by first | decide +kernel | (have f0 := cv_lt (x := x1.toInt) (y := 1) c_1 rfl (by decide +kernel); unfold F_feed; (repeat (first | rw [if_pos (by omega)] | rw [if_neg (by omega)])))) dX10_feed_12
  · skip
    refine lv_iload_n hx hb dX10_feed_5 rfl (lv_at hl 2 rfl) ?_
    refine lv_bipush (v := 8) hx hb dX10_feed_6 (by decide) ?_
    refine lv_icmp_le (tgt := 13) hx hb dX10_feed_8 (by decide) (fun c_2 => ?_) (fun c_2 => ?_)
    · skip
      refine lv_aload_n hx hb dX10_feed_13 rfl (lv_at hl 0 rfl) ?_
      refine va_get (D := D) (ci := 7) (v := .ref a5) (C := RX10) (T := TX10) (N := 17) hx hb hU iX10 hown hK.1 hP 0 rfl rfl 3 (by decide) (hU _ w252) (fun _ h9 => h9) rfl dX10_feed_14 ?_
      refine va_get (D := D) (ci := 6) (v := .int 0) (C := RX9) (T := TX9) (N := 5) hx hb hU iX9 hown hK.1 hP 1 rfl rfl 1 (by decide) (hU _ w122) (fun _ h9 => h9) rfl dX10_feed_17 ?_
      refine lv_iload_n hx hb dX10_feed_20 rfl (lv_at hl 2 rfl) ?_
      refine lv_iadd hx hb dX10_feed_21 (sv_i (v := x1) (by simp) ?_)
      refine lv_bipush (v := 120) hx hb dX10_feed_22 (by decide) ?_
      have hsp : x1.toInt = 1 ∨ x1.toInt = 2 ∨ x1.toInt = 3 ∨ x1.toInt = 4 ∨ x1.toInt = 5 ∨ x1.toInt = 6 ∨ x1.toInt = 7 ∨ x1.toInt = 8 := by
        have f0 := cv_nlt (x := x1.toInt) (y := 1) c_1 rfl (by decide +kernel)
        have f1 := cv_le (x := x1.toInt) (y := 8) c_2 rfl (by decide +kernel)
        omega
      rcases hsp with hsp | hsp | hsp | hsp | hsp | hsp | hsp | hsp
      · skip
        obtain rfl : x1 = 1 := eq32 hsp (by decide +kernel)
        refine lv_icmp_le (tgt := 30) hx hb dX10_feed_24 (by decide) (fun _ => ?_) (fun cc => absurd (by decide +kernel) cc)
        refine lv_aload_n hx hb dX10_feed_30 rfl (lv_at hl 0 rfl) ?_
        refine va_get (D := D) (ci := 7) (v := .ref a5) (C := RX10) (T := TX10) (N := 17) hx hb hU iX10 hown hK.1 hP 0 rfl rfl 3 (by decide) (hU _ w252) (fun _ h9 => h9) rfl dX10_feed_31 ?_
        refine lv_lload_n hx hb dX10_feed_34 rfl (lv_at hl 1 rfl) ?_
        refine lv_iload_n hx hb dX10_feed_35 rfl (lv_at hl 2 rfl) ?_
        refine cV (rV (q0 := 1) (ci := 6) (As := [.long x0, .int 1]) (rest := []) (wc := [(a5, .inr (6, [.ref a6, .int 0, .int 0, .int 0, .ref a7])), (a6, .inl (k 2, 120, .inl (tI [] 0)))]) hx hb hml hown hU hK hP hD rfl rfl [1, 2] rfl (by decide) (cX9_receive_1 l D k _ a5 a6 a7 (x0)) w452 w449 w450 w451 w65 hdX9_receive ⟨rfl, rfl⟩ ⟨Nat.le_of_ble_eq_true rfl, Nat.le_of_ble_eq_true rfl⟩ rfl hl.1 (Nat.le_of_ble_eq_true rfl) dX10_feed_36 ⟨Nat.le_of_ble_eq_true rfl, Nat.le_of_ble_eq_true rfl⟩) hP hD hS hA (wr := [(a0, .inr (7, [.ref a1, .ref a3, .int 0, .ref a5, .ref a8, .ref a9, .int 0, .ref a18, .int 0, .null, .ref a27, .int 0, .ref a28, .ref a29, .ref a30, .ref a31, .ref a32]))]) [1, 2] [0] rfl rfl (by decide) (by decide) (fun H locs hB J hS => ?_)
        obtain ⟨hP1, hD1⟩ := hB
        obtain ⟨hP, hD⟩ := J _ hP1 hD1
        have hP : va_P D cl0 [(a0, .inr (7, [.ref a1, .ref a3, .int 0, .ref a5, .ref a8, .ref a9, .int 0, .ref a18, .int 0, .null, .ref a27, .int 0, .ref a28, .ref a29, .ref a30, .ref a31, .ref a32])), (a5, .inr (6, [.ref a6, .int 1, .int 0, .int 0, .ref a7]))] H := hP
        have hD : va_D A [(a0, .inr (7, [.ref a1, .ref a3, .int 0, .ref a5, .ref a8, .ref a9, .int 0, .ref a18, .int 0, .null, .ref a27, .int 0, .ref a28, .ref a29, .ref a30, .ref a31, .ref a32])), (a5, .inr (6, [.ref a6, .int 1, .int 0, .int 0, .ref a7]))] := hD
        refine lv_aload_n hx hb dX10_feed_39 rfl (lv_at hl 0 rfl) ?_
        refine va_get (D := D) (ci := 7) (v := .ref a5) (C := RX10) (T := TX10) (N := 17) hx hb hU iX10 hown hK.1 hP 0 rfl rfl 3 (by decide) (hU _ w252) (fun _ h9 => h9) rfl dX10_feed_40 ?_
        refine va_get (D := D) (ci := 6) (v := .int 1) (C := RX9) (T := TX9) (N := 5) hx hb hU iX9 hown hK.1 hP 1 rfl rfl 1 (by decide) (hU _ w122) (fun _ h9 => h9) rfl dX10_feed_43 ?_
        exact retI (v := 1) hx hb hr hlocks hS (show (1 : Int32) = F_feed x0 1 by first | decide +kernel | (have g_1 : (1 : Int32).toInt = 1 := (by decide +kernel); unfold F_feed; (repeat (first | rw [if_pos (by omega)] | rw [if_neg (by omega)])))) dX10_feed_46
      · skip
        obtain rfl : x1 = 2 := eq32 hsp (by decide +kernel)
        refine lv_icmp_le (tgt := 30) hx hb dX10_feed_24 (by decide) (fun _ => ?_) (fun cc => absurd (by decide +kernel) cc)
        refine lv_aload_n hx hb dX10_feed_30 rfl (lv_at hl 0 rfl) ?_
        refine va_get (D := D) (ci := 7) (v := .ref a5) (C := RX10) (T := TX10) (N := 17) hx hb hU iX10 hown hK.1 hP 0 rfl rfl 3 (by decide) (hU _ w252) (fun _ h9 => h9) rfl dX10_feed_31 ?_
        refine lv_lload_n hx hb dX10_feed_34 rfl (lv_at hl 1 rfl) ?_
        refine lv_iload_n hx hb dX10_feed_35 rfl (lv_at hl 2 rfl) ?_
        refine cV (rV (q0 := 1) (ci := 6) (As := [.long x0, .int 2]) (rest := []) (wc := [(a5, .inr (6, [.ref a6, .int 0, .int 0, .int 0, .ref a7])), (a6, .inl (k 2, 120, .inl (tI [] 0)))]) hx hb hml hown hU hK hP hD rfl rfl [1, 2] rfl (by decide) (cX9_receive_2 l D k _ a5 a6 a7 (x0)) w452 w449 w450 w451 w65 hdX9_receive ⟨rfl, rfl⟩ ⟨Nat.le_of_ble_eq_true rfl, Nat.le_of_ble_eq_true rfl⟩ rfl hl.1 (Nat.le_of_ble_eq_true rfl) dX10_feed_36 ⟨Nat.le_of_ble_eq_true rfl, Nat.le_of_ble_eq_true rfl⟩) hP hD hS hA (wr := [(a0, .inr (7, [.ref a1, .ref a3, .int 0, .ref a5, .ref a8, .ref a9, .int 0, .ref a18, .int 0, .null, .ref a27, .int 0, .ref a28, .ref a29, .ref a30, .ref a31, .ref a32]))]) [1, 2] [0] rfl rfl (by decide) (by decide) (fun H locs hB J hS => ?_)
        obtain ⟨hP1, hD1⟩ := hB
        obtain ⟨hP, hD⟩ := J _ hP1 hD1
        have hP : va_P D cl0 [(a0, .inr (7, [.ref a1, .ref a3, .int 0, .ref a5, .ref a8, .ref a9, .int 0, .ref a18, .int 0, .null, .ref a27, .int 0, .ref a28, .ref a29, .ref a30, .ref a31, .ref a32])), (a5, .inr (6, [.ref a6, .int 2, .int 0, .int 0, .ref a7]))] H := hP
        have hD : va_D A [(a0, .inr (7, [.ref a1, .ref a3, .int 0, .ref a5, .ref a8, .ref a9, .int 0, .ref a18, .int 0, .null, .ref a27, .int 0, .ref a28, .ref a29, .ref a30, .ref a31, .ref a32])), (a5, .inr (6, [.ref a6, .int 2, .int 0, .int 0, .ref a7]))] := hD
        refine lv_aload_n hx hb dX10_feed_39 rfl (lv_at hl 0 rfl) ?_
        refine va_get (D := D) (ci := 7) (v := .ref a5) (C := RX10) (T := TX10) (N := 17) hx hb hU iX10 hown hK.1 hP 0 rfl rfl 3 (by decide) (hU _ w252) (fun _ h9 => h9) rfl dX10_feed_40 ?_
        refine va_get (D := D) (ci := 6) (v := .int 2) (C := RX9) (T := TX9) (N := 5) hx hb hU iX9 hown hK.1 hP 1 rfl rfl 1 (by decide) (hU _ w122) (fun _ h9 => h9) rfl dX10_feed_43 ?_
        exact retI (v := 2) hx hb hr hlocks hS (show (2 : Int32) = F_feed x0 2 by first | decide +kernel | (have g_2 : (2 : Int32).toInt = 2 := (by decide +kernel); unfold F_feed; (repeat (first | rw [if_pos (by omega)] | rw [if_neg (by omega)])))) dX10_feed_46
      · skip
        obtain rfl : x1 = 3 := eq32 hsp (by decide +kernel)
        refine lv_icmp_le (tgt := 30) hx hb dX10_feed_24 (by decide) (fun _ => ?_) (fun cc => absurd (by decide +kernel) cc)
        refine lv_aload_n hx hb dX10_feed_30 rfl (lv_at hl 0 rfl) ?_
        refine va_get (D := D) (ci := 7) (v := .ref a5) (C := RX10) (T := TX10) (N := 17) hx hb hU iX10 hown hK.1 hP 0 rfl rfl 3 (by decide) (hU _ w252) (fun _ h9 => h9) rfl dX10_feed_31 ?_
        refine lv_lload_n hx hb dX10_feed_34 rfl (lv_at hl 1 rfl) ?_
        refine lv_iload_n hx hb dX10_feed_35 rfl (lv_at hl 2 rfl) ?_
        refine cV (rV (q0 := 1) (ci := 6) (As := [.long x0, .int 3]) (rest := []) (wc := [(a5, .inr (6, [.ref a6, .int 0, .int 0, .int 0, .ref a7])), (a6, .inl (k 2, 120, .inl (tI [] 0)))]) hx hb hml hown hU hK hP hD rfl rfl [1, 2] rfl (by decide) (cX9_receive_3 l D k _ a5 a6 a7 (x0)) w452 w449 w450 w451 w65 hdX9_receive ⟨rfl, rfl⟩ ⟨Nat.le_of_ble_eq_true rfl, Nat.le_of_ble_eq_true rfl⟩ rfl hl.1 (Nat.le_of_ble_eq_true rfl) dX10_feed_36 ⟨Nat.le_of_ble_eq_true rfl, Nat.le_of_ble_eq_true rfl⟩) hP hD hS hA (wr := [(a0, .inr (7, [.ref a1, .ref a3, .int 0, .ref a5, .ref a8, .ref a9, .int 0, .ref a18, .int 0, .null, .ref a27, .int 0, .ref a28, .ref a29, .ref a30, .ref a31, .ref a32]))]) [1, 2] [0] rfl rfl (by decide) (by decide) (fun H locs hB J hS => ?_)
        obtain ⟨hP1, hD1⟩ := hB
        obtain ⟨hP, hD⟩ := J _ hP1 hD1
        have hP : va_P D cl0 [(a0, .inr (7, [.ref a1, .ref a3, .int 0, .ref a5, .ref a8, .ref a9, .int 0, .ref a18, .int 0, .null, .ref a27, .int 0, .ref a28, .ref a29, .ref a30, .ref a31, .ref a32])), (a5, .inr (6, [.ref a6, .int 3, .int 0, .int 0, .ref a7]))] H := hP
        have hD : va_D A [(a0, .inr (7, [.ref a1, .ref a3, .int 0, .ref a5, .ref a8, .ref a9, .int 0, .ref a18, .int 0, .null, .ref a27, .int 0, .ref a28, .ref a29, .ref a30, .ref a31, .ref a32])), (a5, .inr (6, [.ref a6, .int 3, .int 0, .int 0, .ref a7]))] := hD
        refine lv_aload_n hx hb dX10_feed_39 rfl (lv_at hl 0 rfl) ?_
        refine va_get (D := D) (ci := 7) (v := .ref a5) (C := RX10) (T := TX10) (N := 17) hx hb hU iX10 hown hK.1 hP 0 rfl rfl 3 (by decide) (hU _ w252) (fun _ h9 => h9) rfl dX10_feed_40 ?_
        refine va_get (D := D) (ci := 6) (v := .int 3) (C := RX9) (T := TX9) (N := 5) hx hb hU iX9 hown hK.1 hP 1 rfl rfl 1 (by decide) (hU _ w122) (fun _ h9 => h9) rfl dX10_feed_43 ?_
        exact retI (v := 3) hx hb hr hlocks hS (show (3 : Int32) = F_feed x0 3 by first | decide +kernel | (have g_3 : (3 : Int32).toInt = 3 := (by decide +kernel); unfold F_feed; (repeat (first | rw [if_pos (by omega)] | rw [if_neg (by omega)])))) dX10_feed_46
      · skip
        obtain rfl : x1 = 4 := eq32 hsp (by decide +kernel)
        refine lv_icmp_le (tgt := 30) hx hb dX10_feed_24 (by decide) (fun _ => ?_) (fun cc => absurd (by decide +kernel) cc)
        refine lv_aload_n hx hb dX10_feed_30 rfl (lv_at hl 0 rfl) ?_
        refine va_get (D := D) (ci := 7) (v := .ref a5) (C := RX10) (T := TX10) (N := 17) hx hb hU iX10 hown hK.1 hP 0 rfl rfl 3 (by decide) (hU _ w252) (fun _ h9 => h9) rfl dX10_feed_31 ?_
        refine lv_lload_n hx hb dX10_feed_34 rfl (lv_at hl 1 rfl) ?_
        refine lv_iload_n hx hb dX10_feed_35 rfl (lv_at hl 2 rfl) ?_
        refine cV (rV (q0 := 1) (ci := 6) (As := [.long x0, .int 4]) (rest := []) (wc := [(a5, .inr (6, [.ref a6, .int 0, .int 0, .int 0, .ref a7])), (a6, .inl (k 2, 120, .inl (tI [] 0)))]) hx hb hml hown hU hK hP hD rfl rfl [1, 2] rfl (by decide) (cX9_receive_4 l D k _ a5 a6 a7 (x0)) w452 w449 w450 w451 w65 hdX9_receive ⟨rfl, rfl⟩ ⟨Nat.le_of_ble_eq_true rfl, Nat.le_of_ble_eq_true rfl⟩ rfl hl.1 (Nat.le_of_ble_eq_true rfl) dX10_feed_36 ⟨Nat.le_of_ble_eq_true rfl, Nat.le_of_ble_eq_true rfl⟩) hP hD hS hA (wr := [(a0, .inr (7, [.ref a1, .ref a3, .int 0, .ref a5, .ref a8, .ref a9, .int 0, .ref a18, .int 0, .null, .ref a27, .int 0, .ref a28, .ref a29, .ref a30, .ref a31, .ref a32]))]) [1, 2] [0] rfl rfl (by decide) (by decide) (fun H locs hB J hS => ?_)
        obtain ⟨hP1, hD1⟩ := hB
        obtain ⟨hP, hD⟩ := J _ hP1 hD1
        have hP : va_P D cl0 [(a0, .inr (7, [.ref a1, .ref a3, .int 0, .ref a5, .ref a8, .ref a9, .int 0, .ref a18, .int 0, .null, .ref a27, .int 0, .ref a28, .ref a29, .ref a30, .ref a31, .ref a32])), (a5, .inr (6, [.ref a6, .int 4, .int 0, .int 0, .ref a7]))] H := hP
        have hD : va_D A [(a0, .inr (7, [.ref a1, .ref a3, .int 0, .ref a5, .ref a8, .ref a9, .int 0, .ref a18, .int 0, .null, .ref a27, .int 0, .ref a28, .ref a29, .ref a30, .ref a31, .ref a32])), (a5, .inr (6, [.ref a6, .int 4, .int 0, .int 0, .ref a7]))] := hD
        refine lv_aload_n hx hb dX10_feed_39 rfl (lv_at hl 0 rfl) ?_
        refine va_get (D := D) (ci := 7) (v := .ref a5) (C := RX10) (T := TX10) (N := 17) hx hb hU iX10 hown hK.1 hP 0 rfl rfl 3 (by decide) (hU _ w252) (fun _ h9 => h9) rfl dX10_feed_40 ?_
        refine va_get (D := D) (ci := 6) (v := .int 4) (C := RX9) (T := TX9) (N := 5) hx hb hU iX9 hown hK.1 hP 1 rfl rfl 1 (by decide) (hU _ w122) (fun _ h9 => h9) rfl dX10_feed_43 ?_
        exact retI (v := 4) hx hb hr hlocks hS (show (4 : Int32) = F_feed x0 4 by first | decide +kernel | (have g_4 : (4 : Int32).toInt = 4 := (by decide +kernel); unfold F_feed; (repeat (first | rw [if_pos (by omega)] | rw [if_neg (by omega)])))) dX10_feed_46
      · skip
        obtain rfl : x1 = 5 := eq32 hsp (by decide +kernel)
        refine lv_icmp_le (tgt := 30) hx hb dX10_feed_24 (by decide) (fun _ => ?_) (fun cc => absurd (by decide +kernel) cc)
        refine lv_aload_n hx hb dX10_feed_30 rfl (lv_at hl 0 rfl) ?_
        refine va_get (D := D) (ci := 7) (v := .ref a5) (C := RX10) (T := TX10) (N := 17) hx hb hU iX10 hown hK.1 hP 0 rfl rfl 3 (by decide) (hU _ w252) (fun _ h9 => h9) rfl dX10_feed_31 ?_
        refine lv_lload_n hx hb dX10_feed_34 rfl (lv_at hl 1 rfl) ?_
        refine lv_iload_n hx hb dX10_feed_35 rfl (lv_at hl 2 rfl) ?_
        refine cV (rV (q0 := 1) (ci := 6) (As := [.long x0, .int 5]) (rest := []) (wc := [(a5, .inr (6, [.ref a6, .int 0, .int 0, .int 0, .ref a7])), (a6, .inl (k 2, 120, .inl (tI [] 0)))]) hx hb hml hown hU hK hP hD rfl rfl [1, 2] rfl (by decide) (cX9_receive_5 l D k _ a5 a6 a7 (x0)) w452 w449 w450 w451 w65 hdX9_receive ⟨rfl, rfl⟩ ⟨Nat.le_of_ble_eq_true rfl, Nat.le_of_ble_eq_true rfl⟩ rfl hl.1 (Nat.le_of_ble_eq_true rfl) dX10_feed_36 ⟨Nat.le_of_ble_eq_true rfl, Nat.le_of_ble_eq_true rfl⟩) hP hD hS hA (wr := [(a0, .inr (7, [.ref a1, .ref a3, .int 0, .ref a5, .ref a8, .ref a9, .int 0, .ref a18, .int 0, .null, .ref a27, .int 0, .ref a28, .ref a29, .ref a30, .ref a31, .ref a32]))]) [1, 2] [0] rfl rfl (by decide) (by decide) (fun H locs hB J hS => ?_)
        obtain ⟨hP1, hD1⟩ := hB
        obtain ⟨hP, hD⟩ := J _ hP1 hD1
        have hP : va_P D cl0 [(a0, .inr (7, [.ref a1, .ref a3, .int 0, .ref a5, .ref a8, .ref a9, .int 0, .ref a18, .int 0, .null, .ref a27, .int 0, .ref a28, .ref a29, .ref a30, .ref a31, .ref a32])), (a5, .inr (6, [.ref a6, .int 5, .int 0, .int 0, .ref a7]))] H := hP
        have hD : va_D A [(a0, .inr (7, [.ref a1, .ref a3, .int 0, .ref a5, .ref a8, .ref a9, .int 0, .ref a18, .int 0, .null, .ref a27, .int 0, .ref a28, .ref a29, .ref a30, .ref a31, .ref a32])), (a5, .inr (6, [.ref a6, .int 5, .int 0, .int 0, .ref a7]))] := hD
        refine lv_aload_n hx hb dX10_feed_39 rfl (lv_at hl 0 rfl) ?_
        refine va_get (D := D) (ci := 7) (v := .ref a5) (C := RX10) (T := TX10) (N := 17) hx hb hU iX10 hown hK.1 hP 0 rfl rfl 3 (by decide) (hU _ w252) (fun _ h9 => h9) rfl dX10_feed_40 ?_
        refine va_get (D := D) (ci := 6) (v := .int 5) (C := RX9) (T := TX9) (N := 5) hx hb hU iX9 hown hK.1 hP 1 rfl rfl 1 (by decide) (hU _ w122) (fun _ h9 => h9) rfl dX10_feed_43 ?_
        exact retI (v := 5) hx hb hr hlocks hS (show (5 : Int32) = F_feed x0 5 by first | decide +kernel | (have g_5 : (5 : Int32).toInt = 5 := (by decide +kernel); unfold F_feed; (repeat (first | rw [if_pos (by omega)] | rw [if_neg (by omega)])))) dX10_feed_46
      · skip
        obtain rfl : x1 = 6 := eq32 hsp (by decide +kernel)
        refine lv_icmp_le (tgt := 30) hx hb dX10_feed_24 (by decide) (fun _ => ?_) (fun cc => absurd (by decide +kernel) cc)
        refine lv_aload_n hx hb dX10_feed_30 rfl (lv_at hl 0 rfl) ?_
        refine va_get (D := D) (ci := 7) (v := .ref a5) (C := RX10) (T := TX10) (N := 17) hx hb hU iX10 hown hK.1 hP 0 rfl rfl 3 (by decide) (hU _ w252) (fun _ h9 => h9) rfl dX10_feed_31 ?_
        refine lv_lload_n hx hb dX10_feed_34 rfl (lv_at hl 1 rfl) ?_
        refine lv_iload_n hx hb dX10_feed_35 rfl (lv_at hl 2 rfl) ?_
        refine cV (rV (q0 := 1) (ci := 6) (As := [.long x0, .int 6]) (rest := []) (wc := [(a5, .inr (6, [.ref a6, .int 0, .int 0, .int 0, .ref a7])), (a6, .inl (k 2, 120, .inl (tI [] 0)))]) hx hb hml hown hU hK hP hD rfl rfl [1, 2] rfl (by decide) (cX9_receive_6 l D k _ a5 a6 a7 (x0)) w452 w449 w450 w451 w65 hdX9_receive ⟨rfl, rfl⟩ ⟨Nat.le_of_ble_eq_true rfl, Nat.le_of_ble_eq_true rfl⟩ rfl hl.1 (Nat.le_of_ble_eq_true rfl) dX10_feed_36 ⟨Nat.le_of_ble_eq_true rfl, Nat.le_of_ble_eq_true rfl⟩) hP hD hS hA (wr := [(a0, .inr (7, [.ref a1, .ref a3, .int 0, .ref a5, .ref a8, .ref a9, .int 0, .ref a18, .int 0, .null, .ref a27, .int 0, .ref a28, .ref a29, .ref a30, .ref a31, .ref a32]))]) [1, 2] [0] rfl rfl (by decide) (by decide) (fun H locs hB J hS => ?_)
        obtain ⟨hP1, hD1⟩ := hB
        obtain ⟨hP, hD⟩ := J _ hP1 hD1
        have hP : va_P D cl0 [(a0, .inr (7, [.ref a1, .ref a3, .int 0, .ref a5, .ref a8, .ref a9, .int 0, .ref a18, .int 0, .null, .ref a27, .int 0, .ref a28, .ref a29, .ref a30, .ref a31, .ref a32])), (a5, .inr (6, [.ref a6, .int 6, .int 0, .int 0, .ref a7]))] H := hP
        have hD : va_D A [(a0, .inr (7, [.ref a1, .ref a3, .int 0, .ref a5, .ref a8, .ref a9, .int 0, .ref a18, .int 0, .null, .ref a27, .int 0, .ref a28, .ref a29, .ref a30, .ref a31, .ref a32])), (a5, .inr (6, [.ref a6, .int 6, .int 0, .int 0, .ref a7]))] := hD
        refine lv_aload_n hx hb dX10_feed_39 rfl (lv_at hl 0 rfl) ?_
        refine va_get (D := D) (ci := 7) (v := .ref a5) (C := RX10) (T := TX10) (N := 17) hx hb hU iX10 hown hK.1 hP 0 rfl rfl 3 (by decide) (hU _ w252) (fun _ h9 => h9) rfl dX10_feed_40 ?_
        refine va_get (D := D) (ci := 6) (v := .int 6) (C := RX9) (T := TX9) (N := 5) hx hb hU iX9 hown hK.1 hP 1 rfl rfl 1 (by decide) (hU _ w122) (fun _ h9 => h9) rfl dX10_feed_43 ?_
        exact retI (v := 6) hx hb hr hlocks hS (show (6 : Int32) = F_feed x0 6 by first | decide +kernel | (have g_6 : (6 : Int32).toInt = 6 := (by decide +kernel); unfold F_feed; (repeat (first | rw [if_pos (by omega)] | rw [if_neg (by omega)])))) dX10_feed_46
      · skip
        obtain rfl : x1 = 7 := eq32 hsp (by decide +kernel)
        refine lv_icmp_le (tgt := 30) hx hb dX10_feed_24 (by decide) (fun _ => ?_) (fun cc => absurd (by decide +kernel) cc)
        refine lv_aload_n hx hb dX10_feed_30 rfl (lv_at hl 0 rfl) ?_
        refine va_get (D := D) (ci := 7) (v := .ref a5) (C := RX10) (T := TX10) (N := 17) hx hb hU iX10 hown hK.1 hP 0 rfl rfl 3 (by decide) (hU _ w252) (fun _ h9 => h9) rfl dX10_feed_31 ?_
        refine lv_lload_n hx hb dX10_feed_34 rfl (lv_at hl 1 rfl) ?_
        refine lv_iload_n hx hb dX10_feed_35 rfl (lv_at hl 2 rfl) ?_
        refine cV (rV (q0 := 1) (ci := 6) (As := [.long x0, .int 7]) (rest := []) (wc := [(a5, .inr (6, [.ref a6, .int 0, .int 0, .int 0, .ref a7])), (a6, .inl (k 2, 120, .inl (tI [] 0)))]) hx hb hml hown hU hK hP hD rfl rfl [1, 2] rfl (by decide) (cX9_receive_7 l D k _ a5 a6 a7 (x0)) w452 w449 w450 w451 w65 hdX9_receive ⟨rfl, rfl⟩ ⟨Nat.le_of_ble_eq_true rfl, Nat.le_of_ble_eq_true rfl⟩ rfl hl.1 (Nat.le_of_ble_eq_true rfl) dX10_feed_36 ⟨Nat.le_of_ble_eq_true rfl, Nat.le_of_ble_eq_true rfl⟩) hP hD hS hA (wr := [(a0, .inr (7, [.ref a1, .ref a3, .int 0, .ref a5, .ref a8, .ref a9, .int 0, .ref a18, .int 0, .null, .ref a27, .int 0, .ref a28, .ref a29, .ref a30, .ref a31, .ref a32]))]) [1, 2] [0] rfl rfl (by decide) (by decide) (fun H locs hB J hS => ?_)
        obtain ⟨hP1, hD1⟩ := hB
        obtain ⟨hP, hD⟩ := J _ hP1 hD1
        have hP : va_P D cl0 [(a0, .inr (7, [.ref a1, .ref a3, .int 0, .ref a5, .ref a8, .ref a9, .int 0, .ref a18, .int 0, .null, .ref a27, .int 0, .ref a28, .ref a29, .ref a30, .ref a31, .ref a32])), (a5, .inr (6, [.ref a6, .int 7, .int 0, .int 0, .ref a7]))] H := hP
        have hD : va_D A [(a0, .inr (7, [.ref a1, .ref a3, .int 0, .ref a5, .ref a8, .ref a9, .int 0, .ref a18, .int 0, .null, .ref a27, .int 0, .ref a28, .ref a29, .ref a30, .ref a31, .ref a32])), (a5, .inr (6, [.ref a6, .int 7, .int 0, .int 0, .ref a7]))] := hD
        refine lv_aload_n hx hb dX10_feed_39 rfl (lv_at hl 0 rfl) ?_
        refine va_get (D := D) (ci := 7) (v := .ref a5) (C := RX10) (T := TX10) (N := 17) hx hb hU iX10 hown hK.1 hP 0 rfl rfl 3 (by decide) (hU _ w252) (fun _ h9 => h9) rfl dX10_feed_40 ?_
        refine va_get (D := D) (ci := 6) (v := .int 7) (C := RX9) (T := TX9) (N := 5) hx hb hU iX9 hown hK.1 hP 1 rfl rfl 1 (by decide) (hU _ w122) (fun _ h9 => h9) rfl dX10_feed_43 ?_
        exact retI (v := 7) hx hb hr hlocks hS (show (7 : Int32) = F_feed x0 7 by first | decide +kernel | (have g_7 : (7 : Int32).toInt = 7 := (by decide +kernel); unfold F_feed; (repeat (first | rw [if_pos (by omega)] | rw [if_neg (by omega)])))) dX10_feed_46
      · skip
        obtain rfl : x1 = 8 := eq32 hsp (by decide +kernel)
        refine lv_icmp_le (tgt := 30) hx hb dX10_feed_24 (by decide) (fun _ => ?_) (fun cc => absurd (by decide +kernel) cc)
        refine lv_aload_n hx hb dX10_feed_30 rfl (lv_at hl 0 rfl) ?_
        refine va_get (D := D) (ci := 7) (v := .ref a5) (C := RX10) (T := TX10) (N := 17) hx hb hU iX10 hown hK.1 hP 0 rfl rfl 3 (by decide) (hU _ w252) (fun _ h9 => h9) rfl dX10_feed_31 ?_
        refine lv_lload_n hx hb dX10_feed_34 rfl (lv_at hl 1 rfl) ?_
        refine lv_iload_n hx hb dX10_feed_35 rfl (lv_at hl 2 rfl) ?_
        refine cV (rV (q0 := 1) (ci := 6) (As := [.long x0, .int 8]) (rest := []) (wc := [(a5, .inr (6, [.ref a6, .int 0, .int 0, .int 0, .ref a7])), (a6, .inl (k 2, 120, .inl (tI [] 0)))]) hx hb hml hown hU hK hP hD rfl rfl [1, 2] rfl (by decide) (cX9_receive_8 l D k _ a5 a6 a7 (x0)) w452 w449 w450 w451 w65 hdX9_receive ⟨rfl, rfl⟩ ⟨Nat.le_of_ble_eq_true rfl, Nat.le_of_ble_eq_true rfl⟩ rfl hl.1 (Nat.le_of_ble_eq_true rfl) dX10_feed_36 ⟨Nat.le_of_ble_eq_true rfl, Nat.le_of_ble_eq_true rfl⟩) hP hD hS hA (wr := [(a0, .inr (7, [.ref a1, .ref a3, .int 0, .ref a5, .ref a8, .ref a9, .int 0, .ref a18, .int 0, .null, .ref a27, .int 0, .ref a28, .ref a29, .ref a30, .ref a31, .ref a32]))]) [1, 2] [0] rfl rfl (by decide) (by decide) (fun H locs hB J hS => ?_)
        obtain ⟨hP1, hD1⟩ := hB
        obtain ⟨hP, hD⟩ := J _ hP1 hD1
        have hP : va_P D cl0 [(a0, .inr (7, [.ref a1, .ref a3, .int 0, .ref a5, .ref a8, .ref a9, .int 0, .ref a18, .int 0, .null, .ref a27, .int 0, .ref a28, .ref a29, .ref a30, .ref a31, .ref a32])), (a5, .inr (6, [.ref a6, .int 8, .int 0, .int 0, .ref a7]))] H := hP
        have hD : va_D A [(a0, .inr (7, [.ref a1, .ref a3, .int 0, .ref a5, .ref a8, .ref a9, .int 0, .ref a18, .int 0, .null, .ref a27, .int 0, .ref a28, .ref a29, .ref a30, .ref a31, .ref a32])), (a5, .inr (6, [.ref a6, .int 8, .int 0, .int 0, .ref a7]))] := hD
        refine lv_aload_n hx hb dX10_feed_39 rfl (lv_at hl 0 rfl) ?_
        refine va_get (D := D) (ci := 7) (v := .ref a5) (C := RX10) (T := TX10) (N := 17) hx hb hU iX10 hown hK.1 hP 0 rfl rfl 3 (by decide) (hU _ w252) (fun _ h9 => h9) rfl dX10_feed_40 ?_
        refine va_get (D := D) (ci := 6) (v := .int 8) (C := RX9) (T := TX9) (N := 5) hx hb hU iX9 hown hK.1 hP 1 rfl rfl 1 (by decide) (hU _ w122) (fun _ h9 => h9) rfl dX10_feed_43 ?_
        exact retI (v := 8) hx hb hr hlocks hS (show (8 : Int32) = F_feed x0 8 by first | decide +kernel | (have g_8 : (8 : Int32).toInt = 8 := (by decide +kernel); unfold F_feed; (repeat (first | rw [if_pos (by omega)] | rw [if_neg (by omega)])))) dX10_feed_46
    · skip
      refine lv_iconst (v := (-1)) hx hb dX10_feed_11 (by decide) ?_
      exact retI (v := (-1)) hx hb hr hlocks hS (show ((-1) : Int32) = F_feed x0 x1 by first | decide +kernel | (have f0 := cv_nlt (x := x1.toInt) (y := 1) c_1 rfl (by decide +kernel); have f1 := cv_nle (x := x1.toInt) (y := 8) c_2 rfl (by decide +kernel); unfold F_feed; (repeat (first | rw [if_pos (by omega)] | rw [if_neg (by omega)])))) dX10_feed_12
