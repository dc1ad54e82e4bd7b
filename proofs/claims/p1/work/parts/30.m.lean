abbrev BX11_in_1 (D : va_G) (k : Nat → ClassId) (x0 : Int64) (A : Nat → Prop) (r : Int32) (H : Heap) : Prop := (x0 < 1 ∧ 0 = r ∧ va_P D cl0 [] H ∧ va_D A []) ∨ (¬ (x0 < 1) ∧ 3 < x0 ∧ 0 = r ∧ va_P D cl0 [] H ∧ va_D A []) ∨ (¬ (x0 < 1) ∧ ¬ (3 < x0) ∧ 1 = r ∧ va_P D cl0 [] H ∧ va_D A [])
set_option maxHeartbeats 4000000 in
set_option maxRecDepth 100000 in
theorem cX11_in_1 (l : Launch) (D : va_G) (k : Nat → ClassId) (sz : Nat) (x0 : Int64) : Met l yX11_in (Cond.code yX11_in cX11_in 6 (some .boolean) :: uw) ({ frames := 0, cells := 0, slots := 0, locals := 0 }) (pC D k sz [.long x0, .long 1, .long 3] []) (qI (BX11_in_1 D k x0 (va_A [] sz)) (va_A [] sz)) 0 0 (va_A [] sz) := by
  refine begin_ (Qc := fun A => qI (BX11_in_1 D k x0 A) A) (by decide) (Nat.le_of_ble_eq_true rfl) ?_
  intro p e s m below meth c ls A hx hb hr hml hown hlocks hin hU hK hsz hP hD hS hA hl
  have hl : lv_has ls 6 [(0, .long x0), (2, .long 1), (4, .long 3)] := hl
  clear hsz
  refine lv_lload_n hx hb dX11_in_0 rfl (lv_at hl 0 rfl) ?_
  refine lv_lload_n hx hb dX11_in_1 rfl (lv_at hl 1 rfl) ?_
  refine W.lcmp hx hb dX11_in_2 ?_
  refine lv_if_lt (tgt := 17) hx hb dX11_in_3 (by decide) (fun c_1 => ?_) (fun c_1 => ?_)
  · skip
    have c_1 := (lg_cmp_lt _ _).mp c_1
    refine lv_iconst (v := 0) hx hb dX11_in_17 (by decide) ?_
    exact retZ (v := 0) hx hb hr hlocks hS (Or.inl ⟨c_1, rfl, hP, hD⟩) dX11_in_18 (by decide +kernel)
  · skip
    have c_1 := fun h9 => c_1 ((lg_cmp_lt _ _).mpr h9)
    refine lv_lload_n hx hb dX11_in_6 rfl (lv_at hl 0 rfl) ?_
    refine lv_lload hx hb dX11_in_7 (lv_at hl 2 rfl) ?_
    refine W.lcmp hx hb dX11_in_9 ?_
    refine lv_if_gt (tgt := 17) hx hb dX11_in_10 (by decide) (fun c_2 => ?_) (fun c_2 => ?_)
    · skip
      have c_2 := (lg_cmp_gt _ _).mp c_2
      refine lv_iconst (v := 0) hx hb dX11_in_17 (by decide) ?_
      exact retZ (v := 0) hx hb hr hlocks hS (Or.inr (Or.inl ⟨c_1, c_2, rfl, hP, hD⟩)) dX11_in_18 (by decide +kernel)
    · skip
      have c_2 := fun h9 => c_2 ((lg_cmp_gt _ _).mpr h9)
      refine lv_iconst (v := 1) hx hb dX11_in_13 (by decide) ?_
      refine lv_goto (tgt := 18) hx hb dX11_in_14 (by decide) ?_
      exact retZ (v := 1) hx hb hr hlocks hS (Or.inr (Or.inr (⟨c_1, c_2, rfl, hP, hD⟩))) dX11_in_18 (by decide +kernel)
abbrev BX11_size_1 (D : va_G) (k : Nat → ClassId) (a0 a1 a2 a3 a4 a5 a6 a7 a8 a9 a10 a11 a12 a13 a14 a15 a16 a17 a18 a19 a20 a21 : Nat) (x0 : Int32) (A : Nat → Prop) (r : Int32) (H : Heap) : Prop := r = F_size x0
set_option maxHeartbeats 4000000 in
set_option maxRecDepth 100000 in
theorem cX11_size_1 (l : Launch) (D : va_G) (k : Nat → ClassId) (sz : Nat) (a0 a1 a2 a3 a4 a5 a6 a7 a8 a9 a10 a11 a12 a13 a14 a15 a16 a17 a18 a19 a20 a21 : Nat) (x0 : Int32) : Met l yX11_size (Cond.code yX11_size cX11_size 3 (some .int) :: uw) ({ frames := 1, cells := 0, slots := 0, locals := 25 }) (pC D k sz [.ref a0, .int x0] [(a0, .inr (8, [.int 2, .int 0, .int 1, .int 0, .int 0, .int 0, .ref a1, .ref a2, .int 0, .int 0, .ref a3, .ref a4, .ref a5, .ref a6, .ref a7, .ref a8, .ref a9, .int 0, .int 0, .int 0, .ref a10, .ref a11, .ref a12, .ref a13, .int 0, .int 0, .ref a14, .ref a15, .ref a16, .ref a17, .int 0, .int 0, .ref a18, .ref a19, .ref a20, .ref a21]))]) (qI (BX11_size_1 D k a0 a1 a2 a3 a4 a5 a6 a7 a8 a9 a10 a11 a12 a13 a14 a15 a16 a17 a18 a19 a20 a21 x0 (va_A [(a0, .inr (8, [.int 2, .int 0, .int 1, .int 0, .int 0, .int 0, .ref a1, .ref a2, .int 0, .int 0, .ref a3, .ref a4, .ref a5, .ref a6, .ref a7, .ref a8, .ref a9, .int 0, .int 0, .int 0, .ref a10, .ref a11, .ref a12, .ref a13, .int 0, .int 0, .ref a14, .ref a15, .ref a16, .ref a17, .int 0, .int 0, .ref a18, .ref a19, .ref a20, .ref a21]))] sz)) (va_A [(a0, .inr (8, [.int 2, .int 0, .int 1, .int 0, .int 0, .int 0, .ref a1, .ref a2, .int 0, .int 0, .ref a3, .ref a4, .ref a5, .ref a6, .ref a7, .ref a8, .ref a9, .int 0, .int 0, .int 0, .ref a10, .ref a11, .ref a12, .ref a13, .int 0, .int 0, .ref a14, .ref a15, .ref a16, .ref a17, .int 0, .int 0, .ref a18, .ref a19, .ref a20, .ref a21]))] sz)) 0 0 (va_A [(a0, .inr (8, [.int 2, .int 0, .int 1, .int 0, .int 0, .int 0, .ref a1, .ref a2, .int 0, .int 0, .ref a3, .ref a4, .ref a5, .ref a6, .ref a7, .ref a8, .ref a9, .int 0, .int 0, .int 0, .ref a10, .ref a11, .ref a12, .ref a13, .int 0, .int 0, .ref a14, .ref a15, .ref a16, .ref a17, .int 0, .int 0, .ref a18, .ref a19, .ref a20, .ref a21]))] sz) := by
  refine begin_ (Qc := fun A => qI (BX11_size_1 D k a0 a1 a2 a3 a4 a5 a6 a7 a8 a9 a10 a11 a12 a13 a14 a15 a16 a17 a18 a19 a20 a21 x0 A) A) (by decide) (Nat.le_of_ble_eq_true rfl) ?_
  intro p e s m below meth c ls A hx hb hr hml hown hlocks hin hU hK hsz hP hD hS hA hl
  have hl : lv_has ls 3 [(0, .ref a0), (1, .int x0)] := hl
  clear hsz
  refine lv_iload_n hx hb dX11_size_0 rfl (lv_at hl 1 rfl) ?_
  refine lv_i2l (v := x0.toInt64) hx hb dX11_size_1 rfl ?_
  refine lv_lconst (v := 1) hx hb dX11_size_2 (by decide) ?_
  refine lv_ldc2 hx hb hown (hU _ w898) dX11_size_3 ?_
  refine cI (rS (As := [.long x0.toInt64, .long 1, .long 3]) (rest := []) (wc := []) hx hb hml hown hU hK hP hD [] rfl (by decide) (cX11_in_1 l D k _ (x0.toInt64)) w901 w899 w900 w72 hdX11_in ⟨rfl, rfl⟩ ⟨Nat.le_of_ble_eq_true rfl, Nat.le_of_ble_eq_true rfl⟩ rfl hl.1 (Nat.le_of_ble_eq_true rfl) dX11_size_6 ⟨Nat.le_of_ble_eq_true rfl, Nat.le_of_ble_eq_true rfl⟩) hP hD hS hA (wr := [(a0, .inr (8, [.int 2, .int 0, .int 1, .int 0, .int 0, .int 0, .ref a1, .ref a2, .int 0, .int 0, .ref a3, .ref a4, .ref a5, .ref a6, .ref a7, .ref a8, .ref a9, .int 0, .int 0, .int 0, .ref a10, .ref a11, .ref a12, .ref a13, .int 0, .int 0, .ref a14, .ref a15, .ref a16, .ref a17, .int 0, .int 0, .ref a18, .ref a19, .ref a20, .ref a21]))]) [] [0] rfl rfl (by decide) (by decide) (fun r1 H locs hB J hS => ?_)
  rcases hB with ⟨c_2, rfl, hP1, hD1⟩ | ⟨c_3, c_4, rfl, hP1, hD1⟩ | ⟨c_5, c_6, rfl, hP1, hD1⟩
  · skip
    obtain ⟨hP, hD⟩ := J _ hP1 hD1
    have hP : va_P D cl0 [(a0, .inr (8, [.int 2, .int 0, .int 1, .int 0, .int 0, .int 0, .ref a1, .ref a2, .int 0, .int 0, .ref a3, .ref a4, .ref a5, .ref a6, .ref a7, .ref a8, .ref a9, .int 0, .int 0, .int 0, .ref a10, .ref a11, .ref a12, .ref a13, .int 0, .int 0, .ref a14, .ref a15, .ref a16, .ref a17, .int 0, .int 0, .ref a18, .ref a19, .ref a20, .ref a21]))] H := hP
    have hD : va_D A [(a0, .inr (8, [.int 2, .int 0, .int 1, .int 0, .int 0, .int 0, .ref a1, .ref a2, .int 0, .int 0, .ref a3, .ref a4, .ref a5, .ref a6, .ref a7, .ref a8, .ref a9, .int 0, .int 0, .int 0, .ref a10, .ref a11, .ref a12, .ref a13, .int 0, .int 0, .ref a14, .ref a15, .ref a16, .ref a17, .int 0, .int 0, .ref a18, .ref a19, .ref a20, .ref a21]))] := hD
    refine lv_if_ne (tgt := 14) hx hb dX11_size_9 (by decide) (fun cc => absurd (by decide +kernel) cc) (fun _ => ?_)
    refine lv_iconst (v := (-1)) hx hb dX11_size_12 (by decide) ?_
    exact retI (v := (-1)) hx hb hr hlocks hS (show ((-1) : Int32) = F_size x0 by first | decide +kernel | (have f0 := dv_lt (x := x0.toInt) (y := 1) c_2 (wd x0) (by decide +kernel); unfold F_size; (repeat (first | rw [if_pos (by omega)] | rw [if_neg (by omega)])))) dX11_size_13
  · skip
    obtain ⟨hP, hD⟩ := J _ hP1 hD1
    have hP : va_P D cl0 [(a0, .inr (8, [.int 2, .int 0, .int 1, .int 0, .int 0, .int 0, .ref a1, .ref a2, .int 0, .int 0, .ref a3, .ref a4, .ref a5, .ref a6, .ref a7, .ref a8, .ref a9, .int 0, .int 0, .int 0, .ref a10, .ref a11, .ref a12, .ref a13, .int 0, .int 0, .ref a14, .ref a15, .ref a16, .ref a17, .int 0, .int 0, .ref a18, .ref a19, .ref a20, .ref a21]))] H := hP
    have hD : va_D A [(a0, .inr (8, [.int 2, .int 0, .int 1, .int 0, .int 0, .int 0, .ref a1, .ref a2, .int 0, .int 0, .ref a3, .ref a4, .ref a5, .ref a6, .ref a7, .ref a8, .ref a9, .int 0, .int 0, .int 0, .ref a10, .ref a11, .ref a12, .ref a13, .int 0, .int 0, .ref a14, .ref a15, .ref a16, .ref a17, .int 0, .int 0, .ref a18, .ref a19, .ref a20, .ref a21]))] := hD
    refine lv_if_ne (tgt := 14) hx hb dX11_size_9 (by decide) (fun cc => absurd (by decide +kernel) cc) (fun _ => ?_)
    refine lv_iconst (v := (-1)) hx hb dX11_size_12 (by decide) ?_
    exact retI (v := (-1)) hx hb hr hlocks hS (show ((-1) : Int32) = F_size x0 by first | decide +kernel | (have f0 := dv_nlt (x := x0.toInt) (y := 1) c_3 (wd x0) (by decide +kernel); have f1 := dv_lt (x := 3) (y := x0.toInt) c_4 (by decide +kernel) (wd x0); unfold F_size; (repeat (first | rw [if_pos (by omega)] | rw [if_neg (by omega)])))) dX11_size_13
  · skip
    obtain ⟨hP, hD⟩ := J _ hP1 hD1
    have hP : va_P D cl0 [(a0, .inr (8, [.int 2, .int 0, .int 1, .int 0, .int 0, .int 0, .ref a1, .ref a2, .int 0, .int 0, .ref a3, .ref a4, .ref a5, .ref a6, .ref a7, .ref a8, .ref a9, .int 0, .int 0, .int 0, .ref a10, .ref a11, .ref a12, .ref a13, .int 0, .int 0, .ref a14, .ref a15, .ref a16, .ref a17, .int 0, .int 0, .ref a18, .ref a19, .ref a20, .ref a21]))] H := hP
    have hD : va_D A [(a0, .inr (8, [.int 2, .int 0, .int 1, .int 0, .int 0, .int 0, .ref a1, .ref a2, .int 0, .int 0, .ref a3, .ref a4, .ref a5, .ref a6, .ref a7, .ref a8, .ref a9, .int 0, .int 0, .int 0, .ref a10, .ref a11, .ref a12, .ref a13, .int 0, .int 0, .ref a14, .ref a15, .ref a16, .ref a17, .int 0, .int 0, .ref a18, .ref a19, .ref a20, .ref a21]))] := hD
    refine lv_if_ne (tgt := 14) hx hb dX11_size_9 (by decide) (fun _ => ?_) (fun cc => absurd cc (by decide +kernel))
    refine lv_aload_n hx hb dX11_size_14 rfl (lv_at hl 0 rfl) ?_
    refine va_get (D := D) (ci := 8) (v := .int 2) (C := RX11) (T := TX11) (N := 36) hx hb hU iX11 hown hK.1 hP 0 rfl rfl 0 (by decide) (hU _ w785) (fun _ h9 => h9) rfl dX11_size_15 ?_
    refine lv_istore_n (lv' := [(2, .int 2), (0, .ref a0), (1, .int x0)]) hx hb dX11_size_18 rfl hl (by decide) rfl (fun ls hl => ?_)
    refine lv_iload_n hx hb dX11_size_19 rfl (lv_at hl 2 rfl) ?_
    refine lv_iload_n hx hb dX11_size_20 rfl (lv_at hl 0 rfl) ?_
    have hsp : x0.toInt = 1 ∨ x0.toInt = 2 ∨ x0.toInt = 3 := by
      have f0 := dv_nlt (x := x0.toInt) (y := 1) c_5 (wd x0) (by decide +kernel)
      have f1 := dv_nlt (x := 3) (y := x0.toInt) c_6 (by decide +kernel) (wd x0)
      omega
    rcases hsp with hsp | hsp | hsp
    · skip
      obtain rfl : x0 = 1 := eq32 hsp (by decide +kernel)
      refine lv_icmp_eq (tgt := 44) hx hb dX11_size_21 (by decide) (fun cc => absurd cc (by decide +kernel)) (fun _ => ?_)
      refine lv_aload_n hx hb dX11_size_24 rfl (lv_at hl 1 rfl) ?_
      refine lv_iload_n hx hb dX11_size_25 rfl (lv_at hl 2 rfl) ?_
      refine va_put (D := D) (ci := 8) (v := .int 1) (ty := .int) (C := RX11) (T := TX11) (N := 36) hx hb hU iX11 tyX11 tyX11_ok nmX11 hown hK.1 hP hD hS 0 rfl rfl 0 (by decide) (hU _ w785) (fun _ h9 => h9) rfl (by decide +kernel) rfl rfl (Nat.le_of_ble_eq_true rfl) dX11_size_26 (fun H locs hP hD hS => ?_)
      have hP : va_P D cl0 [(a0, .inr (8, [.int 1, .int 0, .int 1, .int 0, .int 0, .int 0, .ref a1, .ref a2, .int 0, .int 0, .ref a3, .ref a4, .ref a5, .ref a6, .ref a7, .ref a8, .ref a9, .int 0, .int 0, .int 0, .ref a10, .ref a11, .ref a12, .ref a13, .int 0, .int 0, .ref a14, .ref a15, .ref a16, .ref a17, .int 0, .int 0, .ref a18, .ref a19, .ref a20, .ref a21]))] H := hP
      have hD : va_D A [(a0, .inr (8, [.int 1, .int 0, .int 1, .int 0, .int 0, .int 0, .ref a1, .ref a2, .int 0, .int 0, .ref a3, .ref a4, .ref a5, .ref a6, .ref a7, .ref a8, .ref a9, .int 0, .int 0, .int 0, .ref a10, .ref a11, .ref a12, .ref a13, .int 0, .int 0, .ref a14, .ref a15, .ref a16, .ref a17, .int 0, .int 0, .ref a18, .ref a19, .ref a20, .ref a21]))] := hD
      refine lv_aload_n hx hb dX11_size_29 rfl (lv_at hl 1 rfl) ?_
      refine lv_iconst (v := 0) hx hb dX11_size_30 (by decide) ?_
      refine va_put (D := D) (ci := 8) (v := .int 0) (ty := .int) (C := RX11) (T := TX11) (N := 36) hx hb hU iX11 tyX11 tyX11_ok nmX11 hown hK.1 hP hD hS 0 rfl rfl 1 (by decide) (hU _ w786) (fun _ h9 => h9) rfl (by decide +kernel) rfl rfl (Nat.le_of_ble_eq_true rfl) dX11_size_31 (fun H locs hP hD hS => ?_)
      have hP : va_P D cl0 [(a0, .inr (8, [.int 1, .int 0, .int 1, .int 0, .int 0, .int 0, .ref a1, .ref a2, .int 0, .int 0, .ref a3, .ref a4, .ref a5, .ref a6, .ref a7, .ref a8, .ref a9, .int 0, .int 0, .int 0, .ref a10, .ref a11, .ref a12, .ref a13, .int 0, .int 0, .ref a14, .ref a15, .ref a16, .ref a17, .int 0, .int 0, .ref a18, .ref a19, .ref a20, .ref a21]))] H := hP
      have hD : va_D A [(a0, .inr (8, [.int 1, .int 0, .int 1, .int 0, .int 0, .int 0, .ref a1, .ref a2, .int 0, .int 0, .ref a3, .ref a4, .ref a5, .ref a6, .ref a7, .ref a8, .ref a9, .int 0, .int 0, .int 0, .ref a10, .ref a11, .ref a12, .ref a13, .int 0, .int 0, .ref a14, .ref a15, .ref a16, .ref a17, .int 0, .int 0, .ref a18, .ref a19, .ref a20, .ref a21]))] := hD
      refine lv_aload_n hx hb dX11_size_34 rfl (lv_at hl 1 rfl) ?_
      refine lv_iconst (v := 0) hx hb dX11_size_35 (by decide) ?_
      refine va_put (D := D) (ci := 8) (v := .int 0) (ty := .boolean) (C := RX11) (T := TX11) (N := 36) hx hb hU iX11 tyX11 tyX11_ok nmX11 hown hK.1 hP hD hS 0 rfl rfl 9 (by decide) (hU _ w794) (fun _ h9 => h9) rfl (by decide +kernel) rfl rfl (Nat.le_of_ble_eq_true rfl) dX11_size_36 (fun H locs hP hD hS => ?_)
      have hP : va_P D cl0 [(a0, .inr (8, [.int 1, .int 0, .int 1, .int 0, .int 0, .int 0, .ref a1, .ref a2, .int 0, .int 0, .ref a3, .ref a4, .ref a5, .ref a6, .ref a7, .ref a8, .ref a9, .int 0, .int 0, .int 0, .ref a10, .ref a11, .ref a12, .ref a13, .int 0, .int 0, .ref a14, .ref a15, .ref a16, .ref a17, .int 0, .int 0, .ref a18, .ref a19, .ref a20, .ref a21]))] H := hP
      have hD : va_D A [(a0, .inr (8, [.int 1, .int 0, .int 1, .int 0, .int 0, .int 0, .ref a1, .ref a2, .int 0, .int 0, .ref a3, .ref a4, .ref a5, .ref a6, .ref a7, .ref a8, .ref a9, .int 0, .int 0, .int 0, .ref a10, .ref a11, .ref a12, .ref a13, .int 0, .int 0, .ref a14, .ref a15, .ref a16, .ref a17, .int 0, .int 0, .ref a18, .ref a19, .ref a20, .ref a21]))] := hD
      refine lv_aload_n hx hb dX11_size_39 rfl (lv_at hl 1 rfl) ?_
      refine lv_iconst (v := 0) hx hb dX11_size_40 (by decide) ?_
      refine va_put (D := D) (ci := 8) (v := .int 0) (ty := .int) (C := RX11) (T := TX11) (N := 36) hx hb hU iX11 tyX11 tyX11_ok nmX11 hown hK.1 hP hD hS 0 rfl rfl 30 (by decide) (hU _ w815) (fun _ h9 => h9) rfl (by decide +kernel) rfl rfl (Nat.le_of_ble_eq_true rfl) dX11_size_41 (fun H locs hP hD hS => ?_)
      have hP : va_P D cl0 [(a0, .inr (8, [.int 1, .int 0, .int 1, .int 0, .int 0, .int 0, .ref a1, .ref a2, .int 0, .int 0, .ref a3, .ref a4, .ref a5, .ref a6, .ref a7, .ref a8, .ref a9, .int 0, .int 0, .int 0, .ref a10, .ref a11, .ref a12, .ref a13, .int 0, .int 0, .ref a14, .ref a15, .ref a16, .ref a17, .int 0, .int 0, .ref a18, .ref a19, .ref a20, .ref a21]))] H := hP
      have hD : va_D A [(a0, .inr (8, [.int 1, .int 0, .int 1, .int 0, .int 0, .int 0, .ref a1, .ref a2, .int 0, .int 0, .ref a3, .ref a4, .ref a5, .ref a6, .ref a7, .ref a8, .ref a9, .int 0, .int 0, .int 0, .ref a10, .ref a11, .ref a12, .ref a13, .int 0, .int 0, .ref a14, .ref a15, .ref a16, .ref a17, .int 0, .int 0, .ref a18, .ref a19, .ref a20, .ref a21]))] := hD
      refine lv_iload_n hx hb dX11_size_44 rfl (lv_at hl 0 rfl) ?_
      exact retI (v := 2) hx hb hr hlocks hS (show (2 : Int32) = F_size 1 by first | decide +kernel | (have g_1 : (1 : Int32).toInt = 1 := (by decide +kernel); unfold F_size; (repeat (first | rw [if_pos (by omega)] | rw [if_neg (by omega)])))) dX11_size_45
    · skip
      obtain rfl : x0 = 2 := eq32 hsp (by decide +kernel)
      refine lv_icmp_eq (tgt := 44) hx hb dX11_size_21 (by decide) (fun _ => ?_) (fun cc => absurd (by decide +kernel) cc)
      refine lv_iload_n hx hb dX11_size_44 rfl (lv_at hl 0 rfl) ?_
      exact retI (v := 2) hx hb hr hlocks hS (show (2 : Int32) = F_size 2 by first | decide +kernel | (have g_2 : (2 : Int32).toInt = 2 := (by decide +kernel); unfold F_size; (repeat (first | rw [if_pos (by omega)] | rw [if_neg (by omega)])))) dX11_size_45
    · skip
      obtain rfl : x0 = 3 := eq32 hsp (by decide +kernel)
      refine lv_icmp_eq (tgt := 44) hx hb dX11_size_21 (by decide) (fun cc => absurd cc (by decide +kernel)) (fun _ => ?_)
      refine lv_aload_n hx hb dX11_size_24 rfl (lv_at hl 1 rfl) ?_
      refine lv_iload_n hx hb dX11_size_25 rfl (lv_at hl 2 rfl) ?_
      refine va_put (D := D) (ci := 8) (v := .int 3) (ty := .int) (C := RX11) (T := TX11) (N := 36) hx hb hU iX11 tyX11 tyX11_ok nmX11 hown hK.1 hP hD hS 0 rfl rfl 0 (by decide) (hU _ w785) (fun _ h9 => h9) rfl (by decide +kernel) rfl rfl (Nat.le_of_ble_eq_true rfl) dX11_size_26 (fun H locs hP hD hS => ?_)
      have hP : va_P D cl0 [(a0, .inr (8, [.int 3, .int 0, .int 1, .int 0, .int 0, .int 0, .ref a1, .ref a2, .int 0, .int 0, .ref a3, .ref a4, .ref a5, .ref a6, .ref a7, .ref a8, .ref a9, .int 0, .int 0, .int 0, .ref a10, .ref a11, .ref a12, .ref a13, .int 0, .int 0, .ref a14, .ref a15, .ref a16, .ref a17, .int 0, .int 0, .ref a18, .ref a19, .ref a20, .ref a21]))] H := hP
      have hD : va_D A [(a0, .inr (8, [.int 3, .int 0, .int 1, .int 0, .int 0, .int 0, .ref a1, .ref a2, .int 0, .int 0, .ref a3, .ref a4, .ref a5, .ref a6, .ref a7, .ref a8, .ref a9, .int 0, .int 0, .int 0, .ref a10, .ref a11, .ref a12, .ref a13, .int 0, .int 0, .ref a14, .ref a15, .ref a16, .ref a17, .int 0, .int 0, .ref a18, .ref a19, .ref a20, .ref a21]))] := hD
      refine lv_aload_n hx hb dX11_size_29 rfl (lv_at hl 1 rfl) ?_
      refine lv_iconst (v := 0) hx hb dX11_size_30 (by decide) ?_
      refine va_put (D := D) (ci := 8) (v := .int 0) (ty := .int) (C := RX11) (T := TX11) (N := 36) hx hb hU iX11 tyX11 tyX11_ok nmX11 hown hK.1 hP hD hS 0 rfl rfl 1 (by decide) (hU _ w786) (fun _ h9 => h9) rfl (by decide +kernel) rfl rfl (Nat.le_of_ble_eq_true rfl) dX11_size_31 (fun H locs hP hD hS => ?_)
      have hP : va_P D cl0 [(a0, .inr (8, [.int 3, .int 0, .int 1, .int 0, .int 0, .int 0, .ref a1, .ref a2, .int 0, .int 0, .ref a3, .ref a4, .ref a5, .ref a6, .ref a7, .ref a8, .ref a9, .int 0, .int 0, .int 0, .ref a10, .ref a11, .ref a12, .ref a13, .int 0, .int 0, .ref a14, .ref a15, .ref a16, .ref a17, .int 0, .int 0, .ref a18, .ref a19, .ref a20, .ref a21]))] H := hP
      have hD : va_D A [(a0, .inr (8, [.int 3, .int 0, .int 1, .int 0, .int 0, .int 0, .ref a1, .ref a2, .int 0, .int 0, .ref a3, .ref a4, .ref a5, .ref a6, .ref a7, .ref a8, .ref a9, .int 0, .int 0, .int 0, .ref a10, .ref a11, .ref a12, .ref a13, .int 0, .int 0, .ref a14, .ref a15, .ref a16, .ref a17, .int 0, .int 0, .ref a18, .ref a19, .ref a20, .ref a21]))] := hD
      refine lv_aload_n hx hb dX11_size_34 rfl (lv_at hl 1 rfl) ?_
      refine lv_iconst (v := 0) hx hb dX11_size_35 (by decide) ?_
      refine va_put (D := D) (ci := 8) (v := .int 0) (ty := .boolean) (C := RX11) (T := TX11) (N := 36) hx hb hU iX11 tyX11 tyX11_ok nmX11 hown hK.1 hP hD hS 0 rfl rfl 9 (by decide) (hU _ w794) (fun _ h9 => h9) rfl (by decide +kernel) rfl rfl (Nat.le_of_ble_eq_true rfl) dX11_size_36 (fun H locs hP hD hS => ?_)
      have hP : va_P D cl0 [(a0, .inr (8, [.int 3, .int 0, .int 1, .int 0, .int 0, .int 0, .ref a1, .ref a2, .int 0, .int 0, .ref a3, .ref a4, .ref a5, .ref a6, .ref a7, .ref a8, .ref a9, .int 0, .int 0, .int 0, .ref a10, .ref a11, .ref a12, .ref a13, .int 0, .int 0, .ref a14, .ref a15, .ref a16, .ref a17, .int 0, .int 0, .ref a18, .ref a19, .ref a20, .ref a21]))] H := hP
      have hD : va_D A [(a0, .inr (8, [.int 3, .int 0, .int 1, .int 0, .int 0, .int 0, .ref a1, .ref a2, .int 0, .int 0, .ref a3, .ref a4, .ref a5, .ref a6, .ref a7, .ref a8, .ref a9, .int 0, .int 0, .int 0, .ref a10, .ref a11, .ref a12, .ref a13, .int 0, .int 0, .ref a14, .ref a15, .ref a16, .ref a17, .int 0, .int 0, .ref a18, .ref a19, .ref a20, .ref a21]))] := hD
      refine lv_aload_n hx hb dX11_size_39 rfl (lv_at hl 1 rfl) ?_
      refine lv_iconst (v := 0) hx hb dX11_size_40 (by decide) ?_
      refine va_put (D := D) (ci := 8) (v := .int 0) (ty := .int) (C := RX11) (T := TX11) (N := 36) hx hb hU iX11 tyX11 tyX11_ok nmX11 hown hK.1 hP hD hS 0 rfl rfl 30 (by decide) (hU _ w815) (fun _ h9 => h9) rfl (by decide +kernel) rfl rfl (Nat.le_of_ble_eq_true rfl) dX11_size_41 (fun H locs hP hD hS => ?_)
      have hP : va_P D cl0 [(a0, .inr (8, [.int 3, .int 0, .int 1, .int 0, .int 0, .int 0, .ref a1, .ref a2, .int 0, .int 0, .ref a3, .ref a4, .ref a5, .ref a6, .ref a7, .ref a8, .ref a9, .int 0, .int 0, .int 0, .ref a10, .ref a11, .ref a12, .ref a13, .int 0, .int 0, .ref a14, .ref a15, .ref a16, .ref a17, .int 0, .int 0, .ref a18, .ref a19, .ref a20, .ref a21]))] H := hP
      have hD : va_D A [(a0, .inr (8, [.int 3, .int 0, .int 1, .int 0, .int 0, .int 0, .ref a1, .ref a2, .int 0, .int 0, .ref a3, .ref a4, .ref a5, .ref a6, .ref a7, .ref a8, .ref a9, .int 0, .int 0, .int 0, .ref a10, .ref a11, .ref a12, .ref a13, .int 0, .int 0, .ref a14, .ref a15, .ref a16, .ref a17, .int 0, .int 0, .ref a18, .ref a19, .ref a20, .ref a21]))] := hD
      refine lv_iload_n hx hb dX11_size_44 rfl (lv_at hl 0 rfl) ?_
      exact retI (v := 2) hx hb hr hlocks hS (show (2 : Int32) = F_size 3 by first | decide +kernel | (have g_3 : (3 : Int32).toInt = 3 := (by decide +kernel); unfold F_size; (repeat (first | rw [if_pos (by omega)] | rw [if_neg (by omega)])))) dX11_size_45
abbrev BX11_in_2 (D : va_G) (k : Nat → ClassId) (x0 : Int64) (A : Nat → Prop) (r : Int32) (H : Heap) : Prop := (x0 < 0 ∧ 0 = r ∧ va_P D cl0 [] H ∧ va_D A []) ∨ (¬ (x0 < 0) ∧ 3 < x0 ∧ 0 = r ∧ va_P D cl0 [] H ∧ va_D A []) ∨ (¬ (x0 < 0) ∧ ¬ (3 < x0) ∧ 1 = r ∧ va_P D cl0 [] H ∧ va_D A [])
set_option maxHeartbeats 4000000 in
set_option maxRecDepth 100000 in
theorem cX11_in_2 (l : Launch) (D : va_G) (k : Nat → ClassId) (sz : Nat) (x0 : Int64) : Met l yX11_in (Cond.code yX11_in cX11_in 6 (some .boolean) :: uw) ({ frames := 0, cells := 0, slots := 0, locals := 0 }) (pC D k sz [.long x0, .long 0, .long 3] []) (qI (BX11_in_2 D k x0 (va_A [] sz)) (va_A [] sz)) 0 0 (va_A [] sz) := by
  refine begin_ (Qc := fun A => qI (BX11_in_2 D k x0 A) A) (by decide) (Nat.le_of_ble_eq_true rfl) ?_
  intro p e s m below meth c ls A hx hb hr hml hown hlocks hin hU hK hsz hP hD hS hA hl
  have hl : lv_has ls 6 [(0, .long x0), (2, .long 0), (4, .long 3)] := hl
  clear hsz
  refine lv_lload_n hx hb dX11_in_0 rfl (lv_at hl 0 rfl) ?_
  refine lv_lload_n hx hb dX11_in_1 rfl (lv_at hl 1 rfl) ?_
  refine W.lcmp hx hb dX11_in_2 ?_
  refine lv_if_lt (tgt := 17) hx hb dX11_in_3 (by decide) (fun c_1 => ?_) (fun c_1 => ?_)
  · skip
    have c_1 := (lg_cmp_lt _ _).mp c_1
    refine lv_iconst (v := 0) hx hb dX11_in_17 (by decide) ?_
    exact retZ (v := 0) hx hb hr hlocks hS (Or.inl ⟨c_1, rfl, hP, hD⟩) dX11_in_18 (by decide +kernel)
  · skip
    have c_1 := fun h9 => c_1 ((lg_cmp_lt _ _).mpr h9)
    refine lv_lload_n hx hb dX11_in_6 rfl (lv_at hl 0 rfl) ?_
    refine lv_lload hx hb dX11_in_7 (lv_at hl 2 rfl) ?_
    refine W.lcmp hx hb dX11_in_9 ?_
    refine lv_if_gt (tgt := 17) hx hb dX11_in_10 (by decide) (fun c_2 => ?_) (fun c_2 => ?_)
    · skip
      have c_2 := (lg_cmp_gt _ _).mp c_2
      refine lv_iconst (v := 0) hx hb dX11_in_17 (by decide) ?_
      exact retZ (v := 0) hx hb hr hlocks hS (Or.inr (Or.inl ⟨c_1, c_2, rfl, hP, hD⟩)) dX11_in_18 (by decide +kernel)
    · skip
      have c_2 := fun h9 => c_2 ((lg_cmp_gt _ _).mpr h9)
      refine lv_iconst (v := 1) hx hb dX11_in_13 (by decide) ?_
      refine lv_goto (tgt := 18) hx hb dX11_in_14 (by decide) ?_
      exact retZ (v := 1) hx hb hr hlocks hS (Or.inr (Or.inr (⟨c_1, c_2, rfl, hP, hD⟩))) dX11_in_18 (by decide +kernel)
abbrev BX11_in_3 (D : va_G) (k : Nat → ClassId) (x0 : Int64) (A : Nat → Prop) (r : Int32) (H : Heap) : Prop := (x0 < 0 ∧ 0 = r ∧ va_P D cl0 [] H ∧ va_D A []) ∨ (¬ (x0 < 0) ∧ (-1) < x0 ∧ 0 = r ∧ va_P D cl0 [] H ∧ va_D A [])
set_option maxHeartbeats 4000000 in
set_option maxRecDepth 100000 in
theorem cX11_in_3 (l : Launch) (D : va_G) (k : Nat → ClassId) (sz : Nat) (x0 : Int64) : Met l yX11_in (Cond.code yX11_in cX11_in 6 (some .boolean) :: uw) ({ frames := 0, cells := 0, slots := 0, locals := 0 }) (pC D k sz [.long x0, .long 0, .long (-1)] []) (qI (BX11_in_3 D k x0 (va_A [] sz)) (va_A [] sz)) 0 0 (va_A [] sz) := by
  refine begin_ (Qc := fun A => qI (BX11_in_3 D k x0 A) A) (by decide) (Nat.le_of_ble_eq_true rfl) ?_
  intro p e s m below meth c ls A hx hb hr hml hown hlocks hin hU hK hsz hP hD hS hA hl
  have hl : lv_has ls 6 [(0, .long x0), (2, .long 0), (4, .long (-1))] := hl
  clear hsz
  refine lv_lload_n hx hb dX11_in_0 rfl (lv_at hl 0 rfl) ?_
  refine lv_lload_n hx hb dX11_in_1 rfl (lv_at hl 1 rfl) ?_
  refine W.lcmp hx hb dX11_in_2 ?_
  refine lv_if_lt (tgt := 17) hx hb dX11_in_3 (by decide) (fun c_1 => ?_) (fun c_1 => ?_)
  · skip
    have c_1 := (lg_cmp_lt _ _).mp c_1
    refine lv_iconst (v := 0) hx hb dX11_in_17 (by decide) ?_
    exact retZ (v := 0) hx hb hr hlocks hS (Or.inl ⟨c_1, rfl, hP, hD⟩) dX11_in_18 (by decide +kernel)
  · skip
    have c_1 := fun h9 => c_1 ((lg_cmp_lt _ _).mpr h9)
    refine lv_lload_n hx hb dX11_in_6 rfl (lv_at hl 0 rfl) ?_
    refine lv_lload hx hb dX11_in_7 (lv_at hl 2 rfl) ?_
    refine W.lcmp hx hb dX11_in_9 ?_
    refine lv_if_gt (tgt := 17) hx hb dX11_in_10 (by decide) (fun c_2 => ?_) (fun c_2 => ?_)
    · skip
      have c_2 := (lg_cmp_gt _ _).mp c_2
      refine lv_iconst (v := 0) hx hb dX11_in_17 (by decide) ?_
      exact retZ (v := 0) hx hb hr hlocks hS (Or.inr (⟨c_1, c_2, rfl, hP, hD⟩)) dX11_in_18 (by decide +kernel)
    · skip
      have c_2 := fun h9 => c_2 ((lg_cmp_gt _ _).mpr h9)
      exfalso
      have f0 := dv_nlt (x := x0.toInt) (y := 0) c_1 rfl (by decide +kernel)
      have f1 := dv_nlt (x := (-1)) (y := x0.toInt) c_2 (by decide +kernel) rfl
      omega
abbrev BX11_isGen_1 (D : va_G) (k : Nat → ClassId) (h0 h1 h2 h3 h4 h5 h6 h7 h8 h9 h10 h11 h12 h13 h14 h15 h16 h17 h18 h19 h20 h21 : Nat) (x0 : Int32) (A : Nat → Prop) (r : Int32) (H : Heap) : Prop := (x0.toInt64 < 0 ∧ 0 = r ∧ va_P D cl0 [(h0, .inr (8, [.int 2, .int 0, .int 1, .int 0, .int 0, .int 0, .ref h1, .ref h2, .int 0, .int 0, .ref h3, .ref h4, .ref h5, .ref h6, .ref h7, .ref h8, .ref h9, .int 0, .int 0, .int 0, .ref h10, .ref h11, .ref h12, .ref h13, .int 0, .int 0, .ref h14, .ref h15, .ref h16, .ref h17, .int 0, .int 0, .ref h18, .ref h19, .ref h20, .ref h21]))] H ∧ va_D A [(h0, .inr (8, [.int 2, .int 0, .int 1, .int 0, .int 0, .int 0, .ref h1, .ref h2, .int 0, .int 0, .ref h3, .ref h4, .ref h5, .ref h6, .ref h7, .ref h8, .ref h9, .int 0, .int 0, .int 0, .ref h10, .ref h11, .ref h12, .ref h13, .int 0, .int 0, .ref h14, .ref h15, .ref h16, .ref h17, .int 0, .int 0, .ref h18, .ref h19, .ref h20, .ref h21]))]) ∨ (¬ (x0.toInt64 < 0) ∧ (-1) < x0.toInt64 ∧ 0 = r ∧ va_P D cl0 [(h0, .inr (8, [.int 2, .int 0, .int 1, .int 0, .int 0, .int 0, .ref h1, .ref h2, .int 0, .int 0, .ref h3, .ref h4, .ref h5, .ref h6, .ref h7, .ref h8, .ref h9, .int 0, .int 0, .int 0, .ref h10, .ref h11, .ref h12, .ref h13, .int 0, .int 0, .ref h14, .ref h15, .ref h16, .ref h17, .int 0, .int 0, .ref h18, .ref h19, .ref h20, .ref h21]))] H ∧ va_D A [(h0, .inr (8, [.int 2, .int 0, .int 1, .int 0, .int 0, .int 0, .ref h1, .ref h2, .int 0, .int 0, .ref h3, .ref h4, .ref h5, .ref h6, .ref h7, .ref h8, .ref h9, .int 0, .int 0, .int 0, .ref h10, .ref h11, .ref h12, .ref h13, .int 0, .int 0, .ref h14, .ref h15, .ref h16, .ref h17, .int 0, .int 0, .ref h18, .ref h19, .ref h20, .ref h21]))])
set_option maxHeartbeats 4000000 in
set_option maxRecDepth 100000 in
theorem cX11_isGen_1 (l : Launch) (D : va_G) (k : Nat → ClassId) (sz : Nat) (h0 h1 h2 h3 h4 h5 h6 h7 h8 h9 h10 h11 h12 h13 h14 h15 h16 h17 h18 h19 h20 h21 : Nat) (x0 : Int32) : Met l yX11_isGen (Cond.code yX11_isGen cX11_isGen 2 (some .boolean) :: uw) ({ frames := 1, cells := 0, slots := 0, locals := 25 }) (pC D k sz [.ref h0, .int x0] [(h0, .inr (8, [.int 2, .int 0, .int 1, .int 0, .int 0, .int 0, .ref h1, .ref h2, .int 0, .int 0, .ref h3, .ref h4, .ref h5, .ref h6, .ref h7, .ref h8, .ref h9, .int 0, .int 0, .int 0, .ref h10, .ref h11, .ref h12, .ref h13, .int 0, .int 0, .ref h14, .ref h15, .ref h16, .ref h17, .int 0, .int 0, .ref h18, .ref h19, .ref h20, .ref h21]))]) (qI (BX11_isGen_1 D k h0 h1 h2 h3 h4 h5 h6 h7 h8 h9 h10 h11 h12 h13 h14 h15 h16 h17 h18 h19 h20 h21 x0 (va_A [(h0, .inr (8, [.int 2, .int 0, .int 1, .int 0, .int 0, .int 0, .ref h1, .ref h2, .int 0, .int 0, .ref h3, .ref h4, .ref h5, .ref h6, .ref h7, .ref h8, .ref h9, .int 0, .int 0, .int 0, .ref h10, .ref h11, .ref h12, .ref h13, .int 0, .int 0, .ref h14, .ref h15, .ref h16, .ref h17, .int 0, .int 0, .ref h18, .ref h19, .ref h20, .ref h21]))] sz)) (va_A [(h0, .inr (8, [.int 2, .int 0, .int 1, .int 0, .int 0, .int 0, .ref h1, .ref h2, .int 0, .int 0, .ref h3, .ref h4, .ref h5, .ref h6, .ref h7, .ref h8, .ref h9, .int 0, .int 0, .int 0, .ref h10, .ref h11, .ref h12, .ref h13, .int 0, .int 0, .ref h14, .ref h15, .ref h16, .ref h17, .int 0, .int 0, .ref h18, .ref h19, .ref h20, .ref h21]))] sz)) 0 0 (va_A [(h0, .inr (8, [.int 2, .int 0, .int 1, .int 0, .int 0, .int 0, .ref h1, .ref h2, .int 0, .int 0, .ref h3, .ref h4, .ref h5, .ref h6, .ref h7, .ref h8, .ref h9, .int 0, .int 0, .int 0, .ref h10, .ref h11, .ref h12, .ref h13, .int 0, .int 0, .ref h14, .ref h15, .ref h16, .ref h17, .int 0, .int 0, .ref h18, .ref h19, .ref h20, .ref h21]))] sz) := by
  refine begin_ (Qc := fun A => qI (BX11_isGen_1 D k h0 h1 h2 h3 h4 h5 h6 h7 h8 h9 h10 h11 h12 h13 h14 h15 h16 h17 h18 h19 h20 h21 x0 A) A) (by decide) (Nat.le_of_ble_eq_true rfl) ?_
  intro p e s m below meth c ls A hx hb hr hml hown hlocks hin hU hK hsz hP hD hS hA hl
  have hl : lv_has ls 2 [(0, .ref h0), (1, .int x0)] := hl
  clear hsz
  refine lv_iload_n hx hb dX11_isGen_0 rfl (lv_at hl 1 rfl) ?_
  refine lv_i2l (v := x0.toInt64) hx hb dX11_isGen_1 rfl ?_
  refine lv_lconst (v := 0) hx hb dX11_isGen_2 (by decide) ?_
  refine lv_aload_n hx hb dX11_isGen_3 rfl (lv_at hl 0 rfl) ?_
  refine va_get (D := D) (ci := 8) (v := .int 0) (C := RX11) (T := TX11) (N := 36) hx hb hU iX11 hown hK.1 hP 0 rfl rfl 1 (by decide) (hU _ w786) (fun _ h9 => h9) rfl dX11_isGen_4 ?_
  refine lv_iconst (v := 1) hx hb dX11_isGen_7 (by decide) ?_
  refine lv_isub hx hb dX11_isGen_8 (sv_i (v := (-1)) (by decide +kernel) ?_)
  refine lv_i2l (v := (-1)) hx hb dX11_isGen_9 (by decide +kernel) ?_
  refine cI (rS (As := [.long x0.toInt64, .long 0, .long (-1)]) (rest := []) (wc := []) hx hb hml hown hU hK hP hD [] rfl (by decide) (cX11_in_3 l D k _ (x0.toInt64)) w901 w899 w900 w72 hdX11_in ⟨rfl, rfl⟩ ⟨Nat.le_of_ble_eq_true rfl, Nat.le_of_ble_eq_true rfl⟩ rfl hl.1 (Nat.le_of_ble_eq_true rfl) dX11_isGen_10 ⟨Nat.le_of_ble_eq_true rfl, Nat.le_of_ble_eq_true rfl⟩) hP hD hS hA (wr := [(h0, .inr (8, [.int 2, .int 0, .int 1, .int 0, .int 0, .int 0, .ref h1, .ref h2, .int 0, .int 0, .ref h3, .ref h4, .ref h5, .ref h6, .ref h7, .ref h8, .ref h9, .int 0, .int 0, .int 0, .ref h10, .ref h11, .ref h12, .ref h13, .int 0, .int 0, .ref h14, .ref h15, .ref h16, .ref h17, .int 0, .int 0, .ref h18, .ref h19, .ref h20, .ref h21]))]) [] [0] rfl rfl (by decide) (by decide) (fun r1 H locs hB J hS => ?_)
  rcases hB with ⟨c_2, rfl, hP1, hD1⟩ | ⟨c_3, c_4, rfl, hP1, hD1⟩
  · skip
    obtain ⟨hP, hD⟩ := J _ hP1 hD1
    have hP : va_P D cl0 [(h0, .inr (8, [.int 2, .int 0, .int 1, .int 0, .int 0, .int 0, .ref h1, .ref h2, .int 0, .int 0, .ref h3, .ref h4, .ref h5, .ref h6, .ref h7, .ref h8, .ref h9, .int 0, .int 0, .int 0, .ref h10, .ref h11, .ref h12, .ref h13, .int 0, .int 0, .ref h14, .ref h15, .ref h16, .ref h17, .int 0, .int 0, .ref h18, .ref h19, .ref h20, .ref h21]))] H := hP
    have hD : va_D A [(h0, .inr (8, [.int 2, .int 0, .int 1, .int 0, .int 0, .int 0, .ref h1, .ref h2, .int 0, .int 0, .ref h3, .ref h4, .ref h5, .ref h6, .ref h7, .ref h8, .ref h9, .int 0, .int 0, .int 0, .ref h10, .ref h11, .ref h12, .ref h13, .int 0, .int 0, .ref h14, .ref h15, .ref h16, .ref h17, .int 0, .int 0, .ref h18, .ref h19, .ref h20, .ref h21]))] := hD
    exact retZ (v := 0) hx hb hr hlocks hS (Or.inl ⟨c_2, rfl, hP, hD⟩) dX11_isGen_13 (by decide +kernel)
  · skip
    obtain ⟨hP, hD⟩ := J _ hP1 hD1
    have hP : va_P D cl0 [(h0, .inr (8, [.int 2, .int 0, .int 1, .int 0, .int 0, .int 0, .ref h1, .ref h2, .int 0, .int 0, .ref h3, .ref h4, .ref h5, .ref h6, .ref h7, .ref h8, .ref h9, .int 0, .int 0, .int 0, .ref h10, .ref h11, .ref h12, .ref h13, .int 0, .int 0, .ref h14, .ref h15, .ref h16, .ref h17, .int 0, .int 0, .ref h18, .ref h19, .ref h20, .ref h21]))] H := hP
    have hD : va_D A [(h0, .inr (8, [.int 2, .int 0, .int 1, .int 0, .int 0, .int 0, .ref h1, .ref h2, .int 0, .int 0, .ref h3, .ref h4, .ref h5, .ref h6, .ref h7, .ref h8, .ref h9, .int 0, .int 0, .int 0, .ref h10, .ref h11, .ref h12, .ref h13, .int 0, .int 0, .ref h14, .ref h15, .ref h16, .ref h17, .int 0, .int 0, .ref h18, .ref h19, .ref h20, .ref h21]))] := hD
    exact retZ (v := 0) hx hb hr hlocks hS (Or.inr (⟨c_3, c_4, rfl, hP, hD⟩)) dX11_isGen_13 (by decide +kernel)
abbrev BX11_made_1 (D : va_G) (k : Nat → ClassId) (a0 a1 a2 a3 a4 a5 a6 a7 a8 a9 a10 a11 a12 a13 a14 a15 a16 a17 a18 a19 a20 a21 : Nat) (x0 : Int32) (x1 : Int32) (x2 : Int32) (A : Nat → Prop) (r : Int32) (H : Heap) : Prop := r = F_made x0 x1 x2
set_option maxHeartbeats 4000000 in
set_option maxRecDepth 100000 in
theorem cX11_made_1 (l : Launch) (D : va_G) (k : Nat → ClassId) (sz : Nat) (a0 a1 a2 a3 a4 a5 a6 a7 a8 a9 a10 a11 a12 a13 a14 a15 a16 a17 a18 a19 a20 a21 : Nat) (x0 : Int32) (x1 : Int32) (x2 : Int32) : Met l yX11_made (Cond.code yX11_made cX11_made 10 (some .int) :: uw) ({ frames := 2, cells := 0, slots := 0, locals := 46 }) (pC D k sz [.ref a0, .int x0, .int x1, .int x2] [(a0, .inr (8, [.int 2, .int 0, .int 1, .int 0, .int 0, .int 0, .ref a1, .ref a2, .int 0, .int 0, .ref a3, .ref a4, .ref a5, .ref a6, .ref a7, .ref a8, .ref a9, .int 0, .int 0, .int 0, .ref a10, .ref a11, .ref a12, .ref a13, .int 0, .int 0, .ref a14, .ref a15, .ref a16, .ref a17, .int 0, .int 0, .ref a18, .ref a19, .ref a20, .ref a21]))]) (qI (BX11_made_1 D k a0 a1 a2 a3 a4 a5 a6 a7 a8 a9 a10 a11 a12 a13 a14 a15 a16 a17 a18 a19 a20 a21 x0 x1 x2 (va_A [(a0, .inr (8, [.int 2, .int 0, .int 1, .int 0, .int 0, .int 0, .ref a1, .ref a2, .int 0, .int 0, .ref a3, .ref a4, .ref a5, .ref a6, .ref a7, .ref a8, .ref a9, .int 0, .int 0, .int 0, .ref a10, .ref a11, .ref a12, .ref a13, .int 0, .int 0, .ref a14, .ref a15, .ref a16, .ref a17, .int 0, .int 0, .ref a18, .ref a19, .ref a20, .ref a21]))] sz)) (va_A [(a0, .inr (8, [.int 2, .int 0, .int 1, .int 0, .int 0, .int 0, .ref a1, .ref a2, .int 0, .int 0, .ref a3, .ref a4, .ref a5, .ref a6, .ref a7, .ref a8, .ref a9, .int 0, .int 0, .int 0, .ref a10, .ref a11, .ref a12, .ref a13, .int 0, .int 0, .ref a14, .ref a15, .ref a16, .ref a17, .int 0, .int 0, .ref a18, .ref a19, .ref a20, .ref a21]))] sz)) 0 0 (va_A [(a0, .inr (8, [.int 2, .int 0, .int 1, .int 0, .int 0, .int 0, .ref a1, .ref a2, .int 0, .int 0, .ref a3, .ref a4, .ref a5, .ref a6, .ref a7, .ref a8, .ref a9, .int 0, .int 0, .int 0, .ref a10, .ref a11, .ref a12, .ref a13, .int 0, .int 0, .ref a14, .ref a15, .ref a16, .ref a17, .int 0, .int 0, .ref a18, .ref a19, .ref a20, .ref a21]))] sz) := by
  refine begin_ (Qc := fun A => qI (BX11_made_1 D k a0 a1 a2 a3 a4 a5 a6 a7 a8 a9 a10 a11 a12 a13 a14 a15 a16 a17 a18 a19 a20 a21 x0 x1 x2 A) A) (by decide) (Nat.le_of_ble_eq_true rfl) ?_
  intro p e s m below meth c ls A hx hb hr hml hown hlocks hin hU hK hsz hP hD hS hA hl
  have hl : lv_has ls 10 [(0, .ref a0), (1, .int x0), (2, .int x1), (3, .int x2)] := hl
  clear hsz
  refine lv_iload_n hx hb dX11_made_0 rfl (lv_at hl 1 rfl) ?_
  refine lv_i2l (v := x0.toInt64) hx hb dX11_made_1 rfl ?_
  refine lv_lconst (v := 0) hx hb dX11_made_2 (by decide) ?_
  refine lv_ldc2 hx hb hown (hU _ w898) dX11_made_3 ?_
  refine cI (rS (As := [.long x0.toInt64, .long 0, .long 3]) (rest := []) (wc := []) hx hb hml hown hU hK hP hD [] rfl (by decide) (cX11_in_2 l D k _ (x0.toInt64)) w901 w899 w900 w72 hdX11_in ⟨rfl, rfl⟩ ⟨Nat.le_of_ble_eq_true rfl, Nat.le_of_ble_eq_true rfl⟩ rfl hl.1 (Nat.le_of_ble_eq_true rfl) dX11_made_6 ⟨Nat.le_of_ble_eq_true rfl, Nat.le_of_ble_eq_true rfl⟩) hP hD hS hA (wr := [(a0, .inr (8, [.int 2, .int 0, .int 1, .int 0, .int 0, .int 0, .ref a1, .ref a2, .int 0, .int 0, .ref a3, .ref a4, .ref a5, .ref a6, .ref a7, .ref a8, .ref a9, .int 0, .int 0, .int 0, .ref a10, .ref a11, .ref a12, .ref a13, .int 0, .int 0, .ref a14, .ref a15, .ref a16, .ref a17, .int 0, .int 0, .ref a18, .ref a19, .ref a20, .ref a21]))]) [] [0] rfl rfl (by decide) (by decide) (fun r1 H locs hB J hS => ?_)
  rcases hB with ⟨c_2, rfl, hP1, hD1⟩ | ⟨c_3, c_4, rfl, hP1, hD1⟩ | ⟨c_5, c_6, rfl, hP1, hD1⟩
  · skip
    obtain ⟨hP, hD⟩ := J _ hP1 hD1
    have hP : va_P D cl0 [(a0, .inr (8, [.int 2, .int 0, .int 1, .int 0, .int 0, .int 0, .ref a1, .ref a2, .int 0, .int 0, .ref a3, .ref a4, .ref a5, .ref a6, .ref a7, .ref a8, .ref a9, .int 0, .int 0, .int 0, .ref a10, .ref a11, .ref a12, .ref a13, .int 0, .int 0, .ref a14, .ref a15, .ref a16, .ref a17, .int 0, .int 0, .ref a18, .ref a19, .ref a20, .ref a21]))] H := hP
    have hD : va_D A [(a0, .inr (8, [.int 2, .int 0, .int 1, .int 0, .int 0, .int 0, .ref a1, .ref a2, .int 0, .int 0, .ref a3, .ref a4, .ref a5, .ref a6, .ref a7, .ref a8, .ref a9, .int 0, .int 0, .int 0, .ref a10, .ref a11, .ref a12, .ref a13, .int 0, .int 0, .ref a14, .ref a15, .ref a16, .ref a17, .int 0, .int 0, .ref a18, .ref a19, .ref a20, .ref a21]))] := hD
    refine lv_if_eq (tgt := 32) hx hb dX11_made_9 (by decide) (fun _ => ?_) (fun cc => absurd (by decide +kernel) cc)
    refine lv_iconst (v := (-1)) hx hb dX11_made_32 (by decide) ?_
    exact retI (v := (-1)) hx hb hr hlocks hS (show ((-1) : Int32) = F_made x0 x1 x2 by rfl) dX11_made_33
  · skip
    obtain ⟨hP, hD⟩ := J _ hP1 hD1
    have hP : va_P D cl0 [(a0, .inr (8, [.int 2, .int 0, .int 1, .int 0, .int 0, .int 0, .ref a1, .ref a2, .int 0, .int 0, .ref a3, .ref a4, .ref a5, .ref a6, .ref a7, .ref a8, .ref a9, .int 0, .int 0, .int 0, .ref a10, .ref a11, .ref a12, .ref a13, .int 0, .int 0, .ref a14, .ref a15, .ref a16, .ref a17, .int 0, .int 0, .ref a18, .ref a19, .ref a20, .ref a21]))] H := hP
    have hD : va_D A [(a0, .inr (8, [.int 2, .int 0, .int 1, .int 0, .int 0, .int 0, .ref a1, .ref a2, .int 0, .int 0, .ref a3, .ref a4, .ref a5, .ref a6, .ref a7, .ref a8, .ref a9, .int 0, .int 0, .int 0, .ref a10, .ref a11, .ref a12, .ref a13, .int 0, .int 0, .ref a14, .ref a15, .ref a16, .ref a17, .int 0, .int 0, .ref a18, .ref a19, .ref a20, .ref a21]))] := hD
    refine lv_if_eq (tgt := 32) hx hb dX11_made_9 (by decide) (fun _ => ?_) (fun cc => absurd (by decide +kernel) cc)
    refine lv_iconst (v := (-1)) hx hb dX11_made_32 (by decide) ?_
    exact retI (v := (-1)) hx hb hr hlocks hS (show ((-1) : Int32) = F_made x0 x1 x2 by rfl) dX11_made_33
  · skip
    obtain ⟨hP, hD⟩ := J _ hP1 hD1
    have hP : va_P D cl0 [(a0, .inr (8, [.int 2, .int 0, .int 1, .int 0, .int 0, .int 0, .ref a1, .ref a2, .int 0, .int 0, .ref a3, .ref a4, .ref a5, .ref a6, .ref a7, .ref a8, .ref a9, .int 0, .int 0, .int 0, .ref a10, .ref a11, .ref a12, .ref a13, .int 0, .int 0, .ref a14, .ref a15, .ref a16, .ref a17, .int 0, .int 0, .ref a18, .ref a19, .ref a20, .ref a21]))] H := hP
    have hD : va_D A [(a0, .inr (8, [.int 2, .int 0, .int 1, .int 0, .int 0, .int 0, .ref a1, .ref a2, .int 0, .int 0, .ref a3, .ref a4, .ref a5, .ref a6, .ref a7, .ref a8, .ref a9, .int 0, .int 0, .int 0, .ref a10, .ref a11, .ref a12, .ref a13, .int 0, .int 0, .ref a14, .ref a15, .ref a16, .ref a17, .int 0, .int 0, .ref a18, .ref a19, .ref a20, .ref a21]))] := hD
    refine lv_if_eq (tgt := 32) hx hb dX11_made_9 (by decide) (fun cc => absurd cc (by decide +kernel)) (fun _ => ?_)
    refine lv_aload_n hx hb dX11_made_12 rfl (lv_at hl 0 rfl) ?_
    refine lv_iload_n hx hb dX11_made_13 rfl (lv_at hl 2 rfl) ?_
    refine cI (rV (q0 := 0) (ci := 8) (As := [.int x1]) (rest := []) (wc := [(a0, .inr (8, [.int 2, .int 0, .int 1, .int 0, .int 0, .int 0, .ref a1, .ref a2, .int 0, .int 0, .ref a3, .ref a4, .ref a5, .ref a6, .ref a7, .ref a8, .ref a9, .int 0, .int 0, .int 0, .ref a10, .ref a11, .ref a12, .ref a13, .int 0, .int 0, .ref a14, .ref a15, .ref a16, .ref a17, .int 0, .int 0, .ref a18, .ref a19, .ref a20, .ref a21]))]) hx hb hml hown hU hK hP hD rfl rfl [0] rfl (by decide) (cX11_isGen_1 l D k _ a0 a1 a2 a3 a4 a5 a6 a7 a8 a9 a10 a11 a12 a13 a14 a15 a16 a17 a18 a19 a20 a21 (x1)) w935 w932 w934 w31 w72 hdX11_isGen ⟨rfl, rfl⟩ ⟨Nat.le_of_ble_eq_true rfl, Nat.le_of_ble_eq_true rfl⟩ rfl hl.1 (Nat.le_of_ble_eq_true rfl) dX11_made_14 ⟨Nat.le_of_ble_eq_true rfl, Nat.le_of_ble_eq_true rfl⟩) hP hD hS hA (wr := []) [0] [] rfl rfl (by decide) (by decide) (fun r7 H locs hB J hS => ?_)
    rcases hB with ⟨c_8, rfl, hP1, hD1⟩ | ⟨c_9, c_10, rfl, hP1, hD1⟩
    · skip
      obtain ⟨hP, hD⟩ := J _ hP1 hD1
      have hP : va_P D cl0 [(a0, .inr (8, [.int 2, .int 0, .int 1, .int 0, .int 0, .int 0, .ref a1, .ref a2, .int 0, .int 0, .ref a3, .ref a4, .ref a5, .ref a6, .ref a7, .ref a8, .ref a9, .int 0, .int 0, .int 0, .ref a10, .ref a11, .ref a12, .ref a13, .int 0, .int 0, .ref a14, .ref a15, .ref a16, .ref a17, .int 0, .int 0, .ref a18, .ref a19, .ref a20, .ref a21]))] H := hP
      have hD : va_D A [(a0, .inr (8, [.int 2, .int 0, .int 1, .int 0, .int 0, .int 0, .ref a1, .ref a2, .int 0, .int 0, .ref a3, .ref a4, .ref a5, .ref a6, .ref a7, .ref a8, .ref a9, .int 0, .int 0, .int 0, .ref a10, .ref a11, .ref a12, .ref a13, .int 0, .int 0, .ref a14, .ref a15, .ref a16, .ref a17, .int 0, .int 0, .ref a18, .ref a19, .ref a20, .ref a21]))] := hD
      refine lv_if_eq (tgt := 32) hx hb dX11_made_17 (by decide) (fun _ => ?_) (fun cc => absurd (by decide +kernel) cc)
      refine lv_iconst (v := (-1)) hx hb dX11_made_32 (by decide) ?_
      exact retI (v := (-1)) hx hb hr hlocks hS (show ((-1) : Int32) = F_made x0 x1 x2 by rfl) dX11_made_33
    · skip
      obtain ⟨hP, hD⟩ := J _ hP1 hD1
      have hP : va_P D cl0 [(a0, .inr (8, [.int 2, .int 0, .int 1, .int 0, .int 0, .int 0, .ref a1, .ref a2, .int 0, .int 0, .ref a3, .ref a4, .ref a5, .ref a6, .ref a7, .ref a8, .ref a9, .int 0, .int 0, .int 0, .ref a10, .ref a11, .ref a12, .ref a13, .int 0, .int 0, .ref a14, .ref a15, .ref a16, .ref a17, .int 0, .int 0, .ref a18, .ref a19, .ref a20, .ref a21]))] H := hP
      have hD : va_D A [(a0, .inr (8, [.int 2, .int 0, .int 1, .int 0, .int 0, .int 0, .ref a1, .ref a2, .int 0, .int 0, .ref a3, .ref a4, .ref a5, .ref a6, .ref a7, .ref a8, .ref a9, .int 0, .int 0, .int 0, .ref a10, .ref a11, .ref a12, .ref a13, .int 0, .int 0, .ref a14, .ref a15, .ref a16, .ref a17, .int 0, .int 0, .ref a18, .ref a19, .ref a20, .ref a21]))] := hD
      refine lv_if_eq (tgt := 32) hx hb dX11_made_17 (by decide) (fun _ => ?_) (fun cc => absurd (by decide +kernel) cc)
      refine lv_iconst (v := (-1)) hx hb dX11_made_32 (by decide) ?_
      exact retI (v := (-1)) hx hb hr hlocks hS (show ((-1) : Int32) = F_made x0 x1 x2 by rfl) dX11_made_33
abbrev BX11_drop_1 (D : va_G) (k : Nat → ClassId) (a0 a1 a2 a3 a4 a5 a6 a7 a8 a9 a10 a11 a12 a13 a14 a15 a16 a17 a18 a19 a20 a21 : Nat) (A : Nat → Prop) (r : Int32) (H : Heap) : Prop := r = F_drop
set_option maxHeartbeats 4000000 in
set_option maxRecDepth 100000 in
theorem cX11_drop_1 (l : Launch) (D : va_G) (k : Nat → ClassId) (sz : Nat) (a0 a1 a2 a3 a4 a5 a6 a7 a8 a9 a10 a11 a12 a13 a14 a15 a16 a17 a18 a19 a20 a21 : Nat) : Met l yX11_drop (Cond.code yX11_drop cX11_drop 1 (some .int) :: uw) ({ frames := 0, cells := 0, slots := 0, locals := 0 }) (pC D k sz [.ref a0] [(a0, .inr (8, [.int 2, .int 0, .int 1, .int 0, .int 0, .int 0, .ref a1, .ref a2, .int 0, .int 0, .ref a3, .ref a4, .ref a5, .ref a6, .ref a7, .ref a8, .ref a9, .int 0, .int 0, .int 0, .ref a10, .ref a11, .ref a12, .ref a13, .int 0, .int 0, .ref a14, .ref a15, .ref a16, .ref a17, .int 0, .int 0, .ref a18, .ref a19, .ref a20, .ref a21]))]) (qI (BX11_drop_1 D k a0 a1 a2 a3 a4 a5 a6 a7 a8 a9 a10 a11 a12 a13 a14 a15 a16 a17 a18 a19 a20 a21 (va_A [(a0, .inr (8, [.int 2, .int 0, .int 1, .int 0, .int 0, .int 0, .ref a1, .ref a2, .int 0, .int 0, .ref a3, .ref a4, .ref a5, .ref a6, .ref a7, .ref a8, .ref a9, .int 0, .int 0, .int 0, .ref a10, .ref a11, .ref a12, .ref a13, .int 0, .int 0, .ref a14, .ref a15, .ref a16, .ref a17, .int 0, .int 0, .ref a18, .ref a19, .ref a20, .ref a21]))] sz)) (va_A [(a0, .inr (8, [.int 2, .int 0, .int 1, .int 0, .int 0, .int 0, .ref a1, .ref a2, .int 0, .int 0, .ref a3, .ref a4, .ref a5, .ref a6, .ref a7, .ref a8, .ref a9, .int 0, .int 0, .int 0, .ref a10, .ref a11, .ref a12, .ref a13, .int 0, .int 0, .ref a14, .ref a15, .ref a16, .ref a17, .int 0, .int 0, .ref a18, .ref a19, .ref a20, .ref a21]))] sz)) 0 0 (va_A [(a0, .inr (8, [.int 2, .int 0, .int 1, .int 0, .int 0, .int 0, .ref a1, .ref a2, .int 0, .int 0, .ref a3, .ref a4, .ref a5, .ref a6, .ref a7, .ref a8, .ref a9, .int 0, .int 0, .int 0, .ref a10, .ref a11, .ref a12, .ref a13, .int 0, .int 0, .ref a14, .ref a15, .ref a16, .ref a17, .int 0, .int 0, .ref a18, .ref a19, .ref a20, .ref a21]))] sz) := by
  refine begin_ (Qc := fun A => qI (BX11_drop_1 D k a0 a1 a2 a3 a4 a5 a6 a7 a8 a9 a10 a11 a12 a13 a14 a15 a16 a17 a18 a19 a20 a21 A) A) (by decide) (Nat.le_of_ble_eq_true rfl) ?_
  intro p e s m below meth c ls A hx hb hr hml hown hlocks hin hU hK hsz hP hD hS hA hl
  have hl : lv_has ls 1 [(0, .ref a0)] := hl
  clear hsz
  refine lv_aload_n hx hb dX11_drop_0 rfl (lv_at hl 0 rfl) ?_
  refine va_get (D := D) (ci := 8) (v := .int 0) (C := RX11) (T := TX11) (N := 36) hx hb hU iX11 hown hK.1 hP 0 rfl rfl 1 (by decide) (hU _ w786) (fun _ h9 => h9) rfl dX11_drop_1 ?_
  refine lv_if_ne (tgt := 10) hx hb dX11_drop_4 (by decide) (fun cc => absurd (by decide +kernel) cc) (fun _ => ?_)
  refine lv_bipush (v := (-3)) hx hb dX11_drop_7 (by decide) ?_
  exact retI (v := (-3)) hx hb hr hlocks hS (show ((-3) : Int32) = F_drop by rfl) dX11_drop_9
abbrev BX11_at_1 (D : va_G) (k : Nat → ClassId) (a0 a1 a2 a3 a4 a5 a6 a7 a8 a9 a10 a11 a12 a13 a14 a15 a16 a17 a18 a19 a20 a21 : Nat) (x0 : Int32) (x1 : Int32) (x2 : Int32) (A : Nat → Prop) (r : Int32) (H : Heap) : Prop := r = F_at x0 x1 x2
set_option maxHeartbeats 4000000 in
set_option maxRecDepth 100000 in
theorem cX11_at_1 (l : Launch) (D : va_G) (k : Nat → ClassId) (sz : Nat) (a0 a1 a2 a3 a4 a5 a6 a7 a8 a9 a10 a11 a12 a13 a14 a15 a16 a17 a18 a19 a20 a21 : Nat) (x0 : Int32) (x1 : Int32) (x2 : Int32) : Met l yX11_at (Cond.code yX11_at cX11_at 4 (some .int) :: uw) ({ frames := 2, cells := 0, slots := 0, locals := 46 }) (pC D k sz [.ref a0, .int x0, .int x1, .int x2] [(a0, .inr (8, [.int 2, .int 0, .int 1, .int 0, .int 0, .int 0, .ref a1, .ref a2, .int 0, .int 0, .ref a3, .ref a4, .ref a5, .ref a6, .ref a7, .ref a8, .ref a9, .int 0, .int 0, .int 0, .ref a10, .ref a11, .ref a12, .ref a13, .int 0, .int 0, .ref a14, .ref a15, .ref a16, .ref a17, .int 0, .int 0, .ref a18, .ref a19, .ref a20, .ref a21]))]) (qI (BX11_at_1 D k a0 a1 a2 a3 a4 a5 a6 a7 a8 a9 a10 a11 a12 a13 a14 a15 a16 a17 a18 a19 a20 a21 x0 x1 x2 (va_A [(a0, .inr (8, [.int 2, .int 0, .int 1, .int 0, .int 0, .int 0, .ref a1, .ref a2, .int 0, .int 0, .ref a3, .ref a4, .ref a5, .ref a6, .ref a7, .ref a8, .ref a9, .int 0, .int 0, .int 0, .ref a10, .ref a11, .ref a12, .ref a13, .int 0, .int 0, .ref a14, .ref a15, .ref a16, .ref a17, .int 0, .int 0, .ref a18, .ref a19, .ref a20, .ref a21]))] sz)) (va_A [(a0, .inr (8, [.int 2, .int 0, .int 1, .int 0, .int 0, .int 0, .ref a1, .ref a2, .int 0, .int 0, .ref a3, .ref a4, .ref a5, .ref a6, .ref a7, .ref a8, .ref a9, .int 0, .int 0, .int 0, .ref a10, .ref a11, .ref a12, .ref a13, .int 0, .int 0, .ref a14, .ref a15, .ref a16, .ref a17, .int 0, .int 0, .ref a18, .ref a19, .ref a20, .ref a21]))] sz)) 0 0 (va_A [(a0, .inr (8, [.int 2, .int 0, .int 1, .int 0, .int 0, .int 0, .ref a1, .ref a2, .int 0, .int 0, .ref a3, .ref a4, .ref a5, .ref a6, .ref a7, .ref a8, .ref a9, .int 0, .int 0, .int 0, .ref a10, .ref a11, .ref a12, .ref a13, .int 0, .int 0, .ref a14, .ref a15, .ref a16, .ref a17, .int 0, .int 0, .ref a18, .ref a19, .ref a20, .ref a21]))] sz) := by
  refine begin_ (Qc := fun A => qI (BX11_at_1 D k a0 a1 a2 a3 a4 a5 a6 a7 a8 a9 a10 a11 a12 a13 a14 a15 a16 a17 a18 a19 a20 a21 x0 x1 x2 A) A) (by decide) (Nat.le_of_ble_eq_true rfl) ?_
  intro p e s m below meth c ls A hx hb hr hml hown hlocks hin hU hK hsz hP hD hS hA hl
  have hl : lv_has ls 4 [(0, .ref a0), (1, .int x0), (2, .int x1), (3, .int x2)] := hl
  clear hsz
  refine lv_aload_n hx hb dX11_at_0 rfl (lv_at hl 0 rfl) ?_
  refine lv_iload_n hx hb dX11_at_1 rfl (lv_at hl 1 rfl) ?_
  refine cI (rV (q0 := 0) (ci := 8) (As := [.int x0]) (rest := []) (wc := [(a0, .inr (8, [.int 2, .int 0, .int 1, .int 0, .int 0, .int 0, .ref a1, .ref a2, .int 0, .int 0, .ref a3, .ref a4, .ref a5, .ref a6, .ref a7, .ref a8, .ref a9, .int 0, .int 0, .int 0, .ref a10, .ref a11, .ref a12, .ref a13, .int 0, .int 0, .ref a14, .ref a15, .ref a16, .ref a17, .int 0, .int 0, .ref a18, .ref a19, .ref a20, .ref a21]))]) hx hb hml hown hU hK hP hD rfl rfl [0] rfl (by decide) (cX11_isGen_1 l D k _ a0 a1 a2 a3 a4 a5 a6 a7 a8 a9 a10 a11 a12 a13 a14 a15 a16 a17 a18 a19 a20 a21 (x0)) w935 w932 w934 w31 w72 hdX11_isGen ⟨rfl, rfl⟩ ⟨Nat.le_of_ble_eq_true rfl, Nat.le_of_ble_eq_true rfl⟩ rfl hl.1 (Nat.le_of_ble_eq_true rfl) dX11_at_2 ⟨Nat.le_of_ble_eq_true rfl, Nat.le_of_ble_eq_true rfl⟩) hP hD hS hA (wr := []) [0] [] rfl rfl (by decide) (by decide) (fun r1 H locs hB J hS => ?_)
  rcases hB with ⟨c_2, rfl, hP1, hD1⟩ | ⟨c_3, c_4, rfl, hP1, hD1⟩
  · skip
    obtain ⟨hP, hD⟩ := J _ hP1 hD1
    have hP : va_P D cl0 [(a0, .inr (8, [.int 2, .int 0, .int 1, .int 0, .int 0, .int 0, .ref a1, .ref a2, .int 0, .int 0, .ref a3, .ref a4, .ref a5, .ref a6, .ref a7, .ref a8, .ref a9, .int 0, .int 0, .int 0, .ref a10, .ref a11, .ref a12, .ref a13, .int 0, .int 0, .ref a14, .ref a15, .ref a16, .ref a17, .int 0, .int 0, .ref a18, .ref a19, .ref a20, .ref a21]))] H := hP
    have hD : va_D A [(a0, .inr (8, [.int 2, .int 0, .int 1, .int 0, .int 0, .int 0, .ref a1, .ref a2, .int 0, .int 0, .ref a3, .ref a4, .ref a5, .ref a6, .ref a7, .ref a8, .ref a9, .int 0, .int 0, .int 0, .ref a10, .ref a11, .ref a12, .ref a13, .int 0, .int 0, .ref a14, .ref a15, .ref a16, .ref a17, .int 0, .int 0, .ref a18, .ref a19, .ref a20, .ref a21]))] := hD
    refine lv_if_eq (tgt := 46) hx hb dX11_at_5 (by decide) (fun _ => ?_) (fun cc => absurd (by decide +kernel) cc)
    refine lv_iconst (v := (-1)) hx hb dX11_at_46 (by decide) ?_
    exact retI (v := (-1)) hx hb hr hlocks hS (show ((-1) : Int32) = F_at x0 x1 x2 by rfl) dX11_at_47
  · skip
    obtain ⟨hP, hD⟩ := J _ hP1 hD1
    have hP : va_P D cl0 [(a0, .inr (8, [.int 2, .int 0, .int 1, .int 0, .int 0, .int 0, .ref a1, .ref a2, .int 0, .int 0, .ref a3, .ref a4, .ref a5, .ref a6, .ref a7, .ref a8, .ref a9, .int 0, .int 0, .int 0, .ref a10, .ref a11, .ref a12, .ref a13, .int 0, .int 0, .ref a14, .ref a15, .ref a16, .ref a17, .int 0, .int 0, .ref a18, .ref a19, .ref a20, .ref a21]))] H := hP
    have hD : va_D A [(a0, .inr (8, [.int 2, .int 0, .int 1, .int 0, .int 0, .int 0, .ref a1, .ref a2, .int 0, .int 0, .ref a3, .ref a4, .ref a5, .ref a6, .ref a7, .ref a8, .ref a9, .int 0, .int 0, .int 0, .ref a10, .ref a11, .ref a12, .ref a13, .int 0, .int 0, .ref a14, .ref a15, .ref a16, .ref a17, .int 0, .int 0, .ref a18, .ref a19, .ref a20, .ref a21]))] := hD
    refine lv_if_eq (tgt := 46) hx hb dX11_at_5 (by decide) (fun _ => ?_) (fun cc => absurd (by decide +kernel) cc)
    refine lv_iconst (v := (-1)) hx hb dX11_at_46 (by decide) ?_
    exact retI (v := (-1)) hx hb hr hlocks hS (show ((-1) : Int32) = F_at x0 x1 x2 by rfl) dX11_at_47
abbrev BX11_of_1 (D : va_G) (k : Nat → ClassId) (a0 a1 a2 a3 a4 a5 a6 a7 a8 a9 a10 a11 a12 a13 a14 a15 a16 a17 a18 a19 a20 a21 : Nat) (x0 : Int32) (x1 : Int32) (A : Nat → Prop) (r : Int32) (H : Heap) : Prop := r = F_of x0 x1
set_option maxHeartbeats 4000000 in
set_option maxRecDepth 100000 in
theorem cX11_of_1 (l : Launch) (D : va_G) (k : Nat → ClassId) (sz : Nat) (a0 a1 a2 a3 a4 a5 a6 a7 a8 a9 a10 a11 a12 a13 a14 a15 a16 a17 a18 a19 a20 a21 : Nat) (x0 : Int32) (x1 : Int32) : Met l yX11_of (Cond.code yX11_of cX11_of 3 (some .int) :: uw) ({ frames := 2, cells := 0, slots := 0, locals := 46 }) (pC D k sz [.ref a0, .int x0, .int x1] [(a0, .inr (8, [.int 2, .int 0, .int 1, .int 0, .int 0, .int 0, .ref a1, .ref a2, .int 0, .int 0, .ref a3, .ref a4, .ref a5, .ref a6, .ref a7, .ref a8, .ref a9, .int 0, .int 0, .int 0, .ref a10, .ref a11, .ref a12, .ref a13, .int 0, .int 0, .ref a14, .ref a15, .ref a16, .ref a17, .int 0, .int 0, .ref a18, .ref a19, .ref a20, .ref a21]))]) (qI (BX11_of_1 D k a0 a1 a2 a3 a4 a5 a6 a7 a8 a9 a10 a11 a12 a13 a14 a15 a16 a17 a18 a19 a20 a21 x0 x1 (va_A [(a0, .inr (8, [.int 2, .int 0, .int 1, .int 0, .int 0, .int 0, .ref a1, .ref a2, .int 0, .int 0, .ref a3, .ref a4, .ref a5, .ref a6, .ref a7, .ref a8, .ref a9, .int 0, .int 0, .int 0, .ref a10, .ref a11, .ref a12, .ref a13, .int 0, .int 0, .ref a14, .ref a15, .ref a16, .ref a17, .int 0, .int 0, .ref a18, .ref a19, .ref a20, .ref a21]))] sz)) (va_A [(a0, .inr (8, [.int 2, .int 0, .int 1, .int 0, .int 0, .int 0, .ref a1, .ref a2, .int 0, .int 0, .ref a3, .ref a4, .ref a5, .ref a6, .ref a7, .ref a8, .ref a9, .int 0, .int 0, .int 0, .ref a10, .ref a11, .ref a12, .ref a13, .int 0, .int 0, .ref a14, .ref a15, .ref a16, .ref a17, .int 0, .int 0, .ref a18, .ref a19, .ref a20, .ref a21]))] sz)) 0 0 (va_A [(a0, .inr (8, [.int 2, .int 0, .int 1, .int 0, .int 0, .int 0, .ref a1, .ref a2, .int 0, .int 0, .ref a3, .ref a4, .ref a5, .ref a6, .ref a7, .ref a8, .ref a9, .int 0, .int 0, .int 0, .ref a10, .ref a11, .ref a12, .ref a13, .int 0, .int 0, .ref a14, .ref a15, .ref a16, .ref a17, .int 0, .int 0, .ref a18, .ref a19, .ref a20, .ref a21]))] sz) := by
  refine begin_ (Qc := fun A => qI (BX11_of_1 D k a0 a1 a2 a3 a4 a5 a6 a7 a8 a9 a10 a11 a12 a13 a14 a15 a16 a17 a18 a19 a20 a21 x0 x1 A) A) (by decide) (Nat.le_of_ble_eq_true rfl) ?_
  intro p e s m below meth c ls A hx hb hr hml hown hlocks hin hU hK hsz hP hD hS hA hl
  have hl : lv_has ls 3 [(0, .ref a0), (1, .int x0), (2, .int x1)] := hl
  clear hsz
  refine lv_aload_n hx hb dX11_of_0 rfl (lv_at hl 0 rfl) ?_
  refine lv_iload_n hx hb dX11_of_1 rfl (lv_at hl 1 rfl) ?_
  refine cI (rV (q0 := 0) (ci := 8) (As := [.int x0]) (rest := []) (wc := [(a0, .inr (8, [.int 2, .int 0, .int 1, .int 0, .int 0, .int 0, .ref a1, .ref a2, .int 0, .int 0, .ref a3, .ref a4, .ref a5, .ref a6, .ref a7, .ref a8, .ref a9, .int 0, .int 0, .int 0, .ref a10, .ref a11, .ref a12, .ref a13, .int 0, .int 0, .ref a14, .ref a15, .ref a16, .ref a17, .int 0, .int 0, .ref a18, .ref a19, .ref a20, .ref a21]))]) hx hb hml hown hU hK hP hD rfl rfl [0] rfl (by decide) (cX11_isGen_1 l D k _ a0 a1 a2 a3 a4 a5 a6 a7 a8 a9 a10 a11 a12 a13 a14 a15 a16 a17 a18 a19 a20 a21 (x0)) w935 w932 w934 w31 w72 hdX11_isGen ⟨rfl, rfl⟩ ⟨Nat.le_of_ble_eq_true rfl, Nat.le_of_ble_eq_true rfl⟩ rfl hl.1 (Nat.le_of_ble_eq_true rfl) dX11_of_2 ⟨Nat.le_of_ble_eq_true rfl, Nat.le_of_ble_eq_true rfl⟩) hP hD hS hA (wr := []) [0] [] rfl rfl (by decide) (by decide) (fun r1 H locs hB J hS => ?_)
  rcases hB with ⟨c_2, rfl, hP1, hD1⟩ | ⟨c_3, c_4, rfl, hP1, hD1⟩
  · skip
    obtain ⟨hP, hD⟩ := J _ hP1 hD1
    have hP : va_P D cl0 [(a0, .inr (8, [.int 2, .int 0, .int 1, .int 0, .int 0, .int 0, .ref a1, .ref a2, .int 0, .int 0, .ref a3, .ref a4, .ref a5, .ref a6, .ref a7, .ref a8, .ref a9, .int 0, .int 0, .int 0, .ref a10, .ref a11, .ref a12, .ref a13, .int 0, .int 0, .ref a14, .ref a15, .ref a16, .ref a17, .int 0, .int 0, .ref a18, .ref a19, .ref a20, .ref a21]))] H := hP
    have hD : va_D A [(a0, .inr (8, [.int 2, .int 0, .int 1, .int 0, .int 0, .int 0, .ref a1, .ref a2, .int 0, .int 0, .ref a3, .ref a4, .ref a5, .ref a6, .ref a7, .ref a8, .ref a9, .int 0, .int 0, .int 0, .ref a10, .ref a11, .ref a12, .ref a13, .int 0, .int 0, .ref a14, .ref a15, .ref a16, .ref a17, .int 0, .int 0, .ref a18, .ref a19, .ref a20, .ref a21]))] := hD
    refine lv_if_ne (tgt := 10) hx hb dX11_of_5 (by decide) (fun cc => absurd (by decide +kernel) cc) (fun _ => ?_)
    refine lv_iconst (v := (-1)) hx hb dX11_of_8 (by decide) ?_
    exact retI (v := (-1)) hx hb hr hlocks hS (show ((-1) : Int32) = F_of x0 x1 by rfl) dX11_of_9
  · skip
    obtain ⟨hP, hD⟩ := J _ hP1 hD1
    have hP : va_P D cl0 [(a0, .inr (8, [.int 2, .int 0, .int 1, .int 0, .int 0, .int 0, .ref a1, .ref a2, .int 0, .int 0, .ref a3, .ref a4, .ref a5, .ref a6, .ref a7, .ref a8, .ref a9, .int 0, .int 0, .int 0, .ref a10, .ref a11, .ref a12, .ref a13, .int 0, .int 0, .ref a14, .ref a15, .ref a16, .ref a17, .int 0, .int 0, .ref a18, .ref a19, .ref a20, .ref a21]))] H := hP
    have hD : va_D A [(a0, .inr (8, [.int 2, .int 0, .int 1, .int 0, .int 0, .int 0, .ref a1, .ref a2, .int 0, .int 0, .ref a3, .ref a4, .ref a5, .ref a6, .ref a7, .ref a8, .ref a9, .int 0, .int 0, .int 0, .ref a10, .ref a11, .ref a12, .ref a13, .int 0, .int 0, .ref a14, .ref a15, .ref a16, .ref a17, .int 0, .int 0, .ref a18, .ref a19, .ref a20, .ref a21]))] := hD
    refine lv_if_ne (tgt := 10) hx hb dX11_of_5 (by decide) (fun cc => absurd (by decide +kernel) cc) (fun _ => ?_)
    refine lv_iconst (v := (-1)) hx hb dX11_of_8 (by decide) ?_
    exact retI (v := (-1)) hx hb hr hlocks hS (show ((-1) : Int32) = F_of x0 x1 by rfl) dX11_of_9
abbrev BX11_character_1 (D : va_G) (k : Nat → ClassId) (a0 a1 a2 a3 a4 a5 a6 a7 a8 a9 a10 a11 a12 a13 a14 a15 a16 a17 a18 a19 a20 a21 : Nat) (x0 : Int32) (x1 : Int32) (A : Nat → Prop) (r : Int32) (H : Heap) : Prop := r = F_character x0 x1
set_option maxHeartbeats 4000000 in
set_option maxRecDepth 100000 in
theorem cX11_character_1 (l : Launch) (D : va_G) (k : Nat → ClassId) (sz : Nat) (a0 a1 a2 a3 a4 a5 a6 a7 a8 a9 a10 a11 a12 a13 a14 a15 a16 a17 a18 a19 a20 a21 : Nat) (x0 : Int32) (x1 : Int32) : Met l yX11_character (Cond.code yX11_character cX11_character 3 (some .int) :: uw) ({ frames := 2, cells := 0, slots := 0, locals := 46 }) (pC D k sz [.ref a0, .int x0, .int x1] [(a0, .inr (8, [.int 2, .int 0, .int 1, .int 0, .int 0, .int 0, .ref a1, .ref a2, .int 0, .int 0, .ref a3, .ref a4, .ref a5, .ref a6, .ref a7, .ref a8, .ref a9, .int 0, .int 0, .int 0, .ref a10, .ref a11, .ref a12, .ref a13, .int 0, .int 0, .ref a14, .ref a15, .ref a16, .ref a17, .int 0, .int 0, .ref a18, .ref a19, .ref a20, .ref a21]))]) (qI (BX11_character_1 D k a0 a1 a2 a3 a4 a5 a6 a7 a8 a9 a10 a11 a12 a13 a14 a15 a16 a17 a18 a19 a20 a21 x0 x1 (va_A [(a0, .inr (8, [.int 2, .int 0, .int 1, .int 0, .int 0, .int 0, .ref a1, .ref a2, .int 0, .int 0, .ref a3, .ref a4, .ref a5, .ref a6, .ref a7, .ref a8, .ref a9, .int 0, .int 0, .int 0, .ref a10, .ref a11, .ref a12, .ref a13, .int 0, .int 0, .ref a14, .ref a15, .ref a16, .ref a17, .int 0, .int 0, .ref a18, .ref a19, .ref a20, .ref a21]))] sz)) (va_A [(a0, .inr (8, [.int 2, .int 0, .int 1, .int 0, .int 0, .int 0, .ref a1, .ref a2, .int 0, .int 0, .ref a3, .ref a4, .ref a5, .ref a6, .ref a7, .ref a8, .ref a9, .int 0, .int 0, .int 0, .ref a10, .ref a11, .ref a12, .ref a13, .int 0, .int 0, .ref a14, .ref a15, .ref a16, .ref a17, .int 0, .int 0, .ref a18, .ref a19, .ref a20, .ref a21]))] sz)) 0 0 (va_A [(a0, .inr (8, [.int 2, .int 0, .int 1, .int 0, .int 0, .int 0, .ref a1, .ref a2, .int 0, .int 0, .ref a3, .ref a4, .ref a5, .ref a6, .ref a7, .ref a8, .ref a9, .int 0, .int 0, .int 0, .ref a10, .ref a11, .ref a12, .ref a13, .int 0, .int 0, .ref a14, .ref a15, .ref a16, .ref a17, .int 0, .int 0, .ref a18, .ref a19, .ref a20, .ref a21]))] sz) := by
  refine begin_ (Qc := fun A => qI (BX11_character_1 D k a0 a1 a2 a3 a4 a5 a6 a7 a8 a9 a10 a11 a12 a13 a14 a15 a16 a17 a18 a19 a20 a21 x0 x1 A) A) (by decide) (Nat.le_of_ble_eq_true rfl) ?_
  intro p e s m below meth c ls A hx hb hr hml hown hlocks hin hU hK hsz hP hD hS hA hl
  have hl : lv_has ls 3 [(0, .ref a0), (1, .int x0), (2, .int x1)] := hl
  clear hsz
  refine lv_aload_n hx hb dX11_character_0 rfl (lv_at hl 0 rfl) ?_
  refine lv_iload_n hx hb dX11_character_1 rfl (lv_at hl 1 rfl) ?_
  refine cI (rV (q0 := 0) (ci := 8) (As := [.int x0]) (rest := []) (wc := [(a0, .inr (8, [.int 2, .int 0, .int 1, .int 0, .int 0, .int 0, .ref a1, .ref a2, .int 0, .int 0, .ref a3, .ref a4, .ref a5, .ref a6, .ref a7, .ref a8, .ref a9, .int 0, .int 0, .int 0, .ref a10, .ref a11, .ref a12, .ref a13, .int 0, .int 0, .ref a14, .ref a15, .ref a16, .ref a17, .int 0, .int 0, .ref a18, .ref a19, .ref a20, .ref a21]))]) hx hb hml hown hU hK hP hD rfl rfl [0] rfl (by decide) (cX11_isGen_1 l D k _ a0 a1 a2 a3 a4 a5 a6 a7 a8 a9 a10 a11 a12 a13 a14 a15 a16 a17 a18 a19 a20 a21 (x0)) w935 w932 w934 w31 w72 hdX11_isGen ⟨rfl, rfl⟩ ⟨Nat.le_of_ble_eq_true rfl, Nat.le_of_ble_eq_true rfl⟩ rfl hl.1 (Nat.le_of_ble_eq_true rfl) dX11_character_2 ⟨Nat.le_of_ble_eq_true rfl, Nat.le_of_ble_eq_true rfl⟩) hP hD hS hA (wr := []) [0] [] rfl rfl (by decide) (by decide) (fun r1 H locs hB J hS => ?_)
  rcases hB with ⟨c_2, rfl, hP1, hD1⟩ | ⟨c_3, c_4, rfl, hP1, hD1⟩
  · skip
    obtain ⟨hP, hD⟩ := J _ hP1 hD1
    have hP : va_P D cl0 [(a0, .inr (8, [.int 2, .int 0, .int 1, .int 0, .int 0, .int 0, .ref a1, .ref a2, .int 0, .int 0, .ref a3, .ref a4, .ref a5, .ref a6, .ref a7, .ref a8, .ref a9, .int 0, .int 0, .int 0, .ref a10, .ref a11, .ref a12, .ref a13, .int 0, .int 0, .ref a14, .ref a15, .ref a16, .ref a17, .int 0, .int 0, .ref a18, .ref a19, .ref a20, .ref a21]))] H := hP
    have hD : va_D A [(a0, .inr (8, [.int 2, .int 0, .int 1, .int 0, .int 0, .int 0, .ref a1, .ref a2, .int 0, .int 0, .ref a3, .ref a4, .ref a5, .ref a6, .ref a7, .ref a8, .ref a9, .int 0, .int 0, .int 0, .ref a10, .ref a11, .ref a12, .ref a13, .int 0, .int 0, .ref a14, .ref a15, .ref a16, .ref a17, .int 0, .int 0, .ref a18, .ref a19, .ref a20, .ref a21]))] := hD
    refine lv_if_eq (tgt := 22) hx hb dX11_character_5 (by decide) (fun _ => ?_) (fun cc => absurd (by decide +kernel) cc)
    refine lv_iconst (v := (-1)) hx hb dX11_character_22 (by decide) ?_
    exact retI (v := (-1)) hx hb hr hlocks hS (show ((-1) : Int32) = F_character x0 x1 by rfl) dX11_character_23
  · skip
    obtain ⟨hP, hD⟩ := J _ hP1 hD1
    have hP : va_P D cl0 [(a0, .inr (8, [.int 2, .int 0, .int 1, .int 0, .int 0, .int 0, .ref a1, .ref a2, .int 0, .int 0, .ref a3, .ref a4, .ref a5, .ref a6, .ref a7, .ref a8, .ref a9, .int 0, .int 0, .int 0, .ref a10, .ref a11, .ref a12, .ref a13, .int 0, .int 0, .ref a14, .ref a15, .ref a16, .ref a17, .int 0, .int 0, .ref a18, .ref a19, .ref a20, .ref a21]))] H := hP
    have hD : va_D A [(a0, .inr (8, [.int 2, .int 0, .int 1, .int 0, .int 0, .int 0, .ref a1, .ref a2, .int 0, .int 0, .ref a3, .ref a4, .ref a5, .ref a6, .ref a7, .ref a8, .ref a9, .int 0, .int 0, .int 0, .ref a10, .ref a11, .ref a12, .ref a13, .int 0, .int 0, .ref a14, .ref a15, .ref a16, .ref a17, .int 0, .int 0, .ref a18, .ref a19, .ref a20, .ref a21]))] := hD
    refine lv_if_eq (tgt := 22) hx hb dX11_character_5 (by decide) (fun _ => ?_) (fun cc => absurd (by decide +kernel) cc)
    refine lv_iconst (v := (-1)) hx hb dX11_character_22 (by decide) ?_
    exact retI (v := (-1)) hx hb hr hlocks hS (show ((-1) : Int32) = F_character x0 x1 by rfl) dX11_character_23
abbrev BX11_factor_1 (D : va_G) (k : Nat → ClassId) (a0 a1 a2 a3 a4 a5 a6 a7 a8 a9 a10 a11 a12 a13 a14 a15 a16 a17 a18 a19 a20 a21 : Nat) (x0 : Int32) (x1 : Int32) (A : Nat → Prop) (r : Int32) (H : Heap) : Prop := r = F_factor x0 x1
set_option maxHeartbeats 4000000 in
set_option maxRecDepth 100000 in
theorem cX11_factor_1 (l : Launch) (D : va_G) (k : Nat → ClassId) (sz : Nat) (a0 a1 a2 a3 a4 a5 a6 a7 a8 a9 a10 a11 a12 a13 a14 a15 a16 a17 a18 a19 a20 a21 : Nat) (x0 : Int32) (x1 : Int32) : Met l yX11_factor (Cond.code yX11_factor cX11_factor 5 (some .int) :: uw) ({ frames := 2, cells := 0, slots := 0, locals := 46 }) (pC D k sz [.ref a0, .int x0, .int x1] [(a0, .inr (8, [.int 2, .int 0, .int 1, .int 0, .int 0, .int 0, .ref a1, .ref a2, .int 0, .int 0, .ref a3, .ref a4, .ref a5, .ref a6, .ref a7, .ref a8, .ref a9, .int 0, .int 0, .int 0, .ref a10, .ref a11, .ref a12, .ref a13, .int 0, .int 0, .ref a14, .ref a15, .ref a16, .ref a17, .int 0, .int 0, .ref a18, .ref a19, .ref a20, .ref a21]))]) (qI (BX11_factor_1 D k a0 a1 a2 a3 a4 a5 a6 a7 a8 a9 a10 a11 a12 a13 a14 a15 a16 a17 a18 a19 a20 a21 x0 x1 (va_A [(a0, .inr (8, [.int 2, .int 0, .int 1, .int 0, .int 0, .int 0, .ref a1, .ref a2, .int 0, .int 0, .ref a3, .ref a4, .ref a5, .ref a6, .ref a7, .ref a8, .ref a9, .int 0, .int 0, .int 0, .ref a10, .ref a11, .ref a12, .ref a13, .int 0, .int 0, .ref a14, .ref a15, .ref a16, .ref a17, .int 0, .int 0, .ref a18, .ref a19, .ref a20, .ref a21]))] sz)) (va_A [(a0, .inr (8, [.int 2, .int 0, .int 1, .int 0, .int 0, .int 0, .ref a1, .ref a2, .int 0, .int 0, .ref a3, .ref a4, .ref a5, .ref a6, .ref a7, .ref a8, .ref a9, .int 0, .int 0, .int 0, .ref a10, .ref a11, .ref a12, .ref a13, .int 0, .int 0, .ref a14, .ref a15, .ref a16, .ref a17, .int 0, .int 0, .ref a18, .ref a19, .ref a20, .ref a21]))] sz)) 0 0 (va_A [(a0, .inr (8, [.int 2, .int 0, .int 1, .int 0, .int 0, .int 0, .ref a1, .ref a2, .int 0, .int 0, .ref a3, .ref a4, .ref a5, .ref a6, .ref a7, .ref a8, .ref a9, .int 0, .int 0, .int 0, .ref a10, .ref a11, .ref a12, .ref a13, .int 0, .int 0, .ref a14, .ref a15, .ref a16, .ref a17, .int 0, .int 0, .ref a18, .ref a19, .ref a20, .ref a21]))] sz) := by
  refine begin_ (Qc := fun A => qI (BX11_factor_1 D k a0 a1 a2 a3 a4 a5 a6 a7 a8 a9 a10 a11 a12 a13 a14 a15 a16 a17 a18 a19 a20 a21 x0 x1 A) A) (by decide) (Nat.le_of_ble_eq_true rfl) ?_
  intro p e s m below meth c ls A hx hb hr hml hown hlocks hin hU hK hsz hP hD hS hA hl
  have hl : lv_has ls 5 [(0, .ref a0), (1, .int x0), (2, .int x1)] := hl
  clear hsz
  refine lv_aload_n hx hb dX11_factor_0 rfl (lv_at hl 0 rfl) ?_
  refine lv_iload_n hx hb dX11_factor_1 rfl (lv_at hl 1 rfl) ?_
  refine cI (rV (q0 := 0) (ci := 8) (As := [.int x0]) (rest := []) (wc := [(a0, .inr (8, [.int 2, .int 0, .int 1, .int 0, .int 0, .int 0, .ref a1, .ref a2, .int 0, .int 0, .ref a3, .ref a4, .ref a5, .ref a6, .ref a7, .ref a8, .ref a9, .int 0, .int 0, .int 0, .ref a10, .ref a11, .ref a12, .ref a13, .int 0, .int 0, .ref a14, .ref a15, .ref a16, .ref a17, .int 0, .int 0, .ref a18, .ref a19, .ref a20, .ref a21]))]) hx hb hml hown hU hK hP hD rfl rfl [0] rfl (by decide) (cX11_isGen_1 l D k _ a0 a1 a2 a3 a4 a5 a6 a7 a8 a9 a10 a11 a12 a13 a14 a15 a16 a17 a18 a19 a20 a21 (x0)) w935 w932 w934 w31 w72 hdX11_isGen ⟨rfl, rfl⟩ ⟨Nat.le_of_ble_eq_true rfl, Nat.le_of_ble_eq_true rfl⟩ rfl hl.1 (Nat.le_of_ble_eq_true rfl) dX11_factor_2 ⟨Nat.le_of_ble_eq_true rfl, Nat.le_of_ble_eq_true rfl⟩) hP hD hS hA (wr := []) [0] [] rfl rfl (by decide) (by decide) (fun r1 H locs hB J hS => ?_)
  rcases hB with ⟨c_2, rfl, hP1, hD1⟩ | ⟨c_3, c_4, rfl, hP1, hD1⟩
  · skip
    obtain ⟨hP, hD⟩ := J _ hP1 hD1
    have hP : va_P D cl0 [(a0, .inr (8, [.int 2, .int 0, .int 1, .int 0, .int 0, .int 0, .ref a1, .ref a2, .int 0, .int 0, .ref a3, .ref a4, .ref a5, .ref a6, .ref a7, .ref a8, .ref a9, .int 0, .int 0, .int 0, .ref a10, .ref a11, .ref a12, .ref a13, .int 0, .int 0, .ref a14, .ref a15, .ref a16, .ref a17, .int 0, .int 0, .ref a18, .ref a19, .ref a20, .ref a21]))] H := hP
    have hD : va_D A [(a0, .inr (8, [.int 2, .int 0, .int 1, .int 0, .int 0, .int 0, .ref a1, .ref a2, .int 0, .int 0, .ref a3, .ref a4, .ref a5, .ref a6, .ref a7, .ref a8, .ref a9, .int 0, .int 0, .int 0, .ref a10, .ref a11, .ref a12, .ref a13, .int 0, .int 0, .ref a14, .ref a15, .ref a16, .ref a17, .int 0, .int 0, .ref a18, .ref a19, .ref a20, .ref a21]))] := hD
    refine lv_if_eq (tgt := 24) hx hb dX11_factor_5 (by decide) (fun _ => ?_) (fun cc => absurd (by decide +kernel) cc)
    refine lv_iconst (v := (-1)) hx hb dX11_factor_24 (by decide) ?_
    exact retI (v := (-1)) hx hb hr hlocks hS (show ((-1) : Int32) = F_factor x0 x1 by rfl) dX11_factor_25
  · skip
    obtain ⟨hP, hD⟩ := J _ hP1 hD1
    have hP : va_P D cl0 [(a0, .inr (8, [.int 2, .int 0, .int 1, .int 0, .int 0, .int 0, .ref a1, .ref a2, .int 0, .int 0, .ref a3, .ref a4, .ref a5, .ref a6, .ref a7, .ref a8, .ref a9, .int 0, .int 0, .int 0, .ref a10, .ref a11, .ref a12, .ref a13, .int 0, .int 0, .ref a14, .ref a15, .ref a16, .ref a17, .int 0, .int 0, .ref a18, .ref a19, .ref a20, .ref a21]))] H := hP
    have hD : va_D A [(a0, .inr (8, [.int 2, .int 0, .int 1, .int 0, .int 0, .int 0, .ref a1, .ref a2, .int 0, .int 0, .ref a3, .ref a4, .ref a5, .ref a6, .ref a7, .ref a8, .ref a9, .int 0, .int 0, .int 0, .ref a10, .ref a11, .ref a12, .ref a13, .int 0, .int 0, .ref a14, .ref a15, .ref a16, .ref a17, .int 0, .int 0, .ref a18, .ref a19, .ref a20, .ref a21]))] := hD
    refine lv_if_eq (tgt := 24) hx hb dX11_factor_5 (by decide) (fun _ => ?_) (fun cc => absurd (by decide +kernel) cc)
    refine lv_iconst (v := (-1)) hx hb dX11_factor_24 (by decide) ?_
    exact retI (v := (-1)) hx hb hr hlocks hS (show ((-1) : Int32) = F_factor x0 x1 by rfl) dX11_factor_25
abbrev BX11_here_1 (D : va_G) (k : Nat → ClassId) (h0 h1 h2 h3 h4 h5 h6 h7 h8 h9 h10 h11 h12 h13 h14 h15 h16 h17 h18 h19 h20 h21 : Nat) (A : Nat → Prop) (r : Int32) (H : Heap) : Prop := (-1) = r ∧ va_P D cl0 [(h0, .inr (8, [.int 2, .int 0, .int 1, .int 0, .int 0, .int 0, .ref h1, .ref h2, .int 0, .int 0, .ref h3, .ref h4, .ref h5, .ref h6, .ref h7, .ref h8, .ref h9, .int 0, .int 0, .int 0, .ref h10, .ref h11, .ref h12, .ref h13, .int 0, .int 0, .ref h14, .ref h15, .ref h16, .ref h17, .int 0, .int 0, .ref h18, .ref h19, .ref h20, .ref h21]))] H ∧ va_D A [(h0, .inr (8, [.int 2, .int 0, .int 1, .int 0, .int 0, .int 0, .ref h1, .ref h2, .int 0, .int 0, .ref h3, .ref h4, .ref h5, .ref h6, .ref h7, .ref h8, .ref h9, .int 0, .int 0, .int 0, .ref h10, .ref h11, .ref h12, .ref h13, .int 0, .int 0, .ref h14, .ref h15, .ref h16, .ref h17, .int 0, .int 0, .ref h18, .ref h19, .ref h20, .ref h21]))]
set_option maxHeartbeats 4000000 in
set_option maxRecDepth 100000 in
theorem cX11_here_1 (l : Launch) (D : va_G) (k : Nat → ClassId) (sz : Nat) (h0 h1 h2 h3 h4 h5 h6 h7 h8 h9 h10 h11 h12 h13 h14 h15 h16 h17 h18 h19 h20 h21 : Nat) : Met l yX11_here (Cond.code yX11_here cX11_here 1 (some .int) :: uw) ({ frames := 0, cells := 0, slots := 0, locals := 0 }) (pC D k sz [.ref h0] [(h0, .inr (8, [.int 2, .int 0, .int 1, .int 0, .int 0, .int 0, .ref h1, .ref h2, .int 0, .int 0, .ref h3, .ref h4, .ref h5, .ref h6, .ref h7, .ref h8, .ref h9, .int 0, .int 0, .int 0, .ref h10, .ref h11, .ref h12, .ref h13, .int 0, .int 0, .ref h14, .ref h15, .ref h16, .ref h17, .int 0, .int 0, .ref h18, .ref h19, .ref h20, .ref h21]))]) (qI (BX11_here_1 D k h0 h1 h2 h3 h4 h5 h6 h7 h8 h9 h10 h11 h12 h13 h14 h15 h16 h17 h18 h19 h20 h21 (va_A [(h0, .inr (8, [.int 2, .int 0, .int 1, .int 0, .int 0, .int 0, .ref h1, .ref h2, .int 0, .int 0, .ref h3, .ref h4, .ref h5, .ref h6, .ref h7, .ref h8, .ref h9, .int 0, .int 0, .int 0, .ref h10, .ref h11, .ref h12, .ref h13, .int 0, .int 0, .ref h14, .ref h15, .ref h16, .ref h17, .int 0, .int 0, .ref h18, .ref h19, .ref h20, .ref h21]))] sz)) (va_A [(h0, .inr (8, [.int 2, .int 0, .int 1, .int 0, .int 0, .int 0, .ref h1, .ref h2, .int 0, .int 0, .ref h3, .ref h4, .ref h5, .ref h6, .ref h7, .ref h8, .ref h9, .int 0, .int 0, .int 0, .ref h10, .ref h11, .ref h12, .ref h13, .int 0, .int 0, .ref h14, .ref h15, .ref h16, .ref h17, .int 0, .int 0, .ref h18, .ref h19, .ref h20, .ref h21]))] sz)) 0 0 (va_A [(h0, .inr (8, [.int 2, .int 0, .int 1, .int 0, .int 0, .int 0, .ref h1, .ref h2, .int 0, .int 0, .ref h3, .ref h4, .ref h5, .ref h6, .ref h7, .ref h8, .ref h9, .int 0, .int 0, .int 0, .ref h10, .ref h11, .ref h12, .ref h13, .int 0, .int 0, .ref h14, .ref h15, .ref h16, .ref h17, .int 0, .int 0, .ref h18, .ref h19, .ref h20, .ref h21]))] sz) := by
  refine begin_ (Qc := fun A => qI (BX11_here_1 D k h0 h1 h2 h3 h4 h5 h6 h7 h8 h9 h10 h11 h12 h13 h14 h15 h16 h17 h18 h19 h20 h21 A) A) (by decide) (Nat.le_of_ble_eq_true rfl) ?_
  intro p e s m below meth c ls A hx hb hr hml hown hlocks hin hU hK hsz hP hD hS hA hl
  have hl : lv_has ls 1 [(0, .ref h0)] := hl
  clear hsz
  refine lv_aload_n hx hb dX11_here_0 rfl (lv_at hl 0 rfl) ?_
  refine va_get (D := D) (ci := 8) (v := .int 0) (C := RX11) (T := TX11) (N := 36) hx hb hU iX11 hown hK.1 hP 0 rfl rfl 18 (by decide) (hU _ w803) (fun _ h9 => h9) rfl dX11_here_1 ?_
  refine lv_aload_n hx hb dX11_here_4 rfl (lv_at hl 0 rfl) ?_
  refine va_get (D := D) (ci := 8) (v := .int 0) (C := RX11) (T := TX11) (N := 36) hx hb hU iX11 hown hK.1 hP 0 rfl rfl 17 (by decide) (hU _ w802) (fun _ h9 => h9) rfl dX11_here_5 ?_
  refine lv_icmp_ge (tgt := 38) hx hb dX11_here_8 (by decide) (fun _ => ?_) (fun cc => absurd (by decide +kernel) cc)
  refine lv_aload_n hx hb dX11_here_38 rfl (lv_at hl 0 rfl) ?_
  refine va_get (D := D) (ci := 8) (v := .int 0) (C := RX11) (T := TX11) (N := 36) hx hb hU iX11 hown hK.1 hP 0 rfl rfl 18 (by decide) (hU _ w803) (fun _ h9 => h9) rfl dX11_here_39 ?_
  refine lv_aload_n hx hb dX11_here_42 rfl (lv_at hl 0 rfl) ?_
  refine va_get (D := D) (ci := 8) (v := .int 0) (C := RX11) (T := TX11) (N := 36) hx hb hU iX11 hown hK.1 hP 0 rfl rfl 17 (by decide) (hU _ w802) (fun _ h9 => h9) rfl dX11_here_43 ?_
  refine lv_icmp_ge (tgt := 61) hx hb dX11_here_46 (by decide) (fun _ => ?_) (fun cc => absurd (by decide +kernel) cc)
  refine lv_iconst (v := (-1)) hx hb dX11_here_61 (by decide) ?_
  exact retI (v := (-1)) hx hb hr hlocks hS (⟨rfl, hP, hD⟩) dX11_here_62
abbrev BX11_text_1 (D : va_G) (k : Nat → ClassId) (a0 a1 a2 a3 a4 a5 a6 a7 a8 a9 a10 a11 a12 a13 a14 a15 a16 a17 a18 a19 a20 a21 : Nat) (A : Nat → Prop) (r : Int32) (H : Heap) : Prop := r = F_text
set_option maxHeartbeats 4000000 in
set_option maxRecDepth 100000 in
theorem cX11_text_1 (l : Launch) (D : va_G) (k : Nat → ClassId) (sz : Nat) (a0 a1 a2 a3 a4 a5 a6 a7 a8 a9 a10 a11 a12 a13 a14 a15 a16 a17 a18 a19 a20 a21 : Nat) : Met l yX11_text (Cond.code yX11_text cX11_text 4 (some .int) :: uw) ({ frames := 1, cells := 0, slots := 0, locals := 20 }) (pC D k sz [.ref a0] [(a0, .inr (8, [.int 2, .int 0, .int 1, .int 0, .int 0, .int 0, .ref a1, .ref a2, .int 0, .int 0, .ref a3, .ref a4, .ref a5, .ref a6, .ref a7, .ref a8, .ref a9, .int 0, .int 0, .int 0, .ref a10, .ref a11, .ref a12, .ref a13, .int 0, .int 0, .ref a14, .ref a15, .ref a16, .ref a17, .int 0, .int 0, .ref a18, .ref a19, .ref a20, .ref a21])), (a1, .inl (k 0, 36, .inl (tI [] 0)))]) (qI (BX11_text_1 D k a0 a1 a2 a3 a4 a5 a6 a7 a8 a9 a10 a11 a12 a13 a14 a15 a16 a17 a18 a19 a20 a21 (va_A [(a0, .inr (8, [.int 2, .int 0, .int 1, .int 0, .int 0, .int 0, .ref a1, .ref a2, .int 0, .int 0, .ref a3, .ref a4, .ref a5, .ref a6, .ref a7, .ref a8, .ref a9, .int 0, .int 0, .int 0, .ref a10, .ref a11, .ref a12, .ref a13, .int 0, .int 0, .ref a14, .ref a15, .ref a16, .ref a17, .int 0, .int 0, .ref a18, .ref a19, .ref a20, .ref a21])), (a1, .inl (k 0, 36, .inl (tI [] 0)))] sz)) (va_A [(a0, .inr (8, [.int 2, .int 0, .int 1, .int 0, .int 0, .int 0, .ref a1, .ref a2, .int 0, .int 0, .ref a3, .ref a4, .ref a5, .ref a6, .ref a7, .ref a8, .ref a9, .int 0, .int 0, .int 0, .ref a10, .ref a11, .ref a12, .ref a13, .int 0, .int 0, .ref a14, .ref a15, .ref a16, .ref a17, .int 0, .int 0, .ref a18, .ref a19, .ref a20, .ref a21])), (a1, .inl (k 0, 36, .inl (tI [] 0)))] sz)) 0 0 (va_A [(a0, .inr (8, [.int 2, .int 0, .int 1, .int 0, .int 0, .int 0, .ref a1, .ref a2, .int 0, .int 0, .ref a3, .ref a4, .ref a5, .ref a6, .ref a7, .ref a8, .ref a9, .int 0, .int 0, .int 0, .ref a10, .ref a11, .ref a12, .ref a13, .int 0, .int 0, .ref a14, .ref a15, .ref a16, .ref a17, .int 0, .int 0, .ref a18, .ref a19, .ref a20, .ref a21])), (a1, .inl (k 0, 36, .inl (tI [] 0)))] sz) := by
  refine begin_ (Qc := fun A => qI (BX11_text_1 D k a0 a1 a2 a3 a4 a5 a6 a7 a8 a9 a10 a11 a12 a13 a14 a15 a16 a17 a18 a19 a20 a21 A) A) (by decide) (Nat.le_of_ble_eq_true rfl) ?_
  intro p e s m below meth c ls A hx hb hr hml hown hlocks hin hU hK hsz hP hD hS hA hl
  have hl : lv_has ls 4 [(0, .ref a0)] := hl
  clear hsz
  refine lv_aload_n hx hb dX11_text_0 rfl (lv_at hl 0 rfl) ?_
  refine lv_iconst (v := 0) hx hb dX11_text_1 (by decide) ?_
  refine va_put (D := D) (ci := 8) (v := .int 0) (ty := .int) (C := RX11) (T := TX11) (N := 36) hx hb hU iX11 tyX11 tyX11_ok nmX11 hown hK.1 hP hD hS 0 rfl rfl 18 (by decide) (hU _ w803) (fun _ h9 => h9) rfl (by decide +kernel) rfl rfl (Nat.le_of_ble_eq_true rfl) dX11_text_2 (fun H locs hP hD hS => ?_)
  have hP : va_P D cl0 [(a0, .inr (8, [.int 2, .int 0, .int 1, .int 0, .int 0, .int 0, .ref a1, .ref a2, .int 0, .int 0, .ref a3, .ref a4, .ref a5, .ref a6, .ref a7, .ref a8, .ref a9, .int 0, .int 0, .int 0, .ref a10, .ref a11, .ref a12, .ref a13, .int 0, .int 0, .ref a14, .ref a15, .ref a16, .ref a17, .int 0, .int 0, .ref a18, .ref a19, .ref a20, .ref a21])), (a1, .inl (k 0, 36, .inl (tI [] 0)))] H := hP
  have hD : va_D A [(a0, .inr (8, [.int 2, .int 0, .int 1, .int 0, .int 0, .int 0, .ref a1, .ref a2, .int 0, .int 0, .ref a3, .ref a4, .ref a5, .ref a6, .ref a7, .ref a8, .ref a9, .int 0, .int 0, .int 0, .ref a10, .ref a11, .ref a12, .ref a13, .int 0, .int 0, .ref a14, .ref a15, .ref a16, .ref a17, .int 0, .int 0, .ref a18, .ref a19, .ref a20, .ref a21])), (a1, .inl (k 0, 36, .inl (tI [] 0)))] := hD
  refine lv_aload_n hx hb dX11_text_5 rfl (lv_at hl 0 rfl) ?_
  refine lv_iconst (v := 0) hx hb dX11_text_6 (by decide) ?_
  refine va_put (D := D) (ci := 8) (v := .int 0) (ty := .int) (C := RX11) (T := TX11) (N := 36) hx hb hU iX11 tyX11 tyX11_ok nmX11 hown hK.1 hP hD hS 0 rfl rfl 19 (by decide) (hU _ w804) (fun _ h9 => h9) rfl (by decide +kernel) rfl rfl (Nat.le_of_ble_eq_true rfl) dX11_text_7 (fun H locs hP hD hS => ?_)
  have hP : va_P D cl0 [(a0, .inr (8, [.int 2, .int 0, .int 1, .int 0, .int 0, .int 0, .ref a1, .ref a2, .int 0, .int 0, .ref a3, .ref a4, .ref a5, .ref a6, .ref a7, .ref a8, .ref a9, .int 0, .int 0, .int 0, .ref a10, .ref a11, .ref a12, .ref a13, .int 0, .int 0, .ref a14, .ref a15, .ref a16, .ref a17, .int 0, .int 0, .ref a18, .ref a19, .ref a20, .ref a21])), (a1, .inl (k 0, 36, .inl (tI [] 0)))] H := hP
  have hD : va_D A [(a0, .inr (8, [.int 2, .int 0, .int 1, .int 0, .int 0, .int 0, .ref a1, .ref a2, .int 0, .int 0, .ref a3, .ref a4, .ref a5, .ref a6, .ref a7, .ref a8, .ref a9, .int 0, .int 0, .int 0, .ref a10, .ref a11, .ref a12, .ref a13, .int 0, .int 0, .ref a14, .ref a15, .ref a16, .ref a17, .int 0, .int 0, .ref a18, .ref a19, .ref a20, .ref a21])), (a1, .inl (k 0, 36, .inl (tI [] 0)))] := hD
  refine lv_iconst (v := 1) hx hb dX11_text_10 (by decide) ?_
  refine lv_istore_n (lv' := [(1, .int 1), (0, .ref a0)]) hx hb dX11_text_11 rfl hl (by decide) rfl (fun ls hl => ?_)
  refine lv_iload_n hx hb dX11_text_12 rfl (lv_at hl 0 rfl) ?_
  refine lv_if_eq (tgt := 31) hx hb dX11_text_13 (by decide) (fun cc => absurd cc (by decide +kernel)) (fun _ => ?_)
  refine lv_aload_n hx hb dX11_text_16 rfl (lv_at hl 1 rfl) ?_
  refine cI (rV (q0 := 0) (ci := 8) (As := []) (rest := []) (wc := [(a0, .inr (8, [.int 2, .int 0, .int 1, .int 0, .int 0, .int 0, .ref a1, .ref a2, .int 0, .int 0, .ref a3, .ref a4, .ref a5, .ref a6, .ref a7, .ref a8, .ref a9, .int 0, .int 0, .int 0, .ref a10, .ref a11, .ref a12, .ref a13, .int 0, .int 0, .ref a14, .ref a15, .ref a16, .ref a17, .int 0, .int 0, .ref a18, .ref a19, .ref a20, .ref a21]))]) hx hb hml hown hU hK hP hD rfl rfl [0] rfl (by decide) (cX11_here_1 l D k _ a0 a1 a2 a3 a4 a5 a6 a7 a8 a9 a10 a11 a12 a13 a14 a15 a16 a17 a18 a19 a20 a21) w1013 w1010 w1012 w42 w72 hdX11_here ⟨rfl, rfl⟩ ⟨Nat.le_of_ble_eq_true rfl, Nat.le_of_ble_eq_true rfl⟩ rfl hl.1 (Nat.le_of_ble_eq_true rfl) dX11_text_17 ⟨Nat.le_of_ble_eq_true rfl, Nat.le_of_ble_eq_true rfl⟩) hP hD hS hA (wr := [(a1, .inl (k 0, 36, .inl (tI [] 0)))]) [0] [1] rfl rfl (by decide) (by decide) (fun r1 H locs hB J hS => ?_)
  obtain ⟨rfl, hP1, hD1⟩ := hB
  obtain ⟨hP, hD⟩ := J _ hP1 hD1
  have hP : va_P D cl0 [(a1, .inl (k 0, 36, .inl (tI [] 0))), (a0, .inr (8, [.int 2, .int 0, .int 1, .int 0, .int 0, .int 0, .ref a1, .ref a2, .int 0, .int 0, .ref a3, .ref a4, .ref a5, .ref a6, .ref a7, .ref a8, .ref a9, .int 0, .int 0, .int 0, .ref a10, .ref a11, .ref a12, .ref a13, .int 0, .int 0, .ref a14, .ref a15, .ref a16, .ref a17, .int 0, .int 0, .ref a18, .ref a19, .ref a20, .ref a21]))] H := hP
  have hD : va_D A [(a1, .inl (k 0, 36, .inl (tI [] 0))), (a0, .inr (8, [.int 2, .int 0, .int 1, .int 0, .int 0, .int 0, .ref a1, .ref a2, .int 0, .int 0, .ref a3, .ref a4, .ref a5, .ref a6, .ref a7, .ref a8, .ref a9, .int 0, .int 0, .int 0, .ref a10, .ref a11, .ref a12, .ref a13, .int 0, .int 0, .ref a14, .ref a15, .ref a16, .ref a17, .int 0, .int 0, .ref a18, .ref a19, .ref a20, .ref a21]))] := hD
  refine lv_if_lt (tgt := 31) hx hb dX11_text_20 (by decide) (fun _ => ?_) (fun cc => absurd (by decide +kernel) cc)
  refine lv_aload_n hx hb dX11_text_31 rfl (lv_at hl 1 rfl) ?_
  refine va_get (D := D) (ci := 8) (v := .int 0) (C := RX11) (T := TX11) (N := 36) hx hb hU iX11 hown hK.1 hP 1 rfl rfl 18 (by decide) (hU _ w803) (fun _ h9 => h9) rfl dX11_text_32 ?_
  refine lv_istore_n (lv' := [(2, .int 0), (1, .int 1), (0, .ref a0)]) hx hb dX11_text_35 rfl hl (by decide) rfl (fun ls hl => ?_)
  refine lv_aload_n hx hb dX11_text_36 rfl (lv_at hl 2 rfl) ?_
  refine lv_iload_n hx hb dX11_text_37 rfl (lv_at hl 1 rfl) ?_
  refine lv_if_eq (tgt := 45) hx hb dX11_text_38 (by decide) (fun cc => absurd cc (by decide +kernel)) (fun _ => ?_)
  refine lv_iconst (v := 0) hx hb dX11_text_41 (by decide) ?_
  refine lv_goto (tgt := 49) hx hb dX11_text_42 (by decide) ?_
  refine va_put (D := D) (ci := 8) (v := .int 0) (ty := .int) (C := RX11) (T := TX11) (N := 36) hx hb hU iX11 tyX11 tyX11_ok nmX11 hown hK.1 hP hD hS 1 rfl rfl 17 (by decide) (hU _ w802) (fun _ h9 => h9) rfl (by decide +kernel) rfl rfl (Nat.le_of_ble_eq_true rfl) dX11_text_49 (fun H locs hP hD hS => ?_)
  have hP : va_P D cl0 [(a1, .inl (k 0, 36, .inl (tI [] 0))), (a0, .inr (8, [.int 2, .int 0, .int 1, .int 0, .int 0, .int 0, .ref a1, .ref a2, .int 0, .int 0, .ref a3, .ref a4, .ref a5, .ref a6, .ref a7, .ref a8, .ref a9, .int 0, .int 0, .int 0, .ref a10, .ref a11, .ref a12, .ref a13, .int 0, .int 0, .ref a14, .ref a15, .ref a16, .ref a17, .int 0, .int 0, .ref a18, .ref a19, .ref a20, .ref a21]))] H := hP
  have hD : va_D A [(a1, .inl (k 0, 36, .inl (tI [] 0))), (a0, .inr (8, [.int 2, .int 0, .int 1, .int 0, .int 0, .int 0, .ref a1, .ref a2, .int 0, .int 0, .ref a3, .ref a4, .ref a5, .ref a6, .ref a7, .ref a8, .ref a9, .int 0, .int 0, .int 0, .ref a10, .ref a11, .ref a12, .ref a13, .int 0, .int 0, .ref a14, .ref a15, .ref a16, .ref a17, .int 0, .int 0, .ref a18, .ref a19, .ref a20, .ref a21]))] := hD
  refine lv_iload_n hx hb dX11_text_52 rfl (lv_at hl 1 rfl) ?_
  refine lv_if_ne (tgt := 66) hx hb dX11_text_53 (by decide) (fun _ => ?_) (fun cc => absurd cc (by decide +kernel))
  refine lv_aload_n hx hb dX11_text_66 rfl (lv_at hl 2 rfl) ?_
  refine lv_aload_n hx hb dX11_text_67 rfl (lv_at hl 2 rfl) ?_
  refine va_get (D := D) (ci := 8) (v := .int 0) (C := RX11) (T := TX11) (N := 36) hx hb hU iX11 hown hK.1 hP 1 rfl rfl 19 (by decide) (hU _ w804) (fun _ h9 => h9) rfl dX11_text_68 ?_
  refine va_put (D := D) (ci := 8) (v := .int 0) (ty := .int) (C := RX11) (T := TX11) (N := 36) hx hb hU iX11 tyX11 tyX11_ok nmX11 hown hK.1 hP hD hS 1 rfl rfl 1 (by decide) (hU _ w786) (fun _ h9 => h9) rfl (by decide +kernel) rfl rfl (Nat.le_of_ble_eq_true rfl) dX11_text_71 (fun H locs hP hD hS => ?_)
  have hP : va_P D cl0 [(a1, .inl (k 0, 36, .inl (tI [] 0))), (a0, .inr (8, [.int 2, .int 0, .int 1, .int 0, .int 0, .int 0, .ref a1, .ref a2, .int 0, .int 0, .ref a3, .ref a4, .ref a5, .ref a6, .ref a7, .ref a8, .ref a9, .int 0, .int 0, .int 0, .ref a10, .ref a11, .ref a12, .ref a13, .int 0, .int 0, .ref a14, .ref a15, .ref a16, .ref a17, .int 0, .int 0, .ref a18, .ref a19, .ref a20, .ref a21]))] H := hP
  have hD : va_D A [(a1, .inl (k 0, 36, .inl (tI [] 0))), (a0, .inr (8, [.int 2, .int 0, .int 1, .int 0, .int 0, .int 0, .ref a1, .ref a2, .int 0, .int 0, .ref a3, .ref a4, .ref a5, .ref a6, .ref a7, .ref a8, .ref a9, .int 0, .int 0, .int 0, .ref a10, .ref a11, .ref a12, .ref a13, .int 0, .int 0, .ref a14, .ref a15, .ref a16, .ref a17, .int 0, .int 0, .ref a18, .ref a19, .ref a20, .ref a21]))] := hD
  refine lv_iconst (v := 0) hx hb dX11_text_74 (by decide) ?_
  refine lv_istore_n (lv' := [(3, .int 0), (2, .int 0), (1, .int 1), (0, .ref a0)]) hx hb dX11_text_75 rfl hl (by decide) rfl (fun ls hl => ?_)
  refine lv_iload_n hx hb dX11_text_76 rfl (lv_at hl 0 rfl) ?_
  refine lv_bipush (v := 36) hx hb dX11_text_77 (by decide) ?_
  refine lv_icmp_ge (tgt := 120) hx hb dX11_text_79 (by decide) (fun cc => absurd cc (by decide +kernel)) (fun _ => ?_)
  refine lv_aload_n hx hb dX11_text_82 rfl (lv_at hl 3 rfl) ?_
  refine va_get (D := D) (ci := 8) (v := .ref a1) (C := RX11) (T := TX11) (N := 36) hx hb hU iX11 hown hK.1 hP 1 rfl rfl 6 (by decide) (hU _ w791) (fun _ h9 => h9) rfl dX11_text_83 ?_
  refine lv_iload_n hx hb dX11_text_86 rfl (lv_at hl 0 rfl) ?_
  refine lv_iload_n hx hb dX11_text_87 rfl (lv_at hl 0 rfl) ?_
  refine lv_bipush (v := 9) hx hb dX11_text_88 (by decide) ?_
  refine lv_aload_n hx hb dX11_text_90 rfl (lv_at hl 3 rfl) ?_
  refine va_get (D := D) (ci := 8) (v := .int 0) (C := RX11) (T := TX11) (N := 36) hx hb hU iX11 hown hK.1 hP 1 rfl rfl 1 (by decide) (hU _ w786) (fun _ h9 => h9) rfl dX11_text_91 ?_
  refine lv_imul hx hb dX11_text_94 (sv_i (v := 0) (by decide +kernel) ?_)
  refine lv_icmp_ge (tgt := 107) hx hb dX11_text_95 (by decide) (fun _ => ?_) (fun cc => absurd (by decide +kernel) cc)
  refine lv_aload_n hx hb dX11_text_107 rfl (lv_at hl 3 rfl) ?_
  refine va_get (D := D) (ci := 8) (v := .ref a1) (C := RX11) (T := TX11) (N := 36) hx hb hU iX11 hown hK.1 hP 1 rfl rfl 6 (by decide) (hU _ w791) (fun _ h9 => h9) rfl dX11_text_108 ?_
  refine lv_iload_n hx hb dX11_text_111 rfl (lv_at hl 0 rfl) ?_
  refine ld_i (j := 0) (v := 0) hx hb hK hP 0 rfl (by decide +kernel) rfl dX11_text_112 ?_
  refine st_i (j := 0) (g := tI [0] 0) hx hb hK hP hD hS 0 rfl (by decide +kernel) upd_tI dX11_text_113 (fun H locs hP hD hS => ?_)
  have hP : va_P D cl0 [(a1, .inl (k 0, 36, .inl (tI [0] 0))), (a0, .inr (8, [.int 2, .int 0, .int 1, .int 0, .int 0, .int 0, .ref a1, .ref a2, .int 0, .int 0, .ref a3, .ref a4, .ref a5, .ref a6, .ref a7, .ref a8, .ref a9, .int 0, .int 0, .int 0, .ref a10, .ref a11, .ref a12, .ref a13, .int 0, .int 0, .ref a14, .ref a15, .ref a16, .ref a17, .int 0, .int 0, .ref a18, .ref a19, .ref a20, .ref a21]))] H := hP
  have hD : va_D A [(a1, .inl (k 0, 36, .inl (tI [0] 0))), (a0, .inr (8, [.int 2, .int 0, .int 1, .int 0, .int 0, .int 0, .ref a1, .ref a2, .int 0, .int 0, .ref a3, .ref a4, .ref a5, .ref a6, .ref a7, .ref a8, .ref a9, .int 0, .int 0, .int 0, .ref a10, .ref a11, .ref a12, .ref a13, .int 0, .int 0, .ref a14, .ref a15, .ref a16, .ref a17, .int 0, .int 0, .ref a18, .ref a19, .ref a20, .ref a21]))] := hD
  refine lv_iinc (v := 1) (lv' := [(3, .int 1), (2, .int 0), (1, .int 1), (0, .ref a0)]) hx hb dX11_text_114 hl (k := 0) rfl (by decide) (by decide) rfl (fun ls hl => ?_)
  refine lv_goto (tgt := 76) hx hb dX11_text_117 (by decide) ?_
  refine lv_iload_n hx hb dX11_text_76 rfl (lv_at hl 0 rfl) ?_
  refine lv_bipush (v := 36) hx hb dX11_text_77 (by decide) ?_
  refine lv_icmp_ge (tgt := 120) hx hb dX11_text_79 (by decide) (fun cc => absurd cc (by decide +kernel)) (fun _ => ?_)
  refine lv_aload_n hx hb dX11_text_82 rfl (lv_at hl 3 rfl) ?_
  refine va_get (D := D) (ci := 8) (v := .ref a1) (C := RX11) (T := TX11) (N := 36) hx hb hU iX11 hown hK.1 hP 1 rfl rfl 6 (by decide) (hU _ w791) (fun _ h9 => h9) rfl dX11_text_83 ?_
  refine lv_iload_n hx hb dX11_text_86 rfl (lv_at hl 0 rfl) ?_
  refine lv_iload_n hx hb dX11_text_87 rfl (lv_at hl 0 rfl) ?_
  refine lv_bipush (v := 9) hx hb dX11_text_88 (by decide) ?_
  refine lv_aload_n hx hb dX11_text_90 rfl (lv_at hl 3 rfl) ?_
  refine va_get (D := D) (ci := 8) (v := .int 0) (C := RX11) (T := TX11) (N := 36) hx hb hU iX11 hown hK.1 hP 1 rfl rfl 1 (by decide) (hU _ w786) (fun _ h9 => h9) rfl dX11_text_91 ?_
  refine lv_imul hx hb dX11_text_94 (sv_i (v := 0) (by decide +kernel) ?_)
  refine lv_icmp_ge (tgt := 107) hx hb dX11_text_95 (by decide) (fun _ => ?_) (fun cc => absurd (by decide +kernel) cc)
  refine lv_aload_n hx hb dX11_text_107 rfl (lv_at hl 3 rfl) ?_
  refine va_get (D := D) (ci := 8) (v := .ref a1) (C := RX11) (T := TX11) (N := 36) hx hb hU iX11 hown hK.1 hP 1 rfl rfl 6 (by decide) (hU _ w791) (fun _ h9 => h9) rfl dX11_text_108 ?_
  refine lv_iload_n hx hb dX11_text_111 rfl (lv_at hl 0 rfl) ?_
  refine ld_i (j := 1) (v := 0) hx hb hK hP 0 rfl (by decide +kernel) rfl dX11_text_112 ?_
  refine st_i (j := 1) (g := tI [0, 0] 0) hx hb hK hP hD hS 0 rfl (by decide +kernel) upd_tI dX11_text_113 (fun H locs hP hD hS => ?_)
  have hP : va_P D cl0 [(a1, .inl (k 0, 36, .inl (tI [0, 0] 0))), (a0, .inr (8, [.int 2, .int 0, .int 1, .int 0, .int 0, .int 0, .ref a1, .ref a2, .int 0, .int 0, .ref a3, .ref a4, .ref a5, .ref a6, .ref a7, .ref a8, .ref a9, .int 0, .int 0, .int 0, .ref a10, .ref a11, .ref a12, .ref a13, .int 0, .int 0, .ref a14, .ref a15, .ref a16, .ref a17, .int 0, .int 0, .ref a18, .ref a19, .ref a20, .ref a21]))] H := hP
  have hD : va_D A [(a1, .inl (k 0, 36, .inl (tI [0, 0] 0))), (a0, .inr (8, [.int 2, .int 0, .int 1, .int 0, .int 0, .int 0, .ref a1, .ref a2, .int 0, .int 0, .ref a3, .ref a4, .ref a5, .ref a6, .ref a7, .ref a8, .ref a9, .int 0, .int 0, .int 0, .ref a10, .ref a11, .ref a12, .ref a13, .int 0, .int 0, .ref a14, .ref a15, .ref a16, .ref a17, .int 0, .int 0, .ref a18, .ref a19, .ref a20, .ref a21]))] := hD
  refine lv_iinc (v := 2) (lv' := [(3, .int 2), (2, .int 0), (1, .int 1), (0, .ref a0)]) hx hb dX11_text_114 hl (k := 0) rfl (by decide) (by decide) rfl (fun ls hl => ?_)
  refine lv_goto (tgt := 76) hx hb dX11_text_117 (by decide) ?_
  refine lv_iload_n hx hb dX11_text_76 rfl (lv_at hl 0 rfl) ?_
  refine lv_bipush (v := 36) hx hb dX11_text_77 (by decide) ?_
  refine lv_icmp_ge (tgt := 120) hx hb dX11_text_79 (by decide) (fun cc => absurd cc (by decide +kernel)) (fun _ => ?_)
  refine lv_aload_n hx hb dX11_text_82 rfl (lv_at hl 3 rfl) ?_
  refine va_get (D := D) (ci := 8) (v := .ref a1) (C := RX11) (T := TX11) (N := 36) hx hb hU iX11 hown hK.1 hP 1 rfl rfl 6 (by decide) (hU _ w791) (fun _ h9 => h9) rfl dX11_text_83 ?_
  refine lv_iload_n hx hb dX11_text_86 rfl (lv_at hl 0 rfl) ?_
  refine lv_iload_n hx hb dX11_text_87 rfl (lv_at hl 0 rfl) ?_
  refine lv_bipush (v := 9) hx hb dX11_text_88 (by decide) ?_
  refine lv_aload_n hx hb dX11_text_90 rfl (lv_at hl 3 rfl) ?_
  refine va_get (D := D) (ci := 8) (v := .int 0) (C := RX11) (T := TX11) (N := 36) hx hb hU iX11 hown hK.1 hP 1 rfl rfl 1 (by decide) (hU _ w786) (fun _ h9 => h9) rfl dX11_text_91 ?_
  refine lv_imul hx hb dX11_text_94 (sv_i (v := 0) (by decide +kernel) ?_)
  refine lv_icmp_ge (tgt := 107) hx hb dX11_text_95 (by decide) (fun _ => ?_) (fun cc => absurd (by decide +kernel) cc)
  refine lv_aload_n hx hb dX11_text_107 rfl (lv_at hl 3 rfl) ?_
  refine va_get (D := D) (ci := 8) (v := .ref a1) (C := RX11) (T := TX11) (N := 36) hx hb hU iX11 hown hK.1 hP 1 rfl rfl 6 (by decide) (hU _ w791) (fun _ h9 => h9) rfl dX11_text_108 ?_
  refine lv_iload_n hx hb dX11_text_111 rfl (lv_at hl 0 rfl) ?_
  refine ld_i (j := 2) (v := 0) hx hb hK hP 0 rfl (by decide +kernel) rfl dX11_text_112 ?_
  refine st_i (j := 2) (g := tI [0, 0, 0] 0) hx hb hK hP hD hS 0 rfl (by decide +kernel) upd_tI dX11_text_113 (fun H locs hP hD hS => ?_)
  have hP : va_P D cl0 [(a1, .inl (k 0, 36, .inl (tI [0, 0, 0] 0))), (a0, .inr (8, [.int 2, .int 0, .int 1, .int 0, .int 0, .int 0, .ref a1, .ref a2, .int 0, .int 0, .ref a3, .ref a4, .ref a5, .ref a6, .ref a7, .ref a8, .ref a9, .int 0, .int 0, .int 0, .ref a10, .ref a11, .ref a12, .ref a13, .int 0, .int 0, .ref a14, .ref a15, .ref a16, .ref a17, .int 0, .int 0, .ref a18, .ref a19, .ref a20, .ref a21]))] H := hP
  have hD : va_D A [(a1, .inl (k 0, 36, .inl (tI [0, 0, 0] 0))), (a0, .inr (8, [.int 2, .int 0, .int 1, .int 0, .int 0, .int 0, .ref a1, .ref a2, .int 0, .int 0, .ref a3, .ref a4, .ref a5, .ref a6, .ref a7, .ref a8, .ref a9, .int 0, .int 0, .int 0, .ref a10, .ref a11, .ref a12, .ref a13, .int 0, .int 0, .ref a14, .ref a15, .ref a16, .ref a17, .int 0, .int 0, .ref a18, .ref a19, .ref a20, .ref a21]))] := hD
  refine lv_iinc (v := 3) (lv' := [(3, .int 3), (2, .int 0), (1, .int 1), (0, .ref a0)]) hx hb dX11_text_114 hl (k := 0) rfl (by decide) (by decide) rfl (fun ls hl => ?_)
  refine lv_goto (tgt := 76) hx hb dX11_text_117 (by decide) ?_
  refine lv_iload_n hx hb dX11_text_76 rfl (lv_at hl 0 rfl) ?_
  refine lv_bipush (v := 36) hx hb dX11_text_77 (by decide) ?_
  refine lv_icmp_ge (tgt := 120) hx hb dX11_text_79 (by decide) (fun cc => absurd cc (by decide +kernel)) (fun _ => ?_)
  refine lv_aload_n hx hb dX11_text_82 rfl (lv_at hl 3 rfl) ?_
  refine va_get (D := D) (ci := 8) (v := .ref a1) (C := RX11) (T := TX11) (N := 36) hx hb hU iX11 hown hK.1 hP 1 rfl rfl 6 (by decide) (hU _ w791) (fun _ h9 => h9) rfl dX11_text_83 ?_
  refine lv_iload_n hx hb dX11_text_86 rfl (lv_at hl 0 rfl) ?_
  refine lv_iload_n hx hb dX11_text_87 rfl (lv_at hl 0 rfl) ?_
  refine lv_bipush (v := 9) hx hb dX11_text_88 (by decide) ?_
  refine lv_aload_n hx hb dX11_text_90 rfl (lv_at hl 3 rfl) ?_
  refine va_get (D := D) (ci := 8) (v := .int 0) (C := RX11) (T := TX11) (N := 36) hx hb hU iX11 hown hK.1 hP 1 rfl rfl 1 (by decide) (hU _ w786) (fun _ h9 => h9) rfl dX11_text_91 ?_
  refine lv_imul hx hb dX11_text_94 (sv_i (v := 0) (by decide +kernel) ?_)
  refine lv_icmp_ge (tgt := 107) hx hb dX11_text_95 (by decide) (fun _ => ?_) (fun cc => absurd (by decide +kernel) cc)
  refine lv_aload_n hx hb dX11_text_107 rfl (lv_at hl 3 rfl) ?_
  refine va_get (D := D) (ci := 8) (v := .ref a1) (C := RX11) (T := TX11) (N := 36) hx hb hU iX11 hown hK.1 hP 1 rfl rfl 6 (by decide) (hU _ w791) (fun _ h9 => h9) rfl dX11_text_108 ?_
  refine lv_iload_n hx hb dX11_text_111 rfl (lv_at hl 0 rfl) ?_
  refine ld_i (j := 3) (v := 0) hx hb hK hP 0 rfl (by decide +kernel) rfl dX11_text_112 ?_
  refine st_i (j := 3) (g := tI [0, 0, 0, 0] 0) hx hb hK hP hD hS 0 rfl (by decide +kernel) upd_tI dX11_text_113 (fun H locs hP hD hS => ?_)
  have hP : va_P D cl0 [(a1, .inl (k 0, 36, .inl (tI [0, 0, 0, 0] 0))), (a0, .inr (8, [.int 2, .int 0, .int 1, .int 0, .int 0, .int 0, .ref a1, .ref a2, .int 0, .int 0, .ref a3, .ref a4, .ref a5, .ref a6, .ref a7, .ref a8, .ref a9, .int 0, .int 0, .int 0, .ref a10, .ref a11, .ref a12, .ref a13, .int 0, .int 0, .ref a14, .ref a15, .ref a16, .ref a17, .int 0, .int 0, .ref a18, .ref a19, .ref a20, .ref a21]))] H := hP
  have hD : va_D A [(a1, .inl (k 0, 36, .inl (tI [0, 0, 0, 0] 0))), (a0, .inr (8, [.int 2, .int 0, .int 1, .int 0, .int 0, .int 0, .ref a1, .ref a2, .int 0, .int 0, .ref a3, .ref a4, .ref a5, .ref a6, .ref a7, .ref a8, .ref a9, .int 0, .int 0, .int 0, .ref a10, .ref a11, .ref a12, .ref a13, .int 0, .int 0, .ref a14, .ref a15, .ref a16, .ref a17, .int 0, .int 0, .ref a18, .ref a19, .ref a20, .ref a21]))] := hD
  refine lv_iinc (v := 4) (lv' := [(3, .int 4), (2, .int 0), (1, .int 1), (0, .ref a0)]) hx hb dX11_text_114 hl (k := 0) rfl (by decide) (by decide) rfl (fun ls hl => ?_)
  refine lv_goto (tgt := 76) hx hb dX11_text_117 (by decide) ?_
  refine lv_iload_n hx hb dX11_text_76 rfl (lv_at hl 0 rfl) ?_
  refine lv_bipush (v := 36) hx hb dX11_text_77 (by decide) ?_
  refine lv_icmp_ge (tgt := 120) hx hb dX11_text_79 (by decide) (fun cc => absurd cc (by decide +kernel)) (fun _ => ?_)
  refine lv_aload_n hx hb dX11_text_82 rfl (lv_at hl 3 rfl) ?_
  refine va_get (D := D) (ci := 8) (v := .ref a1) (C := RX11) (T := TX11) (N := 36) hx hb hU iX11 hown hK.1 hP 1 rfl rfl 6 (by decide) (hU _ w791) (fun _ h9 => h9) rfl dX11_text_83 ?_
  refine lv_iload_n hx hb dX11_text_86 rfl (lv_at hl 0 rfl) ?_
  refine lv_iload_n hx hb dX11_text_87 rfl (lv_at hl 0 rfl) ?_
  refine lv_bipush (v := 9) hx hb dX11_text_88 (by decide) ?_
  refine lv_aload_n hx hb dX11_text_90 rfl (lv_at hl 3 rfl) ?_
  refine va_get (D := D) (ci := 8) (v := .int 0) (C := RX11) (T := TX11) (N := 36) hx hb hU iX11 hown hK.1 hP 1 rfl rfl 1 (by decide) (hU _ w786) (fun _ h9 => h9) rfl dX11_text_91 ?_
  refine lv_imul hx hb dX11_text_94 (sv_i (v := 0) (by decide +kernel) ?_)
  refine lv_icmp_ge (tgt := 107) hx hb dX11_text_95 (by decide) (fun _ => ?_) (fun cc => absurd (by decide +kernel) cc)
  refine lv_aload_n hx hb dX11_text_107 rfl (lv_at hl 3 rfl) ?_
  refine va_get (D := D) (ci := 8) (v := .ref a1) (C := RX11) (T := TX11) (N := 36) hx hb hU iX11 hown hK.1 hP 1 rfl rfl 6 (by decide) (hU _ w791) (fun _ h9 => h9) rfl dX11_text_108 ?_
  refine lv_iload_n hx hb dX11_text_111 rfl (lv_at hl 0 rfl) ?_
  refine ld_i (j := 4) (v := 0) hx hb hK hP 0 rfl (by decide +kernel) rfl dX11_text_112 ?_
  refine st_i (j := 4) (g := tI [0, 0, 0, 0, 0] 0) hx hb hK hP hD hS 0 rfl (by decide +kernel) upd_tI dX11_text_113 (fun H locs hP hD hS => ?_)
  have hP : va_P D cl0 [(a1, .inl (k 0, 36, .inl (tI [0, 0, 0, 0, 0] 0))), (a0, .inr (8, [.int 2, .int 0, .int 1, .int 0, .int 0, .int 0, .ref a1, .ref a2, .int 0, .int 0, .ref a3, .ref a4, .ref a5, .ref a6, .ref a7, .ref a8, .ref a9, .int 0, .int 0, .int 0, .ref a10, .ref a11, .ref a12, .ref a13, .int 0, .int 0, .ref a14, .ref a15, .ref a16, .ref a17, .int 0, .int 0, .ref a18, .ref a19, .ref a20, .ref a21]))] H := hP
  have hD : va_D A [(a1, .inl (k 0, 36, .inl (tI [0, 0, 0, 0, 0] 0))), (a0, .inr (8, [.int 2, .int 0, .int 1, .int 0, .int 0, .int 0, .ref a1, .ref a2, .int 0, .int 0, .ref a3, .ref a4, .ref a5, .ref a6, .ref a7, .ref a8, .ref a9, .int 0, .int 0, .int 0, .ref a10, .ref a11, .ref a12, .ref a13, .int 0, .int 0, .ref a14, .ref a15, .ref a16, .ref a17, .int 0, .int 0, .ref a18, .ref a19, .ref a20, .ref a21]))] := hD
  refine lv_iinc (v := 5) (lv' := [(3, .int 5), (2, .int 0), (1, .int 1), (0, .ref a0)]) hx hb dX11_text_114 hl (k := 0) rfl (by decide) (by decide) rfl (fun ls hl => ?_)
  refine lv_goto (tgt := 76) hx hb dX11_text_117 (by decide) ?_
  refine lv_iload_n hx hb dX11_text_76 rfl (lv_at hl 0 rfl) ?_
  refine lv_bipush (v := 36) hx hb dX11_text_77 (by decide) ?_
  refine lv_icmp_ge (tgt := 120) hx hb dX11_text_79 (by decide) (fun cc => absurd cc (by decide +kernel)) (fun _ => ?_)
  refine lv_aload_n hx hb dX11_text_82 rfl (lv_at hl 3 rfl) ?_
  refine va_get (D := D) (ci := 8) (v := .ref a1) (C := RX11) (T := TX11) (N := 36) hx hb hU iX11 hown hK.1 hP 1 rfl rfl 6 (by decide) (hU _ w791) (fun _ h9 => h9) rfl dX11_text_83 ?_
  refine lv_iload_n hx hb dX11_text_86 rfl (lv_at hl 0 rfl) ?_
  refine lv_iload_n hx hb dX11_text_87 rfl (lv_at hl 0 rfl) ?_
  refine lv_bipush (v := 9) hx hb dX11_text_88 (by decide) ?_
  refine lv_aload_n hx hb dX11_text_90 rfl (lv_at hl 3 rfl) ?_
  refine va_get (D := D) (ci := 8) (v := .int 0) (C := RX11) (T := TX11) (N := 36) hx hb hU iX11 hown hK.1 hP 1 rfl rfl 1 (by decide) (hU _ w786) (fun _ h9 => h9) rfl dX11_text_91 ?_
  refine lv_imul hx hb dX11_text_94 (sv_i (v := 0) (by decide +kernel) ?_)
  refine lv_icmp_ge (tgt := 107) hx hb dX11_text_95 (by decide) (fun _ => ?_) (fun cc => absurd (by decide +kernel) cc)
  refine lv_aload_n hx hb dX11_text_107 rfl (lv_at hl 3 rfl) ?_
  refine va_get (D := D) (ci := 8) (v := .ref a1) (C := RX11) (T := TX11) (N := 36) hx hb hU iX11 hown hK.1 hP 1 rfl rfl 6 (by decide) (hU _ w791) (fun _ h9 => h9) rfl dX11_text_108 ?_
  refine lv_iload_n hx hb dX11_text_111 rfl (lv_at hl 0 rfl) ?_
  refine ld_i (j := 5) (v := 0) hx hb hK hP 0 rfl (by decide +kernel) rfl dX11_text_112 ?_
  refine st_i (j := 5) (g := tI [0, 0, 0, 0, 0, 0] 0) hx hb hK hP hD hS 0 rfl (by decide +kernel) upd_tI dX11_text_113 (fun H locs hP hD hS => ?_)
  have hP : va_P D cl0 [(a1, .inl (k 0, 36, .inl (tI [0, 0, 0, 0, 0, 0] 0))), (a0, .inr (8, [.int 2, .int 0, .int 1, .int 0, .int 0, .int 0, .ref a1, .ref a2, .int 0, .int 0, .ref a3, .ref a4, .ref a5, .ref a6, .ref a7, .ref a8, .ref a9, .int 0, .int 0, .int 0, .ref a10, .ref a11, .ref a12, .ref a13, .int 0, .int 0, .ref a14, .ref a15, .ref a16, .ref a17, .int 0, .int 0, .ref a18, .ref a19, .ref a20, .ref a21]))] H := hP
  have hD : va_D A [(a1, .inl (k 0, 36, .inl (tI [0, 0, 0, 0, 0, 0] 0))), (a0, .inr (8, [.int 2, .int 0, .int 1, .int 0, .int 0, .int 0, .ref a1, .ref a2, .int 0, .int 0, .ref a3, .ref a4, .ref a5, .ref a6, .ref a7, .ref a8, .ref a9, .int 0, .int 0, .int 0, .ref a10, .ref a11, .ref a12, .ref a13, .int 0, .int 0, .ref a14, .ref a15, .ref a16, .ref a17, .int 0, .int 0, .ref a18, .ref a19, .ref a20, .ref a21]))] := hD
  refine lv_iinc (v := 6) (lv' := [(3, .int 6), (2, .int 0), (1, .int 1), (0, .ref a0)]) hx hb dX11_text_114 hl (k := 0) rfl (by decide) (by decide) rfl (fun ls hl => ?_)
  refine lv_goto (tgt := 76) hx hb dX11_text_117 (by decide) ?_
  refine lv_iload_n hx hb dX11_text_76 rfl (lv_at hl 0 rfl) ?_
  refine lv_bipush (v := 36) hx hb dX11_text_77 (by decide) ?_
  refine lv_icmp_ge (tgt := 120) hx hb dX11_text_79 (by decide) (fun cc => absurd cc (by decide +kernel)) (fun _ => ?_)
  refine lv_aload_n hx hb dX11_text_82 rfl (lv_at hl 3 rfl) ?_
  refine va_get (D := D) (ci := 8) (v := .ref a1) (C := RX11) (T := TX11) (N := 36) hx hb hU iX11 hown hK.1 hP 1 rfl rfl 6 (by decide) (hU _ w791) (fun _ h9 => h9) rfl dX11_text_83 ?_
  refine lv_iload_n hx hb dX11_text_86 rfl (lv_at hl 0 rfl) ?_
  refine lv_iload_n hx hb dX11_text_87 rfl (lv_at hl 0 rfl) ?_
  refine lv_bipush (v := 9) hx hb dX11_text_88 (by decide) ?_
  refine lv_aload_n hx hb dX11_text_90 rfl (lv_at hl 3 rfl) ?_
  refine va_get (D := D) (ci := 8) (v := .int 0) (C := RX11) (T := TX11) (N := 36) hx hb hU iX11 hown hK.1 hP 1 rfl rfl 1 (by decide) (hU _ w786) (fun _ h9 => h9) rfl dX11_text_91 ?_
  refine lv_imul hx hb dX11_text_94 (sv_i (v := 0) (by decide +kernel) ?_)
  refine lv_icmp_ge (tgt := 107) hx hb dX11_text_95 (by decide) (fun _ => ?_) (fun cc => absurd (by decide +kernel) cc)
  refine lv_aload_n hx hb dX11_text_107 rfl (lv_at hl 3 rfl) ?_
  refine va_get (D := D) (ci := 8) (v := .ref a1) (C := RX11) (T := TX11) (N := 36) hx hb hU iX11 hown hK.1 hP 1 rfl rfl 6 (by decide) (hU _ w791) (fun _ h9 => h9) rfl dX11_text_108 ?_
  refine lv_iload_n hx hb dX11_text_111 rfl (lv_at hl 0 rfl) ?_
  refine ld_i (j := 6) (v := 0) hx hb hK hP 0 rfl (by decide +kernel) rfl dX11_text_112 ?_
  refine st_i (j := 6) (g := tI [0, 0, 0, 0, 0, 0, 0] 0) hx hb hK hP hD hS 0 rfl (by decide +kernel) upd_tI dX11_text_113 (fun H locs hP hD hS => ?_)
  have hP : va_P D cl0 [(a1, .inl (k 0, 36, .inl (tI [0, 0, 0, 0, 0, 0, 0] 0))), (a0, .inr (8, [.int 2, .int 0, .int 1, .int 0, .int 0, .int 0, .ref a1, .ref a2, .int 0, .int 0, .ref a3, .ref a4, .ref a5, .ref a6, .ref a7, .ref a8, .ref a9, .int 0, .int 0, .int 0, .ref a10, .ref a11, .ref a12, .ref a13, .int 0, .int 0, .ref a14, .ref a15, .ref a16, .ref a17, .int 0, .int 0, .ref a18, .ref a19, .ref a20, .ref a21]))] H := hP
  have hD : va_D A [(a1, .inl (k 0, 36, .inl (tI [0, 0, 0, 0, 0, 0, 0] 0))), (a0, .inr (8, [.int 2, .int 0, .int 1, .int 0, .int 0, .int 0, .ref a1, .ref a2, .int 0, .int 0, .ref a3, .ref a4, .ref a5, .ref a6, .ref a7, .ref a8, .ref a9, .int 0, .int 0, .int 0, .ref a10, .ref a11, .ref a12, .ref a13, .int 0, .int 0, .ref a14, .ref a15, .ref a16, .ref a17, .int 0, .int 0, .ref a18, .ref a19, .ref a20, .ref a21]))] := hD
  refine lv_iinc (v := 7) (lv' := [(3, .int 7), (2, .int 0), (1, .int 1), (0, .ref a0)]) hx hb dX11_text_114 hl (k := 0) rfl (by decide) (by decide) rfl (fun ls hl => ?_)
  refine lv_goto (tgt := 76) hx hb dX11_text_117 (by decide) ?_
  refine lv_iload_n hx hb dX11_text_76 rfl (lv_at hl 0 rfl) ?_
  refine lv_bipush (v := 36) hx hb dX11_text_77 (by decide) ?_
  refine lv_icmp_ge (tgt := 120) hx hb dX11_text_79 (by decide) (fun cc => absurd cc (by decide +kernel)) (fun _ => ?_)
  refine lv_aload_n hx hb dX11_text_82 rfl (lv_at hl 3 rfl) ?_
  refine va_get (D := D) (ci := 8) (v := .ref a1) (C := RX11) (T := TX11) (N := 36) hx hb hU iX11 hown hK.1 hP 1 rfl rfl 6 (by decide) (hU _ w791) (fun _ h9 => h9) rfl dX11_text_83 ?_
  refine lv_iload_n hx hb dX11_text_86 rfl (lv_at hl 0 rfl) ?_
  refine lv_iload_n hx hb dX11_text_87 rfl (lv_at hl 0 rfl) ?_
  refine lv_bipush (v := 9) hx hb dX11_text_88 (by decide) ?_
  refine lv_aload_n hx hb dX11_text_90 rfl (lv_at hl 3 rfl) ?_
  refine va_get (D := D) (ci := 8) (v := .int 0) (C := RX11) (T := TX11) (N := 36) hx hb hU iX11 hown hK.1 hP 1 rfl rfl 1 (by decide) (hU _ w786) (fun _ h9 => h9) rfl dX11_text_91 ?_
  refine lv_imul hx hb dX11_text_94 (sv_i (v := 0) (by decide +kernel) ?_)
  refine lv_icmp_ge (tgt := 107) hx hb dX11_text_95 (by decide) (fun _ => ?_) (fun cc => absurd (by decide +kernel) cc)
  refine lv_aload_n hx hb dX11_text_107 rfl (lv_at hl 3 rfl) ?_
  refine va_get (D := D) (ci := 8) (v := .ref a1) (C := RX11) (T := TX11) (N := 36) hx hb hU iX11 hown hK.1 hP 1 rfl rfl 6 (by decide) (hU _ w791) (fun _ h9 => h9) rfl dX11_text_108 ?_
  refine lv_iload_n hx hb dX11_text_111 rfl (lv_at hl 0 rfl) ?_
  refine ld_i (j := 7) (v := 0) hx hb hK hP 0 rfl (by decide +kernel) rfl dX11_text_112 ?_
  refine st_i (j := 7) (g := tI [0, 0, 0, 0, 0, 0, 0, 0] 0) hx hb hK hP hD hS 0 rfl (by decide +kernel) upd_tI dX11_text_113 (fun H locs hP hD hS => ?_)
  have hP : va_P D cl0 [(a1, .inl (k 0, 36, .inl (tI [0, 0, 0, 0, 0, 0, 0, 0] 0))), (a0, .inr (8, [.int 2, .int 0, .int 1, .int 0, .int 0, .int 0, .ref a1, .ref a2, .int 0, .int 0, .ref a3, .ref a4, .ref a5, .ref a6, .ref a7, .ref a8, .ref a9, .int 0, .int 0, .int 0, .ref a10, .ref a11, .ref a12, .ref a13, .int 0, .int 0, .ref a14, .ref a15, .ref a16, .ref a17, .int 0, .int 0, .ref a18, .ref a19, .ref a20, .ref a21]))] H := hP
  have hD : va_D A [(a1, .inl (k 0, 36, .inl (tI [0, 0, 0, 0, 0, 0, 0, 0] 0))), (a0, .inr (8, [.int 2, .int 0, .int 1, .int 0, .int 0, .int 0, .ref a1, .ref a2, .int 0, .int 0, .ref a3, .ref a4, .ref a5, .ref a6, .ref a7, .ref a8, .ref a9, .int 0, .int 0, .int 0, .ref a10, .ref a11, .ref a12, .ref a13, .int 0, .int 0, .ref a14, .ref a15, .ref a16, .ref a17, .int 0, .int 0, .ref a18, .ref a19, .ref a20, .ref a21]))] := hD
  refine lv_iinc (v := 8) (lv' := [(3, .int 8), (2, .int 0), (1, .int 1), (0, .ref a0)]) hx hb dX11_text_114 hl (k := 0) rfl (by decide) (by decide) rfl (fun ls hl => ?_)
  refine lv_goto (tgt := 76) hx hb dX11_text_117 (by decide) ?_
  refine lv_iload_n hx hb dX11_text_76 rfl (lv_at hl 0 rfl) ?_
  refine lv_bipush (v := 36) hx hb dX11_text_77 (by decide) ?_
  refine lv_icmp_ge (tgt := 120) hx hb dX11_text_79 (by decide) (fun cc => absurd cc (by decide +kernel)) (fun _ => ?_)
  refine lv_aload_n hx hb dX11_text_82 rfl (lv_at hl 3 rfl) ?_
  refine va_get (D := D) (ci := 8) (v := .ref a1) (C := RX11) (T := TX11) (N := 36) hx hb hU iX11 hown hK.1 hP 1 rfl rfl 6 (by decide) (hU _ w791) (fun _ h9 => h9) rfl dX11_text_83 ?_
  refine lv_iload_n hx hb dX11_text_86 rfl (lv_at hl 0 rfl) ?_
  refine lv_iload_n hx hb dX11_text_87 rfl (lv_at hl 0 rfl) ?_
  refine lv_bipush (v := 9) hx hb dX11_text_88 (by decide) ?_
  refine lv_aload_n hx hb dX11_text_90 rfl (lv_at hl 3 rfl) ?_
  refine va_get (D := D) (ci := 8) (v := .int 0) (C := RX11) (T := TX11) (N := 36) hx hb hU iX11 hown hK.1 hP 1 rfl rfl 1 (by decide) (hU _ w786) (fun _ h9 => h9) rfl dX11_text_91 ?_
  refine lv_imul hx hb dX11_text_94 (sv_i (v := 0) (by decide +kernel) ?_)
  refine lv_icmp_ge (tgt := 107) hx hb dX11_text_95 (by decide) (fun _ => ?_) (fun cc => absurd (by decide +kernel) cc)
  refine lv_aload_n hx hb dX11_text_107 rfl (lv_at hl 3 rfl) ?_
  refine va_get (D := D) (ci := 8) (v := .ref a1) (C := RX11) (T := TX11) (N := 36) hx hb hU iX11 hown hK.1 hP 1 rfl rfl 6 (by decide) (hU _ w791) (fun _ h9 => h9) rfl dX11_text_108 ?_
  refine lv_iload_n hx hb dX11_text_111 rfl (lv_at hl 0 rfl) ?_
  refine ld_i (j := 8) (v := 0) hx hb hK hP 0 rfl (by decide +kernel) rfl dX11_text_112 ?_
  refine st_i (j := 8) (g := tI [0, 0, 0, 0, 0, 0, 0, 0, 0] 0) hx hb hK hP hD hS 0 rfl (by decide +kernel) upd_tI dX11_text_113 (fun H locs hP hD hS => ?_)
  have hP : va_P D cl0 [(a1, .inl (k 0, 36, .inl (tI [0, 0, 0, 0, 0, 0, 0, 0, 0] 0))), (a0, .inr (8, [.int 2, .int 0, .int 1, .int 0, .int 0, .int 0, .ref a1, .ref a2, .int 0, .int 0, .ref a3, .ref a4, .ref a5, .ref a6, .ref a7, .ref a8, .ref a9, .int 0, .int 0, .int 0, .ref a10, .ref a11, .ref a12, .ref a13, .int 0, .int 0, .ref a14, .ref a15, .ref a16, .ref a17, .int 0, .int 0, .ref a18, .ref a19, .ref a20, .ref a21]))] H := hP
  have hD : va_D A [(a1, .inl (k 0, 36, .inl (tI [0, 0, 0, 0, 0, 0, 0, 0, 0] 0))), (a0, .inr (8, [.int 2, .int 0, .int 1, .int 0, .int 0, .int 0, .ref a1, .ref a2, .int 0, .int 0, .ref a3, .ref a4, .ref a5, .ref a6, .ref a7, .ref a8, .ref a9, .int 0, .int 0, .int 0, .ref a10, .ref a11, .ref a12, .ref a13, .int 0, .int 0, .ref a14, .ref a15, .ref a16, .ref a17, .int 0, .int 0, .ref a18, .ref a19, .ref a20, .ref a21]))] := hD
  refine lv_iinc (v := 9) (lv' := [(3, .int 9), (2, .int 0), (1, .int 1), (0, .ref a0)]) hx hb dX11_text_114 hl (k := 0) rfl (by decide) (by decide) rfl (fun ls hl => ?_)
  refine lv_goto (tgt := 76) hx hb dX11_text_117 (by decide) ?_
  refine lv_iload_n hx hb dX11_text_76 rfl (lv_at hl 0 rfl) ?_
  refine lv_bipush (v := 36) hx hb dX11_text_77 (by decide) ?_
  refine lv_icmp_ge (tgt := 120) hx hb dX11_text_79 (by decide) (fun cc => absurd cc (by decide +kernel)) (fun _ => ?_)
  refine lv_aload_n hx hb dX11_text_82 rfl (lv_at hl 3 rfl) ?_
  refine va_get (D := D) (ci := 8) (v := .ref a1) (C := RX11) (T := TX11) (N := 36) hx hb hU iX11 hown hK.1 hP 1 rfl rfl 6 (by decide) (hU _ w791) (fun _ h9 => h9) rfl dX11_text_83 ?_
  refine lv_iload_n hx hb dX11_text_86 rfl (lv_at hl 0 rfl) ?_
  refine lv_iload_n hx hb dX11_text_87 rfl (lv_at hl 0 rfl) ?_
  refine lv_bipush (v := 9) hx hb dX11_text_88 (by decide) ?_
  refine lv_aload_n hx hb dX11_text_90 rfl (lv_at hl 3 rfl) ?_
  refine va_get (D := D) (ci := 8) (v := .int 0) (C := RX11) (T := TX11) (N := 36) hx hb hU iX11 hown hK.1 hP 1 rfl rfl 1 (by decide) (hU _ w786) (fun _ h9 => h9) rfl dX11_text_91 ?_
  refine lv_imul hx hb dX11_text_94 (sv_i (v := 0) (by decide +kernel) ?_)
  refine lv_icmp_ge (tgt := 107) hx hb dX11_text_95 (by decide) (fun _ => ?_) (fun cc => absurd (by decide +kernel) cc)
  refine lv_aload_n hx hb dX11_text_107 rfl (lv_at hl 3 rfl) ?_
  refine va_get (D := D) (ci := 8) (v := .ref a1) (C := RX11) (T := TX11) (N := 36) hx hb hU iX11 hown hK.1 hP 1 rfl rfl 6 (by decide) (hU _ w791) (fun _ h9 => h9) rfl dX11_text_108 ?_
  refine lv_iload_n hx hb dX11_text_111 rfl (lv_at hl 0 rfl) ?_
  refine ld_i (j := 9) (v := 0) hx hb hK hP 0 rfl (by decide +kernel) rfl dX11_text_112 ?_
  refine st_i (j := 9) (g := tI [0, 0, 0, 0, 0, 0, 0, 0, 0, 0] 0) hx hb hK hP hD hS 0 rfl (by decide +kernel) upd_tI dX11_text_113 (fun H locs hP hD hS => ?_)
  have hP : va_P D cl0 [(a1, .inl (k 0, 36, .inl (tI [0, 0, 0, 0, 0, 0, 0, 0, 0, 0] 0))), (a0, .inr (8, [.int 2, .int 0, .int 1, .int 0, .int 0, .int 0, .ref a1, .ref a2, .int 0, .int 0, .ref a3, .ref a4, .ref a5, .ref a6, .ref a7, .ref a8, .ref a9, .int 0, .int 0, .int 0, .ref a10, .ref a11, .ref a12, .ref a13, .int 0, .int 0, .ref a14, .ref a15, .ref a16, .ref a17, .int 0, .int 0, .ref a18, .ref a19, .ref a20, .ref a21]))] H := hP
  have hD : va_D A [(a1, .inl (k 0, 36, .inl (tI [0, 0, 0, 0, 0, 0, 0, 0, 0, 0] 0))), (a0, .inr (8, [.int 2, .int 0, .int 1, .int 0, .int 0, .int 0, .ref a1, .ref a2, .int 0, .int 0, .ref a3, .ref a4, .ref a5, .ref a6, .ref a7, .ref a8, .ref a9, .int 0, .int 0, .int 0, .ref a10, .ref a11, .ref a12, .ref a13, .int 0, .int 0, .ref a14, .ref a15, .ref a16, .ref a17, .int 0, .int 0, .ref a18, .ref a19, .ref a20, .ref a21]))] := hD
  refine lv_iinc (v := 10) (lv' := [(3, .int 10), (2, .int 0), (1, .int 1), (0, .ref a0)]) hx hb dX11_text_114 hl (k := 0) rfl (by decide) (by decide) rfl (fun ls hl => ?_)
  refine lv_goto (tgt := 76) hx hb dX11_text_117 (by decide) ?_
  refine lv_iload_n hx hb dX11_text_76 rfl (lv_at hl 0 rfl) ?_
  refine lv_bipush (v := 36) hx hb dX11_text_77 (by decide) ?_
  refine lv_icmp_ge (tgt := 120) hx hb dX11_text_79 (by decide) (fun cc => absurd cc (by decide +kernel)) (fun _ => ?_)
  refine lv_aload_n hx hb dX11_text_82 rfl (lv_at hl 3 rfl) ?_
  refine va_get (D := D) (ci := 8) (v := .ref a1) (C := RX11) (T := TX11) (N := 36) hx hb hU iX11 hown hK.1 hP 1 rfl rfl 6 (by decide) (hU _ w791) (fun _ h9 => h9) rfl dX11_text_83 ?_
  refine lv_iload_n hx hb dX11_text_86 rfl (lv_at hl 0 rfl) ?_
  refine lv_iload_n hx hb dX11_text_87 rfl (lv_at hl 0 rfl) ?_
  refine lv_bipush (v := 9) hx hb dX11_text_88 (by decide) ?_
  refine lv_aload_n hx hb dX11_text_90 rfl (lv_at hl 3 rfl) ?_
  refine va_get (D := D) (ci := 8) (v := .int 0) (C := RX11) (T := TX11) (N := 36) hx hb hU iX11 hown hK.1 hP 1 rfl rfl 1 (by decide) (hU _ w786) (fun _ h9 => h9) rfl dX11_text_91 ?_
  refine lv_imul hx hb dX11_text_94 (sv_i (v := 0) (by decide +kernel) ?_)
  refine lv_icmp_ge (tgt := 107) hx hb dX11_text_95 (by decide) (fun _ => ?_) (fun cc => absurd (by decide +kernel) cc)
  refine lv_aload_n hx hb dX11_text_107 rfl (lv_at hl 3 rfl) ?_
  refine va_get (D := D) (ci := 8) (v := .ref a1) (C := RX11) (T := TX11) (N := 36) hx hb hU iX11 hown hK.1 hP 1 rfl rfl 6 (by decide) (hU _ w791) (fun _ h9 => h9) rfl dX11_text_108 ?_
  refine lv_iload_n hx hb dX11_text_111 rfl (lv_at hl 0 rfl) ?_
  refine ld_i (j := 10) (v := 0) hx hb hK hP 0 rfl (by decide +kernel) rfl dX11_text_112 ?_
  refine st_i (j := 10) (g := tI [0, 0, 0, 0, 0, 0, 0, 0, 0, 0, 0] 0) hx hb hK hP hD hS 0 rfl (by decide +kernel) upd_tI dX11_text_113 (fun H locs hP hD hS => ?_)
  have hP : va_P D cl0 [(a1, .inl (k 0, 36, .inl (tI [0, 0, 0, 0, 0, 0, 0, 0, 0, 0, 0] 0))), (a0, .inr (8, [.int 2, .int 0, .int 1, .int 0, .int 0, .int 0, .ref a1, .ref a2, .int 0, .int 0, .ref a3, .ref a4, .ref a5, .ref a6, .ref a7, .ref a8, .ref a9, .int 0, .int 0, .int 0, .ref a10, .ref a11, .ref a12, .ref a13, .int 0, .int 0, .ref a14, .ref a15, .ref a16, .ref a17, .int 0, .int 0, .ref a18, .ref a19, .ref a20, .ref a21]))] H := hP
  have hD : va_D A [(a1, .inl (k 0, 36, .inl (tI [0, 0, 0, 0, 0, 0, 0, 0, 0, 0, 0] 0))), (a0, .inr (8, [.int 2, .int 0, .int 1, .int 0, .int 0, .int 0, .ref a1, .ref a2, .int 0, .int 0, .ref a3, .ref a4, .ref a5, .ref a6, .ref a7, .ref a8, .ref a9, .int 0, .int 0, .int 0, .ref a10, .ref a11, .ref a12, .ref a13, .int 0, .int 0, .ref a14, .ref a15, .ref a16, .ref a17, .int 0, .int 0, .ref a18, .ref a19, .ref a20, .ref a21]))] := hD
  refine lv_iinc (v := 11) (lv' := [(3, .int 11), (2, .int 0), (1, .int 1), (0, .ref a0)]) hx hb dX11_text_114 hl (k := 0) rfl (by decide) (by decide) rfl (fun ls hl => ?_)
  refine lv_goto (tgt := 76) hx hb dX11_text_117 (by decide) ?_
  refine lv_iload_n hx hb dX11_text_76 rfl (lv_at hl 0 rfl) ?_
  refine lv_bipush (v := 36) hx hb dX11_text_77 (by decide) ?_
  refine lv_icmp_ge (tgt := 120) hx hb dX11_text_79 (by decide) (fun cc => absurd cc (by decide +kernel)) (fun _ => ?_)
  refine lv_aload_n hx hb dX11_text_82 rfl (lv_at hl 3 rfl) ?_
  refine va_get (D := D) (ci := 8) (v := .ref a1) (C := RX11) (T := TX11) (N := 36) hx hb hU iX11 hown hK.1 hP 1 rfl rfl 6 (by decide) (hU _ w791) (fun _ h9 => h9) rfl dX11_text_83 ?_
  refine lv_iload_n hx hb dX11_text_86 rfl (lv_at hl 0 rfl) ?_
  refine lv_iload_n hx hb dX11_text_87 rfl (lv_at hl 0 rfl) ?_
  refine lv_bipush (v := 9) hx hb dX11_text_88 (by decide) ?_
  refine lv_aload_n hx hb dX11_text_90 rfl (lv_at hl 3 rfl) ?_
  refine va_get (D := D) (ci := 8) (v := .int 0) (C := RX11) (T := TX11) (N := 36) hx hb hU iX11 hown hK.1 hP 1 rfl rfl 1 (by decide) (hU _ w786) (fun _ h9 => h9) rfl dX11_text_91 ?_
  refine lv_imul hx hb dX11_text_94 (sv_i (v := 0) (by decide +kernel) ?_)
  refine lv_icmp_ge (tgt := 107) hx hb dX11_text_95 (by decide) (fun _ => ?_) (fun cc => absurd (by decide +kernel) cc)
  refine lv_aload_n hx hb dX11_text_107 rfl (lv_at hl 3 rfl) ?_
  refine va_get (D := D) (ci := 8) (v := .ref a1) (C := RX11) (T := TX11) (N := 36) hx hb hU iX11 hown hK.1 hP 1 rfl rfl 6 (by decide) (hU _ w791) (fun _ h9 => h9) rfl dX11_text_108 ?_
  refine lv_iload_n hx hb dX11_text_111 rfl (lv_at hl 0 rfl) ?_
  refine ld_i (j := 11) (v := 0) hx hb hK hP 0 rfl (by decide +kernel) rfl dX11_text_112 ?_
  refine st_i (j := 11) (g := tI [0, 0, 0, 0, 0, 0, 0, 0, 0, 0, 0, 0] 0) hx hb hK hP hD hS 0 rfl (by decide +kernel) upd_tI dX11_text_113 (fun H locs hP hD hS => ?_)
  have hP : va_P D cl0 [(a1, .inl (k 0, 36, .inl (tI [0, 0, 0, 0, 0, 0, 0, 0, 0, 0, 0, 0] 0))), (a0, .inr (8, [.int 2, .int 0, .int 1, .int 0, .int 0, .int 0, .ref a1, .ref a2, .int 0, .int 0, .ref a3, .ref a4, .ref a5, .ref a6, .ref a7, .ref a8, .ref a9, .int 0, .int 0, .int 0, .ref a10, .ref a11, .ref a12, .ref a13, .int 0, .int 0, .ref a14, .ref a15, .ref a16, .ref a17, .int 0, .int 0, .ref a18, .ref a19, .ref a20, .ref a21]))] H := hP
  have hD : va_D A [(a1, .inl (k 0, 36, .inl (tI [0, 0, 0, 0, 0, 0, 0, 0, 0, 0, 0, 0] 0))), (a0, .inr (8, [.int 2, .int 0, .int 1, .int 0, .int 0, .int 0, .ref a1, .ref a2, .int 0, .int 0, .ref a3, .ref a4, .ref a5, .ref a6, .ref a7, .ref a8, .ref a9, .int 0, .int 0, .int 0, .ref a10, .ref a11, .ref a12, .ref a13, .int 0, .int 0, .ref a14, .ref a15, .ref a16, .ref a17, .int 0, .int 0, .ref a18, .ref a19, .ref a20, .ref a21]))] := hD
  refine lv_iinc (v := 12) (lv' := [(3, .int 12), (2, .int 0), (1, .int 1), (0, .ref a0)]) hx hb dX11_text_114 hl (k := 0) rfl (by decide) (by decide) rfl (fun ls hl => ?_)
  refine lv_goto (tgt := 76) hx hb dX11_text_117 (by decide) ?_
  refine lv_iload_n hx hb dX11_text_76 rfl (lv_at hl 0 rfl) ?_
  refine lv_bipush (v := 36) hx hb dX11_text_77 (by decide) ?_
  refine lv_icmp_ge (tgt := 120) hx hb dX11_text_79 (by decide) (fun cc => absurd cc (by decide +kernel)) (fun _ => ?_)
  refine lv_aload_n hx hb dX11_text_82 rfl (lv_at hl 3 rfl) ?_
  refine va_get (D := D) (ci := 8) (v := .ref a1) (C := RX11) (T := TX11) (N := 36) hx hb hU iX11 hown hK.1 hP 1 rfl rfl 6 (by decide) (hU _ w791) (fun _ h9 => h9) rfl dX11_text_83 ?_
  refine lv_iload_n hx hb dX11_text_86 rfl (lv_at hl 0 rfl) ?_
  refine lv_iload_n hx hb dX11_text_87 rfl (lv_at hl 0 rfl) ?_
  refine lv_bipush (v := 9) hx hb dX11_text_88 (by decide) ?_
  refine lv_aload_n hx hb dX11_text_90 rfl (lv_at hl 3 rfl) ?_
  refine va_get (D := D) (ci := 8) (v := .int 0) (C := RX11) (T := TX11) (N := 36) hx hb hU iX11 hown hK.1 hP 1 rfl rfl 1 (by decide) (hU _ w786) (fun _ h9 => h9) rfl dX11_text_91 ?_
  refine lv_imul hx hb dX11_text_94 (sv_i (v := 0) (by decide +kernel) ?_)
  refine lv_icmp_ge (tgt := 107) hx hb dX11_text_95 (by decide) (fun _ => ?_) (fun cc => absurd (by decide +kernel) cc)
  refine lv_aload_n hx hb dX11_text_107 rfl (lv_at hl 3 rfl) ?_
  refine va_get (D := D) (ci := 8) (v := .ref a1) (C := RX11) (T := TX11) (N := 36) hx hb hU iX11 hown hK.1 hP 1 rfl rfl 6 (by decide) (hU _ w791) (fun _ h9 => h9) rfl dX11_text_108 ?_
  refine lv_iload_n hx hb dX11_text_111 rfl (lv_at hl 0 rfl) ?_
  refine ld_i (j := 12) (v := 0) hx hb hK hP 0 rfl (by decide +kernel) rfl dX11_text_112 ?_
  refine st_i (j := 12) (g := tI [0, 0, 0, 0, 0, 0, 0, 0, 0, 0, 0, 0, 0] 0) hx hb hK hP hD hS 0 rfl (by decide +kernel) upd_tI dX11_text_113 (fun H locs hP hD hS => ?_)
  have hP : va_P D cl0 [(a1, .inl (k 0, 36, .inl (tI [0, 0, 0, 0, 0, 0, 0, 0, 0, 0, 0, 0, 0] 0))), (a0, .inr (8, [.int 2, .int 0, .int 1, .int 0, .int 0, .int 0, .ref a1, .ref a2, .int 0, .int 0, .ref a3, .ref a4, .ref a5, .ref a6, .ref a7, .ref a8, .ref a9, .int 0, .int 0, .int 0, .ref a10, .ref a11, .ref a12, .ref a13, .int 0, .int 0, .ref a14, .ref a15, .ref a16, .ref a17, .int 0, .int 0, .ref a18, .ref a19, .ref a20, .ref a21]))] H := hP
  have hD : va_D A [(a1, .inl (k 0, 36, .inl (tI [0, 0, 0, 0, 0, 0, 0, 0, 0, 0, 0, 0, 0] 0))), (a0, .inr (8, [.int 2, .int 0, .int 1, .int 0, .int 0, .int 0, .ref a1, .ref a2, .int 0, .int 0, .ref a3, .ref a4, .ref a5, .ref a6, .ref a7, .ref a8, .ref a9, .int 0, .int 0, .int 0, .ref a10, .ref a11, .ref a12, .ref a13, .int 0, .int 0, .ref a14, .ref a15, .ref a16, .ref a17, .int 0, .int 0, .ref a18, .ref a19, .ref a20, .ref a21]))] := hD
  refine lv_iinc (v := 13) (lv' := [(3, .int 13), (2, .int 0), (1, .int 1), (0, .ref a0)]) hx hb dX11_text_114 hl (k := 0) rfl (by decide) (by decide) rfl (fun ls hl => ?_)
  refine lv_goto (tgt := 76) hx hb dX11_text_117 (by decide) ?_
  refine lv_iload_n hx hb dX11_text_76 rfl (lv_at hl 0 rfl) ?_
  refine lv_bipush (v := 36) hx hb dX11_text_77 (by decide) ?_
  refine lv_icmp_ge (tgt := 120) hx hb dX11_text_79 (by decide) (fun cc => absurd cc (by decide +kernel)) (fun _ => ?_)
  refine lv_aload_n hx hb dX11_text_82 rfl (lv_at hl 3 rfl) ?_
  refine va_get (D := D) (ci := 8) (v := .ref a1) (C := RX11) (T := TX11) (N := 36) hx hb hU iX11 hown hK.1 hP 1 rfl rfl 6 (by decide) (hU _ w791) (fun _ h9 => h9) rfl dX11_text_83 ?_
  refine lv_iload_n hx hb dX11_text_86 rfl (lv_at hl 0 rfl) ?_
  refine lv_iload_n hx hb dX11_text_87 rfl (lv_at hl 0 rfl) ?_
  refine lv_bipush (v := 9) hx hb dX11_text_88 (by decide) ?_
  refine lv_aload_n hx hb dX11_text_90 rfl (lv_at hl 3 rfl) ?_
  refine va_get (D := D) (ci := 8) (v := .int 0) (C := RX11) (T := TX11) (N := 36) hx hb hU iX11 hown hK.1 hP 1 rfl rfl 1 (by decide) (hU _ w786) (fun _ h9 => h9) rfl dX11_text_91 ?_
  refine lv_imul hx hb dX11_text_94 (sv_i (v := 0) (by decide +kernel) ?_)
  refine lv_icmp_ge (tgt := 107) hx hb dX11_text_95 (by decide) (fun _ => ?_) (fun cc => absurd (by decide +kernel) cc)
  refine lv_aload_n hx hb dX11_text_107 rfl (lv_at hl 3 rfl) ?_
  refine va_get (D := D) (ci := 8) (v := .ref a1) (C := RX11) (T := TX11) (N := 36) hx hb hU iX11 hown hK.1 hP 1 rfl rfl 6 (by decide) (hU _ w791) (fun _ h9 => h9) rfl dX11_text_108 ?_
  refine lv_iload_n hx hb dX11_text_111 rfl (lv_at hl 0 rfl) ?_
  refine ld_i (j := 13) (v := 0) hx hb hK hP 0 rfl (by decide +kernel) rfl dX11_text_112 ?_
  refine st_i (j := 13) (g := tI [0, 0, 0, 0, 0, 0, 0, 0, 0, 0, 0, 0, 0, 0] 0) hx hb hK hP hD hS 0 rfl (by decide +kernel) upd_tI dX11_text_113 (fun H locs hP hD hS => ?_)
  have hP : va_P D cl0 [(a1, .inl (k 0, 36, .inl (tI [0, 0, 0, 0, 0, 0, 0, 0, 0, 0, 0, 0, 0, 0] 0))), (a0, .inr (8, [.int 2, .int 0, .int 1, .int 0, .int 0, .int 0, .ref a1, .ref a2, .int 0, .int 0, .ref a3, .ref a4, .ref a5, .ref a6, .ref a7, .ref a8, .ref a9, .int 0, .int 0, .int 0, .ref a10, .ref a11, .ref a12, .ref a13, .int 0, .int 0, .ref a14, .ref a15, .ref a16, .ref a17, .int 0, .int 0, .ref a18, .ref a19, .ref a20, .ref a21]))] H := hP
  have hD : va_D A [(a1, .inl (k 0, 36, .inl (tI [0, 0, 0, 0, 0, 0, 0, 0, 0, 0, 0, 0, 0, 0] 0))), (a0, .inr (8, [.int 2, .int 0, .int 1, .int 0, .int 0, .int 0, .ref a1, .ref a2, .int 0, .int 0, .ref a3, .ref a4, .ref a5, .ref a6, .ref a7, .ref a8, .ref a9, .int 0, .int 0, .int 0, .ref a10, .ref a11, .ref a12, .ref a13, .int 0, .int 0, .ref a14, .ref a15, .ref a16, .ref a17, .int 0, .int 0, .ref a18, .ref a19, .ref a20, .ref a21]))] := hD
  refine lv_iinc (v := 14) (lv' := [(3, .int 14), (2, .int 0), (1, .int 1), (0, .ref a0)]) hx hb dX11_text_114 hl (k := 0) rfl (by decide) (by decide) rfl (fun ls hl => ?_)
  refine lv_goto (tgt := 76) hx hb dX11_text_117 (by decide) ?_
  refine lv_iload_n hx hb dX11_text_76 rfl (lv_at hl 0 rfl) ?_
  refine lv_bipush (v := 36) hx hb dX11_text_77 (by decide) ?_
  refine lv_icmp_ge (tgt := 120) hx hb dX11_text_79 (by decide) (fun cc => absurd cc (by decide +kernel)) (fun _ => ?_)
  refine lv_aload_n hx hb dX11_text_82 rfl (lv_at hl 3 rfl) ?_
  refine va_get (D := D) (ci := 8) (v := .ref a1) (C := RX11) (T := TX11) (N := 36) hx hb hU iX11 hown hK.1 hP 1 rfl rfl 6 (by decide) (hU _ w791) (fun _ h9 => h9) rfl dX11_text_83 ?_
  refine lv_iload_n hx hb dX11_text_86 rfl (lv_at hl 0 rfl) ?_
  refine lv_iload_n hx hb dX11_text_87 rfl (lv_at hl 0 rfl) ?_
  refine lv_bipush (v := 9) hx hb dX11_text_88 (by decide) ?_
  refine lv_aload_n hx hb dX11_text_90 rfl (lv_at hl 3 rfl) ?_
  refine va_get (D := D) (ci := 8) (v := .int 0) (C := RX11) (T := TX11) (N := 36) hx hb hU iX11 hown hK.1 hP 1 rfl rfl 1 (by decide) (hU _ w786) (fun _ h9 => h9) rfl dX11_text_91 ?_
  refine lv_imul hx hb dX11_text_94 (sv_i (v := 0) (by decide +kernel) ?_)
  refine lv_icmp_ge (tgt := 107) hx hb dX11_text_95 (by decide) (fun _ => ?_) (fun cc => absurd (by decide +kernel) cc)
  refine lv_aload_n hx hb dX11_text_107 rfl (lv_at hl 3 rfl) ?_
  refine va_get (D := D) (ci := 8) (v := .ref a1) (C := RX11) (T := TX11) (N := 36) hx hb hU iX11 hown hK.1 hP 1 rfl rfl 6 (by decide) (hU _ w791) (fun _ h9 => h9) rfl dX11_text_108 ?_
  refine lv_iload_n hx hb dX11_text_111 rfl (lv_at hl 0 rfl) ?_
  refine ld_i (j := 14) (v := 0) hx hb hK hP 0 rfl (by decide +kernel) rfl dX11_text_112 ?_
  refine st_i (j := 14) (g := tI [0, 0, 0, 0, 0, 0, 0, 0, 0, 0, 0, 0, 0, 0, 0] 0) hx hb hK hP hD hS 0 rfl (by decide +kernel) upd_tI dX11_text_113 (fun H locs hP hD hS => ?_)
  have hP : va_P D cl0 [(a1, .inl (k 0, 36, .inl (tI [0, 0, 0, 0, 0, 0, 0, 0, 0, 0, 0, 0, 0, 0, 0] 0))), (a0, .inr (8, [.int 2, .int 0, .int 1, .int 0, .int 0, .int 0, .ref a1, .ref a2, .int 0, .int 0, .ref a3, .ref a4, .ref a5, .ref a6, .ref a7, .ref a8, .ref a9, .int 0, .int 0, .int 0, .ref a10, .ref a11, .ref a12, .ref a13, .int 0, .int 0, .ref a14, .ref a15, .ref a16, .ref a17, .int 0, .int 0, .ref a18, .ref a19, .ref a20, .ref a21]))] H := hP
  have hD : va_D A [(a1, .inl (k 0, 36, .inl (tI [0, 0, 0, 0, 0, 0, 0, 0, 0, 0, 0, 0, 0, 0, 0] 0))), (a0, .inr (8, [.int 2, .int 0, .int 1, .int 0, .int 0, .int 0, .ref a1, .ref a2, .int 0, .int 0, .ref a3, .ref a4, .ref a5, .ref a6, .ref a7, .ref a8, .ref a9, .int 0, .int 0, .int 0, .ref a10, .ref a11, .ref a12, .ref a13, .int 0, .int 0, .ref a14, .ref a15, .ref a16, .ref a17, .int 0, .int 0, .ref a18, .ref a19, .ref a20, .ref a21]))] := hD
  refine lv_iinc (v := 15) (lv' := [(3, .int 15), (2, .int 0), (1, .int 1), (0, .ref a0)]) hx hb dX11_text_114 hl (k := 0) rfl (by decide) (by decide) rfl (fun ls hl => ?_)
  refine lv_goto (tgt := 76) hx hb dX11_text_117 (by decide) ?_
  refine lv_iload_n hx hb dX11_text_76 rfl (lv_at hl 0 rfl) ?_
  refine lv_bipush (v := 36) hx hb dX11_text_77 (by decide) ?_
  refine lv_icmp_ge (tgt := 120) hx hb dX11_text_79 (by decide) (fun cc => absurd cc (by decide +kernel)) (fun _ => ?_)
  refine lv_aload_n hx hb dX11_text_82 rfl (lv_at hl 3 rfl) ?_
  refine va_get (D := D) (ci := 8) (v := .ref a1) (C := RX11) (T := TX11) (N := 36) hx hb hU iX11 hown hK.1 hP 1 rfl rfl 6 (by decide) (hU _ w791) (fun _ h9 => h9) rfl dX11_text_83 ?_
  refine lv_iload_n hx hb dX11_text_86 rfl (lv_at hl 0 rfl) ?_
  refine lv_iload_n hx hb dX11_text_87 rfl (lv_at hl 0 rfl) ?_
  refine lv_bipush (v := 9) hx hb dX11_text_88 (by decide) ?_
  refine lv_aload_n hx hb dX11_text_90 rfl (lv_at hl 3 rfl) ?_
  refine va_get (D := D) (ci := 8) (v := .int 0) (C := RX11) (T := TX11) (N := 36) hx hb hU iX11 hown hK.1 hP 1 rfl rfl 1 (by decide) (hU _ w786) (fun _ h9 => h9) rfl dX11_text_91 ?_
  refine lv_imul hx hb dX11_text_94 (sv_i (v := 0) (by decide +kernel) ?_)
  refine lv_icmp_ge (tgt := 107) hx hb dX11_text_95 (by decide) (fun _ => ?_) (fun cc => absurd (by decide +kernel) cc)
  refine lv_aload_n hx hb dX11_text_107 rfl (lv_at hl 3 rfl) ?_
  refine va_get (D := D) (ci := 8) (v := .ref a1) (C := RX11) (T := TX11) (N := 36) hx hb hU iX11 hown hK.1 hP 1 rfl rfl 6 (by decide) (hU _ w791) (fun _ h9 => h9) rfl dX11_text_108 ?_
  refine lv_iload_n hx hb dX11_text_111 rfl (lv_at hl 0 rfl) ?_
  refine ld_i (j := 15) (v := 0) hx hb hK hP 0 rfl (by decide +kernel) rfl dX11_text_112 ?_
  refine st_i (j := 15) (g := tI [0, 0, 0, 0, 0, 0, 0, 0, 0, 0, 0, 0, 0, 0, 0, 0] 0) hx hb hK hP hD hS 0 rfl (by decide +kernel) upd_tI dX11_text_113 (fun H locs hP hD hS => ?_)
  have hP : va_P D cl0 [(a1, .inl (k 0, 36, .inl (tI [0, 0, 0, 0, 0, 0, 0, 0, 0, 0, 0, 0, 0, 0, 0, 0] 0))), (a0, .inr (8, [.int 2, .int 0, .int 1, .int 0, .int 0, .int 0, .ref a1, .ref a2, .int 0, .int 0, .ref a3, .ref a4, .ref a5, .ref a6, .ref a7, .ref a8, .ref a9, .int 0, .int 0, .int 0, .ref a10, .ref a11, .ref a12, .ref a13, .int 0, .int 0, .ref a14, .ref a15, .ref a16, .ref a17, .int 0, .int 0, .ref a18, .ref a19, .ref a20, .ref a21]))] H := hP
  have hD : va_D A [(a1, .inl (k 0, 36, .inl (tI [0, 0, 0, 0, 0, 0, 0, 0, 0, 0, 0, 0, 0, 0, 0, 0] 0))), (a0, .inr (8, [.int 2, .int 0, .int 1, .int 0, .int 0, .int 0, .ref a1, .ref a2, .int 0, .int 0, .ref a3, .ref a4, .ref a5, .ref a6, .ref a7, .ref a8, .ref a9, .int 0, .int 0, .int 0, .ref a10, .ref a11, .ref a12, .ref a13, .int 0, .int 0, .ref a14, .ref a15, .ref a16, .ref a17, .int 0, .int 0, .ref a18, .ref a19, .ref a20, .ref a21]))] := hD
  refine lv_iinc (v := 16) (lv' := [(3, .int 16), (2, .int 0), (1, .int 1), (0, .ref a0)]) hx hb dX11_text_114 hl (k := 0) rfl (by decide) (by decide) rfl (fun ls hl => ?_)
  refine lv_goto (tgt := 76) hx hb dX11_text_117 (by decide) ?_
  refine lv_iload_n hx hb dX11_text_76 rfl (lv_at hl 0 rfl) ?_
  refine lv_bipush (v := 36) hx hb dX11_text_77 (by decide) ?_
  refine lv_icmp_ge (tgt := 120) hx hb dX11_text_79 (by decide) (fun cc => absurd cc (by decide +kernel)) (fun _ => ?_)
  refine lv_aload_n hx hb dX11_text_82 rfl (lv_at hl 3 rfl) ?_
  refine va_get (D := D) (ci := 8) (v := .ref a1) (C := RX11) (T := TX11) (N := 36) hx hb hU iX11 hown hK.1 hP 1 rfl rfl 6 (by decide) (hU _ w791) (fun _ h9 => h9) rfl dX11_text_83 ?_
  refine lv_iload_n hx hb dX11_text_86 rfl (lv_at hl 0 rfl) ?_
  refine lv_iload_n hx hb dX11_text_87 rfl (lv_at hl 0 rfl) ?_
  refine lv_bipush (v := 9) hx hb dX11_text_88 (by decide) ?_
  refine lv_aload_n hx hb dX11_text_90 rfl (lv_at hl 3 rfl) ?_
  refine va_get (D := D) (ci := 8) (v := .int 0) (C := RX11) (T := TX11) (N := 36) hx hb hU iX11 hown hK.1 hP 1 rfl rfl 1 (by decide) (hU _ w786) (fun _ h9 => h9) rfl dX11_text_91 ?_
  refine lv_imul hx hb dX11_text_94 (sv_i (v := 0) (by decide +kernel) ?_)
  refine lv_icmp_ge (tgt := 107) hx hb dX11_text_95 (by decide) (fun _ => ?_) (fun cc => absurd (by decide +kernel) cc)
  refine lv_aload_n hx hb dX11_text_107 rfl (lv_at hl 3 rfl) ?_
  refine va_get (D := D) (ci := 8) (v := .ref a1) (C := RX11) (T := TX11) (N := 36) hx hb hU iX11 hown hK.1 hP 1 rfl rfl 6 (by decide) (hU _ w791) (fun _ h9 => h9) rfl dX11_text_108 ?_
  refine lv_iload_n hx hb dX11_text_111 rfl (lv_at hl 0 rfl) ?_
  refine ld_i (j := 16) (v := 0) hx hb hK hP 0 rfl (by decide +kernel) rfl dX11_text_112 ?_
  refine st_i (j := 16) (g := tI [0, 0, 0, 0, 0, 0, 0, 0, 0, 0, 0, 0, 0, 0, 0, 0, 0] 0) hx hb hK hP hD hS 0 rfl (by decide +kernel) upd_tI dX11_text_113 (fun H locs hP hD hS => ?_)
  have hP : va_P D cl0 [(a1, .inl (k 0, 36, .inl (tI [0, 0, 0, 0, 0, 0, 0, 0, 0, 0, 0, 0, 0, 0, 0, 0, 0] 0))), (a0, .inr (8, [.int 2, .int 0, .int 1, .int 0, .int 0, .int 0, .ref a1, .ref a2, .int 0, .int 0, .ref a3, .ref a4, .ref a5, .ref a6, .ref a7, .ref a8, .ref a9, .int 0, .int 0, .int 0, .ref a10, .ref a11, .ref a12, .ref a13, .int 0, .int 0, .ref a14, .ref a15, .ref a16, .ref a17, .int 0, .int 0, .ref a18, .ref a19, .ref a20, .ref a21]))] H := hP
  have hD : va_D A [(a1, .inl (k 0, 36, .inl (tI [0, 0, 0, 0, 0, 0, 0, 0, 0, 0, 0, 0, 0, 0, 0, 0, 0] 0))), (a0, .inr (8, [.int 2, .int 0, .int 1, .int 0, .int 0, .int 0, .ref a1, .ref a2, .int 0, .int 0, .ref a3, .ref a4, .ref a5, .ref a6, .ref a7, .ref a8, .ref a9, .int 0, .int 0, .int 0, .ref a10, .ref a11, .ref a12, .ref a13, .int 0, .int 0, .ref a14, .ref a15, .ref a16, .ref a17, .int 0, .int 0, .ref a18, .ref a19, .ref a20, .ref a21]))] := hD
  refine lv_iinc (v := 17) (lv' := [(3, .int 17), (2, .int 0), (1, .int 1), (0, .ref a0)]) hx hb dX11_text_114 hl (k := 0) rfl (by decide) (by decide) rfl (fun ls hl => ?_)
  refine lv_goto (tgt := 76) hx hb dX11_text_117 (by decide) ?_
  refine lv_iload_n hx hb dX11_text_76 rfl (lv_at hl 0 rfl) ?_
  refine lv_bipush (v := 36) hx hb dX11_text_77 (by decide) ?_
  refine lv_icmp_ge (tgt := 120) hx hb dX11_text_79 (by decide) (fun cc => absurd cc (by decide +kernel)) (fun _ => ?_)
  refine lv_aload_n hx hb dX11_text_82 rfl (lv_at hl 3 rfl) ?_
  refine va_get (D := D) (ci := 8) (v := .ref a1) (C := RX11) (T := TX11) (N := 36) hx hb hU iX11 hown hK.1 hP 1 rfl rfl 6 (by decide) (hU _ w791) (fun _ h9 => h9) rfl dX11_text_83 ?_
  refine lv_iload_n hx hb dX11_text_86 rfl (lv_at hl 0 rfl) ?_
  refine lv_iload_n hx hb dX11_text_87 rfl (lv_at hl 0 rfl) ?_
  refine lv_bipush (v := 9) hx hb dX11_text_88 (by decide) ?_
  refine lv_aload_n hx hb dX11_text_90 rfl (lv_at hl 3 rfl) ?_
  refine va_get (D := D) (ci := 8) (v := .int 0) (C := RX11) (T := TX11) (N := 36) hx hb hU iX11 hown hK.1 hP 1 rfl rfl 1 (by decide) (hU _ w786) (fun _ h9 => h9) rfl dX11_text_91 ?_
  refine lv_imul hx hb dX11_text_94 (sv_i (v := 0) (by decide +kernel) ?_)
  refine lv_icmp_ge (tgt := 107) hx hb dX11_text_95 (by decide) (fun _ => ?_) (fun cc => absurd (by decide +kernel) cc)
  refine lv_aload_n hx hb dX11_text_107 rfl (lv_at hl 3 rfl) ?_
  refine va_get (D := D) (ci := 8) (v := .ref a1) (C := RX11) (T := TX11) (N := 36) hx hb hU iX11 hown hK.1 hP 1 rfl rfl 6 (by decide) (hU _ w791) (fun _ h9 => h9) rfl dX11_text_108 ?_
  refine lv_iload_n hx hb dX11_text_111 rfl (lv_at hl 0 rfl) ?_
  refine ld_i (j := 17) (v := 0) hx hb hK hP 0 rfl (by decide +kernel) rfl dX11_text_112 ?_
  refine st_i (j := 17) (g := tI [0, 0, 0, 0, 0, 0, 0, 0, 0, 0, 0, 0, 0, 0, 0, 0, 0, 0] 0) hx hb hK hP hD hS 0 rfl (by decide +kernel) upd_tI dX11_text_113 (fun H locs hP hD hS => ?_)
  have hP : va_P D cl0 [(a1, .inl (k 0, 36, .inl (tI [0, 0, 0, 0, 0, 0, 0, 0, 0, 0, 0, 0, 0, 0, 0, 0, 0, 0] 0))), (a0, .inr (8, [.int 2, .int 0, .int 1, .int 0, .int 0, .int 0, .ref a1, .ref a2, .int 0, .int 0, .ref a3, .ref a4, .ref a5, .ref a6, .ref a7, .ref a8, .ref a9, .int 0, .int 0, .int 0, .ref a10, .ref a11, .ref a12, .ref a13, .int 0, .int 0, .ref a14, .ref a15, .ref a16, .ref a17, .int 0, .int 0, .ref a18, .ref a19, .ref a20, .ref a21]))] H := hP
  have hD : va_D A [(a1, .inl (k 0, 36, .inl (tI [0, 0, 0, 0, 0, 0, 0, 0, 0, 0, 0, 0, 0, 0, 0, 0, 0, 0] 0))), (a0, .inr (8, [.int 2, .int 0, .int 1, .int 0, .int 0, .int 0, .ref a1, .ref a2, .int 0, .int 0, .ref a3, .ref a4, .ref a5, .ref a6, .ref a7, .ref a8, .ref a9, .int 0, .int 0, .int 0, .ref a10, .ref a11, .ref a12, .ref a13, .int 0, .int 0, .ref a14, .ref a15, .ref a16, .ref a17, .int 0, .int 0, .ref a18, .ref a19, .ref a20, .ref a21]))] := hD
  refine lv_iinc (v := 18) (lv' := [(3, .int 18), (2, .int 0), (1, .int 1), (0, .ref a0)]) hx hb dX11_text_114 hl (k := 0) rfl (by decide) (by decide) rfl (fun ls hl => ?_)
  refine lv_goto (tgt := 76) hx hb dX11_text_117 (by decide) ?_
  refine lv_iload_n hx hb dX11_text_76 rfl (lv_at hl 0 rfl) ?_
  refine lv_bipush (v := 36) hx hb dX11_text_77 (by decide) ?_
  refine lv_icmp_ge (tgt := 120) hx hb dX11_text_79 (by decide) (fun cc => absurd cc (by decide +kernel)) (fun _ => ?_)
  refine lv_aload_n hx hb dX11_text_82 rfl (lv_at hl 3 rfl) ?_
  refine va_get (D := D) (ci := 8) (v := .ref a1) (C := RX11) (T := TX11) (N := 36) hx hb hU iX11 hown hK.1 hP 1 rfl rfl 6 (by decide) (hU _ w791) (fun _ h9 => h9) rfl dX11_text_83 ?_
  refine lv_iload_n hx hb dX11_text_86 rfl (lv_at hl 0 rfl) ?_
  refine lv_iload_n hx hb dX11_text_87 rfl (lv_at hl 0 rfl) ?_
  refine lv_bipush (v := 9) hx hb dX11_text_88 (by decide) ?_
  refine lv_aload_n hx hb dX11_text_90 rfl (lv_at hl 3 rfl) ?_
  refine va_get (D := D) (ci := 8) (v := .int 0) (C := RX11) (T := TX11) (N := 36) hx hb hU iX11 hown hK.1 hP 1 rfl rfl 1 (by decide) (hU _ w786) (fun _ h9 => h9) rfl dX11_text_91 ?_
  refine lv_imul hx hb dX11_text_94 (sv_i (v := 0) (by decide +kernel) ?_)
  refine lv_icmp_ge (tgt := 107) hx hb dX11_text_95 (by decide) (fun _ => ?_) (fun cc => absurd (by decide +kernel) cc)
  refine lv_aload_n hx hb dX11_text_107 rfl (lv_at hl 3 rfl) ?_
  refine va_get (D := D) (ci := 8) (v := .ref a1) (C := RX11) (T := TX11) (N := 36) hx hb hU iX11 hown hK.1 hP 1 rfl rfl 6 (by decide) (hU _ w791) (fun _ h9 => h9) rfl dX11_text_108 ?_
  refine lv_iload_n hx hb dX11_text_111 rfl (lv_at hl 0 rfl) ?_
  refine ld_i (j := 18) (v := 0) hx hb hK hP 0 rfl (by decide +kernel) rfl dX11_text_112 ?_
  refine st_i (j := 18) (g := tI [0, 0, 0, 0, 0, 0, 0, 0, 0, 0, 0, 0, 0, 0, 0, 0, 0, 0, 0] 0) hx hb hK hP hD hS 0 rfl (by decide +kernel) upd_tI dX11_text_113 (fun H locs hP hD hS => ?_)
  have hP : va_P D cl0 [(a1, .inl (k 0, 36, .inl (tI [0, 0, 0, 0, 0, 0, 0, 0, 0, 0, 0, 0, 0, 0, 0, 0, 0, 0, 0] 0))), (a0, .inr (8, [.int 2, .int 0, .int 1, .int 0, .int 0, .int 0, .ref a1, .ref a2, .int 0, .int 0, .ref a3, .ref a4, .ref a5, .ref a6, .ref a7, .ref a8, .ref a9, .int 0, .int 0, .int 0, .ref a10, .ref a11, .ref a12, .ref a13, .int 0, .int 0, .ref a14, .ref a15, .ref a16, .ref a17, .int 0, .int 0, .ref a18, .ref a19, .ref a20, .ref a21]))] H := hP
  have hD : va_D A [(a1, .inl (k 0, 36, .inl (tI [0, 0, 0, 0, 0, 0, 0, 0, 0, 0, 0, 0, 0, 0, 0, 0, 0, 0, 0] 0))), (a0, .inr (8, [.int 2, .int 0, .int 1, .int 0, .int 0, .int 0, .ref a1, .ref a2, .int 0, .int 0, .ref a3, .ref a4, .ref a5, .ref a6, .ref a7, .ref a8, .ref a9, .int 0, .int 0, .int 0, .ref a10, .ref a11, .ref a12, .ref a13, .int 0, .int 0, .ref a14, .ref a15, .ref a16, .ref a17, .int 0, .int 0, .ref a18, .ref a19, .ref a20, .ref a21]))] := hD
  refine lv_iinc (v := 19) (lv' := [(3, .int 19), (2, .int 0), (1, .int 1), (0, .ref a0)]) hx hb dX11_text_114 hl (k := 0) rfl (by decide) (by decide) rfl (fun ls hl => ?_)
  refine lv_goto (tgt := 76) hx hb dX11_text_117 (by decide) ?_
  refine lv_iload_n hx hb dX11_text_76 rfl (lv_at hl 0 rfl) ?_
  refine lv_bipush (v := 36) hx hb dX11_text_77 (by decide) ?_
  refine lv_icmp_ge (tgt := 120) hx hb dX11_text_79 (by decide) (fun cc => absurd cc (by decide +kernel)) (fun _ => ?_)
  refine lv_aload_n hx hb dX11_text_82 rfl (lv_at hl 3 rfl) ?_
  refine va_get (D := D) (ci := 8) (v := .ref a1) (C := RX11) (T := TX11) (N := 36) hx hb hU iX11 hown hK.1 hP 1 rfl rfl 6 (by decide) (hU _ w791) (fun _ h9 => h9) rfl dX11_text_83 ?_
  refine lv_iload_n hx hb dX11_text_86 rfl (lv_at hl 0 rfl) ?_
  refine lv_iload_n hx hb dX11_text_87 rfl (lv_at hl 0 rfl) ?_
  refine lv_bipush (v := 9) hx hb dX11_text_88 (by decide) ?_
  refine lv_aload_n hx hb dX11_text_90 rfl (lv_at hl 3 rfl) ?_
  refine va_get (D := D) (ci := 8) (v := .int 0) (C := RX11) (T := TX11) (N := 36) hx hb hU iX11 hown hK.1 hP 1 rfl rfl 1 (by decide) (hU _ w786) (fun _ h9 => h9) rfl dX11_text_91 ?_
  refine lv_imul hx hb dX11_text_94 (sv_i (v := 0) (by decide +kernel) ?_)
  refine lv_icmp_ge (tgt := 107) hx hb dX11_text_95 (by decide) (fun _ => ?_) (fun cc => absurd (by decide +kernel) cc)
  refine lv_aload_n hx hb dX11_text_107 rfl (lv_at hl 3 rfl) ?_
  refine va_get (D := D) (ci := 8) (v := .ref a1) (C := RX11) (T := TX11) (N := 36) hx hb hU iX11 hown hK.1 hP 1 rfl rfl 6 (by decide) (hU _ w791) (fun _ h9 => h9) rfl dX11_text_108 ?_
  refine lv_iload_n hx hb dX11_text_111 rfl (lv_at hl 0 rfl) ?_
  refine ld_i (j := 19) (v := 0) hx hb hK hP 0 rfl (by decide +kernel) rfl dX11_text_112 ?_
  refine st_i (j := 19) (g := tI [0, 0, 0, 0, 0, 0, 0, 0, 0, 0, 0, 0, 0, 0, 0, 0, 0, 0, 0, 0] 0) hx hb hK hP hD hS 0 rfl (by decide +kernel) upd_tI dX11_text_113 (fun H locs hP hD hS => ?_)
  have hP : va_P D cl0 [(a1, .inl (k 0, 36, .inl (tI [0, 0, 0, 0, 0, 0, 0, 0, 0, 0, 0, 0, 0, 0, 0, 0, 0, 0, 0, 0] 0))), (a0, .inr (8, [.int 2, .int 0, .int 1, .int 0, .int 0, .int 0, .ref a1, .ref a2, .int 0, .int 0, .ref a3, .ref a4, .ref a5, .ref a6, .ref a7, .ref a8, .ref a9, .int 0, .int 0, .int 0, .ref a10, .ref a11, .ref a12, .ref a13, .int 0, .int 0, .ref a14, .ref a15, .ref a16, .ref a17, .int 0, .int 0, .ref a18, .ref a19, .ref a20, .ref a21]))] H := hP
  have hD : va_D A [(a1, .inl (k 0, 36, .inl (tI [0, 0, 0, 0, 0, 0, 0, 0, 0, 0, 0, 0, 0, 0, 0, 0, 0, 0, 0, 0] 0))), (a0, .inr (8, [.int 2, .int 0, .int 1, .int 0, .int 0, .int 0, .ref a1, .ref a2, .int 0, .int 0, .ref a3, .ref a4, .ref a5, .ref a6, .ref a7, .ref a8, .ref a9, .int 0, .int 0, .int 0, .ref a10, .ref a11, .ref a12, .ref a13, .int 0, .int 0, .ref a14, .ref a15, .ref a16, .ref a17, .int 0, .int 0, .ref a18, .ref a19, .ref a20, .ref a21]))] := hD
  refine lv_iinc (v := 20) (lv' := [(3, .int 20), (2, .int 0), (1, .int 1), (0, .ref a0)]) hx hb dX11_text_114 hl (k := 0) rfl (by decide) (by decide) rfl (fun ls hl => ?_)
  refine lv_goto (tgt := 76) hx hb dX11_text_117 (by decide) ?_
  refine lv_iload_n hx hb dX11_text_76 rfl (lv_at hl 0 rfl) ?_
  refine lv_bipush (v := 36) hx hb dX11_text_77 (by decide) ?_
  refine lv_icmp_ge (tgt := 120) hx hb dX11_text_79 (by decide) (fun cc => absurd cc (by decide +kernel)) (fun _ => ?_)
  refine lv_aload_n hx hb dX11_text_82 rfl (lv_at hl 3 rfl) ?_
  refine va_get (D := D) (ci := 8) (v := .ref a1) (C := RX11) (T := TX11) (N := 36) hx hb hU iX11 hown hK.1 hP 1 rfl rfl 6 (by decide) (hU _ w791) (fun _ h9 => h9) rfl dX11_text_83 ?_
  refine lv_iload_n hx hb dX11_text_86 rfl (lv_at hl 0 rfl) ?_
  refine lv_iload_n hx hb dX11_text_87 rfl (lv_at hl 0 rfl) ?_
  refine lv_bipush (v := 9) hx hb dX11_text_88 (by decide) ?_
  refine lv_aload_n hx hb dX11_text_90 rfl (lv_at hl 3 rfl) ?_
  refine va_get (D := D) (ci := 8) (v := .int 0) (C := RX11) (T := TX11) (N := 36) hx hb hU iX11 hown hK.1 hP 1 rfl rfl 1 (by decide) (hU _ w786) (fun _ h9 => h9) rfl dX11_text_91 ?_
  refine lv_imul hx hb dX11_text_94 (sv_i (v := 0) (by decide +kernel) ?_)
  refine lv_icmp_ge (tgt := 107) hx hb dX11_text_95 (by decide) (fun _ => ?_) (fun cc => absurd (by decide +kernel) cc)
  refine lv_aload_n hx hb dX11_text_107 rfl (lv_at hl 3 rfl) ?_
  refine va_get (D := D) (ci := 8) (v := .ref a1) (C := RX11) (T := TX11) (N := 36) hx hb hU iX11 hown hK.1 hP 1 rfl rfl 6 (by decide) (hU _ w791) (fun _ h9 => h9) rfl dX11_text_108 ?_
  refine lv_iload_n hx hb dX11_text_111 rfl (lv_at hl 0 rfl) ?_
  refine ld_i (j := 20) (v := 0) hx hb hK hP 0 rfl (by decide +kernel) rfl dX11_text_112 ?_
  refine st_i (j := 20) (g := tI [0, 0, 0, 0, 0, 0, 0, 0, 0, 0, 0, 0, 0, 0, 0, 0, 0, 0, 0, 0, 0] 0) hx hb hK hP hD hS 0 rfl (by decide +kernel) upd_tI dX11_text_113 (fun H locs hP hD hS => ?_)
  have hP : va_P D cl0 [(a1, .inl (k 0, 36, .inl (tI [0, 0, 0, 0, 0, 0, 0, 0, 0, 0, 0, 0, 0, 0, 0, 0, 0, 0, 0, 0, 0] 0))), (a0, .inr (8, [.int 2, .int 0, .int 1, .int 0, .int 0, .int 0, .ref a1, .ref a2, .int 0, .int 0, .ref a3, .ref a4, .ref a5, .ref a6, .ref a7, .ref a8, .ref a9, .int 0, .int 0, .int 0, .ref a10, .ref a11, .ref a12, .ref a13, .int 0, .int 0, .ref a14, .ref a15, .ref a16, .ref a17, .int 0, .int 0, .ref a18, .ref a19, .ref a20, .ref a21]))] H := hP
  have hD : va_D A [(a1, .inl (k 0, 36, .inl (tI [0, 0, 0, 0, 0, 0, 0, 0, 0, 0, 0, 0, 0, 0, 0, 0, 0, 0, 0, 0, 0] 0))), (a0, .inr (8, [.int 2, .int 0, .int 1, .int 0, .int 0, .int 0, .ref a1, .ref a2, .int 0, .int 0, .ref a3, .ref a4, .ref a5, .ref a6, .ref a7, .ref a8, .ref a9, .int 0, .int 0, .int 0, .ref a10, .ref a11, .ref a12, .ref a13, .int 0, .int 0, .ref a14, .ref a15, .ref a16, .ref a17, .int 0, .int 0, .ref a18, .ref a19, .ref a20, .ref a21]))] := hD
  refine lv_iinc (v := 21) (lv' := [(3, .int 21), (2, .int 0), (1, .int 1), (0, .ref a0)]) hx hb dX11_text_114 hl (k := 0) rfl (by decide) (by decide) rfl (fun ls hl => ?_)
  refine lv_goto (tgt := 76) hx hb dX11_text_117 (by decide) ?_
  refine lv_iload_n hx hb dX11_text_76 rfl (lv_at hl 0 rfl) ?_
  refine lv_bipush (v := 36) hx hb dX11_text_77 (by decide) ?_
  refine lv_icmp_ge (tgt := 120) hx hb dX11_text_79 (by decide) (fun cc => absurd cc (by decide +kernel)) (fun _ => ?_)
  refine lv_aload_n hx hb dX11_text_82 rfl (lv_at hl 3 rfl) ?_
  refine va_get (D := D) (ci := 8) (v := .ref a1) (C := RX11) (T := TX11) (N := 36) hx hb hU iX11 hown hK.1 hP 1 rfl rfl 6 (by decide) (hU _ w791) (fun _ h9 => h9) rfl dX11_text_83 ?_
  refine lv_iload_n hx hb dX11_text_86 rfl (lv_at hl 0 rfl) ?_
  refine lv_iload_n hx hb dX11_text_87 rfl (lv_at hl 0 rfl) ?_
  refine lv_bipush (v := 9) hx hb dX11_text_88 (by decide) ?_
  refine lv_aload_n hx hb dX11_text_90 rfl (lv_at hl 3 rfl) ?_
  refine va_get (D := D) (ci := 8) (v := .int 0) (C := RX11) (T := TX11) (N := 36) hx hb hU iX11 hown hK.1 hP 1 rfl rfl 1 (by decide) (hU _ w786) (fun _ h9 => h9) rfl dX11_text_91 ?_
  refine lv_imul hx hb dX11_text_94 (sv_i (v := 0) (by decide +kernel) ?_)
  refine lv_icmp_ge (tgt := 107) hx hb dX11_text_95 (by decide) (fun _ => ?_) (fun cc => absurd (by decide +kernel) cc)
  refine lv_aload_n hx hb dX11_text_107 rfl (lv_at hl 3 rfl) ?_
  refine va_get (D := D) (ci := 8) (v := .ref a1) (C := RX11) (T := TX11) (N := 36) hx hb hU iX11 hown hK.1 hP 1 rfl rfl 6 (by decide) (hU _ w791) (fun _ h9 => h9) rfl dX11_text_108 ?_
  refine lv_iload_n hx hb dX11_text_111 rfl (lv_at hl 0 rfl) ?_
  refine ld_i (j := 21) (v := 0) hx hb hK hP 0 rfl (by decide +kernel) rfl dX11_text_112 ?_
  refine st_i (j := 21) (g := tI [0, 0, 0, 0, 0, 0, 0, 0, 0, 0, 0, 0, 0, 0, 0, 0, 0, 0, 0, 0, 0, 0] 0) hx hb hK hP hD hS 0 rfl (by decide +kernel) upd_tI dX11_text_113 (fun H locs hP hD hS => ?_)
  have hP : va_P D cl0 [(a1, .inl (k 0, 36, .inl (tI [0, 0, 0, 0, 0, 0, 0, 0, 0, 0, 0, 0, 0, 0, 0, 0, 0, 0, 0, 0, 0, 0] 0))), (a0, .inr (8, [.int 2, .int 0, .int 1, .int 0, .int 0, .int 0, .ref a1, .ref a2, .int 0, .int 0, .ref a3, .ref a4, .ref a5, .ref a6, .ref a7, .ref a8, .ref a9, .int 0, .int 0, .int 0, .ref a10, .ref a11, .ref a12, .ref a13, .int 0, .int 0, .ref a14, .ref a15, .ref a16, .ref a17, .int 0, .int 0, .ref a18, .ref a19, .ref a20, .ref a21]))] H := hP
  have hD : va_D A [(a1, .inl (k 0, 36, .inl (tI [0, 0, 0, 0, 0, 0, 0, 0, 0, 0, 0, 0, 0, 0, 0, 0, 0, 0, 0, 0, 0, 0] 0))), (a0, .inr (8, [.int 2, .int 0, .int 1, .int 0, .int 0, .int 0, .ref a1, .ref a2, .int 0, .int 0, .ref a3, .ref a4, .ref a5, .ref a6, .ref a7, .ref a8, .ref a9, .int 0, .int 0, .int 0, .ref a10, .ref a11, .ref a12, .ref a13, .int 0, .int 0, .ref a14, .ref a15, .ref a16, .ref a17, .int 0, .int 0, .ref a18, .ref a19, .ref a20, .ref a21]))] := hD
  refine lv_iinc (v := 22) (lv' := [(3, .int 22), (2, .int 0), (1, .int 1), (0, .ref a0)]) hx hb dX11_text_114 hl (k := 0) rfl (by decide) (by decide) rfl (fun ls hl => ?_)
  refine lv_goto (tgt := 76) hx hb dX11_text_117 (by decide) ?_
  refine lv_iload_n hx hb dX11_text_76 rfl (lv_at hl 0 rfl) ?_
  refine lv_bipush (v := 36) hx hb dX11_text_77 (by decide) ?_
  refine lv_icmp_ge (tgt := 120) hx hb dX11_text_79 (by decide) (fun cc => absurd cc (by decide +kernel)) (fun _ => ?_)
  refine lv_aload_n hx hb dX11_text_82 rfl (lv_at hl 3 rfl) ?_
  refine va_get (D := D) (ci := 8) (v := .ref a1) (C := RX11) (T := TX11) (N := 36) hx hb hU iX11 hown hK.1 hP 1 rfl rfl 6 (by decide) (hU _ w791) (fun _ h9 => h9) rfl dX11_text_83 ?_
  refine lv_iload_n hx hb dX11_text_86 rfl (lv_at hl 0 rfl) ?_
  refine lv_iload_n hx hb dX11_text_87 rfl (lv_at hl 0 rfl) ?_
  refine lv_bipush (v := 9) hx hb dX11_text_88 (by decide) ?_
  refine lv_aload_n hx hb dX11_text_90 rfl (lv_at hl 3 rfl) ?_
  refine va_get (D := D) (ci := 8) (v := .int 0) (C := RX11) (T := TX11) (N := 36) hx hb hU iX11 hown hK.1 hP 1 rfl rfl 1 (by decide) (hU _ w786) (fun _ h9 => h9) rfl dX11_text_91 ?_
  refine lv_imul hx hb dX11_text_94 (sv_i (v := 0) (by decide +kernel) ?_)
  refine lv_icmp_ge (tgt := 107) hx hb dX11_text_95 (by decide) (fun _ => ?_) (fun cc => absurd (by decide +kernel) cc)
  refine lv_aload_n hx hb dX11_text_107 rfl (lv_at hl 3 rfl) ?_
  refine va_get (D := D) (ci := 8) (v := .ref a1) (C := RX11) (T := TX11) (N := 36) hx hb hU iX11 hown hK.1 hP 1 rfl rfl 6 (by decide) (hU _ w791) (fun _ h9 => h9) rfl dX11_text_108 ?_
  refine lv_iload_n hx hb dX11_text_111 rfl (lv_at hl 0 rfl) ?_
  refine ld_i (j := 22) (v := 0) hx hb hK hP 0 rfl (by decide +kernel) rfl dX11_text_112 ?_
  refine st_i (j := 22) (g := tI [0, 0, 0, 0, 0, 0, 0, 0, 0, 0, 0, 0, 0, 0, 0, 0, 0, 0, 0, 0, 0, 0, 0] 0) hx hb hK hP hD hS 0 rfl (by decide +kernel) upd_tI dX11_text_113 (fun H locs hP hD hS => ?_)
  have hP : va_P D cl0 [(a1, .inl (k 0, 36, .inl (tI [0, 0, 0, 0, 0, 0, 0, 0, 0, 0, 0, 0, 0, 0, 0, 0, 0, 0, 0, 0, 0, 0, 0] 0))), (a0, .inr (8, [.int 2, .int 0, .int 1, .int 0, .int 0, .int 0, .ref a1, .ref a2, .int 0, .int 0, .ref a3, .ref a4, .ref a5, .ref a6, .ref a7, .ref a8, .ref a9, .int 0, .int 0, .int 0, .ref a10, .ref a11, .ref a12, .ref a13, .int 0, .int 0, .ref a14, .ref a15, .ref a16, .ref a17, .int 0, .int 0, .ref a18, .ref a19, .ref a20, .ref a21]))] H := hP
  have hD : va_D A [(a1, .inl (k 0, 36, .inl (tI [0, 0, 0, 0, 0, 0, 0, 0, 0, 0, 0, 0, 0, 0, 0, 0, 0, 0, 0, 0, 0, 0, 0] 0))), (a0, .inr (8, [.int 2, .int 0, .int 1, .int 0, .int 0, .int 0, .ref a1, .ref a2, .int 0, .int 0, .ref a3, .ref a4, .ref a5, .ref a6, .ref a7, .ref a8, .ref a9, .int 0, .int 0, .int 0, .ref a10, .ref a11, .ref a12, .ref a13, .int 0, .int 0, .ref a14, .ref a15, .ref a16, .ref a17, .int 0, .int 0, .ref a18, .ref a19, .ref a20, .ref a21]))] := hD
  refine lv_iinc (v := 23) (lv' := [(3, .int 23), (2, .int 0), (1, .int 1), (0, .ref a0)]) hx hb dX11_text_114 hl (k := 0) rfl (by decide) (by decide) rfl (fun ls hl => ?_)
  refine lv_goto (tgt := 76) hx hb dX11_text_117 (by decide) ?_
  refine lv_iload_n hx hb dX11_text_76 rfl (lv_at hl 0 rfl) ?_
  refine lv_bipush (v := 36) hx hb dX11_text_77 (by decide) ?_
  refine lv_icmp_ge (tgt := 120) hx hb dX11_text_79 (by decide) (fun cc => absurd cc (by decide +kernel)) (fun _ => ?_)
  refine lv_aload_n hx hb dX11_text_82 rfl (lv_at hl 3 rfl) ?_
  refine va_get (D := D) (ci := 8) (v := .ref a1) (C := RX11) (T := TX11) (N := 36) hx hb hU iX11 hown hK.1 hP 1 rfl rfl 6 (by decide) (hU _ w791) (fun _ h9 => h9) rfl dX11_text_83 ?_
  refine lv_iload_n hx hb dX11_text_86 rfl (lv_at hl 0 rfl) ?_
  refine lv_iload_n hx hb dX11_text_87 rfl (lv_at hl 0 rfl) ?_
  refine lv_bipush (v := 9) hx hb dX11_text_88 (by decide) ?_
  refine lv_aload_n hx hb dX11_text_90 rfl (lv_at hl 3 rfl) ?_
  refine va_get (D := D) (ci := 8) (v := .int 0) (C := RX11) (T := TX11) (N := 36) hx hb hU iX11 hown hK.1 hP 1 rfl rfl 1 (by decide) (hU _ w786) (fun _ h9 => h9) rfl dX11_text_91 ?_
  refine lv_imul hx hb dX11_text_94 (sv_i (v := 0) (by decide +kernel) ?_)
  refine lv_icmp_ge (tgt := 107) hx hb dX11_text_95 (by decide) (fun _ => ?_) (fun cc => absurd (by decide +kernel) cc)
  refine lv_aload_n hx hb dX11_text_107 rfl (lv_at hl 3 rfl) ?_
  refine va_get (D := D) (ci := 8) (v := .ref a1) (C := RX11) (T := TX11) (N := 36) hx hb hU iX11 hown hK.1 hP 1 rfl rfl 6 (by decide) (hU _ w791) (fun _ h9 => h9) rfl dX11_text_108 ?_
  refine lv_iload_n hx hb dX11_text_111 rfl (lv_at hl 0 rfl) ?_
  refine ld_i (j := 23) (v := 0) hx hb hK hP 0 rfl (by decide +kernel) rfl dX11_text_112 ?_
  refine st_i (j := 23) (g := tI [0, 0, 0, 0, 0, 0, 0, 0, 0, 0, 0, 0, 0, 0, 0, 0, 0, 0, 0, 0, 0, 0, 0, 0] 0) hx hb hK hP hD hS 0 rfl (by decide +kernel) upd_tI dX11_text_113 (fun H locs hP hD hS => ?_)
  have hP : va_P D cl0 [(a1, .inl (k 0, 36, .inl (tI [0, 0, 0, 0, 0, 0, 0, 0, 0, 0, 0, 0, 0, 0, 0, 0, 0, 0, 0, 0, 0, 0, 0, 0] 0))), (a0, .inr (8, [.int 2, .int 0, .int 1, .int 0, .int 0, .int 0, .ref a1, .ref a2, .int 0, .int 0, .ref a3, .ref a4, .ref a5, .ref a6, .ref a7, .ref a8, .ref a9, .int 0, .int 0, .int 0, .ref a10, .ref a11, .ref a12, .ref a13, .int 0, .int 0, .ref a14, .ref a15, .ref a16, .ref a17, .int 0, .int 0, .ref a18, .ref a19, .ref a20, .ref a21]))] H := hP
  have hD : va_D A [(a1, .inl (k 0, 36, .inl (tI [0, 0, 0, 0, 0, 0, 0, 0, 0, 0, 0, 0, 0, 0, 0, 0, 0, 0, 0, 0, 0, 0, 0, 0] 0))), (a0, .inr (8, [.int 2, .int 0, .int 1, .int 0, .int 0, .int 0, .ref a1, .ref a2, .int 0, .int 0, .ref a3, .ref a4, .ref a5, .ref a6, .ref a7, .ref a8, .ref a9, .int 0, .int 0, .int 0, .ref a10, .ref a11, .ref a12, .ref a13, .int 0, .int 0, .ref a14, .ref a15, .ref a16, .ref a17, .int 0, .int 0, .ref a18, .ref a19, .ref a20, .ref a21]))] := hD
  refine lv_iinc (v := 24) (lv' := [(3, .int 24), (2, .int 0), (1, .int 1), (0, .ref a0)]) hx hb dX11_text_114 hl (k := 0) rfl (by decide) (by decide) rfl (fun ls hl => ?_)
  refine lv_goto (tgt := 76) hx hb dX11_text_117 (by decide) ?_
  refine lv_iload_n hx hb dX11_text_76 rfl (lv_at hl 0 rfl) ?_
  refine lv_bipush (v := 36) hx hb dX11_text_77 (by decide) ?_
  refine lv_icmp_ge (tgt := 120) hx hb dX11_text_79 (by decide) (fun cc => absurd cc (by decide +kernel)) (fun _ => ?_)
  refine lv_aload_n hx hb dX11_text_82 rfl (lv_at hl 3 rfl) ?_
  refine va_get (D := D) (ci := 8) (v := .ref a1) (C := RX11) (T := TX11) (N := 36) hx hb hU iX11 hown hK.1 hP 1 rfl rfl 6 (by decide) (hU _ w791) (fun _ h9 => h9) rfl dX11_text_83 ?_
  refine lv_iload_n hx hb dX11_text_86 rfl (lv_at hl 0 rfl) ?_
  refine lv_iload_n hx hb dX11_text_87 rfl (lv_at hl 0 rfl) ?_
  refine lv_bipush (v := 9) hx hb dX11_text_88 (by decide) ?_
  refine lv_aload_n hx hb dX11_text_90 rfl (lv_at hl 3 rfl) ?_
  refine va_get (D := D) (ci := 8) (v := .int 0) (C := RX11) (T := TX11) (N := 36) hx hb hU iX11 hown hK.1 hP 1 rfl rfl 1 (by decide) (hU _ w786) (fun _ h9 => h9) rfl dX11_text_91 ?_
  refine lv_imul hx hb dX11_text_94 (sv_i (v := 0) (by decide +kernel) ?_)
  refine lv_icmp_ge (tgt := 107) hx hb dX11_text_95 (by decide) (fun _ => ?_) (fun cc => absurd (by decide +kernel) cc)
  refine lv_aload_n hx hb dX11_text_107 rfl (lv_at hl 3 rfl) ?_
  refine va_get (D := D) (ci := 8) (v := .ref a1) (C := RX11) (T := TX11) (N := 36) hx hb hU iX11 hown hK.1 hP 1 rfl rfl 6 (by decide) (hU _ w791) (fun _ h9 => h9) rfl dX11_text_108 ?_
  refine lv_iload_n hx hb dX11_text_111 rfl (lv_at hl 0 rfl) ?_
  refine ld_i (j := 24) (v := 0) hx hb hK hP 0 rfl (by decide +kernel) rfl dX11_text_112 ?_
  refine st_i (j := 24) (g := tI [0, 0, 0, 0, 0, 0, 0, 0, 0, 0, 0, 0, 0, 0, 0, 0, 0, 0, 0, 0, 0, 0, 0, 0, 0] 0) hx hb hK hP hD hS 0 rfl (by decide +kernel) upd_tI dX11_text_113 (fun H locs hP hD hS => ?_)
  have hP : va_P D cl0 [(a1, .inl (k 0, 36, .inl (tI [0, 0, 0, 0, 0, 0, 0, 0, 0, 0, 0, 0, 0, 0, 0, 0, 0, 0, 0, 0, 0, 0, 0, 0, 0] 0))), (a0, .inr (8, [.int 2, .int 0, .int 1, .int 0, .int 0, .int 0, .ref a1, .ref a2, .int 0, .int 0, .ref a3, .ref a4, .ref a5, .ref a6, .ref a7, .ref a8, .ref a9, .int 0, .int 0, .int 0, .ref a10, .ref a11, .ref a12, .ref a13, .int 0, .int 0, .ref a14, .ref a15, .ref a16, .ref a17, .int 0, .int 0, .ref a18, .ref a19, .ref a20, .ref a21]))] H := hP
  have hD : va_D A [(a1, .inl (k 0, 36, .inl (tI [0, 0, 0, 0, 0, 0, 0, 0, 0, 0, 0, 0, 0, 0, 0, 0, 0, 0, 0, 0, 0, 0, 0, 0, 0] 0))), (a0, .inr (8, [.int 2, .int 0, .int 1, .int 0, .int 0, .int 0, .ref a1, .ref a2, .int 0, .int 0, .ref a3, .ref a4, .ref a5, .ref a6, .ref a7, .ref a8, .ref a9, .int 0, .int 0, .int 0, .ref a10, .ref a11, .ref a12, .ref a13, .int 0, .int 0, .ref a14, .ref a15, .ref a16, .ref a17, .int 0, .int 0, .ref a18, .ref a19, .ref a20, .ref a21]))] := hD
  refine lv_iinc (v := 25) (lv' := [(3, .int 25), (2, .int 0), (1, .int 1), (0, .ref a0)]) hx hb dX11_text_114 hl (k := 0) rfl (by decide) (by decide) rfl (fun ls hl => ?_)
  refine lv_goto (tgt := 76) hx hb dX11_text_117 (by decide) ?_
  refine lv_iload_n hx hb dX11_text_76 rfl (lv_at hl 0 rfl) ?_
  refine lv_bipush (v := 36) hx hb dX11_text_77 (by decide) ?_
  refine lv_icmp_ge (tgt := 120) hx hb dX11_text_79 (by decide) (fun cc => absurd cc (by decide +kernel)) (fun _ => ?_)
  refine lv_aload_n hx hb dX11_text_82 rfl (lv_at hl 3 rfl) ?_
  refine va_get (D := D) (ci := 8) (v := .ref a1) (C := RX11) (T := TX11) (N := 36) hx hb hU iX11 hown hK.1 hP 1 rfl rfl 6 (by decide) (hU _ w791) (fun _ h9 => h9) rfl dX11_text_83 ?_
  refine lv_iload_n hx hb dX11_text_86 rfl (lv_at hl 0 rfl) ?_
  refine lv_iload_n hx hb dX11_text_87 rfl (lv_at hl 0 rfl) ?_
  refine lv_bipush (v := 9) hx hb dX11_text_88 (by decide) ?_
  refine lv_aload_n hx hb dX11_text_90 rfl (lv_at hl 3 rfl) ?_
  refine va_get (D := D) (ci := 8) (v := .int 0) (C := RX11) (T := TX11) (N := 36) hx hb hU iX11 hown hK.1 hP 1 rfl rfl 1 (by decide) (hU _ w786) (fun _ h9 => h9) rfl dX11_text_91 ?_
  refine lv_imul hx hb dX11_text_94 (sv_i (v := 0) (by decide +kernel) ?_)
  refine lv_icmp_ge (tgt := 107) hx hb dX11_text_95 (by decide) (fun _ => ?_) (fun cc => absurd (by decide +kernel) cc)
  refine lv_aload_n hx hb dX11_text_107 rfl (lv_at hl 3 rfl) ?_
  refine va_get (D := D) (ci := 8) (v := .ref a1) (C := RX11) (T := TX11) (N := 36) hx hb hU iX11 hown hK.1 hP 1 rfl rfl 6 (by decide) (hU _ w791) (fun _ h9 => h9) rfl dX11_text_108 ?_
  refine lv_iload_n hx hb dX11_text_111 rfl (lv_at hl 0 rfl) ?_
  refine ld_i (j := 25) (v := 0) hx hb hK hP 0 rfl (by decide +kernel) rfl dX11_text_112 ?_
  refine st_i (j := 25) (g := tI [0, 0, 0, 0, 0, 0, 0, 0, 0, 0, 0, 0, 0, 0, 0, 0, 0, 0, 0, 0, 0, 0, 0, 0, 0, 0] 0) hx hb hK hP hD hS 0 rfl (by decide +kernel) upd_tI dX11_text_113 (fun H locs hP hD hS => ?_)
  have hP : va_P D cl0 [(a1, .inl (k 0, 36, .inl (tI [0, 0, 0, 0, 0, 0, 0, 0, 0, 0, 0, 0, 0, 0, 0, 0, 0, 0, 0, 0, 0, 0, 0, 0, 0, 0] 0))), (a0, .inr (8, [.int 2, .int 0, .int 1, .int 0, .int 0, .int 0, .ref a1, .ref a2, .int 0, .int 0, .ref a3, .ref a4, .ref a5, .ref a6, .ref a7, .ref a8, .ref a9, .int 0, .int 0, .int 0, .ref a10, .ref a11, .ref a12, .ref a13, .int 0, .int 0, .ref a14, .ref a15, .ref a16, .ref a17, .int 0, .int 0, .ref a18, .ref a19, .ref a20, .ref a21]))] H := hP
  have hD : va_D A [(a1, .inl (k 0, 36, .inl (tI [0, 0, 0, 0, 0, 0, 0, 0, 0, 0, 0, 0, 0, 0, 0, 0, 0, 0, 0, 0, 0, 0, 0, 0, 0, 0] 0))), (a0, .inr (8, [.int 2, .int 0, .int 1, .int 0, .int 0, .int 0, .ref a1, .ref a2, .int 0, .int 0, .ref a3, .ref a4, .ref a5, .ref a6, .ref a7, .ref a8, .ref a9, .int 0, .int 0, .int 0, .ref a10, .ref a11, .ref a12, .ref a13, .int 0, .int 0, .ref a14, .ref a15, .ref a16, .ref a17, .int 0, .int 0, .ref a18, .ref a19, .ref a20, .ref a21]))] := hD
  refine lv_iinc (v := 26) (lv' := [(3, .int 26), (2, .int 0), (1, .int 1), (0, .ref a0)]) hx hb dX11_text_114 hl (k := 0) rfl (by decide) (by decide) rfl (fun ls hl => ?_)
  refine lv_goto (tgt := 76) hx hb dX11_text_117 (by decide) ?_
  refine lv_iload_n hx hb dX11_text_76 rfl (lv_at hl 0 rfl) ?_
  refine lv_bipush (v := 36) hx hb dX11_text_77 (by decide) ?_
  refine lv_icmp_ge (tgt := 120) hx hb dX11_text_79 (by decide) (fun cc => absurd cc (by decide +kernel)) (fun _ => ?_)
  refine lv_aload_n hx hb dX11_text_82 rfl (lv_at hl 3 rfl) ?_
  refine va_get (D := D) (ci := 8) (v := .ref a1) (C := RX11) (T := TX11) (N := 36) hx hb hU iX11 hown hK.1 hP 1 rfl rfl 6 (by decide) (hU _ w791) (fun _ h9 => h9) rfl dX11_text_83 ?_
  refine lv_iload_n hx hb dX11_text_86 rfl (lv_at hl 0 rfl) ?_
  refine lv_iload_n hx hb dX11_text_87 rfl (lv_at hl 0 rfl) ?_
  refine lv_bipush (v := 9) hx hb dX11_text_88 (by decide) ?_
  refine lv_aload_n hx hb dX11_text_90 rfl (lv_at hl 3 rfl) ?_
  refine va_get (D := D) (ci := 8) (v := .int 0) (C := RX11) (T := TX11) (N := 36) hx hb hU iX11 hown hK.1 hP 1 rfl rfl 1 (by decide) (hU _ w786) (fun _ h9 => h9) rfl dX11_text_91 ?_
  refine lv_imul hx hb dX11_text_94 (sv_i (v := 0) (by decide +kernel) ?_)
  refine lv_icmp_ge (tgt := 107) hx hb dX11_text_95 (by decide) (fun _ => ?_) (fun cc => absurd (by decide +kernel) cc)
  refine lv_aload_n hx hb dX11_text_107 rfl (lv_at hl 3 rfl) ?_
  refine va_get (D := D) (ci := 8) (v := .ref a1) (C := RX11) (T := TX11) (N := 36) hx hb hU iX11 hown hK.1 hP 1 rfl rfl 6 (by decide) (hU _ w791) (fun _ h9 => h9) rfl dX11_text_108 ?_
  refine lv_iload_n hx hb dX11_text_111 rfl (lv_at hl 0 rfl) ?_
  refine ld_i (j := 26) (v := 0) hx hb hK hP 0 rfl (by decide +kernel) rfl dX11_text_112 ?_
  refine st_i (j := 26) (g := tI [0, 0, 0, 0, 0, 0, 0, 0, 0, 0, 0, 0, 0, 0, 0, 0, 0, 0, 0, 0, 0, 0, 0, 0, 0, 0, 0] 0) hx hb hK hP hD hS 0 rfl (by decide +kernel) upd_tI dX11_text_113 (fun H locs hP hD hS => ?_)
  have hP : va_P D cl0 [(a1, .inl (k 0, 36, .inl (tI [0, 0, 0, 0, 0, 0, 0, 0, 0, 0, 0, 0, 0, 0, 0, 0, 0, 0, 0, 0, 0, 0, 0, 0, 0, 0, 0] 0))), (a0, .inr (8, [.int 2, .int 0, .int 1, .int 0, .int 0, .int 0, .ref a1, .ref a2, .int 0, .int 0, .ref a3, .ref a4, .ref a5, .ref a6, .ref a7, .ref a8, .ref a9, .int 0, .int 0, .int 0, .ref a10, .ref a11, .ref a12, .ref a13, .int 0, .int 0, .ref a14, .ref a15, .ref a16, .ref a17, .int 0, .int 0, .ref a18, .ref a19, .ref a20, .ref a21]))] H := hP
  have hD : va_D A [(a1, .inl (k 0, 36, .inl (tI [0, 0, 0, 0, 0, 0, 0, 0, 0, 0, 0, 0, 0, 0, 0, 0, 0, 0, 0, 0, 0, 0, 0, 0, 0, 0, 0] 0))), (a0, .inr (8, [.int 2, .int 0, .int 1, .int 0, .int 0, .int 0, .ref a1, .ref a2, .int 0, .int 0, .ref a3, .ref a4, .ref a5, .ref a6, .ref a7, .ref a8, .ref a9, .int 0, .int 0, .int 0, .ref a10, .ref a11, .ref a12, .ref a13, .int 0, .int 0, .ref a14, .ref a15, .ref a16, .ref a17, .int 0, .int 0, .ref a18, .ref a19, .ref a20, .ref a21]))] := hD
  refine lv_iinc (v := 27) (lv' := [(3, .int 27), (2, .int 0), (1, .int 1), (0, .ref a0)]) hx hb dX11_text_114 hl (k := 0) rfl (by decide) (by decide) rfl (fun ls hl => ?_)
  refine lv_goto (tgt := 76) hx hb dX11_text_117 (by decide) ?_
  refine lv_iload_n hx hb dX11_text_76 rfl (lv_at hl 0 rfl) ?_
  refine lv_bipush (v := 36) hx hb dX11_text_77 (by decide) ?_
  refine lv_icmp_ge (tgt := 120) hx hb dX11_text_79 (by decide) (fun cc => absurd cc (by decide +kernel)) (fun _ => ?_)
  refine lv_aload_n hx hb dX11_text_82 rfl (lv_at hl 3 rfl) ?_
  refine va_get (D := D) (ci := 8) (v := .ref a1) (C := RX11) (T := TX11) (N := 36) hx hb hU iX11 hown hK.1 hP 1 rfl rfl 6 (by decide) (hU _ w791) (fun _ h9 => h9) rfl dX11_text_83 ?_
  refine lv_iload_n hx hb dX11_text_86 rfl (lv_at hl 0 rfl) ?_
  refine lv_iload_n hx hb dX11_text_87 rfl (lv_at hl 0 rfl) ?_
  refine lv_bipush (v := 9) hx hb dX11_text_88 (by decide) ?_
  refine lv_aload_n hx hb dX11_text_90 rfl (lv_at hl 3 rfl) ?_
  refine va_get (D := D) (ci := 8) (v := .int 0) (C := RX11) (T := TX11) (N := 36) hx hb hU iX11 hown hK.1 hP 1 rfl rfl 1 (by decide) (hU _ w786) (fun _ h9 => h9) rfl dX11_text_91 ?_
  refine lv_imul hx hb dX11_text_94 (sv_i (v := 0) (by decide +kernel) ?_)
  refine lv_icmp_ge (tgt := 107) hx hb dX11_text_95 (by decide) (fun _ => ?_) (fun cc => absurd (by decide +kernel) cc)
  refine lv_aload_n hx hb dX11_text_107 rfl (lv_at hl 3 rfl) ?_
  refine va_get (D := D) (ci := 8) (v := .ref a1) (C := RX11) (T := TX11) (N := 36) hx hb hU iX11 hown hK.1 hP 1 rfl rfl 6 (by decide) (hU _ w791) (fun _ h9 => h9) rfl dX11_text_108 ?_
  refine lv_iload_n hx hb dX11_text_111 rfl (lv_at hl 0 rfl) ?_
  refine ld_i (j := 27) (v := 0) hx hb hK hP 0 rfl (by decide +kernel) rfl dX11_text_112 ?_
  refine st_i (j := 27) (g := tI [0, 0, 0, 0, 0, 0, 0, 0, 0, 0, 0, 0, 0, 0, 0, 0, 0, 0, 0, 0, 0, 0, 0, 0, 0, 0, 0, 0] 0) hx hb hK hP hD hS 0 rfl (by decide +kernel) upd_tI dX11_text_113 (fun H locs hP hD hS => ?_)
  have hP : va_P D cl0 [(a1, .inl (k 0, 36, .inl (tI [0, 0, 0, 0, 0, 0, 0, 0, 0, 0, 0, 0, 0, 0, 0, 0, 0, 0, 0, 0, 0, 0, 0, 0, 0, 0, 0, 0] 0))), (a0, .inr (8, [.int 2, .int 0, .int 1, .int 0, .int 0, .int 0, .ref a1, .ref a2, .int 0, .int 0, .ref a3, .ref a4, .ref a5, .ref a6, .ref a7, .ref a8, .ref a9, .int 0, .int 0, .int 0, .ref a10, .ref a11, .ref a12, .ref a13, .int 0, .int 0, .ref a14, .ref a15, .ref a16, .ref a17, .int 0, .int 0, .ref a18, .ref a19, .ref a20, .ref a21]))] H := hP
  have hD : va_D A [(a1, .inl (k 0, 36, .inl (tI [0, 0, 0, 0, 0, 0, 0, 0, 0, 0, 0, 0, 0, 0, 0, 0, 0, 0, 0, 0, 0, 0, 0, 0, 0, 0, 0, 0] 0))), (a0, .inr (8, [.int 2, .int 0, .int 1, .int 0, .int 0, .int 0, .ref a1, .ref a2, .int 0, .int 0, .ref a3, .ref a4, .ref a5, .ref a6, .ref a7, .ref a8, .ref a9, .int 0, .int 0, .int 0, .ref a10, .ref a11, .ref a12, .ref a13, .int 0, .int 0, .ref a14, .ref a15, .ref a16, .ref a17, .int 0, .int 0, .ref a18, .ref a19, .ref a20, .ref a21]))] := hD
  refine lv_iinc (v := 28) (lv' := [(3, .int 28), (2, .int 0), (1, .int 1), (0, .ref a0)]) hx hb dX11_text_114 hl (k := 0) rfl (by decide) (by decide) rfl (fun ls hl => ?_)
  refine lv_goto (tgt := 76) hx hb dX11_text_117 (by decide) ?_
  refine lv_iload_n hx hb dX11_text_76 rfl (lv_at hl 0 rfl) ?_
  refine lv_bipush (v := 36) hx hb dX11_text_77 (by decide) ?_
  refine lv_icmp_ge (tgt := 120) hx hb dX11_text_79 (by decide) (fun cc => absurd cc (by decide +kernel)) (fun _ => ?_)
  refine lv_aload_n hx hb dX11_text_82 rfl (lv_at hl 3 rfl) ?_
  refine va_get (D := D) (ci := 8) (v := .ref a1) (C := RX11) (T := TX11) (N := 36) hx hb hU iX11 hown hK.1 hP 1 rfl rfl 6 (by decide) (hU _ w791) (fun _ h9 => h9) rfl dX11_text_83 ?_
  refine lv_iload_n hx hb dX11_text_86 rfl (lv_at hl 0 rfl) ?_
  refine lv_iload_n hx hb dX11_text_87 rfl (lv_at hl 0 rfl) ?_
  refine lv_bipush (v := 9) hx hb dX11_text_88 (by decide) ?_
  refine lv_aload_n hx hb dX11_text_90 rfl (lv_at hl 3 rfl) ?_
  refine va_get (D := D) (ci := 8) (v := .int 0) (C := RX11) (T := TX11) (N := 36) hx hb hU iX11 hown hK.1 hP 1 rfl rfl 1 (by decide) (hU _ w786) (fun _ h9 => h9) rfl dX11_text_91 ?_
  refine lv_imul hx hb dX11_text_94 (sv_i (v := 0) (by decide +kernel) ?_)
  refine lv_icmp_ge (tgt := 107) hx hb dX11_text_95 (by decide) (fun _ => ?_) (fun cc => absurd (by decide +kernel) cc)
  refine lv_aload_n hx hb dX11_text_107 rfl (lv_at hl 3 rfl) ?_
  refine va_get (D := D) (ci := 8) (v := .ref a1) (C := RX11) (T := TX11) (N := 36) hx hb hU iX11 hown hK.1 hP 1 rfl rfl 6 (by decide) (hU _ w791) (fun _ h9 => h9) rfl dX11_text_108 ?_
  refine lv_iload_n hx hb dX11_text_111 rfl (lv_at hl 0 rfl) ?_
  refine ld_i (j := 28) (v := 0) hx hb hK hP 0 rfl (by decide +kernel) rfl dX11_text_112 ?_
  refine st_i (j := 28) (g := tI [0, 0, 0, 0, 0, 0, 0, 0, 0, 0, 0, 0, 0, 0, 0, 0, 0, 0, 0, 0, 0, 0, 0, 0, 0, 0, 0, 0, 0] 0) hx hb hK hP hD hS 0 rfl (by decide +kernel) upd_tI dX11_text_113 (fun H locs hP hD hS => ?_)
  have hP : va_P D cl0 [(a1, .inl (k 0, 36, .inl (tI [0, 0, 0, 0, 0, 0, 0, 0, 0, 0, 0, 0, 0, 0, 0, 0, 0, 0, 0, 0, 0, 0, 0, 0, 0, 0, 0, 0, 0] 0))), (a0, .inr (8, [.int 2, .int 0, .int 1, .int 0, .int 0, .int 0, .ref a1, .ref a2, .int 0, .int 0, .ref a3, .ref a4, .ref a5, .ref a6, .ref a7, .ref a8, .ref a9, .int 0, .int 0, .int 0, .ref a10, .ref a11, .ref a12, .ref a13, .int 0, .int 0, .ref a14, .ref a15, .ref a16, .ref a17, .int 0, .int 0, .ref a18, .ref a19, .ref a20, .ref a21]))] H := hP
  have hD : va_D A [(a1, .inl (k 0, 36, .inl (tI [0, 0, 0, 0, 0, 0, 0, 0, 0, 0, 0, 0, 0, 0, 0, 0, 0, 0, 0, 0, 0, 0, 0, 0, 0, 0, 0, 0, 0] 0))), (a0, .inr (8, [.int 2, .int 0, .int 1, .int 0, .int 0, .int 0, .ref a1, .ref a2, .int 0, .int 0, .ref a3, .ref a4, .ref a5, .ref a6, .ref a7, .ref a8, .ref a9, .int 0, .int 0, .int 0, .ref a10, .ref a11, .ref a12, .ref a13, .int 0, .int 0, .ref a14, .ref a15, .ref a16, .ref a17, .int 0, .int 0, .ref a18, .ref a19, .ref a20, .ref a21]))] := hD
  refine lv_iinc (v := 29) (lv' := [(3, .int 29), (2, .int 0), (1, .int 1), (0, .ref a0)]) hx hb dX11_text_114 hl (k := 0) rfl (by decide) (by decide) rfl (fun ls hl => ?_)
  refine lv_goto (tgt := 76) hx hb dX11_text_117 (by decide) ?_
  refine lv_iload_n hx hb dX11_text_76 rfl (lv_at hl 0 rfl) ?_
  refine lv_bipush (v := 36) hx hb dX11_text_77 (by decide) ?_
  refine lv_icmp_ge (tgt := 120) hx hb dX11_text_79 (by decide) (fun cc => absurd cc (by decide +kernel)) (fun _ => ?_)
  refine lv_aload_n hx hb dX11_text_82 rfl (lv_at hl 3 rfl) ?_
  refine va_get (D := D) (ci := 8) (v := .ref a1) (C := RX11) (T := TX11) (N := 36) hx hb hU iX11 hown hK.1 hP 1 rfl rfl 6 (by decide) (hU _ w791) (fun _ h9 => h9) rfl dX11_text_83 ?_
  refine lv_iload_n hx hb dX11_text_86 rfl (lv_at hl 0 rfl) ?_
  refine lv_iload_n hx hb dX11_text_87 rfl (lv_at hl 0 rfl) ?_
  refine lv_bipush (v := 9) hx hb dX11_text_88 (by decide) ?_
  refine lv_aload_n hx hb dX11_text_90 rfl (lv_at hl 3 rfl) ?_
  refine va_get (D := D) (ci := 8) (v := .int 0) (C := RX11) (T := TX11) (N := 36) hx hb hU iX11 hown hK.1 hP 1 rfl rfl 1 (by decide) (hU _ w786) (fun _ h9 => h9) rfl dX11_text_91 ?_
  refine lv_imul hx hb dX11_text_94 (sv_i (v := 0) (by decide +kernel) ?_)
  refine lv_icmp_ge (tgt := 107) hx hb dX11_text_95 (by decide) (fun _ => ?_) (fun cc => absurd (by decide +kernel) cc)
  refine lv_aload_n hx hb dX11_text_107 rfl (lv_at hl 3 rfl) ?_
  refine va_get (D := D) (ci := 8) (v := .ref a1) (C := RX11) (T := TX11) (N := 36) hx hb hU iX11 hown hK.1 hP 1 rfl rfl 6 (by decide) (hU _ w791) (fun _ h9 => h9) rfl dX11_text_108 ?_
  refine lv_iload_n hx hb dX11_text_111 rfl (lv_at hl 0 rfl) ?_
  refine ld_i (j := 29) (v := 0) hx hb hK hP 0 rfl (by decide +kernel) rfl dX11_text_112 ?_
  refine st_i (j := 29) (g := tI [0, 0, 0, 0, 0, 0, 0, 0, 0, 0, 0, 0, 0, 0, 0, 0, 0, 0, 0, 0, 0, 0, 0, 0, 0, 0, 0, 0, 0, 0] 0) hx hb hK hP hD hS 0 rfl (by decide +kernel) upd_tI dX11_text_113 (fun H locs hP hD hS => ?_)
  have hP : va_P D cl0 [(a1, .inl (k 0, 36, .inl (tI [0, 0, 0, 0, 0, 0, 0, 0, 0, 0, 0, 0, 0, 0, 0, 0, 0, 0, 0, 0, 0, 0, 0, 0, 0, 0, 0, 0, 0, 0] 0))), (a0, .inr (8, [.int 2, .int 0, .int 1, .int 0, .int 0, .int 0, .ref a1, .ref a2, .int 0, .int 0, .ref a3, .ref a4, .ref a5, .ref a6, .ref a7, .ref a8, .ref a9, .int 0, .int 0, .int 0, .ref a10, .ref a11, .ref a12, .ref a13, .int 0, .int 0, .ref a14, .ref a15, .ref a16, .ref a17, .int 0, .int 0, .ref a18, .ref a19, .ref a20, .ref a21]))] H := hP
  have hD : va_D A [(a1, .inl (k 0, 36, .inl (tI [0, 0, 0, 0, 0, 0, 0, 0, 0, 0, 0, 0, 0, 0, 0, 0, 0, 0, 0, 0, 0, 0, 0, 0, 0, 0, 0, 0, 0, 0] 0))), (a0, .inr (8, [.int 2, .int 0, .int 1, .int 0, .int 0, .int 0, .ref a1, .ref a2, .int 0, .int 0, .ref a3, .ref a4, .ref a5, .ref a6, .ref a7, .ref a8, .ref a9, .int 0, .int 0, .int 0, .ref a10, .ref a11, .ref a12, .ref a13, .int 0, .int 0, .ref a14, .ref a15, .ref a16, .ref a17, .int 0, .int 0, .ref a18, .ref a19, .ref a20, .ref a21]))] := hD
  refine lv_iinc (v := 30) (lv' := [(3, .int 30), (2, .int 0), (1, .int 1), (0, .ref a0)]) hx hb dX11_text_114 hl (k := 0) rfl (by decide) (by decide) rfl (fun ls hl => ?_)
  refine lv_goto (tgt := 76) hx hb dX11_text_117 (by decide) ?_
  refine lv_iload_n hx hb dX11_text_76 rfl (lv_at hl 0 rfl) ?_
  refine lv_bipush (v := 36) hx hb dX11_text_77 (by decide) ?_
  refine lv_icmp_ge (tgt := 120) hx hb dX11_text_79 (by decide) (fun cc => absurd cc (by decide +kernel)) (fun _ => ?_)
  refine lv_aload_n hx hb dX11_text_82 rfl (lv_at hl 3 rfl) ?_
  refine va_get (D := D) (ci := 8) (v := .ref a1) (C := RX11) (T := TX11) (N := 36) hx hb hU iX11 hown hK.1 hP 1 rfl rfl 6 (by decide) (hU _ w791) (fun _ h9 => h9) rfl dX11_text_83 ?_
  refine lv_iload_n hx hb dX11_text_86 rfl (lv_at hl 0 rfl) ?_
  refine lv_iload_n hx hb dX11_text_87 rfl (lv_at hl 0 rfl) ?_
  refine lv_bipush (v := 9) hx hb dX11_text_88 (by decide) ?_
  refine lv_aload_n hx hb dX11_text_90 rfl (lv_at hl 3 rfl) ?_
  refine va_get (D := D) (ci := 8) (v := .int 0) (C := RX11) (T := TX11) (N := 36) hx hb hU iX11 hown hK.1 hP 1 rfl rfl 1 (by decide) (hU _ w786) (fun _ h9 => h9) rfl dX11_text_91 ?_
  refine lv_imul hx hb dX11_text_94 (sv_i (v := 0) (by decide +kernel) ?_)
  refine lv_icmp_ge (tgt := 107) hx hb dX11_text_95 (by decide) (fun _ => ?_) (fun cc => absurd (by decide +kernel) cc)
  refine lv_aload_n hx hb dX11_text_107 rfl (lv_at hl 3 rfl) ?_
  refine va_get (D := D) (ci := 8) (v := .ref a1) (C := RX11) (T := TX11) (N := 36) hx hb hU iX11 hown hK.1 hP 1 rfl rfl 6 (by decide) (hU _ w791) (fun _ h9 => h9) rfl dX11_text_108 ?_
  refine lv_iload_n hx hb dX11_text_111 rfl (lv_at hl 0 rfl) ?_
  refine ld_i (j := 30) (v := 0) hx hb hK hP 0 rfl (by decide +kernel) rfl dX11_text_112 ?_
  refine st_i (j := 30) (g := tI [0, 0, 0, 0, 0, 0, 0, 0, 0, 0, 0, 0, 0, 0, 0, 0, 0, 0, 0, 0, 0, 0, 0, 0, 0, 0, 0, 0, 0, 0, 0] 0) hx hb hK hP hD hS 0 rfl (by decide +kernel) upd_tI dX11_text_113 (fun H locs hP hD hS => ?_)
  have hP : va_P D cl0 [(a1, .inl (k 0, 36, .inl (tI [0, 0, 0, 0, 0, 0, 0, 0, 0, 0, 0, 0, 0, 0, 0, 0, 0, 0, 0, 0, 0, 0, 0, 0, 0, 0, 0, 0, 0, 0, 0] 0))), (a0, .inr (8, [.int 2, .int 0, .int 1, .int 0, .int 0, .int 0, .ref a1, .ref a2, .int 0, .int 0, .ref a3, .ref a4, .ref a5, .ref a6, .ref a7, .ref a8, .ref a9, .int 0, .int 0, .int 0, .ref a10, .ref a11, .ref a12, .ref a13, .int 0, .int 0, .ref a14, .ref a15, .ref a16, .ref a17, .int 0, .int 0, .ref a18, .ref a19, .ref a20, .ref a21]))] H := hP
  have hD : va_D A [(a1, .inl (k 0, 36, .inl (tI [0, 0, 0, 0, 0, 0, 0, 0, 0, 0, 0, 0, 0, 0, 0, 0, 0, 0, 0, 0, 0, 0, 0, 0, 0, 0, 0, 0, 0, 0, 0] 0))), (a0, .inr (8, [.int 2, .int 0, .int 1, .int 0, .int 0, .int 0, .ref a1, .ref a2, .int 0, .int 0, .ref a3, .ref a4, .ref a5, .ref a6, .ref a7, .ref a8, .ref a9, .int 0, .int 0, .int 0, .ref a10, .ref a11, .ref a12, .ref a13, .int 0, .int 0, .ref a14, .ref a15, .ref a16, .ref a17, .int 0, .int 0, .ref a18, .ref a19, .ref a20, .ref a21]))] := hD
  refine lv_iinc (v := 31) (lv' := [(3, .int 31), (2, .int 0), (1, .int 1), (0, .ref a0)]) hx hb dX11_text_114 hl (k := 0) rfl (by decide) (by decide) rfl (fun ls hl => ?_)
  refine lv_goto (tgt := 76) hx hb dX11_text_117 (by decide) ?_
  refine lv_iload_n hx hb dX11_text_76 rfl (lv_at hl 0 rfl) ?_
  refine lv_bipush (v := 36) hx hb dX11_text_77 (by decide) ?_
  refine lv_icmp_ge (tgt := 120) hx hb dX11_text_79 (by decide) (fun cc => absurd cc (by decide +kernel)) (fun _ => ?_)
  refine lv_aload_n hx hb dX11_text_82 rfl (lv_at hl 3 rfl) ?_
  refine va_get (D := D) (ci := 8) (v := .ref a1) (C := RX11) (T := TX11) (N := 36) hx hb hU iX11 hown hK.1 hP 1 rfl rfl 6 (by decide) (hU _ w791) (fun _ h9 => h9) rfl dX11_text_83 ?_
  refine lv_iload_n hx hb dX11_text_86 rfl (lv_at hl 0 rfl) ?_
  refine lv_iload_n hx hb dX11_text_87 rfl (lv_at hl 0 rfl) ?_
  refine lv_bipush (v := 9) hx hb dX11_text_88 (by decide) ?_
  refine lv_aload_n hx hb dX11_text_90 rfl (lv_at hl 3 rfl) ?_
  refine va_get (D := D) (ci := 8) (v := .int 0) (C := RX11) (T := TX11) (N := 36) hx hb hU iX11 hown hK.1 hP 1 rfl rfl 1 (by decide) (hU _ w786) (fun _ h9 => h9) rfl dX11_text_91 ?_
  refine lv_imul hx hb dX11_text_94 (sv_i (v := 0) (by decide +kernel) ?_)
  refine lv_icmp_ge (tgt := 107) hx hb dX11_text_95 (by decide) (fun _ => ?_) (fun cc => absurd (by decide +kernel) cc)
  refine lv_aload_n hx hb dX11_text_107 rfl (lv_at hl 3 rfl) ?_
  refine va_get (D := D) (ci := 8) (v := .ref a1) (C := RX11) (T := TX11) (N := 36) hx hb hU iX11 hown hK.1 hP 1 rfl rfl 6 (by decide) (hU _ w791) (fun _ h9 => h9) rfl dX11_text_108 ?_
  refine lv_iload_n hx hb dX11_text_111 rfl (lv_at hl 0 rfl) ?_
  refine ld_i (j := 31) (v := 0) hx hb hK hP 0 rfl (by decide +kernel) rfl dX11_text_112 ?_
  refine st_i (j := 31) (g := tI [0, 0, 0, 0, 0, 0, 0, 0, 0, 0, 0, 0, 0, 0, 0, 0, 0, 0, 0, 0, 0, 0, 0, 0, 0, 0, 0, 0, 0, 0, 0, 0] 0) hx hb hK hP hD hS 0 rfl (by decide +kernel) upd_tI dX11_text_113 (fun H locs hP hD hS => ?_)
  have hP : va_P D cl0 [(a1, .inl (k 0, 36, .inl (tI [0, 0, 0, 0, 0, 0, 0, 0, 0, 0, 0, 0, 0, 0, 0, 0, 0, 0, 0, 0, 0, 0, 0, 0, 0, 0, 0, 0, 0, 0, 0, 0] 0))), (a0, .inr (8, [.int 2, .int 0, .int 1, .int 0, .int 0, .int 0, .ref a1, .ref a2, .int 0, .int 0, .ref a3, .ref a4, .ref a5, .ref a6, .ref a7, .ref a8, .ref a9, .int 0, .int 0, .int 0, .ref a10, .ref a11, .ref a12, .ref a13, .int 0, .int 0, .ref a14, .ref a15, .ref a16, .ref a17, .int 0, .int 0, .ref a18, .ref a19, .ref a20, .ref a21]))] H := hP
  have hD : va_D A [(a1, .inl (k 0, 36, .inl (tI [0, 0, 0, 0, 0, 0, 0, 0, 0, 0, 0, 0, 0, 0, 0, 0, 0, 0, 0, 0, 0, 0, 0, 0, 0, 0, 0, 0, 0, 0, 0, 0] 0))), (a0, .inr (8, [.int 2, .int 0, .int 1, .int 0, .int 0, .int 0, .ref a1, .ref a2, .int 0, .int 0, .ref a3, .ref a4, .ref a5, .ref a6, .ref a7, .ref a8, .ref a9, .int 0, .int 0, .int 0, .ref a10, .ref a11, .ref a12, .ref a13, .int 0, .int 0, .ref a14, .ref a15, .ref a16, .ref a17, .int 0, .int 0, .ref a18, .ref a19, .ref a20, .ref a21]))] := hD
  refine lv_iinc (v := 32) (lv' := [(3, .int 32), (2, .int 0), (1, .int 1), (0, .ref a0)]) hx hb dX11_text_114 hl (k := 0) rfl (by decide) (by decide) rfl (fun ls hl => ?_)
  refine lv_goto (tgt := 76) hx hb dX11_text_117 (by decide) ?_
  refine lv_iload_n hx hb dX11_text_76 rfl (lv_at hl 0 rfl) ?_
  refine lv_bipush (v := 36) hx hb dX11_text_77 (by decide) ?_
  refine lv_icmp_ge (tgt := 120) hx hb dX11_text_79 (by decide) (fun cc => absurd cc (by decide +kernel)) (fun _ => ?_)
  refine lv_aload_n hx hb dX11_text_82 rfl (lv_at hl 3 rfl) ?_
  refine va_get (D := D) (ci := 8) (v := .ref a1) (C := RX11) (T := TX11) (N := 36) hx hb hU iX11 hown hK.1 hP 1 rfl rfl 6 (by decide) (hU _ w791) (fun _ h9 => h9) rfl dX11_text_83 ?_
  refine lv_iload_n hx hb dX11_text_86 rfl (lv_at hl 0 rfl) ?_
  refine lv_iload_n hx hb dX11_text_87 rfl (lv_at hl 0 rfl) ?_
  refine lv_bipush (v := 9) hx hb dX11_text_88 (by decide) ?_
  refine lv_aload_n hx hb dX11_text_90 rfl (lv_at hl 3 rfl) ?_
  refine va_get (D := D) (ci := 8) (v := .int 0) (C := RX11) (T := TX11) (N := 36) hx hb hU iX11 hown hK.1 hP 1 rfl rfl 1 (by decide) (hU _ w786) (fun _ h9 => h9) rfl dX11_text_91 ?_
  refine lv_imul hx hb dX11_text_94 (sv_i (v := 0) (by decide +kernel) ?_)
  refine lv_icmp_ge (tgt := 107) hx hb dX11_text_95 (by decide) (fun _ => ?_) (fun cc => absurd (by decide +kernel) cc)
  refine lv_aload_n hx hb dX11_text_107 rfl (lv_at hl 3 rfl) ?_
  refine va_get (D := D) (ci := 8) (v := .ref a1) (C := RX11) (T := TX11) (N := 36) hx hb hU iX11 hown hK.1 hP 1 rfl rfl 6 (by decide) (hU _ w791) (fun _ h9 => h9) rfl dX11_text_108 ?_
  refine lv_iload_n hx hb dX11_text_111 rfl (lv_at hl 0 rfl) ?_
  refine ld_i (j := 32) (v := 0) hx hb hK hP 0 rfl (by decide +kernel) rfl dX11_text_112 ?_
  refine st_i (j := 32) (g := tI [0, 0, 0, 0, 0, 0, 0, 0, 0, 0, 0, 0, 0, 0, 0, 0, 0, 0, 0, 0, 0, 0, 0, 0, 0, 0, 0, 0, 0, 0, 0, 0, 0] 0) hx hb hK hP hD hS 0 rfl (by decide +kernel) upd_tI dX11_text_113 (fun H locs hP hD hS => ?_)
  have hP : va_P D cl0 [(a1, .inl (k 0, 36, .inl (tI [0, 0, 0, 0, 0, 0, 0, 0, 0, 0, 0, 0, 0, 0, 0, 0, 0, 0, 0, 0, 0, 0, 0, 0, 0, 0, 0, 0, 0, 0, 0, 0, 0] 0))), (a0, .inr (8, [.int 2, .int 0, .int 1, .int 0, .int 0, .int 0, .ref a1, .ref a2, .int 0, .int 0, .ref a3, .ref a4, .ref a5, .ref a6, .ref a7, .ref a8, .ref a9, .int 0, .int 0, .int 0, .ref a10, .ref a11, .ref a12, .ref a13, .int 0, .int 0, .ref a14, .ref a15, .ref a16, .ref a17, .int 0, .int 0, .ref a18, .ref a19, .ref a20, .ref a21]))] H := hP
  have hD : va_D A [(a1, .inl (k 0, 36, .inl (tI [0, 0, 0, 0, 0, 0, 0, 0, 0, 0, 0, 0, 0, 0, 0, 0, 0, 0, 0, 0, 0, 0, 0, 0, 0, 0, 0, 0, 0, 0, 0, 0, 0] 0))), (a0, .inr (8, [.int 2, .int 0, .int 1, .int 0, .int 0, .int 0, .ref a1, .ref a2, .int 0, .int 0, .ref a3, .ref a4, .ref a5, .ref a6, .ref a7, .ref a8, .ref a9, .int 0, .int 0, .int 0, .ref a10, .ref a11, .ref a12, .ref a13, .int 0, .int 0, .ref a14, .ref a15, .ref a16, .ref a17, .int 0, .int 0, .ref a18, .ref a19, .ref a20, .ref a21]))] := hD
  refine lv_iinc (v := 33) (lv' := [(3, .int 33), (2, .int 0), (1, .int 1), (0, .ref a0)]) hx hb dX11_text_114 hl (k := 0) rfl (by decide) (by decide) rfl (fun ls hl => ?_)
  refine lv_goto (tgt := 76) hx hb dX11_text_117 (by decide) ?_
  refine lv_iload_n hx hb dX11_text_76 rfl (lv_at hl 0 rfl) ?_
  refine lv_bipush (v := 36) hx hb dX11_text_77 (by decide) ?_
  refine lv_icmp_ge (tgt := 120) hx hb dX11_text_79 (by decide) (fun cc => absurd cc (by decide +kernel)) (fun _ => ?_)
  refine lv_aload_n hx hb dX11_text_82 rfl (lv_at hl 3 rfl) ?_
  refine va_get (D := D) (ci := 8) (v := .ref a1) (C := RX11) (T := TX11) (N := 36) hx hb hU iX11 hown hK.1 hP 1 rfl rfl 6 (by decide) (hU _ w791) (fun _ h9 => h9) rfl dX11_text_83 ?_
  refine lv_iload_n hx hb dX11_text_86 rfl (lv_at hl 0 rfl) ?_
  refine lv_iload_n hx hb dX11_text_87 rfl (lv_at hl 0 rfl) ?_
  refine lv_bipush (v := 9) hx hb dX11_text_88 (by decide) ?_
  refine lv_aload_n hx hb dX11_text_90 rfl (lv_at hl 3 rfl) ?_
  refine va_get (D := D) (ci := 8) (v := .int 0) (C := RX11) (T := TX11) (N := 36) hx hb hU iX11 hown hK.1 hP 1 rfl rfl 1 (by decide) (hU _ w786) (fun _ h9 => h9) rfl dX11_text_91 ?_
  refine lv_imul hx hb dX11_text_94 (sv_i (v := 0) (by decide +kernel) ?_)
  refine lv_icmp_ge (tgt := 107) hx hb dX11_text_95 (by decide) (fun _ => ?_) (fun cc => absurd (by decide +kernel) cc)
  refine lv_aload_n hx hb dX11_text_107 rfl (lv_at hl 3 rfl) ?_
  refine va_get (D := D) (ci := 8) (v := .ref a1) (C := RX11) (T := TX11) (N := 36) hx hb hU iX11 hown hK.1 hP 1 rfl rfl 6 (by decide) (hU _ w791) (fun _ h9 => h9) rfl dX11_text_108 ?_
  refine lv_iload_n hx hb dX11_text_111 rfl (lv_at hl 0 rfl) ?_
  refine ld_i (j := 33) (v := 0) hx hb hK hP 0 rfl (by decide +kernel) rfl dX11_text_112 ?_
  refine st_i (j := 33) (g := tI [0, 0, 0, 0, 0, 0, 0, 0, 0, 0, 0, 0, 0, 0, 0, 0, 0, 0, 0, 0, 0, 0, 0, 0, 0, 0, 0, 0, 0, 0, 0, 0, 0, 0] 0) hx hb hK hP hD hS 0 rfl (by decide +kernel) upd_tI dX11_text_113 (fun H locs hP hD hS => ?_)
  have hP : va_P D cl0 [(a1, .inl (k 0, 36, .inl (tI [0, 0, 0, 0, 0, 0, 0, 0, 0, 0, 0, 0, 0, 0, 0, 0, 0, 0, 0, 0, 0, 0, 0, 0, 0, 0, 0, 0, 0, 0, 0, 0, 0, 0] 0))), (a0, .inr (8, [.int 2, .int 0, .int 1, .int 0, .int 0, .int 0, .ref a1, .ref a2, .int 0, .int 0, .ref a3, .ref a4, .ref a5, .ref a6, .ref a7, .ref a8, .ref a9, .int 0, .int 0, .int 0, .ref a10, .ref a11, .ref a12, .ref a13, .int 0, .int 0, .ref a14, .ref a15, .ref a16, .ref a17, .int 0, .int 0, .ref a18, .ref a19, .ref a20, .ref a21]))] H := hP
  have hD : va_D A [(a1, .inl (k 0, 36, .inl (tI [0, 0, 0, 0, 0, 0, 0, 0, 0, 0, 0, 0, 0, 0, 0, 0, 0, 0, 0, 0, 0, 0, 0, 0, 0, 0, 0, 0, 0, 0, 0, 0, 0, 0] 0))), (a0, .inr (8, [.int 2, .int 0, .int 1, .int 0, .int 0, .int 0, .ref a1, .ref a2, .int 0, .int 0, .ref a3, .ref a4, .ref a5, .ref a6, .ref a7, .ref a8, .ref a9, .int 0, .int 0, .int 0, .ref a10, .ref a11, .ref a12, .ref a13, .int 0, .int 0, .ref a14, .ref a15, .ref a16, .ref a17, .int 0, .int 0, .ref a18, .ref a19, .ref a20, .ref a21]))] := hD
  refine lv_iinc (v := 34) (lv' := [(3, .int 34), (2, .int 0), (1, .int 1), (0, .ref a0)]) hx hb dX11_text_114 hl (k := 0) rfl (by decide) (by decide) rfl (fun ls hl => ?_)
  refine lv_goto (tgt := 76) hx hb dX11_text_117 (by decide) ?_
  refine lv_iload_n hx hb dX11_text_76 rfl (lv_at hl 0 rfl) ?_
  refine lv_bipush (v := 36) hx hb dX11_text_77 (by decide) ?_
  refine lv_icmp_ge (tgt := 120) hx hb dX11_text_79 (by decide) (fun cc => absurd cc (by decide +kernel)) (fun _ => ?_)
  refine lv_aload_n hx hb dX11_text_82 rfl (lv_at hl 3 rfl) ?_
  refine va_get (D := D) (ci := 8) (v := .ref a1) (C := RX11) (T := TX11) (N := 36) hx hb hU iX11 hown hK.1 hP 1 rfl rfl 6 (by decide) (hU _ w791) (fun _ h9 => h9) rfl dX11_text_83 ?_
  refine lv_iload_n hx hb dX11_text_86 rfl (lv_at hl 0 rfl) ?_
  refine lv_iload_n hx hb dX11_text_87 rfl (lv_at hl 0 rfl) ?_
  refine lv_bipush (v := 9) hx hb dX11_text_88 (by decide) ?_
  refine lv_aload_n hx hb dX11_text_90 rfl (lv_at hl 3 rfl) ?_
  refine va_get (D := D) (ci := 8) (v := .int 0) (C := RX11) (T := TX11) (N := 36) hx hb hU iX11 hown hK.1 hP 1 rfl rfl 1 (by decide) (hU _ w786) (fun _ h9 => h9) rfl dX11_text_91 ?_
  refine lv_imul hx hb dX11_text_94 (sv_i (v := 0) (by decide +kernel) ?_)
  refine lv_icmp_ge (tgt := 107) hx hb dX11_text_95 (by decide) (fun _ => ?_) (fun cc => absurd (by decide +kernel) cc)
  refine lv_aload_n hx hb dX11_text_107 rfl (lv_at hl 3 rfl) ?_
  refine va_get (D := D) (ci := 8) (v := .ref a1) (C := RX11) (T := TX11) (N := 36) hx hb hU iX11 hown hK.1 hP 1 rfl rfl 6 (by decide) (hU _ w791) (fun _ h9 => h9) rfl dX11_text_108 ?_
  refine lv_iload_n hx hb dX11_text_111 rfl (lv_at hl 0 rfl) ?_
  refine ld_i (j := 34) (v := 0) hx hb hK hP 0 rfl (by decide +kernel) rfl dX11_text_112 ?_
  refine st_i (j := 34) (g := tI [0, 0, 0, 0, 0, 0, 0, 0, 0, 0, 0, 0, 0, 0, 0, 0, 0, 0, 0, 0, 0, 0, 0, 0, 0, 0, 0, 0, 0, 0, 0, 0, 0, 0, 0] 0) hx hb hK hP hD hS 0 rfl (by decide +kernel) upd_tI dX11_text_113 (fun H locs hP hD hS => ?_)
  have hP : va_P D cl0 [(a1, .inl (k 0, 36, .inl (tI [0, 0, 0, 0, 0, 0, 0, 0, 0, 0, 0, 0, 0, 0, 0, 0, 0, 0, 0, 0, 0, 0, 0, 0, 0, 0, 0, 0, 0, 0, 0, 0, 0, 0, 0] 0))), (a0, .inr (8, [.int 2, .int 0, .int 1, .int 0, .int 0, .int 0, .ref a1, .ref a2, .int 0, .int 0, .ref a3, .ref a4, .ref a5, .ref a6, .ref a7, .ref a8, .ref a9, .int 0, .int 0, .int 0, .ref a10, .ref a11, .ref a12, .ref a13, .int 0, .int 0, .ref a14, .ref a15, .ref a16, .ref a17, .int 0, .int 0, .ref a18, .ref a19, .ref a20, .ref a21]))] H := hP
  have hD : va_D A [(a1, .inl (k 0, 36, .inl (tI [0, 0, 0, 0, 0, 0, 0, 0, 0, 0, 0, 0, 0, 0, 0, 0, 0, 0, 0, 0, 0, 0, 0, 0, 0, 0, 0, 0, 0, 0, 0, 0, 0, 0, 0] 0))), (a0, .inr (8, [.int 2, .int 0, .int 1, .int 0, .int 0, .int 0, .ref a1, .ref a2, .int 0, .int 0, .ref a3, .ref a4, .ref a5, .ref a6, .ref a7, .ref a8, .ref a9, .int 0, .int 0, .int 0, .ref a10, .ref a11, .ref a12, .ref a13, .int 0, .int 0, .ref a14, .ref a15, .ref a16, .ref a17, .int 0, .int 0, .ref a18, .ref a19, .ref a20, .ref a21]))] := hD
  refine lv_iinc (v := 35) (lv' := [(3, .int 35), (2, .int 0), (1, .int 1), (0, .ref a0)]) hx hb dX11_text_114 hl (k := 0) rfl (by decide) (by decide) rfl (fun ls hl => ?_)
  refine lv_goto (tgt := 76) hx hb dX11_text_117 (by decide) ?_
  refine lv_iload_n hx hb dX11_text_76 rfl (lv_at hl 0 rfl) ?_
  refine lv_bipush (v := 36) hx hb dX11_text_77 (by decide) ?_
  refine lv_icmp_ge (tgt := 120) hx hb dX11_text_79 (by decide) (fun cc => absurd cc (by decide +kernel)) (fun _ => ?_)
  refine lv_aload_n hx hb dX11_text_82 rfl (lv_at hl 3 rfl) ?_
  refine va_get (D := D) (ci := 8) (v := .ref a1) (C := RX11) (T := TX11) (N := 36) hx hb hU iX11 hown hK.1 hP 1 rfl rfl 6 (by decide) (hU _ w791) (fun _ h9 => h9) rfl dX11_text_83 ?_
  refine lv_iload_n hx hb dX11_text_86 rfl (lv_at hl 0 rfl) ?_
  refine lv_iload_n hx hb dX11_text_87 rfl (lv_at hl 0 rfl) ?_
  refine lv_bipush (v := 9) hx hb dX11_text_88 (by decide) ?_
  refine lv_aload_n hx hb dX11_text_90 rfl (lv_at hl 3 rfl) ?_
  refine va_get (D := D) (ci := 8) (v := .int 0) (C := RX11) (T := TX11) (N := 36) hx hb hU iX11 hown hK.1 hP 1 rfl rfl 1 (by decide) (hU _ w786) (fun _ h9 => h9) rfl dX11_text_91 ?_
  refine lv_imul hx hb dX11_text_94 (sv_i (v := 0) (by decide +kernel) ?_)
  refine lv_icmp_ge (tgt := 107) hx hb dX11_text_95 (by decide) (fun _ => ?_) (fun cc => absurd (by decide +kernel) cc)
  refine lv_aload_n hx hb dX11_text_107 rfl (lv_at hl 3 rfl) ?_
  refine va_get (D := D) (ci := 8) (v := .ref a1) (C := RX11) (T := TX11) (N := 36) hx hb hU iX11 hown hK.1 hP 1 rfl rfl 6 (by decide) (hU _ w791) (fun _ h9 => h9) rfl dX11_text_108 ?_
  refine lv_iload_n hx hb dX11_text_111 rfl (lv_at hl 0 rfl) ?_
  refine ld_i (j := 35) (v := 0) hx hb hK hP 0 rfl (by decide +kernel) rfl dX11_text_112 ?_
  refine st_i (j := 35) (g := tI [0, 0, 0, 0, 0, 0, 0, 0, 0, 0, 0, 0, 0, 0, 0, 0, 0, 0, 0, 0, 0, 0, 0, 0, 0, 0, 0, 0, 0, 0, 0, 0, 0, 0, 0, 0] 0) hx hb hK hP hD hS 0 rfl (by decide +kernel) upd_tI dX11_text_113 (fun H locs hP hD hS => ?_)
  have hP : va_P D cl0 [(a1, .inl (k 0, 36, .inl (tI [0, 0, 0, 0, 0, 0, 0, 0, 0, 0, 0, 0, 0, 0, 0, 0, 0, 0, 0, 0, 0, 0, 0, 0, 0, 0, 0, 0, 0, 0, 0, 0, 0, 0, 0, 0] 0))), (a0, .inr (8, [.int 2, .int 0, .int 1, .int 0, .int 0, .int 0, .ref a1, .ref a2, .int 0, .int 0, .ref a3, .ref a4, .ref a5, .ref a6, .ref a7, .ref a8, .ref a9, .int 0, .int 0, .int 0, .ref a10, .ref a11, .ref a12, .ref a13, .int 0, .int 0, .ref a14, .ref a15, .ref a16, .ref a17, .int 0, .int 0, .ref a18, .ref a19, .ref a20, .ref a21]))] H := hP
  have hD : va_D A [(a1, .inl (k 0, 36, .inl (tI [0, 0, 0, 0, 0, 0, 0, 0, 0, 0, 0, 0, 0, 0, 0, 0, 0, 0, 0, 0, 0, 0, 0, 0, 0, 0, 0, 0, 0, 0, 0, 0, 0, 0, 0, 0] 0))), (a0, .inr (8, [.int 2, .int 0, .int 1, .int 0, .int 0, .int 0, .ref a1, .ref a2, .int 0, .int 0, .ref a3, .ref a4, .ref a5, .ref a6, .ref a7, .ref a8, .ref a9, .int 0, .int 0, .int 0, .ref a10, .ref a11, .ref a12, .ref a13, .int 0, .int 0, .ref a14, .ref a15, .ref a16, .ref a17, .int 0, .int 0, .ref a18, .ref a19, .ref a20, .ref a21]))] := hD
  refine lv_iinc (v := 36) (lv' := [(3, .int 36), (2, .int 0), (1, .int 1), (0, .ref a0)]) hx hb dX11_text_114 hl (k := 0) rfl (by decide) (by decide) rfl (fun ls hl => ?_)
  refine lv_goto (tgt := 76) hx hb dX11_text_117 (by decide) ?_
  refine lv_iload_n hx hb dX11_text_76 rfl (lv_at hl 0 rfl) ?_
  refine lv_bipush (v := 36) hx hb dX11_text_77 (by decide) ?_
  refine lv_icmp_ge (tgt := 120) hx hb dX11_text_79 (by decide) (fun _ => ?_) (fun cc => absurd (by decide +kernel) cc)
  refine lv_aload_n hx hb dX11_text_120 rfl (lv_at hl 3 rfl) ?_
  refine lv_iconst (v := 0) hx hb dX11_text_121 (by decide) ?_
  refine va_put (D := D) (ci := 8) (v := .int 0) (ty := .boolean) (C := RX11) (T := TX11) (N := 36) hx hb hU iX11 tyX11 tyX11_ok nmX11 hown hK.1 hP hD hS 1 rfl rfl 9 (by decide) (hU _ w794) (fun _ h9 => h9) rfl (by decide +kernel) rfl rfl (Nat.le_of_ble_eq_true rfl) dX11_text_122 (fun H locs hP hD hS => ?_)
  have hP : va_P D cl0 [(a1, .inl (k 0, 36, .inl (tI [0, 0, 0, 0, 0, 0, 0, 0, 0, 0, 0, 0, 0, 0, 0, 0, 0, 0, 0, 0, 0, 0, 0, 0, 0, 0, 0, 0, 0, 0, 0, 0, 0, 0, 0, 0] 0))), (a0, .inr (8, [.int 2, .int 0, .int 1, .int 0, .int 0, .int 0, .ref a1, .ref a2, .int 0, .int 0, .ref a3, .ref a4, .ref a5, .ref a6, .ref a7, .ref a8, .ref a9, .int 0, .int 0, .int 0, .ref a10, .ref a11, .ref a12, .ref a13, .int 0, .int 0, .ref a14, .ref a15, .ref a16, .ref a17, .int 0, .int 0, .ref a18, .ref a19, .ref a20, .ref a21]))] H := hP
  have hD : va_D A [(a1, .inl (k 0, 36, .inl (tI [0, 0, 0, 0, 0, 0, 0, 0, 0, 0, 0, 0, 0, 0, 0, 0, 0, 0, 0, 0, 0, 0, 0, 0, 0, 0, 0, 0, 0, 0, 0, 0, 0, 0, 0, 0] 0))), (a0, .inr (8, [.int 2, .int 0, .int 1, .int 0, .int 0, .int 0, .ref a1, .ref a2, .int 0, .int 0, .ref a3, .ref a4, .ref a5, .ref a6, .ref a7, .ref a8, .ref a9, .int 0, .int 0, .int 0, .ref a10, .ref a11, .ref a12, .ref a13, .int 0, .int 0, .ref a14, .ref a15, .ref a16, .ref a17, .int 0, .int 0, .ref a18, .ref a19, .ref a20, .ref a21]))] := hD
  refine lv_aload_n hx hb dX11_text_125 rfl (lv_at hl 3 rfl) ?_
  refine lv_iconst (v := 0) hx hb dX11_text_126 (by decide) ?_
  refine va_put (D := D) (ci := 8) (v := .int 0) (ty := .int) (C := RX11) (T := TX11) (N := 36) hx hb hU iX11 tyX11 tyX11_ok nmX11 hown hK.1 hP hD hS 1 rfl rfl 30 (by decide) (hU _ w815) (fun _ h9 => h9) rfl (by decide +kernel) rfl rfl (Nat.le_of_ble_eq_true rfl) dX11_text_127 (fun H locs hP hD hS => ?_)
  have hP : va_P D cl0 [(a1, .inl (k 0, 36, .inl (tI [0, 0, 0, 0, 0, 0, 0, 0, 0, 0, 0, 0, 0, 0, 0, 0, 0, 0, 0, 0, 0, 0, 0, 0, 0, 0, 0, 0, 0, 0, 0, 0, 0, 0, 0, 0] 0))), (a0, .inr (8, [.int 2, .int 0, .int 1, .int 0, .int 0, .int 0, .ref a1, .ref a2, .int 0, .int 0, .ref a3, .ref a4, .ref a5, .ref a6, .ref a7, .ref a8, .ref a9, .int 0, .int 0, .int 0, .ref a10, .ref a11, .ref a12, .ref a13, .int 0, .int 0, .ref a14, .ref a15, .ref a16, .ref a17, .int 0, .int 0, .ref a18, .ref a19, .ref a20, .ref a21]))] H := hP
  have hD : va_D A [(a1, .inl (k 0, 36, .inl (tI [0, 0, 0, 0, 0, 0, 0, 0, 0, 0, 0, 0, 0, 0, 0, 0, 0, 0, 0, 0, 0, 0, 0, 0, 0, 0, 0, 0, 0, 0, 0, 0, 0, 0, 0, 0] 0))), (a0, .inr (8, [.int 2, .int 0, .int 1, .int 0, .int 0, .int 0, .ref a1, .ref a2, .int 0, .int 0, .ref a3, .ref a4, .ref a5, .ref a6, .ref a7, .ref a8, .ref a9, .int 0, .int 0, .int 0, .ref a10, .ref a11, .ref a12, .ref a13, .int 0, .int 0, .ref a14, .ref a15, .ref a16, .ref a17, .int 0, .int 0, .ref a18, .ref a19, .ref a20, .ref a21]))] := hD
  refine lv_aload_n hx hb dX11_text_130 rfl (lv_at hl 3 rfl) ?_
  refine va_get (D := D) (ci := 8) (v := .int 0) (C := RX11) (T := TX11) (N := 36) hx hb hU iX11 hown hK.1 hP 1 rfl rfl 1 (by decide) (hU _ w786) (fun _ h9 => h9) rfl dX11_text_131 ?_
  exact retI (v := 0) hx hb hr hlocks hS (show (0 : Int32) = F_text by rfl) dX11_text_134
abbrev BX11_far_1 (D : va_G) (k : Nat → ClassId) (A : Nat → Prop) (r : Int64) (H : Heap) : Prop := (-4000000000000000001) = r ∧ va_P D cl0 [] H ∧ va_D A []
set_option maxHeartbeats 4000000 in
set_option maxRecDepth 100000 in
theorem cX11_far_1 (l : Launch) (D : va_G) (k : Nat → ClassId) (sz : Nat) : Met l yX11_far (Cond.code yX11_far cX11_far 1 (some .long) :: uw) ({ frames := 0, cells := 0, slots := 0, locals := 0 }) (pC D k sz [.int (-1)] []) (qL (BX11_far_1 D k  (va_A [] sz)) (va_A [] sz)) 0 0 (va_A [] sz) := by
  refine begin_ (Qc := fun A => qL (BX11_far_1 D k  A) A) (by decide) (Nat.le_of_ble_eq_true rfl) ?_
  intro p e s m below meth c ls A hx hb hr hml hown hlocks hin hU hK hsz hP hD hS hA hl
  have hl : lv_has ls 1 [(0, .int (-1))] := hl
  clear hsz
  refine lv_ldc2 hx hb hown (hU _ w1063) dX11_far_0 ?_
  refine lv_iload_n hx hb dX11_far_3 rfl (lv_at hl 0 rfl) ?_
  refine lv_i2l (v := (-1)) hx hb dX11_far_4 (by decide +kernel) ?_
  refine lv_ladd hx hb dX11_far_5 (sv_l (v := (-4000000000000000001)) (by decide +kernel) ?_)
  exact retL (v := (-4000000000000000001)) hx hb hr hlocks hS (⟨rfl, hP, hD⟩) dX11_far_6
abbrev BX11_point_1 (D : va_G) (k : Nat → ClassId) (a0 a1 a2 a3 a4 a5 a6 a7 a8 a9 a10 a11 a12 a13 a14 a15 a16 a17 a18 a19 a20 a21 : Nat) (x0 : Int32) (x1 : Int32) (A : Nat → Prop) (r : Int64) (H : Heap) : Prop := r = F_point x0 x1
set_option maxHeartbeats 4000000 in
set_option maxRecDepth 100000 in
theorem cX11_point_1 (l : Launch) (D : va_G) (k : Nat → ClassId) (sz : Nat) (a0 a1 a2 a3 a4 a5 a6 a7 a8 a9 a10 a11 a12 a13 a14 a15 a16 a17 a18 a19 a20 a21 : Nat) (x0 : Int32) (x1 : Int32) : Met l yX11_point (Cond.code yX11_point cX11_point 3 (some .long) :: uw) ({ frames := 1, cells := 0, slots := 0, locals := 25 }) (pC D k sz [.ref a0, .int x0, .int x1] [(a0, .inr (8, [.int 2, .int 0, .int 1, .int 0, .int 0, .int 0, .ref a1, .ref a2, .int 0, .int 0, .ref a3, .ref a4, .ref a5, .ref a6, .ref a7, .ref a8, .ref a9, .int 0, .int 0, .int 0, .ref a10, .ref a11, .ref a12, .ref a13, .int 0, .int 0, .ref a14, .ref a15, .ref a16, .ref a17, .int 0, .int 0, .ref a18, .ref a19, .ref a20, .ref a21]))]) (qL (BX11_point_1 D k a0 a1 a2 a3 a4 a5 a6 a7 a8 a9 a10 a11 a12 a13 a14 a15 a16 a17 a18 a19 a20 a21 x0 x1 (va_A [(a0, .inr (8, [.int 2, .int 0, .int 1, .int 0, .int 0, .int 0, .ref a1, .ref a2, .int 0, .int 0, .ref a3, .ref a4, .ref a5, .ref a6, .ref a7, .ref a8, .ref a9, .int 0, .int 0, .int 0, .ref a10, .ref a11, .ref a12, .ref a13, .int 0, .int 0, .ref a14, .ref a15, .ref a16, .ref a17, .int 0, .int 0, .ref a18, .ref a19, .ref a20, .ref a21]))] sz)) (va_A [(a0, .inr (8, [.int 2, .int 0, .int 1, .int 0, .int 0, .int 0, .ref a1, .ref a2, .int 0, .int 0, .ref a3, .ref a4, .ref a5, .ref a6, .ref a7, .ref a8, .ref a9, .int 0, .int 0, .int 0, .ref a10, .ref a11, .ref a12, .ref a13, .int 0, .int 0, .ref a14, .ref a15, .ref a16, .ref a17, .int 0, .int 0, .ref a18, .ref a19, .ref a20, .ref a21]))] sz)) 0 0 (va_A [(a0, .inr (8, [.int 2, .int 0, .int 1, .int 0, .int 0, .int 0, .ref a1, .ref a2, .int 0, .int 0, .ref a3, .ref a4, .ref a5, .ref a6, .ref a7, .ref a8, .ref a9, .int 0, .int 0, .int 0, .ref a10, .ref a11, .ref a12, .ref a13, .int 0, .int 0, .ref a14, .ref a15, .ref a16, .ref a17, .int 0, .int 0, .ref a18, .ref a19, .ref a20, .ref a21]))] sz) := by
  refine begin_ (Qc := fun A => qL (BX11_point_1 D k a0 a1 a2 a3 a4 a5 a6 a7 a8 a9 a10 a11 a12 a13 a14 a15 a16 a17 a18 a19 a20 a21 x0 x1 A) A) (by decide) (Nat.le_of_ble_eq_true rfl) ?_
  intro p e s m below meth c ls A hx hb hr hml hown hlocks hin hU hK hsz hP hD hS hA hl
  have hl : lv_has ls 3 [(0, .ref a0), (1, .int x0), (2, .int x1)] := hl
  clear hsz
  refine lv_iload_n hx hb dX11_point_0 rfl (lv_at hl 1 rfl) ?_
  refine lv_i2l (v := x0.toInt64) hx hb dX11_point_1 rfl ?_
  refine lv_lconst (v := 0) hx hb dX11_point_2 (by decide) ?_
  refine lv_aload_n hx hb dX11_point_3 rfl (lv_at hl 0 rfl) ?_
  refine va_get (D := D) (ci := 8) (v := .int 0) (C := RX11) (T := TX11) (N := 36) hx hb hU iX11 hown hK.1 hP 0 rfl rfl 30 (by decide) (hU _ w815) (fun _ h9 => h9) rfl dX11_point_4 ?_
  refine lv_iconst (v := 1) hx hb dX11_point_7 (by decide) ?_
  refine lv_isub hx hb dX11_point_8 (sv_i (v := (-1)) (by decide +kernel) ?_)
  refine lv_i2l (v := (-1)) hx hb dX11_point_9 (by decide +kernel) ?_
  refine cI (rS (As := [.long x0.toInt64, .long 0, .long (-1)]) (rest := []) (wc := []) hx hb hml hown hU hK hP hD [] rfl (by decide) (cX11_in_3 l D k _ (x0.toInt64)) w901 w899 w900 w72 hdX11_in ⟨rfl, rfl⟩ ⟨Nat.le_of_ble_eq_true rfl, Nat.le_of_ble_eq_true rfl⟩ rfl hl.1 (Nat.le_of_ble_eq_true rfl) dX11_point_10 ⟨Nat.le_of_ble_eq_true rfl, Nat.le_of_ble_eq_true rfl⟩) hP hD hS hA (wr := [(a0, .inr (8, [.int 2, .int 0, .int 1, .int 0, .int 0, .int 0, .ref a1, .ref a2, .int 0, .int 0, .ref a3, .ref a4, .ref a5, .ref a6, .ref a7, .ref a8, .ref a9, .int 0, .int 0, .int 0, .ref a10, .ref a11, .ref a12, .ref a13, .int 0, .int 0, .ref a14, .ref a15, .ref a16, .ref a17, .int 0, .int 0, .ref a18, .ref a19, .ref a20, .ref a21]))]) [] [0] rfl rfl (by decide) (by decide) (fun r1 H locs hB J hS => ?_)
  rcases hB with ⟨c_2, rfl, hP1, hD1⟩ | ⟨c_3, c_4, rfl, hP1, hD1⟩
  · skip
    obtain ⟨hP, hD⟩ := J _ hP1 hD1
    have hP : va_P D cl0 [(a0, .inr (8, [.int 2, .int 0, .int 1, .int 0, .int 0, .int 0, .ref a1, .ref a2, .int 0, .int 0, .ref a3, .ref a4, .ref a5, .ref a6, .ref a7, .ref a8, .ref a9, .int 0, .int 0, .int 0, .ref a10, .ref a11, .ref a12, .ref a13, .int 0, .int 0, .ref a14, .ref a15, .ref a16, .ref a17, .int 0, .int 0, .ref a18, .ref a19, .ref a20, .ref a21]))] H := hP
    have hD : va_D A [(a0, .inr (8, [.int 2, .int 0, .int 1, .int 0, .int 0, .int 0, .ref a1, .ref a2, .int 0, .int 0, .ref a3, .ref a4, .ref a5, .ref a6, .ref a7, .ref a8, .ref a9, .int 0, .int 0, .int 0, .ref a10, .ref a11, .ref a12, .ref a13, .int 0, .int 0, .ref a14, .ref a15, .ref a16, .ref a17, .int 0, .int 0, .ref a18, .ref a19, .ref a20, .ref a21]))] := hD
    refine lv_if_eq (tgt := 37) hx hb dX11_point_13 (by decide) (fun _ => ?_) (fun cc => absurd (by decide +kernel) cc)
    refine lv_iconst (v := (-1)) hx hb dX11_point_37 (by decide) ?_
    refine cL (rS (As := [.int (-1)]) (rest := []) (wc := []) hx hb hml hown hU hK hP hD [] rfl (by decide) (cX11_far_1 l D k _ ) w1062 w1060 w1061 w72 hdX11_far ⟨rfl, rfl⟩ ⟨Nat.le_of_ble_eq_true rfl, Nat.le_of_ble_eq_true rfl⟩ rfl hl.1 (Nat.le_of_ble_eq_true rfl) dX11_point_38 ⟨Nat.le_of_ble_eq_true rfl, Nat.le_of_ble_eq_true rfl⟩) hP hD hS hA (wr := [(a0, .inr (8, [.int 2, .int 0, .int 1, .int 0, .int 0, .int 0, .ref a1, .ref a2, .int 0, .int 0, .ref a3, .ref a4, .ref a5, .ref a6, .ref a7, .ref a8, .ref a9, .int 0, .int 0, .int 0, .ref a10, .ref a11, .ref a12, .ref a13, .int 0, .int 0, .ref a14, .ref a15, .ref a16, .ref a17, .int 0, .int 0, .ref a18, .ref a19, .ref a20, .ref a21]))]) [] [0] rfl rfl (by decide) (by decide) (fun r5 H locs hB J hS => ?_)
    obtain ⟨rfl, hP1, hD1⟩ := hB
    obtain ⟨hP, hD⟩ := J _ hP1 hD1
    have hP : va_P D cl0 [(a0, .inr (8, [.int 2, .int 0, .int 1, .int 0, .int 0, .int 0, .ref a1, .ref a2, .int 0, .int 0, .ref a3, .ref a4, .ref a5, .ref a6, .ref a7, .ref a8, .ref a9, .int 0, .int 0, .int 0, .ref a10, .ref a11, .ref a12, .ref a13, .int 0, .int 0, .ref a14, .ref a15, .ref a16, .ref a17, .int 0, .int 0, .ref a18, .ref a19, .ref a20, .ref a21]))] H := hP
    have hD : va_D A [(a0, .inr (8, [.int 2, .int 0, .int 1, .int 0, .int 0, .int 0, .ref a1, .ref a2, .int 0, .int 0, .ref a3, .ref a4, .ref a5, .ref a6, .ref a7, .ref a8, .ref a9, .int 0, .int 0, .int 0, .ref a10, .ref a11, .ref a12, .ref a13, .int 0, .int 0, .ref a14, .ref a15, .ref a16, .ref a17, .int 0, .int 0, .ref a18, .ref a19, .ref a20, .ref a21]))] := hD
    exact retL (v := (-4000000000000000001)) hx hb hr hlocks hS (show ((-4000000000000000001) : Int64) = F_point x0 x1 by rfl) dX11_point_41
  · skip
    obtain ⟨hP, hD⟩ := J _ hP1 hD1
    have hP : va_P D cl0 [(a0, .inr (8, [.int 2, .int 0, .int 1, .int 0, .int 0, .int 0, .ref a1, .ref a2, .int 0, .int 0, .ref a3, .ref a4, .ref a5, .ref a6, .ref a7, .ref a8, .ref a9, .int 0, .int 0, .int 0, .ref a10, .ref a11, .ref a12, .ref a13, .int 0, .int 0, .ref a14, .ref a15, .ref a16, .ref a17, .int 0, .int 0, .ref a18, .ref a19, .ref a20, .ref a21]))] H := hP
    have hD : va_D A [(a0, .inr (8, [.int 2, .int 0, .int 1, .int 0, .int 0, .int 0, .ref a1, .ref a2, .int 0, .int 0, .ref a3, .ref a4, .ref a5, .ref a6, .ref a7, .ref a8, .ref a9, .int 0, .int 0, .int 0, .ref a10, .ref a11, .ref a12, .ref a13, .int 0, .int 0, .ref a14, .ref a15, .ref a16, .ref a17, .int 0, .int 0, .ref a18, .ref a19, .ref a20, .ref a21]))] := hD
    refine lv_if_eq (tgt := 37) hx hb dX11_point_13 (by decide) (fun _ => ?_) (fun cc => absurd (by decide +kernel) cc)
    refine lv_iconst (v := (-1)) hx hb dX11_point_37 (by decide) ?_
    refine cL (rS (As := [.int (-1)]) (rest := []) (wc := []) hx hb hml hown hU hK hP hD [] rfl (by decide) (cX11_far_1 l D k _ ) w1062 w1060 w1061 w72 hdX11_far ⟨rfl, rfl⟩ ⟨Nat.le_of_ble_eq_true rfl, Nat.le_of_ble_eq_true rfl⟩ rfl hl.1 (Nat.le_of_ble_eq_true rfl) dX11_point_38 ⟨Nat.le_of_ble_eq_true rfl, Nat.le_of_ble_eq_true rfl⟩) hP hD hS hA (wr := [(a0, .inr (8, [.int 2, .int 0, .int 1, .int 0, .int 0, .int 0, .ref a1, .ref a2, .int 0, .int 0, .ref a3, .ref a4, .ref a5, .ref a6, .ref a7, .ref a8, .ref a9, .int 0, .int 0, .int 0, .ref a10, .ref a11, .ref a12, .ref a13, .int 0, .int 0, .ref a14, .ref a15, .ref a16, .ref a17, .int 0, .int 0, .ref a18, .ref a19, .ref a20, .ref a21]))]) [] [0] rfl rfl (by decide) (by decide) (fun r6 H locs hB J hS => ?_)
    obtain ⟨rfl, hP1, hD1⟩ := hB
    obtain ⟨hP, hD⟩ := J _ hP1 hD1
    have hP : va_P D cl0 [(a0, .inr (8, [.int 2, .int 0, .int 1, .int 0, .int 0, .int 0, .ref a1, .ref a2, .int 0, .int 0, .ref a3, .ref a4, .ref a5, .ref a6, .ref a7, .ref a8, .ref a9, .int 0, .int 0, .int 0, .ref a10, .ref a11, .ref a12, .ref a13, .int 0, .int 0, .ref a14, .ref a15, .ref a16, .ref a17, .int 0, .int 0, .ref a18, .ref a19, .ref a20, .ref a21]))] H := hP
    have hD : va_D A [(a0, .inr (8, [.int 2, .int 0, .int 1, .int 0, .int 0, .int 0, .ref a1, .ref a2, .int 0, .int 0, .ref a3, .ref a4, .ref a5, .ref a6, .ref a7, .ref a8, .ref a9, .int 0, .int 0, .int 0, .ref a10, .ref a11, .ref a12, .ref a13, .int 0, .int 0, .ref a14, .ref a15, .ref a16, .ref a17, .int 0, .int 0, .ref a18, .ref a19, .ref a20, .ref a21]))] := hD
    exact retL (v := (-4000000000000000001)) hx hb hr hlocks hS (show ((-4000000000000000001) : Int64) = F_point x0 x1 by rfl) dX11_point_41
abbrev BX11_in_4 (D : va_G) (k : Nat → ClassId) (x0 : Int64) (A : Nat → Prop) (r : Int32) (H : Heap) : Prop := (x0 < 0 ∧ 0 = r ∧ va_P D cl0 [] H ∧ va_D A []) ∨ (¬ (x0 < 0) ∧ 2 < x0 ∧ 0 = r ∧ va_P D cl0 [] H ∧ va_D A []) ∨ (¬ (x0 < 0) ∧ ¬ (2 < x0) ∧ 1 = r ∧ va_P D cl0 [] H ∧ va_D A [])
set_option maxHeartbeats 4000000 in
set_option maxRecDepth 100000 in
theorem cX11_in_4 (l : Launch) (D : va_G) (k : Nat → ClassId) (sz : Nat) (x0 : Int64) : Met l yX11_in (Cond.code yX11_in cX11_in 6 (some .boolean) :: uw) ({ frames := 0, cells := 0, slots := 0, locals := 0 }) (pC D k sz [.long x0, .long 0, .long 2] []) (qI (BX11_in_4 D k x0 (va_A [] sz)) (va_A [] sz)) 0 0 (va_A [] sz) := by
  refine begin_ (Qc := fun A => qI (BX11_in_4 D k x0 A) A) (by decide) (Nat.le_of_ble_eq_true rfl) ?_
  intro p e s m below meth c ls A hx hb hr hml hown hlocks hin hU hK hsz hP hD hS hA hl
  have hl : lv_has ls 6 [(0, .long x0), (2, .long 0), (4, .long 2)] := hl
  clear hsz
  refine lv_lload_n hx hb dX11_in_0 rfl (lv_at hl 0 rfl) ?_
  refine lv_lload_n hx hb dX11_in_1 rfl (lv_at hl 1 rfl) ?_
  refine W.lcmp hx hb dX11_in_2 ?_
  refine lv_if_lt (tgt := 17) hx hb dX11_in_3 (by decide) (fun c_1 => ?_) (fun c_1 => ?_)
  · skip
    have c_1 := (lg_cmp_lt _ _).mp c_1
    refine lv_iconst (v := 0) hx hb dX11_in_17 (by decide) ?_
    exact retZ (v := 0) hx hb hr hlocks hS (Or.inl ⟨c_1, rfl, hP, hD⟩) dX11_in_18 (by decide +kernel)
  · skip
    have c_1 := fun h9 => c_1 ((lg_cmp_lt _ _).mpr h9)
    refine lv_lload_n hx hb dX11_in_6 rfl (lv_at hl 0 rfl) ?_
    refine lv_lload hx hb dX11_in_7 (lv_at hl 2 rfl) ?_
    refine W.lcmp hx hb dX11_in_9 ?_
    refine lv_if_gt (tgt := 17) hx hb dX11_in_10 (by decide) (fun c_2 => ?_) (fun c_2 => ?_)
    · skip
      have c_2 := (lg_cmp_gt _ _).mp c_2
      refine lv_iconst (v := 0) hx hb dX11_in_17 (by decide) ?_
      exact retZ (v := 0) hx hb hr hlocks hS (Or.inr (Or.inl ⟨c_1, c_2, rfl, hP, hD⟩)) dX11_in_18 (by decide +kernel)
    · skip
      have c_2 := fun h9 => c_2 ((lg_cmp_gt _ _).mpr h9)
      refine lv_iconst (v := 1) hx hb dX11_in_13 (by decide) ?_
      refine lv_goto (tgt := 18) hx hb dX11_in_14 (by decide) ?_
      exact retZ (v := 1) hx hb hr hlocks hS (Or.inr (Or.inr (⟨c_1, c_2, rfl, hP, hD⟩))) dX11_in_18 (by decide +kernel)
abbrev BX11_round_1 (D : va_G) (k : Nat → ClassId) (a0 a1 a2 a3 a4 a5 a6 a7 a8 a9 a10 a11 a12 a13 a14 a15 a16 a17 a18 a19 a20 a21 : Nat) (x0 : Int32) (A : Nat → Prop) (r : Int32) (H : Heap) : Prop := r = F_round x0
set_option maxHeartbeats 4000000 in
set_option maxRecDepth 100000 in
theorem cX11_round_1 (l : Launch) (D : va_G) (k : Nat → ClassId) (sz : Nat) (a0 a1 a2 a3 a4 a5 a6 a7 a8 a9 a10 a11 a12 a13 a14 a15 a16 a17 a18 a19 a20 a21 : Nat) (x0 : Int32) : Met l yX11_round (Cond.code yX11_round cX11_round 2 (some .int) :: uw) ({ frames := 1, cells := 0, slots := 0, locals := 25 }) (pC D k sz [.ref a0, .int x0] [(a0, .inr (8, [.int 2, .int 0, .int 1, .int 0, .int 0, .int 0, .ref a1, .ref a2, .int 0, .int 0, .ref a3, .ref a4, .ref a5, .ref a6, .ref a7, .ref a8, .ref a9, .int 0, .int 0, .int 0, .ref a10, .ref a11, .ref a12, .ref a13, .int 0, .int 0, .ref a14, .ref a15, .ref a16, .ref a17, .int 0, .int 0, .ref a18, .ref a19, .ref a20, .ref a21]))]) (qI (BX11_round_1 D k a0 a1 a2 a3 a4 a5 a6 a7 a8 a9 a10 a11 a12 a13 a14 a15 a16 a17 a18 a19 a20 a21 x0 (va_A [(a0, .inr (8, [.int 2, .int 0, .int 1, .int 0, .int 0, .int 0, .ref a1, .ref a2, .int 0, .int 0, .ref a3, .ref a4, .ref a5, .ref a6, .ref a7, .ref a8, .ref a9, .int 0, .int 0, .int 0, .ref a10, .ref a11, .ref a12, .ref a13, .int 0, .int 0, .ref a14, .ref a15, .ref a16, .ref a17, .int 0, .int 0, .ref a18, .ref a19, .ref a20, .ref a21]))] sz)) (va_A [(a0, .inr (8, [.int 2, .int 0, .int 1, .int 0, .int 0, .int 0, .ref a1, .ref a2, .int 0, .int 0, .ref a3, .ref a4, .ref a5, .ref a6, .ref a7, .ref a8, .ref a9, .int 0, .int 0, .int 0, .ref a10, .ref a11, .ref a12, .ref a13, .int 0, .int 0, .ref a14, .ref a15, .ref a16, .ref a17, .int 0, .int 0, .ref a18, .ref a19, .ref a20, .ref a21]))] sz)) 0 0 (va_A [(a0, .inr (8, [.int 2, .int 0, .int 1, .int 0, .int 0, .int 0, .ref a1, .ref a2, .int 0, .int 0, .ref a3, .ref a4, .ref a5, .ref a6, .ref a7, .ref a8, .ref a9, .int 0, .int 0, .int 0, .ref a10, .ref a11, .ref a12, .ref a13, .int 0, .int 0, .ref a14, .ref a15, .ref a16, .ref a17, .int 0, .int 0, .ref a18, .ref a19, .ref a20, .ref a21]))] sz) := by
  refine begin_ (Qc := fun A => qI (BX11_round_1 D k a0 a1 a2 a3 a4 a5 a6 a7 a8 a9 a10 a11 a12 a13 a14 a15 a16 a17 a18 a19 a20 a21 x0 A) A) (by decide) (Nat.le_of_ble_eq_true rfl) ?_
  intro p e s m below meth c ls A hx hb hr hml hown hlocks hin hU hK hsz hP hD hS hA hl
  have hl : lv_has ls 2 [(0, .ref a0), (1, .int x0)] := hl
  clear hsz
  refine lv_iload_n hx hb dX11_round_0 rfl (lv_at hl 1 rfl) ?_
  refine lv_i2l (v := x0.toInt64) hx hb dX11_round_1 rfl ?_
  refine lv_lconst (v := 0) hx hb dX11_round_2 (by decide) ?_
  refine lv_ldc2 hx hb hown (hU _ w1156) dX11_round_3 ?_
  refine cI (rS (As := [.long x0.toInt64, .long 0, .long 2]) (rest := []) (wc := []) hx hb hml hown hU hK hP hD [] rfl (by decide) (cX11_in_4 l D k _ (x0.toInt64)) w901 w899 w900 w72 hdX11_in ⟨rfl, rfl⟩ ⟨Nat.le_of_ble_eq_true rfl, Nat.le_of_ble_eq_true rfl⟩ rfl hl.1 (Nat.le_of_ble_eq_true rfl) dX11_round_6 ⟨Nat.le_of_ble_eq_true rfl, Nat.le_of_ble_eq_true rfl⟩) hP hD hS hA (wr := [(a0, .inr (8, [.int 2, .int 0, .int 1, .int 0, .int 0, .int 0, .ref a1, .ref a2, .int 0, .int 0, .ref a3, .ref a4, .ref a5, .ref a6, .ref a7, .ref a8, .ref a9, .int 0, .int 0, .int 0, .ref a10, .ref a11, .ref a12, .ref a13, .int 0, .int 0, .ref a14, .ref a15, .ref a16, .ref a17, .int 0, .int 0, .ref a18, .ref a19, .ref a20, .ref a21]))]) [] [0] rfl rfl (by decide) (by decide) (fun r1 H locs hB J hS => ?_)
  rcases hB with ⟨c_2, rfl, hP1, hD1⟩ | ⟨c_3, c_4, rfl, hP1, hD1⟩ | ⟨c_5, c_6, rfl, hP1, hD1⟩
  · skip
    obtain ⟨hP, hD⟩ := J _ hP1 hD1
    have hP : va_P D cl0 [(a0, .inr (8, [.int 2, .int 0, .int 1, .int 0, .int 0, .int 0, .ref a1, .ref a2, .int 0, .int 0, .ref a3, .ref a4, .ref a5, .ref a6, .ref a7, .ref a8, .ref a9, .int 0, .int 0, .int 0, .ref a10, .ref a11, .ref a12, .ref a13, .int 0, .int 0, .ref a14, .ref a15, .ref a16, .ref a17, .int 0, .int 0, .ref a18, .ref a19, .ref a20, .ref a21]))] H := hP
    have hD : va_D A [(a0, .inr (8, [.int 2, .int 0, .int 1, .int 0, .int 0, .int 0, .ref a1, .ref a2, .int 0, .int 0, .ref a3, .ref a4, .ref a5, .ref a6, .ref a7, .ref a8, .ref a9, .int 0, .int 0, .int 0, .ref a10, .ref a11, .ref a12, .ref a13, .int 0, .int 0, .ref a14, .ref a15, .ref a16, .ref a17, .int 0, .int 0, .ref a18, .ref a19, .ref a20, .ref a21]))] := hD
    refine lv_if_ne (tgt := 14) hx hb dX11_round_9 (by decide) (fun cc => absurd (by decide +kernel) cc) (fun _ => ?_)
    refine lv_iconst (v := (-1)) hx hb dX11_round_12 (by decide) ?_
    exact retI (v := (-1)) hx hb hr hlocks hS (show ((-1) : Int32) = F_round x0 by first | decide +kernel | (have f0 := dv_lt (x := x0.toInt) (y := 0) c_2 (wd x0) (by decide +kernel); unfold F_round; (repeat (first | rw [if_pos (by omega)] | rw [if_neg (by omega)])))) dX11_round_13
  · skip
    obtain ⟨hP, hD⟩ := J _ hP1 hD1
    have hP : va_P D cl0 [(a0, .inr (8, [.int 2, .int 0, .int 1, .int 0, .int 0, .int 0, .ref a1, .ref a2, .int 0, .int 0, .ref a3, .ref a4, .ref a5, .ref a6, .ref a7, .ref a8, .ref a9, .int 0, .int 0, .int 0, .ref a10, .ref a11, .ref a12, .ref a13, .int 0, .int 0, .ref a14, .ref a15, .ref a16, .ref a17, .int 0, .int 0, .ref a18, .ref a19, .ref a20, .ref a21]))] H := hP
    have hD : va_D A [(a0, .inr (8, [.int 2, .int 0, .int 1, .int 0, .int 0, .int 0, .ref a1, .ref a2, .int 0, .int 0, .ref a3, .ref a4, .ref a5, .ref a6, .ref a7, .ref a8, .ref a9, .int 0, .int 0, .int 0, .ref a10, .ref a11, .ref a12, .ref a13, .int 0, .int 0, .ref a14, .ref a15, .ref a16, .ref a17, .int 0, .int 0, .ref a18, .ref a19, .ref a20, .ref a21]))] := hD
    refine lv_if_ne (tgt := 14) hx hb dX11_round_9 (by decide) (fun cc => absurd (by decide +kernel) cc) (fun _ => ?_)
    refine lv_iconst (v := (-1)) hx hb dX11_round_12 (by decide) ?_
    exact retI (v := (-1)) hx hb hr hlocks hS (show ((-1) : Int32) = F_round x0 by first | decide +kernel | (have f0 := dv_nlt (x := x0.toInt) (y := 0) c_3 (wd x0) (by decide +kernel); have f1 := dv_lt (x := 2) (y := x0.toInt) c_4 (by decide +kernel) (wd x0); unfold F_round; (repeat (first | rw [if_pos (by omega)] | rw [if_neg (by omega)])))) dX11_round_13
  · skip
    obtain ⟨hP, hD⟩ := J _ hP1 hD1
    have hP : va_P D cl0 [(a0, .inr (8, [.int 2, .int 0, .int 1, .int 0, .int 0, .int 0, .ref a1, .ref a2, .int 0, .int 0, .ref a3, .ref a4, .ref a5, .ref a6, .ref a7, .ref a8, .ref a9, .int 0, .int 0, .int 0, .ref a10, .ref a11, .ref a12, .ref a13, .int 0, .int 0, .ref a14, .ref a15, .ref a16, .ref a17, .int 0, .int 0, .ref a18, .ref a19, .ref a20, .ref a21]))] H := hP
    have hD : va_D A [(a0, .inr (8, [.int 2, .int 0, .int 1, .int 0, .int 0, .int 0, .ref a1, .ref a2, .int 0, .int 0, .ref a3, .ref a4, .ref a5, .ref a6, .ref a7, .ref a8, .ref a9, .int 0, .int 0, .int 0, .ref a10, .ref a11, .ref a12, .ref a13, .int 0, .int 0, .ref a14, .ref a15, .ref a16, .ref a17, .int 0, .int 0, .ref a18, .ref a19, .ref a20, .ref a21]))] := hD
    refine lv_if_ne (tgt := 14) hx hb dX11_round_9 (by decide) (fun _ => ?_) (fun cc => absurd cc (by decide +kernel))
    refine lv_aload_n hx hb dX11_round_14 rfl (lv_at hl 0 rfl) ?_
    refine va_get (D := D) (ci := 8) (v := .int 0) (C := RX11) (T := TX11) (N := 36) hx hb hU iX11 hown hK.1 hP 0 rfl rfl 30 (by decide) (hU _ w815) (fun _ h9 => h9) rfl dX11_round_15 ?_
    refine lv_if_ne (tgt := 24) hx hb dX11_round_18 (by decide) (fun cc => absurd (by decide +kernel) cc) (fun _ => ?_)
    refine lv_bipush (v := (-3)) hx hb dX11_round_21 (by decide) ?_
    exact retI (v := (-3)) hx hb hr hlocks hS (show ((-3) : Int32) = F_round x0 by first | decide +kernel | (have f0 := dv_nlt (x := x0.toInt) (y := 0) c_5 (wd x0) (by decide +kernel); have f1 := dv_nlt (x := 2) (y := x0.toInt) c_6 (by decide +kernel) (wd x0); unfold F_round; (repeat (first | rw [if_pos (by omega)] | rw [if_neg (by omega)])))) dX11_round_23
abbrev BX11_seed_1 (D : va_G) (k : Nat → ClassId) (a0 a1 a2 a3 a4 a5 a6 a7 a8 a9 a10 a11 a12 a13 a14 a15 a16 a17 a18 a19 a20 a21 : Nat) (x0 : Int32) (A : Nat → Prop) (r : Int32) (H : Heap) : Prop := r = F_seed x0
set_option maxHeartbeats 4000000 in
set_option maxRecDepth 100000 in
theorem cX11_seed_1 (l : Launch) (D : va_G) (k : Nat → ClassId) (sz : Nat) (a0 a1 a2 a3 a4 a5 a6 a7 a8 a9 a10 a11 a12 a13 a14 a15 a16 a17 a18 a19 a20 a21 : Nat) (x0 : Int32) : Met l yX11_seed (Cond.code yX11_seed cX11_seed 3 (some .int) :: uw) ({ frames := 0, cells := 0, slots := 0, locals := 0 }) (pC D k sz [.ref a0, .int x0] [(a0, .inr (8, [.int 2, .int 0, .int 1, .int 0, .int 0, .int 0, .ref a1, .ref a2, .int 0, .int 0, .ref a3, .ref a4, .ref a5, .ref a6, .ref a7, .ref a8, .ref a9, .int 0, .int 0, .int 0, .ref a10, .ref a11, .ref a12, .ref a13, .int 0, .int 0, .ref a14, .ref a15, .ref a16, .ref a17, .int 0, .int 0, .ref a18, .ref a19, .ref a20, .ref a21]))]) (qI (BX11_seed_1 D k a0 a1 a2 a3 a4 a5 a6 a7 a8 a9 a10 a11 a12 a13 a14 a15 a16 a17 a18 a19 a20 a21 x0 (va_A [(a0, .inr (8, [.int 2, .int 0, .int 1, .int 0, .int 0, .int 0, .ref a1, .ref a2, .int 0, .int 0, .ref a3, .ref a4, .ref a5, .ref a6, .ref a7, .ref a8, .ref a9, .int 0, .int 0, .int 0, .ref a10, .ref a11, .ref a12, .ref a13, .int 0, .int 0, .ref a14, .ref a15, .ref a16, .ref a17, .int 0, .int 0, .ref a18, .ref a19, .ref a20, .ref a21]))] sz)) (va_A [(a0, .inr (8, [.int 2, .int 0, .int 1, .int 0, .int 0, .int 0, .ref a1, .ref a2, .int 0, .int 0, .ref a3, .ref a4, .ref a5, .ref a6, .ref a7, .ref a8, .ref a9, .int 0, .int 0, .int 0, .ref a10, .ref a11, .ref a12, .ref a13, .int 0, .int 0, .ref a14, .ref a15, .ref a16, .ref a17, .int 0, .int 0, .ref a18, .ref a19, .ref a20, .ref a21]))] sz)) 0 0 (va_A [(a0, .inr (8, [.int 2, .int 0, .int 1, .int 0, .int 0, .int 0, .ref a1, .ref a2, .int 0, .int 0, .ref a3, .ref a4, .ref a5, .ref a6, .ref a7, .ref a8, .ref a9, .int 0, .int 0, .int 0, .ref a10, .ref a11, .ref a12, .ref a13, .int 0, .int 0, .ref a14, .ref a15, .ref a16, .ref a17, .int 0, .int 0, .ref a18, .ref a19, .ref a20, .ref a21]))] sz) := by
  refine begin_ (Qc := fun A => qI (BX11_seed_1 D k a0 a1 a2 a3 a4 a5 a6 a7 a8 a9 a10 a11 a12 a13 a14 a15 a16 a17 a18 a19 a20 a21 x0 A) A) (by decide) (Nat.le_of_ble_eq_true rfl) ?_
  intro p e s m below meth c ls A hx hb hr hml hown hlocks hin hU hK hsz hP hD hS hA hl
  have hl : lv_has ls 3 [(0, .ref a0), (1, .int x0)] := hl
  clear hsz
  refine lv_aload_n hx hb dX11_seed_0 rfl (lv_at hl 0 rfl) ?_
  refine va_get (D := D) (ci := 8) (v := .int 1) (C := RX11) (T := TX11) (N := 36) hx hb hU iX11 hown hK.1 hP 0 rfl rfl 2 (by decide) (hU _ w787) (fun _ h9 => h9) rfl dX11_seed_1 ?_
  refine lv_istore_n (lv' := [(2, .int 1), (0, .ref a0), (1, .int x0)]) hx hb dX11_seed_4 rfl hl (by decide) rfl (fun ls hl => ?_)
  refine lv_aload_n hx hb dX11_seed_5 rfl (lv_at hl 1 rfl) ?_
  refine lv_iload_n hx hb dX11_seed_6 rfl (lv_at hl 2 rfl) ?_
  refine va_put (D := D) (ci := 8) (v := .int x0) (ty := .int) (C := RX11) (T := TX11) (N := 36) hx hb hU iX11 tyX11 tyX11_ok nmX11 hown hK.1 hP hD hS 0 rfl rfl 2 (by decide) (hU _ w787) (fun _ h9 => h9) rfl (by decide +kernel) rfl rfl (Nat.le_of_ble_eq_true rfl) dX11_seed_7 (fun H locs hP hD hS => ?_)
  have hP : va_P D cl0 [(a0, .inr (8, [.int 2, .int 0, .int x0, .int 0, .int 0, .int 0, .ref a1, .ref a2, .int 0, .int 0, .ref a3, .ref a4, .ref a5, .ref a6, .ref a7, .ref a8, .ref a9, .int 0, .int 0, .int 0, .ref a10, .ref a11, .ref a12, .ref a13, .int 0, .int 0, .ref a14, .ref a15, .ref a16, .ref a17, .int 0, .int 0, .ref a18, .ref a19, .ref a20, .ref a21]))] H := hP
  have hD : va_D A [(a0, .inr (8, [.int 2, .int 0, .int x0, .int 0, .int 0, .int 0, .ref a1, .ref a2, .int 0, .int 0, .ref a3, .ref a4, .ref a5, .ref a6, .ref a7, .ref a8, .ref a9, .int 0, .int 0, .int 0, .ref a10, .ref a11, .ref a12, .ref a13, .int 0, .int 0, .ref a14, .ref a15, .ref a16, .ref a17, .int 0, .int 0, .ref a18, .ref a19, .ref a20, .ref a21]))] := hD
  refine lv_iload_n hx hb dX11_seed_10 rfl (lv_at hl 0 rfl) ?_
  exact retI (v := 1) hx hb hr hlocks hS (show (1 : Int32) = F_seed x0 by rfl) dX11_seed_11
abbrev BX11_keep_1 (D : va_G) (k : Nat → ClassId) (a0 a1 a2 a3 a4 a5 a6 a7 a8 a9 a10 a11 a12 a13 a14 a15 a16 a17 a18 a19 a20 a21 : Nat) (A : Nat → Prop) (r : Int32) (H : Heap) : Prop := r = F_keep
set_option maxHeartbeats 4000000 in
set_option maxRecDepth 100000 in
theorem cX11_keep_1 (l : Launch) (D : va_G) (k : Nat → ClassId) (sz : Nat) (a0 a1 a2 a3 a4 a5 a6 a7 a8 a9 a10 a11 a12 a13 a14 a15 a16 a17 a18 a19 a20 a21 : Nat) : Met l yX11_keep (Cond.code yX11_keep cX11_keep 2 (some .int) :: uw) ({ frames := 0, cells := 0, slots := 0, locals := 0 }) (pC D k sz [.ref a0] [(a0, .inr (8, [.int 2, .int 0, .int 1, .int 0, .int 0, .int 0, .ref a1, .ref a2, .int 0, .int 0, .ref a3, .ref a4, .ref a5, .ref a6, .ref a7, .ref a8, .ref a9, .int 0, .int 0, .int 0, .ref a10, .ref a11, .ref a12, .ref a13, .int 0, .int 0, .ref a14, .ref a15, .ref a16, .ref a17, .int 0, .int 0, .ref a18, .ref a19, .ref a20, .ref a21])), (a1, .inl (k 0, 36, .inl (tI [] 0))), (a2, .inl (k 0, 36, .inl (tI [] 0)))]) (qI (BX11_keep_1 D k a0 a1 a2 a3 a4 a5 a6 a7 a8 a9 a10 a11 a12 a13 a14 a15 a16 a17 a18 a19 a20 a21 (va_A [(a0, .inr (8, [.int 2, .int 0, .int 1, .int 0, .int 0, .int 0, .ref a1, .ref a2, .int 0, .int 0, .ref a3, .ref a4, .ref a5, .ref a6, .ref a7, .ref a8, .ref a9, .int 0, .int 0, .int 0, .ref a10, .ref a11, .ref a12, .ref a13, .int 0, .int 0, .ref a14, .ref a15, .ref a16, .ref a17, .int 0, .int 0, .ref a18, .ref a19, .ref a20, .ref a21])), (a1, .inl (k 0, 36, .inl (tI [] 0))), (a2, .inl (k 0, 36, .inl (tI [] 0)))] sz)) (va_A [(a0, .inr (8, [.int 2, .int 0, .int 1, .int 0, .int 0, .int 0, .ref a1, .ref a2, .int 0, .int 0, .ref a3, .ref a4, .ref a5, .ref a6, .ref a7, .ref a8, .ref a9, .int 0, .int 0, .int 0, .ref a10, .ref a11, .ref a12, .ref a13, .int 0, .int 0, .ref a14, .ref a15, .ref a16, .ref a17, .int 0, .int 0, .ref a18, .ref a19, .ref a20, .ref a21])), (a1, .inl (k 0, 36, .inl (tI [] 0))), (a2, .inl (k 0, 36, .inl (tI [] 0)))] sz)) 0 0 (va_A [(a0, .inr (8, [.int 2, .int 0, .int 1, .int 0, .int 0, .int 0, .ref a1, .ref a2, .int 0, .int 0, .ref a3, .ref a4, .ref a5, .ref a6, .ref a7, .ref a8, .ref a9, .int 0, .int 0, .int 0, .ref a10, .ref a11, .ref a12, .ref a13, .int 0, .int 0, .ref a14, .ref a15, .ref a16, .ref a17, .int 0, .int 0, .ref a18, .ref a19, .ref a20, .ref a21])), (a1, .inl (k 0, 36, .inl (tI [] 0))), (a2, .inl (k 0, 36, .inl (tI [] 0)))] sz) := by
  refine begin_ (Qc := fun A => qI (BX11_keep_1 D k a0 a1 a2 a3 a4 a5 a6 a7 a8 a9 a10 a11 a12 a13 a14 a15 a16 a17 a18 a19 a20 a21 A) A) (by decide) (Nat.le_of_ble_eq_true rfl) ?_
  intro p e s m below meth c ls A hx hb hr hml hown hlocks hin hU hK hsz hP hD hS hA hl
  have hl : lv_has ls 2 [(0, .ref a0)] := hl
  clear hsz
  refine lv_iconst (v := 0) hx hb dX11_keep_0 (by decide) ?_
  refine lv_istore_n (lv' := [(1, .int 0), (0, .ref a0)]) hx hb dX11_keep_1 rfl hl (by decide) rfl (fun ls hl => ?_)
  refine lv_iload_n hx hb dX11_keep_2 rfl (lv_at hl 0 rfl) ?_
  refine lv_bipush (v := 36) hx hb dX11_keep_3 (by decide) ?_
  refine lv_icmp_ge (tgt := 26) hx hb dX11_keep_5 (by decide) (fun cc => absurd cc (by decide +kernel)) (fun _ => ?_)
  refine lv_aload_n hx hb dX11_keep_8 rfl (lv_at hl 1 rfl) ?_
  refine va_get (D := D) (ci := 8) (v := .ref a2) (C := RX11) (T := TX11) (N := 36) hx hb hU iX11 hown hK.1 hP 0 rfl rfl 7 (by decide) (hU _ w792) (fun _ h9 => h9) rfl dX11_keep_9 ?_
  refine lv_iload_n hx hb dX11_keep_12 rfl (lv_at hl 0 rfl) ?_
  refine lv_aload_n hx hb dX11_keep_13 rfl (lv_at hl 1 rfl) ?_
  refine va_get (D := D) (ci := 8) (v := .ref a1) (C := RX11) (T := TX11) (N := 36) hx hb hU iX11 hown hK.1 hP 0 rfl rfl 6 (by decide) (hU _ w791) (fun _ h9 => h9) rfl dX11_keep_14 ?_
  refine lv_iload_n hx hb dX11_keep_17 rfl (lv_at hl 0 rfl) ?_
  refine ld_i (j := 0) (v := 0) hx hb hK hP 1 rfl (by decide +kernel) rfl dX11_keep_18 ?_
  refine st_i (j := 0) (g := tI [0] 0) hx hb hK hP hD hS 2 rfl (by decide +kernel) upd_tI dX11_keep_19 (fun H locs hP hD hS => ?_)
  have hP : va_P D cl0 [(a0, .inr (8, [.int 2, .int 0, .int 1, .int 0, .int 0, .int 0, .ref a1, .ref a2, .int 0, .int 0, .ref a3, .ref a4, .ref a5, .ref a6, .ref a7, .ref a8, .ref a9, .int 0, .int 0, .int 0, .ref a10, .ref a11, .ref a12, .ref a13, .int 0, .int 0, .ref a14, .ref a15, .ref a16, .ref a17, .int 0, .int 0, .ref a18, .ref a19, .ref a20, .ref a21])), (a1, .inl (k 0, 36, .inl (tI [] 0))), (a2, .inl (k 0, 36, .inl (tI [0] 0)))] H := hP
  have hD : va_D A [(a0, .inr (8, [.int 2, .int 0, .int 1, .int 0, .int 0, .int 0, .ref a1, .ref a2, .int 0, .int 0, .ref a3, .ref a4, .ref a5, .ref a6, .ref a7, .ref a8, .ref a9, .int 0, .int 0, .int 0, .ref a10, .ref a11, .ref a12, .ref a13, .int 0, .int 0, .ref a14, .ref a15, .ref a16, .ref a17, .int 0, .int 0, .ref a18, .ref a19, .ref a20, .ref a21])), (a1, .inl (k 0, 36, .inl (tI [] 0))), (a2, .inl (k 0, 36, .inl (tI [0] 0)))] := hD
  refine lv_iinc (v := 1) (lv' := [(1, .int 1), (0, .ref a0)]) hx hb dX11_keep_20 hl (k := 0) rfl (by decide) (by decide) rfl (fun ls hl => ?_)
  refine lv_goto (tgt := 2) hx hb dX11_keep_23 (by decide) ?_
  refine lv_iload_n hx hb dX11_keep_2 rfl (lv_at hl 0 rfl) ?_
  refine lv_bipush (v := 36) hx hb dX11_keep_3 (by decide) ?_
  refine lv_icmp_ge (tgt := 26) hx hb dX11_keep_5 (by decide) (fun cc => absurd cc (by decide +kernel)) (fun _ => ?_)
  refine lv_aload_n hx hb dX11_keep_8 rfl (lv_at hl 1 rfl) ?_
  refine va_get (D := D) (ci := 8) (v := .ref a2) (C := RX11) (T := TX11) (N := 36) hx hb hU iX11 hown hK.1 hP 0 rfl rfl 7 (by decide) (hU _ w792) (fun _ h9 => h9) rfl dX11_keep_9 ?_
  refine lv_iload_n hx hb dX11_keep_12 rfl (lv_at hl 0 rfl) ?_
  refine lv_aload_n hx hb dX11_keep_13 rfl (lv_at hl 1 rfl) ?_
  refine va_get (D := D) (ci := 8) (v := .ref a1) (C := RX11) (T := TX11) (N := 36) hx hb hU iX11 hown hK.1 hP 0 rfl rfl 6 (by decide) (hU _ w791) (fun _ h9 => h9) rfl dX11_keep_14 ?_
  refine lv_iload_n hx hb dX11_keep_17 rfl (lv_at hl 0 rfl) ?_
  refine ld_i (j := 1) (v := 0) hx hb hK hP 1 rfl (by decide +kernel) rfl dX11_keep_18 ?_
  refine st_i (j := 1) (g := tI [0, 0] 0) hx hb hK hP hD hS 2 rfl (by decide +kernel) upd_tI dX11_keep_19 (fun H locs hP hD hS => ?_)
  have hP : va_P D cl0 [(a0, .inr (8, [.int 2, .int 0, .int 1, .int 0, .int 0, .int 0, .ref a1, .ref a2, .int 0, .int 0, .ref a3, .ref a4, .ref a5, .ref a6, .ref a7, .ref a8, .ref a9, .int 0, .int 0, .int 0, .ref a10, .ref a11, .ref a12, .ref a13, .int 0, .int 0, .ref a14, .ref a15, .ref a16, .ref a17, .int 0, .int 0, .ref a18, .ref a19, .ref a20, .ref a21])), (a1, .inl (k 0, 36, .inl (tI [] 0))), (a2, .inl (k 0, 36, .inl (tI [0, 0] 0)))] H := hP
  have hD : va_D A [(a0, .inr (8, [.int 2, .int 0, .int 1, .int 0, .int 0, .int 0, .ref a1, .ref a2, .int 0, .int 0, .ref a3, .ref a4, .ref a5, .ref a6, .ref a7, .ref a8, .ref a9, .int 0, .int 0, .int 0, .ref a10, .ref a11, .ref a12, .ref a13, .int 0, .int 0, .ref a14, .ref a15, .ref a16, .ref a17, .int 0, .int 0, .ref a18, .ref a19, .ref a20, .ref a21])), (a1, .inl (k 0, 36, .inl (tI [] 0))), (a2, .inl (k 0, 36, .inl (tI [0, 0] 0)))] := hD
  refine lv_iinc (v := 2) (lv' := [(1, .int 2), (0, .ref a0)]) hx hb dX11_keep_20 hl (k := 0) rfl (by decide) (by decide) rfl (fun ls hl => ?_)
  refine lv_goto (tgt := 2) hx hb dX11_keep_23 (by decide) ?_
  refine lv_iload_n hx hb dX11_keep_2 rfl (lv_at hl 0 rfl) ?_
  refine lv_bipush (v := 36) hx hb dX11_keep_3 (by decide) ?_
  refine lv_icmp_ge (tgt := 26) hx hb dX11_keep_5 (by decide) (fun cc => absurd cc (by decide +kernel)) (fun _ => ?_)
  refine lv_aload_n hx hb dX11_keep_8 rfl (lv_at hl 1 rfl) ?_
  refine va_get (D := D) (ci := 8) (v := .ref a2) (C := RX11) (T := TX11) (N := 36) hx hb hU iX11 hown hK.1 hP 0 rfl rfl 7 (by decide) (hU _ w792) (fun _ h9 => h9) rfl dX11_keep_9 ?_
  refine lv_iload_n hx hb dX11_keep_12 rfl (lv_at hl 0 rfl) ?_
  refine lv_aload_n hx hb dX11_keep_13 rfl (lv_at hl 1 rfl) ?_
  refine va_get (D := D) (ci := 8) (v := .ref a1) (C := RX11) (T := TX11) (N := 36) hx hb hU iX11 hown hK.1 hP 0 rfl rfl 6 (by decide) (hU _ w791) (fun _ h9 => h9) rfl dX11_keep_14 ?_
  refine lv_iload_n hx hb dX11_keep_17 rfl (lv_at hl 0 rfl) ?_
  refine ld_i (j := 2) (v := 0) hx hb hK hP 1 rfl (by decide +kernel) rfl dX11_keep_18 ?_
  refine st_i (j := 2) (g := tI [0, 0, 0] 0) hx hb hK hP hD hS 2 rfl (by decide +kernel) upd_tI dX11_keep_19 (fun H locs hP hD hS => ?_)
  have hP : va_P D cl0 [(a0, .inr (8, [.int 2, .int 0, .int 1, .int 0, .int 0, .int 0, .ref a1, .ref a2, .int 0, .int 0, .ref a3, .ref a4, .ref a5, .ref a6, .ref a7, .ref a8, .ref a9, .int 0, .int 0, .int 0, .ref a10, .ref a11, .ref a12, .ref a13, .int 0, .int 0, .ref a14, .ref a15, .ref a16, .ref a17, .int 0, .int 0, .ref a18, .ref a19, .ref a20, .ref a21])), (a1, .inl (k 0, 36, .inl (tI [] 0))), (a2, .inl (k 0, 36, .inl (tI [0, 0, 0] 0)))] H := hP
  have hD : va_D A [(a0, .inr (8, [.int 2, .int 0, .int 1, .int 0, .int 0, .int 0, .ref a1, .ref a2, .int 0, .int 0, .ref a3, .ref a4, .ref a5, .ref a6, .ref a7, .ref a8, .ref a9, .int 0, .int 0, .int 0, .ref a10, .ref a11, .ref a12, .ref a13, .int 0, .int 0, .ref a14, .ref a15, .ref a16, .ref a17, .int 0, .int 0, .ref a18, .ref a19, .ref a20, .ref a21])), (a1, .inl (k 0, 36, .inl (tI [] 0))), (a2, .inl (k 0, 36, .inl (tI [0, 0, 0] 0)))] := hD
  refine lv_iinc (v := 3) (lv' := [(1, .int 3), (0, .ref a0)]) hx hb dX11_keep_20 hl (k := 0) rfl (by decide) (by decide) rfl (fun ls hl => ?_)
  refine lv_goto (tgt := 2) hx hb dX11_keep_23 (by decide) ?_
  refine lv_iload_n hx hb dX11_keep_2 rfl (lv_at hl 0 rfl) ?_
  refine lv_bipush (v := 36) hx hb dX11_keep_3 (by decide) ?_
  refine lv_icmp_ge (tgt := 26) hx hb dX11_keep_5 (by decide) (fun cc => absurd cc (by decide +kernel)) (fun _ => ?_)
  refine lv_aload_n hx hb dX11_keep_8 rfl (lv_at hl 1 rfl) ?_
  refine va_get (D := D) (ci := 8) (v := .ref a2) (C := RX11) (T := TX11) (N := 36) hx hb hU iX11 hown hK.1 hP 0 rfl rfl 7 (by decide) (hU _ w792) (fun _ h9 => h9) rfl dX11_keep_9 ?_
  refine lv_iload_n hx hb dX11_keep_12 rfl (lv_at hl 0 rfl) ?_
  refine lv_aload_n hx hb dX11_keep_13 rfl (lv_at hl 1 rfl) ?_
  refine va_get (D := D) (ci := 8) (v := .ref a1) (C := RX11) (T := TX11) (N := 36) hx hb hU iX11 hown hK.1 hP 0 rfl rfl 6 (by decide) (hU _ w791) (fun _ h9 => h9) rfl dX11_keep_14 ?_
  refine lv_iload_n hx hb dX11_keep_17 rfl (lv_at hl 0 rfl) ?_
  refine ld_i (j := 3) (v := 0) hx hb hK hP 1 rfl (by decide +kernel) rfl dX11_keep_18 ?_
  refine st_i (j := 3) (g := tI [0, 0, 0, 0] 0) hx hb hK hP hD hS 2 rfl (by decide +kernel) upd_tI dX11_keep_19 (fun H locs hP hD hS => ?_)
  have hP : va_P D cl0 [(a0, .inr (8, [.int 2, .int 0, .int 1, .int 0, .int 0, .int 0, .ref a1, .ref a2, .int 0, .int 0, .ref a3, .ref a4, .ref a5, .ref a6, .ref a7, .ref a8, .ref a9, .int 0, .int 0, .int 0, .ref a10, .ref a11, .ref a12, .ref a13, .int 0, .int 0, .ref a14, .ref a15, .ref a16, .ref a17, .int 0, .int 0, .ref a18, .ref a19, .ref a20, .ref a21])), (a1, .inl (k 0, 36, .inl (tI [] 0))), (a2, .inl (k 0, 36, .inl (tI [0, 0, 0, 0] 0)))] H := hP
  have hD : va_D A [(a0, .inr (8, [.int 2, .int 0, .int 1, .int 0, .int 0, .int 0, .ref a1, .ref a2, .int 0, .int 0, .ref a3, .ref a4, .ref a5, .ref a6, .ref a7, .ref a8, .ref a9, .int 0, .int 0, .int 0, .ref a10, .ref a11, .ref a12, .ref a13, .int 0, .int 0, .ref a14, .ref a15, .ref a16, .ref a17, .int 0, .int 0, .ref a18, .ref a19, .ref a20, .ref a21])), (a1, .inl (k 0, 36, .inl (tI [] 0))), (a2, .inl (k 0, 36, .inl (tI [0, 0, 0, 0] 0)))] := hD
  refine lv_iinc (v := 4) (lv' := [(1, .int 4), (0, .ref a0)]) hx hb dX11_keep_20 hl (k := 0) rfl (by decide) (by decide) rfl (fun ls hl => ?_)
  refine lv_goto (tgt := 2) hx hb dX11_keep_23 (by decide) ?_
  refine lv_iload_n hx hb dX11_keep_2 rfl (lv_at hl 0 rfl) ?_
  refine lv_bipush (v := 36) hx hb dX11_keep_3 (by decide) ?_
  refine lv_icmp_ge (tgt := 26) hx hb dX11_keep_5 (by decide) (fun cc => absurd cc (by decide +kernel)) (fun _ => ?_)
  refine lv_aload_n hx hb dX11_keep_8 rfl (lv_at hl 1 rfl) ?_
  refine va_get (D := D) (ci := 8) (v := .ref a2) (C := RX11) (T := TX11) (N := 36) hx hb hU iX11 hown hK.1 hP 0 rfl rfl 7 (by decide) (hU _ w792) (fun _ h9 => h9) rfl dX11_keep_9 ?_
  refine lv_iload_n hx hb dX11_keep_12 rfl (lv_at hl 0 rfl) ?_
  refine lv_aload_n hx hb dX11_keep_13 rfl (lv_at hl 1 rfl) ?_
  refine va_get (D := D) (ci := 8) (v := .ref a1) (C := RX11) (T := TX11) (N := 36) hx hb hU iX11 hown hK.1 hP 0 rfl rfl 6 (by decide) (hU _ w791) (fun _ h9 => h9) rfl dX11_keep_14 ?_
  refine lv_iload_n hx hb dX11_keep_17 rfl (lv_at hl 0 rfl) ?_
  refine ld_i (j := 4) (v := 0) hx hb hK hP 1 rfl (by decide +kernel) rfl dX11_keep_18 ?_
  refine st_i (j := 4) (g := tI [0, 0, 0, 0, 0] 0) hx hb hK hP hD hS 2 rfl (by decide +kernel) upd_tI dX11_keep_19 (fun H locs hP hD hS => ?_)
  have hP : va_P D cl0 [(a0, .inr (8, [.int 2, .int 0, .int 1, .int 0, .int 0, .int 0, .ref a1, .ref a2, .int 0, .int 0, .ref a3, .ref a4, .ref a5, .ref a6, .ref a7, .ref a8, .ref a9, .int 0, .int 0, .int 0, .ref a10, .ref a11, .ref a12, .ref a13, .int 0, .int 0, .ref a14, .ref a15, .ref a16, .ref a17, .int 0, .int 0, .ref a18, .ref a19, .ref a20, .ref a21])), (a1, .inl (k 0, 36, .inl (tI [] 0))), (a2, .inl (k 0, 36, .inl (tI [0, 0, 0, 0, 0] 0)))] H := hP
  have hD : va_D A [(a0, .inr (8, [.int 2, .int 0, .int 1, .int 0, .int 0, .int 0, .ref a1, .ref a2, .int 0, .int 0, .ref a3, .ref a4, .ref a5, .ref a6, .ref a7, .ref a8, .ref a9, .int 0, .int 0, .int 0, .ref a10, .ref a11, .ref a12, .ref a13, .int 0, .int 0, .ref a14, .ref a15, .ref a16, .ref a17, .int 0, .int 0, .ref a18, .ref a19, .ref a20, .ref a21])), (a1, .inl (k 0, 36, .inl (tI [] 0))), (a2, .inl (k 0, 36, .inl (tI [0, 0, 0, 0, 0] 0)))] := hD
  refine lv_iinc (v := 5) (lv' := [(1, .int 5), (0, .ref a0)]) hx hb dX11_keep_20 hl (k := 0) rfl (by decide) (by decide) rfl (fun ls hl => ?_)
  refine lv_goto (tgt := 2) hx hb dX11_keep_23 (by decide) ?_
  refine lv_iload_n hx hb dX11_keep_2 rfl (lv_at hl 0 rfl) ?_
  refine lv_bipush (v := 36) hx hb dX11_keep_3 (by decide) ?_
  refine lv_icmp_ge (tgt := 26) hx hb dX11_keep_5 (by decide) (fun cc => absurd cc (by decide +kernel)) (fun _ => ?_)
  refine lv_aload_n hx hb dX11_keep_8 rfl (lv_at hl 1 rfl) ?_
  refine va_get (D := D) (ci := 8) (v := .ref a2) (C := RX11) (T := TX11) (N := 36) hx hb hU iX11 hown hK.1 hP 0 rfl rfl 7 (by decide) (hU _ w792) (fun _ h9 => h9) rfl dX11_keep_9 ?_
  refine lv_iload_n hx hb dX11_keep_12 rfl (lv_at hl 0 rfl) ?_
  refine lv_aload_n hx hb dX11_keep_13 rfl (lv_at hl 1 rfl) ?_
  refine va_get (D := D) (ci := 8) (v := .ref a1) (C := RX11) (T := TX11) (N := 36) hx hb hU iX11 hown hK.1 hP 0 rfl rfl 6 (by decide) (hU _ w791) (fun _ h9 => h9) rfl dX11_keep_14 ?_
  refine lv_iload_n hx hb dX11_keep_17 rfl (lv_at hl 0 rfl) ?_
  refine ld_i (j := 5) (v := 0) hx hb hK hP 1 rfl (by decide +kernel) rfl dX11_keep_18 ?_
  refine st_i (j := 5) (g := tI [0, 0, 0, 0, 0, 0] 0) hx hb hK hP hD hS 2 rfl (by decide +kernel) upd_tI dX11_keep_19 (fun H locs hP hD hS => ?_)
  have hP : va_P D cl0 [(a0, .inr (8, [.int 2, .int 0, .int 1, .int 0, .int 0, .int 0, .ref a1, .ref a2, .int 0, .int 0, .ref a3, .ref a4, .ref a5, .ref a6, .ref a7, .ref a8, .ref a9, .int 0, .int 0, .int 0, .ref a10, .ref a11, .ref a12, .ref a13, .int 0, .int 0, .ref a14, .ref a15, .ref a16, .ref a17, .int 0, .int 0, .ref a18, .ref a19, .ref a20, .ref a21])), (a1, .inl (k 0, 36, .inl (tI [] 0))), (a2, .inl (k 0, 36, .inl (tI [0, 0, 0, 0, 0, 0] 0)))] H := hP
  have hD : va_D A [(a0, .inr (8, [.int 2, .int 0, .int 1, .int 0, .int 0, .int 0, .ref a1, .ref a2, .int 0, .int 0, .ref a3, .ref a4, .ref a5, .ref a6, .ref a7, .ref a8, .ref a9, .int 0, .int 0, .int 0, .ref a10, .ref a11, .ref a12, .ref a13, .int 0, .int 0, .ref a14, .ref a15, .ref a16, .ref a17, .int 0, .int 0, .ref a18, .ref a19, .ref a20, .ref a21])), (a1, .inl (k 0, 36, .inl (tI [] 0))), (a2, .inl (k 0, 36, .inl (tI [0, 0, 0, 0, 0, 0] 0)))] := hD
  refine lv_iinc (v := 6) (lv' := [(1, .int 6), (0, .ref a0)]) hx hb dX11_keep_20 hl (k := 0) rfl (by decide) (by decide) rfl (fun ls hl => ?_)
  refine lv_goto (tgt := 2) hx hb dX11_keep_23 (by decide) ?_
  refine lv_iload_n hx hb dX11_keep_2 rfl (lv_at hl 0 rfl) ?_
  refine lv_bipush (v := 36) hx hb dX11_keep_3 (by decide) ?_
  refine lv_icmp_ge (tgt := 26) hx hb dX11_keep_5 (by decide) (fun cc => absurd cc (by decide +kernel)) (fun _ => ?_)
  refine lv_aload_n hx hb dX11_keep_8 rfl (lv_at hl 1 rfl) ?_
  refine va_get (D := D) (ci := 8) (v := .ref a2) (C := RX11) (T := TX11) (N := 36) hx hb hU iX11 hown hK.1 hP 0 rfl rfl 7 (by decide) (hU _ w792) (fun _ h9 => h9) rfl dX11_keep_9 ?_
  refine lv_iload_n hx hb dX11_keep_12 rfl (lv_at hl 0 rfl) ?_
  refine lv_aload_n hx hb dX11_keep_13 rfl (lv_at hl 1 rfl) ?_
  refine va_get (D := D) (ci := 8) (v := .ref a1) (C := RX11) (T := TX11) (N := 36) hx hb hU iX11 hown hK.1 hP 0 rfl rfl 6 (by decide) (hU _ w791) (fun _ h9 => h9) rfl dX11_keep_14 ?_
  refine lv_iload_n hx hb dX11_keep_17 rfl (lv_at hl 0 rfl) ?_
  refine ld_i (j := 6) (v := 0) hx hb hK hP 1 rfl (by decide +kernel) rfl dX11_keep_18 ?_
  refine st_i (j := 6) (g := tI [0, 0, 0, 0, 0, 0, 0] 0) hx hb hK hP hD hS 2 rfl (by decide +kernel) upd_tI dX11_keep_19 (fun H locs hP hD hS => ?_)
  have hP : va_P D cl0 [(a0, .inr (8, [.int 2, .int 0, .int 1, .int 0, .int 0, .int 0, .ref a1, .ref a2, .int 0, .int 0, .ref a3, .ref a4, .ref a5, .ref a6, .ref a7, .ref a8, .ref a9, .int 0, .int 0, .int 0, .ref a10, .ref a11, .ref a12, .ref a13, .int 0, .int 0, .ref a14, .ref a15, .ref a16, .ref a17, .int 0, .int 0, .ref a18, .ref a19, .ref a20, .ref a21])), (a1, .inl (k 0, 36, .inl (tI [] 0))), (a2, .inl (k 0, 36, .inl (tI [0, 0, 0, 0, 0, 0, 0] 0)))] H := hP
  have hD : va_D A [(a0, .inr (8, [.int 2, .int 0, .int 1, .int 0, .int 0, .int 0, .ref a1, .ref a2, .int 0, .int 0, .ref a3, .ref a4, .ref a5, .ref a6, .ref a7, .ref a8, .ref a9, .int 0, .int 0, .int 0, .ref a10, .ref a11, .ref a12, .ref a13, .int 0, .int 0, .ref a14, .ref a15, .ref a16, .ref a17, .int 0, .int 0, .ref a18, .ref a19, .ref a20, .ref a21])), (a1, .inl (k 0, 36, .inl (tI [] 0))), (a2, .inl (k 0, 36, .inl (tI [0, 0, 0, 0, 0, 0, 0] 0)))] := hD
  refine lv_iinc (v := 7) (lv' := [(1, .int 7), (0, .ref a0)]) hx hb dX11_keep_20 hl (k := 0) rfl (by decide) (by decide) rfl (fun ls hl => ?_)
  refine lv_goto (tgt := 2) hx hb dX11_keep_23 (by decide) ?_
  refine lv_iload_n hx hb dX11_keep_2 rfl (lv_at hl 0 rfl) ?_
  refine lv_bipush (v := 36) hx hb dX11_keep_3 (by decide) ?_
  refine lv_icmp_ge (tgt := 26) hx hb dX11_keep_5 (by decide) (fun cc => absurd cc (by decide +kernel)) (fun _ => ?_)
  refine lv_aload_n hx hb dX11_keep_8 rfl (lv_at hl 1 rfl) ?_
  refine va_get (D := D) (ci := 8) (v := .ref a2) (C := RX11) (T := TX11) (N := 36) hx hb hU iX11 hown hK.1 hP 0 rfl rfl 7 (by decide) (hU _ w792) (fun _ h9 => h9) rfl dX11_keep_9 ?_
  refine lv_iload_n hx hb dX11_keep_12 rfl (lv_at hl 0 rfl) ?_
  refine lv_aload_n hx hb dX11_keep_13 rfl (lv_at hl 1 rfl) ?_
  refine va_get (D := D) (ci := 8) (v := .ref a1) (C := RX11) (T := TX11) (N := 36) hx hb hU iX11 hown hK.1 hP 0 rfl rfl 6 (by decide) (hU _ w791) (fun _ h9 => h9) rfl dX11_keep_14 ?_
  refine lv_iload_n hx hb dX11_keep_17 rfl (lv_at hl 0 rfl) ?_
  refine ld_i (j := 7) (v := 0) hx hb hK hP 1 rfl (by decide +kernel) rfl dX11_keep_18 ?_
  refine st_i (j := 7) (g := tI [0, 0, 0, 0, 0, 0, 0, 0] 0) hx hb hK hP hD hS 2 rfl (by decide +kernel) upd_tI dX11_keep_19 (fun H locs hP hD hS => ?_)
  have hP : va_P D cl0 [(a0, .inr (8, [.int 2, .int 0, .int 1, .int 0, .int 0, .int 0, .ref a1, .ref a2, .int 0, .int 0, .ref a3, .ref a4, .ref a5, .ref a6, .ref a7, .ref a8, .ref a9, .int 0, .int 0, .int 0, .ref a10, .ref a11, .ref a12, .ref a13, .int 0, .int 0, .ref a14, .ref a15, .ref a16, .ref a17, .int 0, .int 0, .ref a18, .ref a19, .ref a20, .ref a21])), (a1, .inl (k 0, 36, .inl (tI [] 0))), (a2, .inl (k 0, 36, .inl (tI [0, 0, 0, 0, 0, 0, 0, 0] 0)))] H := hP
  have hD : va_D A [(a0, .inr (8, [.int 2, .int 0, .int 1, .int 0, .int 0, .int 0, .ref a1, .ref a2, .int 0, .int 0, .ref a3, .ref a4, .ref a5, .ref a6, .ref a7, .ref a8, .ref a9, .int 0, .int 0, .int 0, .ref a10, .ref a11, .ref a12, .ref a13, .int 0, .int 0, .ref a14, .ref a15, .ref a16, .ref a17, .int 0, .int 0, .ref a18, .ref a19, .ref a20, .ref a21])), (a1, .inl (k 0, 36, .inl (tI [] 0))), (a2, .inl (k 0, 36, .inl (tI [0, 0, 0, 0, 0, 0, 0, 0] 0)))] := hD
  refine lv_iinc (v := 8) (lv' := [(1, .int 8), (0, .ref a0)]) hx hb dX11_keep_20 hl (k := 0) rfl (by decide) (by decide) rfl (fun ls hl => ?_)
  refine lv_goto (tgt := 2) hx hb dX11_keep_23 (by decide) ?_
  refine lv_iload_n hx hb dX11_keep_2 rfl (lv_at hl 0 rfl) ?_
  refine lv_bipush (v := 36) hx hb dX11_keep_3 (by decide) ?_
  refine lv_icmp_ge (tgt := 26) hx hb dX11_keep_5 (by decide) (fun cc => absurd cc (by decide +kernel)) (fun _ => ?_)
  refine lv_aload_n hx hb dX11_keep_8 rfl (lv_at hl 1 rfl) ?_
  refine va_get (D := D) (ci := 8) (v := .ref a2) (C := RX11) (T := TX11) (N := 36) hx hb hU iX11 hown hK.1 hP 0 rfl rfl 7 (by decide) (hU _ w792) (fun _ h9 => h9) rfl dX11_keep_9 ?_
  refine lv_iload_n hx hb dX11_keep_12 rfl (lv_at hl 0 rfl) ?_
  refine lv_aload_n hx hb dX11_keep_13 rfl (lv_at hl 1 rfl) ?_
  refine va_get (D := D) (ci := 8) (v := .ref a1) (C := RX11) (T := TX11) (N := 36) hx hb hU iX11 hown hK.1 hP 0 rfl rfl 6 (by decide) (hU _ w791) (fun _ h9 => h9) rfl dX11_keep_14 ?_
  refine lv_iload_n hx hb dX11_keep_17 rfl (lv_at hl 0 rfl) ?_
  refine ld_i (j := 8) (v := 0) hx hb hK hP 1 rfl (by decide +kernel) rfl dX11_keep_18 ?_
  refine st_i (j := 8) (g := tI [0, 0, 0, 0, 0, 0, 0, 0, 0] 0) hx hb hK hP hD hS 2 rfl (by decide +kernel) upd_tI dX11_keep_19 (fun H locs hP hD hS => ?_)
  have hP : va_P D cl0 [(a0, .inr (8, [.int 2, .int 0, .int 1, .int 0, .int 0, .int 0, .ref a1, .ref a2, .int 0, .int 0, .ref a3, .ref a4, .ref a5, .ref a6, .ref a7, .ref a8, .ref a9, .int 0, .int 0, .int 0, .ref a10, .ref a11, .ref a12, .ref a13, .int 0, .int 0, .ref a14, .ref a15, .ref a16, .ref a17, .int 0, .int 0, .ref a18, .ref a19, .ref a20, .ref a21])), (a1, .inl (k 0, 36, .inl (tI [] 0))), (a2, .inl (k 0, 36, .inl (tI [0, 0, 0, 0, 0, 0, 0, 0, 0] 0)))] H := hP
  have hD : va_D A [(a0, .inr (8, [.int 2, .int 0, .int 1, .int 0, .int 0, .int 0, .ref a1, .ref a2, .int 0, .int 0, .ref a3, .ref a4, .ref a5, .ref a6, .ref a7, .ref a8, .ref a9, .int 0, .int 0, .int 0, .ref a10, .ref a11, .ref a12, .ref a13, .int 0, .int 0, .ref a14, .ref a15, .ref a16, .ref a17, .int 0, .int 0, .ref a18, .ref a19, .ref a20, .ref a21])), (a1, .inl (k 0, 36, .inl (tI [] 0))), (a2, .inl (k 0, 36, .inl (tI [0, 0, 0, 0, 0, 0, 0, 0, 0] 0)))] := hD
  refine lv_iinc (v := 9) (lv' := [(1, .int 9), (0, .ref a0)]) hx hb dX11_keep_20 hl (k := 0) rfl (by decide) (by decide) rfl (fun ls hl => ?_)
  refine lv_goto (tgt := 2) hx hb dX11_keep_23 (by decide) ?_
  refine lv_iload_n hx hb dX11_keep_2 rfl (lv_at hl 0 rfl) ?_
  refine lv_bipush (v := 36) hx hb dX11_keep_3 (by decide) ?_
  refine lv_icmp_ge (tgt := 26) hx hb dX11_keep_5 (by decide) (fun cc => absurd cc (by decide +kernel)) (fun _ => ?_)
  refine lv_aload_n hx hb dX11_keep_8 rfl (lv_at hl 1 rfl) ?_
  refine va_get (D := D) (ci := 8) (v := .ref a2) (C := RX11) (T := TX11) (N := 36) hx hb hU iX11 hown hK.1 hP 0 rfl rfl 7 (by decide) (hU _ w792) (fun _ h9 => h9) rfl dX11_keep_9 ?_
  refine lv_iload_n hx hb dX11_keep_12 rfl (lv_at hl 0 rfl) ?_
  refine lv_aload_n hx hb dX11_keep_13 rfl (lv_at hl 1 rfl) ?_
  refine va_get (D := D) (ci := 8) (v := .ref a1) (C := RX11) (T := TX11) (N := 36) hx hb hU iX11 hown hK.1 hP 0 rfl rfl 6 (by decide) (hU _ w791) (fun _ h9 => h9) rfl dX11_keep_14 ?_
  refine lv_iload_n hx hb dX11_keep_17 rfl (lv_at hl 0 rfl) ?_
  refine ld_i (j := 9) (v := 0) hx hb hK hP 1 rfl (by decide +kernel) rfl dX11_keep_18 ?_
  refine st_i (j := 9) (g := tI [0, 0, 0, 0, 0, 0, 0, 0, 0, 0] 0) hx hb hK hP hD hS 2 rfl (by decide +kernel) upd_tI dX11_keep_19 (fun H locs hP hD hS => ?_)
  have hP : va_P D cl0 [(a0, .inr (8, [.int 2, .int 0, .int 1, .int 0, .int 0, .int 0, .ref a1, .ref a2, .int 0, .int 0, .ref a3, .ref a4, .ref a5, .ref a6, .ref a7, .ref a8, .ref a9, .int 0, .int 0, .int 0, .ref a10, .ref a11, .ref a12, .ref a13, .int 0, .int 0, .ref a14, .ref a15, .ref a16, .ref a17, .int 0, .int 0, .ref a18, .ref a19, .ref a20, .ref a21])), (a1, .inl (k 0, 36, .inl (tI [] 0))), (a2, .inl (k 0, 36, .inl (tI [0, 0, 0, 0, 0, 0, 0, 0, 0, 0] 0)))] H := hP
  have hD : va_D A [(a0, .inr (8, [.int 2, .int 0, .int 1, .int 0, .int 0, .int 0, .ref a1, .ref a2, .int 0, .int 0, .ref a3, .ref a4, .ref a5, .ref a6, .ref a7, .ref a8, .ref a9, .int 0, .int 0, .int 0, .ref a10, .ref a11, .ref a12, .ref a13, .int 0, .int 0, .ref a14, .ref a15, .ref a16, .ref a17, .int 0, .int 0, .ref a18, .ref a19, .ref a20, .ref a21])), (a1, .inl (k 0, 36, .inl (tI [] 0))), (a2, .inl (k 0, 36, .inl (tI [0, 0, 0, 0, 0, 0, 0, 0, 0, 0] 0)))] := hD
  refine lv_iinc (v := 10) (lv' := [(1, .int 10), (0, .ref a0)]) hx hb dX11_keep_20 hl (k := 0) rfl (by decide) (by decide) rfl (fun ls hl => ?_)
  refine lv_goto (tgt := 2) hx hb dX11_keep_23 (by decide) ?_
  refine lv_iload_n hx hb dX11_keep_2 rfl (lv_at hl 0 rfl) ?_
  refine lv_bipush (v := 36) hx hb dX11_keep_3 (by decide) ?_
  refine lv_icmp_ge (tgt := 26) hx hb dX11_keep_5 (by decide) (fun cc => absurd cc (by decide +kernel)) (fun _ => ?_)
  refine lv_aload_n hx hb dX11_keep_8 rfl (lv_at hl 1 rfl) ?_
  refine va_get (D := D) (ci := 8) (v := .ref a2) (C := RX11) (T := TX11) (N := 36) hx hb hU iX11 hown hK.1 hP 0 rfl rfl 7 (by decide) (hU _ w792) (fun _ h9 => h9) rfl dX11_keep_9 ?_
  refine lv_iload_n hx hb dX11_keep_12 rfl (lv_at hl 0 rfl) ?_
  refine lv_aload_n hx hb dX11_keep_13 rfl (lv_at hl 1 rfl) ?_
  refine va_get (D := D) (ci := 8) (v := .ref a1) (C := RX11) (T := TX11) (N := 36) hx hb hU iX11 hown hK.1 hP 0 rfl rfl 6 (by decide) (hU _ w791) (fun _ h9 => h9) rfl dX11_keep_14 ?_
  refine lv_iload_n hx hb dX11_keep_17 rfl (lv_at hl 0 rfl) ?_
  refine ld_i (j := 10) (v := 0) hx hb hK hP 1 rfl (by decide +kernel) rfl dX11_keep_18 ?_
  refine st_i (j := 10) (g := tI [0, 0, 0, 0, 0, 0, 0, 0, 0, 0, 0] 0) hx hb hK hP hD hS 2 rfl (by decide +kernel) upd_tI dX11_keep_19 (fun H locs hP hD hS => ?_)
  have hP : va_P D cl0 [(a0, .inr (8, [.int 2, .int 0, .int 1, .int 0, .int 0, .int 0, .ref a1, .ref a2, .int 0, .int 0, .ref a3, .ref a4, .ref a5, .ref a6, .ref a7, .ref a8, .ref a9, .int 0, .int 0, .int 0, .ref a10, .ref a11, .ref a12, .ref a13, .int 0, .int 0, .ref a14, .ref a15, .ref a16, .ref a17, .int 0, .int 0, .ref a18, .ref a19, .ref a20, .ref a21])), (a1, .inl (k 0, 36, .inl (tI [] 0))), (a2, .inl (k 0, 36, .inl (tI [0, 0, 0, 0, 0, 0, 0, 0, 0, 0, 0] 0)))] H := hP
  have hD : va_D A [(a0, .inr (8, [.int 2, .int 0, .int 1, .int 0, .int 0, .int 0, .ref a1, .ref a2, .int 0, .int 0, .ref a3, .ref a4, .ref a5, .ref a6, .ref a7, .ref a8, .ref a9, .int 0, .int 0, .int 0, .ref a10, .ref a11, .ref a12, .ref a13, .int 0, .int 0, .ref a14, .ref a15, .ref a16, .ref a17, .int 0, .int 0, .ref a18, .ref a19, .ref a20, .ref a21])), (a1, .inl (k 0, 36, .inl (tI [] 0))), (a2, .inl (k 0, 36, .inl (tI [0, 0, 0, 0, 0, 0, 0, 0, 0, 0, 0] 0)))] := hD
  refine lv_iinc (v := 11) (lv' := [(1, .int 11), (0, .ref a0)]) hx hb dX11_keep_20 hl (k := 0) rfl (by decide) (by decide) rfl (fun ls hl => ?_)
  refine lv_goto (tgt := 2) hx hb dX11_keep_23 (by decide) ?_
  refine lv_iload_n hx hb dX11_keep_2 rfl (lv_at hl 0 rfl) ?_
  refine lv_bipush (v := 36) hx hb dX11_keep_3 (by decide) ?_
  refine lv_icmp_ge (tgt := 26) hx hb dX11_keep_5 (by decide) (fun cc => absurd cc (by decide +kernel)) (fun _ => ?_)
  refine lv_aload_n hx hb dX11_keep_8 rfl (lv_at hl 1 rfl) ?_
  refine va_get (D := D) (ci := 8) (v := .ref a2) (C := RX11) (T := TX11) (N := 36) hx hb hU iX11 hown hK.1 hP 0 rfl rfl 7 (by decide) (hU _ w792) (fun _ h9 => h9) rfl dX11_keep_9 ?_
  refine lv_iload_n hx hb dX11_keep_12 rfl (lv_at hl 0 rfl) ?_
  refine lv_aload_n hx hb dX11_keep_13 rfl (lv_at hl 1 rfl) ?_
  refine va_get (D := D) (ci := 8) (v := .ref a1) (C := RX11) (T := TX11) (N := 36) hx hb hU iX11 hown hK.1 hP 0 rfl rfl 6 (by decide) (hU _ w791) (fun _ h9 => h9) rfl dX11_keep_14 ?_
  refine lv_iload_n hx hb dX11_keep_17 rfl (lv_at hl 0 rfl) ?_
  refine ld_i (j := 11) (v := 0) hx hb hK hP 1 rfl (by decide +kernel) rfl dX11_keep_18 ?_
  refine st_i (j := 11) (g := tI [0, 0, 0, 0, 0, 0, 0, 0, 0, 0, 0, 0] 0) hx hb hK hP hD hS 2 rfl (by decide +kernel) upd_tI dX11_keep_19 (fun H locs hP hD hS => ?_)
  have hP : va_P D cl0 [(a0, .inr (8, [.int 2, .int 0, .int 1, .int 0, .int 0, .int 0, .ref a1, .ref a2, .int 0, .int 0, .ref a3, .ref a4, .ref a5, .ref a6, .ref a7, .ref a8, .ref a9, .int 0, .int 0, .int 0, .ref a10, .ref a11, .ref a12, .ref a13, .int 0, .int 0, .ref a14, .ref a15, .ref a16, .ref a17, .int 0, .int 0, .ref a18, .ref a19, .ref a20, .ref a21])), (a1, .inl (k 0, 36, .inl (tI [] 0))), (a2, .inl (k 0, 36, .inl (tI [0, 0, 0, 0, 0, 0, 0, 0, 0, 0, 0, 0] 0)))] H := hP
  have hD : va_D A [(a0, .inr (8, [.int 2, .int 0, .int 1, .int 0, .int 0, .int 0, .ref a1, .ref a2, .int 0, .int 0, .ref a3, .ref a4, .ref a5, .ref a6, .ref a7, .ref a8, .ref a9, .int 0, .int 0, .int 0, .ref a10, .ref a11, .ref a12, .ref a13, .int 0, .int 0, .ref a14, .ref a15, .ref a16, .ref a17, .int 0, .int 0, .ref a18, .ref a19, .ref a20, .ref a21])), (a1, .inl (k 0, 36, .inl (tI [] 0))), (a2, .inl (k 0, 36, .inl (tI [0, 0, 0, 0, 0, 0, 0, 0, 0, 0, 0, 0] 0)))] := hD
  refine lv_iinc (v := 12) (lv' := [(1, .int 12), (0, .ref a0)]) hx hb dX11_keep_20 hl (k := 0) rfl (by decide) (by decide) rfl (fun ls hl => ?_)
  refine lv_goto (tgt := 2) hx hb dX11_keep_23 (by decide) ?_
  refine lv_iload_n hx hb dX11_keep_2 rfl (lv_at hl 0 rfl) ?_
  refine lv_bipush (v := 36) hx hb dX11_keep_3 (by decide) ?_
  refine lv_icmp_ge (tgt := 26) hx hb dX11_keep_5 (by decide) (fun cc => absurd cc (by decide +kernel)) (fun _ => ?_)
  refine lv_aload_n hx hb dX11_keep_8 rfl (lv_at hl 1 rfl) ?_
  refine va_get (D := D) (ci := 8) (v := .ref a2) (C := RX11) (T := TX11) (N := 36) hx hb hU iX11 hown hK.1 hP 0 rfl rfl 7 (by decide) (hU _ w792) (fun _ h9 => h9) rfl dX11_keep_9 ?_
  refine lv_iload_n hx hb dX11_keep_12 rfl (lv_at hl 0 rfl) ?_
  refine lv_aload_n hx hb dX11_keep_13 rfl (lv_at hl 1 rfl) ?_
  refine va_get (D := D) (ci := 8) (v := .ref a1) (C := RX11) (T := TX11) (N := 36) hx hb hU iX11 hown hK.1 hP 0 rfl rfl 6 (by decide) (hU _ w791) (fun _ h9 => h9) rfl dX11_keep_14 ?_
  refine lv_iload_n hx hb dX11_keep_17 rfl (lv_at hl 0 rfl) ?_
  refine ld_i (j := 12) (v := 0) hx hb hK hP 1 rfl (by decide +kernel) rfl dX11_keep_18 ?_
  refine st_i (j := 12) (g := tI [0, 0, 0, 0, 0, 0, 0, 0, 0, 0, 0, 0, 0] 0) hx hb hK hP hD hS 2 rfl (by decide +kernel) upd_tI dX11_keep_19 (fun H locs hP hD hS => ?_)
  have hP : va_P D cl0 [(a0, .inr (8, [.int 2, .int 0, .int 1, .int 0, .int 0, .int 0, .ref a1, .ref a2, .int 0, .int 0, .ref a3, .ref a4, .ref a5, .ref a6, .ref a7, .ref a8, .ref a9, .int 0, .int 0, .int 0, .ref a10, .ref a11, .ref a12, .ref a13, .int 0, .int 0, .ref a14, .ref a15, .ref a16, .ref a17, .int 0, .int 0, .ref a18, .ref a19, .ref a20, .ref a21])), (a1, .inl (k 0, 36, .inl (tI [] 0))), (a2, .inl (k 0, 36, .inl (tI [0, 0, 0, 0, 0, 0, 0, 0, 0, 0, 0, 0, 0] 0)))] H := hP
  have hD : va_D A [(a0, .inr (8, [.int 2, .int 0, .int 1, .int 0, .int 0, .int 0, .ref a1, .ref a2, .int 0, .int 0, .ref a3, .ref a4, .ref a5, .ref a6, .ref a7, .ref a8, .ref a9, .int 0, .int 0, .int 0, .ref a10, .ref a11, .ref a12, .ref a13, .int 0, .int 0, .ref a14, .ref a15, .ref a16, .ref a17, .int 0, .int 0, .ref a18, .ref a19, .ref a20, .ref a21])), (a1, .inl (k 0, 36, .inl (tI [] 0))), (a2, .inl (k 0, 36, .inl (tI [0, 0, 0, 0, 0, 0, 0, 0, 0, 0, 0, 0, 0] 0)))] := hD
  refine lv_iinc (v := 13) (lv' := [(1, .int 13), (0, .ref a0)]) hx hb dX11_keep_20 hl (k := 0) rfl (by decide) (by decide) rfl (fun ls hl => ?_)
  refine lv_goto (tgt := 2) hx hb dX11_keep_23 (by decide) ?_
  refine lv_iload_n hx hb dX11_keep_2 rfl (lv_at hl 0 rfl) ?_
  refine lv_bipush (v := 36) hx hb dX11_keep_3 (by decide) ?_
  refine lv_icmp_ge (tgt := 26) hx hb dX11_keep_5 (by decide) (fun cc => absurd cc (by decide +kernel)) (fun _ => ?_)
  refine lv_aload_n hx hb dX11_keep_8 rfl (lv_at hl 1 rfl) ?_
  refine va_get (D := D) (ci := 8) (v := .ref a2) (C := RX11) (T := TX11) (N := 36) hx hb hU iX11 hown hK.1 hP 0 rfl rfl 7 (by decide) (hU _ w792) (fun _ h9 => h9) rfl dX11_keep_9 ?_
  refine lv_iload_n hx hb dX11_keep_12 rfl (lv_at hl 0 rfl) ?_
  refine lv_aload_n hx hb dX11_keep_13 rfl (lv_at hl 1 rfl) ?_
  refine va_get (D := D) (ci := 8) (v := .ref a1) (C := RX11) (T := TX11) (N := 36) hx hb hU iX11 hown hK.1 hP 0 rfl rfl 6 (by decide) (hU _ w791) (fun _ h9 => h9) rfl dX11_keep_14 ?_
  refine lv_iload_n hx hb dX11_keep_17 rfl (lv_at hl 0 rfl) ?_
  refine ld_i (j := 13) (v := 0) hx hb hK hP 1 rfl (by decide +kernel) rfl dX11_keep_18 ?_
  refine st_i (j := 13) (g := tI [0, 0, 0, 0, 0, 0, 0, 0, 0, 0, 0, 0, 0, 0] 0) hx hb hK hP hD hS 2 rfl (by decide +kernel) upd_tI dX11_keep_19 (fun H locs hP hD hS => ?_)
  have hP : va_P D cl0 [(a0, .inr (8, [.int 2, .int 0, .int 1, .int 0, .int 0, .int 0, .ref a1, .ref a2, .int 0, .int 0, .ref a3, .ref a4, .ref a5, .ref a6, .ref a7, .ref a8, .ref a9, .int 0, .int 0, .int 0, .ref a10, .ref a11, .ref a12, .ref a13, .int 0, .int 0, .ref a14, .ref a15, .ref a16, .ref a17, .int 0, .int 0, .ref a18, .ref a19, .ref a20, .ref a21])), (a1, .inl (k 0, 36, .inl (tI [] 0))), (a2, .inl (k 0, 36, .inl (tI [0, 0, 0, 0, 0, 0, 0, 0, 0, 0, 0, 0, 0, 0] 0)))] H := hP
  have hD : va_D A [(a0, .inr (8, [.int 2, .int 0, .int 1, .int 0, .int 0, .int 0, .ref a1, .ref a2, .int 0, .int 0, .ref a3, .ref a4, .ref a5, .ref a6, .ref a7, .ref a8, .ref a9, .int 0, .int 0, .int 0, .ref a10, .ref a11, .ref a12, .ref a13, .int 0, .int 0, .ref a14, .ref a15, .ref a16, .ref a17, .int 0, .int 0, .ref a18, .ref a19, .ref a20, .ref a21])), (a1, .inl (k 0, 36, .inl (tI [] 0))), (a2, .inl (k 0, 36, .inl (tI [0, 0, 0, 0, 0, 0, 0, 0, 0, 0, 0, 0, 0, 0] 0)))] := hD
  refine lv_iinc (v := 14) (lv' := [(1, .int 14), (0, .ref a0)]) hx hb dX11_keep_20 hl (k := 0) rfl (by decide) (by decide) rfl (fun ls hl => ?_)
  refine lv_goto (tgt := 2) hx hb dX11_keep_23 (by decide) ?_
  refine lv_iload_n hx hb dX11_keep_2 rfl (lv_at hl 0 rfl) ?_
  refine lv_bipush (v := 36) hx hb dX11_keep_3 (by decide) ?_
  refine lv_icmp_ge (tgt := 26) hx hb dX11_keep_5 (by decide) (fun cc => absurd cc (by decide +kernel)) (fun _ => ?_)
  refine lv_aload_n hx hb dX11_keep_8 rfl (lv_at hl 1 rfl) ?_
  refine va_get (D := D) (ci := 8) (v := .ref a2) (C := RX11) (T := TX11) (N := 36) hx hb hU iX11 hown hK.1 hP 0 rfl rfl 7 (by decide) (hU _ w792) (fun _ h9 => h9) rfl dX11_keep_9 ?_
  refine lv_iload_n hx hb dX11_keep_12 rfl (lv_at hl 0 rfl) ?_
  refine lv_aload_n hx hb dX11_keep_13 rfl (lv_at hl 1 rfl) ?_
  refine va_get (D := D) (ci := 8) (v := .ref a1) (C := RX11) (T := TX11) (N := 36) hx hb hU iX11 hown hK.1 hP 0 rfl rfl 6 (by decide) (hU _ w791) (fun _ h9 => h9) rfl dX11_keep_14 ?_
  refine lv_iload_n hx hb dX11_keep_17 rfl (lv_at hl 0 rfl) ?_
  refine ld_i (j := 14) (v := 0) hx hb hK hP 1 rfl (by decide +kernel) rfl dX11_keep_18 ?_
  refine st_i (j := 14) (g := tI [0, 0, 0, 0, 0, 0, 0, 0, 0, 0, 0, 0, 0, 0, 0] 0) hx hb hK hP hD hS 2 rfl (by decide +kernel) upd_tI dX11_keep_19 (fun H locs hP hD hS => ?_)
  have hP : va_P D cl0 [(a0, .inr (8, [.int 2, .int 0, .int 1, .int 0, .int 0, .int 0, .ref a1, .ref a2, .int 0, .int 0, .ref a3, .ref a4, .ref a5, .ref a6, .ref a7, .ref a8, .ref a9, .int 0, .int 0, .int 0, .ref a10, .ref a11, .ref a12, .ref a13, .int 0, .int 0, .ref a14, .ref a15, .ref a16, .ref a17, .int 0, .int 0, .ref a18, .ref a19, .ref a20, .ref a21])), (a1, .inl (k 0, 36, .inl (tI [] 0))), (a2, .inl (k 0, 36, .inl (tI [0, 0, 0, 0, 0, 0, 0, 0, 0, 0, 0, 0, 0, 0, 0] 0)))] H := hP
  have hD : va_D A [(a0, .inr (8, [.int 2, .int 0, .int 1, .int 0, .int 0, .int 0, .ref a1, .ref a2, .int 0, .int 0, .ref a3, .ref a4, .ref a5, .ref a6, .ref a7, .ref a8, .ref a9, .int 0, .int 0, .int 0, .ref a10, .ref a11, .ref a12, .ref a13, .int 0, .int 0, .ref a14, .ref a15, .ref a16, .ref a17, .int 0, .int 0, .ref a18, .ref a19, .ref a20, .ref a21])), (a1, .inl (k 0, 36, .inl (tI [] 0))), (a2, .inl (k 0, 36, .inl (tI [0, 0, 0, 0, 0, 0, 0, 0, 0, 0, 0, 0, 0, 0, 0] 0)))] := hD
  refine lv_iinc (v := 15) (lv' := [(1, .int 15), (0, .ref a0)]) hx hb dX11_keep_20 hl (k := 0) rfl (by decide) (by decide) rfl (fun ls hl => ?_)
  refine lv_goto (tgt := 2) hx hb dX11_keep_23 (by decide) ?_
  refine lv_iload_n hx hb dX11_keep_2 rfl (lv_at hl 0 rfl) ?_
  refine lv_bipush (v := 36) hx hb dX11_keep_3 (by decide) ?_
  refine lv_icmp_ge (tgt := 26) hx hb dX11_keep_5 (by decide) (fun cc => absurd cc (by decide +kernel)) (fun _ => ?_)
  refine lv_aload_n hx hb dX11_keep_8 rfl (lv_at hl 1 rfl) ?_
  refine va_get (D := D) (ci := 8) (v := .ref a2) (C := RX11) (T := TX11) (N := 36) hx hb hU iX11 hown hK.1 hP 0 rfl rfl 7 (by decide) (hU _ w792) (fun _ h9 => h9) rfl dX11_keep_9 ?_
  refine lv_iload_n hx hb dX11_keep_12 rfl (lv_at hl 0 rfl) ?_
  refine lv_aload_n hx hb dX11_keep_13 rfl (lv_at hl 1 rfl) ?_
  refine va_get (D := D) (ci := 8) (v := .ref a1) (C := RX11) (T := TX11) (N := 36) hx hb hU iX11 hown hK.1 hP 0 rfl rfl 6 (by decide) (hU _ w791) (fun _ h9 => h9) rfl dX11_keep_14 ?_
  refine lv_iload_n hx hb dX11_keep_17 rfl (lv_at hl 0 rfl) ?_
  refine ld_i (j := 15) (v := 0) hx hb hK hP 1 rfl (by decide +kernel) rfl dX11_keep_18 ?_
  refine st_i (j := 15) (g := tI [0, 0, 0, 0, 0, 0, 0, 0, 0, 0, 0, 0, 0, 0, 0, 0] 0) hx hb hK hP hD hS 2 rfl (by decide +kernel) upd_tI dX11_keep_19 (fun H locs hP hD hS => ?_)
  have hP : va_P D cl0 [(a0, .inr (8, [.int 2, .int 0, .int 1, .int 0, .int 0, .int 0, .ref a1, .ref a2, .int 0, .int 0, .ref a3, .ref a4, .ref a5, .ref a6, .ref a7, .ref a8, .ref a9, .int 0, .int 0, .int 0, .ref a10, .ref a11, .ref a12, .ref a13, .int 0, .int 0, .ref a14, .ref a15, .ref a16, .ref a17, .int 0, .int 0, .ref a18, .ref a19, .ref a20, .ref a21])), (a1, .inl (k 0, 36, .inl (tI [] 0))), (a2, .inl (k 0, 36, .inl (tI [0, 0, 0, 0, 0, 0, 0, 0, 0, 0, 0, 0, 0, 0, 0, 0] 0)))] H := hP
  have hD : va_D A [(a0, .inr (8, [.int 2, .int 0, .int 1, .int 0, .int 0, .int 0, .ref a1, .ref a2, .int 0, .int 0, .ref a3, .ref a4, .ref a5, .ref a6, .ref a7, .ref a8, .ref a9, .int 0, .int 0, .int 0, .ref a10, .ref a11, .ref a12, .ref a13, .int 0, .int 0, .ref a14, .ref a15, .ref a16, .ref a17, .int 0, .int 0, .ref a18, .ref a19, .ref a20, .ref a21])), (a1, .inl (k 0, 36, .inl (tI [] 0))), (a2, .inl (k 0, 36, .inl (tI [0, 0, 0, 0, 0, 0, 0, 0, 0, 0, 0, 0, 0, 0, 0, 0] 0)))] := hD
  refine lv_iinc (v := 16) (lv' := [(1, .int 16), (0, .ref a0)]) hx hb dX11_keep_20 hl (k := 0) rfl (by decide) (by decide) rfl (fun ls hl => ?_)
  refine lv_goto (tgt := 2) hx hb dX11_keep_23 (by decide) ?_
  refine lv_iload_n hx hb dX11_keep_2 rfl (lv_at hl 0 rfl) ?_
  refine lv_bipush (v := 36) hx hb dX11_keep_3 (by decide) ?_
  refine lv_icmp_ge (tgt := 26) hx hb dX11_keep_5 (by decide) (fun cc => absurd cc (by decide +kernel)) (fun _ => ?_)
  refine lv_aload_n hx hb dX11_keep_8 rfl (lv_at hl 1 rfl) ?_
  refine va_get (D := D) (ci := 8) (v := .ref a2) (C := RX11) (T := TX11) (N := 36) hx hb hU iX11 hown hK.1 hP 0 rfl rfl 7 (by decide) (hU _ w792) (fun _ h9 => h9) rfl dX11_keep_9 ?_
  refine lv_iload_n hx hb dX11_keep_12 rfl (lv_at hl 0 rfl) ?_
  refine lv_aload_n hx hb dX11_keep_13 rfl (lv_at hl 1 rfl) ?_
  refine va_get (D := D) (ci := 8) (v := .ref a1) (C := RX11) (T := TX11) (N := 36) hx hb hU iX11 hown hK.1 hP 0 rfl rfl 6 (by decide) (hU _ w791) (fun _ h9 => h9) rfl dX11_keep_14 ?_
  refine lv_iload_n hx hb dX11_keep_17 rfl (lv_at hl 0 rfl) ?_
  refine ld_i (j := 16) (v := 0) hx hb hK hP 1 rfl (by decide +kernel) rfl dX11_keep_18 ?_
  refine st_i (j := 16) (g := tI [0, 0, 0, 0, 0, 0, 0, 0, 0, 0, 0, 0, 0, 0, 0, 0, 0] 0) hx hb hK hP hD hS 2 rfl (by decide +kernel) upd_tI dX11_keep_19 (fun H locs hP hD hS => ?_)
  have hP : va_P D cl0 [(a0, .inr (8, [.int 2, .int 0, .int 1, .int 0, .int 0, .int 0, .ref a1, .ref a2, .int 0, .int 0, .ref a3, .ref a4, .ref a5, .ref a6, .ref a7, .ref a8, .ref a9, .int 0, .int 0, .int 0, .ref a10, .ref a11, .ref a12, .ref a13, .int 0, .int 0, .ref a14, .ref a15, .ref a16, .ref a17, .int 0, .int 0, .ref a18, .ref a19, .ref a20, .ref a21])), (a1, .inl (k 0, 36, .inl (tI [] 0))), (a2, .inl (k 0, 36, .inl (tI [0, 0, 0, 0, 0, 0, 0, 0, 0, 0, 0, 0, 0, 0, 0, 0, 0] 0)))] H := hP
  have hD : va_D A [(a0, .inr (8, [.int 2, .int 0, .int 1, .int 0, .int 0, .int 0, .ref a1, .ref a2, .int 0, .int 0, .ref a3, .ref a4, .ref a5, .ref a6, .ref a7, .ref a8, .ref a9, .int 0, .int 0, .int 0, .ref a10, .ref a11, .ref a12, .ref a13, .int 0, .int 0, .ref a14, .ref a15, .ref a16, .ref a17, .int 0, .int 0, .ref a18, .ref a19, .ref a20, .ref a21])), (a1, .inl (k 0, 36, .inl (tI [] 0))), (a2, .inl (k 0, 36, .inl (tI [0, 0, 0, 0, 0, 0, 0, 0, 0, 0, 0, 0, 0, 0, 0, 0, 0] 0)))] := hD
  refine lv_iinc (v := 17) (lv' := [(1, .int 17), (0, .ref a0)]) hx hb dX11_keep_20 hl (k := 0) rfl (by decide) (by decide) rfl (fun ls hl => ?_)
  refine lv_goto (tgt := 2) hx hb dX11_keep_23 (by decide) ?_
  refine lv_iload_n hx hb dX11_keep_2 rfl (lv_at hl 0 rfl) ?_
  refine lv_bipush (v := 36) hx hb dX11_keep_3 (by decide) ?_
  refine lv_icmp_ge (tgt := 26) hx hb dX11_keep_5 (by decide) (fun cc => absurd cc (by decide +kernel)) (fun _ => ?_)
  refine lv_aload_n hx hb dX11_keep_8 rfl (lv_at hl 1 rfl) ?_
  refine va_get (D := D) (ci := 8) (v := .ref a2) (C := RX11) (T := TX11) (N := 36) hx hb hU iX11 hown hK.1 hP 0 rfl rfl 7 (by decide) (hU _ w792) (fun _ h9 => h9) rfl dX11_keep_9 ?_
  refine lv_iload_n hx hb dX11_keep_12 rfl (lv_at hl 0 rfl) ?_
  refine lv_aload_n hx hb dX11_keep_13 rfl (lv_at hl 1 rfl) ?_
  refine va_get (D := D) (ci := 8) (v := .ref a1) (C := RX11) (T := TX11) (N := 36) hx hb hU iX11 hown hK.1 hP 0 rfl rfl 6 (by decide) (hU _ w791) (fun _ h9 => h9) rfl dX11_keep_14 ?_
  refine lv_iload_n hx hb dX11_keep_17 rfl (lv_at hl 0 rfl) ?_
  refine ld_i (j := 17) (v := 0) hx hb hK hP 1 rfl (by decide +kernel) rfl dX11_keep_18 ?_
  refine st_i (j := 17) (g := tI [0, 0, 0, 0, 0, 0, 0, 0, 0, 0, 0, 0, 0, 0, 0, 0, 0, 0] 0) hx hb hK hP hD hS 2 rfl (by decide +kernel) upd_tI dX11_keep_19 (fun H locs hP hD hS => ?_)
  have hP : va_P D cl0 [(a0, .inr (8, [.int 2, .int 0, .int 1, .int 0, .int 0, .int 0, .ref a1, .ref a2, .int 0, .int 0, .ref a3, .ref a4, .ref a5, .ref a6, .ref a7, .ref a8, .ref a9, .int 0, .int 0, .int 0, .ref a10, .ref a11, .ref a12, .ref a13, .int 0, .int 0, .ref a14, .ref a15, .ref a16, .ref a17, .int 0, .int 0, .ref a18, .ref a19, .ref a20, .ref a21])), (a1, .inl (k 0, 36, .inl (tI [] 0))), (a2, .inl (k 0, 36, .inl (tI [0, 0, 0, 0, 0, 0, 0, 0, 0, 0, 0, 0, 0, 0, 0, 0, 0, 0] 0)))] H := hP
  have hD : va_D A [(a0, .inr (8, [.int 2, .int 0, .int 1, .int 0, .int 0, .int 0, .ref a1, .ref a2, .int 0, .int 0, .ref a3, .ref a4, .ref a5, .ref a6, .ref a7, .ref a8, .ref a9, .int 0, .int 0, .int 0, .ref a10, .ref a11, .ref a12, .ref a13, .int 0, .int 0, .ref a14, .ref a15, .ref a16, .ref a17, .int 0, .int 0, .ref a18, .ref a19, .ref a20, .ref a21])), (a1, .inl (k 0, 36, .inl (tI [] 0))), (a2, .inl (k 0, 36, .inl (tI [0, 0, 0, 0, 0, 0, 0, 0, 0, 0, 0, 0, 0, 0, 0, 0, 0, 0] 0)))] := hD
  refine lv_iinc (v := 18) (lv' := [(1, .int 18), (0, .ref a0)]) hx hb dX11_keep_20 hl (k := 0) rfl (by decide) (by decide) rfl (fun ls hl => ?_)
  refine lv_goto (tgt := 2) hx hb dX11_keep_23 (by decide) ?_
  refine lv_iload_n hx hb dX11_keep_2 rfl (lv_at hl 0 rfl) ?_
  refine lv_bipush (v := 36) hx hb dX11_keep_3 (by decide) ?_
  refine lv_icmp_ge (tgt := 26) hx hb dX11_keep_5 (by decide) (fun cc => absurd cc (by decide +kernel)) (fun _ => ?_)
  refine lv_aload_n hx hb dX11_keep_8 rfl (lv_at hl 1 rfl) ?_
  refine va_get (D := D) (ci := 8) (v := .ref a2) (C := RX11) (T := TX11) (N := 36) hx hb hU iX11 hown hK.1 hP 0 rfl rfl 7 (by decide) (hU _ w792) (fun _ h9 => h9) rfl dX11_keep_9 ?_
  refine lv_iload_n hx hb dX11_keep_12 rfl (lv_at hl 0 rfl) ?_
  refine lv_aload_n hx hb dX11_keep_13 rfl (lv_at hl 1 rfl) ?_
  refine va_get (D := D) (ci := 8) (v := .ref a1) (C := RX11) (T := TX11) (N := 36) hx hb hU iX11 hown hK.1 hP 0 rfl rfl 6 (by decide) (hU _ w791) (fun _ h9 => h9) rfl dX11_keep_14 ?_
  refine lv_iload_n hx hb dX11_keep_17 rfl (lv_at hl 0 rfl) ?_
  refine ld_i (j := 18) (v := 0) hx hb hK hP 1 rfl (by decide +kernel) rfl dX11_keep_18 ?_
  refine st_i (j := 18) (g := tI [0, 0, 0, 0, 0, 0, 0, 0, 0, 0, 0, 0, 0, 0, 0, 0, 0, 0, 0] 0) hx hb hK hP hD hS 2 rfl (by decide +kernel) upd_tI dX11_keep_19 (fun H locs hP hD hS => ?_)
  have hP : va_P D cl0 [(a0, .inr (8, [.int 2, .int 0, .int 1, .int 0, .int 0, .int 0, .ref a1, .ref a2, .int 0, .int 0, .ref a3, .ref a4, .ref a5, .ref a6, .ref a7, .ref a8, .ref a9, .int 0, .int 0, .int 0, .ref a10, .ref a11, .ref a12, .ref a13, .int 0, .int 0, .ref a14, .ref a15, .ref a16, .ref a17, .int 0, .int 0, .ref a18, .ref a19, .ref a20, .ref a21])), (a1, .inl (k 0, 36, .inl (tI [] 0))), (a2, .inl (k 0, 36, .inl (tI [0, 0, 0, 0, 0, 0, 0, 0, 0, 0, 0, 0, 0, 0, 0, 0, 0, 0, 0] 0)))] H := hP
  have hD : va_D A [(a0, .inr (8, [.int 2, .int 0, .int 1, .int 0, .int 0, .int 0, .ref a1, .ref a2, .int 0, .int 0, .ref a3, .ref a4, .ref a5, .ref a6, .ref a7, .ref a8, .ref a9, .int 0, .int 0, .int 0, .ref a10, .ref a11, .ref a12, .ref a13, .int 0, .int 0, .ref a14, .ref a15, .ref a16, .ref a17, .int 0, .int 0, .ref a18, .ref a19, .ref a20, .ref a21])), (a1, .inl (k 0, 36, .inl (tI [] 0))), (a2, .inl (k 0, 36, .inl (tI [0, 0, 0, 0, 0, 0, 0, 0, 0, 0, 0, 0, 0, 0, 0, 0, 0, 0, 0] 0)))] := hD
  refine lv_iinc (v := 19) (lv' := [(1, .int 19), (0, .ref a0)]) hx hb dX11_keep_20 hl (k := 0) rfl (by decide) (by decide) rfl (fun ls hl => ?_)
  refine lv_goto (tgt := 2) hx hb dX11_keep_23 (by decide) ?_
  refine lv_iload_n hx hb dX11_keep_2 rfl (lv_at hl 0 rfl) ?_
  refine lv_bipush (v := 36) hx hb dX11_keep_3 (by decide) ?_
  refine lv_icmp_ge (tgt := 26) hx hb dX11_keep_5 (by decide) (fun cc => absurd cc (by decide +kernel)) (fun _ => ?_)
  refine lv_aload_n hx hb dX11_keep_8 rfl (lv_at hl 1 rfl) ?_
  refine va_get (D := D) (ci := 8) (v := .ref a2) (C := RX11) (T := TX11) (N := 36) hx hb hU iX11 hown hK.1 hP 0 rfl rfl 7 (by decide) (hU _ w792) (fun _ h9 => h9) rfl dX11_keep_9 ?_
  refine lv_iload_n hx hb dX11_keep_12 rfl (lv_at hl 0 rfl) ?_
  refine lv_aload_n hx hb dX11_keep_13 rfl (lv_at hl 1 rfl) ?_
  refine va_get (D := D) (ci := 8) (v := .ref a1) (C := RX11) (T := TX11) (N := 36) hx hb hU iX11 hown hK.1 hP 0 rfl rfl 6 (by decide) (hU _ w791) (fun _ h9 => h9) rfl dX11_keep_14 ?_
  refine lv_iload_n hx hb dX11_keep_17 rfl (lv_at hl 0 rfl) ?_
  refine ld_i (j := 19) (v := 0) hx hb hK hP 1 rfl (by decide +kernel) rfl dX11_keep_18 ?_
  refine st_i (j := 19) (g := tI [0, 0, 0, 0, 0, 0, 0, 0, 0, 0, 0, 0, 0, 0, 0, 0, 0, 0, 0, 0] 0) hx hb hK hP hD hS 2 rfl (by decide +kernel) upd_tI dX11_keep_19 (fun H locs hP hD hS => ?_)
  have hP : va_P D cl0 [(a0, .inr (8, [.int 2, .int 0, .int 1, .int 0, .int 0, .int 0, .ref a1, .ref a2, .int 0, .int 0, .ref a3, .ref a4, .ref a5, .ref a6, .ref a7, .ref a8, .ref a9, .int 0, .int 0, .int 0, .ref a10, .ref a11, .ref a12, .ref a13, .int 0, .int 0, .ref a14, .ref a15, .ref a16, .ref a17, .int 0, .int 0, .ref a18, .ref a19, .ref a20, .ref a21])), (a1, .inl (k 0, 36, .inl (tI [] 0))), (a2, .inl (k 0, 36, .inl (tI [0, 0, 0, 0, 0, 0, 0, 0, 0, 0, 0, 0, 0, 0, 0, 0, 0, 0, 0, 0] 0)))] H := hP
  have hD : va_D A [(a0, .inr (8, [.int 2, .int 0, .int 1, .int 0, .int 0, .int 0, .ref a1, .ref a2, .int 0, .int 0, .ref a3, .ref a4, .ref a5, .ref a6, .ref a7, .ref a8, .ref a9, .int 0, .int 0, .int 0, .ref a10, .ref a11, .ref a12, .ref a13, .int 0, .int 0, .ref a14, .ref a15, .ref a16, .ref a17, .int 0, .int 0, .ref a18, .ref a19, .ref a20, .ref a21])), (a1, .inl (k 0, 36, .inl (tI [] 0))), (a2, .inl (k 0, 36, .inl (tI [0, 0, 0, 0, 0, 0, 0, 0, 0, 0, 0, 0, 0, 0, 0, 0, 0, 0, 0, 0] 0)))] := hD
  refine lv_iinc (v := 20) (lv' := [(1, .int 20), (0, .ref a0)]) hx hb dX11_keep_20 hl (k := 0) rfl (by decide) (by decide) rfl (fun ls hl => ?_)
  refine lv_goto (tgt := 2) hx hb dX11_keep_23 (by decide) ?_
  refine lv_iload_n hx hb dX11_keep_2 rfl (lv_at hl 0 rfl) ?_
  refine lv_bipush (v := 36) hx hb dX11_keep_3 (by decide) ?_
  refine lv_icmp_ge (tgt := 26) hx hb dX11_keep_5 (by decide) (fun cc => absurd cc (by decide +kernel)) (fun _ => ?_)
  refine lv_aload_n hx hb dX11_keep_8 rfl (lv_at hl 1 rfl) ?_
  refine va_get (D := D) (ci := 8) (v := .ref a2) (C := RX11) (T := TX11) (N := 36) hx hb hU iX11 hown hK.1 hP 0 rfl rfl 7 (by decide) (hU _ w792) (fun _ h9 => h9) rfl dX11_keep_9 ?_
  refine lv_iload_n hx hb dX11_keep_12 rfl (lv_at hl 0 rfl) ?_
  refine lv_aload_n hx hb dX11_keep_13 rfl (lv_at hl 1 rfl) ?_
  refine va_get (D := D) (ci := 8) (v := .ref a1) (C := RX11) (T := TX11) (N := 36) hx hb hU iX11 hown hK.1 hP 0 rfl rfl 6 (by decide) (hU _ w791) (fun _ h9 => h9) rfl dX11_keep_14 ?_
  refine lv_iload_n hx hb dX11_keep_17 rfl (lv_at hl 0 rfl) ?_
  refine ld_i (j := 20) (v := 0) hx hb hK hP 1 rfl (by decide +kernel) rfl dX11_keep_18 ?_
  refine st_i (j := 20) (g := tI [0, 0, 0, 0, 0, 0, 0, 0, 0, 0, 0, 0, 0, 0, 0, 0, 0, 0, 0, 0, 0] 0) hx hb hK hP hD hS 2 rfl (by decide +kernel) upd_tI dX11_keep_19 (fun H locs hP hD hS => ?_)
  have hP : va_P D cl0 [(a0, .inr (8, [.int 2, .int 0, .int 1, .int 0, .int 0, .int 0, .ref a1, .ref a2, .int 0, .int 0, .ref a3, .ref a4, .ref a5, .ref a6, .ref a7, .ref a8, .ref a9, .int 0, .int 0, .int 0, .ref a10, .ref a11, .ref a12, .ref a13, .int 0, .int 0, .ref a14, .ref a15, .ref a16, .ref a17, .int 0, .int 0, .ref a18, .ref a19, .ref a20, .ref a21])), (a1, .inl (k 0, 36, .inl (tI [] 0))), (a2, .inl (k 0, 36, .inl (tI [0, 0, 0, 0, 0, 0, 0, 0, 0, 0, 0, 0, 0, 0, 0, 0, 0, 0, 0, 0, 0] 0)))] H := hP
  have hD : va_D A [(a0, .inr (8, [.int 2, .int 0, .int 1, .int 0, .int 0, .int 0, .ref a1, .ref a2, .int 0, .int 0, .ref a3, .ref a4, .ref a5, .ref a6, .ref a7, .ref a8, .ref a9, .int 0, .int 0, .int 0, .ref a10, .ref a11, .ref a12, .ref a13, .int 0, .int 0, .ref a14, .ref a15, .ref a16, .ref a17, .int 0, .int 0, .ref a18, .ref a19, .ref a20, .ref a21])), (a1, .inl (k 0, 36, .inl (tI [] 0))), (a2, .inl (k 0, 36, .inl (tI [0, 0, 0, 0, 0, 0, 0, 0, 0, 0, 0, 0, 0, 0, 0, 0, 0, 0, 0, 0, 0] 0)))] := hD
  refine lv_iinc (v := 21) (lv' := [(1, .int 21), (0, .ref a0)]) hx hb dX11_keep_20 hl (k := 0) rfl (by decide) (by decide) rfl (fun ls hl => ?_)
  refine lv_goto (tgt := 2) hx hb dX11_keep_23 (by decide) ?_
  refine lv_iload_n hx hb dX11_keep_2 rfl (lv_at hl 0 rfl) ?_
  refine lv_bipush (v := 36) hx hb dX11_keep_3 (by decide) ?_
  refine lv_icmp_ge (tgt := 26) hx hb dX11_keep_5 (by decide) (fun cc => absurd cc (by decide +kernel)) (fun _ => ?_)
  refine lv_aload_n hx hb dX11_keep_8 rfl (lv_at hl 1 rfl) ?_
  refine va_get (D := D) (ci := 8) (v := .ref a2) (C := RX11) (T := TX11) (N := 36) hx hb hU iX11 hown hK.1 hP 0 rfl rfl 7 (by decide) (hU _ w792) (fun _ h9 => h9) rfl dX11_keep_9 ?_
  refine lv_iload_n hx hb dX11_keep_12 rfl (lv_at hl 0 rfl) ?_
  refine lv_aload_n hx hb dX11_keep_13 rfl (lv_at hl 1 rfl) ?_
  refine va_get (D := D) (ci := 8) (v := .ref a1) (C := RX11) (T := TX11) (N := 36) hx hb hU iX11 hown hK.1 hP 0 rfl rfl 6 (by decide) (hU _ w791) (fun _ h9 => h9) rfl dX11_keep_14 ?_
  refine lv_iload_n hx hb dX11_keep_17 rfl (lv_at hl 0 rfl) ?_
  refine ld_i (j := 21) (v := 0) hx hb hK hP 1 rfl (by decide +kernel) rfl dX11_keep_18 ?_
  refine st_i (j := 21) (g := tI [0, 0, 0, 0, 0, 0, 0, 0, 0, 0, 0, 0, 0, 0, 0, 0, 0, 0, 0, 0, 0, 0] 0) hx hb hK hP hD hS 2 rfl (by decide +kernel) upd_tI dX11_keep_19 (fun H locs hP hD hS => ?_)
  have hP : va_P D cl0 [(a0, .inr (8, [.int 2, .int 0, .int 1, .int 0, .int 0, .int 0, .ref a1, .ref a2, .int 0, .int 0, .ref a3, .ref a4, .ref a5, .ref a6, .ref a7, .ref a8, .ref a9, .int 0, .int 0, .int 0, .ref a10, .ref a11, .ref a12, .ref a13, .int 0, .int 0, .ref a14, .ref a15, .ref a16, .ref a17, .int 0, .int 0, .ref a18, .ref a19, .ref a20, .ref a21])), (a1, .inl (k 0, 36, .inl (tI [] 0))), (a2, .inl (k 0, 36, .inl (tI [0, 0, 0, 0, 0, 0, 0, 0, 0, 0, 0, 0, 0, 0, 0, 0, 0, 0, 0, 0, 0, 0] 0)))] H := hP
  have hD : va_D A [(a0, .inr (8, [.int 2, .int 0, .int 1, .int 0, .int 0, .int 0, .ref a1, .ref a2, .int 0, .int 0, .ref a3, .ref a4, .ref a5, .ref a6, .ref a7, .ref a8, .ref a9, .int 0, .int 0, .int 0, .ref a10, .ref a11, .ref a12, .ref a13, .int 0, .int 0, .ref a14, .ref a15, .ref a16, .ref a17, .int 0, .int 0, .ref a18, .ref a19, .ref a20, .ref a21])), (a1, .inl (k 0, 36, .inl (tI [] 0))), (a2, .inl (k 0, 36, .inl (tI [0, 0, 0, 0, 0, 0, 0, 0, 0, 0, 0, 0, 0, 0, 0, 0, 0, 0, 0, 0, 0, 0] 0)))] := hD
  refine lv_iinc (v := 22) (lv' := [(1, .int 22), (0, .ref a0)]) hx hb dX11_keep_20 hl (k := 0) rfl (by decide) (by decide) rfl (fun ls hl => ?_)
  refine lv_goto (tgt := 2) hx hb dX11_keep_23 (by decide) ?_
  refine lv_iload_n hx hb dX11_keep_2 rfl (lv_at hl 0 rfl) ?_
  refine lv_bipush (v := 36) hx hb dX11_keep_3 (by decide) ?_
  refine lv_icmp_ge (tgt := 26) hx hb dX11_keep_5 (by decide) (fun cc => absurd cc (by decide +kernel)) (fun _ => ?_)
  refine lv_aload_n hx hb dX11_keep_8 rfl (lv_at hl 1 rfl) ?_
  refine va_get (D := D) (ci := 8) (v := .ref a2) (C := RX11) (T := TX11) (N := 36) hx hb hU iX11 hown hK.1 hP 0 rfl rfl 7 (by decide) (hU _ w792) (fun _ h9 => h9) rfl dX11_keep_9 ?_
  refine lv_iload_n hx hb dX11_keep_12 rfl (lv_at hl 0 rfl) ?_
  refine lv_aload_n hx hb dX11_keep_13 rfl (lv_at hl 1 rfl) ?_
  refine va_get (D := D) (ci := 8) (v := .ref a1) (C := RX11) (T := TX11) (N := 36) hx hb hU iX11 hown hK.1 hP 0 rfl rfl 6 (by decide) (hU _ w791) (fun _ h9 => h9) rfl dX11_keep_14 ?_
  refine lv_iload_n hx hb dX11_keep_17 rfl (lv_at hl 0 rfl) ?_
  refine ld_i (j := 22) (v := 0) hx hb hK hP 1 rfl (by decide +kernel) rfl dX11_keep_18 ?_
  refine st_i (j := 22) (g := tI [0, 0, 0, 0, 0, 0, 0, 0, 0, 0, 0, 0, 0, 0, 0, 0, 0, 0, 0, 0, 0, 0, 0] 0) hx hb hK hP hD hS 2 rfl (by decide +kernel) upd_tI dX11_keep_19 (fun H locs hP hD hS => ?_)
  have hP : va_P D cl0 [(a0, .inr (8, [.int 2, .int 0, .int 1, .int 0, .int 0, .int 0, .ref a1, .ref a2, .int 0, .int 0, .ref a3, .ref a4, .ref a5, .ref a6, .ref a7, .ref a8, .ref a9, .int 0, .int 0, .int 0, .ref a10, .ref a11, .ref a12, .ref a13, .int 0, .int 0, .ref a14, .ref a15, .ref a16, .ref a17, .int 0, .int 0, .ref a18, .ref a19, .ref a20, .ref a21])), (a1, .inl (k 0, 36, .inl (tI [] 0))), (a2, .inl (k 0, 36, .inl (tI [0, 0, 0, 0, 0, 0, 0, 0, 0, 0, 0, 0, 0, 0, 0, 0, 0, 0, 0, 0, 0, 0, 0] 0)))] H := hP
  have hD : va_D A [(a0, .inr (8, [.int 2, .int 0, .int 1, .int 0, .int 0, .int 0, .ref a1, .ref a2, .int 0, .int 0, .ref a3, .ref a4, .ref a5, .ref a6, .ref a7, .ref a8, .ref a9, .int 0, .int 0, .int 0, .ref a10, .ref a11, .ref a12, .ref a13, .int 0, .int 0, .ref a14, .ref a15, .ref a16, .ref a17, .int 0, .int 0, .ref a18, .ref a19, .ref a20, .ref a21])), (a1, .inl (k 0, 36, .inl (tI [] 0))), (a2, .inl (k 0, 36, .inl (tI [0, 0, 0, 0, 0, 0, 0, 0, 0, 0, 0, 0, 0, 0, 0, 0, 0, 0, 0, 0, 0, 0, 0] 0)))] := hD
  refine lv_iinc (v := 23) (lv' := [(1, .int 23), (0, .ref a0)]) hx hb dX11_keep_20 hl (k := 0) rfl (by decide) (by decide) rfl (fun ls hl => ?_)
  refine lv_goto (tgt := 2) hx hb dX11_keep_23 (by decide) ?_
  refine lv_iload_n hx hb dX11_keep_2 rfl (lv_at hl 0 rfl) ?_
  refine lv_bipush (v := 36) hx hb dX11_keep_3 (by decide) ?_
  refine lv_icmp_ge (tgt := 26) hx hb dX11_keep_5 (by decide) (fun cc => absurd cc (by decide +kernel)) (fun _ => ?_)
  refine lv_aload_n hx hb dX11_keep_8 rfl (lv_at hl 1 rfl) ?_
  refine va_get (D := D) (ci := 8) (v := .ref a2) (C := RX11) (T := TX11) (N := 36) hx hb hU iX11 hown hK.1 hP 0 rfl rfl 7 (by decide) (hU _ w792) (fun _ h9 => h9) rfl dX11_keep_9 ?_
  refine lv_iload_n hx hb dX11_keep_12 rfl (lv_at hl 0 rfl) ?_
  refine lv_aload_n hx hb dX11_keep_13 rfl (lv_at hl 1 rfl) ?_
  refine va_get (D := D) (ci := 8) (v := .ref a1) (C := RX11) (T := TX11) (N := 36) hx hb hU iX11 hown hK.1 hP 0 rfl rfl 6 (by decide) (hU _ w791) (fun _ h9 => h9) rfl dX11_keep_14 ?_
  refine lv_iload_n hx hb dX11_keep_17 rfl (lv_at hl 0 rfl) ?_
  refine ld_i (j := 23) (v := 0) hx hb hK hP 1 rfl (by decide +kernel) rfl dX11_keep_18 ?_
  refine st_i (j := 23) (g := tI [0, 0, 0, 0, 0, 0, 0, 0, 0, 0, 0, 0, 0, 0, 0, 0, 0, 0, 0, 0, 0, 0, 0, 0] 0) hx hb hK hP hD hS 2 rfl (by decide +kernel) upd_tI dX11_keep_19 (fun H locs hP hD hS => ?_)
  have hP : va_P D cl0 [(a0, .inr (8, [.int 2, .int 0, .int 1, .int 0, .int 0, .int 0, .ref a1, .ref a2, .int 0, .int 0, .ref a3, .ref a4, .ref a5, .ref a6, .ref a7, .ref a8, .ref a9, .int 0, .int 0, .int 0, .ref a10, .ref a11, .ref a12, .ref a13, .int 0, .int 0, .ref a14, .ref a15, .ref a16, .ref a17, .int 0, .int 0, .ref a18, .ref a19, .ref a20, .ref a21])), (a1, .inl (k 0, 36, .inl (tI [] 0))), (a2, .inl (k 0, 36, .inl (tI [0, 0, 0, 0, 0, 0, 0, 0, 0, 0, 0, 0, 0, 0, 0, 0, 0, 0, 0, 0, 0, 0, 0, 0] 0)))] H := hP
  have hD : va_D A [(a0, .inr (8, [.int 2, .int 0, .int 1, .int 0, .int 0, .int 0, .ref a1, .ref a2, .int 0, .int 0, .ref a3, .ref a4, .ref a5, .ref a6, .ref a7, .ref a8, .ref a9, .int 0, .int 0, .int 0, .ref a10, .ref a11, .ref a12, .ref a13, .int 0, .int 0, .ref a14, .ref a15, .ref a16, .ref a17, .int 0, .int 0, .ref a18, .ref a19, .ref a20, .ref a21])), (a1, .inl (k 0, 36, .inl (tI [] 0))), (a2, .inl (k 0, 36, .inl (tI [0, 0, 0, 0, 0, 0, 0, 0, 0, 0, 0, 0, 0, 0, 0, 0, 0, 0, 0, 0, 0, 0, 0, 0] 0)))] := hD
  refine lv_iinc (v := 24) (lv' := [(1, .int 24), (0, .ref a0)]) hx hb dX11_keep_20 hl (k := 0) rfl (by decide) (by decide) rfl (fun ls hl => ?_)
  refine lv_goto (tgt := 2) hx hb dX11_keep_23 (by decide) ?_
  refine lv_iload_n hx hb dX11_keep_2 rfl (lv_at hl 0 rfl) ?_
  refine lv_bipush (v := 36) hx hb dX11_keep_3 (by decide) ?_
  refine lv_icmp_ge (tgt := 26) hx hb dX11_keep_5 (by decide) (fun cc => absurd cc (by decide +kernel)) (fun _ => ?_)
  refine lv_aload_n hx hb dX11_keep_8 rfl (lv_at hl 1 rfl) ?_
  refine va_get (D := D) (ci := 8) (v := .ref a2) (C := RX11) (T := TX11) (N := 36) hx hb hU iX11 hown hK.1 hP 0 rfl rfl 7 (by decide) (hU _ w792) (fun _ h9 => h9) rfl dX11_keep_9 ?_
  refine lv_iload_n hx hb dX11_keep_12 rfl (lv_at hl 0 rfl) ?_
  refine lv_aload_n hx hb dX11_keep_13 rfl (lv_at hl 1 rfl) ?_
  refine va_get (D := D) (ci := 8) (v := .ref a1) (C := RX11) (T := TX11) (N := 36) hx hb hU iX11 hown hK.1 hP 0 rfl rfl 6 (by decide) (hU _ w791) (fun _ h9 => h9) rfl dX11_keep_14 ?_
  refine lv_iload_n hx hb dX11_keep_17 rfl (lv_at hl 0 rfl) ?_
  refine ld_i (j := 24) (v := 0) hx hb hK hP 1 rfl (by decide +kernel) rfl dX11_keep_18 ?_
  refine st_i (j := 24) (g := tI [0, 0, 0, 0, 0, 0, 0, 0, 0, 0, 0, 0, 0, 0, 0, 0, 0, 0, 0, 0, 0, 0, 0, 0, 0] 0) hx hb hK hP hD hS 2 rfl (by decide +kernel) upd_tI dX11_keep_19 (fun H locs hP hD hS => ?_)
  have hP : va_P D cl0 [(a0, .inr (8, [.int 2, .int 0, .int 1, .int 0, .int 0, .int 0, .ref a1, .ref a2, .int 0, .int 0, .ref a3, .ref a4, .ref a5, .ref a6, .ref a7, .ref a8, .ref a9, .int 0, .int 0, .int 0, .ref a10, .ref a11, .ref a12, .ref a13, .int 0, .int 0, .ref a14, .ref a15, .ref a16, .ref a17, .int 0, .int 0, .ref a18, .ref a19, .ref a20, .ref a21])), (a1, .inl (k 0, 36, .inl (tI [] 0))), (a2, .inl (k 0, 36, .inl (tI [0, 0, 0, 0, 0, 0, 0, 0, 0, 0, 0, 0, 0, 0, 0, 0, 0, 0, 0, 0, 0, 0, 0, 0, 0] 0)))] H := hP
  have hD : va_D A [(a0, .inr (8, [.int 2, .int 0, .int 1, .int 0, .int 0, .int 0, .ref a1, .ref a2, .int 0, .int 0, .ref a3, .ref a4, .ref a5, .ref a6, .ref a7, .ref a8, .ref a9, .int 0, .int 0, .int 0, .ref a10, .ref a11, .ref a12, .ref a13, .int 0, .int 0, .ref a14, .ref a15, .ref a16, .ref a17, .int 0, .int 0, .ref a18, .ref a19, .ref a20, .ref a21])), (a1, .inl (k 0, 36, .inl (tI [] 0))), (a2, .inl (k 0, 36, .inl (tI [0, 0, 0, 0, 0, 0, 0, 0, 0, 0, 0, 0, 0, 0, 0, 0, 0, 0, 0, 0, 0, 0, 0, 0, 0] 0)))] := hD
  refine lv_iinc (v := 25) (lv' := [(1, .int 25), (0, .ref a0)]) hx hb dX11_keep_20 hl (k := 0) rfl (by decide) (by decide) rfl (fun ls hl => ?_)
  refine lv_goto (tgt := 2) hx hb dX11_keep_23 (by decide) ?_
  refine lv_iload_n hx hb dX11_keep_2 rfl (lv_at hl 0 rfl) ?_
  refine lv_bipush (v := 36) hx hb dX11_keep_3 (by decide) ?_
  refine lv_icmp_ge (tgt := 26) hx hb dX11_keep_5 (by decide) (fun cc => absurd cc (by decide +kernel)) (fun _ => ?_)
  refine lv_aload_n hx hb dX11_keep_8 rfl (lv_at hl 1 rfl) ?_
  refine va_get (D := D) (ci := 8) (v := .ref a2) (C := RX11) (T := TX11) (N := 36) hx hb hU iX11 hown hK.1 hP 0 rfl rfl 7 (by decide) (hU _ w792) (fun _ h9 => h9) rfl dX11_keep_9 ?_
  refine lv_iload_n hx hb dX11_keep_12 rfl (lv_at hl 0 rfl) ?_
  refine lv_aload_n hx hb dX11_keep_13 rfl (lv_at hl 1 rfl) ?_
  refine va_get (D := D) (ci := 8) (v := .ref a1) (C := RX11) (T := TX11) (N := 36) hx hb hU iX11 hown hK.1 hP 0 rfl rfl 6 (by decide) (hU _ w791) (fun _ h9 => h9) rfl dX11_keep_14 ?_
  refine lv_iload_n hx hb dX11_keep_17 rfl (lv_at hl 0 rfl) ?_
  refine ld_i (j := 25) (v := 0) hx hb hK hP 1 rfl (by decide +kernel) rfl dX11_keep_18 ?_
  refine st_i (j := 25) (g := tI [0, 0, 0, 0, 0, 0, 0, 0, 0, 0, 0, 0, 0, 0, 0, 0, 0, 0, 0, 0, 0, 0, 0, 0, 0, 0] 0) hx hb hK hP hD hS 2 rfl (by decide +kernel) upd_tI dX11_keep_19 (fun H locs hP hD hS => ?_)
  have hP : va_P D cl0 [(a0, .inr (8, [.int 2, .int 0, .int 1, .int 0, .int 0, .int 0, .ref a1, .ref a2, .int 0, .int 0, .ref a3, .ref a4, .ref a5, .ref a6, .ref a7, .ref a8, .ref a9, .int 0, .int 0, .int 0, .ref a10, .ref a11, .ref a12, .ref a13, .int 0, .int 0, .ref a14, .ref a15, .ref a16, .ref a17, .int 0, .int 0, .ref a18, .ref a19, .ref a20, .ref a21])), (a1, .inl (k 0, 36, .inl (tI [] 0))), (a2, .inl (k 0, 36, .inl (tI [0, 0, 0, 0, 0, 0, 0, 0, 0, 0, 0, 0, 0, 0, 0, 0, 0, 0, 0, 0, 0, 0, 0, 0, 0, 0] 0)))] H := hP
  have hD : va_D A [(a0, .inr (8, [.int 2, .int 0, .int 1, .int 0, .int 0, .int 0, .ref a1, .ref a2, .int 0, .int 0, .ref a3, .ref a4, .ref a5, .ref a6, .ref a7, .ref a8, .ref a9, .int 0, .int 0, .int 0, .ref a10, .ref a11, .ref a12, .ref a13, .int 0, .int 0, .ref a14, .ref a15, .ref a16, .ref a17, .int 0, .int 0, .ref a18, .ref a19, .ref a20, .ref a21])), (a1, .inl (k 0, 36, .inl (tI [] 0))), (a2, .inl (k 0, 36, .inl (tI [0, 0, 0, 0, 0, 0, 0, 0, 0, 0, 0, 0, 0, 0, 0, 0, 0, 0, 0, 0, 0, 0, 0, 0, 0, 0] 0)))] := hD
  refine lv_iinc (v := 26) (lv' := [(1, .int 26), (0, .ref a0)]) hx hb dX11_keep_20 hl (k := 0) rfl (by decide) (by decide) rfl (fun ls hl => ?_)
  refine lv_goto (tgt := 2) hx hb dX11_keep_23 (by decide) ?_
  refine lv_iload_n hx hb dX11_keep_2 rfl (lv_at hl 0 rfl) ?_
  refine lv_bipush (v := 36) hx hb dX11_keep_3 (by decide) ?_
  refine lv_icmp_ge (tgt := 26) hx hb dX11_keep_5 (by decide) (fun cc => absurd cc (by decide +kernel)) (fun _ => ?_)
  refine lv_aload_n hx hb dX11_keep_8 rfl (lv_at hl 1 rfl) ?_
  refine va_get (D := D) (ci := 8) (v := .ref a2) (C := RX11) (T := TX11) (N := 36) hx hb hU iX11 hown hK.1 hP 0 rfl rfl 7 (by decide) (hU _ w792) (fun _ h9 => h9) rfl dX11_keep_9 ?_
  refine lv_iload_n hx hb dX11_keep_12 rfl (lv_at hl 0 rfl) ?_
  refine lv_aload_n hx hb dX11_keep_13 rfl (lv_at hl 1 rfl) ?_
  refine va_get (D := D) (ci := 8) (v := .ref a1) (C := RX11) (T := TX11) (N := 36) hx hb hU iX11 hown hK.1 hP 0 rfl rfl 6 (by decide) (hU _ w791) (fun _ h9 => h9) rfl dX11_keep_14 ?_
  refine lv_iload_n hx hb dX11_keep_17 rfl (lv_at hl 0 rfl) ?_
  refine ld_i (j := 26) (v := 0) hx hb hK hP 1 rfl (by decide +kernel) rfl dX11_keep_18 ?_
  refine st_i (j := 26) (g := tI [0, 0, 0, 0, 0, 0, 0, 0, 0, 0, 0, 0, 0, 0, 0, 0, 0, 0, 0, 0, 0, 0, 0, 0, 0, 0, 0] 0) hx hb hK hP hD hS 2 rfl (by decide +kernel) upd_tI dX11_keep_19 (fun H locs hP hD hS => ?_)
  have hP : va_P D cl0 [(a0, .inr (8, [.int 2, .int 0, .int 1, .int 0, .int 0, .int 0, .ref a1, .ref a2, .int 0, .int 0, .ref a3, .ref a4, .ref a5, .ref a6, .ref a7, .ref a8, .ref a9, .int 0, .int 0, .int 0, .ref a10, .ref a11, .ref a12, .ref a13, .int 0, .int 0, .ref a14, .ref a15, .ref a16, .ref a17, .int 0, .int 0, .ref a18, .ref a19, .ref a20, .ref a21])), (a1, .inl (k 0, 36, .inl (tI [] 0))), (a2, .inl (k 0, 36, .inl (tI [0, 0, 0, 0, 0, 0, 0, 0, 0, 0, 0, 0, 0, 0, 0, 0, 0, 0, 0, 0, 0, 0, 0, 0, 0, 0, 0] 0)))] H := hP
  have hD : va_D A [(a0, .inr (8, [.int 2, .int 0, .int 1, .int 0, .int 0, .int 0, .ref a1, .ref a2, .int 0, .int 0, .ref a3, .ref a4, .ref a5, .ref a6, .ref a7, .ref a8, .ref a9, .int 0, .int 0, .int 0, .ref a10, .ref a11, .ref a12, .ref a13, .int 0, .int 0, .ref a14, .ref a15, .ref a16, .ref a17, .int 0, .int 0, .ref a18, .ref a19, .ref a20, .ref a21])), (a1, .inl (k 0, 36, .inl (tI [] 0))), (a2, .inl (k 0, 36, .inl (tI [0, 0, 0, 0, 0, 0, 0, 0, 0, 0, 0, 0, 0, 0, 0, 0, 0, 0, 0, 0, 0, 0, 0, 0, 0, 0, 0] 0)))] := hD
  refine lv_iinc (v := 27) (lv' := [(1, .int 27), (0, .ref a0)]) hx hb dX11_keep_20 hl (k := 0) rfl (by decide) (by decide) rfl (fun ls hl => ?_)
  refine lv_goto (tgt := 2) hx hb dX11_keep_23 (by decide) ?_
  refine lv_iload_n hx hb dX11_keep_2 rfl (lv_at hl 0 rfl) ?_
  refine lv_bipush (v := 36) hx hb dX11_keep_3 (by decide) ?_
  refine lv_icmp_ge (tgt := 26) hx hb dX11_keep_5 (by decide) (fun cc => absurd cc (by decide +kernel)) (fun _ => ?_)
  refine lv_aload_n hx hb dX11_keep_8 rfl (lv_at hl 1 rfl) ?_
  refine va_get (D := D) (ci := 8) (v := .ref a2) (C := RX11) (T := TX11) (N := 36) hx hb hU iX11 hown hK.1 hP 0 rfl rfl 7 (by decide) (hU _ w792) (fun _ h9 => h9) rfl dX11_keep_9 ?_
  refine lv_iload_n hx hb dX11_keep_12 rfl (lv_at hl 0 rfl) ?_
  refine lv_aload_n hx hb dX11_keep_13 rfl (lv_at hl 1 rfl) ?_
  refine va_get (D := D) (ci := 8) (v := .ref a1) (C := RX11) (T := TX11) (N := 36) hx hb hU iX11 hown hK.1 hP 0 rfl rfl 6 (by decide) (hU _ w791) (fun _ h9 => h9) rfl dX11_keep_14 ?_
  refine lv_iload_n hx hb dX11_keep_17 rfl (lv_at hl 0 rfl) ?_
  refine ld_i (j := 27) (v := 0) hx hb hK hP 1 rfl (by decide +kernel) rfl dX11_keep_18 ?_
  refine st_i (j := 27) (g := tI [0, 0, 0, 0, 0, 0, 0, 0, 0, 0, 0, 0, 0, 0, 0, 0, 0, 0, 0, 0, 0, 0, 0, 0, 0, 0, 0, 0] 0) hx hb hK hP hD hS 2 rfl (by decide +kernel) upd_tI dX11_keep_19 (fun H locs hP hD hS => ?_)
  have hP : va_P D cl0 [(a0, .inr (8, [.int 2, .int 0, .int 1, .int 0, .int 0, .int 0, .ref a1, .ref a2, .int 0, .int 0, .ref a3, .ref a4, .ref a5, .ref a6, .ref a7, .ref a8, .ref a9, .int 0, .int 0, .int 0, .ref a10, .ref a11, .ref a12, .ref a13, .int 0, .int 0, .ref a14, .ref a15, .ref a16, .ref a17, .int 0, .int 0, .ref a18, .ref a19, .ref a20, .ref a21])), (a1, .inl (k 0, 36, .inl (tI [] 0))), (a2, .inl (k 0, 36, .inl (tI [0, 0, 0, 0, 0, 0, 0, 0, 0, 0, 0, 0, 0, 0, 0, 0, 0, 0, 0, 0, 0, 0, 0, 0, 0, 0, 0, 0] 0)))] H := hP
  have hD : va_D A [(a0, .inr (8, [.int 2, .int 0, .int 1, .int 0, .int 0, .int 0, .ref a1, .ref a2, .int 0, .int 0, .ref a3, .ref a4, .ref a5, .ref a6, .ref a7, .ref a8, .ref a9, .int 0, .int 0, .int 0, .ref a10, .ref a11, .ref a12, .ref a13, .int 0, .int 0, .ref a14, .ref a15, .ref a16, .ref a17, .int 0, .int 0, .ref a18, .ref a19, .ref a20, .ref a21])), (a1, .inl (k 0, 36, .inl (tI [] 0))), (a2, .inl (k 0, 36, .inl (tI [0, 0, 0, 0, 0, 0, 0, 0, 0, 0, 0, 0, 0, 0, 0, 0, 0, 0, 0, 0, 0, 0, 0, 0, 0, 0, 0, 0] 0)))] := hD
  refine lv_iinc (v := 28) (lv' := [(1, .int 28), (0, .ref a0)]) hx hb dX11_keep_20 hl (k := 0) rfl (by decide) (by decide) rfl (fun ls hl => ?_)
  refine lv_goto (tgt := 2) hx hb dX11_keep_23 (by decide) ?_
  refine lv_iload_n hx hb dX11_keep_2 rfl (lv_at hl 0 rfl) ?_
  refine lv_bipush (v := 36) hx hb dX11_keep_3 (by decide) ?_
  refine lv_icmp_ge (tgt := 26) hx hb dX11_keep_5 (by decide) (fun cc => absurd cc (by decide +kernel)) (fun _ => ?_)
  refine lv_aload_n hx hb dX11_keep_8 rfl (lv_at hl 1 rfl) ?_
  refine va_get (D := D) (ci := 8) (v := .ref a2) (C := RX11) (T := TX11) (N := 36) hx hb hU iX11 hown hK.1 hP 0 rfl rfl 7 (by decide) (hU _ w792) (fun _ h9 => h9) rfl dX11_keep_9 ?_
  refine lv_iload_n hx hb dX11_keep_12 rfl (lv_at hl 0 rfl) ?_
  refine lv_aload_n hx hb dX11_keep_13 rfl (lv_at hl 1 rfl) ?_
  refine va_get (D := D) (ci := 8) (v := .ref a1) (C := RX11) (T := TX11) (N := 36) hx hb hU iX11 hown hK.1 hP 0 rfl rfl 6 (by decide) (hU _ w791) (fun _ h9 => h9) rfl dX11_keep_14 ?_
  refine lv_iload_n hx hb dX11_keep_17 rfl (lv_at hl 0 rfl) ?_
  refine ld_i (j := 28) (v := 0) hx hb hK hP 1 rfl (by decide +kernel) rfl dX11_keep_18 ?_
  refine st_i (j := 28) (g := tI [0, 0, 0, 0, 0, 0, 0, 0, 0, 0, 0, 0, 0, 0, 0, 0, 0, 0, 0, 0, 0, 0, 0, 0, 0, 0, 0, 0, 0] 0) hx hb hK hP hD hS 2 rfl (by decide +kernel) upd_tI dX11_keep_19 (fun H locs hP hD hS => ?_)
  have hP : va_P D cl0 [(a0, .inr (8, [.int 2, .int 0, .int 1, .int 0, .int 0, .int 0, .ref a1, .ref a2, .int 0, .int 0, .ref a3, .ref a4, .ref a5, .ref a6, .ref a7, .ref a8, .ref a9, .int 0, .int 0, .int 0, .ref a10, .ref a11, .ref a12, .ref a13, .int 0, .int 0, .ref a14, .ref a15, .ref a16, .ref a17, .int 0, .int 0, .ref a18, .ref a19, .ref a20, .ref a21])), (a1, .inl (k 0, 36, .inl (tI [] 0))), (a2, .inl (k 0, 36, .inl (tI [0, 0, 0, 0, 0, 0, 0, 0, 0, 0, 0, 0, 0, 0, 0, 0, 0, 0, 0, 0, 0, 0, 0, 0, 0, 0, 0, 0, 0] 0)))] H := hP
  have hD : va_D A [(a0, .inr (8, [.int 2, .int 0, .int 1, .int 0, .int 0, .int 0, .ref a1, .ref a2, .int 0, .int 0, .ref a3, .ref a4, .ref a5, .ref a6, .ref a7, .ref a8, .ref a9, .int 0, .int 0, .int 0, .ref a10, .ref a11, .ref a12, .ref a13, .int 0, .int 0, .ref a14, .ref a15, .ref a16, .ref a17, .int 0, .int 0, .ref a18, .ref a19, .ref a20, .ref a21])), (a1, .inl (k 0, 36, .inl (tI [] 0))), (a2, .inl (k 0, 36, .inl (tI [0, 0, 0, 0, 0, 0, 0, 0, 0, 0, 0, 0, 0, 0, 0, 0, 0, 0, 0, 0, 0, 0, 0, 0, 0, 0, 0, 0, 0] 0)))] := hD
  refine lv_iinc (v := 29) (lv' := [(1, .int 29), (0, .ref a0)]) hx hb dX11_keep_20 hl (k := 0) rfl (by decide) (by decide) rfl (fun ls hl => ?_)
  refine lv_goto (tgt := 2) hx hb dX11_keep_23 (by decide) ?_
  refine lv_iload_n hx hb dX11_keep_2 rfl (lv_at hl 0 rfl) ?_
  refine lv_bipush (v := 36) hx hb dX11_keep_3 (by decide) ?_
  refine lv_icmp_ge (tgt := 26) hx hb dX11_keep_5 (by decide) (fun cc => absurd cc (by decide +kernel)) (fun _ => ?_)
  refine lv_aload_n hx hb dX11_keep_8 rfl (lv_at hl 1 rfl) ?_
  refine va_get (D := D) (ci := 8) (v := .ref a2) (C := RX11) (T := TX11) (N := 36) hx hb hU iX11 hown hK.1 hP 0 rfl rfl 7 (by decide) (hU _ w792) (fun _ h9 => h9) rfl dX11_keep_9 ?_
  refine lv_iload_n hx hb dX11_keep_12 rfl (lv_at hl 0 rfl) ?_
  refine lv_aload_n hx hb dX11_keep_13 rfl (lv_at hl 1 rfl) ?_
  refine va_get (D := D) (ci := 8) (v := .ref a1) (C := RX11) (T := TX11) (N := 36) hx hb hU iX11 hown hK.1 hP 0 rfl rfl 6 (by decide) (hU _ w791) (fun _ h9 => h9) rfl dX11_keep_14 ?_
  refine lv_iload_n hx hb dX11_keep_17 rfl (lv_at hl 0 rfl) ?_
  refine ld_i (j := 29) (v := 0) hx hb hK hP 1 rfl (by decide +kernel) rfl dX11_keep_18 ?_
  refine st_i (j := 29) (g := tI [0, 0, 0, 0, 0, 0, 0, 0, 0, 0, 0, 0, 0, 0, 0, 0, 0, 0, 0, 0, 0, 0, 0, 0, 0, 0, 0, 0, 0, 0] 0) hx hb hK hP hD hS 2 rfl (by decide +kernel) upd_tI dX11_keep_19 (fun H locs hP hD hS => ?_)
  have hP : va_P D cl0 [(a0, .inr (8, [.int 2, .int 0, .int 1, .int 0, .int 0, .int 0, .ref a1, .ref a2, .int 0, .int 0, .ref a3, .ref a4, .ref a5, .ref a6, .ref a7, .ref a8, .ref a9, .int 0, .int 0, .int 0, .ref a10, .ref a11, .ref a12, .ref a13, .int 0, .int 0, .ref a14, .ref a15, .ref a16, .ref a17, .int 0, .int 0, .ref a18, .ref a19, .ref a20, .ref a21])), (a1, .inl (k 0, 36, .inl (tI [] 0))), (a2, .inl (k 0, 36, .inl (tI [0, 0, 0, 0, 0, 0, 0, 0, 0, 0, 0, 0, 0, 0, 0, 0, 0, 0, 0, 0, 0, 0, 0, 0, 0, 0, 0, 0, 0, 0] 0)))] H := hP
  have hD : va_D A [(a0, .inr (8, [.int 2, .int 0, .int 1, .int 0, .int 0, .int 0, .ref a1, .ref a2, .int 0, .int 0, .ref a3, .ref a4, .ref a5, .ref a6, .ref a7, .ref a8, .ref a9, .int 0, .int 0, .int 0, .ref a10, .ref a11, .ref a12, .ref a13, .int 0, .int 0, .ref a14, .ref a15, .ref a16, .ref a17, .int 0, .int 0, .ref a18, .ref a19, .ref a20, .ref a21])), (a1, .inl (k 0, 36, .inl (tI [] 0))), (a2, .inl (k 0, 36, .inl (tI [0, 0, 0, 0, 0, 0, 0, 0, 0, 0, 0, 0, 0, 0, 0, 0, 0, 0, 0, 0, 0, 0, 0, 0, 0, 0, 0, 0, 0, 0] 0)))] := hD
  refine lv_iinc (v := 30) (lv' := [(1, .int 30), (0, .ref a0)]) hx hb dX11_keep_20 hl (k := 0) rfl (by decide) (by decide) rfl (fun ls hl => ?_)
  refine lv_goto (tgt := 2) hx hb dX11_keep_23 (by decide) ?_
  refine lv_iload_n hx hb dX11_keep_2 rfl (lv_at hl 0 rfl) ?_
  refine lv_bipush (v := 36) hx hb dX11_keep_3 (by decide) ?_
  refine lv_icmp_ge (tgt := 26) hx hb dX11_keep_5 (by decide) (fun cc => absurd cc (by decide +kernel)) (fun _ => ?_)
  refine lv_aload_n hx hb dX11_keep_8 rfl (lv_at hl 1 rfl) ?_
  refine va_get (D := D) (ci := 8) (v := .ref a2) (C := RX11) (T := TX11) (N := 36) hx hb hU iX11 hown hK.1 hP 0 rfl rfl 7 (by decide) (hU _ w792) (fun _ h9 => h9) rfl dX11_keep_9 ?_
  refine lv_iload_n hx hb dX11_keep_12 rfl (lv_at hl 0 rfl) ?_
  refine lv_aload_n hx hb dX11_keep_13 rfl (lv_at hl 1 rfl) ?_
  refine va_get (D := D) (ci := 8) (v := .ref a1) (C := RX11) (T := TX11) (N := 36) hx hb hU iX11 hown hK.1 hP 0 rfl rfl 6 (by decide) (hU _ w791) (fun _ h9 => h9) rfl dX11_keep_14 ?_
  refine lv_iload_n hx hb dX11_keep_17 rfl (lv_at hl 0 rfl) ?_
  refine ld_i (j := 30) (v := 0) hx hb hK hP 1 rfl (by decide +kernel) rfl dX11_keep_18 ?_
  refine st_i (j := 30) (g := tI [0, 0, 0, 0, 0, 0, 0, 0, 0, 0, 0, 0, 0, 0, 0, 0, 0, 0, 0, 0, 0, 0, 0, 0, 0, 0, 0, 0, 0, 0, 0] 0) hx hb hK hP hD hS 2 rfl (by decide +kernel) upd_tI dX11_keep_19 (fun H locs hP hD hS => ?_)
  have hP : va_P D cl0 [(a0, .inr (8, [.int 2, .int 0, .int 1, .int 0, .int 0, .int 0, .ref a1, .ref a2, .int 0, .int 0, .ref a3, .ref a4, .ref a5, .ref a6, .ref a7, .ref a8, .ref a9, .int 0, .int 0, .int 0, .ref a10, .ref a11, .ref a12, .ref a13, .int 0, .int 0, .ref a14, .ref a15, .ref a16, .ref a17, .int 0, .int 0, .ref a18, .ref a19, .ref a20, .ref a21])), (a1, .inl (k 0, 36, .inl (tI [] 0))), (a2, .inl (k 0, 36, .inl (tI [0, 0, 0, 0, 0, 0, 0, 0, 0, 0, 0, 0, 0, 0, 0, 0, 0, 0, 0, 0, 0, 0, 0, 0, 0, 0, 0, 0, 0, 0, 0] 0)))] H := hP
  have hD : va_D A [(a0, .inr (8, [.int 2, .int 0, .int 1, .int 0, .int 0, .int 0, .ref a1, .ref a2, .int 0, .int 0, .ref a3, .ref a4, .ref a5, .ref a6, .ref a7, .ref a8, .ref a9, .int 0, .int 0, .int 0, .ref a10, .ref a11, .ref a12, .ref a13, .int 0, .int 0, .ref a14, .ref a15, .ref a16, .ref a17, .int 0, .int 0, .ref a18, .ref a19, .ref a20, .ref a21])), (a1, .inl (k 0, 36, .inl (tI [] 0))), (a2, .inl (k 0, 36, .inl (tI [0, 0, 0, 0, 0, 0, 0, 0, 0, 0, 0, 0, 0, 0, 0, 0, 0, 0, 0, 0, 0, 0, 0, 0, 0, 0, 0, 0, 0, 0, 0] 0)))] := hD
  refine lv_iinc (v := 31) (lv' := [(1, .int 31), (0, .ref a0)]) hx hb dX11_keep_20 hl (k := 0) rfl (by decide) (by decide) rfl (fun ls hl => ?_)
  refine lv_goto (tgt := 2) hx hb dX11_keep_23 (by decide) ?_
  refine lv_iload_n hx hb dX11_keep_2 rfl (lv_at hl 0 rfl) ?_
  refine lv_bipush (v := 36) hx hb dX11_keep_3 (by decide) ?_
  refine lv_icmp_ge (tgt := 26) hx hb dX11_keep_5 (by decide) (fun cc => absurd cc (by decide +kernel)) (fun _ => ?_)
  refine lv_aload_n hx hb dX11_keep_8 rfl (lv_at hl 1 rfl) ?_
  refine va_get (D := D) (ci := 8) (v := .ref a2) (C := RX11) (T := TX11) (N := 36) hx hb hU iX11 hown hK.1 hP 0 rfl rfl 7 (by decide) (hU _ w792) (fun _ h9 => h9) rfl dX11_keep_9 ?_
  refine lv_iload_n hx hb dX11_keep_12 rfl (lv_at hl 0 rfl) ?_
  refine lv_aload_n hx hb dX11_keep_13 rfl (lv_at hl 1 rfl) ?_
  refine va_get (D := D) (ci := 8) (v := .ref a1) (C := RX11) (T := TX11) (N := 36) hx hb hU iX11 hown hK.1 hP 0 rfl rfl 6 (by decide) (hU _ w791) (fun _ h9 => h9) rfl dX11_keep_14 ?_
  refine lv_iload_n hx hb dX11_keep_17 rfl (lv_at hl 0 rfl) ?_
  refine ld_i (j := 31) (v := 0) hx hb hK hP 1 rfl (by decide +kernel) rfl dX11_keep_18 ?_
  refine st_i (j := 31) (g := tI [0, 0, 0, 0, 0, 0, 0, 0, 0, 0, 0, 0, 0, 0, 0, 0, 0, 0, 0, 0, 0, 0, 0, 0, 0, 0, 0, 0, 0, 0, 0, 0] 0) hx hb hK hP hD hS 2 rfl (by decide +kernel) upd_tI dX11_keep_19 (fun H locs hP hD hS => ?_)
  have hP : va_P D cl0 [(a0, .inr (8, [.int 2, .int 0, .int 1, .int 0, .int 0, .int 0, .ref a1, .ref a2, .int 0, .int 0, .ref a3, .ref a4, .ref a5, .ref a6, .ref a7, .ref a8, .ref a9, .int 0, .int 0, .int 0, .ref a10, .ref a11, .ref a12, .ref a13, .int 0, .int 0, .ref a14, .ref a15, .ref a16, .ref a17, .int 0, .int 0, .ref a18, .ref a19, .ref a20, .ref a21])), (a1, .inl (k 0, 36, .inl (tI [] 0))), (a2, .inl (k 0, 36, .inl (tI [0, 0, 0, 0, 0, 0, 0, 0, 0, 0, 0, 0, 0, 0, 0, 0, 0, 0, 0, 0, 0, 0, 0, 0, 0, 0, 0, 0, 0, 0, 0, 0] 0)))] H := hP
  have hD : va_D A [(a0, .inr (8, [.int 2, .int 0, .int 1, .int 0, .int 0, .int 0, .ref a1, .ref a2, .int 0, .int 0, .ref a3, .ref a4, .ref a5, .ref a6, .ref a7, .ref a8, .ref a9, .int 0, .int 0, .int 0, .ref a10, .ref a11, .ref a12, .ref a13, .int 0, .int 0, .ref a14, .ref a15, .ref a16, .ref a17, .int 0, .int 0, .ref a18, .ref a19, .ref a20, .ref a21])), (a1, .inl (k 0, 36, .inl (tI [] 0))), (a2, .inl (k 0, 36, .inl (tI [0, 0, 0, 0, 0, 0, 0, 0, 0, 0, 0, 0, 0, 0, 0, 0, 0, 0, 0, 0, 0, 0, 0, 0, 0, 0, 0, 0, 0, 0, 0, 0] 0)))] := hD
  refine lv_iinc (v := 32) (lv' := [(1, .int 32), (0, .ref a0)]) hx hb dX11_keep_20 hl (k := 0) rfl (by decide) (by decide) rfl (fun ls hl => ?_)
  refine lv_goto (tgt := 2) hx hb dX11_keep_23 (by decide) ?_
  refine lv_iload_n hx hb dX11_keep_2 rfl (lv_at hl 0 rfl) ?_
  refine lv_bipush (v := 36) hx hb dX11_keep_3 (by decide) ?_
  refine lv_icmp_ge (tgt := 26) hx hb dX11_keep_5 (by decide) (fun cc => absurd cc (by decide +kernel)) (fun _ => ?_)
  refine lv_aload_n hx hb dX11_keep_8 rfl (lv_at hl 1 rfl) ?_
  refine va_get (D := D) (ci := 8) (v := .ref a2) (C := RX11) (T := TX11) (N := 36) hx hb hU iX11 hown hK.1 hP 0 rfl rfl 7 (by decide) (hU _ w792) (fun _ h9 => h9) rfl dX11_keep_9 ?_
  refine lv_iload_n hx hb dX11_keep_12 rfl (lv_at hl 0 rfl) ?_
  refine lv_aload_n hx hb dX11_keep_13 rfl (lv_at hl 1 rfl) ?_
  refine va_get (D := D) (ci := 8) (v := .ref a1) (C := RX11) (T := TX11) (N := 36) hx hb hU iX11 hown hK.1 hP 0 rfl rfl 6 (by decide) (hU _ w791) (fun _ h9 => h9) rfl dX11_keep_14 ?_
  refine lv_iload_n hx hb dX11_keep_17 rfl (lv_at hl 0 rfl) ?_
  refine ld_i (j := 32) (v := 0) hx hb hK hP 1 rfl (by decide +kernel) rfl dX11_keep_18 ?_
  refine st_i (j := 32) (g := tI [0, 0, 0, 0, 0, 0, 0, 0, 0, 0, 0, 0, 0, 0, 0, 0, 0, 0, 0, 0, 0, 0, 0, 0, 0, 0, 0, 0, 0, 0, 0, 0, 0] 0) hx hb hK hP hD hS 2 rfl (by decide +kernel) upd_tI dX11_keep_19 (fun H locs hP hD hS => ?_)
  have hP : va_P D cl0 [(a0, .inr (8, [.int 2, .int 0, .int 1, .int 0, .int 0, .int 0, .ref a1, .ref a2, .int 0, .int 0, .ref a3, .ref a4, .ref a5, .ref a6, .ref a7, .ref a8, .ref a9, .int 0, .int 0, .int 0, .ref a10, .ref a11, .ref a12, .ref a13, .int 0, .int 0, .ref a14, .ref a15, .ref a16, .ref a17, .int 0, .int 0, .ref a18, .ref a19, .ref a20, .ref a21])), (a1, .inl (k 0, 36, .inl (tI [] 0))), (a2, .inl (k 0, 36, .inl (tI [0, 0, 0, 0, 0, 0, 0, 0, 0, 0, 0, 0, 0, 0, 0, 0, 0, 0, 0, 0, 0, 0, 0, 0, 0, 0, 0, 0, 0, 0, 0, 0, 0] 0)))] H := hP
  have hD : va_D A [(a0, .inr (8, [.int 2, .int 0, .int 1, .int 0, .int 0, .int 0, .ref a1, .ref a2, .int 0, .int 0, .ref a3, .ref a4, .ref a5, .ref a6, .ref a7, .ref a8, .ref a9, .int 0, .int 0, .int 0, .ref a10, .ref a11, .ref a12, .ref a13, .int 0, .int 0, .ref a14, .ref a15, .ref a16, .ref a17, .int 0, .int 0, .ref a18, .ref a19, .ref a20, .ref a21])), (a1, .inl (k 0, 36, .inl (tI [] 0))), (a2, .inl (k 0, 36, .inl (tI [0, 0, 0, 0, 0, 0, 0, 0, 0, 0, 0, 0, 0, 0, 0, 0, 0, 0, 0, 0, 0, 0, 0, 0, 0, 0, 0, 0, 0, 0, 0, 0, 0] 0)))] := hD
  refine lv_iinc (v := 33) (lv' := [(1, .int 33), (0, .ref a0)]) hx hb dX11_keep_20 hl (k := 0) rfl (by decide) (by decide) rfl (fun ls hl => ?_)
  refine lv_goto (tgt := 2) hx hb dX11_keep_23 (by decide) ?_
  refine lv_iload_n hx hb dX11_keep_2 rfl (lv_at hl 0 rfl) ?_
  refine lv_bipush (v := 36) hx hb dX11_keep_3 (by decide) ?_
  refine lv_icmp_ge (tgt := 26) hx hb dX11_keep_5 (by decide) (fun cc => absurd cc (by decide +kernel)) (fun _ => ?_)
  refine lv_aload_n hx hb dX11_keep_8 rfl (lv_at hl 1 rfl) ?_
  refine va_get (D := D) (ci := 8) (v := .ref a2) (C := RX11) (T := TX11) (N := 36) hx hb hU iX11 hown hK.1 hP 0 rfl rfl 7 (by decide) (hU _ w792) (fun _ h9 => h9) rfl dX11_keep_9 ?_
  refine lv_iload_n hx hb dX11_keep_12 rfl (lv_at hl 0 rfl) ?_
  refine lv_aload_n hx hb dX11_keep_13 rfl (lv_at hl 1 rfl) ?_
  refine va_get (D := D) (ci := 8) (v := .ref a1) (C := RX11) (T := TX11) (N := 36) hx hb hU iX11 hown hK.1 hP 0 rfl rfl 6 (by decide) (hU _ w791) (fun _ h9 => h9) rfl dX11_keep_14 ?_
  refine lv_iload_n hx hb dX11_keep_17 rfl (lv_at hl 0 rfl) ?_
  refine ld_i (j := 33) (v := 0) hx hb hK hP 1 rfl (by decide +kernel) rfl dX11_keep_18 ?_
  refine st_i (j := 33) (g := tI [0, 0, 0, 0, 0, 0, 0, 0, 0, 0, 0, 0, 0, 0, 0, 0, 0, 0, 0, 0, 0, 0, 0, 0, 0, 0, 0, 0, 0, 0, 0, 0, 0, 0] 0) hx hb hK hP hD hS 2 rfl (by decide +kernel) upd_tI dX11_keep_19 (fun H locs hP hD hS => ?_)
  have hP : va_P D cl0 [(a0, .inr (8, [.int 2, .int 0, .int 1, .int 0, .int 0, .int 0, .ref a1, .ref a2, .int 0, .int 0, .ref a3, .ref a4, .ref a5, .ref a6, .ref a7, .ref a8, .ref a9, .int 0, .int 0, .int 0, .ref a10, .ref a11, .ref a12, .ref a13, .int 0, .int 0, .ref a14, .ref a15, .ref a16, .ref a17, .int 0, .int 0, .ref a18, .ref a19, .ref a20, .ref a21])), (a1, .inl (k 0, 36, .inl (tI [] 0))), (a2, .inl (k 0, 36, .inl (tI [0, 0, 0, 0, 0, 0, 0, 0, 0, 0, 0, 0, 0, 0, 0, 0, 0, 0, 0, 0, 0, 0, 0, 0, 0, 0, 0, 0, 0, 0, 0, 0, 0, 0] 0)))] H := hP
  have hD : va_D A [(a0, .inr (8, [.int 2, .int 0, .int 1, .int 0, .int 0, .int 0, .ref a1, .ref a2, .int 0, .int 0, .ref a3, .ref a4, .ref a5, .ref a6, .ref a7, .ref a8, .ref a9, .int 0, .int 0, .int 0, .ref a10, .ref a11, .ref a12, .ref a13, .int 0, .int 0, .ref a14, .ref a15, .ref a16, .ref a17, .int 0, .int 0, .ref a18, .ref a19, .ref a20, .ref a21])), (a1, .inl (k 0, 36, .inl (tI [] 0))), (a2, .inl (k 0, 36, .inl (tI [0, 0, 0, 0, 0, 0, 0, 0, 0, 0, 0, 0, 0, 0, 0, 0, 0, 0, 0, 0, 0, 0, 0, 0, 0, 0, 0, 0, 0, 0, 0, 0, 0, 0] 0)))] := hD
  refine lv_iinc (v := 34) (lv' := [(1, .int 34), (0, .ref a0)]) hx hb dX11_keep_20 hl (k := 0) rfl (by decide) (by decide) rfl (fun ls hl => ?_)
  refine lv_goto (tgt := 2) hx hb dX11_keep_23 (by decide) ?_
  refine lv_iload_n hx hb dX11_keep_2 rfl (lv_at hl 0 rfl) ?_
  refine lv_bipush (v := 36) hx hb dX11_keep_3 (by decide) ?_
  refine lv_icmp_ge (tgt := 26) hx hb dX11_keep_5 (by decide) (fun cc => absurd cc (by decide +kernel)) (fun _ => ?_)
  refine lv_aload_n hx hb dX11_keep_8 rfl (lv_at hl 1 rfl) ?_
  refine va_get (D := D) (ci := 8) (v := .ref a2) (C := RX11) (T := TX11) (N := 36) hx hb hU iX11 hown hK.1 hP 0 rfl rfl 7 (by decide) (hU _ w792) (fun _ h9 => h9) rfl dX11_keep_9 ?_
  refine lv_iload_n hx hb dX11_keep_12 rfl (lv_at hl 0 rfl) ?_
  refine lv_aload_n hx hb dX11_keep_13 rfl (lv_at hl 1 rfl) ?_
  refine va_get (D := D) (ci := 8) (v := .ref a1) (C := RX11) (T := TX11) (N := 36) hx hb hU iX11 hown hK.1 hP 0 rfl rfl 6 (by decide) (hU _ w791) (fun _ h9 => h9) rfl dX11_keep_14 ?_
  refine lv_iload_n hx hb dX11_keep_17 rfl (lv_at hl 0 rfl) ?_
  refine ld_i (j := 34) (v := 0) hx hb hK hP 1 rfl (by decide +kernel) rfl dX11_keep_18 ?_
  refine st_i (j := 34) (g := tI [0, 0, 0, 0, 0, 0, 0, 0, 0, 0, 0, 0, 0, 0, 0, 0, 0, 0, 0, 0, 0, 0, 0, 0, 0, 0, 0, 0, 0, 0, 0, 0, 0, 0, 0] 0) hx hb hK hP hD hS 2 rfl (by decide +kernel) upd_tI dX11_keep_19 (fun H locs hP hD hS => ?_)
  have hP : va_P D cl0 [(a0, .inr (8, [.int 2, .int 0, .int 1, .int 0, .int 0, .int 0, .ref a1, .ref a2, .int 0, .int 0, .ref a3, .ref a4, .ref a5, .ref a6, .ref a7, .ref a8, .ref a9, .int 0, .int 0, .int 0, .ref a10, .ref a11, .ref a12, .ref a13, .int 0, .int 0, .ref a14, .ref a15, .ref a16, .ref a17, .int 0, .int 0, .ref a18, .ref a19, .ref a20, .ref a21])), (a1, .inl (k 0, 36, .inl (tI [] 0))), (a2, .inl (k 0, 36, .inl (tI [0, 0, 0, 0, 0, 0, 0, 0, 0, 0, 0, 0, 0, 0, 0, 0, 0, 0, 0, 0, 0, 0, 0, 0, 0, 0, 0, 0, 0, 0, 0, 0, 0, 0, 0] 0)))] H := hP
  have hD : va_D A [(a0, .inr (8, [.int 2, .int 0, .int 1, .int 0, .int 0, .int 0, .ref a1, .ref a2, .int 0, .int 0, .ref a3, .ref a4, .ref a5, .ref a6, .ref a7, .ref a8, .ref a9, .int 0, .int 0, .int 0, .ref a10, .ref a11, .ref a12, .ref a13, .int 0, .int 0, .ref a14, .ref a15, .ref a16, .ref a17, .int 0, .int 0, .ref a18, .ref a19, .ref a20, .ref a21])), (a1, .inl (k 0, 36, .inl (tI [] 0))), (a2, .inl (k 0, 36, .inl (tI [0, 0, 0, 0, 0, 0, 0, 0, 0, 0, 0, 0, 0, 0, 0, 0, 0, 0, 0, 0, 0, 0, 0, 0, 0, 0, 0, 0, 0, 0, 0, 0, 0, 0, 0] 0)))] := hD
  refine lv_iinc (v := 35) (lv' := [(1, .int 35), (0, .ref a0)]) hx hb dX11_keep_20 hl (k := 0) rfl (by decide) (by decide) rfl (fun ls hl => ?_)
  refine lv_goto (tgt := 2) hx hb dX11_keep_23 (by decide) ?_
  refine lv_iload_n hx hb dX11_keep_2 rfl (lv_at hl 0 rfl) ?_
  refine lv_bipush (v := 36) hx hb dX11_keep_3 (by decide) ?_
  refine lv_icmp_ge (tgt := 26) hx hb dX11_keep_5 (by decide) (fun cc => absurd cc (by decide +kernel)) (fun _ => ?_)
  refine lv_aload_n hx hb dX11_keep_8 rfl (lv_at hl 1 rfl) ?_
  refine va_get (D := D) (ci := 8) (v := .ref a2) (C := RX11) (T := TX11) (N := 36) hx hb hU iX11 hown hK.1 hP 0 rfl rfl 7 (by decide) (hU _ w792) (fun _ h9 => h9) rfl dX11_keep_9 ?_
  refine lv_iload_n hx hb dX11_keep_12 rfl (lv_at hl 0 rfl) ?_
  refine lv_aload_n hx hb dX11_keep_13 rfl (lv_at hl 1 rfl) ?_
  refine va_get (D := D) (ci := 8) (v := .ref a1) (C := RX11) (T := TX11) (N := 36) hx hb hU iX11 hown hK.1 hP 0 rfl rfl 6 (by decide) (hU _ w791) (fun _ h9 => h9) rfl dX11_keep_14 ?_
  refine lv_iload_n hx hb dX11_keep_17 rfl (lv_at hl 0 rfl) ?_
  refine ld_i (j := 35) (v := 0) hx hb hK hP 1 rfl (by decide +kernel) rfl dX11_keep_18 ?_
  refine st_i (j := 35) (g := tI [0, 0, 0, 0, 0, 0, 0, 0, 0, 0, 0, 0, 0, 0, 0, 0, 0, 0, 0, 0, 0, 0, 0, 0, 0, 0, 0, 0, 0, 0, 0, 0, 0, 0, 0, 0] 0) hx hb hK hP hD hS 2 rfl (by decide +kernel) upd_tI dX11_keep_19 (fun H locs hP hD hS => ?_)
  have hP : va_P D cl0 [(a0, .inr (8, [.int 2, .int 0, .int 1, .int 0, .int 0, .int 0, .ref a1, .ref a2, .int 0, .int 0, .ref a3, .ref a4, .ref a5, .ref a6, .ref a7, .ref a8, .ref a9, .int 0, .int 0, .int 0, .ref a10, .ref a11, .ref a12, .ref a13, .int 0, .int 0, .ref a14, .ref a15, .ref a16, .ref a17, .int 0, .int 0, .ref a18, .ref a19, .ref a20, .ref a21])), (a1, .inl (k 0, 36, .inl (tI [] 0))), (a2, .inl (k 0, 36, .inl (tI [0, 0, 0, 0, 0, 0, 0, 0, 0, 0, 0, 0, 0, 0, 0, 0, 0, 0, 0, 0, 0, 0, 0, 0, 0, 0, 0, 0, 0, 0, 0, 0, 0, 0, 0, 0] 0)))] H := hP
  have hD : va_D A [(a0, .inr (8, [.int 2, .int 0, .int 1, .int 0, .int 0, .int 0, .ref a1, .ref a2, .int 0, .int 0, .ref a3, .ref a4, .ref a5, .ref a6, .ref a7, .ref a8, .ref a9, .int 0, .int 0, .int 0, .ref a10, .ref a11, .ref a12, .ref a13, .int 0, .int 0, .ref a14, .ref a15, .ref a16, .ref a17, .int 0, .int 0, .ref a18, .ref a19, .ref a20, .ref a21])), (a1, .inl (k 0, 36, .inl (tI [] 0))), (a2, .inl (k 0, 36, .inl (tI [0, 0, 0, 0, 0, 0, 0, 0, 0, 0, 0, 0, 0, 0, 0, 0, 0, 0, 0, 0, 0, 0, 0, 0, 0, 0, 0, 0, 0, 0, 0, 0, 0, 0, 0, 0] 0)))] := hD
  refine lv_iinc (v := 36) (lv' := [(1, .int 36), (0, .ref a0)]) hx hb dX11_keep_20 hl (k := 0) rfl (by decide) (by decide) rfl (fun ls hl => ?_)
  refine lv_goto (tgt := 2) hx hb dX11_keep_23 (by decide) ?_
  refine lv_iload_n hx hb dX11_keep_2 rfl (lv_at hl 0 rfl) ?_
  refine lv_bipush (v := 36) hx hb dX11_keep_3 (by decide) ?_
  refine lv_icmp_ge (tgt := 26) hx hb dX11_keep_5 (by decide) (fun _ => ?_) (fun cc => absurd (by decide +kernel) cc)
  refine lv_aload_n hx hb dX11_keep_26 rfl (lv_at hl 1 rfl) ?_
  refine lv_aload_n hx hb dX11_keep_27 rfl (lv_at hl 1 rfl) ?_
  refine va_get (D := D) (ci := 8) (v := .int 2) (C := RX11) (T := TX11) (N := 36) hx hb hU iX11 hown hK.1 hP 0 rfl rfl 0 (by decide) (hU _ w785) (fun _ h9 => h9) rfl dX11_keep_28 ?_
  refine va_put (D := D) (ci := 8) (v := .int 2) (ty := .int) (C := RX11) (T := TX11) (N := 36) hx hb hU iX11 tyX11 tyX11_ok nmX11 hown hK.1 hP hD hS 0 rfl rfl 3 (by decide) (hU _ w788) (fun _ h9 => h9) rfl (by decide +kernel) rfl rfl (Nat.le_of_ble_eq_true rfl) dX11_keep_31 (fun H locs hP hD hS => ?_)
  have hP : va_P D cl0 [(a0, .inr (8, [.int 2, .int 0, .int 1, .int 2, .int 0, .int 0, .ref a1, .ref a2, .int 0, .int 0, .ref a3, .ref a4, .ref a5, .ref a6, .ref a7, .ref a8, .ref a9, .int 0, .int 0, .int 0, .ref a10, .ref a11, .ref a12, .ref a13, .int 0, .int 0, .ref a14, .ref a15, .ref a16, .ref a17, .int 0, .int 0, .ref a18, .ref a19, .ref a20, .ref a21])), (a1, .inl (k 0, 36, .inl (tI [] 0))), (a2, .inl (k 0, 36, .inl (tI [0, 0, 0, 0, 0, 0, 0, 0, 0, 0, 0, 0, 0, 0, 0, 0, 0, 0, 0, 0, 0, 0, 0, 0, 0, 0, 0, 0, 0, 0, 0, 0, 0, 0, 0, 0] 0)))] H := hP
  have hD : va_D A [(a0, .inr (8, [.int 2, .int 0, .int 1, .int 2, .int 0, .int 0, .ref a1, .ref a2, .int 0, .int 0, .ref a3, .ref a4, .ref a5, .ref a6, .ref a7, .ref a8, .ref a9, .int 0, .int 0, .int 0, .ref a10, .ref a11, .ref a12, .ref a13, .int 0, .int 0, .ref a14, .ref a15, .ref a16, .ref a17, .int 0, .int 0, .ref a18, .ref a19, .ref a20, .ref a21])), (a1, .inl (k 0, 36, .inl (tI [] 0))), (a2, .inl (k 0, 36, .inl (tI [0, 0, 0, 0, 0, 0, 0, 0, 0, 0, 0, 0, 0, 0, 0, 0, 0, 0, 0, 0, 0, 0, 0, 0, 0, 0, 0, 0, 0, 0, 0, 0, 0, 0, 0, 0] 0)))] := hD
  refine lv_aload_n hx hb dX11_keep_34 rfl (lv_at hl 1 rfl) ?_
  refine lv_aload_n hx hb dX11_keep_35 rfl (lv_at hl 1 rfl) ?_
  refine va_get (D := D) (ci := 8) (v := .int 0) (C := RX11) (T := TX11) (N := 36) hx hb hU iX11 hown hK.1 hP 0 rfl rfl 1 (by decide) (hU _ w786) (fun _ h9 => h9) rfl dX11_keep_36 ?_
  refine va_put (D := D) (ci := 8) (v := .int 0) (ty := .int) (C := RX11) (T := TX11) (N := 36) hx hb hU iX11 tyX11 tyX11_ok nmX11 hown hK.1 hP hD hS 0 rfl rfl 4 (by decide) (hU _ w789) (fun _ h9 => h9) rfl (by decide +kernel) rfl rfl (Nat.le_of_ble_eq_true rfl) dX11_keep_39 (fun H locs hP hD hS => ?_)
  have hP : va_P D cl0 [(a0, .inr (8, [.int 2, .int 0, .int 1, .int 2, .int 0, .int 0, .ref a1, .ref a2, .int 0, .int 0, .ref a3, .ref a4, .ref a5, .ref a6, .ref a7, .ref a8, .ref a9, .int 0, .int 0, .int 0, .ref a10, .ref a11, .ref a12, .ref a13, .int 0, .int 0, .ref a14, .ref a15, .ref a16, .ref a17, .int 0, .int 0, .ref a18, .ref a19, .ref a20, .ref a21])), (a1, .inl (k 0, 36, .inl (tI [] 0))), (a2, .inl (k 0, 36, .inl (tI [0, 0, 0, 0, 0, 0, 0, 0, 0, 0, 0, 0, 0, 0, 0, 0, 0, 0, 0, 0, 0, 0, 0, 0, 0, 0, 0, 0, 0, 0, 0, 0, 0, 0, 0, 0] 0)))] H := hP
  have hD : va_D A [(a0, .inr (8, [.int 2, .int 0, .int 1, .int 2, .int 0, .int 0, .ref a1, .ref a2, .int 0, .int 0, .ref a3, .ref a4, .ref a5, .ref a6, .ref a7, .ref a8, .ref a9, .int 0, .int 0, .int 0, .ref a10, .ref a11, .ref a12, .ref a13, .int 0, .int 0, .ref a14, .ref a15, .ref a16, .ref a17, .int 0, .int 0, .ref a18, .ref a19, .ref a20, .ref a21])), (a1, .inl (k 0, 36, .inl (tI [] 0))), (a2, .inl (k 0, 36, .inl (tI [0, 0, 0, 0, 0, 0, 0, 0, 0, 0, 0, 0, 0, 0, 0, 0, 0, 0, 0, 0, 0, 0, 0, 0, 0, 0, 0, 0, 0, 0, 0, 0, 0, 0, 0, 0] 0)))] := hD
  refine lv_aload_n hx hb dX11_keep_42 rfl (lv_at hl 1 rfl) ?_
  refine lv_aload_n hx hb dX11_keep_43 rfl (lv_at hl 1 rfl) ?_
  refine va_get (D := D) (ci := 8) (v := .int 1) (C := RX11) (T := TX11) (N := 36) hx hb hU iX11 hown hK.1 hP 0 rfl rfl 2 (by decide) (hU _ w787) (fun _ h9 => h9) rfl dX11_keep_44 ?_
  refine va_put (D := D) (ci := 8) (v := .int 1) (ty := .int) (C := RX11) (T := TX11) (N := 36) hx hb hU iX11 tyX11 tyX11_ok nmX11 hown hK.1 hP hD hS 0 rfl rfl 5 (by decide) (hU _ w790) (fun _ h9 => h9) rfl (by decide +kernel) rfl rfl (Nat.le_of_ble_eq_true rfl) dX11_keep_47 (fun H locs hP hD hS => ?_)
  have hP : va_P D cl0 [(a0, .inr (8, [.int 2, .int 0, .int 1, .int 2, .int 0, .int 1, .ref a1, .ref a2, .int 0, .int 0, .ref a3, .ref a4, .ref a5, .ref a6, .ref a7, .ref a8, .ref a9, .int 0, .int 0, .int 0, .ref a10, .ref a11, .ref a12, .ref a13, .int 0, .int 0, .ref a14, .ref a15, .ref a16, .ref a17, .int 0, .int 0, .ref a18, .ref a19, .ref a20, .ref a21])), (a1, .inl (k 0, 36, .inl (tI [] 0))), (a2, .inl (k 0, 36, .inl (tI [0, 0, 0, 0, 0, 0, 0, 0, 0, 0, 0, 0, 0, 0, 0, 0, 0, 0, 0, 0, 0, 0, 0, 0, 0, 0, 0, 0, 0, 0, 0, 0, 0, 0, 0, 0] 0)))] H := hP
  have hD : va_D A [(a0, .inr (8, [.int 2, .int 0, .int 1, .int 2, .int 0, .int 1, .ref a1, .ref a2, .int 0, .int 0, .ref a3, .ref a4, .ref a5, .ref a6, .ref a7, .ref a8, .ref a9, .int 0, .int 0, .int 0, .ref a10, .ref a11, .ref a12, .ref a13, .int 0, .int 0, .ref a14, .ref a15, .ref a16, .ref a17, .int 0, .int 0, .ref a18, .ref a19, .ref a20, .ref a21])), (a1, .inl (k 0, 36, .inl (tI [] 0))), (a2, .inl (k 0, 36, .inl (tI [0, 0, 0, 0, 0, 0, 0, 0, 0, 0, 0, 0, 0, 0, 0, 0, 0, 0, 0, 0, 0, 0, 0, 0, 0, 0, 0, 0, 0, 0, 0, 0, 0, 0, 0, 0] 0)))] := hD
  refine lv_aload_n hx hb dX11_keep_50 rfl (lv_at hl 1 rfl) ?_
  refine lv_iconst (v := 1) hx hb dX11_keep_51 (by decide) ?_
  refine va_put (D := D) (ci := 8) (v := .int 1) (ty := .boolean) (C := RX11) (T := TX11) (N := 36) hx hb hU iX11 tyX11 tyX11_ok nmX11 hown hK.1 hP hD hS 0 rfl rfl 8 (by decide) (hU _ w793) (fun _ h9 => h9) rfl (by decide +kernel) rfl rfl (Nat.le_of_ble_eq_true rfl) dX11_keep_52 (fun H locs hP hD hS => ?_)
  have hP : va_P D cl0 [(a0, .inr (8, [.int 2, .int 0, .int 1, .int 2, .int 0, .int 1, .ref a1, .ref a2, .int 1, .int 0, .ref a3, .ref a4, .ref a5, .ref a6, .ref a7, .ref a8, .ref a9, .int 0, .int 0, .int 0, .ref a10, .ref a11, .ref a12, .ref a13, .int 0, .int 0, .ref a14, .ref a15, .ref a16, .ref a17, .int 0, .int 0, .ref a18, .ref a19, .ref a20, .ref a21])), (a1, .inl (k 0, 36, .inl (tI [] 0))), (a2, .inl (k 0, 36, .inl (tI [0, 0, 0, 0, 0, 0, 0, 0, 0, 0, 0, 0, 0, 0, 0, 0, 0, 0, 0, 0, 0, 0, 0, 0, 0, 0, 0, 0, 0, 0, 0, 0, 0, 0, 0, 0] 0)))] H := hP
  have hD : va_D A [(a0, .inr (8, [.int 2, .int 0, .int 1, .int 2, .int 0, .int 1, .ref a1, .ref a2, .int 1, .int 0, .ref a3, .ref a4, .ref a5, .ref a6, .ref a7, .ref a8, .ref a9, .int 0, .int 0, .int 0, .ref a10, .ref a11, .ref a12, .ref a13, .int 0, .int 0, .ref a14, .ref a15, .ref a16, .ref a17, .int 0, .int 0, .ref a18, .ref a19, .ref a20, .ref a21])), (a1, .inl (k 0, 36, .inl (tI [] 0))), (a2, .inl (k 0, 36, .inl (tI [0, 0, 0, 0, 0, 0, 0, 0, 0, 0, 0, 0, 0, 0, 0, 0, 0, 0, 0, 0, 0, 0, 0, 0, 0, 0, 0, 0, 0, 0, 0, 0, 0, 0, 0, 0] 0)))] := hD
  refine lv_iconst (v := 1) hx hb dX11_keep_55 (by decide) ?_
  exact retI (v := 1) hx hb hr hlocks hS (show (1 : Int32) = F_keep by rfl) dX11_keep_56
abbrev BX11_again_1 (D : va_G) (k : Nat → ClassId) (a0 a1 a2 a3 a4 a5 a6 a7 a8 a9 a10 a11 a12 a13 a14 a15 a16 a17 a18 a19 a20 a21 : Nat) (A : Nat → Prop) (r : Int32) (H : Heap) : Prop := r = F_again
set_option maxHeartbeats 4000000 in
set_option maxRecDepth 100000 in
theorem cX11_again_1 (l : Launch) (D : va_G) (k : Nat → ClassId) (sz : Nat) (a0 a1 a2 a3 a4 a5 a6 a7 a8 a9 a10 a11 a12 a13 a14 a15 a16 a17 a18 a19 a20 a21 : Nat) : Met l yX11_again (Cond.code yX11_again cX11_again 2 (some .int) :: uw) ({ frames := 0, cells := 0, slots := 0, locals := 0 }) (pC D k sz [.ref a0] [(a0, .inr (8, [.int 2, .int 0, .int 1, .int 0, .int 0, .int 0, .ref a1, .ref a2, .int 0, .int 0, .ref a3, .ref a4, .ref a5, .ref a6, .ref a7, .ref a8, .ref a9, .int 0, .int 0, .int 0, .ref a10, .ref a11, .ref a12, .ref a13, .int 0, .int 0, .ref a14, .ref a15, .ref a16, .ref a17, .int 0, .int 0, .ref a18, .ref a19, .ref a20, .ref a21]))]) (qI (BX11_again_1 D k a0 a1 a2 a3 a4 a5 a6 a7 a8 a9 a10 a11 a12 a13 a14 a15 a16 a17 a18 a19 a20 a21 (va_A [(a0, .inr (8, [.int 2, .int 0, .int 1, .int 0, .int 0, .int 0, .ref a1, .ref a2, .int 0, .int 0, .ref a3, .ref a4, .ref a5, .ref a6, .ref a7, .ref a8, .ref a9, .int 0, .int 0, .int 0, .ref a10, .ref a11, .ref a12, .ref a13, .int 0, .int 0, .ref a14, .ref a15, .ref a16, .ref a17, .int 0, .int 0, .ref a18, .ref a19, .ref a20, .ref a21]))] sz)) (va_A [(a0, .inr (8, [.int 2, .int 0, .int 1, .int 0, .int 0, .int 0, .ref a1, .ref a2, .int 0, .int 0, .ref a3, .ref a4, .ref a5, .ref a6, .ref a7, .ref a8, .ref a9, .int 0, .int 0, .int 0, .ref a10, .ref a11, .ref a12, .ref a13, .int 0, .int 0, .ref a14, .ref a15, .ref a16, .ref a17, .int 0, .int 0, .ref a18, .ref a19, .ref a20, .ref a21]))] sz)) 0 0 (va_A [(a0, .inr (8, [.int 2, .int 0, .int 1, .int 0, .int 0, .int 0, .ref a1, .ref a2, .int 0, .int 0, .ref a3, .ref a4, .ref a5, .ref a6, .ref a7, .ref a8, .ref a9, .int 0, .int 0, .int 0, .ref a10, .ref a11, .ref a12, .ref a13, .int 0, .int 0, .ref a14, .ref a15, .ref a16, .ref a17, .int 0, .int 0, .ref a18, .ref a19, .ref a20, .ref a21]))] sz) := by
  refine begin_ (Qc := fun A => qI (BX11_again_1 D k a0 a1 a2 a3 a4 a5 a6 a7 a8 a9 a10 a11 a12 a13 a14 a15 a16 a17 a18 a19 a20 a21 A) A) (by decide) (Nat.le_of_ble_eq_true rfl) ?_
  intro p e s m below meth c ls A hx hb hr hml hown hlocks hin hU hK hsz hP hD hS hA hl
  have hl : lv_has ls 2 [(0, .ref a0)] := hl
  clear hsz
  refine lv_aload_n hx hb dX11_again_0 rfl (lv_at hl 0 rfl) ?_
  refine va_get (D := D) (ci := 8) (v := .int 0) (C := RX11) (T := TX11) (N := 36) hx hb hU iX11 hown hK.1 hP 0 rfl rfl 8 (by decide) (hU _ w793) (fun _ h9 => h9) rfl dX11_again_1 ?_
  refine lv_if_ne (tgt := 10) hx hb dX11_again_4 (by decide) (fun cc => absurd (by decide +kernel) cc) (fun _ => ?_)
  refine lv_bipush (v := (-3)) hx hb dX11_again_7 (by decide) ?_
  exact retI (v := (-3)) hx hb hr hlocks hS (show ((-3) : Int32) = F_again by rfl) dX11_again_9
abbrev BX11_many_1 (D : va_G) (k : Nat → ClassId) (a0 a1 a2 a3 a4 a5 a6 a7 a8 a9 a10 a11 a12 a13 a14 a15 a16 a17 a18 a19 a20 a21 : Nat) (x0 : Int32) (A : Nat → Prop) (r : Int32) (H : Heap) : Prop := r = F_many x0
set_option maxHeartbeats 4000000 in
set_option maxRecDepth 100000 in
theorem cX11_many_1 (l : Launch) (D : va_G) (k : Nat → ClassId) (sz : Nat) (a0 a1 a2 a3 a4 a5 a6 a7 a8 a9 a10 a11 a12 a13 a14 a15 a16 a17 a18 a19 a20 a21 : Nat) (x0 : Int32) : Met l yX11_many (Cond.code yX11_many cX11_many 2 (some .int) :: uw) ({ frames := 0, cells := 0, slots := 0, locals := 0 }) (pC D k sz [.ref a0, .int x0] [(a0, .inr (8, [.int 2, .int 0, .int 1, .int 0, .int 0, .int 0, .ref a1, .ref a2, .int 0, .int 0, .ref a3, .ref a4, .ref a5, .ref a6, .ref a7, .ref a8, .ref a9, .int 0, .int 0, .int 0, .ref a10, .ref a11, .ref a12, .ref a13, .int 0, .int 0, .ref a14, .ref a15, .ref a16, .ref a17, .int 0, .int 0, .ref a18, .ref a19, .ref a20, .ref a21]))]) (qI (BX11_many_1 D k a0 a1 a2 a3 a4 a5 a6 a7 a8 a9 a10 a11 a12 a13 a14 a15 a16 a17 a18 a19 a20 a21 x0 (va_A [(a0, .inr (8, [.int 2, .int 0, .int 1, .int 0, .int 0, .int 0, .ref a1, .ref a2, .int 0, .int 0, .ref a3, .ref a4, .ref a5, .ref a6, .ref a7, .ref a8, .ref a9, .int 0, .int 0, .int 0, .ref a10, .ref a11, .ref a12, .ref a13, .int 0, .int 0, .ref a14, .ref a15, .ref a16, .ref a17, .int 0, .int 0, .ref a18, .ref a19, .ref a20, .ref a21]))] sz)) (va_A [(a0, .inr (8, [.int 2, .int 0, .int 1, .int 0, .int 0, .int 0, .ref a1, .ref a2, .int 0, .int 0, .ref a3, .ref a4, .ref a5, .ref a6, .ref a7, .ref a8, .ref a9, .int 0, .int 0, .int 0, .ref a10, .ref a11, .ref a12, .ref a13, .int 0, .int 0, .ref a14, .ref a15, .ref a16, .ref a17, .int 0, .int 0, .ref a18, .ref a19, .ref a20, .ref a21]))] sz)) 0 0 (va_A [(a0, .inr (8, [.int 2, .int 0, .int 1, .int 0, .int 0, .int 0, .ref a1, .ref a2, .int 0, .int 0, .ref a3, .ref a4, .ref a5, .ref a6, .ref a7, .ref a8, .ref a9, .int 0, .int 0, .int 0, .ref a10, .ref a11, .ref a12, .ref a13, .int 0, .int 0, .ref a14, .ref a15, .ref a16, .ref a17, .int 0, .int 0, .ref a18, .ref a19, .ref a20, .ref a21]))] sz) := by
  refine begin_ (Qc := fun A => qI (BX11_many_1 D k a0 a1 a2 a3 a4 a5 a6 a7 a8 a9 a10 a11 a12 a13 a14 a15 a16 a17 a18 a19 a20 a21 x0 A) A) (by decide) (Nat.le_of_ble_eq_true rfl) ?_
  intro p e s m below meth c ls A hx hb hr hml hown hlocks hin hU hK hsz hP hD hS hA hl
  have hl : lv_has ls 2 [(0, .ref a0), (1, .int x0)] := hl
  clear hsz
  refine lv_iload_n hx hb dX11_many_0 rfl (lv_at hl 1 rfl) ?_
  rcases (show (x0.toInt < 0 ∨ 2 < x0.toInt) ∨ x0.toInt = 0 ∨ x0.toInt = 1 ∨ x0.toInt = 2 by omega) with c_1 | c_1 | c_1 | c_1
  · skip
    refine lv_tableOut (tgt := 43) hx hb dX11_many_1 c_1 (by decide) ?_
    refine lv_iconst (v := (-1)) hx hb dX11_many_43 (by decide) ?_
    exact retI (v := (-1)) hx hb hr hlocks hS (show ((-1) : Int32) = F_many x0 by first | decide +kernel | (skip; unfold F_many; (repeat (first | rw [if_pos (by omega)] | rw [if_neg (by omega)])))) dX11_many_44
  · skip
    obtain rfl : x0 = 0 := eq32 c_1 (by decide +kernel)
    refine lv_tableIn (tgt := 28) (off := 27) hx hb dX11_many_1 (by decide +kernel) (by decide +kernel) (by decide +kernel) (by decide) ?_
    refine lv_aload_n hx hb dX11_many_28 rfl (lv_at hl 0 rfl) ?_
    refine va_get (D := D) (ci := 8) (v := .int 2) (C := RX11) (T := TX11) (N := 36) hx hb hU iX11 hown hK.1 hP 0 rfl rfl 0 (by decide) (hU _ w785) (fun _ h9 => h9) rfl dX11_many_29 ?_
    exact retI (v := 2) hx hb hr hlocks hS (show (2 : Int32) = F_many 0 by first | decide +kernel | (have g_0 : (0 : Int32).toInt = 0 := (by decide +kernel); unfold F_many; (repeat (first | rw [if_pos (by omega)] | rw [if_neg (by omega)])))) dX11_many_32
  · skip
    obtain rfl : x0 = 1 := eq32 c_1 (by decide +kernel)
    refine lv_tableIn (tgt := 33) (off := 32) hx hb dX11_many_1 (by decide +kernel) (by decide +kernel) (by decide +kernel) (by decide) ?_
    refine lv_aload_n hx hb dX11_many_33 rfl (lv_at hl 0 rfl) ?_
    refine va_get (D := D) (ci := 8) (v := .int 0) (C := RX11) (T := TX11) (N := 36) hx hb hU iX11 hown hK.1 hP 0 rfl rfl 1 (by decide) (hU _ w786) (fun _ h9 => h9) rfl dX11_many_34 ?_
    exact retI (v := 0) hx hb hr hlocks hS (show (0 : Int32) = F_many 1 by first | decide +kernel | (have g_1 : (1 : Int32).toInt = 1 := (by decide +kernel); unfold F_many; (repeat (first | rw [if_pos (by omega)] | rw [if_neg (by omega)])))) dX11_many_37
  · skip
    obtain rfl : x0 = 2 := eq32 c_1 (by decide +kernel)
    refine lv_tableIn (tgt := 38) (off := 37) hx hb dX11_many_1 (by decide +kernel) (by decide +kernel) (by decide +kernel) (by decide) ?_
    refine lv_aload_n hx hb dX11_many_38 rfl (lv_at hl 0 rfl) ?_
    refine va_get (D := D) (ci := 8) (v := .int 0) (C := RX11) (T := TX11) (N := 36) hx hb hU iX11 hown hK.1 hP 0 rfl rfl 17 (by decide) (hU _ w802) (fun _ h9 => h9) rfl dX11_many_39 ?_
    exact retI (v := 0) hx hb hr hlocks hS (show (0 : Int32) = F_many 2 by first | decide +kernel | (have g_2 : (2 : Int32).toInt = 2 := (by decide +kernel); unfold F_many; (repeat (first | rw [if_pos (by omega)] | rw [if_neg (by omega)])))) dX11_many_42
abbrev BX11_in_5 (D : va_G) (k : Nat → ClassId) (x0 : Int64) (A : Nat → Prop) (r : Int32) (H : Heap) : Prop := (x0 < 0 ∧ 0 = r ∧ va_P D cl0 [] H ∧ va_D A []) ∨ (¬ (x0 < 0) ∧ 1 < x0 ∧ 0 = r ∧ va_P D cl0 [] H ∧ va_D A []) ∨ (¬ (x0 < 0) ∧ ¬ (1 < x0) ∧ 1 = r ∧ va_P D cl0 [] H ∧ va_D A [])
set_option maxHeartbeats 4000000 in
set_option maxRecDepth 100000 in
theorem cX11_in_5 (l : Launch) (D : va_G) (k : Nat → ClassId) (sz : Nat) (x0 : Int64) : Met l yX11_in (Cond.code yX11_in cX11_in 6 (some .boolean) :: uw) ({ frames := 0, cells := 0, slots := 0, locals := 0 }) (pC D k sz [.long x0, .long 0, .long 1] []) (qI (BX11_in_5 D k x0 (va_A [] sz)) (va_A [] sz)) 0 0 (va_A [] sz) := by
  refine begin_ (Qc := fun A => qI (BX11_in_5 D k x0 A) A) (by decide) (Nat.le_of_ble_eq_true rfl) ?_
  intro p e s m below meth c ls A hx hb hr hml hown hlocks hin hU hK hsz hP hD hS hA hl
  have hl : lv_has ls 6 [(0, .long x0), (2, .long 0), (4, .long 1)] := hl
  clear hsz
  refine lv_lload_n hx hb dX11_in_0 rfl (lv_at hl 0 rfl) ?_
  refine lv_lload_n hx hb dX11_in_1 rfl (lv_at hl 1 rfl) ?_
  refine W.lcmp hx hb dX11_in_2 ?_
  refine lv_if_lt (tgt := 17) hx hb dX11_in_3 (by decide) (fun c_1 => ?_) (fun c_1 => ?_)
  · skip
    have c_1 := (lg_cmp_lt _ _).mp c_1
    refine lv_iconst (v := 0) hx hb dX11_in_17 (by decide) ?_
    exact retZ (v := 0) hx hb hr hlocks hS (Or.inl ⟨c_1, rfl, hP, hD⟩) dX11_in_18 (by decide +kernel)
  · skip
    have c_1 := fun h9 => c_1 ((lg_cmp_lt _ _).mpr h9)
    refine lv_lload_n hx hb dX11_in_6 rfl (lv_at hl 0 rfl) ?_
    refine lv_lload hx hb dX11_in_7 (lv_at hl 2 rfl) ?_
    refine W.lcmp hx hb dX11_in_9 ?_
    refine lv_if_gt (tgt := 17) hx hb dX11_in_10 (by decide) (fun c_2 => ?_) (fun c_2 => ?_)
    · skip
      have c_2 := (lg_cmp_gt _ _).mp c_2
      refine lv_iconst (v := 0) hx hb dX11_in_17 (by decide) ?_
      exact retZ (v := 0) hx hb hr hlocks hS (Or.inr (Or.inl ⟨c_1, c_2, rfl, hP, hD⟩)) dX11_in_18 (by decide +kernel)
    · skip
      have c_2 := fun h9 => c_2 ((lg_cmp_gt _ _).mpr h9)
      refine lv_iconst (v := 1) hx hb dX11_in_13 (by decide) ?_
      refine lv_goto (tgt := 18) hx hb dX11_in_14 (by decide) ?_
      exact retZ (v := 1) hx hb hr hlocks hS (Or.inr (Or.inr (⟨c_1, c_2, rfl, hP, hD⟩))) dX11_in_18 (by decide +kernel)
abbrev BX11_isPlace_1 (D : va_G) (k : Nat → ClassId) (h0 h1 h2 h3 h4 h5 h6 h7 h8 h9 h10 h11 h12 h13 h14 h15 h16 h17 h18 h19 h20 h21 : Nat) (x0 : Int32) (A : Nat → Prop) (r : Int32) (H : Heap) : Prop := (x0.toInt64 < 0 ∧ 0 = r ∧ va_P D cl0 [(h0, .inr (8, [.int 2, .int 0, .int 1, .int 0, .int 0, .int 0, .ref h1, .ref h2, .int 0, .int 0, .ref h3, .ref h4, .ref h5, .ref h6, .ref h7, .ref h8, .ref h9, .int 0, .int 0, .int 0, .ref h10, .ref h11, .ref h12, .ref h13, .int 0, .int 0, .ref h14, .ref h15, .ref h16, .ref h17, .int 0, .int 0, .ref h18, .ref h19, .ref h20, .ref h21]))] H ∧ va_D A [(h0, .inr (8, [.int 2, .int 0, .int 1, .int 0, .int 0, .int 0, .ref h1, .ref h2, .int 0, .int 0, .ref h3, .ref h4, .ref h5, .ref h6, .ref h7, .ref h8, .ref h9, .int 0, .int 0, .int 0, .ref h10, .ref h11, .ref h12, .ref h13, .int 0, .int 0, .ref h14, .ref h15, .ref h16, .ref h17, .int 0, .int 0, .ref h18, .ref h19, .ref h20, .ref h21]))]) ∨ (¬ (x0.toInt64 < 0) ∧ 1 < x0.toInt64 ∧ 0 = r ∧ va_P D cl0 [(h0, .inr (8, [.int 2, .int 0, .int 1, .int 0, .int 0, .int 0, .ref h1, .ref h2, .int 0, .int 0, .ref h3, .ref h4, .ref h5, .ref h6, .ref h7, .ref h8, .ref h9, .int 0, .int 0, .int 0, .ref h10, .ref h11, .ref h12, .ref h13, .int 0, .int 0, .ref h14, .ref h15, .ref h16, .ref h17, .int 0, .int 0, .ref h18, .ref h19, .ref h20, .ref h21]))] H ∧ va_D A [(h0, .inr (8, [.int 2, .int 0, .int 1, .int 0, .int 0, .int 0, .ref h1, .ref h2, .int 0, .int 0, .ref h3, .ref h4, .ref h5, .ref h6, .ref h7, .ref h8, .ref h9, .int 0, .int 0, .int 0, .ref h10, .ref h11, .ref h12, .ref h13, .int 0, .int 0, .ref h14, .ref h15, .ref h16, .ref h17, .int 0, .int 0, .ref h18, .ref h19, .ref h20, .ref h21]))]) ∨ (¬ (x0.toInt64 < 0) ∧ ¬ (1 < x0.toInt64) ∧ 1 = r ∧ va_P D cl0 [(h0, .inr (8, [.int 2, .int 0, .int 1, .int 0, .int 0, .int 0, .ref h1, .ref h2, .int 0, .int 0, .ref h3, .ref h4, .ref h5, .ref h6, .ref h7, .ref h8, .ref h9, .int 0, .int 0, .int 0, .ref h10, .ref h11, .ref h12, .ref h13, .int 0, .int 0, .ref h14, .ref h15, .ref h16, .ref h17, .int 0, .int 0, .ref h18, .ref h19, .ref h20, .ref h21]))] H ∧ va_D A [(h0, .inr (8, [.int 2, .int 0, .int 1, .int 0, .int 0, .int 0, .ref h1, .ref h2, .int 0, .int 0, .ref h3, .ref h4, .ref h5, .ref h6, .ref h7, .ref h8, .ref h9, .int 0, .int 0, .int 0, .ref h10, .ref h11, .ref h12, .ref h13, .int 0, .int 0, .ref h14, .ref h15, .ref h16, .ref h17, .int 0, .int 0, .ref h18, .ref h19, .ref h20, .ref h21]))])
set_option maxHeartbeats 4000000 in
set_option maxRecDepth 100000 in
theorem cX11_isPlace_1 (l : Launch) (D : va_G) (k : Nat → ClassId) (sz : Nat) (h0 h1 h2 h3 h4 h5 h6 h7 h8 h9 h10 h11 h12 h13 h14 h15 h16 h17 h18 h19 h20 h21 : Nat) (x0 : Int32) : Met l yX11_isPlace (Cond.code yX11_isPlace cX11_isPlace 2 (some .boolean) :: uw) ({ frames := 1, cells := 0, slots := 0, locals := 25 }) (pC D k sz [.ref h0, .int x0] [(h0, .inr (8, [.int 2, .int 0, .int 1, .int 0, .int 0, .int 0, .ref h1, .ref h2, .int 0, .int 0, .ref h3, .ref h4, .ref h5, .ref h6, .ref h7, .ref h8, .ref h9, .int 0, .int 0, .int 0, .ref h10, .ref h11, .ref h12, .ref h13, .int 0, .int 0, .ref h14, .ref h15, .ref h16, .ref h17, .int 0, .int 0, .ref h18, .ref h19, .ref h20, .ref h21]))]) (qI (BX11_isPlace_1 D k h0 h1 h2 h3 h4 h5 h6 h7 h8 h9 h10 h11 h12 h13 h14 h15 h16 h17 h18 h19 h20 h21 x0 (va_A [(h0, .inr (8, [.int 2, .int 0, .int 1, .int 0, .int 0, .int 0, .ref h1, .ref h2, .int 0, .int 0, .ref h3, .ref h4, .ref h5, .ref h6, .ref h7, .ref h8, .ref h9, .int 0, .int 0, .int 0, .ref h10, .ref h11, .ref h12, .ref h13, .int 0, .int 0, .ref h14, .ref h15, .ref h16, .ref h17, .int 0, .int 0, .ref h18, .ref h19, .ref h20, .ref h21]))] sz)) (va_A [(h0, .inr (8, [.int 2, .int 0, .int 1, .int 0, .int 0, .int 0, .ref h1, .ref h2, .int 0, .int 0, .ref h3, .ref h4, .ref h5, .ref h6, .ref h7, .ref h8, .ref h9, .int 0, .int 0, .int 0, .ref h10, .ref h11, .ref h12, .ref h13, .int 0, .int 0, .ref h14, .ref h15, .ref h16, .ref h17, .int 0, .int 0, .ref h18, .ref h19, .ref h20, .ref h21]))] sz)) 0 0 (va_A [(h0, .inr (8, [.int 2, .int 0, .int 1, .int 0, .int 0, .int 0, .ref h1, .ref h2, .int 0, .int 0, .ref h3, .ref h4, .ref h5, .ref h6, .ref h7, .ref h8, .ref h9, .int 0, .int 0, .int 0, .ref h10, .ref h11, .ref h12, .ref h13, .int 0, .int 0, .ref h14, .ref h15, .ref h16, .ref h17, .int 0, .int 0, .ref h18, .ref h19, .ref h20, .ref h21]))] sz) := by
  refine begin_ (Qc := fun A => qI (BX11_isPlace_1 D k h0 h1 h2 h3 h4 h5 h6 h7 h8 h9 h10 h11 h12 h13 h14 h15 h16 h17 h18 h19 h20 h21 x0 A) A) (by decide) (Nat.le_of_ble_eq_true rfl) ?_
  intro p e s m below meth c ls A hx hb hr hml hown hlocks hin hU hK hsz hP hD hS hA hl
  have hl : lv_has ls 2 [(0, .ref h0), (1, .int x0)] := hl
  clear hsz
  refine lv_iload_n hx hb dX11_isPlace_0 rfl (lv_at hl 1 rfl) ?_
  refine lv_i2l (v := x0.toInt64) hx hb dX11_isPlace_1 rfl ?_
  refine lv_lconst (v := 0) hx hb dX11_isPlace_2 (by decide) ?_
  refine lv_aload_n hx hb dX11_isPlace_3 rfl (lv_at hl 0 rfl) ?_
  refine va_get (D := D) (ci := 8) (v := .int 2) (C := RX11) (T := TX11) (N := 36) hx hb hU iX11 hown hK.1 hP 0 rfl rfl 0 (by decide) (hU _ w785) (fun _ h9 => h9) rfl dX11_isPlace_4 ?_
  refine lv_iconst (v := 1) hx hb dX11_isPlace_7 (by decide) ?_
  refine lv_isub hx hb dX11_isPlace_8 (sv_i (v := 1) (by decide +kernel) ?_)
  refine lv_i2l (v := 1) hx hb dX11_isPlace_9 (by decide +kernel) ?_
  refine cI (rS (As := [.long x0.toInt64, .long 0, .long 1]) (rest := []) (wc := []) hx hb hml hown hU hK hP hD [] rfl (by decide) (cX11_in_5 l D k _ (x0.toInt64)) w901 w899 w900 w72 hdX11_in ⟨rfl, rfl⟩ ⟨Nat.le_of_ble_eq_true rfl, Nat.le_of_ble_eq_true rfl⟩ rfl hl.1 (Nat.le_of_ble_eq_true rfl) dX11_isPlace_10 ⟨Nat.le_of_ble_eq_true rfl, Nat.le_of_ble_eq_true rfl⟩) hP hD hS hA (wr := [(h0, .inr (8, [.int 2, .int 0, .int 1, .int 0, .int 0, .int 0, .ref h1, .ref h2, .int 0, .int 0, .ref h3, .ref h4, .ref h5, .ref h6, .ref h7, .ref h8, .ref h9, .int 0, .int 0, .int 0, .ref h10, .ref h11, .ref h12, .ref h13, .int 0, .int 0, .ref h14, .ref h15, .ref h16, .ref h17, .int 0, .int 0, .ref h18, .ref h19, .ref h20, .ref h21]))]) [] [0] rfl rfl (by decide) (by decide) (fun r1 H locs hB J hS => ?_)
  rcases hB with ⟨c_2, rfl, hP1, hD1⟩ | ⟨c_3, c_4, rfl, hP1, hD1⟩ | ⟨c_5, c_6, rfl, hP1, hD1⟩
  · skip
    obtain ⟨hP, hD⟩ := J _ hP1 hD1
    have hP : va_P D cl0 [(h0, .inr (8, [.int 2, .int 0, .int 1, .int 0, .int 0, .int 0, .ref h1, .ref h2, .int 0, .int 0, .ref h3, .ref h4, .ref h5, .ref h6, .ref h7, .ref h8, .ref h9, .int 0, .int 0, .int 0, .ref h10, .ref h11, .ref h12, .ref h13, .int 0, .int 0, .ref h14, .ref h15, .ref h16, .ref h17, .int 0, .int 0, .ref h18, .ref h19, .ref h20, .ref h21]))] H := hP
    have hD : va_D A [(h0, .inr (8, [.int 2, .int 0, .int 1, .int 0, .int 0, .int 0, .ref h1, .ref h2, .int 0, .int 0, .ref h3, .ref h4, .ref h5, .ref h6, .ref h7, .ref h8, .ref h9, .int 0, .int 0, .int 0, .ref h10, .ref h11, .ref h12, .ref h13, .int 0, .int 0, .ref h14, .ref h15, .ref h16, .ref h17, .int 0, .int 0, .ref h18, .ref h19, .ref h20, .ref h21]))] := hD
    exact retZ (v := 0) hx hb hr hlocks hS (Or.inl ⟨c_2, rfl, hP, hD⟩) dX11_isPlace_13 (by decide +kernel)
  · skip
    obtain ⟨hP, hD⟩ := J _ hP1 hD1
    have hP : va_P D cl0 [(h0, .inr (8, [.int 2, .int 0, .int 1, .int 0, .int 0, .int 0, .ref h1, .ref h2, .int 0, .int 0, .ref h3, .ref h4, .ref h5, .ref h6, .ref h7, .ref h8, .ref h9, .int 0, .int 0, .int 0, .ref h10, .ref h11, .ref h12, .ref h13, .int 0, .int 0, .ref h14, .ref h15, .ref h16, .ref h17, .int 0, .int 0, .ref h18, .ref h19, .ref h20, .ref h21]))] H := hP
    have hD : va_D A [(h0, .inr (8, [.int 2, .int 0, .int 1, .int 0, .int 0, .int 0, .ref h1, .ref h2, .int 0, .int 0, .ref h3, .ref h4, .ref h5, .ref h6, .ref h7, .ref h8, .ref h9, .int 0, .int 0, .int 0, .ref h10, .ref h11, .ref h12, .ref h13, .int 0, .int 0, .ref h14, .ref h15, .ref h16, .ref h17, .int 0, .int 0, .ref h18, .ref h19, .ref h20, .ref h21]))] := hD
    exact retZ (v := 0) hx hb hr hlocks hS (Or.inr (Or.inl ⟨c_3, c_4, rfl, hP, hD⟩)) dX11_isPlace_13 (by decide +kernel)
  · skip
    obtain ⟨hP, hD⟩ := J _ hP1 hD1
    have hP : va_P D cl0 [(h0, .inr (8, [.int 2, .int 0, .int 1, .int 0, .int 0, .int 0, .ref h1, .ref h2, .int 0, .int 0, .ref h3, .ref h4, .ref h5, .ref h6, .ref h7, .ref h8, .ref h9, .int 0, .int 0, .int 0, .ref h10, .ref h11, .ref h12, .ref h13, .int 0, .int 0, .ref h14, .ref h15, .ref h16, .ref h17, .int 0, .int 0, .ref h18, .ref h19, .ref h20, .ref h21]))] H := hP
    have hD : va_D A [(h0, .inr (8, [.int 2, .int 0, .int 1, .int 0, .int 0, .int 0, .ref h1, .ref h2, .int 0, .int 0, .ref h3, .ref h4, .ref h5, .ref h6, .ref h7, .ref h8, .ref h9, .int 0, .int 0, .int 0, .ref h10, .ref h11, .ref h12, .ref h13, .int 0, .int 0, .ref h14, .ref h15, .ref h16, .ref h17, .int 0, .int 0, .ref h18, .ref h19, .ref h20, .ref h21]))] := hD
    exact retZ (v := 1) hx hb hr hlocks hS (Or.inr (Or.inr (⟨c_5, c_6, rfl, hP, hD⟩))) dX11_isPlace_13 (by decide +kernel)
abbrev BX11_clears_1 (D : va_G) (k : Nat → ClassId) (h0 h1 : Nat) (A : Nat → Prop) (H : Heap) : Prop := va_P D cl0 [(h0, .inl (k 1, 9, .inr (.inl (tL [0, 0, 0, 0, 0, 0, 0, 0, 0] 0))))] H ∧ va_D A [(h0, .inl (k 1, 9, .inr (.inl (tL [0, 0, 0, 0, 0, 0, 0, 0, 0] 0))))]
set_option maxHeartbeats 4000000 in
set_option maxRecDepth 100000 in
theorem cX11_clears_1 (l : Launch) (D : va_G) (k : Nat → ClassId) (sz : Nat) (h0 h1 : Nat) : Met l yX11_clears (Cond.code yX11_clears cX11_clears 3 none :: uw) ({ frames := 0, cells := 0, slots := 0, locals := 0 }) (pC D k sz [.ref h1, .ref h0] [(h0, .inl (k 1, 9, .inr (.inl (tL [] 0))))]) (qV (BX11_clears_1 D k h0 h1 (va_A [(h0, .inl (k 1, 9, .inr (.inl (tL [] 0))))] sz)) (va_A [(h0, .inl (k 1, 9, .inr (.inl (tL [] 0))))] sz)) 0 0 (va_A [(h0, .inl (k 1, 9, .inr (.inl (tL [] 0))))] sz) := by
  refine begin_ (Qc := fun A => qV (BX11_clears_1 D k h0 h1 A) A) (by decide) (Nat.le_of_ble_eq_true rfl) ?_
  intro p e s m below meth c ls A hx hb hr hml hown hlocks hin hU hK hsz hP hD hS hA hl
  have hl : lv_has ls 3 [(0, .ref h1), (1, .ref h0)] := hl
  clear hsz
  refine lv_iconst (v := 0) hx hb dX11_clears_0 (by decide) ?_
  refine lv_istore_n (lv' := [(2, .int 0), (0, .ref h1), (1, .ref h0)]) hx hb dX11_clears_1 rfl hl (by decide) rfl (fun ls hl => ?_)
  refine lv_iload_n hx hb dX11_clears_2 rfl (lv_at hl 0 rfl) ?_
  refine lv_bipush (v := 9) hx hb dX11_clears_3 (by decide) ?_
  refine lv_icmp_ge (tgt := 18) hx hb dX11_clears_5 (by decide) (fun cc => absurd cc (by decide +kernel)) (fun _ => ?_)
  refine lv_aload_n hx hb dX11_clears_8 rfl (lv_at hl 2 rfl) ?_
  refine lv_iload_n hx hb dX11_clears_9 rfl (lv_at hl 0 rfl) ?_
  refine lv_lconst (v := 0) hx hb dX11_clears_10 (by decide) ?_
  refine st_l (j := 0) (g := tL [0] 0) hx hb hK hP hD hS 0 rfl (by decide +kernel) upd_tL dX11_clears_11 (fun H locs hP hD hS => ?_)
  have hP : va_P D cl0 [(h0, .inl (k 1, 9, .inr (.inl (tL [0] 0))))] H := hP
  have hD : va_D A [(h0, .inl (k 1, 9, .inr (.inl (tL [0] 0))))] := hD
  refine lv_iinc (v := 1) (lv' := [(2, .int 1), (0, .ref h1), (1, .ref h0)]) hx hb dX11_clears_12 hl (k := 0) rfl (by decide) (by decide) rfl (fun ls hl => ?_)
  refine lv_goto (tgt := 2) hx hb dX11_clears_15 (by decide) ?_
  refine lv_iload_n hx hb dX11_clears_2 rfl (lv_at hl 0 rfl) ?_
  refine lv_bipush (v := 9) hx hb dX11_clears_3 (by decide) ?_
  refine lv_icmp_ge (tgt := 18) hx hb dX11_clears_5 (by decide) (fun cc => absurd cc (by decide +kernel)) (fun _ => ?_)
  refine lv_aload_n hx hb dX11_clears_8 rfl (lv_at hl 2 rfl) ?_
  refine lv_iload_n hx hb dX11_clears_9 rfl (lv_at hl 0 rfl) ?_
  refine lv_lconst (v := 0) hx hb dX11_clears_10 (by decide) ?_
  refine st_l (j := 1) (g := tL [0, 0] 0) hx hb hK hP hD hS 0 rfl (by decide +kernel) upd_tL dX11_clears_11 (fun H locs hP hD hS => ?_)
  have hP : va_P D cl0 [(h0, .inl (k 1, 9, .inr (.inl (tL [0, 0] 0))))] H := hP
  have hD : va_D A [(h0, .inl (k 1, 9, .inr (.inl (tL [0, 0] 0))))] := hD
  refine lv_iinc (v := 2) (lv' := [(2, .int 2), (0, .ref h1), (1, .ref h0)]) hx hb dX11_clears_12 hl (k := 0) rfl (by decide) (by decide) rfl (fun ls hl => ?_)
  refine lv_goto (tgt := 2) hx hb dX11_clears_15 (by decide) ?_
  refine lv_iload_n hx hb dX11_clears_2 rfl (lv_at hl 0 rfl) ?_
  refine lv_bipush (v := 9) hx hb dX11_clears_3 (by decide) ?_
  refine lv_icmp_ge (tgt := 18) hx hb dX11_clears_5 (by decide) (fun cc => absurd cc (by decide +kernel)) (fun _ => ?_)
  refine lv_aload_n hx hb dX11_clears_8 rfl (lv_at hl 2 rfl) ?_
  refine lv_iload_n hx hb dX11_clears_9 rfl (lv_at hl 0 rfl) ?_
  refine lv_lconst (v := 0) hx hb dX11_clears_10 (by decide) ?_
  refine st_l (j := 2) (g := tL [0, 0, 0] 0) hx hb hK hP hD hS 0 rfl (by decide +kernel) upd_tL dX11_clears_11 (fun H locs hP hD hS => ?_)
  have hP : va_P D cl0 [(h0, .inl (k 1, 9, .inr (.inl (tL [0, 0, 0] 0))))] H := hP
  have hD : va_D A [(h0, .inl (k 1, 9, .inr (.inl (tL [0, 0, 0] 0))))] := hD
  refine lv_iinc (v := 3) (lv' := [(2, .int 3), (0, .ref h1), (1, .ref h0)]) hx hb dX11_clears_12 hl (k := 0) rfl (by decide) (by decide) rfl (fun ls hl => ?_)
  refine lv_goto (tgt := 2) hx hb dX11_clears_15 (by decide) ?_
  refine lv_iload_n hx hb dX11_clears_2 rfl (lv_at hl 0 rfl) ?_
  refine lv_bipush (v := 9) hx hb dX11_clears_3 (by decide) ?_
  refine lv_icmp_ge (tgt := 18) hx hb dX11_clears_5 (by decide) (fun cc => absurd cc (by decide +kernel)) (fun _ => ?_)
  refine lv_aload_n hx hb dX11_clears_8 rfl (lv_at hl 2 rfl) ?_
  refine lv_iload_n hx hb dX11_clears_9 rfl (lv_at hl 0 rfl) ?_
  refine lv_lconst (v := 0) hx hb dX11_clears_10 (by decide) ?_
  refine st_l (j := 3) (g := tL [0, 0, 0, 0] 0) hx hb hK hP hD hS 0 rfl (by decide +kernel) upd_tL dX11_clears_11 (fun H locs hP hD hS => ?_)
  have hP : va_P D cl0 [(h0, .inl (k 1, 9, .inr (.inl (tL [0, 0, 0, 0] 0))))] H := hP
  have hD : va_D A [(h0, .inl (k 1, 9, .inr (.inl (tL [0, 0, 0, 0] 0))))] := hD
  refine lv_iinc (v := 4) (lv' := [(2, .int 4), (0, .ref h1), (1, .ref h0)]) hx hb dX11_clears_12 hl (k := 0) rfl (by decide) (by decide) rfl (fun ls hl => ?_)
  refine lv_goto (tgt := 2) hx hb dX11_clears_15 (by decide) ?_
  refine lv_iload_n hx hb dX11_clears_2 rfl (lv_at hl 0 rfl) ?_
  refine lv_bipush (v := 9) hx hb dX11_clears_3 (by decide) ?_
  refine lv_icmp_ge (tgt := 18) hx hb dX11_clears_5 (by decide) (fun cc => absurd cc (by decide +kernel)) (fun _ => ?_)
  refine lv_aload_n hx hb dX11_clears_8 rfl (lv_at hl 2 rfl) ?_
  refine lv_iload_n hx hb dX11_clears_9 rfl (lv_at hl 0 rfl) ?_
  refine lv_lconst (v := 0) hx hb dX11_clears_10 (by decide) ?_
  refine st_l (j := 4) (g := tL [0, 0, 0, 0, 0] 0) hx hb hK hP hD hS 0 rfl (by decide +kernel) upd_tL dX11_clears_11 (fun H locs hP hD hS => ?_)
  have hP : va_P D cl0 [(h0, .inl (k 1, 9, .inr (.inl (tL [0, 0, 0, 0, 0] 0))))] H := hP
  have hD : va_D A [(h0, .inl (k 1, 9, .inr (.inl (tL [0, 0, 0, 0, 0] 0))))] := hD
  refine lv_iinc (v := 5) (lv' := [(2, .int 5), (0, .ref h1), (1, .ref h0)]) hx hb dX11_clears_12 hl (k := 0) rfl (by decide) (by decide) rfl (fun ls hl => ?_)
  refine lv_goto (tgt := 2) hx hb dX11_clears_15 (by decide) ?_
  refine lv_iload_n hx hb dX11_clears_2 rfl (lv_at hl 0 rfl) ?_
  refine lv_bipush (v := 9) hx hb dX11_clears_3 (by decide) ?_
  refine lv_icmp_ge (tgt := 18) hx hb dX11_clears_5 (by decide) (fun cc => absurd cc (by decide +kernel)) (fun _ => ?_)
  refine lv_aload_n hx hb dX11_clears_8 rfl (lv_at hl 2 rfl) ?_
  refine lv_iload_n hx hb dX11_clears_9 rfl (lv_at hl 0 rfl) ?_
  refine lv_lconst (v := 0) hx hb dX11_clears_10 (by decide) ?_
  refine st_l (j := 5) (g := tL [0, 0, 0, 0, 0, 0] 0) hx hb hK hP hD hS 0 rfl (by decide +kernel) upd_tL dX11_clears_11 (fun H locs hP hD hS => ?_)
  have hP : va_P D cl0 [(h0, .inl (k 1, 9, .inr (.inl (tL [0, 0, 0, 0, 0, 0] 0))))] H := hP
  have hD : va_D A [(h0, .inl (k 1, 9, .inr (.inl (tL [0, 0, 0, 0, 0, 0] 0))))] := hD
  refine lv_iinc (v := 6) (lv' := [(2, .int 6), (0, .ref h1), (1, .ref h0)]) hx hb dX11_clears_12 hl (k := 0) rfl (by decide) (by decide) rfl (fun ls hl => ?_)
  refine lv_goto (tgt := 2) hx hb dX11_clears_15 (by decide) ?_
  refine lv_iload_n hx hb dX11_clears_2 rfl (lv_at hl 0 rfl) ?_
  refine lv_bipush (v := 9) hx hb dX11_clears_3 (by decide) ?_
  refine lv_icmp_ge (tgt := 18) hx hb dX11_clears_5 (by decide) (fun cc => absurd cc (by decide +kernel)) (fun _ => ?_)
  refine lv_aload_n hx hb dX11_clears_8 rfl (lv_at hl 2 rfl) ?_
  refine lv_iload_n hx hb dX11_clears_9 rfl (lv_at hl 0 rfl) ?_
  refine lv_lconst (v := 0) hx hb dX11_clears_10 (by decide) ?_
  refine st_l (j := 6) (g := tL [0, 0, 0, 0, 0, 0, 0] 0) hx hb hK hP hD hS 0 rfl (by decide +kernel) upd_tL dX11_clears_11 (fun H locs hP hD hS => ?_)
  have hP : va_P D cl0 [(h0, .inl (k 1, 9, .inr (.inl (tL [0, 0, 0, 0, 0, 0, 0] 0))))] H := hP
  have hD : va_D A [(h0, .inl (k 1, 9, .inr (.inl (tL [0, 0, 0, 0, 0, 0, 0] 0))))] := hD
  refine lv_iinc (v := 7) (lv' := [(2, .int 7), (0, .ref h1), (1, .ref h0)]) hx hb dX11_clears_12 hl (k := 0) rfl (by decide) (by decide) rfl (fun ls hl => ?_)
  refine lv_goto (tgt := 2) hx hb dX11_clears_15 (by decide) ?_
  refine lv_iload_n hx hb dX11_clears_2 rfl (lv_at hl 0 rfl) ?_
  refine lv_bipush (v := 9) hx hb dX11_clears_3 (by decide) ?_
  refine lv_icmp_ge (tgt := 18) hx hb dX11_clears_5 (by decide) (fun cc => absurd cc (by decide +kernel)) (fun _ => ?_)
  refine lv_aload_n hx hb dX11_clears_8 rfl (lv_at hl 2 rfl) ?_
  refine lv_iload_n hx hb dX11_clears_9 rfl (lv_at hl 0 rfl) ?_
  refine lv_lconst (v := 0) hx hb dX11_clears_10 (by decide) ?_
  refine st_l (j := 7) (g := tL [0, 0, 0, 0, 0, 0, 0, 0] 0) hx hb hK hP hD hS 0 rfl (by decide +kernel) upd_tL dX11_clears_11 (fun H locs hP hD hS => ?_)
  have hP : va_P D cl0 [(h0, .inl (k 1, 9, .inr (.inl (tL [0, 0, 0, 0, 0, 0, 0, 0] 0))))] H := hP
  have hD : va_D A [(h0, .inl (k 1, 9, .inr (.inl (tL [0, 0, 0, 0, 0, 0, 0, 0] 0))))] := hD
  refine lv_iinc (v := 8) (lv' := [(2, .int 8), (0, .ref h1), (1, .ref h0)]) hx hb dX11_clears_12 hl (k := 0) rfl (by decide) (by decide) rfl (fun ls hl => ?_)
  refine lv_goto (tgt := 2) hx hb dX11_clears_15 (by decide) ?_
  refine lv_iload_n hx hb dX11_clears_2 rfl (lv_at hl 0 rfl) ?_
  refine lv_bipush (v := 9) hx hb dX11_clears_3 (by decide) ?_
  refine lv_icmp_ge (tgt := 18) hx hb dX11_clears_5 (by decide) (fun cc => absurd cc (by decide +kernel)) (fun _ => ?_)
  refine lv_aload_n hx hb dX11_clears_8 rfl (lv_at hl 2 rfl) ?_
  refine lv_iload_n hx hb dX11_clears_9 rfl (lv_at hl 0 rfl) ?_
  refine lv_lconst (v := 0) hx hb dX11_clears_10 (by decide) ?_
  refine st_l (j := 8) (g := tL [0, 0, 0, 0, 0, 0, 0, 0, 0] 0) hx hb hK hP hD hS 0 rfl (by decide +kernel) upd_tL dX11_clears_11 (fun H locs hP hD hS => ?_)
  have hP : va_P D cl0 [(h0, .inl (k 1, 9, .inr (.inl (tL [0, 0, 0, 0, 0, 0, 0, 0, 0] 0))))] H := hP
  have hD : va_D A [(h0, .inl (k 1, 9, .inr (.inl (tL [0, 0, 0, 0, 0, 0, 0, 0, 0] 0))))] := hD
  refine lv_iinc (v := 9) (lv' := [(2, .int 9), (0, .ref h1), (1, .ref h0)]) hx hb dX11_clears_12 hl (k := 0) rfl (by decide) (by decide) rfl (fun ls hl => ?_)
  refine lv_goto (tgt := 2) hx hb dX11_clears_15 (by decide) ?_
  refine lv_iload_n hx hb dX11_clears_2 rfl (lv_at hl 0 rfl) ?_
  refine lv_bipush (v := 9) hx hb dX11_clears_3 (by decide) ?_
  refine lv_icmp_ge (tgt := 18) hx hb dX11_clears_5 (by decide) (fun _ => ?_) (fun cc => absurd (by decide +kernel) cc)
  exact retV hx hb hr hlocks hS (⟨hP, hD⟩) dX11_clears_18
abbrev BX11_first_1 (D : va_G) (k : Nat → ClassId) (h0 h1 h2 h3 h4 h5 h6 h7 h8 h9 h10 h11 h12 h13 h14 h15 h16 h17 h18 h19 h20 h21 : Nat) (A : Nat → Prop) (H : Heap) : Prop := va_P D cl0 [(h1, .inr (8, [.int 2, .int 0, .int 1, .int 0, .int 0, .int 0, .ref h2, .ref h3, .int 0, .int 0, .ref h0, .ref h4, .ref h5, .ref h6, .ref h7, .ref h8, .ref h9, .int 0, .int 0, .int 0, .ref h10, .ref h11, .ref h12, .ref h13, .int 0, .int 0, .ref h14, .ref h15, .ref h16, .ref h17, .int 0, .int 0, .ref h18, .ref h19, .ref h20, .ref h21])), (h0, .inl (k 1, 9, .inr (.inl (tL [1, 0, 0, 0, 1, 0, 0, 0, 0] 0))))] H ∧ va_D A [(h1, .inr (8, [.int 2, .int 0, .int 1, .int 0, .int 0, .int 0, .ref h2, .ref h3, .int 0, .int 0, .ref h0, .ref h4, .ref h5, .ref h6, .ref h7, .ref h8, .ref h9, .int 0, .int 0, .int 0, .ref h10, .ref h11, .ref h12, .ref h13, .int 0, .int 0, .ref h14, .ref h15, .ref h16, .ref h17, .int 0, .int 0, .ref h18, .ref h19, .ref h20, .ref h21])), (h0, .inl (k 1, 9, .inr (.inl (tL [1, 0, 0, 0, 1, 0, 0, 0, 0] 0))))]
set_option maxHeartbeats 4000000 in
set_option maxRecDepth 100000 in
theorem cX11_first_1 (l : Launch) (D : va_G) (k : Nat → ClassId) (sz : Nat) (h0 h1 h2 h3 h4 h5 h6 h7 h8 h9 h10 h11 h12 h13 h14 h15 h16 h17 h18 h19 h20 h21 : Nat) : Met l yX11_first (Cond.code yX11_first cX11_first 3 none :: uw) ({ frames := 1, cells := 0, slots := 0, locals := 22 }) (pC D k sz [.ref h1, .ref h0] [(h0, .inl (k 1, 9, .inr (.inl (tL [] 0)))), (h1, .inr (8, [.int 2, .int 0, .int 1, .int 0, .int 0, .int 0, .ref h2, .ref h3, .int 0, .int 0, .ref h0, .ref h4, .ref h5, .ref h6, .ref h7, .ref h8, .ref h9, .int 0, .int 0, .int 0, .ref h10, .ref h11, .ref h12, .ref h13, .int 0, .int 0, .ref h14, .ref h15, .ref h16, .ref h17, .int 0, .int 0, .ref h18, .ref h19, .ref h20, .ref h21]))]) (qV (BX11_first_1 D k h0 h1 h2 h3 h4 h5 h6 h7 h8 h9 h10 h11 h12 h13 h14 h15 h16 h17 h18 h19 h20 h21 (va_A [(h0, .inl (k 1, 9, .inr (.inl (tL [] 0)))), (h1, .inr (8, [.int 2, .int 0, .int 1, .int 0, .int 0, .int 0, .ref h2, .ref h3, .int 0, .int 0, .ref h0, .ref h4, .ref h5, .ref h6, .ref h7, .ref h8, .ref h9, .int 0, .int 0, .int 0, .ref h10, .ref h11, .ref h12, .ref h13, .int 0, .int 0, .ref h14, .ref h15, .ref h16, .ref h17, .int 0, .int 0, .ref h18, .ref h19, .ref h20, .ref h21]))] sz)) (va_A [(h0, .inl (k 1, 9, .inr (.inl (tL [] 0)))), (h1, .inr (8, [.int 2, .int 0, .int 1, .int 0, .int 0, .int 0, .ref h2, .ref h3, .int 0, .int 0, .ref h0, .ref h4, .ref h5, .ref h6, .ref h7, .ref h8, .ref h9, .int 0, .int 0, .int 0, .ref h10, .ref h11, .ref h12, .ref h13, .int 0, .int 0, .ref h14, .ref h15, .ref h16, .ref h17, .int 0, .int 0, .ref h18, .ref h19, .ref h20, .ref h21]))] sz)) 0 0 (va_A [(h0, .inl (k 1, 9, .inr (.inl (tL [] 0)))), (h1, .inr (8, [.int 2, .int 0, .int 1, .int 0, .int 0, .int 0, .ref h2, .ref h3, .int 0, .int 0, .ref h0, .ref h4, .ref h5, .ref h6, .ref h7, .ref h8, .ref h9, .int 0, .int 0, .int 0, .ref h10, .ref h11, .ref h12, .ref h13, .int 0, .int 0, .ref h14, .ref h15, .ref h16, .ref h17, .int 0, .int 0, .ref h18, .ref h19, .ref h20, .ref h21]))] sz) := by
  refine begin_ (Qc := fun A => qV (BX11_first_1 D k h0 h1 h2 h3 h4 h5 h6 h7 h8 h9 h10 h11 h12 h13 h14 h15 h16 h17 h18 h19 h20 h21 A) A) (by decide) (Nat.le_of_ble_eq_true rfl) ?_
  intro p e s m below meth c ls A hx hb hr hml hown hlocks hin hU hK hsz hP hD hS hA hl
  have hl : lv_has ls 3 [(0, .ref h1), (1, .ref h0)] := hl
  clear hsz
  refine lv_aload_n hx hb dX11_first_0 rfl (lv_at hl 0 rfl) ?_
  refine lv_aload_n hx hb dX11_first_1 rfl (lv_at hl 1 rfl) ?_
  refine cV (rV (q0 := 1) (ci := 8) (As := [.ref h0]) (rest := []) (wc := [(h0, .inl (k 1, 9, .inr (.inl (tL [] 0))))]) hx hb hml hown hU hK hP hD rfl rfl [0] rfl (by decide) (cX11_clears_1 l D k _ h0 h1) w923 w920 w922 w29 w72 hdX11_clears ⟨rfl, rfl⟩ ⟨Nat.le_of_ble_eq_true rfl, Nat.le_of_ble_eq_true rfl⟩ rfl hl.1 (Nat.le_of_ble_eq_true rfl) dX11_first_2 ⟨Nat.le_of_ble_eq_true rfl, Nat.le_of_ble_eq_true rfl⟩) hP hD hS hA (wr := [(h1, .inr (8, [.int 2, .int 0, .int 1, .int 0, .int 0, .int 0, .ref h2, .ref h3, .int 0, .int 0, .ref h0, .ref h4, .ref h5, .ref h6, .ref h7, .ref h8, .ref h9, .int 0, .int 0, .int 0, .ref h10, .ref h11, .ref h12, .ref h13, .int 0, .int 0, .ref h14, .ref h15, .ref h16, .ref h17, .int 0, .int 0, .ref h18, .ref h19, .ref h20, .ref h21]))]) [0] [1] rfl rfl (by decide) (by decide) (fun H locs hB J hS => ?_)
  obtain ⟨hP1, hD1⟩ := hB
  obtain ⟨hP, hD⟩ := J _ hP1 hD1
  have hP : va_P D cl0 [(h1, .inr (8, [.int 2, .int 0, .int 1, .int 0, .int 0, .int 0, .ref h2, .ref h3, .int 0, .int 0, .ref h0, .ref h4, .ref h5, .ref h6, .ref h7, .ref h8, .ref h9, .int 0, .int 0, .int 0, .ref h10, .ref h11, .ref h12, .ref h13, .int 0, .int 0, .ref h14, .ref h15, .ref h16, .ref h17, .int 0, .int 0, .ref h18, .ref h19, .ref h20, .ref h21])), (h0, .inl (k 1, 9, .inr (.inl (tL [0, 0, 0, 0, 0, 0, 0, 0, 0] 0))))] H := hP
  have hD : va_D A [(h1, .inr (8, [.int 2, .int 0, .int 1, .int 0, .int 0, .int 0, .ref h2, .ref h3, .int 0, .int 0, .ref h0, .ref h4, .ref h5, .ref h6, .ref h7, .ref h8, .ref h9, .int 0, .int 0, .int 0, .ref h10, .ref h11, .ref h12, .ref h13, .int 0, .int 0, .ref h14, .ref h15, .ref h16, .ref h17, .int 0, .int 0, .ref h18, .ref h19, .ref h20, .ref h21])), (h0, .inl (k 1, 9, .inr (.inl (tL [0, 0, 0, 0, 0, 0, 0, 0, 0] 0))))] := hD
  refine lv_iconst (v := 0) hx hb dX11_first_5 (by decide) ?_
  refine lv_istore_n (lv' := [(2, .int 0), (0, .ref h1), (1, .ref h0)]) hx hb dX11_first_6 rfl hl (by decide) rfl (fun ls hl => ?_)
  refine lv_iload_n hx hb dX11_first_7 rfl (lv_at hl 0 rfl) ?_
  refine lv_aload_n hx hb dX11_first_8 rfl (lv_at hl 1 rfl) ?_
  refine va_get (D := D) (ci := 8) (v := .int 2) (C := RX11) (T := TX11) (N := 36) hx hb hU iX11 hown hK.1 hP 0 rfl rfl 0 (by decide) (hU _ w785) (fun _ h9 => h9) rfl dX11_first_9 ?_
  refine lv_icmp_ge (tgt := 27) hx hb dX11_first_12 (by decide) (fun cc => absurd cc (by decide +kernel)) (fun _ => ?_)
  refine lv_aload_n hx hb dX11_first_15 rfl (lv_at hl 2 rfl) ?_
  refine lv_iconst (v := 4) hx hb dX11_first_16 (by decide) ?_
  refine lv_iload_n hx hb dX11_first_17 rfl (lv_at hl 0 rfl) ?_
  refine lv_imul hx hb dX11_first_18 (sv_i (v := 0) (by decide +kernel) ?_)
  refine lv_lconst (v := 1) hx hb dX11_first_19 (by decide) ?_
  refine st_l (j := 0) (g := tL [1, 0, 0, 0, 0, 0, 0, 0, 0] 0) hx hb hK hP hD hS 1 rfl (by decide +kernel) upd_tL dX11_first_20 (fun H locs hP hD hS => ?_)
  have hP : va_P D cl0 [(h1, .inr (8, [.int 2, .int 0, .int 1, .int 0, .int 0, .int 0, .ref h2, .ref h3, .int 0, .int 0, .ref h0, .ref h4, .ref h5, .ref h6, .ref h7, .ref h8, .ref h9, .int 0, .int 0, .int 0, .ref h10, .ref h11, .ref h12, .ref h13, .int 0, .int 0, .ref h14, .ref h15, .ref h16, .ref h17, .int 0, .int 0, .ref h18, .ref h19, .ref h20, .ref h21])), (h0, .inl (k 1, 9, .inr (.inl (tL [1, 0, 0, 0, 0, 0, 0, 0, 0] 0))))] H := hP
  have hD : va_D A [(h1, .inr (8, [.int 2, .int 0, .int 1, .int 0, .int 0, .int 0, .ref h2, .ref h3, .int 0, .int 0, .ref h0, .ref h4, .ref h5, .ref h6, .ref h7, .ref h8, .ref h9, .int 0, .int 0, .int 0, .ref h10, .ref h11, .ref h12, .ref h13, .int 0, .int 0, .ref h14, .ref h15, .ref h16, .ref h17, .int 0, .int 0, .ref h18, .ref h19, .ref h20, .ref h21])), (h0, .inl (k 1, 9, .inr (.inl (tL [1, 0, 0, 0, 0, 0, 0, 0, 0] 0))))] := hD
  refine lv_iinc (v := 1) (lv' := [(2, .int 1), (0, .ref h1), (1, .ref h0)]) hx hb dX11_first_21 hl (k := 0) rfl (by decide) (by decide) rfl (fun ls hl => ?_)
  refine lv_goto (tgt := 7) hx hb dX11_first_24 (by decide) ?_
  refine lv_iload_n hx hb dX11_first_7 rfl (lv_at hl 0 rfl) ?_
  refine lv_aload_n hx hb dX11_first_8 rfl (lv_at hl 1 rfl) ?_
  refine va_get (D := D) (ci := 8) (v := .int 2) (C := RX11) (T := TX11) (N := 36) hx hb hU iX11 hown hK.1 hP 0 rfl rfl 0 (by decide) (hU _ w785) (fun _ h9 => h9) rfl dX11_first_9 ?_
  refine lv_icmp_ge (tgt := 27) hx hb dX11_first_12 (by decide) (fun cc => absurd cc (by decide +kernel)) (fun _ => ?_)
  refine lv_aload_n hx hb dX11_first_15 rfl (lv_at hl 2 rfl) ?_
  refine lv_iconst (v := 4) hx hb dX11_first_16 (by decide) ?_
  refine lv_iload_n hx hb dX11_first_17 rfl (lv_at hl 0 rfl) ?_
  refine lv_imul hx hb dX11_first_18 (sv_i (v := 4) (by decide +kernel) ?_)
  refine lv_lconst (v := 1) hx hb dX11_first_19 (by decide) ?_
  refine st_l (j := 4) (g := tL [1, 0, 0, 0, 1, 0, 0, 0, 0] 0) hx hb hK hP hD hS 1 rfl (by decide +kernel) upd_tL dX11_first_20 (fun H locs hP hD hS => ?_)
  have hP : va_P D cl0 [(h1, .inr (8, [.int 2, .int 0, .int 1, .int 0, .int 0, .int 0, .ref h2, .ref h3, .int 0, .int 0, .ref h0, .ref h4, .ref h5, .ref h6, .ref h7, .ref h8, .ref h9, .int 0, .int 0, .int 0, .ref h10, .ref h11, .ref h12, .ref h13, .int 0, .int 0, .ref h14, .ref h15, .ref h16, .ref h17, .int 0, .int 0, .ref h18, .ref h19, .ref h20, .ref h21])), (h0, .inl (k 1, 9, .inr (.inl (tL [1, 0, 0, 0, 1, 0, 0, 0, 0] 0))))] H := hP
  have hD : va_D A [(h1, .inr (8, [.int 2, .int 0, .int 1, .int 0, .int 0, .int 0, .ref h2, .ref h3, .int 0, .int 0, .ref h0, .ref h4, .ref h5, .ref h6, .ref h7, .ref h8, .ref h9, .int 0, .int 0, .int 0, .ref h10, .ref h11, .ref h12, .ref h13, .int 0, .int 0, .ref h14, .ref h15, .ref h16, .ref h17, .int 0, .int 0, .ref h18, .ref h19, .ref h20, .ref h21])), (h0, .inl (k 1, 9, .inr (.inl (tL [1, 0, 0, 0, 1, 0, 0, 0, 0] 0))))] := hD
  refine lv_iinc (v := 2) (lv' := [(2, .int 2), (0, .ref h1), (1, .ref h0)]) hx hb dX11_first_21 hl (k := 0) rfl (by decide) (by decide) rfl (fun ls hl => ?_)
  refine lv_goto (tgt := 7) hx hb dX11_first_24 (by decide) ?_
  refine lv_iload_n hx hb dX11_first_7 rfl (lv_at hl 0 rfl) ?_
  refine lv_aload_n hx hb dX11_first_8 rfl (lv_at hl 1 rfl) ?_
  refine va_get (D := D) (ci := 8) (v := .int 2) (C := RX11) (T := TX11) (N := 36) hx hb hU iX11 hown hK.1 hP 0 rfl rfl 0 (by decide) (hU _ w785) (fun _ h9 => h9) rfl dX11_first_9 ?_
  refine lv_icmp_ge (tgt := 27) hx hb dX11_first_12 (by decide) (fun _ => ?_) (fun cc => absurd (by decide +kernel) cc)
  exact retV hx hb hr hlocks hS (⟨hP, hD⟩) dX11_first_27
abbrev BX11_makesUnit_1 (D : va_G) (k : Nat → ClassId) (h0 h1 h2 h3 h4 h5 h6 h7 h8 h9 h10 h11 h12 h13 h14 h15 h16 h17 h18 h19 h20 h21 : Nat) (A : Nat → Prop) (H : Heap) : Prop := va_P D cl0 [(h0, .inr (8, [.int 2, .int 0, .int 1, .int 0, .int 0, .int 0, .ref h2, .ref h3, .int 0, .int 0, .ref h1, .ref h4, .ref h5, .ref h6, .ref h7, .ref h8, .ref h9, .int 0, .int 0, .int 0, .ref h10, .ref h11, .ref h12, .ref h13, .int 0, .int 0, .ref h14, .ref h15, .ref h16, .ref h17, .int 0, .int 0, .ref h18, .ref h19, .ref h20, .ref h21])), (h1, .inl (k 1, 9, .inr (.inl (tL [1, 0, 0, 0, 1, 0, 0, 0, 0] 0))))] H ∧ va_D A [(h0, .inr (8, [.int 2, .int 0, .int 1, .int 0, .int 0, .int 0, .ref h2, .ref h3, .int 0, .int 0, .ref h1, .ref h4, .ref h5, .ref h6, .ref h7, .ref h8, .ref h9, .int 0, .int 0, .int 0, .ref h10, .ref h11, .ref h12, .ref h13, .int 0, .int 0, .ref h14, .ref h15, .ref h16, .ref h17, .int 0, .int 0, .ref h18, .ref h19, .ref h20, .ref h21])), (h1, .inl (k 1, 9, .inr (.inl (tL [1, 0, 0, 0, 1, 0, 0, 0, 0] 0))))]
set_option maxHeartbeats 4000000 in
set_option maxRecDepth 100000 in
theorem cX11_makesUnit_1 (l : Launch) (D : va_G) (k : Nat → ClassId) (sz : Nat) (h0 h1 h2 h3 h4 h5 h6 h7 h8 h9 h10 h11 h12 h13 h14 h15 h16 h17 h18 h19 h20 h21 : Nat) : Met l yX11_makesUnit (Cond.code yX11_makesUnit cX11_makesUnit 4 none :: uw) ({ frames := 2, cells := 0, slots := 0, locals := 44 }) (pC D k sz [.ref h0, .int 0, .int 0, .int 1] [(h0, .inr (8, [.int 2, .int 0, .int 1, .int 0, .int 0, .int 0, .ref h2, .ref h3, .int 0, .int 0, .ref h1, .ref h4, .ref h5, .ref h6, .ref h7, .ref h8, .ref h9, .int 0, .int 0, .int 0, .ref h10, .ref h11, .ref h12, .ref h13, .int 0, .int 0, .ref h14, .ref h15, .ref h16, .ref h17, .int 0, .int 0, .ref h18, .ref h19, .ref h20, .ref h21])), (h1, .inl (k 1, 9, .inr (.inl (tL [] 0))))]) (qV (BX11_makesUnit_1 D k h0 h1 h2 h3 h4 h5 h6 h7 h8 h9 h10 h11 h12 h13 h14 h15 h16 h17 h18 h19 h20 h21 (va_A [(h0, .inr (8, [.int 2, .int 0, .int 1, .int 0, .int 0, .int 0, .ref h2, .ref h3, .int 0, .int 0, .ref h1, .ref h4, .ref h5, .ref h6, .ref h7, .ref h8, .ref h9, .int 0, .int 0, .int 0, .ref h10, .ref h11, .ref h12, .ref h13, .int 0, .int 0, .ref h14, .ref h15, .ref h16, .ref h17, .int 0, .int 0, .ref h18, .ref h19, .ref h20, .ref h21])), (h1, .inl (k 1, 9, .inr (.inl (tL [] 0))))] sz)) (va_A [(h0, .inr (8, [.int 2, .int 0, .int 1, .int 0, .int 0, .int 0, .ref h2, .ref h3, .int 0, .int 0, .ref h1, .ref h4, .ref h5, .ref h6, .ref h7, .ref h8, .ref h9, .int 0, .int 0, .int 0, .ref h10, .ref h11, .ref h12, .ref h13, .int 0, .int 0, .ref h14, .ref h15, .ref h16, .ref h17, .int 0, .int 0, .ref h18, .ref h19, .ref h20, .ref h21])), (h1, .inl (k 1, 9, .inr (.inl (tL [] 0))))] sz)) 0 0 (va_A [(h0, .inr (8, [.int 2, .int 0, .int 1, .int 0, .int 0, .int 0, .ref h2, .ref h3, .int 0, .int 0, .ref h1, .ref h4, .ref h5, .ref h6, .ref h7, .ref h8, .ref h9, .int 0, .int 0, .int 0, .ref h10, .ref h11, .ref h12, .ref h13, .int 0, .int 0, .ref h14, .ref h15, .ref h16, .ref h17, .int 0, .int 0, .ref h18, .ref h19, .ref h20, .ref h21])), (h1, .inl (k 1, 9, .inr (.inl (tL [] 0))))] sz) := by
  refine begin_ (Qc := fun A => qV (BX11_makesUnit_1 D k h0 h1 h2 h3 h4 h5 h6 h7 h8 h9 h10 h11 h12 h13 h14 h15 h16 h17 h18 h19 h20 h21 A) A) (by decide) (Nat.le_of_ble_eq_true rfl) ?_
  intro p e s m below meth c ls A hx hb hr hml hown hlocks hin hU hK hsz hP hD hS hA hl
  have hl : lv_has ls 4 [(0, .ref h0), (1, .int 0), (2, .int 0), (3, .int 1)] := hl
  clear hsz
  refine lv_aload_n hx hb dX11_makesUnit_0 rfl (lv_at hl 0 rfl) ?_
  refine lv_aload_n hx hb dX11_makesUnit_1 rfl (lv_at hl 0 rfl) ?_
  refine va_get (D := D) (ci := 8) (v := .ref h1) (C := RX11) (T := TX11) (N := 36) hx hb hU iX11 hown hK.1 hP 0 rfl rfl 10 (by decide) (hU _ w795) (fun _ h9 => h9) rfl dX11_makesUnit_2 ?_
  refine cV (rV (q0 := 0) (ci := 8) (As := [.ref h1]) (rest := []) (wc := [(h1, .inl (k 1, 9, .inr (.inl (tL [] 0)))), (h0, .inr (8, [.int 2, .int 0, .int 1, .int 0, .int 0, .int 0, .ref h2, .ref h3, .int 0, .int 0, .ref h1, .ref h4, .ref h5, .ref h6, .ref h7, .ref h8, .ref h9, .int 0, .int 0, .int 0, .ref h10, .ref h11, .ref h12, .ref h13, .int 0, .int 0, .ref h14, .ref h15, .ref h16, .ref h17, .int 0, .int 0, .ref h18, .ref h19, .ref h20, .ref h21]))]) hx hb hml hown hU hK hP hD rfl rfl [1, 0] rfl (by decide) (cX11_first_1 l D k _ h1 h0 h2 h3 h4 h5 h6 h7 h8 h9 h10 h11 h12 h13 h14 h15 h16 h17 h18 h19 h20 h21) w919 w916 w918 w28 w72 hdX11_first ⟨rfl, rfl⟩ ⟨Nat.le_of_ble_eq_true rfl, Nat.le_of_ble_eq_true rfl⟩ rfl hl.1 (Nat.le_of_ble_eq_true rfl) dX11_makesUnit_5 ⟨Nat.le_of_ble_eq_true rfl, Nat.le_of_ble_eq_true rfl⟩) hP hD hS hA (wr := []) [1, 0] [] rfl rfl (by decide) (by decide) (fun H locs hB J hS => ?_)
  obtain ⟨hP1, hD1⟩ := hB
  obtain ⟨hP, hD⟩ := J _ hP1 hD1
  have hP : va_P D cl0 [(h0, .inr (8, [.int 2, .int 0, .int 1, .int 0, .int 0, .int 0, .ref h2, .ref h3, .int 0, .int 0, .ref h1, .ref h4, .ref h5, .ref h6, .ref h7, .ref h8, .ref h9, .int 0, .int 0, .int 0, .ref h10, .ref h11, .ref h12, .ref h13, .int 0, .int 0, .ref h14, .ref h15, .ref h16, .ref h17, .int 0, .int 0, .ref h18, .ref h19, .ref h20, .ref h21])), (h1, .inl (k 1, 9, .inr (.inl (tL [1, 0, 0, 0, 1, 0, 0, 0, 0] 0))))] H := hP
  have hD : va_D A [(h0, .inr (8, [.int 2, .int 0, .int 1, .int 0, .int 0, .int 0, .ref h2, .ref h3, .int 0, .int 0, .ref h1, .ref h4, .ref h5, .ref h6, .ref h7, .ref h8, .ref h9, .int 0, .int 0, .int 0, .ref h10, .ref h11, .ref h12, .ref h13, .int 0, .int 0, .ref h14, .ref h15, .ref h16, .ref h17, .int 0, .int 0, .ref h18, .ref h19, .ref h20, .ref h21])), (h1, .inl (k 1, 9, .inr (.inl (tL [1, 0, 0, 0, 1, 0, 0, 0, 0] 0))))] := hD
  refine lv_aload_n hx hb dX11_makesUnit_8 rfl (lv_at hl 0 rfl) ?_
  refine va_get (D := D) (ci := 8) (v := .ref h1) (C := RX11) (T := TX11) (N := 36) hx hb hU iX11 hown hK.1 hP 0 rfl rfl 10 (by decide) (hU _ w795) (fun _ h9 => h9) rfl dX11_makesUnit_9 ?_
  refine lv_iconst (v := 3) hx hb dX11_makesUnit_12 (by decide) ?_
  refine lv_iload_n hx hb dX11_makesUnit_13 rfl (lv_at hl 1 rfl) ?_
  refine lv_imul hx hb dX11_makesUnit_14 (sv_i (v := 0) (by decide +kernel) ?_)
  refine lv_iload_n hx hb dX11_makesUnit_15 rfl (lv_at hl 2 rfl) ?_
  refine lv_iadd hx hb dX11_makesUnit_16 (sv_i (v := 0) (by decide +kernel) ?_)
  refine lv_iload_n hx hb dX11_makesUnit_17 rfl (lv_at hl 3 rfl) ?_
  refine lv_i2l (v := 1) hx hb dX11_makesUnit_18 (by decide +kernel) ?_
  refine st_l (j := 0) (g := tL [1, 0, 0, 0, 1, 0, 0, 0, 0] 0) hx hb hK hP hD hS 1 rfl (by decide +kernel) upd_tL dX11_makesUnit_19 (fun H locs hP hD hS => ?_)
  have hP : va_P D cl0 [(h0, .inr (8, [.int 2, .int 0, .int 1, .int 0, .int 0, .int 0, .ref h2, .ref h3, .int 0, .int 0, .ref h1, .ref h4, .ref h5, .ref h6, .ref h7, .ref h8, .ref h9, .int 0, .int 0, .int 0, .ref h10, .ref h11, .ref h12, .ref h13, .int 0, .int 0, .ref h14, .ref h15, .ref h16, .ref h17, .int 0, .int 0, .ref h18, .ref h19, .ref h20, .ref h21])), (h1, .inl (k 1, 9, .inr (.inl (tL [1, 0, 0, 0, 1, 0, 0, 0, 0] 0))))] H := hP
  have hD : va_D A [(h0, .inr (8, [.int 2, .int 0, .int 1, .int 0, .int 0, .int 0, .ref h2, .ref h3, .int 0, .int 0, .ref h1, .ref h4, .ref h5, .ref h6, .ref h7, .ref h8, .ref h9, .int 0, .int 0, .int 0, .ref h10, .ref h11, .ref h12, .ref h13, .int 0, .int 0, .ref h14, .ref h15, .ref h16, .ref h17, .int 0, .int 0, .ref h18, .ref h19, .ref h20, .ref h21])), (h1, .inl (k 1, 9, .inr (.inl (tL [1, 0, 0, 0, 1, 0, 0, 0, 0] 0))))] := hD
  exact retV hx hb hr hlocks hS (⟨hP, hD⟩) dX11_makesUnit_20
abbrev BX11_comes_1 (D : va_G) (k : Nat → ClassId) (h0 h1 h2 h3 h4 h5 h6 h7 h8 h9 h10 h11 h12 h13 h14 h15 h16 h17 h18 h19 h20 h21 : Nat) (A : Nat → Prop) (r : Int32) (H : Heap) : Prop := 0 = r ∧ va_P D cl0 [(h0, .inr (8, [.int 2, .int 1, .int 1, .int 0, .int 0, .int 0, .ref h2, .ref h3, .int 0, .int 0, .ref h1, .ref h4, .ref h5, .ref h6, .ref h7, .ref h8, .ref h9, .int 0, .int 0, .int 0, .ref h10, .ref h11, .ref h12, .ref h13, .int 0, .int 0, .ref h14, .ref h15, .ref h16, .ref h17, .int 0, .int 0, .ref h18, .ref h19, .ref h20, .ref h21])), (h1, .inl (k 1, 9, .inr (.inl (tL [1, 0, 0, 0, 1, 0, 0, 0, 0] 0)))), (h2, .inl (k 0, 36, .inl (tI [1, 0, 0, 0, 1, 0, 0, 0, 0] 0)))] H ∧ va_D A [(h0, .inr (8, [.int 2, .int 1, .int 1, .int 0, .int 0, .int 0, .ref h2, .ref h3, .int 0, .int 0, .ref h1, .ref h4, .ref h5, .ref h6, .ref h7, .ref h8, .ref h9, .int 0, .int 0, .int 0, .ref h10, .ref h11, .ref h12, .ref h13, .int 0, .int 0, .ref h14, .ref h15, .ref h16, .ref h17, .int 0, .int 0, .ref h18, .ref h19, .ref h20, .ref h21])), (h1, .inl (k 1, 9, .inr (.inl (tL [1, 0, 0, 0, 1, 0, 0, 0, 0] 0)))), (h2, .inl (k 0, 36, .inl (tI [1, 0, 0, 0, 1, 0, 0, 0, 0] 0)))]
set_option maxHeartbeats 4000000 in
set_option maxRecDepth 100000 in
theorem cX11_comes_1 (l : Launch) (D : va_G) (k : Nat → ClassId) (sz : Nat) (h0 h1 h2 h3 h4 h5 h6 h7 h8 h9 h10 h11 h12 h13 h14 h15 h16 h17 h18 h19 h20 h21 : Nat) : Met l yX11_comes (Cond.code yX11_comes cX11_comes 2 (some .int) :: uw) ({ frames := 0, cells := 0, slots := 0, locals := 0 }) (pC D k sz [.ref h0] [(h0, .inr (8, [.int 2, .int 0, .int 1, .int 0, .int 0, .int 0, .ref h2, .ref h3, .int 0, .int 0, .ref h1, .ref h4, .ref h5, .ref h6, .ref h7, .ref h8, .ref h9, .int 0, .int 0, .int 0, .ref h10, .ref h11, .ref h12, .ref h13, .int 0, .int 0, .ref h14, .ref h15, .ref h16, .ref h17, .int 0, .int 0, .ref h18, .ref h19, .ref h20, .ref h21])), (h1, .inl (k 1, 9, .inr (.inl (tL [1, 0, 0, 0, 1, 0, 0, 0, 0] 0)))), (h2, .inl (k 0, 36, .inl (tI [] 0)))]) (qI (BX11_comes_1 D k h0 h1 h2 h3 h4 h5 h6 h7 h8 h9 h10 h11 h12 h13 h14 h15 h16 h17 h18 h19 h20 h21 (va_A [(h0, .inr (8, [.int 2, .int 0, .int 1, .int 0, .int 0, .int 0, .ref h2, .ref h3, .int 0, .int 0, .ref h1, .ref h4, .ref h5, .ref h6, .ref h7, .ref h8, .ref h9, .int 0, .int 0, .int 0, .ref h10, .ref h11, .ref h12, .ref h13, .int 0, .int 0, .ref h14, .ref h15, .ref h16, .ref h17, .int 0, .int 0, .ref h18, .ref h19, .ref h20, .ref h21])), (h1, .inl (k 1, 9, .inr (.inl (tL [1, 0, 0, 0, 1, 0, 0, 0, 0] 0)))), (h2, .inl (k 0, 36, .inl (tI [] 0)))] sz)) (va_A [(h0, .inr (8, [.int 2, .int 0, .int 1, .int 0, .int 0, .int 0, .ref h2, .ref h3, .int 0, .int 0, .ref h1, .ref h4, .ref h5, .ref h6, .ref h7, .ref h8, .ref h9, .int 0, .int 0, .int 0, .ref h10, .ref h11, .ref h12, .ref h13, .int 0, .int 0, .ref h14, .ref h15, .ref h16, .ref h17, .int 0, .int 0, .ref h18, .ref h19, .ref h20, .ref h21])), (h1, .inl (k 1, 9, .inr (.inl (tL [1, 0, 0, 0, 1, 0, 0, 0, 0] 0)))), (h2, .inl (k 0, 36, .inl (tI [] 0)))] sz)) 0 0 (va_A [(h0, .inr (8, [.int 2, .int 0, .int 1, .int 0, .int 0, .int 0, .ref h2, .ref h3, .int 0, .int 0, .ref h1, .ref h4, .ref h5, .ref h6, .ref h7, .ref h8, .ref h9, .int 0, .int 0, .int 0, .ref h10, .ref h11, .ref h12, .ref h13, .int 0, .int 0, .ref h14, .ref h15, .ref h16, .ref h17, .int 0, .int 0, .ref h18, .ref h19, .ref h20, .ref h21])), (h1, .inl (k 1, 9, .inr (.inl (tL [1, 0, 0, 0, 1, 0, 0, 0, 0] 0)))), (h2, .inl (k 0, 36, .inl (tI [] 0)))] sz) := by
  refine begin_ (Qc := fun A => qI (BX11_comes_1 D k h0 h1 h2 h3 h4 h5 h6 h7 h8 h9 h10 h11 h12 h13 h14 h15 h16 h17 h18 h19 h20 h21 A) A) (by decide) (Nat.le_of_ble_eq_true rfl) ?_
  intro p e s m below meth c ls A hx hb hr hml hown hlocks hin hU hK hsz hP hD hS hA hl
  have hl : lv_has ls 2 [(0, .ref h0)] := hl
  clear hsz
  refine lv_iconst (v := 0) hx hb dX11_comes_0 (by decide) ?_
  refine lv_istore_n (lv' := [(1, .int 0), (0, .ref h0)]) hx hb dX11_comes_1 rfl hl (by decide) rfl (fun ls hl => ?_)
  refine lv_iload_n hx hb dX11_comes_2 rfl (lv_at hl 0 rfl) ?_
  refine lv_bipush (v := 9) hx hb dX11_comes_3 (by decide) ?_
  refine lv_icmp_ge (tgt := 35) hx hb dX11_comes_5 (by decide) (fun cc => absurd cc (by decide +kernel)) (fun _ => ?_)
  refine lv_aload_n hx hb dX11_comes_8 rfl (lv_at hl 1 rfl) ?_
  refine va_get (D := D) (ci := 8) (v := .ref h2) (C := RX11) (T := TX11) (N := 36) hx hb hU iX11 hown hK.1 hP 0 rfl rfl 6 (by decide) (hU _ w791) (fun _ h9 => h9) rfl dX11_comes_9 ?_
  refine lv_bipush (v := 9) hx hb dX11_comes_12 (by decide) ?_
  refine lv_aload_n hx hb dX11_comes_14 rfl (lv_at hl 1 rfl) ?_
  refine va_get (D := D) (ci := 8) (v := .int 0) (C := RX11) (T := TX11) (N := 36) hx hb hU iX11 hown hK.1 hP 0 rfl rfl 1 (by decide) (hU _ w786) (fun _ h9 => h9) rfl dX11_comes_15 ?_
  refine lv_imul hx hb dX11_comes_18 (sv_i (v := 0) (by decide +kernel) ?_)
  refine lv_iload_n hx hb dX11_comes_19 rfl (lv_at hl 0 rfl) ?_
  refine lv_iadd hx hb dX11_comes_20 (sv_i (v := 0) (by decide +kernel) ?_)
  refine lv_aload_n hx hb dX11_comes_21 rfl (lv_at hl 1 rfl) ?_
  refine va_get (D := D) (ci := 8) (v := .ref h1) (C := RX11) (T := TX11) (N := 36) hx hb hU iX11 hown hK.1 hP 0 rfl rfl 10 (by decide) (hU _ w795) (fun _ h9 => h9) rfl dX11_comes_22 ?_
  refine lv_iload_n hx hb dX11_comes_25 rfl (lv_at hl 0 rfl) ?_
  refine ld_l (j := 0) (v := 1) hx hb hK hP 1 rfl (by decide +kernel) rfl dX11_comes_26 ?_
  refine lv_l2i (v := 1) hx hb dX11_comes_27 (by decide +kernel) ?_
  refine st_i (j := 0) (g := tI [1] 0) hx hb hK hP hD hS 2 rfl (by decide +kernel) upd_tI dX11_comes_28 (fun H locs hP hD hS => ?_)
  have hP : va_P D cl0 [(h0, .inr (8, [.int 2, .int 0, .int 1, .int 0, .int 0, .int 0, .ref h2, .ref h3, .int 0, .int 0, .ref h1, .ref h4, .ref h5, .ref h6, .ref h7, .ref h8, .ref h9, .int 0, .int 0, .int 0, .ref h10, .ref h11, .ref h12, .ref h13, .int 0, .int 0, .ref h14, .ref h15, .ref h16, .ref h17, .int 0, .int 0, .ref h18, .ref h19, .ref h20, .ref h21])), (h1, .inl (k 1, 9, .inr (.inl (tL [1, 0, 0, 0, 1, 0, 0, 0, 0] 0)))), (h2, .inl (k 0, 36, .inl (tI [1] 0)))] H := hP
  have hD : va_D A [(h0, .inr (8, [.int 2, .int 0, .int 1, .int 0, .int 0, .int 0, .ref h2, .ref h3, .int 0, .int 0, .ref h1, .ref h4, .ref h5, .ref h6, .ref h7, .ref h8, .ref h9, .int 0, .int 0, .int 0, .ref h10, .ref h11, .ref h12, .ref h13, .int 0, .int 0, .ref h14, .ref h15, .ref h16, .ref h17, .int 0, .int 0, .ref h18, .ref h19, .ref h20, .ref h21])), (h1, .inl (k 1, 9, .inr (.inl (tL [1, 0, 0, 0, 1, 0, 0, 0, 0] 0)))), (h2, .inl (k 0, 36, .inl (tI [1] 0)))] := hD
  refine lv_iinc (v := 1) (lv' := [(1, .int 1), (0, .ref h0)]) hx hb dX11_comes_29 hl (k := 0) rfl (by decide) (by decide) rfl (fun ls hl => ?_)
  refine lv_goto (tgt := 2) hx hb dX11_comes_32 (by decide) ?_
  refine lv_iload_n hx hb dX11_comes_2 rfl (lv_at hl 0 rfl) ?_
  refine lv_bipush (v := 9) hx hb dX11_comes_3 (by decide) ?_
  refine lv_icmp_ge (tgt := 35) hx hb dX11_comes_5 (by decide) (fun cc => absurd cc (by decide +kernel)) (fun _ => ?_)
  refine lv_aload_n hx hb dX11_comes_8 rfl (lv_at hl 1 rfl) ?_
  refine va_get (D := D) (ci := 8) (v := .ref h2) (C := RX11) (T := TX11) (N := 36) hx hb hU iX11 hown hK.1 hP 0 rfl rfl 6 (by decide) (hU _ w791) (fun _ h9 => h9) rfl dX11_comes_9 ?_
  refine lv_bipush (v := 9) hx hb dX11_comes_12 (by decide) ?_
  refine lv_aload_n hx hb dX11_comes_14 rfl (lv_at hl 1 rfl) ?_
  refine va_get (D := D) (ci := 8) (v := .int 0) (C := RX11) (T := TX11) (N := 36) hx hb hU iX11 hown hK.1 hP 0 rfl rfl 1 (by decide) (hU _ w786) (fun _ h9 => h9) rfl dX11_comes_15 ?_
  refine lv_imul hx hb dX11_comes_18 (sv_i (v := 0) (by decide +kernel) ?_)
  refine lv_iload_n hx hb dX11_comes_19 rfl (lv_at hl 0 rfl) ?_
  refine lv_iadd hx hb dX11_comes_20 (sv_i (v := 1) (by decide +kernel) ?_)
  refine lv_aload_n hx hb dX11_comes_21 rfl (lv_at hl 1 rfl) ?_
  refine va_get (D := D) (ci := 8) (v := .ref h1) (C := RX11) (T := TX11) (N := 36) hx hb hU iX11 hown hK.1 hP 0 rfl rfl 10 (by decide) (hU _ w795) (fun _ h9 => h9) rfl dX11_comes_22 ?_
  refine lv_iload_n hx hb dX11_comes_25 rfl (lv_at hl 0 rfl) ?_
  refine ld_l (j := 1) (v := 0) hx hb hK hP 1 rfl (by decide +kernel) rfl dX11_comes_26 ?_
  refine lv_l2i (v := 0) hx hb dX11_comes_27 (by decide +kernel) ?_
  refine st_i (j := 1) (g := tI [1, 0] 0) hx hb hK hP hD hS 2 rfl (by decide +kernel) upd_tI dX11_comes_28 (fun H locs hP hD hS => ?_)
  have hP : va_P D cl0 [(h0, .inr (8, [.int 2, .int 0, .int 1, .int 0, .int 0, .int 0, .ref h2, .ref h3, .int 0, .int 0, .ref h1, .ref h4, .ref h5, .ref h6, .ref h7, .ref h8, .ref h9, .int 0, .int 0, .int 0, .ref h10, .ref h11, .ref h12, .ref h13, .int 0, .int 0, .ref h14, .ref h15, .ref h16, .ref h17, .int 0, .int 0, .ref h18, .ref h19, .ref h20, .ref h21])), (h1, .inl (k 1, 9, .inr (.inl (tL [1, 0, 0, 0, 1, 0, 0, 0, 0] 0)))), (h2, .inl (k 0, 36, .inl (tI [1, 0] 0)))] H := hP
  have hD : va_D A [(h0, .inr (8, [.int 2, .int 0, .int 1, .int 0, .int 0, .int 0, .ref h2, .ref h3, .int 0, .int 0, .ref h1, .ref h4, .ref h5, .ref h6, .ref h7, .ref h8, .ref h9, .int 0, .int 0, .int 0, .ref h10, .ref h11, .ref h12, .ref h13, .int 0, .int 0, .ref h14, .ref h15, .ref h16, .ref h17, .int 0, .int 0, .ref h18, .ref h19, .ref h20, .ref h21])), (h1, .inl (k 1, 9, .inr (.inl (tL [1, 0, 0, 0, 1, 0, 0, 0, 0] 0)))), (h2, .inl (k 0, 36, .inl (tI [1, 0] 0)))] := hD
  refine lv_iinc (v := 2) (lv' := [(1, .int 2), (0, .ref h0)]) hx hb dX11_comes_29 hl (k := 0) rfl (by decide) (by decide) rfl (fun ls hl => ?_)
  refine lv_goto (tgt := 2) hx hb dX11_comes_32 (by decide) ?_
  refine lv_iload_n hx hb dX11_comes_2 rfl (lv_at hl 0 rfl) ?_
  refine lv_bipush (v := 9) hx hb dX11_comes_3 (by decide) ?_
  refine lv_icmp_ge (tgt := 35) hx hb dX11_comes_5 (by decide) (fun cc => absurd cc (by decide +kernel)) (fun _ => ?_)
  refine lv_aload_n hx hb dX11_comes_8 rfl (lv_at hl 1 rfl) ?_
  refine va_get (D := D) (ci := 8) (v := .ref h2) (C := RX11) (T := TX11) (N := 36) hx hb hU iX11 hown hK.1 hP 0 rfl rfl 6 (by decide) (hU _ w791) (fun _ h9 => h9) rfl dX11_comes_9 ?_
  refine lv_bipush (v := 9) hx hb dX11_comes_12 (by decide) ?_
  refine lv_aload_n hx hb dX11_comes_14 rfl (lv_at hl 1 rfl) ?_
  refine va_get (D := D) (ci := 8) (v := .int 0) (C := RX11) (T := TX11) (N := 36) hx hb hU iX11 hown hK.1 hP 0 rfl rfl 1 (by decide) (hU _ w786) (fun _ h9 => h9) rfl dX11_comes_15 ?_
  refine lv_imul hx hb dX11_comes_18 (sv_i (v := 0) (by decide +kernel) ?_)
  refine lv_iload_n hx hb dX11_comes_19 rfl (lv_at hl 0 rfl) ?_
  refine lv_iadd hx hb dX11_comes_20 (sv_i (v := 2) (by decide +kernel) ?_)
  refine lv_aload_n hx hb dX11_comes_21 rfl (lv_at hl 1 rfl) ?_
  refine va_get (D := D) (ci := 8) (v := .ref h1) (C := RX11) (T := TX11) (N := 36) hx hb hU iX11 hown hK.1 hP 0 rfl rfl 10 (by decide) (hU _ w795) (fun _ h9 => h9) rfl dX11_comes_22 ?_
  refine lv_iload_n hx hb dX11_comes_25 rfl (lv_at hl 0 rfl) ?_
  refine ld_l (j := 2) (v := 0) hx hb hK hP 1 rfl (by decide +kernel) rfl dX11_comes_26 ?_
  refine lv_l2i (v := 0) hx hb dX11_comes_27 (by decide +kernel) ?_
  refine st_i (j := 2) (g := tI [1, 0, 0] 0) hx hb hK hP hD hS 2 rfl (by decide +kernel) upd_tI dX11_comes_28 (fun H locs hP hD hS => ?_)
  have hP : va_P D cl0 [(h0, .inr (8, [.int 2, .int 0, .int 1, .int 0, .int 0, .int 0, .ref h2, .ref h3, .int 0, .int 0, .ref h1, .ref h4, .ref h5, .ref h6, .ref h7, .ref h8, .ref h9, .int 0, .int 0, .int 0, .ref h10, .ref h11, .ref h12, .ref h13, .int 0, .int 0, .ref h14, .ref h15, .ref h16, .ref h17, .int 0, .int 0, .ref h18, .ref h19, .ref h20, .ref h21])), (h1, .inl (k 1, 9, .inr (.inl (tL [1, 0, 0, 0, 1, 0, 0, 0, 0] 0)))), (h2, .inl (k 0, 36, .inl (tI [1, 0, 0] 0)))] H := hP
  have hD : va_D A [(h0, .inr (8, [.int 2, .int 0, .int 1, .int 0, .int 0, .int 0, .ref h2, .ref h3, .int 0, .int 0, .ref h1, .ref h4, .ref h5, .ref h6, .ref h7, .ref h8, .ref h9, .int 0, .int 0, .int 0, .ref h10, .ref h11, .ref h12, .ref h13, .int 0, .int 0, .ref h14, .ref h15, .ref h16, .ref h17, .int 0, .int 0, .ref h18, .ref h19, .ref h20, .ref h21])), (h1, .inl (k 1, 9, .inr (.inl (tL [1, 0, 0, 0, 1, 0, 0, 0, 0] 0)))), (h2, .inl (k 0, 36, .inl (tI [1, 0, 0] 0)))] := hD
  refine lv_iinc (v := 3) (lv' := [(1, .int 3), (0, .ref h0)]) hx hb dX11_comes_29 hl (k := 0) rfl (by decide) (by decide) rfl (fun ls hl => ?_)
  refine lv_goto (tgt := 2) hx hb dX11_comes_32 (by decide) ?_
  refine lv_iload_n hx hb dX11_comes_2 rfl (lv_at hl 0 rfl) ?_
  refine lv_bipush (v := 9) hx hb dX11_comes_3 (by decide) ?_
  refine lv_icmp_ge (tgt := 35) hx hb dX11_comes_5 (by decide) (fun cc => absurd cc (by decide +kernel)) (fun _ => ?_)
  refine lv_aload_n hx hb dX11_comes_8 rfl (lv_at hl 1 rfl) ?_
  refine va_get (D := D) (ci := 8) (v := .ref h2) (C := RX11) (T := TX11) (N := 36) hx hb hU iX11 hown hK.1 hP 0 rfl rfl 6 (by decide) (hU _ w791) (fun _ h9 => h9) rfl dX11_comes_9 ?_
  refine lv_bipush (v := 9) hx hb dX11_comes_12 (by decide) ?_
  refine lv_aload_n hx hb dX11_comes_14 rfl (lv_at hl 1 rfl) ?_
  refine va_get (D := D) (ci := 8) (v := .int 0) (C := RX11) (T := TX11) (N := 36) hx hb hU iX11 hown hK.1 hP 0 rfl rfl 1 (by decide) (hU _ w786) (fun _ h9 => h9) rfl dX11_comes_15 ?_
  refine lv_imul hx hb dX11_comes_18 (sv_i (v := 0) (by decide +kernel) ?_)
  refine lv_iload_n hx hb dX11_comes_19 rfl (lv_at hl 0 rfl) ?_
  refine lv_iadd hx hb dX11_comes_20 (sv_i (v := 3) (by decide +kernel) ?_)
  refine lv_aload_n hx hb dX11_comes_21 rfl (lv_at hl 1 rfl) ?_
  refine va_get (D := D) (ci := 8) (v := .ref h1) (C := RX11) (T := TX11) (N := 36) hx hb hU iX11 hown hK.1 hP 0 rfl rfl 10 (by decide) (hU _ w795) (fun _ h9 => h9) rfl dX11_comes_22 ?_
  refine lv_iload_n hx hb dX11_comes_25 rfl (lv_at hl 0 rfl) ?_
  refine ld_l (j := 3) (v := 0) hx hb hK hP 1 rfl (by decide +kernel) rfl dX11_comes_26 ?_
  refine lv_l2i (v := 0) hx hb dX11_comes_27 (by decide +kernel) ?_
  refine st_i (j := 3) (g := tI [1, 0, 0, 0] 0) hx hb hK hP hD hS 2 rfl (by decide +kernel) upd_tI dX11_comes_28 (fun H locs hP hD hS => ?_)
  have hP : va_P D cl0 [(h0, .inr (8, [.int 2, .int 0, .int 1, .int 0, .int 0, .int 0, .ref h2, .ref h3, .int 0, .int 0, .ref h1, .ref h4, .ref h5, .ref h6, .ref h7, .ref h8, .ref h9, .int 0, .int 0, .int 0, .ref h10, .ref h11, .ref h12, .ref h13, .int 0, .int 0, .ref h14, .ref h15, .ref h16, .ref h17, .int 0, .int 0, .ref h18, .ref h19, .ref h20, .ref h21])), (h1, .inl (k 1, 9, .inr (.inl (tL [1, 0, 0, 0, 1, 0, 0, 0, 0] 0)))), (h2, .inl (k 0, 36, .inl (tI [1, 0, 0, 0] 0)))] H := hP
  have hD : va_D A [(h0, .inr (8, [.int 2, .int 0, .int 1, .int 0, .int 0, .int 0, .ref h2, .ref h3, .int 0, .int 0, .ref h1, .ref h4, .ref h5, .ref h6, .ref h7, .ref h8, .ref h9, .int 0, .int 0, .int 0, .ref h10, .ref h11, .ref h12, .ref h13, .int 0, .int 0, .ref h14, .ref h15, .ref h16, .ref h17, .int 0, .int 0, .ref h18, .ref h19, .ref h20, .ref h21])), (h1, .inl (k 1, 9, .inr (.inl (tL [1, 0, 0, 0, 1, 0, 0, 0, 0] 0)))), (h2, .inl (k 0, 36, .inl (tI [1, 0, 0, 0] 0)))] := hD
  refine lv_iinc (v := 4) (lv' := [(1, .int 4), (0, .ref h0)]) hx hb dX11_comes_29 hl (k := 0) rfl (by decide) (by decide) rfl (fun ls hl => ?_)
  refine lv_goto (tgt := 2) hx hb dX11_comes_32 (by decide) ?_
  refine lv_iload_n hx hb dX11_comes_2 rfl (lv_at hl 0 rfl) ?_
  refine lv_bipush (v := 9) hx hb dX11_comes_3 (by decide) ?_
  refine lv_icmp_ge (tgt := 35) hx hb dX11_comes_5 (by decide) (fun cc => absurd cc (by decide +kernel)) (fun _ => ?_)
  refine lv_aload_n hx hb dX11_comes_8 rfl (lv_at hl 1 rfl) ?_
  refine va_get (D := D) (ci := 8) (v := .ref h2) (C := RX11) (T := TX11) (N := 36) hx hb hU iX11 hown hK.1 hP 0 rfl rfl 6 (by decide) (hU _ w791) (fun _ h9 => h9) rfl dX11_comes_9 ?_
  refine lv_bipush (v := 9) hx hb dX11_comes_12 (by decide) ?_
  refine lv_aload_n hx hb dX11_comes_14 rfl (lv_at hl 1 rfl) ?_
  refine va_get (D := D) (ci := 8) (v := .int 0) (C := RX11) (T := TX11) (N := 36) hx hb hU iX11 hown hK.1 hP 0 rfl rfl 1 (by decide) (hU _ w786) (fun _ h9 => h9) rfl dX11_comes_15 ?_
  refine lv_imul hx hb dX11_comes_18 (sv_i (v := 0) (by decide +kernel) ?_)
  refine lv_iload_n hx hb dX11_comes_19 rfl (lv_at hl 0 rfl) ?_
  refine lv_iadd hx hb dX11_comes_20 (sv_i (v := 4) (by decide +kernel) ?_)
  refine lv_aload_n hx hb dX11_comes_21 rfl (lv_at hl 1 rfl) ?_
  refine va_get (D := D) (ci := 8) (v := .ref h1) (C := RX11) (T := TX11) (N := 36) hx hb hU iX11 hown hK.1 hP 0 rfl rfl 10 (by decide) (hU _ w795) (fun _ h9 => h9) rfl dX11_comes_22 ?_
  refine lv_iload_n hx hb dX11_comes_25 rfl (lv_at hl 0 rfl) ?_
  refine ld_l (j := 4) (v := 1) hx hb hK hP 1 rfl (by decide +kernel) rfl dX11_comes_26 ?_
  refine lv_l2i (v := 1) hx hb dX11_comes_27 (by decide +kernel) ?_
  refine st_i (j := 4) (g := tI [1, 0, 0, 0, 1] 0) hx hb hK hP hD hS 2 rfl (by decide +kernel) upd_tI dX11_comes_28 (fun H locs hP hD hS => ?_)
  have hP : va_P D cl0 [(h0, .inr (8, [.int 2, .int 0, .int 1, .int 0, .int 0, .int 0, .ref h2, .ref h3, .int 0, .int 0, .ref h1, .ref h4, .ref h5, .ref h6, .ref h7, .ref h8, .ref h9, .int 0, .int 0, .int 0, .ref h10, .ref h11, .ref h12, .ref h13, .int 0, .int 0, .ref h14, .ref h15, .ref h16, .ref h17, .int 0, .int 0, .ref h18, .ref h19, .ref h20, .ref h21])), (h1, .inl (k 1, 9, .inr (.inl (tL [1, 0, 0, 0, 1, 0, 0, 0, 0] 0)))), (h2, .inl (k 0, 36, .inl (tI [1, 0, 0, 0, 1] 0)))] H := hP
  have hD : va_D A [(h0, .inr (8, [.int 2, .int 0, .int 1, .int 0, .int 0, .int 0, .ref h2, .ref h3, .int 0, .int 0, .ref h1, .ref h4, .ref h5, .ref h6, .ref h7, .ref h8, .ref h9, .int 0, .int 0, .int 0, .ref h10, .ref h11, .ref h12, .ref h13, .int 0, .int 0, .ref h14, .ref h15, .ref h16, .ref h17, .int 0, .int 0, .ref h18, .ref h19, .ref h20, .ref h21])), (h1, .inl (k 1, 9, .inr (.inl (tL [1, 0, 0, 0, 1, 0, 0, 0, 0] 0)))), (h2, .inl (k 0, 36, .inl (tI [1, 0, 0, 0, 1] 0)))] := hD
  refine lv_iinc (v := 5) (lv' := [(1, .int 5), (0, .ref h0)]) hx hb dX11_comes_29 hl (k := 0) rfl (by decide) (by decide) rfl (fun ls hl => ?_)
  refine lv_goto (tgt := 2) hx hb dX11_comes_32 (by decide) ?_
  refine lv_iload_n hx hb dX11_comes_2 rfl (lv_at hl 0 rfl) ?_
  refine lv_bipush (v := 9) hx hb dX11_comes_3 (by decide) ?_
  refine lv_icmp_ge (tgt := 35) hx hb dX11_comes_5 (by decide) (fun cc => absurd cc (by decide +kernel)) (fun _ => ?_)
  refine lv_aload_n hx hb dX11_comes_8 rfl (lv_at hl 1 rfl) ?_
  refine va_get (D := D) (ci := 8) (v := .ref h2) (C := RX11) (T := TX11) (N := 36) hx hb hU iX11 hown hK.1 hP 0 rfl rfl 6 (by decide) (hU _ w791) (fun _ h9 => h9) rfl dX11_comes_9 ?_
  refine lv_bipush (v := 9) hx hb dX11_comes_12 (by decide) ?_
  refine lv_aload_n hx hb dX11_comes_14 rfl (lv_at hl 1 rfl) ?_
  refine va_get (D := D) (ci := 8) (v := .int 0) (C := RX11) (T := TX11) (N := 36) hx hb hU iX11 hown hK.1 hP 0 rfl rfl 1 (by decide) (hU _ w786) (fun _ h9 => h9) rfl dX11_comes_15 ?_
  refine lv_imul hx hb dX11_comes_18 (sv_i (v := 0) (by decide +kernel) ?_)
  refine lv_iload_n hx hb dX11_comes_19 rfl (lv_at hl 0 rfl) ?_
  refine lv_iadd hx hb dX11_comes_20 (sv_i (v := 5) (by decide +kernel) ?_)
  refine lv_aload_n hx hb dX11_comes_21 rfl (lv_at hl 1 rfl) ?_
  refine va_get (D := D) (ci := 8) (v := .ref h1) (C := RX11) (T := TX11) (N := 36) hx hb hU iX11 hown hK.1 hP 0 rfl rfl 10 (by decide) (hU _ w795) (fun _ h9 => h9) rfl dX11_comes_22 ?_
  refine lv_iload_n hx hb dX11_comes_25 rfl (lv_at hl 0 rfl) ?_
  refine ld_l (j := 5) (v := 0) hx hb hK hP 1 rfl (by decide +kernel) rfl dX11_comes_26 ?_
  refine lv_l2i (v := 0) hx hb dX11_comes_27 (by decide +kernel) ?_
  refine st_i (j := 5) (g := tI [1, 0, 0, 0, 1, 0] 0) hx hb hK hP hD hS 2 rfl (by decide +kernel) upd_tI dX11_comes_28 (fun H locs hP hD hS => ?_)
  have hP : va_P D cl0 [(h0, .inr (8, [.int 2, .int 0, .int 1, .int 0, .int 0, .int 0, .ref h2, .ref h3, .int 0, .int 0, .ref h1, .ref h4, .ref h5, .ref h6, .ref h7, .ref h8, .ref h9, .int 0, .int 0, .int 0, .ref h10, .ref h11, .ref h12, .ref h13, .int 0, .int 0, .ref h14, .ref h15, .ref h16, .ref h17, .int 0, .int 0, .ref h18, .ref h19, .ref h20, .ref h21])), (h1, .inl (k 1, 9, .inr (.inl (tL [1, 0, 0, 0, 1, 0, 0, 0, 0] 0)))), (h2, .inl (k 0, 36, .inl (tI [1, 0, 0, 0, 1, 0] 0)))] H := hP
  have hD : va_D A [(h0, .inr (8, [.int 2, .int 0, .int 1, .int 0, .int 0, .int 0, .ref h2, .ref h3, .int 0, .int 0, .ref h1, .ref h4, .ref h5, .ref h6, .ref h7, .ref h8, .ref h9, .int 0, .int 0, .int 0, .ref h10, .ref h11, .ref h12, .ref h13, .int 0, .int 0, .ref h14, .ref h15, .ref h16, .ref h17, .int 0, .int 0, .ref h18, .ref h19, .ref h20, .ref h21])), (h1, .inl (k 1, 9, .inr (.inl (tL [1, 0, 0, 0, 1, 0, 0, 0, 0] 0)))), (h2, .inl (k 0, 36, .inl (tI [1, 0, 0, 0, 1, 0] 0)))] := hD
  refine lv_iinc (v := 6) (lv' := [(1, .int 6), (0, .ref h0)]) hx hb dX11_comes_29 hl (k := 0) rfl (by decide) (by decide) rfl (fun ls hl => ?_)
  refine lv_goto (tgt := 2) hx hb dX11_comes_32 (by decide) ?_
  refine lv_iload_n hx hb dX11_comes_2 rfl (lv_at hl 0 rfl) ?_
  refine lv_bipush (v := 9) hx hb dX11_comes_3 (by decide) ?_
  refine lv_icmp_ge (tgt := 35) hx hb dX11_comes_5 (by decide) (fun cc => absurd cc (by decide +kernel)) (fun _ => ?_)
  refine lv_aload_n hx hb dX11_comes_8 rfl (lv_at hl 1 rfl) ?_
  refine va_get (D := D) (ci := 8) (v := .ref h2) (C := RX11) (T := TX11) (N := 36) hx hb hU iX11 hown hK.1 hP 0 rfl rfl 6 (by decide) (hU _ w791) (fun _ h9 => h9) rfl dX11_comes_9 ?_
  refine lv_bipush (v := 9) hx hb dX11_comes_12 (by decide) ?_
  refine lv_aload_n hx hb dX11_comes_14 rfl (lv_at hl 1 rfl) ?_
  refine va_get (D := D) (ci := 8) (v := .int 0) (C := RX11) (T := TX11) (N := 36) hx hb hU iX11 hown hK.1 hP 0 rfl rfl 1 (by decide) (hU _ w786) (fun _ h9 => h9) rfl dX11_comes_15 ?_
  refine lv_imul hx hb dX11_comes_18 (sv_i (v := 0) (by decide +kernel) ?_)
  refine lv_iload_n hx hb dX11_comes_19 rfl (lv_at hl 0 rfl) ?_
  refine lv_iadd hx hb dX11_comes_20 (sv_i (v := 6) (by decide +kernel) ?_)
  refine lv_aload_n hx hb dX11_comes_21 rfl (lv_at hl 1 rfl) ?_
  refine va_get (D := D) (ci := 8) (v := .ref h1) (C := RX11) (T := TX11) (N := 36) hx hb hU iX11 hown hK.1 hP 0 rfl rfl 10 (by decide) (hU _ w795) (fun _ h9 => h9) rfl dX11_comes_22 ?_
  refine lv_iload_n hx hb dX11_comes_25 rfl (lv_at hl 0 rfl) ?_
  refine ld_l (j := 6) (v := 0) hx hb hK hP 1 rfl (by decide +kernel) rfl dX11_comes_26 ?_
  refine lv_l2i (v := 0) hx hb dX11_comes_27 (by decide +kernel) ?_
  refine st_i (j := 6) (g := tI [1, 0, 0, 0, 1, 0, 0] 0) hx hb hK hP hD hS 2 rfl (by decide +kernel) upd_tI dX11_comes_28 (fun H locs hP hD hS => ?_)
  have hP : va_P D cl0 [(h0, .inr (8, [.int 2, .int 0, .int 1, .int 0, .int 0, .int 0, .ref h2, .ref h3, .int 0, .int 0, .ref h1, .ref h4, .ref h5, .ref h6, .ref h7, .ref h8, .ref h9, .int 0, .int 0, .int 0, .ref h10, .ref h11, .ref h12, .ref h13, .int 0, .int 0, .ref h14, .ref h15, .ref h16, .ref h17, .int 0, .int 0, .ref h18, .ref h19, .ref h20, .ref h21])), (h1, .inl (k 1, 9, .inr (.inl (tL [1, 0, 0, 0, 1, 0, 0, 0, 0] 0)))), (h2, .inl (k 0, 36, .inl (tI [1, 0, 0, 0, 1, 0, 0] 0)))] H := hP
  have hD : va_D A [(h0, .inr (8, [.int 2, .int 0, .int 1, .int 0, .int 0, .int 0, .ref h2, .ref h3, .int 0, .int 0, .ref h1, .ref h4, .ref h5, .ref h6, .ref h7, .ref h8, .ref h9, .int 0, .int 0, .int 0, .ref h10, .ref h11, .ref h12, .ref h13, .int 0, .int 0, .ref h14, .ref h15, .ref h16, .ref h17, .int 0, .int 0, .ref h18, .ref h19, .ref h20, .ref h21])), (h1, .inl (k 1, 9, .inr (.inl (tL [1, 0, 0, 0, 1, 0, 0, 0, 0] 0)))), (h2, .inl (k 0, 36, .inl (tI [1, 0, 0, 0, 1, 0, 0] 0)))] := hD
  refine lv_iinc (v := 7) (lv' := [(1, .int 7), (0, .ref h0)]) hx hb dX11_comes_29 hl (k := 0) rfl (by decide) (by decide) rfl (fun ls hl => ?_)
  refine lv_goto (tgt := 2) hx hb dX11_comes_32 (by decide) ?_
  refine lv_iload_n hx hb dX11_comes_2 rfl (lv_at hl 0 rfl) ?_
  refine lv_bipush (v := 9) hx hb dX11_comes_3 (by decide) ?_
  refine lv_icmp_ge (tgt := 35) hx hb dX11_comes_5 (by decide) (fun cc => absurd cc (by decide +kernel)) (fun _ => ?_)
  refine lv_aload_n hx hb dX11_comes_8 rfl (lv_at hl 1 rfl) ?_
  refine va_get (D := D) (ci := 8) (v := .ref h2) (C := RX11) (T := TX11) (N := 36) hx hb hU iX11 hown hK.1 hP 0 rfl rfl 6 (by decide) (hU _ w791) (fun _ h9 => h9) rfl dX11_comes_9 ?_
  refine lv_bipush (v := 9) hx hb dX11_comes_12 (by decide) ?_
  refine lv_aload_n hx hb dX11_comes_14 rfl (lv_at hl 1 rfl) ?_
  refine va_get (D := D) (ci := 8) (v := .int 0) (C := RX11) (T := TX11) (N := 36) hx hb hU iX11 hown hK.1 hP 0 rfl rfl 1 (by decide) (hU _ w786) (fun _ h9 => h9) rfl dX11_comes_15 ?_
  refine lv_imul hx hb dX11_comes_18 (sv_i (v := 0) (by decide +kernel) ?_)
  refine lv_iload_n hx hb dX11_comes_19 rfl (lv_at hl 0 rfl) ?_
  refine lv_iadd hx hb dX11_comes_20 (sv_i (v := 7) (by decide +kernel) ?_)
  refine lv_aload_n hx hb dX11_comes_21 rfl (lv_at hl 1 rfl) ?_
  refine va_get (D := D) (ci := 8) (v := .ref h1) (C := RX11) (T := TX11) (N := 36) hx hb hU iX11 hown hK.1 hP 0 rfl rfl 10 (by decide) (hU _ w795) (fun _ h9 => h9) rfl dX11_comes_22 ?_
  refine lv_iload_n hx hb dX11_comes_25 rfl (lv_at hl 0 rfl) ?_
  refine ld_l (j := 7) (v := 0) hx hb hK hP 1 rfl (by decide +kernel) rfl dX11_comes_26 ?_
  refine lv_l2i (v := 0) hx hb dX11_comes_27 (by decide +kernel) ?_
  refine st_i (j := 7) (g := tI [1, 0, 0, 0, 1, 0, 0, 0] 0) hx hb hK hP hD hS 2 rfl (by decide +kernel) upd_tI dX11_comes_28 (fun H locs hP hD hS => ?_)
  have hP : va_P D cl0 [(h0, .inr (8, [.int 2, .int 0, .int 1, .int 0, .int 0, .int 0, .ref h2, .ref h3, .int 0, .int 0, .ref h1, .ref h4, .ref h5, .ref h6, .ref h7, .ref h8, .ref h9, .int 0, .int 0, .int 0, .ref h10, .ref h11, .ref h12, .ref h13, .int 0, .int 0, .ref h14, .ref h15, .ref h16, .ref h17, .int 0, .int 0, .ref h18, .ref h19, .ref h20, .ref h21])), (h1, .inl (k 1, 9, .inr (.inl (tL [1, 0, 0, 0, 1, 0, 0, 0, 0] 0)))), (h2, .inl (k 0, 36, .inl (tI [1, 0, 0, 0, 1, 0, 0, 0] 0)))] H := hP
  have hD : va_D A [(h0, .inr (8, [.int 2, .int 0, .int 1, .int 0, .int 0, .int 0, .ref h2, .ref h3, .int 0, .int 0, .ref h1, .ref h4, .ref h5, .ref h6, .ref h7, .ref h8, .ref h9, .int 0, .int 0, .int 0, .ref h10, .ref h11, .ref h12, .ref h13, .int 0, .int 0, .ref h14, .ref h15, .ref h16, .ref h17, .int 0, .int 0, .ref h18, .ref h19, .ref h20, .ref h21])), (h1, .inl (k 1, 9, .inr (.inl (tL [1, 0, 0, 0, 1, 0, 0, 0, 0] 0)))), (h2, .inl (k 0, 36, .inl (tI [1, 0, 0, 0, 1, 0, 0, 0] 0)))] := hD
  refine lv_iinc (v := 8) (lv' := [(1, .int 8), (0, .ref h0)]) hx hb dX11_comes_29 hl (k := 0) rfl (by decide) (by decide) rfl (fun ls hl => ?_)
  refine lv_goto (tgt := 2) hx hb dX11_comes_32 (by decide) ?_
  refine lv_iload_n hx hb dX11_comes_2 rfl (lv_at hl 0 rfl) ?_
  refine lv_bipush (v := 9) hx hb dX11_comes_3 (by decide) ?_
  refine lv_icmp_ge (tgt := 35) hx hb dX11_comes_5 (by decide) (fun cc => absurd cc (by decide +kernel)) (fun _ => ?_)
  refine lv_aload_n hx hb dX11_comes_8 rfl (lv_at hl 1 rfl) ?_
  refine va_get (D := D) (ci := 8) (v := .ref h2) (C := RX11) (T := TX11) (N := 36) hx hb hU iX11 hown hK.1 hP 0 rfl rfl 6 (by decide) (hU _ w791) (fun _ h9 => h9) rfl dX11_comes_9 ?_
  refine lv_bipush (v := 9) hx hb dX11_comes_12 (by decide) ?_
  refine lv_aload_n hx hb dX11_comes_14 rfl (lv_at hl 1 rfl) ?_
  refine va_get (D := D) (ci := 8) (v := .int 0) (C := RX11) (T := TX11) (N := 36) hx hb hU iX11 hown hK.1 hP 0 rfl rfl 1 (by decide) (hU _ w786) (fun _ h9 => h9) rfl dX11_comes_15 ?_
  refine lv_imul hx hb dX11_comes_18 (sv_i (v := 0) (by decide +kernel) ?_)
  refine lv_iload_n hx hb dX11_comes_19 rfl (lv_at hl 0 rfl) ?_
  refine lv_iadd hx hb dX11_comes_20 (sv_i (v := 8) (by decide +kernel) ?_)
  refine lv_aload_n hx hb dX11_comes_21 rfl (lv_at hl 1 rfl) ?_
  refine va_get (D := D) (ci := 8) (v := .ref h1) (C := RX11) (T := TX11) (N := 36) hx hb hU iX11 hown hK.1 hP 0 rfl rfl 10 (by decide) (hU _ w795) (fun _ h9 => h9) rfl dX11_comes_22 ?_
  refine lv_iload_n hx hb dX11_comes_25 rfl (lv_at hl 0 rfl) ?_
  refine ld_l (j := 8) (v := 0) hx hb hK hP 1 rfl (by decide +kernel) rfl dX11_comes_26 ?_
  refine lv_l2i (v := 0) hx hb dX11_comes_27 (by decide +kernel) ?_
  refine st_i (j := 8) (g := tI [1, 0, 0, 0, 1, 0, 0, 0, 0] 0) hx hb hK hP hD hS 2 rfl (by decide +kernel) upd_tI dX11_comes_28 (fun H locs hP hD hS => ?_)
  have hP : va_P D cl0 [(h0, .inr (8, [.int 2, .int 0, .int 1, .int 0, .int 0, .int 0, .ref h2, .ref h3, .int 0, .int 0, .ref h1, .ref h4, .ref h5, .ref h6, .ref h7, .ref h8, .ref h9, .int 0, .int 0, .int 0, .ref h10, .ref h11, .ref h12, .ref h13, .int 0, .int 0, .ref h14, .ref h15, .ref h16, .ref h17, .int 0, .int 0, .ref h18, .ref h19, .ref h20, .ref h21])), (h1, .inl (k 1, 9, .inr (.inl (tL [1, 0, 0, 0, 1, 0, 0, 0, 0] 0)))), (h2, .inl (k 0, 36, .inl (tI [1, 0, 0, 0, 1, 0, 0, 0, 0] 0)))] H := hP
  have hD : va_D A [(h0, .inr (8, [.int 2, .int 0, .int 1, .int 0, .int 0, .int 0, .ref h2, .ref h3, .int 0, .int 0, .ref h1, .ref h4, .ref h5, .ref h6, .ref h7, .ref h8, .ref h9, .int 0, .int 0, .int 0, .ref h10, .ref h11, .ref h12, .ref h13, .int 0, .int 0, .ref h14, .ref h15, .ref h16, .ref h17, .int 0, .int 0, .ref h18, .ref h19, .ref h20, .ref h21])), (h1, .inl (k 1, 9, .inr (.inl (tL [1, 0, 0, 0, 1, 0, 0, 0, 0] 0)))), (h2, .inl (k 0, 36, .inl (tI [1, 0, 0, 0, 1, 0, 0, 0, 0] 0)))] := hD
  refine lv_iinc (v := 9) (lv' := [(1, .int 9), (0, .ref h0)]) hx hb dX11_comes_29 hl (k := 0) rfl (by decide) (by decide) rfl (fun ls hl => ?_)
  refine lv_goto (tgt := 2) hx hb dX11_comes_32 (by decide) ?_
  refine lv_iload_n hx hb dX11_comes_2 rfl (lv_at hl 0 rfl) ?_
  refine lv_bipush (v := 9) hx hb dX11_comes_3 (by decide) ?_
  refine lv_icmp_ge (tgt := 35) hx hb dX11_comes_5 (by decide) (fun _ => ?_) (fun cc => absurd (by decide +kernel) cc)
  refine lv_aload_n hx hb dX11_comes_35 rfl (lv_at hl 1 rfl) ?_
  refine lv_dup hx hb dX11_comes_36 rfl ?_
  refine va_get (D := D) (ci := 8) (v := .int 0) (C := RX11) (T := TX11) (N := 36) hx hb hU iX11 hown hK.1 hP 0 rfl rfl 1 (by decide) (hU _ w786) (fun _ h9 => h9) rfl dX11_comes_37 ?_
  refine lv_iconst (v := 1) hx hb dX11_comes_40 (by decide) ?_
  refine lv_iadd hx hb dX11_comes_41 (sv_i (v := 1) (by decide +kernel) ?_)
  refine va_put (D := D) (ci := 8) (v := .int 1) (ty := .int) (C := RX11) (T := TX11) (N := 36) hx hb hU iX11 tyX11 tyX11_ok nmX11 hown hK.1 hP hD hS 0 rfl rfl 1 (by decide) (hU _ w786) (fun _ h9 => h9) rfl (by decide +kernel) rfl rfl (Nat.le_of_ble_eq_true rfl) dX11_comes_42 (fun H locs hP hD hS => ?_)
  have hP : va_P D cl0 [(h0, .inr (8, [.int 2, .int 1, .int 1, .int 0, .int 0, .int 0, .ref h2, .ref h3, .int 0, .int 0, .ref h1, .ref h4, .ref h5, .ref h6, .ref h7, .ref h8, .ref h9, .int 0, .int 0, .int 0, .ref h10, .ref h11, .ref h12, .ref h13, .int 0, .int 0, .ref h14, .ref h15, .ref h16, .ref h17, .int 0, .int 0, .ref h18, .ref h19, .ref h20, .ref h21])), (h1, .inl (k 1, 9, .inr (.inl (tL [1, 0, 0, 0, 1, 0, 0, 0, 0] 0)))), (h2, .inl (k 0, 36, .inl (tI [1, 0, 0, 0, 1, 0, 0, 0, 0] 0)))] H := hP
  have hD : va_D A [(h0, .inr (8, [.int 2, .int 1, .int 1, .int 0, .int 0, .int 0, .ref h2, .ref h3, .int 0, .int 0, .ref h1, .ref h4, .ref h5, .ref h6, .ref h7, .ref h8, .ref h9, .int 0, .int 0, .int 0, .ref h10, .ref h11, .ref h12, .ref h13, .int 0, .int 0, .ref h14, .ref h15, .ref h16, .ref h17, .int 0, .int 0, .ref h18, .ref h19, .ref h20, .ref h21])), (h1, .inl (k 1, 9, .inr (.inl (tL [1, 0, 0, 0, 1, 0, 0, 0, 0] 0)))), (h2, .inl (k 0, 36, .inl (tI [1, 0, 0, 0, 1, 0, 0, 0, 0] 0)))] := hD
  refine lv_aload_n hx hb dX11_comes_45 rfl (lv_at hl 1 rfl) ?_
  refine lv_iconst (v := 0) hx hb dX11_comes_46 (by decide) ?_
  refine va_put (D := D) (ci := 8) (v := .int 0) (ty := .boolean) (C := RX11) (T := TX11) (N := 36) hx hb hU iX11 tyX11 tyX11_ok nmX11 hown hK.1 hP hD hS 0 rfl rfl 9 (by decide) (hU _ w794) (fun _ h9 => h9) rfl (by decide +kernel) rfl rfl (Nat.le_of_ble_eq_true rfl) dX11_comes_47 (fun H locs hP hD hS => ?_)
  have hP : va_P D cl0 [(h0, .inr (8, [.int 2, .int 1, .int 1, .int 0, .int 0, .int 0, .ref h2, .ref h3, .int 0, .int 0, .ref h1, .ref h4, .ref h5, .ref h6, .ref h7, .ref h8, .ref h9, .int 0, .int 0, .int 0, .ref h10, .ref h11, .ref h12, .ref h13, .int 0, .int 0, .ref h14, .ref h15, .ref h16, .ref h17, .int 0, .int 0, .ref h18, .ref h19, .ref h20, .ref h21])), (h1, .inl (k 1, 9, .inr (.inl (tL [1, 0, 0, 0, 1, 0, 0, 0, 0] 0)))), (h2, .inl (k 0, 36, .inl (tI [1, 0, 0, 0, 1, 0, 0, 0, 0] 0)))] H := hP
  have hD : va_D A [(h0, .inr (8, [.int 2, .int 1, .int 1, .int 0, .int 0, .int 0, .ref h2, .ref h3, .int 0, .int 0, .ref h1, .ref h4, .ref h5, .ref h6, .ref h7, .ref h8, .ref h9, .int 0, .int 0, .int 0, .ref h10, .ref h11, .ref h12, .ref h13, .int 0, .int 0, .ref h14, .ref h15, .ref h16, .ref h17, .int 0, .int 0, .ref h18, .ref h19, .ref h20, .ref h21])), (h1, .inl (k 1, 9, .inr (.inl (tL [1, 0, 0, 0, 1, 0, 0, 0, 0] 0)))), (h2, .inl (k 0, 36, .inl (tI [1, 0, 0, 0, 1, 0, 0, 0, 0] 0)))] := hD
  refine lv_aload_n hx hb dX11_comes_50 rfl (lv_at hl 1 rfl) ?_
  refine lv_iconst (v := 0) hx hb dX11_comes_51 (by decide) ?_
  refine va_put (D := D) (ci := 8) (v := .int 0) (ty := .int) (C := RX11) (T := TX11) (N := 36) hx hb hU iX11 tyX11 tyX11_ok nmX11 hown hK.1 hP hD hS 0 rfl rfl 30 (by decide) (hU _ w815) (fun _ h9 => h9) rfl (by decide +kernel) rfl rfl (Nat.le_of_ble_eq_true rfl) dX11_comes_52 (fun H locs hP hD hS => ?_)
  have hP : va_P D cl0 [(h0, .inr (8, [.int 2, .int 1, .int 1, .int 0, .int 0, .int 0, .ref h2, .ref h3, .int 0, .int 0, .ref h1, .ref h4, .ref h5, .ref h6, .ref h7, .ref h8, .ref h9, .int 0, .int 0, .int 0, .ref h10, .ref h11, .ref h12, .ref h13, .int 0, .int 0, .ref h14, .ref h15, .ref h16, .ref h17, .int 0, .int 0, .ref h18, .ref h19, .ref h20, .ref h21])), (h1, .inl (k 1, 9, .inr (.inl (tL [1, 0, 0, 0, 1, 0, 0, 0, 0] 0)))), (h2, .inl (k 0, 36, .inl (tI [1, 0, 0, 0, 1, 0, 0, 0, 0] 0)))] H := hP
  have hD : va_D A [(h0, .inr (8, [.int 2, .int 1, .int 1, .int 0, .int 0, .int 0, .ref h2, .ref h3, .int 0, .int 0, .ref h1, .ref h4, .ref h5, .ref h6, .ref h7, .ref h8, .ref h9, .int 0, .int 0, .int 0, .ref h10, .ref h11, .ref h12, .ref h13, .int 0, .int 0, .ref h14, .ref h15, .ref h16, .ref h17, .int 0, .int 0, .ref h18, .ref h19, .ref h20, .ref h21])), (h1, .inl (k 1, 9, .inr (.inl (tL [1, 0, 0, 0, 1, 0, 0, 0, 0] 0)))), (h2, .inl (k 0, 36, .inl (tI [1, 0, 0, 0, 1, 0, 0, 0, 0] 0)))] := hD
  refine lv_aload_n hx hb dX11_comes_55 rfl (lv_at hl 1 rfl) ?_
  refine va_get (D := D) (ci := 8) (v := .int 1) (C := RX11) (T := TX11) (N := 36) hx hb hU iX11 hown hK.1 hP 0 rfl rfl 1 (by decide) (hU _ w786) (fun _ h9 => h9) rfl dX11_comes_56 ?_
  refine lv_iconst (v := 1) hx hb dX11_comes_59 (by decide) ?_
  refine lv_isub hx hb dX11_comes_60 (sv_i (v := 0) (by decide +kernel) ?_)
  exact retI (v := 0) hx hb hr hlocks hS (⟨rfl, hP, hD⟩) dX11_comes_61
abbrev BX11_makesUnit_2 (D : va_G) (k : Nat → ClassId) (h0 h1 h2 h3 h4 h5 h6 h7 h8 h9 h10 h11 h12 h13 h14 h15 h16 h17 h18 h19 h20 h21 : Nat) (A : Nat → Prop) (H : Heap) : Prop := va_P D cl0 [(h0, .inr (8, [.int 2, .int 0, .int 1, .int 0, .int 0, .int 0, .ref h2, .ref h3, .int 0, .int 0, .ref h1, .ref h4, .ref h5, .ref h6, .ref h7, .ref h8, .ref h9, .int 0, .int 0, .int 0, .ref h10, .ref h11, .ref h12, .ref h13, .int 0, .int 0, .ref h14, .ref h15, .ref h16, .ref h17, .int 0, .int 0, .ref h18, .ref h19, .ref h20, .ref h21])), (h1, .inl (k 1, 9, .inr (.inl (tL [(-1), 0, 0, 0, 1, 0, 0, 0, 0] 0))))] H ∧ va_D A [(h0, .inr (8, [.int 2, .int 0, .int 1, .int 0, .int 0, .int 0, .ref h2, .ref h3, .int 0, .int 0, .ref h1, .ref h4, .ref h5, .ref h6, .ref h7, .ref h8, .ref h9, .int 0, .int 0, .int 0, .ref h10, .ref h11, .ref h12, .ref h13, .int 0, .int 0, .ref h14, .ref h15, .ref h16, .ref h17, .int 0, .int 0, .ref h18, .ref h19, .ref h20, .ref h21])), (h1, .inl (k 1, 9, .inr (.inl (tL [(-1), 0, 0, 0, 1, 0, 0, 0, 0] 0))))]
set_option maxHeartbeats 4000000 in
set_option maxRecDepth 100000 in
theorem cX11_makesUnit_2 (l : Launch) (D : va_G) (k : Nat → ClassId) (sz : Nat) (h0 h1 h2 h3 h4 h5 h6 h7 h8 h9 h10 h11 h12 h13 h14 h15 h16 h17 h18 h19 h20 h21 : Nat) : Met l yX11_makesUnit (Cond.code yX11_makesUnit cX11_makesUnit 4 none :: uw) ({ frames := 2, cells := 0, slots := 0, locals := 44 }) (pC D k sz [.ref h0, .int 0, .int 0, .int (-1)] [(h0, .inr (8, [.int 2, .int 0, .int 1, .int 0, .int 0, .int 0, .ref h2, .ref h3, .int 0, .int 0, .ref h1, .ref h4, .ref h5, .ref h6, .ref h7, .ref h8, .ref h9, .int 0, .int 0, .int 0, .ref h10, .ref h11, .ref h12, .ref h13, .int 0, .int 0, .ref h14, .ref h15, .ref h16, .ref h17, .int 0, .int 0, .ref h18, .ref h19, .ref h20, .ref h21])), (h1, .inl (k 1, 9, .inr (.inl (tL [] 0))))]) (qV (BX11_makesUnit_2 D k h0 h1 h2 h3 h4 h5 h6 h7 h8 h9 h10 h11 h12 h13 h14 h15 h16 h17 h18 h19 h20 h21 (va_A [(h0, .inr (8, [.int 2, .int 0, .int 1, .int 0, .int 0, .int 0, .ref h2, .ref h3, .int 0, .int 0, .ref h1, .ref h4, .ref h5, .ref h6, .ref h7, .ref h8, .ref h9, .int 0, .int 0, .int 0, .ref h10, .ref h11, .ref h12, .ref h13, .int 0, .int 0, .ref h14, .ref h15, .ref h16, .ref h17, .int 0, .int 0, .ref h18, .ref h19, .ref h20, .ref h21])), (h1, .inl (k 1, 9, .inr (.inl (tL [] 0))))] sz)) (va_A [(h0, .inr (8, [.int 2, .int 0, .int 1, .int 0, .int 0, .int 0, .ref h2, .ref h3, .int 0, .int 0, .ref h1, .ref h4, .ref h5, .ref h6, .ref h7, .ref h8, .ref h9, .int 0, .int 0, .int 0, .ref h10, .ref h11, .ref h12, .ref h13, .int 0, .int 0, .ref h14, .ref h15, .ref h16, .ref h17, .int 0, .int 0, .ref h18, .ref h19, .ref h20, .ref h21])), (h1, .inl (k 1, 9, .inr (.inl (tL [] 0))))] sz)) 0 0 (va_A [(h0, .inr (8, [.int 2, .int 0, .int 1, .int 0, .int 0, .int 0, .ref h2, .ref h3, .int 0, .int 0, .ref h1, .ref h4, .ref h5, .ref h6, .ref h7, .ref h8, .ref h9, .int 0, .int 0, .int 0, .ref h10, .ref h11, .ref h12, .ref h13, .int 0, .int 0, .ref h14, .ref h15, .ref h16, .ref h17, .int 0, .int 0, .ref h18, .ref h19, .ref h20, .ref h21])), (h1, .inl (k 1, 9, .inr (.inl (tL [] 0))))] sz) := by
  refine begin_ (Qc := fun A => qV (BX11_makesUnit_2 D k h0 h1 h2 h3 h4 h5 h6 h7 h8 h9 h10 h11 h12 h13 h14 h15 h16 h17 h18 h19 h20 h21 A) A) (by decide) (Nat.le_of_ble_eq_true rfl) ?_
  intro p e s m below meth c ls A hx hb hr hml hown hlocks hin hU hK hsz hP hD hS hA hl
  have hl : lv_has ls 4 [(0, .ref h0), (1, .int 0), (2, .int 0), (3, .int (-1))] := hl
  clear hsz
  refine lv_aload_n hx hb dX11_makesUnit_0 rfl (lv_at hl 0 rfl) ?_
  refine lv_aload_n hx hb dX11_makesUnit_1 rfl (lv_at hl 0 rfl) ?_
  refine va_get (D := D) (ci := 8) (v := .ref h1) (C := RX11) (T := TX11) (N := 36) hx hb hU iX11 hown hK.1 hP 0 rfl rfl 10 (by decide) (hU _ w795) (fun _ h9 => h9) rfl dX11_makesUnit_2 ?_
  refine cV (rV (q0 := 0) (ci := 8) (As := [.ref h1]) (rest := []) (wc := [(h1, .inl (k 1, 9, .inr (.inl (tL [] 0)))), (h0, .inr (8, [.int 2, .int 0, .int 1, .int 0, .int 0, .int 0, .ref h2, .ref h3, .int 0, .int 0, .ref h1, .ref h4, .ref h5, .ref h6, .ref h7, .ref h8, .ref h9, .int 0, .int 0, .int 0, .ref h10, .ref h11, .ref h12, .ref h13, .int 0, .int 0, .ref h14, .ref h15, .ref h16, .ref h17, .int 0, .int 0, .ref h18, .ref h19, .ref h20, .ref h21]))]) hx hb hml hown hU hK hP hD rfl rfl [1, 0] rfl (by decide) (cX11_first_1 l D k _ h1 h0 h2 h3 h4 h5 h6 h7 h8 h9 h10 h11 h12 h13 h14 h15 h16 h17 h18 h19 h20 h21) w919 w916 w918 w28 w72 hdX11_first ⟨rfl, rfl⟩ ⟨Nat.le_of_ble_eq_true rfl, Nat.le_of_ble_eq_true rfl⟩ rfl hl.1 (Nat.le_of_ble_eq_true rfl) dX11_makesUnit_5 ⟨Nat.le_of_ble_eq_true rfl, Nat.le_of_ble_eq_true rfl⟩) hP hD hS hA (wr := []) [1, 0] [] rfl rfl (by decide) (by decide) (fun H locs hB J hS => ?_)
  obtain ⟨hP1, hD1⟩ := hB
  obtain ⟨hP, hD⟩ := J _ hP1 hD1
  have hP : va_P D cl0 [(h0, .inr (8, [.int 2, .int 0, .int 1, .int 0, .int 0, .int 0, .ref h2, .ref h3, .int 0, .int 0, .ref h1, .ref h4, .ref h5, .ref h6, .ref h7, .ref h8, .ref h9, .int 0, .int 0, .int 0, .ref h10, .ref h11, .ref h12, .ref h13, .int 0, .int 0, .ref h14, .ref h15, .ref h16, .ref h17, .int 0, .int 0, .ref h18, .ref h19, .ref h20, .ref h21])), (h1, .inl (k 1, 9, .inr (.inl (tL [1, 0, 0, 0, 1, 0, 0, 0, 0] 0))))] H := hP
  have hD : va_D A [(h0, .inr (8, [.int 2, .int 0, .int 1, .int 0, .int 0, .int 0, .ref h2, .ref h3, .int 0, .int 0, .ref h1, .ref h4, .ref h5, .ref h6, .ref h7, .ref h8, .ref h9, .int 0, .int 0, .int 0, .ref h10, .ref h11, .ref h12, .ref h13, .int 0, .int 0, .ref h14, .ref h15, .ref h16, .ref h17, .int 0, .int 0, .ref h18, .ref h19, .ref h20, .ref h21])), (h1, .inl (k 1, 9, .inr (.inl (tL [1, 0, 0, 0, 1, 0, 0, 0, 0] 0))))] := hD
  refine lv_aload_n hx hb dX11_makesUnit_8 rfl (lv_at hl 0 rfl) ?_
  refine va_get (D := D) (ci := 8) (v := .ref h1) (C := RX11) (T := TX11) (N := 36) hx hb hU iX11 hown hK.1 hP 0 rfl rfl 10 (by decide) (hU _ w795) (fun _ h9 => h9) rfl dX11_makesUnit_9 ?_
  refine lv_iconst (v := 3) hx hb dX11_makesUnit_12 (by decide) ?_
  refine lv_iload_n hx hb dX11_makesUnit_13 rfl (lv_at hl 1 rfl) ?_
  refine lv_imul hx hb dX11_makesUnit_14 (sv_i (v := 0) (by decide +kernel) ?_)
  refine lv_iload_n hx hb dX11_makesUnit_15 rfl (lv_at hl 2 rfl) ?_
  refine lv_iadd hx hb dX11_makesUnit_16 (sv_i (v := 0) (by decide +kernel) ?_)
  refine lv_iload_n hx hb dX11_makesUnit_17 rfl (lv_at hl 3 rfl) ?_
  refine lv_i2l (v := (-1)) hx hb dX11_makesUnit_18 (by decide +kernel) ?_
  refine st_l (j := 0) (g := tL [(-1), 0, 0, 0, 1, 0, 0, 0, 0] 0) hx hb hK hP hD hS 1 rfl (by decide +kernel) upd_tL dX11_makesUnit_19 (fun H locs hP hD hS => ?_)
  have hP : va_P D cl0 [(h0, .inr (8, [.int 2, .int 0, .int 1, .int 0, .int 0, .int 0, .ref h2, .ref h3, .int 0, .int 0, .ref h1, .ref h4, .ref h5, .ref h6, .ref h7, .ref h8, .ref h9, .int 0, .int 0, .int 0, .ref h10, .ref h11, .ref h12, .ref h13, .int 0, .int 0, .ref h14, .ref h15, .ref h16, .ref h17, .int 0, .int 0, .ref h18, .ref h19, .ref h20, .ref h21])), (h1, .inl (k 1, 9, .inr (.inl (tL [(-1), 0, 0, 0, 1, 0, 0, 0, 0] 0))))] H := hP
  have hD : va_D A [(h0, .inr (8, [.int 2, .int 0, .int 1, .int 0, .int 0, .int 0, .ref h2, .ref h3, .int 0, .int 0, .ref h1, .ref h4, .ref h5, .ref h6, .ref h7, .ref h8, .ref h9, .int 0, .int 0, .int 0, .ref h10, .ref h11, .ref h12, .ref h13, .int 0, .int 0, .ref h14, .ref h15, .ref h16, .ref h17, .int 0, .int 0, .ref h18, .ref h19, .ref h20, .ref h21])), (h1, .inl (k 1, 9, .inr (.inl (tL [(-1), 0, 0, 0, 1, 0, 0, 0, 0] 0))))] := hD
  exact retV hx hb hr hlocks hS (⟨hP, hD⟩) dX11_makesUnit_20
abbrev BX11_comes_2 (D : va_G) (k : Nat → ClassId) (h0 h1 h2 h3 h4 h5 h6 h7 h8 h9 h10 h11 h12 h13 h14 h15 h16 h17 h18 h19 h20 h21 : Nat) (A : Nat → Prop) (r : Int32) (H : Heap) : Prop := 0 = r ∧ va_P D cl0 [(h0, .inr (8, [.int 2, .int 1, .int 1, .int 0, .int 0, .int 0, .ref h2, .ref h3, .int 0, .int 0, .ref h1, .ref h4, .ref h5, .ref h6, .ref h7, .ref h8, .ref h9, .int 0, .int 0, .int 0, .ref h10, .ref h11, .ref h12, .ref h13, .int 0, .int 0, .ref h14, .ref h15, .ref h16, .ref h17, .int 0, .int 0, .ref h18, .ref h19, .ref h20, .ref h21])), (h1, .inl (k 1, 9, .inr (.inl (tL [(-1), 0, 0, 0, 1, 0, 0, 0, 0] 0)))), (h2, .inl (k 0, 36, .inl (tI [(-1), 0, 0, 0, 1, 0, 0, 0, 0] 0)))] H ∧ va_D A [(h0, .inr (8, [.int 2, .int 1, .int 1, .int 0, .int 0, .int 0, .ref h2, .ref h3, .int 0, .int 0, .ref h1, .ref h4, .ref h5, .ref h6, .ref h7, .ref h8, .ref h9, .int 0, .int 0, .int 0, .ref h10, .ref h11, .ref h12, .ref h13, .int 0, .int 0, .ref h14, .ref h15, .ref h16, .ref h17, .int 0, .int 0, .ref h18, .ref h19, .ref h20, .ref h21])), (h1, .inl (k 1, 9, .inr (.inl (tL [(-1), 0, 0, 0, 1, 0, 0, 0, 0] 0)))), (h2, .inl (k 0, 36, .inl (tI [(-1), 0, 0, 0, 1, 0, 0, 0, 0] 0)))]
set_option maxHeartbeats 4000000 in
set_option maxRecDepth 100000 in
theorem cX11_comes_2 (l : Launch) (D : va_G) (k : Nat → ClassId) (sz : Nat) (h0 h1 h2 h3 h4 h5 h6 h7 h8 h9 h10 h11 h12 h13 h14 h15 h16 h17 h18 h19 h20 h21 : Nat) : Met l yX11_comes (Cond.code yX11_comes cX11_comes 2 (some .int) :: uw) ({ frames := 0, cells := 0, slots := 0, locals := 0 }) (pC D k sz [.ref h0] [(h0, .inr (8, [.int 2, .int 0, .int 1, .int 0, .int 0, .int 0, .ref h2, .ref h3, .int 0, .int 0, .ref h1, .ref h4, .ref h5, .ref h6, .ref h7, .ref h8, .ref h9, .int 0, .int 0, .int 0, .ref h10, .ref h11, .ref h12, .ref h13, .int 0, .int 0, .ref h14, .ref h15, .ref h16, .ref h17, .int 0, .int 0, .ref h18, .ref h19, .ref h20, .ref h21])), (h1, .inl (k 1, 9, .inr (.inl (tL [(-1), 0, 0, 0, 1, 0, 0, 0, 0] 0)))), (h2, .inl (k 0, 36, .inl (tI [] 0)))]) (qI (BX11_comes_2 D k h0 h1 h2 h3 h4 h5 h6 h7 h8 h9 h10 h11 h12 h13 h14 h15 h16 h17 h18 h19 h20 h21 (va_A [(h0, .inr (8, [.int 2, .int 0, .int 1, .int 0, .int 0, .int 0, .ref h2, .ref h3, .int 0, .int 0, .ref h1, .ref h4, .ref h5, .ref h6, .ref h7, .ref h8, .ref h9, .int 0, .int 0, .int 0, .ref h10, .ref h11, .ref h12, .ref h13, .int 0, .int 0, .ref h14, .ref h15, .ref h16, .ref h17, .int 0, .int 0, .ref h18, .ref h19, .ref h20, .ref h21])), (h1, .inl (k 1, 9, .inr (.inl (tL [(-1), 0, 0, 0, 1, 0, 0, 0, 0] 0)))), (h2, .inl (k 0, 36, .inl (tI [] 0)))] sz)) (va_A [(h0, .inr (8, [.int 2, .int 0, .int 1, .int 0, .int 0, .int 0, .ref h2, .ref h3, .int 0, .int 0, .ref h1, .ref h4, .ref h5, .ref h6, .ref h7, .ref h8, .ref h9, .int 0, .int 0, .int 0, .ref h10, .ref h11, .ref h12, .ref h13, .int 0, .int 0, .ref h14, .ref h15, .ref h16, .ref h17, .int 0, .int 0, .ref h18, .ref h19, .ref h20, .ref h21])), (h1, .inl (k 1, 9, .inr (.inl (tL [(-1), 0, 0, 0, 1, 0, 0, 0, 0] 0)))), (h2, .inl (k 0, 36, .inl (tI [] 0)))] sz)) 0 0 (va_A [(h0, .inr (8, [.int 2, .int 0, .int 1, .int 0, .int 0, .int 0, .ref h2, .ref h3, .int 0, .int 0, .ref h1, .ref h4, .ref h5, .ref h6, .ref h7, .ref h8, .ref h9, .int 0, .int 0, .int 0, .ref h10, .ref h11, .ref h12, .ref h13, .int 0, .int 0, .ref h14, .ref h15, .ref h16, .ref h17, .int 0, .int 0, .ref h18, .ref h19, .ref h20, .ref h21])), (h1, .inl (k 1, 9, .inr (.inl (tL [(-1), 0, 0, 0, 1, 0, 0, 0, 0] 0)))), (h2, .inl (k 0, 36, .inl (tI [] 0)))] sz) := by
  refine begin_ (Qc := fun A => qI (BX11_comes_2 D k h0 h1 h2 h3 h4 h5 h6 h7 h8 h9 h10 h11 h12 h13 h14 h15 h16 h17 h18 h19 h20 h21 A) A) (by decide) (Nat.le_of_ble_eq_true rfl) ?_
  intro p e s m below meth c ls A hx hb hr hml hown hlocks hin hU hK hsz hP hD hS hA hl
  have hl : lv_has ls 2 [(0, .ref h0)] := hl
  clear hsz
  refine lv_iconst (v := 0) hx hb dX11_comes_0 (by decide) ?_
  refine lv_istore_n (lv' := [(1, .int 0), (0, .ref h0)]) hx hb dX11_comes_1 rfl hl (by decide) rfl (fun ls hl => ?_)
  refine lv_iload_n hx hb dX11_comes_2 rfl (lv_at hl 0 rfl) ?_
  refine lv_bipush (v := 9) hx hb dX11_comes_3 (by decide) ?_
  refine lv_icmp_ge (tgt := 35) hx hb dX11_comes_5 (by decide) (fun cc => absurd cc (by decide +kernel)) (fun _ => ?_)
  refine lv_aload_n hx hb dX11_comes_8 rfl (lv_at hl 1 rfl) ?_
  refine va_get (D := D) (ci := 8) (v := .ref h2) (C := RX11) (T := TX11) (N := 36) hx hb hU iX11 hown hK.1 hP 0 rfl rfl 6 (by decide) (hU _ w791) (fun _ h9 => h9) rfl dX11_comes_9 ?_
  refine lv_bipush (v := 9) hx hb dX11_comes_12 (by decide) ?_
  refine lv_aload_n hx hb dX11_comes_14 rfl (lv_at hl 1 rfl) ?_
  refine va_get (D := D) (ci := 8) (v := .int 0) (C := RX11) (T := TX11) (N := 36) hx hb hU iX11 hown hK.1 hP 0 rfl rfl 1 (by decide) (hU _ w786) (fun _ h9 => h9) rfl dX11_comes_15 ?_
  refine lv_imul hx hb dX11_comes_18 (sv_i (v := 0) (by decide +kernel) ?_)
  refine lv_iload_n hx hb dX11_comes_19 rfl (lv_at hl 0 rfl) ?_
  refine lv_iadd hx hb dX11_comes_20 (sv_i (v := 0) (by decide +kernel) ?_)
  refine lv_aload_n hx hb dX11_comes_21 rfl (lv_at hl 1 rfl) ?_
  refine va_get (D := D) (ci := 8) (v := .ref h1) (C := RX11) (T := TX11) (N := 36) hx hb hU iX11 hown hK.1 hP 0 rfl rfl 10 (by decide) (hU _ w795) (fun _ h9 => h9) rfl dX11_comes_22 ?_
  refine lv_iload_n hx hb dX11_comes_25 rfl (lv_at hl 0 rfl) ?_
  refine ld_l (j := 0) (v := (-1)) hx hb hK hP 1 rfl (by decide +kernel) rfl dX11_comes_26 ?_
  refine lv_l2i (v := (-1)) hx hb dX11_comes_27 (by decide +kernel) ?_
  refine st_i (j := 0) (g := tI [(-1)] 0) hx hb hK hP hD hS 2 rfl (by decide +kernel) upd_tI dX11_comes_28 (fun H locs hP hD hS => ?_)
  have hP : va_P D cl0 [(h0, .inr (8, [.int 2, .int 0, .int 1, .int 0, .int 0, .int 0, .ref h2, .ref h3, .int 0, .int 0, .ref h1, .ref h4, .ref h5, .ref h6, .ref h7, .ref h8, .ref h9, .int 0, .int 0, .int 0, .ref h10, .ref h11, .ref h12, .ref h13, .int 0, .int 0, .ref h14, .ref h15, .ref h16, .ref h17, .int 0, .int 0, .ref h18, .ref h19, .ref h20, .ref h21])), (h1, .inl (k 1, 9, .inr (.inl (tL [(-1), 0, 0, 0, 1, 0, 0, 0, 0] 0)))), (h2, .inl (k 0, 36, .inl (tI [(-1)] 0)))] H := hP
  have hD : va_D A [(h0, .inr (8, [.int 2, .int 0, .int 1, .int 0, .int 0, .int 0, .ref h2, .ref h3, .int 0, .int 0, .ref h1, .ref h4, .ref h5, .ref h6, .ref h7, .ref h8, .ref h9, .int 0, .int 0, .int 0, .ref h10, .ref h11, .ref h12, .ref h13, .int 0, .int 0, .ref h14, .ref h15, .ref h16, .ref h17, .int 0, .int 0, .ref h18, .ref h19, .ref h20, .ref h21])), (h1, .inl (k 1, 9, .inr (.inl (tL [(-1), 0, 0, 0, 1, 0, 0, 0, 0] 0)))), (h2, .inl (k 0, 36, .inl (tI [(-1)] 0)))] := hD
  refine lv_iinc (v := 1) (lv' := [(1, .int 1), (0, .ref h0)]) hx hb dX11_comes_29 hl (k := 0) rfl (by decide) (by decide) rfl (fun ls hl => ?_)
  refine lv_goto (tgt := 2) hx hb dX11_comes_32 (by decide) ?_
  refine lv_iload_n hx hb dX11_comes_2 rfl (lv_at hl 0 rfl) ?_
  refine lv_bipush (v := 9) hx hb dX11_comes_3 (by decide) ?_
  refine lv_icmp_ge (tgt := 35) hx hb dX11_comes_5 (by decide) (fun cc => absurd cc (by decide +kernel)) (fun _ => ?_)
  refine lv_aload_n hx hb dX11_comes_8 rfl (lv_at hl 1 rfl) ?_
  refine va_get (D := D) (ci := 8) (v := .ref h2) (C := RX11) (T := TX11) (N := 36) hx hb hU iX11 hown hK.1 hP 0 rfl rfl 6 (by decide) (hU _ w791) (fun _ h9 => h9) rfl dX11_comes_9 ?_
  refine lv_bipush (v := 9) hx hb dX11_comes_12 (by decide) ?_
  refine lv_aload_n hx hb dX11_comes_14 rfl (lv_at hl 1 rfl) ?_
  refine va_get (D := D) (ci := 8) (v := .int 0) (C := RX11) (T := TX11) (N := 36) hx hb hU iX11 hown hK.1 hP 0 rfl rfl 1 (by decide) (hU _ w786) (fun _ h9 => h9) rfl dX11_comes_15 ?_
  refine lv_imul hx hb dX11_comes_18 (sv_i (v := 0) (by decide +kernel) ?_)
  refine lv_iload_n hx hb dX11_comes_19 rfl (lv_at hl 0 rfl) ?_
  refine lv_iadd hx hb dX11_comes_20 (sv_i (v := 1) (by decide +kernel) ?_)
  refine lv_aload_n hx hb dX11_comes_21 rfl (lv_at hl 1 rfl) ?_
  refine va_get (D := D) (ci := 8) (v := .ref h1) (C := RX11) (T := TX11) (N := 36) hx hb hU iX11 hown hK.1 hP 0 rfl rfl 10 (by decide) (hU _ w795) (fun _ h9 => h9) rfl dX11_comes_22 ?_
  refine lv_iload_n hx hb dX11_comes_25 rfl (lv_at hl 0 rfl) ?_
  refine ld_l (j := 1) (v := 0) hx hb hK hP 1 rfl (by decide +kernel) rfl dX11_comes_26 ?_
  refine lv_l2i (v := 0) hx hb dX11_comes_27 (by decide +kernel) ?_
  refine st_i (j := 1) (g := tI [(-1), 0] 0) hx hb hK hP hD hS 2 rfl (by decide +kernel) upd_tI dX11_comes_28 (fun H locs hP hD hS => ?_)
  have hP : va_P D cl0 [(h0, .inr (8, [.int 2, .int 0, .int 1, .int 0, .int 0, .int 0, .ref h2, .ref h3, .int 0, .int 0, .ref h1, .ref h4, .ref h5, .ref h6, .ref h7, .ref h8, .ref h9, .int 0, .int 0, .int 0, .ref h10, .ref h11, .ref h12, .ref h13, .int 0, .int 0, .ref h14, .ref h15, .ref h16, .ref h17, .int 0, .int 0, .ref h18, .ref h19, .ref h20, .ref h21])), (h1, .inl (k 1, 9, .inr (.inl (tL [(-1), 0, 0, 0, 1, 0, 0, 0, 0] 0)))), (h2, .inl (k 0, 36, .inl (tI [(-1), 0] 0)))] H := hP
  have hD : va_D A [(h0, .inr (8, [.int 2, .int 0, .int 1, .int 0, .int 0, .int 0, .ref h2, .ref h3, .int 0, .int 0, .ref h1, .ref h4, .ref h5, .ref h6, .ref h7, .ref h8, .ref h9, .int 0, .int 0, .int 0, .ref h10, .ref h11, .ref h12, .ref h13, .int 0, .int 0, .ref h14, .ref h15, .ref h16, .ref h17, .int 0, .int 0, .ref h18, .ref h19, .ref h20, .ref h21])), (h1, .inl (k 1, 9, .inr (.inl (tL [(-1), 0, 0, 0, 1, 0, 0, 0, 0] 0)))), (h2, .inl (k 0, 36, .inl (tI [(-1), 0] 0)))] := hD
  refine lv_iinc (v := 2) (lv' := [(1, .int 2), (0, .ref h0)]) hx hb dX11_comes_29 hl (k := 0) rfl (by decide) (by decide) rfl (fun ls hl => ?_)
  refine lv_goto (tgt := 2) hx hb dX11_comes_32 (by decide) ?_
  refine lv_iload_n hx hb dX11_comes_2 rfl (lv_at hl 0 rfl) ?_
  refine lv_bipush (v := 9) hx hb dX11_comes_3 (by decide) ?_
  refine lv_icmp_ge (tgt := 35) hx hb dX11_comes_5 (by decide) (fun cc => absurd cc (by decide +kernel)) (fun _ => ?_)
  refine lv_aload_n hx hb dX11_comes_8 rfl (lv_at hl 1 rfl) ?_
  refine va_get (D := D) (ci := 8) (v := .ref h2) (C := RX11) (T := TX11) (N := 36) hx hb hU iX11 hown hK.1 hP 0 rfl rfl 6 (by decide) (hU _ w791) (fun _ h9 => h9) rfl dX11_comes_9 ?_
  refine lv_bipush (v := 9) hx hb dX11_comes_12 (by decide) ?_
  refine lv_aload_n hx hb dX11_comes_14 rfl (lv_at hl 1 rfl) ?_
  refine va_get (D := D) (ci := 8) (v := .int 0) (C := RX11) (T := TX11) (N := 36) hx hb hU iX11 hown hK.1 hP 0 rfl rfl 1 (by decide) (hU _ w786) (fun _ h9 => h9) rfl dX11_comes_15 ?_
  refine lv_imul hx hb dX11_comes_18 (sv_i (v := 0) (by decide +kernel) ?_)
  refine lv_iload_n hx hb dX11_comes_19 rfl (lv_at hl 0 rfl) ?_
  refine lv_iadd hx hb dX11_comes_20 (sv_i (v := 2) (by decide +kernel) ?_)
  refine lv_aload_n hx hb dX11_comes_21 rfl (lv_at hl 1 rfl) ?_
  refine va_get (D := D) (ci := 8) (v := .ref h1) (C := RX11) (T := TX11) (N := 36) hx hb hU iX11 hown hK.1 hP 0 rfl rfl 10 (by decide) (hU _ w795) (fun _ h9 => h9) rfl dX11_comes_22 ?_
  refine lv_iload_n hx hb dX11_comes_25 rfl (lv_at hl 0 rfl) ?_
  refine ld_l (j := 2) (v := 0) hx hb hK hP 1 rfl (by decide +kernel) rfl dX11_comes_26 ?_
  refine lv_l2i (v := 0) hx hb dX11_comes_27 (by decide +kernel) ?_
  refine st_i (j := 2) (g := tI [(-1), 0, 0] 0) hx hb hK hP hD hS 2 rfl (by decide +kernel) upd_tI dX11_comes_28 (fun H locs hP hD hS => ?_)
  have hP : va_P D cl0 [(h0, .inr (8, [.int 2, .int 0, .int 1, .int 0, .int 0, .int 0, .ref h2, .ref h3, .int 0, .int 0, .ref h1, .ref h4, .ref h5, .ref h6, .ref h7, .ref h8, .ref h9, .int 0, .int 0, .int 0, .ref h10, .ref h11, .ref h12, .ref h13, .int 0, .int 0, .ref h14, .ref h15, .ref h16, .ref h17, .int 0, .int 0, .ref h18, .ref h19, .ref h20, .ref h21])), (h1, .inl (k 1, 9, .inr (.inl (tL [(-1), 0, 0, 0, 1, 0, 0, 0, 0] 0)))), (h2, .inl (k 0, 36, .inl (tI [(-1), 0, 0] 0)))] H := hP
  have hD : va_D A [(h0, .inr (8, [.int 2, .int 0, .int 1, .int 0, .int 0, .int 0, .ref h2, .ref h3, .int 0, .int 0, .ref h1, .ref h4, .ref h5, .ref h6, .ref h7, .ref h8, .ref h9, .int 0, .int 0, .int 0, .ref h10, .ref h11, .ref h12, .ref h13, .int 0, .int 0, .ref h14, .ref h15, .ref h16, .ref h17, .int 0, .int 0, .ref h18, .ref h19, .ref h20, .ref h21])), (h1, .inl (k 1, 9, .inr (.inl (tL [(-1), 0, 0, 0, 1, 0, 0, 0, 0] 0)))), (h2, .inl (k 0, 36, .inl (tI [(-1), 0, 0] 0)))] := hD
  refine lv_iinc (v := 3) (lv' := [(1, .int 3), (0, .ref h0)]) hx hb dX11_comes_29 hl (k := 0) rfl (by decide) (by decide) rfl (fun ls hl => ?_)
  refine lv_goto (tgt := 2) hx hb dX11_comes_32 (by decide) ?_
  refine lv_iload_n hx hb dX11_comes_2 rfl (lv_at hl 0 rfl) ?_
  refine lv_bipush (v := 9) hx hb dX11_comes_3 (by decide) ?_
  refine lv_icmp_ge (tgt := 35) hx hb dX11_comes_5 (by decide) (fun cc => absurd cc (by decide +kernel)) (fun _ => ?_)
  refine lv_aload_n hx hb dX11_comes_8 rfl (lv_at hl 1 rfl) ?_
  refine va_get (D := D) (ci := 8) (v := .ref h2) (C := RX11) (T := TX11) (N := 36) hx hb hU iX11 hown hK.1 hP 0 rfl rfl 6 (by decide) (hU _ w791) (fun _ h9 => h9) rfl dX11_comes_9 ?_
  refine lv_bipush (v := 9) hx hb dX11_comes_12 (by decide) ?_
  refine lv_aload_n hx hb dX11_comes_14 rfl (lv_at hl 1 rfl) ?_
  refine va_get (D := D) (ci := 8) (v := .int 0) (C := RX11) (T := TX11) (N := 36) hx hb hU iX11 hown hK.1 hP 0 rfl rfl 1 (by decide) (hU _ w786) (fun _ h9 => h9) rfl dX11_comes_15 ?_
  refine lv_imul hx hb dX11_comes_18 (sv_i (v := 0) (by decide +kernel) ?_)
  refine lv_iload_n hx hb dX11_comes_19 rfl (lv_at hl 0 rfl) ?_
  refine lv_iadd hx hb dX11_comes_20 (sv_i (v := 3) (by decide +kernel) ?_)
  refine lv_aload_n hx hb dX11_comes_21 rfl (lv_at hl 1 rfl) ?_
  refine va_get (D := D) (ci := 8) (v := .ref h1) (C := RX11) (T := TX11) (N := 36) hx hb hU iX11 hown hK.1 hP 0 rfl rfl 10 (by decide) (hU _ w795) (fun _ h9 => h9) rfl dX11_comes_22 ?_
  refine lv_iload_n hx hb dX11_comes_25 rfl (lv_at hl 0 rfl) ?_
  refine ld_l (j := 3) (v := 0) hx hb hK hP 1 rfl (by decide +kernel) rfl dX11_comes_26 ?_
  refine lv_l2i (v := 0) hx hb dX11_comes_27 (by decide +kernel) ?_
  refine st_i (j := 3) (g := tI [(-1), 0, 0, 0] 0) hx hb hK hP hD hS 2 rfl (by decide +kernel) upd_tI dX11_comes_28 (fun H locs hP hD hS => ?_)
  have hP : va_P D cl0 [(h0, .inr (8, [.int 2, .int 0, .int 1, .int 0, .int 0, .int 0, .ref h2, .ref h3, .int 0, .int 0, .ref h1, .ref h4, .ref h5, .ref h6, .ref h7, .ref h8, .ref h9, .int 0, .int 0, .int 0, .ref h10, .ref h11, .ref h12, .ref h13, .int 0, .int 0, .ref h14, .ref h15, .ref h16, .ref h17, .int 0, .int 0, .ref h18, .ref h19, .ref h20, .ref h21])), (h1, .inl (k 1, 9, .inr (.inl (tL [(-1), 0, 0, 0, 1, 0, 0, 0, 0] 0)))), (h2, .inl (k 0, 36, .inl (tI [(-1), 0, 0, 0] 0)))] H := hP
  have hD : va_D A [(h0, .inr (8, [.int 2, .int 0, .int 1, .int 0, .int 0, .int 0, .ref h2, .ref h3, .int 0, .int 0, .ref h1, .ref h4, .ref h5, .ref h6, .ref h7, .ref h8, .ref h9, .int 0, .int 0, .int 0, .ref h10, .ref h11, .ref h12, .ref h13, .int 0, .int 0, .ref h14, .ref h15, .ref h16, .ref h17, .int 0, .int 0, .ref h18, .ref h19, .ref h20, .ref h21])), (h1, .inl (k 1, 9, .inr (.inl (tL [(-1), 0, 0, 0, 1, 0, 0, 0, 0] 0)))), (h2, .inl (k 0, 36, .inl (tI [(-1), 0, 0, 0] 0)))] := hD
  refine lv_iinc (v := 4) (lv' := [(1, .int 4), (0, .ref h0)]) hx hb dX11_comes_29 hl (k := 0) rfl (by decide) (by decide) rfl (fun ls hl => ?_)
  refine lv_goto (tgt := 2) hx hb dX11_comes_32 (by decide) ?_
  refine lv_iload_n hx hb dX11_comes_2 rfl (lv_at hl 0 rfl) ?_
  refine lv_bipush (v := 9) hx hb dX11_comes_3 (by decide) ?_
  refine lv_icmp_ge (tgt := 35) hx hb dX11_comes_5 (by decide) (fun cc => absurd cc (by decide +kernel)) (fun _ => ?_)
  refine lv_aload_n hx hb dX11_comes_8 rfl (lv_at hl 1 rfl) ?_
  refine va_get (D := D) (ci := 8) (v := .ref h2) (C := RX11) (T := TX11) (N := 36) hx hb hU iX11 hown hK.1 hP 0 rfl rfl 6 (by decide) (hU _ w791) (fun _ h9 => h9) rfl dX11_comes_9 ?_
  refine lv_bipush (v := 9) hx hb dX11_comes_12 (by decide) ?_
  refine lv_aload_n hx hb dX11_comes_14 rfl (lv_at hl 1 rfl) ?_
  refine va_get (D := D) (ci := 8) (v := .int 0) (C := RX11) (T := TX11) (N := 36) hx hb hU iX11 hown hK.1 hP 0 rfl rfl 1 (by decide) (hU _ w786) (fun _ h9 => h9) rfl dX11_comes_15 ?_
  refine lv_imul hx hb dX11_comes_18 (sv_i (v := 0) (by decide +kernel) ?_)
  refine lv_iload_n hx hb dX11_comes_19 rfl (lv_at hl 0 rfl) ?_
  refine lv_iadd hx hb dX11_comes_20 (sv_i (v := 4) (by decide +kernel) ?_)
  refine lv_aload_n hx hb dX11_comes_21 rfl (lv_at hl 1 rfl) ?_
  refine va_get (D := D) (ci := 8) (v := .ref h1) (C := RX11) (T := TX11) (N := 36) hx hb hU iX11 hown hK.1 hP 0 rfl rfl 10 (by decide) (hU _ w795) (fun _ h9 => h9) rfl dX11_comes_22 ?_
  refine lv_iload_n hx hb dX11_comes_25 rfl (lv_at hl 0 rfl) ?_
  refine ld_l (j := 4) (v := 1) hx hb hK hP 1 rfl (by decide +kernel) rfl dX11_comes_26 ?_
  refine lv_l2i (v := 1) hx hb dX11_comes_27 (by decide +kernel) ?_
  refine st_i (j := 4) (g := tI [(-1), 0, 0, 0, 1] 0) hx hb hK hP hD hS 2 rfl (by decide +kernel) upd_tI dX11_comes_28 (fun H locs hP hD hS => ?_)
  have hP : va_P D cl0 [(h0, .inr (8, [.int 2, .int 0, .int 1, .int 0, .int 0, .int 0, .ref h2, .ref h3, .int 0, .int 0, .ref h1, .ref h4, .ref h5, .ref h6, .ref h7, .ref h8, .ref h9, .int 0, .int 0, .int 0, .ref h10, .ref h11, .ref h12, .ref h13, .int 0, .int 0, .ref h14, .ref h15, .ref h16, .ref h17, .int 0, .int 0, .ref h18, .ref h19, .ref h20, .ref h21])), (h1, .inl (k 1, 9, .inr (.inl (tL [(-1), 0, 0, 0, 1, 0, 0, 0, 0] 0)))), (h2, .inl (k 0, 36, .inl (tI [(-1), 0, 0, 0, 1] 0)))] H := hP
  have hD : va_D A [(h0, .inr (8, [.int 2, .int 0, .int 1, .int 0, .int 0, .int 0, .ref h2, .ref h3, .int 0, .int 0, .ref h1, .ref h4, .ref h5, .ref h6, .ref h7, .ref h8, .ref h9, .int 0, .int 0, .int 0, .ref h10, .ref h11, .ref h12, .ref h13, .int 0, .int 0, .ref h14, .ref h15, .ref h16, .ref h17, .int 0, .int 0, .ref h18, .ref h19, .ref h20, .ref h21])), (h1, .inl (k 1, 9, .inr (.inl (tL [(-1), 0, 0, 0, 1, 0, 0, 0, 0] 0)))), (h2, .inl (k 0, 36, .inl (tI [(-1), 0, 0, 0, 1] 0)))] := hD
  refine lv_iinc (v := 5) (lv' := [(1, .int 5), (0, .ref h0)]) hx hb dX11_comes_29 hl (k := 0) rfl (by decide) (by decide) rfl (fun ls hl => ?_)
  refine lv_goto (tgt := 2) hx hb dX11_comes_32 (by decide) ?_
  refine lv_iload_n hx hb dX11_comes_2 rfl (lv_at hl 0 rfl) ?_
  refine lv_bipush (v := 9) hx hb dX11_comes_3 (by decide) ?_
  refine lv_icmp_ge (tgt := 35) hx hb dX11_comes_5 (by decide) (fun cc => absurd cc (by decide +kernel)) (fun _ => ?_)
  refine lv_aload_n hx hb dX11_comes_8 rfl (lv_at hl 1 rfl) ?_
  refine va_get (D := D) (ci := 8) (v := .ref h2) (C := RX11) (T := TX11) (N := 36) hx hb hU iX11 hown hK.1 hP 0 rfl rfl 6 (by decide) (hU _ w791) (fun _ h9 => h9) rfl dX11_comes_9 ?_
  refine lv_bipush (v := 9) hx hb dX11_comes_12 (by decide) ?_
  refine lv_aload_n hx hb dX11_comes_14 rfl (lv_at hl 1 rfl) ?_
  refine va_get (D := D) (ci := 8) (v := .int 0) (C := RX11) (T := TX11) (N := 36) hx hb hU iX11 hown hK.1 hP 0 rfl rfl 1 (by decide) (hU _ w786) (fun _ h9 => h9) rfl dX11_comes_15 ?_
  refine lv_imul hx hb dX11_comes_18 (sv_i (v := 0) (by decide +kernel) ?_)
  refine lv_iload_n hx hb dX11_comes_19 rfl (lv_at hl 0 rfl) ?_
  refine lv_iadd hx hb dX11_comes_20 (sv_i (v := 5) (by decide +kernel) ?_)
  refine lv_aload_n hx hb dX11_comes_21 rfl (lv_at hl 1 rfl) ?_
  refine va_get (D := D) (ci := 8) (v := .ref h1) (C := RX11) (T := TX11) (N := 36) hx hb hU iX11 hown hK.1 hP 0 rfl rfl 10 (by decide) (hU _ w795) (fun _ h9 => h9) rfl dX11_comes_22 ?_
  refine lv_iload_n hx hb dX11_comes_25 rfl (lv_at hl 0 rfl) ?_
  refine ld_l (j := 5) (v := 0) hx hb hK hP 1 rfl (by decide +kernel) rfl dX11_comes_26 ?_
  refine lv_l2i (v := 0) hx hb dX11_comes_27 (by decide +kernel) ?_
  refine st_i (j := 5) (g := tI [(-1), 0, 0, 0, 1, 0] 0) hx hb hK hP hD hS 2 rfl (by decide +kernel) upd_tI dX11_comes_28 (fun H locs hP hD hS => ?_)
  have hP : va_P D cl0 [(h0, .inr (8, [.int 2, .int 0, .int 1, .int 0, .int 0, .int 0, .ref h2, .ref h3, .int 0, .int 0, .ref h1, .ref h4, .ref h5, .ref h6, .ref h7, .ref h8, .ref h9, .int 0, .int 0, .int 0, .ref h10, .ref h11, .ref h12, .ref h13, .int 0, .int 0, .ref h14, .ref h15, .ref h16, .ref h17, .int 0, .int 0, .ref h18, .ref h19, .ref h20, .ref h21])), (h1, .inl (k 1, 9, .inr (.inl (tL [(-1), 0, 0, 0, 1, 0, 0, 0, 0] 0)))), (h2, .inl (k 0, 36, .inl (tI [(-1), 0, 0, 0, 1, 0] 0)))] H := hP
  have hD : va_D A [(h0, .inr (8, [.int 2, .int 0, .int 1, .int 0, .int 0, .int 0, .ref h2, .ref h3, .int 0, .int 0, .ref h1, .ref h4, .ref h5, .ref h6, .ref h7, .ref h8, .ref h9, .int 0, .int 0, .int 0, .ref h10, .ref h11, .ref h12, .ref h13, .int 0, .int 0, .ref h14, .ref h15, .ref h16, .ref h17, .int 0, .int 0, .ref h18, .ref h19, .ref h20, .ref h21])), (h1, .inl (k 1, 9, .inr (.inl (tL [(-1), 0, 0, 0, 1, 0, 0, 0, 0] 0)))), (h2, .inl (k 0, 36, .inl (tI [(-1), 0, 0, 0, 1, 0] 0)))] := hD
  refine lv_iinc (v := 6) (lv' := [(1, .int 6), (0, .ref h0)]) hx hb dX11_comes_29 hl (k := 0) rfl (by decide) (by decide) rfl (fun ls hl => ?_)
  refine lv_goto (tgt := 2) hx hb dX11_comes_32 (by decide) ?_
  refine lv_iload_n hx hb dX11_comes_2 rfl (lv_at hl 0 rfl) ?_
  refine lv_bipush (v := 9) hx hb dX11_comes_3 (by decide) ?_
  refine lv_icmp_ge (tgt := 35) hx hb dX11_comes_5 (by decide) (fun cc => absurd cc (by decide +kernel)) (fun _ => ?_)
  refine lv_aload_n hx hb dX11_comes_8 rfl (lv_at hl 1 rfl) ?_
  refine va_get (D := D) (ci := 8) (v := .ref h2) (C := RX11) (T := TX11) (N := 36) hx hb hU iX11 hown hK.1 hP 0 rfl rfl 6 (by decide) (hU _ w791) (fun _ h9 => h9) rfl dX11_comes_9 ?_
  refine lv_bipush (v := 9) hx hb dX11_comes_12 (by decide) ?_
  refine lv_aload_n hx hb dX11_comes_14 rfl (lv_at hl 1 rfl) ?_
  refine va_get (D := D) (ci := 8) (v := .int 0) (C := RX11) (T := TX11) (N := 36) hx hb hU iX11 hown hK.1 hP 0 rfl rfl 1 (by decide) (hU _ w786) (fun _ h9 => h9) rfl dX11_comes_15 ?_
  refine lv_imul hx hb dX11_comes_18 (sv_i (v := 0) (by decide +kernel) ?_)
  refine lv_iload_n hx hb dX11_comes_19 rfl (lv_at hl 0 rfl) ?_
  refine lv_iadd hx hb dX11_comes_20 (sv_i (v := 6) (by decide +kernel) ?_)
  refine lv_aload_n hx hb dX11_comes_21 rfl (lv_at hl 1 rfl) ?_
  refine va_get (D := D) (ci := 8) (v := .ref h1) (C := RX11) (T := TX11) (N := 36) hx hb hU iX11 hown hK.1 hP 0 rfl rfl 10 (by decide) (hU _ w795) (fun _ h9 => h9) rfl dX11_comes_22 ?_
  refine lv_iload_n hx hb dX11_comes_25 rfl (lv_at hl 0 rfl) ?_
  refine ld_l (j := 6) (v := 0) hx hb hK hP 1 rfl (by decide +kernel) rfl dX11_comes_26 ?_
  refine lv_l2i (v := 0) hx hb dX11_comes_27 (by decide +kernel) ?_
  refine st_i (j := 6) (g := tI [(-1), 0, 0, 0, 1, 0, 0] 0) hx hb hK hP hD hS 2 rfl (by decide +kernel) upd_tI dX11_comes_28 (fun H locs hP hD hS => ?_)
  have hP : va_P D cl0 [(h0, .inr (8, [.int 2, .int 0, .int 1, .int 0, .int 0, .int 0, .ref h2, .ref h3, .int 0, .int 0, .ref h1, .ref h4, .ref h5, .ref h6, .ref h7, .ref h8, .ref h9, .int 0, .int 0, .int 0, .ref h10, .ref h11, .ref h12, .ref h13, .int 0, .int 0, .ref h14, .ref h15, .ref h16, .ref h17, .int 0, .int 0, .ref h18, .ref h19, .ref h20, .ref h21])), (h1, .inl (k 1, 9, .inr (.inl (tL [(-1), 0, 0, 0, 1, 0, 0, 0, 0] 0)))), (h2, .inl (k 0, 36, .inl (tI [(-1), 0, 0, 0, 1, 0, 0] 0)))] H := hP
  have hD : va_D A [(h0, .inr (8, [.int 2, .int 0, .int 1, .int 0, .int 0, .int 0, .ref h2, .ref h3, .int 0, .int 0, .ref h1, .ref h4, .ref h5, .ref h6, .ref h7, .ref h8, .ref h9, .int 0, .int 0, .int 0, .ref h10, .ref h11, .ref h12, .ref h13, .int 0, .int 0, .ref h14, .ref h15, .ref h16, .ref h17, .int 0, .int 0, .ref h18, .ref h19, .ref h20, .ref h21])), (h1, .inl (k 1, 9, .inr (.inl (tL [(-1), 0, 0, 0, 1, 0, 0, 0, 0] 0)))), (h2, .inl (k 0, 36, .inl (tI [(-1), 0, 0, 0, 1, 0, 0] 0)))] := hD
  refine lv_iinc (v := 7) (lv' := [(1, .int 7), (0, .ref h0)]) hx hb dX11_comes_29 hl (k := 0) rfl (by decide) (by decide) rfl (fun ls hl => ?_)
  refine lv_goto (tgt := 2) hx hb dX11_comes_32 (by decide) ?_
  refine lv_iload_n hx hb dX11_comes_2 rfl (lv_at hl 0 rfl) ?_
  refine lv_bipush (v := 9) hx hb dX11_comes_3 (by decide) ?_
  refine lv_icmp_ge (tgt := 35) hx hb dX11_comes_5 (by decide) (fun cc => absurd cc (by decide +kernel)) (fun _ => ?_)
  refine lv_aload_n hx hb dX11_comes_8 rfl (lv_at hl 1 rfl) ?_
  refine va_get (D := D) (ci := 8) (v := .ref h2) (C := RX11) (T := TX11) (N := 36) hx hb hU iX11 hown hK.1 hP 0 rfl rfl 6 (by decide) (hU _ w791) (fun _ h9 => h9) rfl dX11_comes_9 ?_
  refine lv_bipush (v := 9) hx hb dX11_comes_12 (by decide) ?_
  refine lv_aload_n hx hb dX11_comes_14 rfl (lv_at hl 1 rfl) ?_
  refine va_get (D := D) (ci := 8) (v := .int 0) (C := RX11) (T := TX11) (N := 36) hx hb hU iX11 hown hK.1 hP 0 rfl rfl 1 (by decide) (hU _ w786) (fun _ h9 => h9) rfl dX11_comes_15 ?_
  refine lv_imul hx hb dX11_comes_18 (sv_i (v := 0) (by decide +kernel) ?_)
  refine lv_iload_n hx hb dX11_comes_19 rfl (lv_at hl 0 rfl) ?_
  refine lv_iadd hx hb dX11_comes_20 (sv_i (v := 7) (by decide +kernel) ?_)
  refine lv_aload_n hx hb dX11_comes_21 rfl (lv_at hl 1 rfl) ?_
  refine va_get (D := D) (ci := 8) (v := .ref h1) (C := RX11) (T := TX11) (N := 36) hx hb hU iX11 hown hK.1 hP 0 rfl rfl 10 (by decide) (hU _ w795) (fun _ h9 => h9) rfl dX11_comes_22 ?_
  refine lv_iload_n hx hb dX11_comes_25 rfl (lv_at hl 0 rfl) ?_
  refine ld_l (j := 7) (v := 0) hx hb hK hP 1 rfl (by decide +kernel) rfl dX11_comes_26 ?_
  refine lv_l2i (v := 0) hx hb dX11_comes_27 (by decide +kernel) ?_
  refine st_i (j := 7) (g := tI [(-1), 0, 0, 0, 1, 0, 0, 0] 0) hx hb hK hP hD hS 2 rfl (by decide +kernel) upd_tI dX11_comes_28 (fun H locs hP hD hS => ?_)
  have hP : va_P D cl0 [(h0, .inr (8, [.int 2, .int 0, .int 1, .int 0, .int 0, .int 0, .ref h2, .ref h3, .int 0, .int 0, .ref h1, .ref h4, .ref h5, .ref h6, .ref h7, .ref h8, .ref h9, .int 0, .int 0, .int 0, .ref h10, .ref h11, .ref h12, .ref h13, .int 0, .int 0, .ref h14, .ref h15, .ref h16, .ref h17, .int 0, .int 0, .ref h18, .ref h19, .ref h20, .ref h21])), (h1, .inl (k 1, 9, .inr (.inl (tL [(-1), 0, 0, 0, 1, 0, 0, 0, 0] 0)))), (h2, .inl (k 0, 36, .inl (tI [(-1), 0, 0, 0, 1, 0, 0, 0] 0)))] H := hP
  have hD : va_D A [(h0, .inr (8, [.int 2, .int 0, .int 1, .int 0, .int 0, .int 0, .ref h2, .ref h3, .int 0, .int 0, .ref h1, .ref h4, .ref h5, .ref h6, .ref h7, .ref h8, .ref h9, .int 0, .int 0, .int 0, .ref h10, .ref h11, .ref h12, .ref h13, .int 0, .int 0, .ref h14, .ref h15, .ref h16, .ref h17, .int 0, .int 0, .ref h18, .ref h19, .ref h20, .ref h21])), (h1, .inl (k 1, 9, .inr (.inl (tL [(-1), 0, 0, 0, 1, 0, 0, 0, 0] 0)))), (h2, .inl (k 0, 36, .inl (tI [(-1), 0, 0, 0, 1, 0, 0, 0] 0)))] := hD
  refine lv_iinc (v := 8) (lv' := [(1, .int 8), (0, .ref h0)]) hx hb dX11_comes_29 hl (k := 0) rfl (by decide) (by decide) rfl (fun ls hl => ?_)
  refine lv_goto (tgt := 2) hx hb dX11_comes_32 (by decide) ?_
  refine lv_iload_n hx hb dX11_comes_2 rfl (lv_at hl 0 rfl) ?_
  refine lv_bipush (v := 9) hx hb dX11_comes_3 (by decide) ?_
  refine lv_icmp_ge (tgt := 35) hx hb dX11_comes_5 (by decide) (fun cc => absurd cc (by decide +kernel)) (fun _ => ?_)
  refine lv_aload_n hx hb dX11_comes_8 rfl (lv_at hl 1 rfl) ?_
  refine va_get (D := D) (ci := 8) (v := .ref h2) (C := RX11) (T := TX11) (N := 36) hx hb hU iX11 hown hK.1 hP 0 rfl rfl 6 (by decide) (hU _ w791) (fun _ h9 => h9) rfl dX11_comes_9 ?_
  refine lv_bipush (v := 9) hx hb dX11_comes_12 (by decide) ?_
  refine lv_aload_n hx hb dX11_comes_14 rfl (lv_at hl 1 rfl) ?_
  refine va_get (D := D) (ci := 8) (v := .int 0) (C := RX11) (T := TX11) (N := 36) hx hb hU iX11 hown hK.1 hP 0 rfl rfl 1 (by decide) (hU _ w786) (fun _ h9 => h9) rfl dX11_comes_15 ?_
  refine lv_imul hx hb dX11_comes_18 (sv_i (v := 0) (by decide +kernel) ?_)
  refine lv_iload_n hx hb dX11_comes_19 rfl (lv_at hl 0 rfl) ?_
  refine lv_iadd hx hb dX11_comes_20 (sv_i (v := 8) (by decide +kernel) ?_)
  refine lv_aload_n hx hb dX11_comes_21 rfl (lv_at hl 1 rfl) ?_
  refine va_get (D := D) (ci := 8) (v := .ref h1) (C := RX11) (T := TX11) (N := 36) hx hb hU iX11 hown hK.1 hP 0 rfl rfl 10 (by decide) (hU _ w795) (fun _ h9 => h9) rfl dX11_comes_22 ?_
  refine lv_iload_n hx hb dX11_comes_25 rfl (lv_at hl 0 rfl) ?_
  refine ld_l (j := 8) (v := 0) hx hb hK hP 1 rfl (by decide +kernel) rfl dX11_comes_26 ?_
  refine lv_l2i (v := 0) hx hb dX11_comes_27 (by decide +kernel) ?_
  refine st_i (j := 8) (g := tI [(-1), 0, 0, 0, 1, 0, 0, 0, 0] 0) hx hb hK hP hD hS 2 rfl (by decide +kernel) upd_tI dX11_comes_28 (fun H locs hP hD hS => ?_)
  have hP : va_P D cl0 [(h0, .inr (8, [.int 2, .int 0, .int 1, .int 0, .int 0, .int 0, .ref h2, .ref h3, .int 0, .int 0, .ref h1, .ref h4, .ref h5, .ref h6, .ref h7, .ref h8, .ref h9, .int 0, .int 0, .int 0, .ref h10, .ref h11, .ref h12, .ref h13, .int 0, .int 0, .ref h14, .ref h15, .ref h16, .ref h17, .int 0, .int 0, .ref h18, .ref h19, .ref h20, .ref h21])), (h1, .inl (k 1, 9, .inr (.inl (tL [(-1), 0, 0, 0, 1, 0, 0, 0, 0] 0)))), (h2, .inl (k 0, 36, .inl (tI [(-1), 0, 0, 0, 1, 0, 0, 0, 0] 0)))] H := hP
  have hD : va_D A [(h0, .inr (8, [.int 2, .int 0, .int 1, .int 0, .int 0, .int 0, .ref h2, .ref h3, .int 0, .int 0, .ref h1, .ref h4, .ref h5, .ref h6, .ref h7, .ref h8, .ref h9, .int 0, .int 0, .int 0, .ref h10, .ref h11, .ref h12, .ref h13, .int 0, .int 0, .ref h14, .ref h15, .ref h16, .ref h17, .int 0, .int 0, .ref h18, .ref h19, .ref h20, .ref h21])), (h1, .inl (k 1, 9, .inr (.inl (tL [(-1), 0, 0, 0, 1, 0, 0, 0, 0] 0)))), (h2, .inl (k 0, 36, .inl (tI [(-1), 0, 0, 0, 1, 0, 0, 0, 0] 0)))] := hD
  refine lv_iinc (v := 9) (lv' := [(1, .int 9), (0, .ref h0)]) hx hb dX11_comes_29 hl (k := 0) rfl (by decide) (by decide) rfl (fun ls hl => ?_)
  refine lv_goto (tgt := 2) hx hb dX11_comes_32 (by decide) ?_
  refine lv_iload_n hx hb dX11_comes_2 rfl (lv_at hl 0 rfl) ?_
  refine lv_bipush (v := 9) hx hb dX11_comes_3 (by decide) ?_
  refine lv_icmp_ge (tgt := 35) hx hb dX11_comes_5 (by decide) (fun _ => ?_) (fun cc => absurd (by decide +kernel) cc)
  refine lv_aload_n hx hb dX11_comes_35 rfl (lv_at hl 1 rfl) ?_
  refine lv_dup hx hb dX11_comes_36 rfl ?_
  refine va_get (D := D) (ci := 8) (v := .int 0) (C := RX11) (T := TX11) (N := 36) hx hb hU iX11 hown hK.1 hP 0 rfl rfl 1 (by decide) (hU _ w786) (fun _ h9 => h9) rfl dX11_comes_37 ?_
  refine lv_iconst (v := 1) hx hb dX11_comes_40 (by decide) ?_
  refine lv_iadd hx hb dX11_comes_41 (sv_i (v := 1) (by decide +kernel) ?_)
  refine va_put (D := D) (ci := 8) (v := .int 1) (ty := .int) (C := RX11) (T := TX11) (N := 36) hx hb hU iX11 tyX11 tyX11_ok nmX11 hown hK.1 hP hD hS 0 rfl rfl 1 (by decide) (hU _ w786) (fun _ h9 => h9) rfl (by decide +kernel) rfl rfl (Nat.le_of_ble_eq_true rfl) dX11_comes_42 (fun H locs hP hD hS => ?_)
  have hP : va_P D cl0 [(h0, .inr (8, [.int 2, .int 1, .int 1, .int 0, .int 0, .int 0, .ref h2, .ref h3, .int 0, .int 0, .ref h1, .ref h4, .ref h5, .ref h6, .ref h7, .ref h8, .ref h9, .int 0, .int 0, .int 0, .ref h10, .ref h11, .ref h12, .ref h13, .int 0, .int 0, .ref h14, .ref h15, .ref h16, .ref h17, .int 0, .int 0, .ref h18, .ref h19, .ref h20, .ref h21])), (h1, .inl (k 1, 9, .inr (.inl (tL [(-1), 0, 0, 0, 1, 0, 0, 0, 0] 0)))), (h2, .inl (k 0, 36, .inl (tI [(-1), 0, 0, 0, 1, 0, 0, 0, 0] 0)))] H := hP
  have hD : va_D A [(h0, .inr (8, [.int 2, .int 1, .int 1, .int 0, .int 0, .int 0, .ref h2, .ref h3, .int 0, .int 0, .ref h1, .ref h4, .ref h5, .ref h6, .ref h7, .ref h8, .ref h9, .int 0, .int 0, .int 0, .ref h10, .ref h11, .ref h12, .ref h13, .int 0, .int 0, .ref h14, .ref h15, .ref h16, .ref h17, .int 0, .int 0, .ref h18, .ref h19, .ref h20, .ref h21])), (h1, .inl (k 1, 9, .inr (.inl (tL [(-1), 0, 0, 0, 1, 0, 0, 0, 0] 0)))), (h2, .inl (k 0, 36, .inl (tI [(-1), 0, 0, 0, 1, 0, 0, 0, 0] 0)))] := hD
  refine lv_aload_n hx hb dX11_comes_45 rfl (lv_at hl 1 rfl) ?_
  refine lv_iconst (v := 0) hx hb dX11_comes_46 (by decide) ?_
  refine va_put (D := D) (ci := 8) (v := .int 0) (ty := .boolean) (C := RX11) (T := TX11) (N := 36) hx hb hU iX11 tyX11 tyX11_ok nmX11 hown hK.1 hP hD hS 0 rfl rfl 9 (by decide) (hU _ w794) (fun _ h9 => h9) rfl (by decide +kernel) rfl rfl (Nat.le_of_ble_eq_true rfl) dX11_comes_47 (fun H locs hP hD hS => ?_)
  have hP : va_P D cl0 [(h0, .inr (8, [.int 2, .int 1, .int 1, .int 0, .int 0, .int 0, .ref h2, .ref h3, .int 0, .int 0, .ref h1, .ref h4, .ref h5, .ref h6, .ref h7, .ref h8, .ref h9, .int 0, .int 0, .int 0, .ref h10, .ref h11, .ref h12, .ref h13, .int 0, .int 0, .ref h14, .ref h15, .ref h16, .ref h17, .int 0, .int 0, .ref h18, .ref h19, .ref h20, .ref h21])), (h1, .inl (k 1, 9, .inr (.inl (tL [(-1), 0, 0, 0, 1, 0, 0, 0, 0] 0)))), (h2, .inl (k 0, 36, .inl (tI [(-1), 0, 0, 0, 1, 0, 0, 0, 0] 0)))] H := hP
  have hD : va_D A [(h0, .inr (8, [.int 2, .int 1, .int 1, .int 0, .int 0, .int 0, .ref h2, .ref h3, .int 0, .int 0, .ref h1, .ref h4, .ref h5, .ref h6, .ref h7, .ref h8, .ref h9, .int 0, .int 0, .int 0, .ref h10, .ref h11, .ref h12, .ref h13, .int 0, .int 0, .ref h14, .ref h15, .ref h16, .ref h17, .int 0, .int 0, .ref h18, .ref h19, .ref h20, .ref h21])), (h1, .inl (k 1, 9, .inr (.inl (tL [(-1), 0, 0, 0, 1, 0, 0, 0, 0] 0)))), (h2, .inl (k 0, 36, .inl (tI [(-1), 0, 0, 0, 1, 0, 0, 0, 0] 0)))] := hD
  refine lv_aload_n hx hb dX11_comes_50 rfl (lv_at hl 1 rfl) ?_
  refine lv_iconst (v := 0) hx hb dX11_comes_51 (by decide) ?_
  refine va_put (D := D) (ci := 8) (v := .int 0) (ty := .int) (C := RX11) (T := TX11) (N := 36) hx hb hU iX11 tyX11 tyX11_ok nmX11 hown hK.1 hP hD hS 0 rfl rfl 30 (by decide) (hU _ w815) (fun _ h9 => h9) rfl (by decide +kernel) rfl rfl (Nat.le_of_ble_eq_true rfl) dX11_comes_52 (fun H locs hP hD hS => ?_)
  have hP : va_P D cl0 [(h0, .inr (8, [.int 2, .int 1, .int 1, .int 0, .int 0, .int 0, .ref h2, .ref h3, .int 0, .int 0, .ref h1, .ref h4, .ref h5, .ref h6, .ref h7, .ref h8, .ref h9, .int 0, .int 0, .int 0, .ref h10, .ref h11, .ref h12, .ref h13, .int 0, .int 0, .ref h14, .ref h15, .ref h16, .ref h17, .int 0, .int 0, .ref h18, .ref h19, .ref h20, .ref h21])), (h1, .inl (k 1, 9, .inr (.inl (tL [(-1), 0, 0, 0, 1, 0, 0, 0, 0] 0)))), (h2, .inl (k 0, 36, .inl (tI [(-1), 0, 0, 0, 1, 0, 0, 0, 0] 0)))] H := hP
  have hD : va_D A [(h0, .inr (8, [.int 2, .int 1, .int 1, .int 0, .int 0, .int 0, .ref h2, .ref h3, .int 0, .int 0, .ref h1, .ref h4, .ref h5, .ref h6, .ref h7, .ref h8, .ref h9, .int 0, .int 0, .int 0, .ref h10, .ref h11, .ref h12, .ref h13, .int 0, .int 0, .ref h14, .ref h15, .ref h16, .ref h17, .int 0, .int 0, .ref h18, .ref h19, .ref h20, .ref h21])), (h1, .inl (k 1, 9, .inr (.inl (tL [(-1), 0, 0, 0, 1, 0, 0, 0, 0] 0)))), (h2, .inl (k 0, 36, .inl (tI [(-1), 0, 0, 0, 1, 0, 0, 0, 0] 0)))] := hD
  refine lv_aload_n hx hb dX11_comes_55 rfl (lv_at hl 1 rfl) ?_
  refine va_get (D := D) (ci := 8) (v := .int 1) (C := RX11) (T := TX11) (N := 36) hx hb hU iX11 hown hK.1 hP 0 rfl rfl 1 (by decide) (hU _ w786) (fun _ h9 => h9) rfl dX11_comes_56 ?_
  refine lv_iconst (v := 1) hx hb dX11_comes_59 (by decide) ?_
  refine lv_isub hx hb dX11_comes_60 (sv_i (v := 0) (by decide +kernel) ?_)
  exact retI (v := 0) hx hb hr hlocks hS (⟨rfl, hP, hD⟩) dX11_comes_61
abbrev BX11_in_6 (D : va_G) (k : Nat → ClassId) (x0 : Int64) (A : Nat → Prop) (r : Int32) (H : Heap) : Prop := (x0 < (-99) ∧ 0 = r ∧ va_P D cl0 [] H ∧ va_D A []) ∨ (¬ (x0 < (-99)) ∧ 99 < x0 ∧ 0 = r ∧ va_P D cl0 [] H ∧ va_D A []) ∨ (¬ (x0 < (-99)) ∧ ¬ (99 < x0) ∧ 1 = r ∧ va_P D cl0 [] H ∧ va_D A [])
set_option maxHeartbeats 4000000 in
set_option maxRecDepth 100000 in
theorem cX11_in_6 (l : Launch) (D : va_G) (k : Nat → ClassId) (sz : Nat) (x0 : Int64) : Met l yX11_in (Cond.code yX11_in cX11_in 6 (some .boolean) :: uw) ({ frames := 0, cells := 0, slots := 0, locals := 0 }) (pC D k sz [.long x0, .long (-99), .long 99] []) (qI (BX11_in_6 D k x0 (va_A [] sz)) (va_A [] sz)) 0 0 (va_A [] sz) := by
  refine begin_ (Qc := fun A => qI (BX11_in_6 D k x0 A) A) (by decide) (Nat.le_of_ble_eq_true rfl) ?_
  intro p e s m below meth c ls A hx hb hr hml hown hlocks hin hU hK hsz hP hD hS hA hl
  have hl : lv_has ls 6 [(0, .long x0), (2, .long (-99)), (4, .long 99)] := hl
  clear hsz
  refine lv_lload_n hx hb dX11_in_0 rfl (lv_at hl 0 rfl) ?_
  refine lv_lload_n hx hb dX11_in_1 rfl (lv_at hl 1 rfl) ?_
  refine W.lcmp hx hb dX11_in_2 ?_
  refine lv_if_lt (tgt := 17) hx hb dX11_in_3 (by decide) (fun c_1 => ?_) (fun c_1 => ?_)
  · skip
    have c_1 := (lg_cmp_lt _ _).mp c_1
    refine lv_iconst (v := 0) hx hb dX11_in_17 (by decide) ?_
    exact retZ (v := 0) hx hb hr hlocks hS (Or.inl ⟨c_1, rfl, hP, hD⟩) dX11_in_18 (by decide +kernel)
  · skip
    have c_1 := fun h9 => c_1 ((lg_cmp_lt _ _).mpr h9)
    refine lv_lload_n hx hb dX11_in_6 rfl (lv_at hl 0 rfl) ?_
    refine lv_lload hx hb dX11_in_7 (lv_at hl 2 rfl) ?_
    refine W.lcmp hx hb dX11_in_9 ?_
    refine lv_if_gt (tgt := 17) hx hb dX11_in_10 (by decide) (fun c_2 => ?_) (fun c_2 => ?_)
    · skip
      have c_2 := (lg_cmp_gt _ _).mp c_2
      refine lv_iconst (v := 0) hx hb dX11_in_17 (by decide) ?_
      exact retZ (v := 0) hx hb hr hlocks hS (Or.inr (Or.inl ⟨c_1, c_2, rfl, hP, hD⟩)) dX11_in_18 (by decide +kernel)
    · skip
      have c_2 := fun h9 => c_2 ((lg_cmp_gt _ _).mpr h9)
      refine lv_iconst (v := 1) hx hb dX11_in_13 (by decide) ?_
      refine lv_goto (tgt := 18) hx hb dX11_in_14 (by decide) ?_
      exact retZ (v := 1) hx hb hr hlocks hS (Or.inr (Or.inr (⟨c_1, c_2, rfl, hP, hD⟩))) dX11_in_18 (by decide +kernel)
abbrev BX11_makesUnit_3 (D : va_G) (k : Nat → ClassId) (h0 h1 h2 h3 h4 h5 h6 h7 h8 h9 h10 h11 h12 h13 h14 h15 h16 h17 h18 h19 h20 h21 : Nat) (x0 : Int32) (A : Nat → Prop) (H : Heap) : Prop := va_P D cl0 [(h0, .inr (8, [.int 2, .int 0, .int 1, .int 0, .int 0, .int 0, .ref h2, .ref h3, .int 0, .int 0, .ref h1, .ref h4, .ref h5, .ref h6, .ref h7, .ref h8, .ref h9, .int 0, .int 0, .int 0, .ref h10, .ref h11, .ref h12, .ref h13, .int 0, .int 0, .ref h14, .ref h15, .ref h16, .ref h17, .int 0, .int 0, .ref h18, .ref h19, .ref h20, .ref h21])), (h1, .inl (k 1, 9, .inr (.inl (tL [1, x0.toInt64, 0, 0, 1, 0, 0, 0, 0] 0))))] H ∧ va_D A [(h0, .inr (8, [.int 2, .int 0, .int 1, .int 0, .int 0, .int 0, .ref h2, .ref h3, .int 0, .int 0, .ref h1, .ref h4, .ref h5, .ref h6, .ref h7, .ref h8, .ref h9, .int 0, .int 0, .int 0, .ref h10, .ref h11, .ref h12, .ref h13, .int 0, .int 0, .ref h14, .ref h15, .ref h16, .ref h17, .int 0, .int 0, .ref h18, .ref h19, .ref h20, .ref h21])), (h1, .inl (k 1, 9, .inr (.inl (tL [1, x0.toInt64, 0, 0, 1, 0, 0, 0, 0] 0))))]
set_option maxHeartbeats 4000000 in
set_option maxRecDepth 100000 in
theorem cX11_makesUnit_3 (l : Launch) (D : va_G) (k : Nat → ClassId) (sz : Nat) (h0 h1 h2 h3 h4 h5 h6 h7 h8 h9 h10 h11 h12 h13 h14 h15 h16 h17 h18 h19 h20 h21 : Nat) (x0 : Int32) : Met l yX11_makesUnit (Cond.code yX11_makesUnit cX11_makesUnit 4 none :: uw) ({ frames := 2, cells := 0, slots := 0, locals := 44 }) (pC D k sz [.ref h0, .int 0, .int 1, .int x0] [(h0, .inr (8, [.int 2, .int 0, .int 1, .int 0, .int 0, .int 0, .ref h2, .ref h3, .int 0, .int 0, .ref h1, .ref h4, .ref h5, .ref h6, .ref h7, .ref h8, .ref h9, .int 0, .int 0, .int 0, .ref h10, .ref h11, .ref h12, .ref h13, .int 0, .int 0, .ref h14, .ref h15, .ref h16, .ref h17, .int 0, .int 0, .ref h18, .ref h19, .ref h20, .ref h21])), (h1, .inl (k 1, 9, .inr (.inl (tL [] 0))))]) (qV (BX11_makesUnit_3 D k h0 h1 h2 h3 h4 h5 h6 h7 h8 h9 h10 h11 h12 h13 h14 h15 h16 h17 h18 h19 h20 h21 x0 (va_A [(h0, .inr (8, [.int 2, .int 0, .int 1, .int 0, .int 0, .int 0, .ref h2, .ref h3, .int 0, .int 0, .ref h1, .ref h4, .ref h5, .ref h6, .ref h7, .ref h8, .ref h9, .int 0, .int 0, .int 0, .ref h10, .ref h11, .ref h12, .ref h13, .int 0, .int 0, .ref h14, .ref h15, .ref h16, .ref h17, .int 0, .int 0, .ref h18, .ref h19, .ref h20, .ref h21])), (h1, .inl (k 1, 9, .inr (.inl (tL [] 0))))] sz)) (va_A [(h0, .inr (8, [.int 2, .int 0, .int 1, .int 0, .int 0, .int 0, .ref h2, .ref h3, .int 0, .int 0, .ref h1, .ref h4, .ref h5, .ref h6, .ref h7, .ref h8, .ref h9, .int 0, .int 0, .int 0, .ref h10, .ref h11, .ref h12, .ref h13, .int 0, .int 0, .ref h14, .ref h15, .ref h16, .ref h17, .int 0, .int 0, .ref h18, .ref h19, .ref h20, .ref h21])), (h1, .inl (k 1, 9, .inr (.inl (tL [] 0))))] sz)) 0 0 (va_A [(h0, .inr (8, [.int 2, .int 0, .int 1, .int 0, .int 0, .int 0, .ref h2, .ref h3, .int 0, .int 0, .ref h1, .ref h4, .ref h5, .ref h6, .ref h7, .ref h8, .ref h9, .int 0, .int 0, .int 0, .ref h10, .ref h11, .ref h12, .ref h13, .int 0, .int 0, .ref h14, .ref h15, .ref h16, .ref h17, .int 0, .int 0, .ref h18, .ref h19, .ref h20, .ref h21])), (h1, .inl (k 1, 9, .inr (.inl (tL [] 0))))] sz) := by
  refine begin_ (Qc := fun A => qV (BX11_makesUnit_3 D k h0 h1 h2 h3 h4 h5 h6 h7 h8 h9 h10 h11 h12 h13 h14 h15 h16 h17 h18 h19 h20 h21 x0 A) A) (by decide) (Nat.le_of_ble_eq_true rfl) ?_
  intro p e s m below meth c ls A hx hb hr hml hown hlocks hin hU hK hsz hP hD hS hA hl
  have hl : lv_has ls 4 [(0, .ref h0), (1, .int 0), (2, .int 1), (3, .int x0)] := hl
  clear hsz
  refine lv_aload_n hx hb dX11_makesUnit_0 rfl (lv_at hl 0 rfl) ?_
  refine lv_aload_n hx hb dX11_makesUnit_1 rfl (lv_at hl 0 rfl) ?_
  refine va_get (D := D) (ci := 8) (v := .ref h1) (C := RX11) (T := TX11) (N := 36) hx hb hU iX11 hown hK.1 hP 0 rfl rfl 10 (by decide) (hU _ w795) (fun _ h9 => h9) rfl dX11_makesUnit_2 ?_
  refine cV (rV (q0 := 0) (ci := 8) (As := [.ref h1]) (rest := []) (wc := [(h1, .inl (k 1, 9, .inr (.inl (tL [] 0)))), (h0, .inr (8, [.int 2, .int 0, .int 1, .int 0, .int 0, .int 0, .ref h2, .ref h3, .int 0, .int 0, .ref h1, .ref h4, .ref h5, .ref h6, .ref h7, .ref h8, .ref h9, .int 0, .int 0, .int 0, .ref h10, .ref h11, .ref h12, .ref h13, .int 0, .int 0, .ref h14, .ref h15, .ref h16, .ref h17, .int 0, .int 0, .ref h18, .ref h19, .ref h20, .ref h21]))]) hx hb hml hown hU hK hP hD rfl rfl [1, 0] rfl (by decide) (cX11_first_1 l D k _ h1 h0 h2 h3 h4 h5 h6 h7 h8 h9 h10 h11 h12 h13 h14 h15 h16 h17 h18 h19 h20 h21) w919 w916 w918 w28 w72 hdX11_first ⟨rfl, rfl⟩ ⟨Nat.le_of_ble_eq_true rfl, Nat.le_of_ble_eq_true rfl⟩ rfl hl.1 (Nat.le_of_ble_eq_true rfl) dX11_makesUnit_5 ⟨Nat.le_of_ble_eq_true rfl, Nat.le_of_ble_eq_true rfl⟩) hP hD hS hA (wr := []) [1, 0] [] rfl rfl (by decide) (by decide) (fun H locs hB J hS => ?_)
  obtain ⟨hP1, hD1⟩ := hB
  obtain ⟨hP, hD⟩ := J _ hP1 hD1
  have hP : va_P D cl0 [(h0, .inr (8, [.int 2, .int 0, .int 1, .int 0, .int 0, .int 0, .ref h2, .ref h3, .int 0, .int 0, .ref h1, .ref h4, .ref h5, .ref h6, .ref h7, .ref h8, .ref h9, .int 0, .int 0, .int 0, .ref h10, .ref h11, .ref h12, .ref h13, .int 0, .int 0, .ref h14, .ref h15, .ref h16, .ref h17, .int 0, .int 0, .ref h18, .ref h19, .ref h20, .ref h21])), (h1, .inl (k 1, 9, .inr (.inl (tL [1, 0, 0, 0, 1, 0, 0, 0, 0] 0))))] H := hP
  have hD : va_D A [(h0, .inr (8, [.int 2, .int 0, .int 1, .int 0, .int 0, .int 0, .ref h2, .ref h3, .int 0, .int 0, .ref h1, .ref h4, .ref h5, .ref h6, .ref h7, .ref h8, .ref h9, .int 0, .int 0, .int 0, .ref h10, .ref h11, .ref h12, .ref h13, .int 0, .int 0, .ref h14, .ref h15, .ref h16, .ref h17, .int 0, .int 0, .ref h18, .ref h19, .ref h20, .ref h21])), (h1, .inl (k 1, 9, .inr (.inl (tL [1, 0, 0, 0, 1, 0, 0, 0, 0] 0))))] := hD
  refine lv_aload_n hx hb dX11_makesUnit_8 rfl (lv_at hl 0 rfl) ?_
  refine va_get (D := D) (ci := 8) (v := .ref h1) (C := RX11) (T := TX11) (N := 36) hx hb hU iX11 hown hK.1 hP 0 rfl rfl 10 (by decide) (hU _ w795) (fun _ h9 => h9) rfl dX11_makesUnit_9 ?_
  refine lv_iconst (v := 3) hx hb dX11_makesUnit_12 (by decide) ?_
  refine lv_iload_n hx hb dX11_makesUnit_13 rfl (lv_at hl 1 rfl) ?_
  refine lv_imul hx hb dX11_makesUnit_14 (sv_i (v := 0) (by decide +kernel) ?_)
  refine lv_iload_n hx hb dX11_makesUnit_15 rfl (lv_at hl 2 rfl) ?_
  refine lv_iadd hx hb dX11_makesUnit_16 (sv_i (v := 1) (by decide +kernel) ?_)
  refine lv_iload_n hx hb dX11_makesUnit_17 rfl (lv_at hl 3 rfl) ?_
  refine lv_i2l (v := x0.toInt64) hx hb dX11_makesUnit_18 rfl ?_
  refine st_l (j := 1) (g := tL [1, x0.toInt64, 0, 0, 1, 0, 0, 0, 0] 0) hx hb hK hP hD hS 1 rfl (by decide +kernel) upd_tL dX11_makesUnit_19 (fun H locs hP hD hS => ?_)
  have hP : va_P D cl0 [(h0, .inr (8, [.int 2, .int 0, .int 1, .int 0, .int 0, .int 0, .ref h2, .ref h3, .int 0, .int 0, .ref h1, .ref h4, .ref h5, .ref h6, .ref h7, .ref h8, .ref h9, .int 0, .int 0, .int 0, .ref h10, .ref h11, .ref h12, .ref h13, .int 0, .int 0, .ref h14, .ref h15, .ref h16, .ref h17, .int 0, .int 0, .ref h18, .ref h19, .ref h20, .ref h21])), (h1, .inl (k 1, 9, .inr (.inl (tL [1, x0.toInt64, 0, 0, 1, 0, 0, 0, 0] 0))))] H := hP
  have hD : va_D A [(h0, .inr (8, [.int 2, .int 0, .int 1, .int 0, .int 0, .int 0, .ref h2, .ref h3, .int 0, .int 0, .ref h1, .ref h4, .ref h5, .ref h6, .ref h7, .ref h8, .ref h9, .int 0, .int 0, .int 0, .ref h10, .ref h11, .ref h12, .ref h13, .int 0, .int 0, .ref h14, .ref h15, .ref h16, .ref h17, .int 0, .int 0, .ref h18, .ref h19, .ref h20, .ref h21])), (h1, .inl (k 1, 9, .inr (.inl (tL [1, x0.toInt64, 0, 0, 1, 0, 0, 0, 0] 0))))] := hD
  exact retV hx hb hr hlocks hS (⟨hP, hD⟩) dX11_makesUnit_20
abbrev BX11_comes_3 (D : va_G) (k : Nat → ClassId) (h0 h1 h2 h3 h4 h5 h6 h7 h8 h9 h10 h11 h12 h13 h14 h15 h16 h17 h18 h19 h20 h21 : Nat) (x0 : Int64) (A : Nat → Prop) (r : Int32) (H : Heap) : Prop := 0 = r ∧ va_P D cl0 [(h0, .inr (8, [.int 2, .int 1, .int 1, .int 0, .int 0, .int 0, .ref h2, .ref h3, .int 0, .int 0, .ref h1, .ref h4, .ref h5, .ref h6, .ref h7, .ref h8, .ref h9, .int 0, .int 0, .int 0, .ref h10, .ref h11, .ref h12, .ref h13, .int 0, .int 0, .ref h14, .ref h15, .ref h16, .ref h17, .int 0, .int 0, .ref h18, .ref h19, .ref h20, .ref h21])), (h1, .inl (k 1, 9, .inr (.inl (tL [1, x0, 0, 0, 1, 0, 0, 0, 0] 0)))), (h2, .inl (k 0, 36, .inl (tI [1, x0.toInt32, 0, 0, 1, 0, 0, 0, 0] 0)))] H ∧ va_D A [(h0, .inr (8, [.int 2, .int 1, .int 1, .int 0, .int 0, .int 0, .ref h2, .ref h3, .int 0, .int 0, .ref h1, .ref h4, .ref h5, .ref h6, .ref h7, .ref h8, .ref h9, .int 0, .int 0, .int 0, .ref h10, .ref h11, .ref h12, .ref h13, .int 0, .int 0, .ref h14, .ref h15, .ref h16, .ref h17, .int 0, .int 0, .ref h18, .ref h19, .ref h20, .ref h21])), (h1, .inl (k 1, 9, .inr (.inl (tL [1, x0, 0, 0, 1, 0, 0, 0, 0] 0)))), (h2, .inl (k 0, 36, .inl (tI [1, x0.toInt32, 0, 0, 1, 0, 0, 0, 0] 0)))]
set_option maxHeartbeats 4000000 in
set_option maxRecDepth 100000 in
theorem cX11_comes_3 (l : Launch) (D : va_G) (k : Nat → ClassId) (sz : Nat) (h0 h1 h2 h3 h4 h5 h6 h7 h8 h9 h10 h11 h12 h13 h14 h15 h16 h17 h18 h19 h20 h21 : Nat) (x0 : Int64) : Met l yX11_comes (Cond.code yX11_comes cX11_comes 2 (some .int) :: uw) ({ frames := 0, cells := 0, slots := 0, locals := 0 }) (pC D k sz [.ref h0] [(h0, .inr (8, [.int 2, .int 0, .int 1, .int 0, .int 0, .int 0, .ref h2, .ref h3, .int 0, .int 0, .ref h1, .ref h4, .ref h5, .ref h6, .ref h7, .ref h8, .ref h9, .int 0, .int 0, .int 0, .ref h10, .ref h11, .ref h12, .ref h13, .int 0, .int 0, .ref h14, .ref h15, .ref h16, .ref h17, .int 0, .int 0, .ref h18, .ref h19, .ref h20, .ref h21])), (h1, .inl (k 1, 9, .inr (.inl (tL [1, x0, 0, 0, 1, 0, 0, 0, 0] 0)))), (h2, .inl (k 0, 36, .inl (tI [] 0)))]) (qI (BX11_comes_3 D k h0 h1 h2 h3 h4 h5 h6 h7 h8 h9 h10 h11 h12 h13 h14 h15 h16 h17 h18 h19 h20 h21 x0 (va_A [(h0, .inr (8, [.int 2, .int 0, .int 1, .int 0, .int 0, .int 0, .ref h2, .ref h3, .int 0, .int 0, .ref h1, .ref h4, .ref h5, .ref h6, .ref h7, .ref h8, .ref h9, .int 0, .int 0, .int 0, .ref h10, .ref h11, .ref h12, .ref h13, .int 0, .int 0, .ref h14, .ref h15, .ref h16, .ref h17, .int 0, .int 0, .ref h18, .ref h19, .ref h20, .ref h21])), (h1, .inl (k 1, 9, .inr (.inl (tL [1, x0, 0, 0, 1, 0, 0, 0, 0] 0)))), (h2, .inl (k 0, 36, .inl (tI [] 0)))] sz)) (va_A [(h0, .inr (8, [.int 2, .int 0, .int 1, .int 0, .int 0, .int 0, .ref h2, .ref h3, .int 0, .int 0, .ref h1, .ref h4, .ref h5, .ref h6, .ref h7, .ref h8, .ref h9, .int 0, .int 0, .int 0, .ref h10, .ref h11, .ref h12, .ref h13, .int 0, .int 0, .ref h14, .ref h15, .ref h16, .ref h17, .int 0, .int 0, .ref h18, .ref h19, .ref h20, .ref h21])), (h1, .inl (k 1, 9, .inr (.inl (tL [1, x0, 0, 0, 1, 0, 0, 0, 0] 0)))), (h2, .inl (k 0, 36, .inl (tI [] 0)))] sz)) 0 0 (va_A [(h0, .inr (8, [.int 2, .int 0, .int 1, .int 0, .int 0, .int 0, .ref h2, .ref h3, .int 0, .int 0, .ref h1, .ref h4, .ref h5, .ref h6, .ref h7, .ref h8, .ref h9, .int 0, .int 0, .int 0, .ref h10, .ref h11, .ref h12, .ref h13, .int 0, .int 0, .ref h14, .ref h15, .ref h16, .ref h17, .int 0, .int 0, .ref h18, .ref h19, .ref h20, .ref h21])), (h1, .inl (k 1, 9, .inr (.inl (tL [1, x0, 0, 0, 1, 0, 0, 0, 0] 0)))), (h2, .inl (k 0, 36, .inl (tI [] 0)))] sz) := by
  refine begin_ (Qc := fun A => qI (BX11_comes_3 D k h0 h1 h2 h3 h4 h5 h6 h7 h8 h9 h10 h11 h12 h13 h14 h15 h16 h17 h18 h19 h20 h21 x0 A) A) (by decide) (Nat.le_of_ble_eq_true rfl) ?_
  intro p e s m below meth c ls A hx hb hr hml hown hlocks hin hU hK hsz hP hD hS hA hl
  have hl : lv_has ls 2 [(0, .ref h0)] := hl
  clear hsz
  refine lv_iconst (v := 0) hx hb dX11_comes_0 (by decide) ?_
  refine lv_istore_n (lv' := [(1, .int 0), (0, .ref h0)]) hx hb dX11_comes_1 rfl hl (by decide) rfl (fun ls hl => ?_)
  refine lv_iload_n hx hb dX11_comes_2 rfl (lv_at hl 0 rfl) ?_
  refine lv_bipush (v := 9) hx hb dX11_comes_3 (by decide) ?_
  refine lv_icmp_ge (tgt := 35) hx hb dX11_comes_5 (by decide) (fun cc => absurd cc (by decide +kernel)) (fun _ => ?_)
  refine lv_aload_n hx hb dX11_comes_8 rfl (lv_at hl 1 rfl) ?_
  refine va_get (D := D) (ci := 8) (v := .ref h2) (C := RX11) (T := TX11) (N := 36) hx hb hU iX11 hown hK.1 hP 0 rfl rfl 6 (by decide) (hU _ w791) (fun _ h9 => h9) rfl dX11_comes_9 ?_
  refine lv_bipush (v := 9) hx hb dX11_comes_12 (by decide) ?_
  refine lv_aload_n hx hb dX11_comes_14 rfl (lv_at hl 1 rfl) ?_
  refine va_get (D := D) (ci := 8) (v := .int 0) (C := RX11) (T := TX11) (N := 36) hx hb hU iX11 hown hK.1 hP 0 rfl rfl 1 (by decide) (hU _ w786) (fun _ h9 => h9) rfl dX11_comes_15 ?_
  refine lv_imul hx hb dX11_comes_18 (sv_i (v := 0) (by decide +kernel) ?_)
  refine lv_iload_n hx hb dX11_comes_19 rfl (lv_at hl 0 rfl) ?_
  refine lv_iadd hx hb dX11_comes_20 (sv_i (v := 0) (by decide +kernel) ?_)
  refine lv_aload_n hx hb dX11_comes_21 rfl (lv_at hl 1 rfl) ?_
  refine va_get (D := D) (ci := 8) (v := .ref h1) (C := RX11) (T := TX11) (N := 36) hx hb hU iX11 hown hK.1 hP 0 rfl rfl 10 (by decide) (hU _ w795) (fun _ h9 => h9) rfl dX11_comes_22 ?_
  refine lv_iload_n hx hb dX11_comes_25 rfl (lv_at hl 0 rfl) ?_
  refine ld_l (j := 0) (v := 1) hx hb hK hP 1 rfl (by decide +kernel) rfl dX11_comes_26 ?_
  refine lv_l2i (v := 1) hx hb dX11_comes_27 (by decide +kernel) ?_
  refine st_i (j := 0) (g := tI [1] 0) hx hb hK hP hD hS 2 rfl (by decide +kernel) upd_tI dX11_comes_28 (fun H locs hP hD hS => ?_)
  have hP : va_P D cl0 [(h0, .inr (8, [.int 2, .int 0, .int 1, .int 0, .int 0, .int 0, .ref h2, .ref h3, .int 0, .int 0, .ref h1, .ref h4, .ref h5, .ref h6, .ref h7, .ref h8, .ref h9, .int 0, .int 0, .int 0, .ref h10, .ref h11, .ref h12, .ref h13, .int 0, .int 0, .ref h14, .ref h15, .ref h16, .ref h17, .int 0, .int 0, .ref h18, .ref h19, .ref h20, .ref h21])), (h1, .inl (k 1, 9, .inr (.inl (tL [1, x0, 0, 0, 1, 0, 0, 0, 0] 0)))), (h2, .inl (k 0, 36, .inl (tI [1] 0)))] H := hP
  have hD : va_D A [(h0, .inr (8, [.int 2, .int 0, .int 1, .int 0, .int 0, .int 0, .ref h2, .ref h3, .int 0, .int 0, .ref h1, .ref h4, .ref h5, .ref h6, .ref h7, .ref h8, .ref h9, .int 0, .int 0, .int 0, .ref h10, .ref h11, .ref h12, .ref h13, .int 0, .int 0, .ref h14, .ref h15, .ref h16, .ref h17, .int 0, .int 0, .ref h18, .ref h19, .ref h20, .ref h21])), (h1, .inl (k 1, 9, .inr (.inl (tL [1, x0, 0, 0, 1, 0, 0, 0, 0] 0)))), (h2, .inl (k 0, 36, .inl (tI [1] 0)))] := hD
  refine lv_iinc (v := 1) (lv' := [(1, .int 1), (0, .ref h0)]) hx hb dX11_comes_29 hl (k := 0) rfl (by decide) (by decide) rfl (fun ls hl => ?_)
  refine lv_goto (tgt := 2) hx hb dX11_comes_32 (by decide) ?_
  refine lv_iload_n hx hb dX11_comes_2 rfl (lv_at hl 0 rfl) ?_
  refine lv_bipush (v := 9) hx hb dX11_comes_3 (by decide) ?_
  refine lv_icmp_ge (tgt := 35) hx hb dX11_comes_5 (by decide) (fun cc => absurd cc (by decide +kernel)) (fun _ => ?_)
  refine lv_aload_n hx hb dX11_comes_8 rfl (lv_at hl 1 rfl) ?_
  refine va_get (D := D) (ci := 8) (v := .ref h2) (C := RX11) (T := TX11) (N := 36) hx hb hU iX11 hown hK.1 hP 0 rfl rfl 6 (by decide) (hU _ w791) (fun _ h9 => h9) rfl dX11_comes_9 ?_
  refine lv_bipush (v := 9) hx hb dX11_comes_12 (by decide) ?_
  refine lv_aload_n hx hb dX11_comes_14 rfl (lv_at hl 1 rfl) ?_
  refine va_get (D := D) (ci := 8) (v := .int 0) (C := RX11) (T := TX11) (N := 36) hx hb hU iX11 hown hK.1 hP 0 rfl rfl 1 (by decide) (hU _ w786) (fun _ h9 => h9) rfl dX11_comes_15 ?_
  refine lv_imul hx hb dX11_comes_18 (sv_i (v := 0) (by decide +kernel) ?_)
  refine lv_iload_n hx hb dX11_comes_19 rfl (lv_at hl 0 rfl) ?_
  refine lv_iadd hx hb dX11_comes_20 (sv_i (v := 1) (by decide +kernel) ?_)
  refine lv_aload_n hx hb dX11_comes_21 rfl (lv_at hl 1 rfl) ?_
  refine va_get (D := D) (ci := 8) (v := .ref h1) (C := RX11) (T := TX11) (N := 36) hx hb hU iX11 hown hK.1 hP 0 rfl rfl 10 (by decide) (hU _ w795) (fun _ h9 => h9) rfl dX11_comes_22 ?_
  refine lv_iload_n hx hb dX11_comes_25 rfl (lv_at hl 0 rfl) ?_
  refine ld_l (j := 1) (v := x0) hx hb hK hP 1 rfl (by decide +kernel) rfl dX11_comes_26 ?_
  refine lv_l2i (v := x0.toInt32) hx hb dX11_comes_27 rfl ?_
  refine st_i (j := 1) (g := tI [1, x0.toInt32] 0) hx hb hK hP hD hS 2 rfl (by decide +kernel) upd_tI dX11_comes_28 (fun H locs hP hD hS => ?_)
  have hP : va_P D cl0 [(h0, .inr (8, [.int 2, .int 0, .int 1, .int 0, .int 0, .int 0, .ref h2, .ref h3, .int 0, .int 0, .ref h1, .ref h4, .ref h5, .ref h6, .ref h7, .ref h8, .ref h9, .int 0, .int 0, .int 0, .ref h10, .ref h11, .ref h12, .ref h13, .int 0, .int 0, .ref h14, .ref h15, .ref h16, .ref h17, .int 0, .int 0, .ref h18, .ref h19, .ref h20, .ref h21])), (h1, .inl (k 1, 9, .inr (.inl (tL [1, x0, 0, 0, 1, 0, 0, 0, 0] 0)))), (h2, .inl (k 0, 36, .inl (tI [1, x0.toInt32] 0)))] H := hP
  have hD : va_D A [(h0, .inr (8, [.int 2, .int 0, .int 1, .int 0, .int 0, .int 0, .ref h2, .ref h3, .int 0, .int 0, .ref h1, .ref h4, .ref h5, .ref h6, .ref h7, .ref h8, .ref h9, .int 0, .int 0, .int 0, .ref h10, .ref h11, .ref h12, .ref h13, .int 0, .int 0, .ref h14, .ref h15, .ref h16, .ref h17, .int 0, .int 0, .ref h18, .ref h19, .ref h20, .ref h21])), (h1, .inl (k 1, 9, .inr (.inl (tL [1, x0, 0, 0, 1, 0, 0, 0, 0] 0)))), (h2, .inl (k 0, 36, .inl (tI [1, x0.toInt32] 0)))] := hD
  refine lv_iinc (v := 2) (lv' := [(1, .int 2), (0, .ref h0)]) hx hb dX11_comes_29 hl (k := 0) rfl (by decide) (by decide) rfl (fun ls hl => ?_)
  refine lv_goto (tgt := 2) hx hb dX11_comes_32 (by decide) ?_
  refine lv_iload_n hx hb dX11_comes_2 rfl (lv_at hl 0 rfl) ?_
  refine lv_bipush (v := 9) hx hb dX11_comes_3 (by decide) ?_
  refine lv_icmp_ge (tgt := 35) hx hb dX11_comes_5 (by decide) (fun cc => absurd cc (by decide +kernel)) (fun _ => ?_)
  refine lv_aload_n hx hb dX11_comes_8 rfl (lv_at hl 1 rfl) ?_
  refine va_get (D := D) (ci := 8) (v := .ref h2) (C := RX11) (T := TX11) (N := 36) hx hb hU iX11 hown hK.1 hP 0 rfl rfl 6 (by decide) (hU _ w791) (fun _ h9 => h9) rfl dX11_comes_9 ?_
  refine lv_bipush (v := 9) hx hb dX11_comes_12 (by decide) ?_
  refine lv_aload_n hx hb dX11_comes_14 rfl (lv_at hl 1 rfl) ?_
  refine va_get (D := D) (ci := 8) (v := .int 0) (C := RX11) (T := TX11) (N := 36) hx hb hU iX11 hown hK.1 hP 0 rfl rfl 1 (by decide) (hU _ w786) (fun _ h9 => h9) rfl dX11_comes_15 ?_
  refine lv_imul hx hb dX11_comes_18 (sv_i (v := 0) (by decide +kernel) ?_)
  refine lv_iload_n hx hb dX11_comes_19 rfl (lv_at hl 0 rfl) ?_
  refine lv_iadd hx hb dX11_comes_20 (sv_i (v := 2) (by decide +kernel) ?_)
  refine lv_aload_n hx hb dX11_comes_21 rfl (lv_at hl 1 rfl) ?_
  refine va_get (D := D) (ci := 8) (v := .ref h1) (C := RX11) (T := TX11) (N := 36) hx hb hU iX11 hown hK.1 hP 0 rfl rfl 10 (by decide) (hU _ w795) (fun _ h9 => h9) rfl dX11_comes_22 ?_
  refine lv_iload_n hx hb dX11_comes_25 rfl (lv_at hl 0 rfl) ?_
  refine ld_l (j := 2) (v := 0) hx hb hK hP 1 rfl (by decide +kernel) rfl dX11_comes_26 ?_
  refine lv_l2i (v := 0) hx hb dX11_comes_27 (by decide +kernel) ?_
  refine st_i (j := 2) (g := tI [1, x0.toInt32, 0] 0) hx hb hK hP hD hS 2 rfl (by decide +kernel) upd_tI dX11_comes_28 (fun H locs hP hD hS => ?_)
  have hP : va_P D cl0 [(h0, .inr (8, [.int 2, .int 0, .int 1, .int 0, .int 0, .int 0, .ref h2, .ref h3, .int 0, .int 0, .ref h1, .ref h4, .ref h5, .ref h6, .ref h7, .ref h8, .ref h9, .int 0, .int 0, .int 0, .ref h10, .ref h11, .ref h12, .ref h13, .int 0, .int 0, .ref h14, .ref h15, .ref h16, .ref h17, .int 0, .int 0, .ref h18, .ref h19, .ref h20, .ref h21])), (h1, .inl (k 1, 9, .inr (.inl (tL [1, x0, 0, 0, 1, 0, 0, 0, 0] 0)))), (h2, .inl (k 0, 36, .inl (tI [1, x0.toInt32, 0] 0)))] H := hP
  have hD : va_D A [(h0, .inr (8, [.int 2, .int 0, .int 1, .int 0, .int 0, .int 0, .ref h2, .ref h3, .int 0, .int 0, .ref h1, .ref h4, .ref h5, .ref h6, .ref h7, .ref h8, .ref h9, .int 0, .int 0, .int 0, .ref h10, .ref h11, .ref h12, .ref h13, .int 0, .int 0, .ref h14, .ref h15, .ref h16, .ref h17, .int 0, .int 0, .ref h18, .ref h19, .ref h20, .ref h21])), (h1, .inl (k 1, 9, .inr (.inl (tL [1, x0, 0, 0, 1, 0, 0, 0, 0] 0)))), (h2, .inl (k 0, 36, .inl (tI [1, x0.toInt32, 0] 0)))] := hD
  refine lv_iinc (v := 3) (lv' := [(1, .int 3), (0, .ref h0)]) hx hb dX11_comes_29 hl (k := 0) rfl (by decide) (by decide) rfl (fun ls hl => ?_)
  refine lv_goto (tgt := 2) hx hb dX11_comes_32 (by decide) ?_
  refine lv_iload_n hx hb dX11_comes_2 rfl (lv_at hl 0 rfl) ?_
  refine lv_bipush (v := 9) hx hb dX11_comes_3 (by decide) ?_
  refine lv_icmp_ge (tgt := 35) hx hb dX11_comes_5 (by decide) (fun cc => absurd cc (by decide +kernel)) (fun _ => ?_)
  refine lv_aload_n hx hb dX11_comes_8 rfl (lv_at hl 1 rfl) ?_
  refine va_get (D := D) (ci := 8) (v := .ref h2) (C := RX11) (T := TX11) (N := 36) hx hb hU iX11 hown hK.1 hP 0 rfl rfl 6 (by decide) (hU _ w791) (fun _ h9 => h9) rfl dX11_comes_9 ?_
  refine lv_bipush (v := 9) hx hb dX11_comes_12 (by decide) ?_
  refine lv_aload_n hx hb dX11_comes_14 rfl (lv_at hl 1 rfl) ?_
  refine va_get (D := D) (ci := 8) (v := .int 0) (C := RX11) (T := TX11) (N := 36) hx hb hU iX11 hown hK.1 hP 0 rfl rfl 1 (by decide) (hU _ w786) (fun _ h9 => h9) rfl dX11_comes_15 ?_
  refine lv_imul hx hb dX11_comes_18 (sv_i (v := 0) (by decide +kernel) ?_)
  refine lv_iload_n hx hb dX11_comes_19 rfl (lv_at hl 0 rfl) ?_
  refine lv_iadd hx hb dX11_comes_20 (sv_i (v := 3) (by decide +kernel) ?_)
  refine lv_aload_n hx hb dX11_comes_21 rfl (lv_at hl 1 rfl) ?_
  refine va_get (D := D) (ci := 8) (v := .ref h1) (C := RX11) (T := TX11) (N := 36) hx hb hU iX11 hown hK.1 hP 0 rfl rfl 10 (by decide) (hU _ w795) (fun _ h9 => h9) rfl dX11_comes_22 ?_
  refine lv_iload_n hx hb dX11_comes_25 rfl (lv_at hl 0 rfl) ?_
  refine ld_l (j := 3) (v := 0) hx hb hK hP 1 rfl (by decide +kernel) rfl dX11_comes_26 ?_
  refine lv_l2i (v := 0) hx hb dX11_comes_27 (by decide +kernel) ?_
  refine st_i (j := 3) (g := tI [1, x0.toInt32, 0, 0] 0) hx hb hK hP hD hS 2 rfl (by decide +kernel) upd_tI dX11_comes_28 (fun H locs hP hD hS => ?_)
  have hP : va_P D cl0 [(h0, .inr (8, [.int 2, .int 0, .int 1, .int 0, .int 0, .int 0, .ref h2, .ref h3, .int 0, .int 0, .ref h1, .ref h4, .ref h5, .ref h6, .ref h7, .ref h8, .ref h9, .int 0, .int 0, .int 0, .ref h10, .ref h11, .ref h12, .ref h13, .int 0, .int 0, .ref h14, .ref h15, .ref h16, .ref h17, .int 0, .int 0, .ref h18, .ref h19, .ref h20, .ref h21])), (h1, .inl (k 1, 9, .inr (.inl (tL [1, x0, 0, 0, 1, 0, 0, 0, 0] 0)))), (h2, .inl (k 0, 36, .inl (tI [1, x0.toInt32, 0, 0] 0)))] H := hP
  have hD : va_D A [(h0, .inr (8, [.int 2, .int 0, .int 1, .int 0, .int 0, .int 0, .ref h2, .ref h3, .int 0, .int 0, .ref h1, .ref h4, .ref h5, .ref h6, .ref h7, .ref h8, .ref h9, .int 0, .int 0, .int 0, .ref h10, .ref h11, .ref h12, .ref h13, .int 0, .int 0, .ref h14, .ref h15, .ref h16, .ref h17, .int 0, .int 0, .ref h18, .ref h19, .ref h20, .ref h21])), (h1, .inl (k 1, 9, .inr (.inl (tL [1, x0, 0, 0, 1, 0, 0, 0, 0] 0)))), (h2, .inl (k 0, 36, .inl (tI [1, x0.toInt32, 0, 0] 0)))] := hD
  refine lv_iinc (v := 4) (lv' := [(1, .int 4), (0, .ref h0)]) hx hb dX11_comes_29 hl (k := 0) rfl (by decide) (by decide) rfl (fun ls hl => ?_)
  refine lv_goto (tgt := 2) hx hb dX11_comes_32 (by decide) ?_
  refine lv_iload_n hx hb dX11_comes_2 rfl (lv_at hl 0 rfl) ?_
  refine lv_bipush (v := 9) hx hb dX11_comes_3 (by decide) ?_
  refine lv_icmp_ge (tgt := 35) hx hb dX11_comes_5 (by decide) (fun cc => absurd cc (by decide +kernel)) (fun _ => ?_)
  refine lv_aload_n hx hb dX11_comes_8 rfl (lv_at hl 1 rfl) ?_
  refine va_get (D := D) (ci := 8) (v := .ref h2) (C := RX11) (T := TX11) (N := 36) hx hb hU iX11 hown hK.1 hP 0 rfl rfl 6 (by decide) (hU _ w791) (fun _ h9 => h9) rfl dX11_comes_9 ?_
  refine lv_bipush (v := 9) hx hb dX11_comes_12 (by decide) ?_
  refine lv_aload_n hx hb dX11_comes_14 rfl (lv_at hl 1 rfl) ?_
  refine va_get (D := D) (ci := 8) (v := .int 0) (C := RX11) (T := TX11) (N := 36) hx hb hU iX11 hown hK.1 hP 0 rfl rfl 1 (by decide) (hU _ w786) (fun _ h9 => h9) rfl dX11_comes_15 ?_
  refine lv_imul hx hb dX11_comes_18 (sv_i (v := 0) (by decide +kernel) ?_)
  refine lv_iload_n hx hb dX11_comes_19 rfl (lv_at hl 0 rfl) ?_
  refine lv_iadd hx hb dX11_comes_20 (sv_i (v := 4) (by decide +kernel) ?_)
  refine lv_aload_n hx hb dX11_comes_21 rfl (lv_at hl 1 rfl) ?_
  refine va_get (D := D) (ci := 8) (v := .ref h1) (C := RX11) (T := TX11) (N := 36) hx hb hU iX11 hown hK.1 hP 0 rfl rfl 10 (by decide) (hU _ w795) (fun _ h9 => h9) rfl dX11_comes_22 ?_
  refine lv_iload_n hx hb dX11_comes_25 rfl (lv_at hl 0 rfl) ?_
  refine ld_l (j := 4) (v := 1) hx hb hK hP 1 rfl (by decide +kernel) rfl dX11_comes_26 ?_
  refine lv_l2i (v := 1) hx hb dX11_comes_27 (by decide +kernel) ?_
  refine st_i (j := 4) (g := tI [1, x0.toInt32, 0, 0, 1] 0) hx hb hK hP hD hS 2 rfl (by decide +kernel) upd_tI dX11_comes_28 (fun H locs hP hD hS => ?_)
  have hP : va_P D cl0 [(h0, .inr (8, [.int 2, .int 0, .int 1, .int 0, .int 0, .int 0, .ref h2, .ref h3, .int 0, .int 0, .ref h1, .ref h4, .ref h5, .ref h6, .ref h7, .ref h8, .ref h9, .int 0, .int 0, .int 0, .ref h10, .ref h11, .ref h12, .ref h13, .int 0, .int 0, .ref h14, .ref h15, .ref h16, .ref h17, .int 0, .int 0, .ref h18, .ref h19, .ref h20, .ref h21])), (h1, .inl (k 1, 9, .inr (.inl (tL [1, x0, 0, 0, 1, 0, 0, 0, 0] 0)))), (h2, .inl (k 0, 36, .inl (tI [1, x0.toInt32, 0, 0, 1] 0)))] H := hP
  have hD : va_D A [(h0, .inr (8, [.int 2, .int 0, .int 1, .int 0, .int 0, .int 0, .ref h2, .ref h3, .int 0, .int 0, .ref h1, .ref h4, .ref h5, .ref h6, .ref h7, .ref h8, .ref h9, .int 0, .int 0, .int 0, .ref h10, .ref h11, .ref h12, .ref h13, .int 0, .int 0, .ref h14, .ref h15, .ref h16, .ref h17, .int 0, .int 0, .ref h18, .ref h19, .ref h20, .ref h21])), (h1, .inl (k 1, 9, .inr (.inl (tL [1, x0, 0, 0, 1, 0, 0, 0, 0] 0)))), (h2, .inl (k 0, 36, .inl (tI [1, x0.toInt32, 0, 0, 1] 0)))] := hD
  refine lv_iinc (v := 5) (lv' := [(1, .int 5), (0, .ref h0)]) hx hb dX11_comes_29 hl (k := 0) rfl (by decide) (by decide) rfl (fun ls hl => ?_)
  refine lv_goto (tgt := 2) hx hb dX11_comes_32 (by decide) ?_
  refine lv_iload_n hx hb dX11_comes_2 rfl (lv_at hl 0 rfl) ?_
  refine lv_bipush (v := 9) hx hb dX11_comes_3 (by decide) ?_
  refine lv_icmp_ge (tgt := 35) hx hb dX11_comes_5 (by decide) (fun cc => absurd cc (by decide +kernel)) (fun _ => ?_)
  refine lv_aload_n hx hb dX11_comes_8 rfl (lv_at hl 1 rfl) ?_
  refine va_get (D := D) (ci := 8) (v := .ref h2) (C := RX11) (T := TX11) (N := 36) hx hb hU iX11 hown hK.1 hP 0 rfl rfl 6 (by decide) (hU _ w791) (fun _ h9 => h9) rfl dX11_comes_9 ?_
  refine lv_bipush (v := 9) hx hb dX11_comes_12 (by decide) ?_
  refine lv_aload_n hx hb dX11_comes_14 rfl (lv_at hl 1 rfl) ?_
  refine va_get (D := D) (ci := 8) (v := .int 0) (C := RX11) (T := TX11) (N := 36) hx hb hU iX11 hown hK.1 hP 0 rfl rfl 1 (by decide) (hU _ w786) (fun _ h9 => h9) rfl dX11_comes_15 ?_
  refine lv_imul hx hb dX11_comes_18 (sv_i (v := 0) (by decide +kernel) ?_)
  refine lv_iload_n hx hb dX11_comes_19 rfl (lv_at hl 0 rfl) ?_
  refine lv_iadd hx hb dX11_comes_20 (sv_i (v := 5) (by decide +kernel) ?_)
  refine lv_aload_n hx hb dX11_comes_21 rfl (lv_at hl 1 rfl) ?_
  refine va_get (D := D) (ci := 8) (v := .ref h1) (C := RX11) (T := TX11) (N := 36) hx hb hU iX11 hown hK.1 hP 0 rfl rfl 10 (by decide) (hU _ w795) (fun _ h9 => h9) rfl dX11_comes_22 ?_
  refine lv_iload_n hx hb dX11_comes_25 rfl (lv_at hl 0 rfl) ?_
  refine ld_l (j := 5) (v := 0) hx hb hK hP 1 rfl (by decide +kernel) rfl dX11_comes_26 ?_
  refine lv_l2i (v := 0) hx hb dX11_comes_27 (by decide +kernel) ?_
  refine st_i (j := 5) (g := tI [1, x0.toInt32, 0, 0, 1, 0] 0) hx hb hK hP hD hS 2 rfl (by decide +kernel) upd_tI dX11_comes_28 (fun H locs hP hD hS => ?_)
  have hP : va_P D cl0 [(h0, .inr (8, [.int 2, .int 0, .int 1, .int 0, .int 0, .int 0, .ref h2, .ref h3, .int 0, .int 0, .ref h1, .ref h4, .ref h5, .ref h6, .ref h7, .ref h8, .ref h9, .int 0, .int 0, .int 0, .ref h10, .ref h11, .ref h12, .ref h13, .int 0, .int 0, .ref h14, .ref h15, .ref h16, .ref h17, .int 0, .int 0, .ref h18, .ref h19, .ref h20, .ref h21])), (h1, .inl (k 1, 9, .inr (.inl (tL [1, x0, 0, 0, 1, 0, 0, 0, 0] 0)))), (h2, .inl (k 0, 36, .inl (tI [1, x0.toInt32, 0, 0, 1, 0] 0)))] H := hP
  have hD : va_D A [(h0, .inr (8, [.int 2, .int 0, .int 1, .int 0, .int 0, .int 0, .ref h2, .ref h3, .int 0, .int 0, .ref h1, .ref h4, .ref h5, .ref h6, .ref h7, .ref h8, .ref h9, .int 0, .int 0, .int 0, .ref h10, .ref h11, .ref h12, .ref h13, .int 0, .int 0, .ref h14, .ref h15, .ref h16, .ref h17, .int 0, .int 0, .ref h18, .ref h19, .ref h20, .ref h21])), (h1, .inl (k 1, 9, .inr (.inl (tL [1, x0, 0, 0, 1, 0, 0, 0, 0] 0)))), (h2, .inl (k 0, 36, .inl (tI [1, x0.toInt32, 0, 0, 1, 0] 0)))] := hD
  refine lv_iinc (v := 6) (lv' := [(1, .int 6), (0, .ref h0)]) hx hb dX11_comes_29 hl (k := 0) rfl (by decide) (by decide) rfl (fun ls hl => ?_)
  refine lv_goto (tgt := 2) hx hb dX11_comes_32 (by decide) ?_
  refine lv_iload_n hx hb dX11_comes_2 rfl (lv_at hl 0 rfl) ?_
  refine lv_bipush (v := 9) hx hb dX11_comes_3 (by decide) ?_
  refine lv_icmp_ge (tgt := 35) hx hb dX11_comes_5 (by decide) (fun cc => absurd cc (by decide +kernel)) (fun _ => ?_)
  refine lv_aload_n hx hb dX11_comes_8 rfl (lv_at hl 1 rfl) ?_
  refine va_get (D := D) (ci := 8) (v := .ref h2) (C := RX11) (T := TX11) (N := 36) hx hb hU iX11 hown hK.1 hP 0 rfl rfl 6 (by decide) (hU _ w791) (fun _ h9 => h9) rfl dX11_comes_9 ?_
  refine lv_bipush (v := 9) hx hb dX11_comes_12 (by decide) ?_
  refine lv_aload_n hx hb dX11_comes_14 rfl (lv_at hl 1 rfl) ?_
  refine va_get (D := D) (ci := 8) (v := .int 0) (C := RX11) (T := TX11) (N := 36) hx hb hU iX11 hown hK.1 hP 0 rfl rfl 1 (by decide) (hU _ w786) (fun _ h9 => h9) rfl dX11_comes_15 ?_
  refine lv_imul hx hb dX11_comes_18 (sv_i (v := 0) (by decide +kernel) ?_)
  refine lv_iload_n hx hb dX11_comes_19 rfl (lv_at hl 0 rfl) ?_
  refine lv_iadd hx hb dX11_comes_20 (sv_i (v := 6) (by decide +kernel) ?_)
  refine lv_aload_n hx hb dX11_comes_21 rfl (lv_at hl 1 rfl) ?_
  refine va_get (D := D) (ci := 8) (v := .ref h1) (C := RX11) (T := TX11) (N := 36) hx hb hU iX11 hown hK.1 hP 0 rfl rfl 10 (by decide) (hU _ w795) (fun _ h9 => h9) rfl dX11_comes_22 ?_
  refine lv_iload_n hx hb dX11_comes_25 rfl (lv_at hl 0 rfl) ?_
  refine ld_l (j := 6) (v := 0) hx hb hK hP 1 rfl (by decide +kernel) rfl dX11_comes_26 ?_
  refine lv_l2i (v := 0) hx hb dX11_comes_27 (by decide +kernel) ?_
  refine st_i (j := 6) (g := tI [1, x0.toInt32, 0, 0, 1, 0, 0] 0) hx hb hK hP hD hS 2 rfl (by decide +kernel) upd_tI dX11_comes_28 (fun H locs hP hD hS => ?_)
  have hP : va_P D cl0 [(h0, .inr (8, [.int 2, .int 0, .int 1, .int 0, .int 0, .int 0, .ref h2, .ref h3, .int 0, .int 0, .ref h1, .ref h4, .ref h5, .ref h6, .ref h7, .ref h8, .ref h9, .int 0, .int 0, .int 0, .ref h10, .ref h11, .ref h12, .ref h13, .int 0, .int 0, .ref h14, .ref h15, .ref h16, .ref h17, .int 0, .int 0, .ref h18, .ref h19, .ref h20, .ref h21])), (h1, .inl (k 1, 9, .inr (.inl (tL [1, x0, 0, 0, 1, 0, 0, 0, 0] 0)))), (h2, .inl (k 0, 36, .inl (tI [1, x0.toInt32, 0, 0, 1, 0, 0] 0)))] H := hP
  have hD : va_D A [(h0, .inr (8, [.int 2, .int 0, .int 1, .int 0, .int 0, .int 0, .ref h2, .ref h3, .int 0, .int 0, .ref h1, .ref h4, .ref h5, .ref h6, .ref h7, .ref h8, .ref h9, .int 0, .int 0, .int 0, .ref h10, .ref h11, .ref h12, .ref h13, .int 0, .int 0, .ref h14, .ref h15, .ref h16, .ref h17, .int 0, .int 0, .ref h18, .ref h19, .ref h20, .ref h21])), (h1, .inl (k 1, 9, .inr (.inl (tL [1, x0, 0, 0, 1, 0, 0, 0, 0] 0)))), (h2, .inl (k 0, 36, .inl (tI [1, x0.toInt32, 0, 0, 1, 0, 0] 0)))] := hD
  refine lv_iinc (v := 7) (lv' := [(1, .int 7), (0, .ref h0)]) hx hb dX11_comes_29 hl (k := 0) rfl (by decide) (by decide) rfl (fun ls hl => ?_)
  refine lv_goto (tgt := 2) hx hb dX11_comes_32 (by decide) ?_
  refine lv_iload_n hx hb dX11_comes_2 rfl (lv_at hl 0 rfl) ?_
  refine lv_bipush (v := 9) hx hb dX11_comes_3 (by decide) ?_
  refine lv_icmp_ge (tgt := 35) hx hb dX11_comes_5 (by decide) (fun cc => absurd cc (by decide +kernel)) (fun _ => ?_)
  refine lv_aload_n hx hb dX11_comes_8 rfl (lv_at hl 1 rfl) ?_
  refine va_get (D := D) (ci := 8) (v := .ref h2) (C := RX11) (T := TX11) (N := 36) hx hb hU iX11 hown hK.1 hP 0 rfl rfl 6 (by decide) (hU _ w791) (fun _ h9 => h9) rfl dX11_comes_9 ?_
  refine lv_bipush (v := 9) hx hb dX11_comes_12 (by decide) ?_
  refine lv_aload_n hx hb dX11_comes_14 rfl (lv_at hl 1 rfl) ?_
  refine va_get (D := D) (ci := 8) (v := .int 0) (C := RX11) (T := TX11) (N := 36) hx hb hU iX11 hown hK.1 hP 0 rfl rfl 1 (by decide) (hU _ w786) (fun _ h9 => h9) rfl dX11_comes_15 ?_
  refine lv_imul hx hb dX11_comes_18 (sv_i (v := 0) (by decide +kernel) ?_)
  refine lv_iload_n hx hb dX11_comes_19 rfl (lv_at hl 0 rfl) ?_
  refine lv_iadd hx hb dX11_comes_20 (sv_i (v := 7) (by decide +kernel) ?_)
  refine lv_aload_n hx hb dX11_comes_21 rfl (lv_at hl 1 rfl) ?_
  refine va_get (D := D) (ci := 8) (v := .ref h1) (C := RX11) (T := TX11) (N := 36) hx hb hU iX11 hown hK.1 hP 0 rfl rfl 10 (by decide) (hU _ w795) (fun _ h9 => h9) rfl dX11_comes_22 ?_
  refine lv_iload_n hx hb dX11_comes_25 rfl (lv_at hl 0 rfl) ?_
  refine ld_l (j := 7) (v := 0) hx hb hK hP 1 rfl (by decide +kernel) rfl dX11_comes_26 ?_
  refine lv_l2i (v := 0) hx hb dX11_comes_27 (by decide +kernel) ?_
  refine st_i (j := 7) (g := tI [1, x0.toInt32, 0, 0, 1, 0, 0, 0] 0) hx hb hK hP hD hS 2 rfl (by decide +kernel) upd_tI dX11_comes_28 (fun H locs hP hD hS => ?_)
  have hP : va_P D cl0 [(h0, .inr (8, [.int 2, .int 0, .int 1, .int 0, .int 0, .int 0, .ref h2, .ref h3, .int 0, .int 0, .ref h1, .ref h4, .ref h5, .ref h6, .ref h7, .ref h8, .ref h9, .int 0, .int 0, .int 0, .ref h10, .ref h11, .ref h12, .ref h13, .int 0, .int 0, .ref h14, .ref h15, .ref h16, .ref h17, .int 0, .int 0, .ref h18, .ref h19, .ref h20, .ref h21])), (h1, .inl (k 1, 9, .inr (.inl (tL [1, x0, 0, 0, 1, 0, 0, 0, 0] 0)))), (h2, .inl (k 0, 36, .inl (tI [1, x0.toInt32, 0, 0, 1, 0, 0, 0] 0)))] H := hP
  have hD : va_D A [(h0, .inr (8, [.int 2, .int 0, .int 1, .int 0, .int 0, .int 0, .ref h2, .ref h3, .int 0, .int 0, .ref h1, .ref h4, .ref h5, .ref h6, .ref h7, .ref h8, .ref h9, .int 0, .int 0, .int 0, .ref h10, .ref h11, .ref h12, .ref h13, .int 0, .int 0, .ref h14, .ref h15, .ref h16, .ref h17, .int 0, .int 0, .ref h18, .ref h19, .ref h20, .ref h21])), (h1, .inl (k 1, 9, .inr (.inl (tL [1, x0, 0, 0, 1, 0, 0, 0, 0] 0)))), (h2, .inl (k 0, 36, .inl (tI [1, x0.toInt32, 0, 0, 1, 0, 0, 0] 0)))] := hD
  refine lv_iinc (v := 8) (lv' := [(1, .int 8), (0, .ref h0)]) hx hb dX11_comes_29 hl (k := 0) rfl (by decide) (by decide) rfl (fun ls hl => ?_)
  refine lv_goto (tgt := 2) hx hb dX11_comes_32 (by decide) ?_
  refine lv_iload_n hx hb dX11_comes_2 rfl (lv_at hl 0 rfl) ?_
  refine lv_bipush (v := 9) hx hb dX11_comes_3 (by decide) ?_
  refine lv_icmp_ge (tgt := 35) hx hb dX11_comes_5 (by decide) (fun cc => absurd cc (by decide +kernel)) (fun _ => ?_)
  refine lv_aload_n hx hb dX11_comes_8 rfl (lv_at hl 1 rfl) ?_
  refine va_get (D := D) (ci := 8) (v := .ref h2) (C := RX11) (T := TX11) (N := 36) hx hb hU iX11 hown hK.1 hP 0 rfl rfl 6 (by decide) (hU _ w791) (fun _ h9 => h9) rfl dX11_comes_9 ?_
  refine lv_bipush (v := 9) hx hb dX11_comes_12 (by decide) ?_
  refine lv_aload_n hx hb dX11_comes_14 rfl (lv_at hl 1 rfl) ?_
  refine va_get (D := D) (ci := 8) (v := .int 0) (C := RX11) (T := TX11) (N := 36) hx hb hU iX11 hown hK.1 hP 0 rfl rfl 1 (by decide) (hU _ w786) (fun _ h9 => h9) rfl dX11_comes_15 ?_
  refine lv_imul hx hb dX11_comes_18 (sv_i (v := 0) (by decide +kernel) ?_)
  refine lv_iload_n hx hb dX11_comes_19 rfl (lv_at hl 0 rfl) ?_
  refine lv_iadd hx hb dX11_comes_20 (sv_i (v := 8) (by decide +kernel) ?_)
  refine lv_aload_n hx hb dX11_comes_21 rfl (lv_at hl 1 rfl) ?_
  refine va_get (D := D) (ci := 8) (v := .ref h1) (C := RX11) (T := TX11) (N := 36) hx hb hU iX11 hown hK.1 hP 0 rfl rfl 10 (by decide) (hU _ w795) (fun _ h9 => h9) rfl dX11_comes_22 ?_
  refine lv_iload_n hx hb dX11_comes_25 rfl (lv_at hl 0 rfl) ?_
  refine ld_l (j := 8) (v := 0) hx hb hK hP 1 rfl (by decide +kernel) rfl dX11_comes_26 ?_
  refine lv_l2i (v := 0) hx hb dX11_comes_27 (by decide +kernel) ?_
  refine st_i (j := 8) (g := tI [1, x0.toInt32, 0, 0, 1, 0, 0, 0, 0] 0) hx hb hK hP hD hS 2 rfl (by decide +kernel) upd_tI dX11_comes_28 (fun H locs hP hD hS => ?_)
  have hP : va_P D cl0 [(h0, .inr (8, [.int 2, .int 0, .int 1, .int 0, .int 0, .int 0, .ref h2, .ref h3, .int 0, .int 0, .ref h1, .ref h4, .ref h5, .ref h6, .ref h7, .ref h8, .ref h9, .int 0, .int 0, .int 0, .ref h10, .ref h11, .ref h12, .ref h13, .int 0, .int 0, .ref h14, .ref h15, .ref h16, .ref h17, .int 0, .int 0, .ref h18, .ref h19, .ref h20, .ref h21])), (h1, .inl (k 1, 9, .inr (.inl (tL [1, x0, 0, 0, 1, 0, 0, 0, 0] 0)))), (h2, .inl (k 0, 36, .inl (tI [1, x0.toInt32, 0, 0, 1, 0, 0, 0, 0] 0)))] H := hP
  have hD : va_D A [(h0, .inr (8, [.int 2, .int 0, .int 1, .int 0, .int 0, .int 0, .ref h2, .ref h3, .int 0, .int 0, .ref h1, .ref h4, .ref h5, .ref h6, .ref h7, .ref h8, .ref h9, .int 0, .int 0, .int 0, .ref h10, .ref h11, .ref h12, .ref h13, .int 0, .int 0, .ref h14, .ref h15, .ref h16, .ref h17, .int 0, .int 0, .ref h18, .ref h19, .ref h20, .ref h21])), (h1, .inl (k 1, 9, .inr (.inl (tL [1, x0, 0, 0, 1, 0, 0, 0, 0] 0)))), (h2, .inl (k 0, 36, .inl (tI [1, x0.toInt32, 0, 0, 1, 0, 0, 0, 0] 0)))] := hD
  refine lv_iinc (v := 9) (lv' := [(1, .int 9), (0, .ref h0)]) hx hb dX11_comes_29 hl (k := 0) rfl (by decide) (by decide) rfl (fun ls hl => ?_)
  refine lv_goto (tgt := 2) hx hb dX11_comes_32 (by decide) ?_
  refine lv_iload_n hx hb dX11_comes_2 rfl (lv_at hl 0 rfl) ?_
  refine lv_bipush (v := 9) hx hb dX11_comes_3 (by decide) ?_
  refine lv_icmp_ge (tgt := 35) hx hb dX11_comes_5 (by decide) (fun _ => ?_) (fun cc => absurd (by decide +kernel) cc)
  refine lv_aload_n hx hb dX11_comes_35 rfl (lv_at hl 1 rfl) ?_
  refine lv_dup hx hb dX11_comes_36 rfl ?_
  refine va_get (D := D) (ci := 8) (v := .int 0) (C := RX11) (T := TX11) (N := 36) hx hb hU iX11 hown hK.1 hP 0 rfl rfl 1 (by decide) (hU _ w786) (fun _ h9 => h9) rfl dX11_comes_37 ?_
  refine lv_iconst (v := 1) hx hb dX11_comes_40 (by decide) ?_
  refine lv_iadd hx hb dX11_comes_41 (sv_i (v := 1) (by decide +kernel) ?_)
  refine va_put (D := D) (ci := 8) (v := .int 1) (ty := .int) (C := RX11) (T := TX11) (N := 36) hx hb hU iX11 tyX11 tyX11_ok nmX11 hown hK.1 hP hD hS 0 rfl rfl 1 (by decide) (hU _ w786) (fun _ h9 => h9) rfl (by decide +kernel) rfl rfl (Nat.le_of_ble_eq_true rfl) dX11_comes_42 (fun H locs hP hD hS => ?_)
  have hP : va_P D cl0 [(h0, .inr (8, [.int 2, .int 1, .int 1, .int 0, .int 0, .int 0, .ref h2, .ref h3, .int 0, .int 0, .ref h1, .ref h4, .ref h5, .ref h6, .ref h7, .ref h8, .ref h9, .int 0, .int 0, .int 0, .ref h10, .ref h11, .ref h12, .ref h13, .int 0, .int 0, .ref h14, .ref h15, .ref h16, .ref h17, .int 0, .int 0, .ref h18, .ref h19, .ref h20, .ref h21])), (h1, .inl (k 1, 9, .inr (.inl (tL [1, x0, 0, 0, 1, 0, 0, 0, 0] 0)))), (h2, .inl (k 0, 36, .inl (tI [1, x0.toInt32, 0, 0, 1, 0, 0, 0, 0] 0)))] H := hP
  have hD : va_D A [(h0, .inr (8, [.int 2, .int 1, .int 1, .int 0, .int 0, .int 0, .ref h2, .ref h3, .int 0, .int 0, .ref h1, .ref h4, .ref h5, .ref h6, .ref h7, .ref h8, .ref h9, .int 0, .int 0, .int 0, .ref h10, .ref h11, .ref h12, .ref h13, .int 0, .int 0, .ref h14, .ref h15, .ref h16, .ref h17, .int 0, .int 0, .ref h18, .ref h19, .ref h20, .ref h21])), (h1, .inl (k 1, 9, .inr (.inl (tL [1, x0, 0, 0, 1, 0, 0, 0, 0] 0)))), (h2, .inl (k 0, 36, .inl (tI [1, x0.toInt32, 0, 0, 1, 0, 0, 0, 0] 0)))] := hD
  refine lv_aload_n hx hb dX11_comes_45 rfl (lv_at hl 1 rfl) ?_
  refine lv_iconst (v := 0) hx hb dX11_comes_46 (by decide) ?_
  refine va_put (D := D) (ci := 8) (v := .int 0) (ty := .boolean) (C := RX11) (T := TX11) (N := 36) hx hb hU iX11 tyX11 tyX11_ok nmX11 hown hK.1 hP hD hS 0 rfl rfl 9 (by decide) (hU _ w794) (fun _ h9 => h9) rfl (by decide +kernel) rfl rfl (Nat.le_of_ble_eq_true rfl) dX11_comes_47 (fun H locs hP hD hS => ?_)
  have hP : va_P D cl0 [(h0, .inr (8, [.int 2, .int 1, .int 1, .int 0, .int 0, .int 0, .ref h2, .ref h3, .int 0, .int 0, .ref h1, .ref h4, .ref h5, .ref h6, .ref h7, .ref h8, .ref h9, .int 0, .int 0, .int 0, .ref h10, .ref h11, .ref h12, .ref h13, .int 0, .int 0, .ref h14, .ref h15, .ref h16, .ref h17, .int 0, .int 0, .ref h18, .ref h19, .ref h20, .ref h21])), (h1, .inl (k 1, 9, .inr (.inl (tL [1, x0, 0, 0, 1, 0, 0, 0, 0] 0)))), (h2, .inl (k 0, 36, .inl (tI [1, x0.toInt32, 0, 0, 1, 0, 0, 0, 0] 0)))] H := hP
  have hD : va_D A [(h0, .inr (8, [.int 2, .int 1, .int 1, .int 0, .int 0, .int 0, .ref h2, .ref h3, .int 0, .int 0, .ref h1, .ref h4, .ref h5, .ref h6, .ref h7, .ref h8, .ref h9, .int 0, .int 0, .int 0, .ref h10, .ref h11, .ref h12, .ref h13, .int 0, .int 0, .ref h14, .ref h15, .ref h16, .ref h17, .int 0, .int 0, .ref h18, .ref h19, .ref h20, .ref h21])), (h1, .inl (k 1, 9, .inr (.inl (tL [1, x0, 0, 0, 1, 0, 0, 0, 0] 0)))), (h2, .inl (k 0, 36, .inl (tI [1, x0.toInt32, 0, 0, 1, 0, 0, 0, 0] 0)))] := hD
  refine lv_aload_n hx hb dX11_comes_50 rfl (lv_at hl 1 rfl) ?_
  refine lv_iconst (v := 0) hx hb dX11_comes_51 (by decide) ?_
  refine va_put (D := D) (ci := 8) (v := .int 0) (ty := .int) (C := RX11) (T := TX11) (N := 36) hx hb hU iX11 tyX11 tyX11_ok nmX11 hown hK.1 hP hD hS 0 rfl rfl 30 (by decide) (hU _ w815) (fun _ h9 => h9) rfl (by decide +kernel) rfl rfl (Nat.le_of_ble_eq_true rfl) dX11_comes_52 (fun H locs hP hD hS => ?_)
  have hP : va_P D cl0 [(h0, .inr (8, [.int 2, .int 1, .int 1, .int 0, .int 0, .int 0, .ref h2, .ref h3, .int 0, .int 0, .ref h1, .ref h4, .ref h5, .ref h6, .ref h7, .ref h8, .ref h9, .int 0, .int 0, .int 0, .ref h10, .ref h11, .ref h12, .ref h13, .int 0, .int 0, .ref h14, .ref h15, .ref h16, .ref h17, .int 0, .int 0, .ref h18, .ref h19, .ref h20, .ref h21])), (h1, .inl (k 1, 9, .inr (.inl (tL [1, x0, 0, 0, 1, 0, 0, 0, 0] 0)))), (h2, .inl (k 0, 36, .inl (tI [1, x0.toInt32, 0, 0, 1, 0, 0, 0, 0] 0)))] H := hP
  have hD : va_D A [(h0, .inr (8, [.int 2, .int 1, .int 1, .int 0, .int 0, .int 0, .ref h2, .ref h3, .int 0, .int 0, .ref h1, .ref h4, .ref h5, .ref h6, .ref h7, .ref h8, .ref h9, .int 0, .int 0, .int 0, .ref h10, .ref h11, .ref h12, .ref h13, .int 0, .int 0, .ref h14, .ref h15, .ref h16, .ref h17, .int 0, .int 0, .ref h18, .ref h19, .ref h20, .ref h21])), (h1, .inl (k 1, 9, .inr (.inl (tL [1, x0, 0, 0, 1, 0, 0, 0, 0] 0)))), (h2, .inl (k 0, 36, .inl (tI [1, x0.toInt32, 0, 0, 1, 0, 0, 0, 0] 0)))] := hD
  refine lv_aload_n hx hb dX11_comes_55 rfl (lv_at hl 1 rfl) ?_
  refine va_get (D := D) (ci := 8) (v := .int 1) (C := RX11) (T := TX11) (N := 36) hx hb hU iX11 hown hK.1 hP 0 rfl rfl 1 (by decide) (hU _ w786) (fun _ h9 => h9) rfl dX11_comes_56 ?_
  refine lv_iconst (v := 1) hx hb dX11_comes_59 (by decide) ?_
  refine lv_isub hx hb dX11_comes_60 (sv_i (v := 0) (by decide +kernel) ?_)
  exact retI (v := 0) hx hb hr hlocks hS (⟨rfl, hP, hD⟩) dX11_comes_61
abbrev BX11_makesUnit_4 (D : va_G) (k : Nat → ClassId) (h0 h1 h2 h3 h4 h5 h6 h7 h8 h9 h10 h11 h12 h13 h14 h15 h16 h17 h18 h19 h20 h21 : Nat) (x0 : Int32) (A : Nat → Prop) (H : Heap) : Prop := va_P D cl0 [(h0, .inr (8, [.int 2, .int 0, .int 1, .int 0, .int 0, .int 0, .ref h2, .ref h3, .int 0, .int 0, .ref h1, .ref h4, .ref h5, .ref h6, .ref h7, .ref h8, .ref h9, .int 0, .int 0, .int 0, .ref h10, .ref h11, .ref h12, .ref h13, .int 0, .int 0, .ref h14, .ref h15, .ref h16, .ref h17, .int 0, .int 0, .ref h18, .ref h19, .ref h20, .ref h21])), (h1, .inl (k 1, 9, .inr (.inl (tL [1, 0, 0, x0.toInt64, 1, 0, 0, 0, 0] 0))))] H ∧ va_D A [(h0, .inr (8, [.int 2, .int 0, .int 1, .int 0, .int 0, .int 0, .ref h2, .ref h3, .int 0, .int 0, .ref h1, .ref h4, .ref h5, .ref h6, .ref h7, .ref h8, .ref h9, .int 0, .int 0, .int 0, .ref h10, .ref h11, .ref h12, .ref h13, .int 0, .int 0, .ref h14, .ref h15, .ref h16, .ref h17, .int 0, .int 0, .ref h18, .ref h19, .ref h20, .ref h21])), (h1, .inl (k 1, 9, .inr (.inl (tL [1, 0, 0, x0.toInt64, 1, 0, 0, 0, 0] 0))))]
set_option maxHeartbeats 4000000 in
set_option maxRecDepth 100000 in
theorem cX11_makesUnit_4 (l : Launch) (D : va_G) (k : Nat → ClassId) (sz : Nat) (h0 h1 h2 h3 h4 h5 h6 h7 h8 h9 h10 h11 h12 h13 h14 h15 h16 h17 h18 h19 h20 h21 : Nat) (x0 : Int32) : Met l yX11_makesUnit (Cond.code yX11_makesUnit cX11_makesUnit 4 none :: uw) ({ frames := 2, cells := 0, slots := 0, locals := 44 }) (pC D k sz [.ref h0, .int 1, .int 0, .int x0] [(h0, .inr (8, [.int 2, .int 0, .int 1, .int 0, .int 0, .int 0, .ref h2, .ref h3, .int 0, .int 0, .ref h1, .ref h4, .ref h5, .ref h6, .ref h7, .ref h8, .ref h9, .int 0, .int 0, .int 0, .ref h10, .ref h11, .ref h12, .ref h13, .int 0, .int 0, .ref h14, .ref h15, .ref h16, .ref h17, .int 0, .int 0, .ref h18, .ref h19, .ref h20, .ref h21])), (h1, .inl (k 1, 9, .inr (.inl (tL [] 0))))]) (qV (BX11_makesUnit_4 D k h0 h1 h2 h3 h4 h5 h6 h7 h8 h9 h10 h11 h12 h13 h14 h15 h16 h17 h18 h19 h20 h21 x0 (va_A [(h0, .inr (8, [.int 2, .int 0, .int 1, .int 0, .int 0, .int 0, .ref h2, .ref h3, .int 0, .int 0, .ref h1, .ref h4, .ref h5, .ref h6, .ref h7, .ref h8, .ref h9, .int 0, .int 0, .int 0, .ref h10, .ref h11, .ref h12, .ref h13, .int 0, .int 0, .ref h14, .ref h15, .ref h16, .ref h17, .int 0, .int 0, .ref h18, .ref h19, .ref h20, .ref h21])), (h1, .inl (k 1, 9, .inr (.inl (tL [] 0))))] sz)) (va_A [(h0, .inr (8, [.int 2, .int 0, .int 1, .int 0, .int 0, .int 0, .ref h2, .ref h3, .int 0, .int 0, .ref h1, .ref h4, .ref h5, .ref h6, .ref h7, .ref h8, .ref h9, .int 0, .int 0, .int 0, .ref h10, .ref h11, .ref h12, .ref h13, .int 0, .int 0, .ref h14, .ref h15, .ref h16, .ref h17, .int 0, .int 0, .ref h18, .ref h19, .ref h20, .ref h21])), (h1, .inl (k 1, 9, .inr (.inl (tL [] 0))))] sz)) 0 0 (va_A [(h0, .inr (8, [.int 2, .int 0, .int 1, .int 0, .int 0, .int 0, .ref h2, .ref h3, .int 0, .int 0, .ref h1, .ref h4, .ref h5, .ref h6, .ref h7, .ref h8, .ref h9, .int 0, .int 0, .int 0, .ref h10, .ref h11, .ref h12, .ref h13, .int 0, .int 0, .ref h14, .ref h15, .ref h16, .ref h17, .int 0, .int 0, .ref h18, .ref h19, .ref h20, .ref h21])), (h1, .inl (k 1, 9, .inr (.inl (tL [] 0))))] sz) := by
  refine begin_ (Qc := fun A => qV (BX11_makesUnit_4 D k h0 h1 h2 h3 h4 h5 h6 h7 h8 h9 h10 h11 h12 h13 h14 h15 h16 h17 h18 h19 h20 h21 x0 A) A) (by decide) (Nat.le_of_ble_eq_true rfl) ?_
  intro p e s m below meth c ls A hx hb hr hml hown hlocks hin hU hK hsz hP hD hS hA hl
  have hl : lv_has ls 4 [(0, .ref h0), (1, .int 1), (2, .int 0), (3, .int x0)] := hl
  clear hsz
  refine lv_aload_n hx hb dX11_makesUnit_0 rfl (lv_at hl 0 rfl) ?_
  refine lv_aload_n hx hb dX11_makesUnit_1 rfl (lv_at hl 0 rfl) ?_
  refine va_get (D := D) (ci := 8) (v := .ref h1) (C := RX11) (T := TX11) (N := 36) hx hb hU iX11 hown hK.1 hP 0 rfl rfl 10 (by decide) (hU _ w795) (fun _ h9 => h9) rfl dX11_makesUnit_2 ?_
  refine cV (rV (q0 := 0) (ci := 8) (As := [.ref h1]) (rest := []) (wc := [(h1, .inl (k 1, 9, .inr (.inl (tL [] 0)))), (h0, .inr (8, [.int 2, .int 0, .int 1, .int 0, .int 0, .int 0, .ref h2, .ref h3, .int 0, .int 0, .ref h1, .ref h4, .ref h5, .ref h6, .ref h7, .ref h8, .ref h9, .int 0, .int 0, .int 0, .ref h10, .ref h11, .ref h12, .ref h13, .int 0, .int 0, .ref h14, .ref h15, .ref h16, .ref h17, .int 0, .int 0, .ref h18, .ref h19, .ref h20, .ref h21]))]) hx hb hml hown hU hK hP hD rfl rfl [1, 0] rfl (by decide) (cX11_first_1 l D k _ h1 h0 h2 h3 h4 h5 h6 h7 h8 h9 h10 h11 h12 h13 h14 h15 h16 h17 h18 h19 h20 h21) w919 w916 w918 w28 w72 hdX11_first ⟨rfl, rfl⟩ ⟨Nat.le_of_ble_eq_true rfl, Nat.le_of_ble_eq_true rfl⟩ rfl hl.1 (Nat.le_of_ble_eq_true rfl) dX11_makesUnit_5 ⟨Nat.le_of_ble_eq_true rfl, Nat.le_of_ble_eq_true rfl⟩) hP hD hS hA (wr := []) [1, 0] [] rfl rfl (by decide) (by decide) (fun H locs hB J hS => ?_)
  obtain ⟨hP1, hD1⟩ := hB
  obtain ⟨hP, hD⟩ := J _ hP1 hD1
  have hP : va_P D cl0 [(h0, .inr (8, [.int 2, .int 0, .int 1, .int 0, .int 0, .int 0, .ref h2, .ref h3, .int 0, .int 0, .ref h1, .ref h4, .ref h5, .ref h6, .ref h7, .ref h8, .ref h9, .int 0, .int 0, .int 0, .ref h10, .ref h11, .ref h12, .ref h13, .int 0, .int 0, .ref h14, .ref h15, .ref h16, .ref h17, .int 0, .int 0, .ref h18, .ref h19, .ref h20, .ref h21])), (h1, .inl (k 1, 9, .inr (.inl (tL [1, 0, 0, 0, 1, 0, 0, 0, 0] 0))))] H := hP
  have hD : va_D A [(h0, .inr (8, [.int 2, .int 0, .int 1, .int 0, .int 0, .int 0, .ref h2, .ref h3, .int 0, .int 0, .ref h1, .ref h4, .ref h5, .ref h6, .ref h7, .ref h8, .ref h9, .int 0, .int 0, .int 0, .ref h10, .ref h11, .ref h12, .ref h13, .int 0, .int 0, .ref h14, .ref h15, .ref h16, .ref h17, .int 0, .int 0, .ref h18, .ref h19, .ref h20, .ref h21])), (h1, .inl (k 1, 9, .inr (.inl (tL [1, 0, 0, 0, 1, 0, 0, 0, 0] 0))))] := hD
  refine lv_aload_n hx hb dX11_makesUnit_8 rfl (lv_at hl 0 rfl) ?_
  refine va_get (D := D) (ci := 8) (v := .ref h1) (C := RX11) (T := TX11) (N := 36) hx hb hU iX11 hown hK.1 hP 0 rfl rfl 10 (by decide) (hU _ w795) (fun _ h9 => h9) rfl dX11_makesUnit_9 ?_
  refine lv_iconst (v := 3) hx hb dX11_makesUnit_12 (by decide) ?_
  refine lv_iload_n hx hb dX11_makesUnit_13 rfl (lv_at hl 1 rfl) ?_
  refine lv_imul hx hb dX11_makesUnit_14 (sv_i (v := 3) (by decide +kernel) ?_)
  refine lv_iload_n hx hb dX11_makesUnit_15 rfl (lv_at hl 2 rfl) ?_
  refine lv_iadd hx hb dX11_makesUnit_16 (sv_i (v := 3) (by decide +kernel) ?_)
  refine lv_iload_n hx hb dX11_makesUnit_17 rfl (lv_at hl 3 rfl) ?_
  refine lv_i2l (v := x0.toInt64) hx hb dX11_makesUnit_18 rfl ?_
  refine st_l (j := 3) (g := tL [1, 0, 0, x0.toInt64, 1, 0, 0, 0, 0] 0) hx hb hK hP hD hS 1 rfl (by decide +kernel) upd_tL dX11_makesUnit_19 (fun H locs hP hD hS => ?_)
  have hP : va_P D cl0 [(h0, .inr (8, [.int 2, .int 0, .int 1, .int 0, .int 0, .int 0, .ref h2, .ref h3, .int 0, .int 0, .ref h1, .ref h4, .ref h5, .ref h6, .ref h7, .ref h8, .ref h9, .int 0, .int 0, .int 0, .ref h10, .ref h11, .ref h12, .ref h13, .int 0, .int 0, .ref h14, .ref h15, .ref h16, .ref h17, .int 0, .int 0, .ref h18, .ref h19, .ref h20, .ref h21])), (h1, .inl (k 1, 9, .inr (.inl (tL [1, 0, 0, x0.toInt64, 1, 0, 0, 0, 0] 0))))] H := hP
  have hD : va_D A [(h0, .inr (8, [.int 2, .int 0, .int 1, .int 0, .int 0, .int 0, .ref h2, .ref h3, .int 0, .int 0, .ref h1, .ref h4, .ref h5, .ref h6, .ref h7, .ref h8, .ref h9, .int 0, .int 0, .int 0, .ref h10, .ref h11, .ref h12, .ref h13, .int 0, .int 0, .ref h14, .ref h15, .ref h16, .ref h17, .int 0, .int 0, .ref h18, .ref h19, .ref h20, .ref h21])), (h1, .inl (k 1, 9, .inr (.inl (tL [1, 0, 0, x0.toInt64, 1, 0, 0, 0, 0] 0))))] := hD
  exact retV hx hb hr hlocks hS (⟨hP, hD⟩) dX11_makesUnit_20
abbrev BX11_comes_4 (D : va_G) (k : Nat → ClassId) (h0 h1 h2 h3 h4 h5 h6 h7 h8 h9 h10 h11 h12 h13 h14 h15 h16 h17 h18 h19 h20 h21 : Nat) (x0 : Int64) (A : Nat → Prop) (r : Int32) (H : Heap) : Prop := 0 = r ∧ va_P D cl0 [(h0, .inr (8, [.int 2, .int 1, .int 1, .int 0, .int 0, .int 0, .ref h2, .ref h3, .int 0, .int 0, .ref h1, .ref h4, .ref h5, .ref h6, .ref h7, .ref h8, .ref h9, .int 0, .int 0, .int 0, .ref h10, .ref h11, .ref h12, .ref h13, .int 0, .int 0, .ref h14, .ref h15, .ref h16, .ref h17, .int 0, .int 0, .ref h18, .ref h19, .ref h20, .ref h21])), (h1, .inl (k 1, 9, .inr (.inl (tL [1, 0, 0, x0, 1, 0, 0, 0, 0] 0)))), (h2, .inl (k 0, 36, .inl (tI [1, 0, 0, x0.toInt32, 1, 0, 0, 0, 0] 0)))] H ∧ va_D A [(h0, .inr (8, [.int 2, .int 1, .int 1, .int 0, .int 0, .int 0, .ref h2, .ref h3, .int 0, .int 0, .ref h1, .ref h4, .ref h5, .ref h6, .ref h7, .ref h8, .ref h9, .int 0, .int 0, .int 0, .ref h10, .ref h11, .ref h12, .ref h13, .int 0, .int 0, .ref h14, .ref h15, .ref h16, .ref h17, .int 0, .int 0, .ref h18, .ref h19, .ref h20, .ref h21])), (h1, .inl (k 1, 9, .inr (.inl (tL [1, 0, 0, x0, 1, 0, 0, 0, 0] 0)))), (h2, .inl (k 0, 36, .inl (tI [1, 0, 0, x0.toInt32, 1, 0, 0, 0, 0] 0)))]
set_option maxHeartbeats 4000000 in
set_option maxRecDepth 100000 in
theorem cX11_comes_4 (l : Launch) (D : va_G) (k : Nat → ClassId) (sz : Nat) (h0 h1 h2 h3 h4 h5 h6 h7 h8 h9 h10 h11 h12 h13 h14 h15 h16 h17 h18 h19 h20 h21 : Nat) (x0 : Int64) : Met l yX11_comes (Cond.code yX11_comes cX11_comes 2 (some .int) :: uw) ({ frames := 0, cells := 0, slots := 0, locals := 0 }) (pC D k sz [.ref h0] [(h0, .inr (8, [.int 2, .int 0, .int 1, .int 0, .int 0, .int 0, .ref h2, .ref h3, .int 0, .int 0, .ref h1, .ref h4, .ref h5, .ref h6, .ref h7, .ref h8, .ref h9, .int 0, .int 0, .int 0, .ref h10, .ref h11, .ref h12, .ref h13, .int 0, .int 0, .ref h14, .ref h15, .ref h16, .ref h17, .int 0, .int 0, .ref h18, .ref h19, .ref h20, .ref h21])), (h1, .inl (k 1, 9, .inr (.inl (tL [1, 0, 0, x0, 1, 0, 0, 0, 0] 0)))), (h2, .inl (k 0, 36, .inl (tI [] 0)))]) (qI (BX11_comes_4 D k h0 h1 h2 h3 h4 h5 h6 h7 h8 h9 h10 h11 h12 h13 h14 h15 h16 h17 h18 h19 h20 h21 x0 (va_A [(h0, .inr (8, [.int 2, .int 0, .int 1, .int 0, .int 0, .int 0, .ref h2, .ref h3, .int 0, .int 0, .ref h1, .ref h4, .ref h5, .ref h6, .ref h7, .ref h8, .ref h9, .int 0, .int 0, .int 0, .ref h10, .ref h11, .ref h12, .ref h13, .int 0, .int 0, .ref h14, .ref h15, .ref h16, .ref h17, .int 0, .int 0, .ref h18, .ref h19, .ref h20, .ref h21])), (h1, .inl (k 1, 9, .inr (.inl (tL [1, 0, 0, x0, 1, 0, 0, 0, 0] 0)))), (h2, .inl (k 0, 36, .inl (tI [] 0)))] sz)) (va_A [(h0, .inr (8, [.int 2, .int 0, .int 1, .int 0, .int 0, .int 0, .ref h2, .ref h3, .int 0, .int 0, .ref h1, .ref h4, .ref h5, .ref h6, .ref h7, .ref h8, .ref h9, .int 0, .int 0, .int 0, .ref h10, .ref h11, .ref h12, .ref h13, .int 0, .int 0, .ref h14, .ref h15, .ref h16, .ref h17, .int 0, .int 0, .ref h18, .ref h19, .ref h20, .ref h21])), (h1, .inl (k 1, 9, .inr (.inl (tL [1, 0, 0, x0, 1, 0, 0, 0, 0] 0)))), (h2, .inl (k 0, 36, .inl (tI [] 0)))] sz)) 0 0 (va_A [(h0, .inr (8, [.int 2, .int 0, .int 1, .int 0, .int 0, .int 0, .ref h2, .ref h3, .int 0, .int 0, .ref h1, .ref h4, .ref h5, .ref h6, .ref h7, .ref h8, .ref h9, .int 0, .int 0, .int 0, .ref h10, .ref h11, .ref h12, .ref h13, .int 0, .int 0, .ref h14, .ref h15, .ref h16, .ref h17, .int 0, .int 0, .ref h18, .ref h19, .ref h20, .ref h21])), (h1, .inl (k 1, 9, .inr (.inl (tL [1, 0, 0, x0, 1, 0, 0, 0, 0] 0)))), (h2, .inl (k 0, 36, .inl (tI [] 0)))] sz) := by
  refine begin_ (Qc := fun A => qI (BX11_comes_4 D k h0 h1 h2 h3 h4 h5 h6 h7 h8 h9 h10 h11 h12 h13 h14 h15 h16 h17 h18 h19 h20 h21 x0 A) A) (by decide) (Nat.le_of_ble_eq_true rfl) ?_
  intro p e s m below meth c ls A hx hb hr hml hown hlocks hin hU hK hsz hP hD hS hA hl
  have hl : lv_has ls 2 [(0, .ref h0)] := hl
  clear hsz
  refine lv_iconst (v := 0) hx hb dX11_comes_0 (by decide) ?_
  refine lv_istore_n (lv' := [(1, .int 0), (0, .ref h0)]) hx hb dX11_comes_1 rfl hl (by decide) rfl (fun ls hl => ?_)
  refine lv_iload_n hx hb dX11_comes_2 rfl (lv_at hl 0 rfl) ?_
  refine lv_bipush (v := 9) hx hb dX11_comes_3 (by decide) ?_
  refine lv_icmp_ge (tgt := 35) hx hb dX11_comes_5 (by decide) (fun cc => absurd cc (by decide +kernel)) (fun _ => ?_)
  refine lv_aload_n hx hb dX11_comes_8 rfl (lv_at hl 1 rfl) ?_
  refine va_get (D := D) (ci := 8) (v := .ref h2) (C := RX11) (T := TX11) (N := 36) hx hb hU iX11 hown hK.1 hP 0 rfl rfl 6 (by decide) (hU _ w791) (fun _ h9 => h9) rfl dX11_comes_9 ?_
  refine lv_bipush (v := 9) hx hb dX11_comes_12 (by decide) ?_
  refine lv_aload_n hx hb dX11_comes_14 rfl (lv_at hl 1 rfl) ?_
  refine va_get (D := D) (ci := 8) (v := .int 0) (C := RX11) (T := TX11) (N := 36) hx hb hU iX11 hown hK.1 hP 0 rfl rfl 1 (by decide) (hU _ w786) (fun _ h9 => h9) rfl dX11_comes_15 ?_
  refine lv_imul hx hb dX11_comes_18 (sv_i (v := 0) (by decide +kernel) ?_)
  refine lv_iload_n hx hb dX11_comes_19 rfl (lv_at hl 0 rfl) ?_
  refine lv_iadd hx hb dX11_comes_20 (sv_i (v := 0) (by decide +kernel) ?_)
  refine lv_aload_n hx hb dX11_comes_21 rfl (lv_at hl 1 rfl) ?_
  refine va_get (D := D) (ci := 8) (v := .ref h1) (C := RX11) (T := TX11) (N := 36) hx hb hU iX11 hown hK.1 hP 0 rfl rfl 10 (by decide) (hU _ w795) (fun _ h9 => h9) rfl dX11_comes_22 ?_
  refine lv_iload_n hx hb dX11_comes_25 rfl (lv_at hl 0 rfl) ?_
  refine ld_l (j := 0) (v := 1) hx hb hK hP 1 rfl (by decide +kernel) rfl dX11_comes_26 ?_
  refine lv_l2i (v := 1) hx hb dX11_comes_27 (by decide +kernel) ?_
  refine st_i (j := 0) (g := tI [1] 0) hx hb hK hP hD hS 2 rfl (by decide +kernel) upd_tI dX11_comes_28 (fun H locs hP hD hS => ?_)
  have hP : va_P D cl0 [(h0, .inr (8, [.int 2, .int 0, .int 1, .int 0, .int 0, .int 0, .ref h2, .ref h3, .int 0, .int 0, .ref h1, .ref h4, .ref h5, .ref h6, .ref h7, .ref h8, .ref h9, .int 0, .int 0, .int 0, .ref h10, .ref h11, .ref h12, .ref h13, .int 0, .int 0, .ref h14, .ref h15, .ref h16, .ref h17, .int 0, .int 0, .ref h18, .ref h19, .ref h20, .ref h21])), (h1, .inl (k 1, 9, .inr (.inl (tL [1, 0, 0, x0, 1, 0, 0, 0, 0] 0)))), (h2, .inl (k 0, 36, .inl (tI [1] 0)))] H := hP
  have hD : va_D A [(h0, .inr (8, [.int 2, .int 0, .int 1, .int 0, .int 0, .int 0, .ref h2, .ref h3, .int 0, .int 0, .ref h1, .ref h4, .ref h5, .ref h6, .ref h7, .ref h8, .ref h9, .int 0, .int 0, .int 0, .ref h10, .ref h11, .ref h12, .ref h13, .int 0, .int 0, .ref h14, .ref h15, .ref h16, .ref h17, .int 0, .int 0, .ref h18, .ref h19, .ref h20, .ref h21])), (h1, .inl (k 1, 9, .inr (.inl (tL [1, 0, 0, x0, 1, 0, 0, 0, 0] 0)))), (h2, .inl (k 0, 36, .inl (tI [1] 0)))] := hD
  refine lv_iinc (v := 1) (lv' := [(1, .int 1), (0, .ref h0)]) hx hb dX11_comes_29 hl (k := 0) rfl (by decide) (by decide) rfl (fun ls hl => ?_)
  refine lv_goto (tgt := 2) hx hb dX11_comes_32 (by decide) ?_
  refine lv_iload_n hx hb dX11_comes_2 rfl (lv_at hl 0 rfl) ?_
  refine lv_bipush (v := 9) hx hb dX11_comes_3 (by decide) ?_
  refine lv_icmp_ge (tgt := 35) hx hb dX11_comes_5 (by decide) (fun cc => absurd cc (by decide +kernel)) (fun _ => ?_)
  refine lv_aload_n hx hb dX11_comes_8 rfl (lv_at hl 1 rfl) ?_
  refine va_get (D := D) (ci := 8) (v := .ref h2) (C := RX11) (T := TX11) (N := 36) hx hb hU iX11 hown hK.1 hP 0 rfl rfl 6 (by decide) (hU _ w791) (fun _ h9 => h9) rfl dX11_comes_9 ?_
  refine lv_bipush (v := 9) hx hb dX11_comes_12 (by decide) ?_
  refine lv_aload_n hx hb dX11_comes_14 rfl (lv_at hl 1 rfl) ?_
  refine va_get (D := D) (ci := 8) (v := .int 0) (C := RX11) (T := TX11) (N := 36) hx hb hU iX11 hown hK.1 hP 0 rfl rfl 1 (by decide) (hU _ w786) (fun _ h9 => h9) rfl dX11_comes_15 ?_
  refine lv_imul hx hb dX11_comes_18 (sv_i (v := 0) (by decide +kernel) ?_)
  refine lv_iload_n hx hb dX11_comes_19 rfl (lv_at hl 0 rfl) ?_
  refine lv_iadd hx hb dX11_comes_20 (sv_i (v := 1) (by decide +kernel) ?_)
  refine lv_aload_n hx hb dX11_comes_21 rfl (lv_at hl 1 rfl) ?_
  refine va_get (D := D) (ci := 8) (v := .ref h1) (C := RX11) (T := TX11) (N := 36) hx hb hU iX11 hown hK.1 hP 0 rfl rfl 10 (by decide) (hU _ w795) (fun _ h9 => h9) rfl dX11_comes_22 ?_
  refine lv_iload_n hx hb dX11_comes_25 rfl (lv_at hl 0 rfl) ?_
  refine ld_l (j := 1) (v := 0) hx hb hK hP 1 rfl (by decide +kernel) rfl dX11_comes_26 ?_
  refine lv_l2i (v := 0) hx hb dX11_comes_27 (by decide +kernel) ?_
  refine st_i (j := 1) (g := tI [1, 0] 0) hx hb hK hP hD hS 2 rfl (by decide +kernel) upd_tI dX11_comes_28 (fun H locs hP hD hS => ?_)
  have hP : va_P D cl0 [(h0, .inr (8, [.int 2, .int 0, .int 1, .int 0, .int 0, .int 0, .ref h2, .ref h3, .int 0, .int 0, .ref h1, .ref h4, .ref h5, .ref h6, .ref h7, .ref h8, .ref h9, .int 0, .int 0, .int 0, .ref h10, .ref h11, .ref h12, .ref h13, .int 0, .int 0, .ref h14, .ref h15, .ref h16, .ref h17, .int 0, .int 0, .ref h18, .ref h19, .ref h20, .ref h21])), (h1, .inl (k 1, 9, .inr (.inl (tL [1, 0, 0, x0, 1, 0, 0, 0, 0] 0)))), (h2, .inl (k 0, 36, .inl (tI [1, 0] 0)))] H := hP
  have hD : va_D A [(h0, .inr (8, [.int 2, .int 0, .int 1, .int 0, .int 0, .int 0, .ref h2, .ref h3, .int 0, .int 0, .ref h1, .ref h4, .ref h5, .ref h6, .ref h7, .ref h8, .ref h9, .int 0, .int 0, .int 0, .ref h10, .ref h11, .ref h12, .ref h13, .int 0, .int 0, .ref h14, .ref h15, .ref h16, .ref h17, .int 0, .int 0, .ref h18, .ref h19, .ref h20, .ref h21])), (h1, .inl (k 1, 9, .inr (.inl (tL [1, 0, 0, x0, 1, 0, 0, 0, 0] 0)))), (h2, .inl (k 0, 36, .inl (tI [1, 0] 0)))] := hD
  refine lv_iinc (v := 2) (lv' := [(1, .int 2), (0, .ref h0)]) hx hb dX11_comes_29 hl (k := 0) rfl (by decide) (by decide) rfl (fun ls hl => ?_)
  refine lv_goto (tgt := 2) hx hb dX11_comes_32 (by decide) ?_
  refine lv_iload_n hx hb dX11_comes_2 rfl (lv_at hl 0 rfl) ?_
  refine lv_bipush (v := 9) hx hb dX11_comes_3 (by decide) ?_
  refine lv_icmp_ge (tgt := 35) hx hb dX11_comes_5 (by decide) (fun cc => absurd cc (by decide +kernel)) (fun _ => ?_)
  refine lv_aload_n hx hb dX11_comes_8 rfl (lv_at hl 1 rfl) ?_
  refine va_get (D := D) (ci := 8) (v := .ref h2) (C := RX11) (T := TX11) (N := 36) hx hb hU iX11 hown hK.1 hP 0 rfl rfl 6 (by decide) (hU _ w791) (fun _ h9 => h9) rfl dX11_comes_9 ?_
  refine lv_bipush (v := 9) hx hb dX11_comes_12 (by decide) ?_
  refine lv_aload_n hx hb dX11_comes_14 rfl (lv_at hl 1 rfl) ?_
  refine va_get (D := D) (ci := 8) (v := .int 0) (C := RX11) (T := TX11) (N := 36) hx hb hU iX11 hown hK.1 hP 0 rfl rfl 1 (by decide) (hU _ w786) (fun _ h9 => h9) rfl dX11_comes_15 ?_
  refine lv_imul hx hb dX11_comes_18 (sv_i (v := 0) (by decide +kernel) ?_)
  refine lv_iload_n hx hb dX11_comes_19 rfl (lv_at hl 0 rfl) ?_
  refine lv_iadd hx hb dX11_comes_20 (sv_i (v := 2) (by decide +kernel) ?_)
  refine lv_aload_n hx hb dX11_comes_21 rfl (lv_at hl 1 rfl) ?_
  refine va_get (D := D) (ci := 8) (v := .ref h1) (C := RX11) (T := TX11) (N := 36) hx hb hU iX11 hown hK.1 hP 0 rfl rfl 10 (by decide) (hU _ w795) (fun _ h9 => h9) rfl dX11_comes_22 ?_
  refine lv_iload_n hx hb dX11_comes_25 rfl (lv_at hl 0 rfl) ?_
  refine ld_l (j := 2) (v := 0) hx hb hK hP 1 rfl (by decide +kernel) rfl dX11_comes_26 ?_
  refine lv_l2i (v := 0) hx hb dX11_comes_27 (by decide +kernel) ?_
  refine st_i (j := 2) (g := tI [1, 0, 0] 0) hx hb hK hP hD hS 2 rfl (by decide +kernel) upd_tI dX11_comes_28 (fun H locs hP hD hS => ?_)
  have hP : va_P D cl0 [(h0, .inr (8, [.int 2, .int 0, .int 1, .int 0, .int 0, .int 0, .ref h2, .ref h3, .int 0, .int 0, .ref h1, .ref h4, .ref h5, .ref h6, .ref h7, .ref h8, .ref h9, .int 0, .int 0, .int 0, .ref h10, .ref h11, .ref h12, .ref h13, .int 0, .int 0, .ref h14, .ref h15, .ref h16, .ref h17, .int 0, .int 0, .ref h18, .ref h19, .ref h20, .ref h21])), (h1, .inl (k 1, 9, .inr (.inl (tL [1, 0, 0, x0, 1, 0, 0, 0, 0] 0)))), (h2, .inl (k 0, 36, .inl (tI [1, 0, 0] 0)))] H := hP
  have hD : va_D A [(h0, .inr (8, [.int 2, .int 0, .int 1, .int 0, .int 0, .int 0, .ref h2, .ref h3, .int 0, .int 0, .ref h1, .ref h4, .ref h5, .ref h6, .ref h7, .ref h8, .ref h9, .int 0, .int 0, .int 0, .ref h10, .ref h11, .ref h12, .ref h13, .int 0, .int 0, .ref h14, .ref h15, .ref h16, .ref h17, .int 0, .int 0, .ref h18, .ref h19, .ref h20, .ref h21])), (h1, .inl (k 1, 9, .inr (.inl (tL [1, 0, 0, x0, 1, 0, 0, 0, 0] 0)))), (h2, .inl (k 0, 36, .inl (tI [1, 0, 0] 0)))] := hD
  refine lv_iinc (v := 3) (lv' := [(1, .int 3), (0, .ref h0)]) hx hb dX11_comes_29 hl (k := 0) rfl (by decide) (by decide) rfl (fun ls hl => ?_)
  refine lv_goto (tgt := 2) hx hb dX11_comes_32 (by decide) ?_
  refine lv_iload_n hx hb dX11_comes_2 rfl (lv_at hl 0 rfl) ?_
  refine lv_bipush (v := 9) hx hb dX11_comes_3 (by decide) ?_
  refine lv_icmp_ge (tgt := 35) hx hb dX11_comes_5 (by decide) (fun cc => absurd cc (by decide +kernel)) (fun _ => ?_)
  refine lv_aload_n hx hb dX11_comes_8 rfl (lv_at hl 1 rfl) ?_
  refine va_get (D := D) (ci := 8) (v := .ref h2) (C := RX11) (T := TX11) (N := 36) hx hb hU iX11 hown hK.1 hP 0 rfl rfl 6 (by decide) (hU _ w791) (fun _ h9 => h9) rfl dX11_comes_9 ?_
  refine lv_bipush (v := 9) hx hb dX11_comes_12 (by decide) ?_
  refine lv_aload_n hx hb dX11_comes_14 rfl (lv_at hl 1 rfl) ?_
  refine va_get (D := D) (ci := 8) (v := .int 0) (C := RX11) (T := TX11) (N := 36) hx hb hU iX11 hown hK.1 hP 0 rfl rfl 1 (by decide) (hU _ w786) (fun _ h9 => h9) rfl dX11_comes_15 ?_
  refine lv_imul hx hb dX11_comes_18 (sv_i (v := 0) (by decide +kernel) ?_)
  refine lv_iload_n hx hb dX11_comes_19 rfl (lv_at hl 0 rfl) ?_
  refine lv_iadd hx hb dX11_comes_20 (sv_i (v := 3) (by decide +kernel) ?_)
  refine lv_aload_n hx hb dX11_comes_21 rfl (lv_at hl 1 rfl) ?_
  refine va_get (D := D) (ci := 8) (v := .ref h1) (C := RX11) (T := TX11) (N := 36) hx hb hU iX11 hown hK.1 hP 0 rfl rfl 10 (by decide) (hU _ w795) (fun _ h9 => h9) rfl dX11_comes_22 ?_
  refine lv_iload_n hx hb dX11_comes_25 rfl (lv_at hl 0 rfl) ?_
  refine ld_l (j := 3) (v := x0) hx hb hK hP 1 rfl (by decide +kernel) rfl dX11_comes_26 ?_
  refine lv_l2i (v := x0.toInt32) hx hb dX11_comes_27 rfl ?_
  refine st_i (j := 3) (g := tI [1, 0, 0, x0.toInt32] 0) hx hb hK hP hD hS 2 rfl (by decide +kernel) upd_tI dX11_comes_28 (fun H locs hP hD hS => ?_)
  have hP : va_P D cl0 [(h0, .inr (8, [.int 2, .int 0, .int 1, .int 0, .int 0, .int 0, .ref h2, .ref h3, .int 0, .int 0, .ref h1, .ref h4, .ref h5, .ref h6, .ref h7, .ref h8, .ref h9, .int 0, .int 0, .int 0, .ref h10, .ref h11, .ref h12, .ref h13, .int 0, .int 0, .ref h14, .ref h15, .ref h16, .ref h17, .int 0, .int 0, .ref h18, .ref h19, .ref h20, .ref h21])), (h1, .inl (k 1, 9, .inr (.inl (tL [1, 0, 0, x0, 1, 0, 0, 0, 0] 0)))), (h2, .inl (k 0, 36, .inl (tI [1, 0, 0, x0.toInt32] 0)))] H := hP
  have hD : va_D A [(h0, .inr (8, [.int 2, .int 0, .int 1, .int 0, .int 0, .int 0, .ref h2, .ref h3, .int 0, .int 0, .ref h1, .ref h4, .ref h5, .ref h6, .ref h7, .ref h8, .ref h9, .int 0, .int 0, .int 0, .ref h10, .ref h11, .ref h12, .ref h13, .int 0, .int 0, .ref h14, .ref h15, .ref h16, .ref h17, .int 0, .int 0, .ref h18, .ref h19, .ref h20, .ref h21])), (h1, .inl (k 1, 9, .inr (.inl (tL [1, 0, 0, x0, 1, 0, 0, 0, 0] 0)))), (h2, .inl (k 0, 36, .inl (tI [1, 0, 0, x0.toInt32] 0)))] := hD
  refine lv_iinc (v := 4) (lv' := [(1, .int 4), (0, .ref h0)]) hx hb dX11_comes_29 hl (k := 0) rfl (by decide) (by decide) rfl (fun ls hl => ?_)
  refine lv_goto (tgt := 2) hx hb dX11_comes_32 (by decide) ?_
  refine lv_iload_n hx hb dX11_comes_2 rfl (lv_at hl 0 rfl) ?_
  refine lv_bipush (v := 9) hx hb dX11_comes_3 (by decide) ?_
  refine lv_icmp_ge (tgt := 35) hx hb dX11_comes_5 (by decide) (fun cc => absurd cc (by decide +kernel)) (fun _ => ?_)
  refine lv_aload_n hx hb dX11_comes_8 rfl (lv_at hl 1 rfl) ?_
  refine va_get (D := D) (ci := 8) (v := .ref h2) (C := RX11) (T := TX11) (N := 36) hx hb hU iX11 hown hK.1 hP 0 rfl rfl 6 (by decide) (hU _ w791) (fun _ h9 => h9) rfl dX11_comes_9 ?_
  refine lv_bipush (v := 9) hx hb dX11_comes_12 (by decide) ?_
  refine lv_aload_n hx hb dX11_comes_14 rfl (lv_at hl 1 rfl) ?_
  refine va_get (D := D) (ci := 8) (v := .int 0) (C := RX11) (T := TX11) (N := 36) hx hb hU iX11 hown hK.1 hP 0 rfl rfl 1 (by decide) (hU _ w786) (fun _ h9 => h9) rfl dX11_comes_15 ?_
  refine lv_imul hx hb dX11_comes_18 (sv_i (v := 0) (by decide +kernel) ?_)
  refine lv_iload_n hx hb dX11_comes_19 rfl (lv_at hl 0 rfl) ?_
  refine lv_iadd hx hb dX11_comes_20 (sv_i (v := 4) (by decide +kernel) ?_)
  refine lv_aload_n hx hb dX11_comes_21 rfl (lv_at hl 1 rfl) ?_
  refine va_get (D := D) (ci := 8) (v := .ref h1) (C := RX11) (T := TX11) (N := 36) hx hb hU iX11 hown hK.1 hP 0 rfl rfl 10 (by decide) (hU _ w795) (fun _ h9 => h9) rfl dX11_comes_22 ?_
  refine lv_iload_n hx hb dX11_comes_25 rfl (lv_at hl 0 rfl) ?_
  refine ld_l (j := 4) (v := 1) hx hb hK hP 1 rfl (by decide +kernel) rfl dX11_comes_26 ?_
  refine lv_l2i (v := 1) hx hb dX11_comes_27 (by decide +kernel) ?_
  refine st_i (j := 4) (g := tI [1, 0, 0, x0.toInt32, 1] 0) hx hb hK hP hD hS 2 rfl (by decide +kernel) upd_tI dX11_comes_28 (fun H locs hP hD hS => ?_)
  have hP : va_P D cl0 [(h0, .inr (8, [.int 2, .int 0, .int 1, .int 0, .int 0, .int 0, .ref h2, .ref h3, .int 0, .int 0, .ref h1, .ref h4, .ref h5, .ref h6, .ref h7, .ref h8, .ref h9, .int 0, .int 0, .int 0, .ref h10, .ref h11, .ref h12, .ref h13, .int 0, .int 0, .ref h14, .ref h15, .ref h16, .ref h17, .int 0, .int 0, .ref h18, .ref h19, .ref h20, .ref h21])), (h1, .inl (k 1, 9, .inr (.inl (tL [1, 0, 0, x0, 1, 0, 0, 0, 0] 0)))), (h2, .inl (k 0, 36, .inl (tI [1, 0, 0, x0.toInt32, 1] 0)))] H := hP
  have hD : va_D A [(h0, .inr (8, [.int 2, .int 0, .int 1, .int 0, .int 0, .int 0, .ref h2, .ref h3, .int 0, .int 0, .ref h1, .ref h4, .ref h5, .ref h6, .ref h7, .ref h8, .ref h9, .int 0, .int 0, .int 0, .ref h10, .ref h11, .ref h12, .ref h13, .int 0, .int 0, .ref h14, .ref h15, .ref h16, .ref h17, .int 0, .int 0, .ref h18, .ref h19, .ref h20, .ref h21])), (h1, .inl (k 1, 9, .inr (.inl (tL [1, 0, 0, x0, 1, 0, 0, 0, 0] 0)))), (h2, .inl (k 0, 36, .inl (tI [1, 0, 0, x0.toInt32, 1] 0)))] := hD
  refine lv_iinc (v := 5) (lv' := [(1, .int 5), (0, .ref h0)]) hx hb dX11_comes_29 hl (k := 0) rfl (by decide) (by decide) rfl (fun ls hl => ?_)
  refine lv_goto (tgt := 2) hx hb dX11_comes_32 (by decide) ?_
  refine lv_iload_n hx hb dX11_comes_2 rfl (lv_at hl 0 rfl) ?_
  refine lv_bipush (v := 9) hx hb dX11_comes_3 (by decide) ?_
  refine lv_icmp_ge (tgt := 35) hx hb dX11_comes_5 (by decide) (fun cc => absurd cc (by decide +kernel)) (fun _ => ?_)
  refine lv_aload_n hx hb dX11_comes_8 rfl (lv_at hl 1 rfl) ?_
  refine va_get (D := D) (ci := 8) (v := .ref h2) (C := RX11) (T := TX11) (N := 36) hx hb hU iX11 hown hK.1 hP 0 rfl rfl 6 (by decide) (hU _ w791) (fun _ h9 => h9) rfl dX11_comes_9 ?_
  refine lv_bipush (v := 9) hx hb dX11_comes_12 (by decide) ?_
  refine lv_aload_n hx hb dX11_comes_14 rfl (lv_at hl 1 rfl) ?_
  refine va_get (D := D) (ci := 8) (v := .int 0) (C := RX11) (T := TX11) (N := 36) hx hb hU iX11 hown hK.1 hP 0 rfl rfl 1 (by decide) (hU _ w786) (fun _ h9 => h9) rfl dX11_comes_15 ?_
  refine lv_imul hx hb dX11_comes_18 (sv_i (v := 0) (by decide +kernel) ?_)
  refine lv_iload_n hx hb dX11_comes_19 rfl (lv_at hl 0 rfl) ?_
  refine lv_iadd hx hb dX11_comes_20 (sv_i (v := 5) (by decide +kernel) ?_)
  refine lv_aload_n hx hb dX11_comes_21 rfl (lv_at hl 1 rfl) ?_
  refine va_get (D := D) (ci := 8) (v := .ref h1) (C := RX11) (T := TX11) (N := 36) hx hb hU iX11 hown hK.1 hP 0 rfl rfl 10 (by decide) (hU _ w795) (fun _ h9 => h9) rfl dX11_comes_22 ?_
  refine lv_iload_n hx hb dX11_comes_25 rfl (lv_at hl 0 rfl) ?_
  refine ld_l (j := 5) (v := 0) hx hb hK hP 1 rfl (by decide +kernel) rfl dX11_comes_26 ?_
  refine lv_l2i (v := 0) hx hb dX11_comes_27 (by decide +kernel) ?_
  refine st_i (j := 5) (g := tI [1, 0, 0, x0.toInt32, 1, 0] 0) hx hb hK hP hD hS 2 rfl (by decide +kernel) upd_tI dX11_comes_28 (fun H locs hP hD hS => ?_)
  have hP : va_P D cl0 [(h0, .inr (8, [.int 2, .int 0, .int 1, .int 0, .int 0, .int 0, .ref h2, .ref h3, .int 0, .int 0, .ref h1, .ref h4, .ref h5, .ref h6, .ref h7, .ref h8, .ref h9, .int 0, .int 0, .int 0, .ref h10, .ref h11, .ref h12, .ref h13, .int 0, .int 0, .ref h14, .ref h15, .ref h16, .ref h17, .int 0, .int 0, .ref h18, .ref h19, .ref h20, .ref h21])), (h1, .inl (k 1, 9, .inr (.inl (tL [1, 0, 0, x0, 1, 0, 0, 0, 0] 0)))), (h2, .inl (k 0, 36, .inl (tI [1, 0, 0, x0.toInt32, 1, 0] 0)))] H := hP
  have hD : va_D A [(h0, .inr (8, [.int 2, .int 0, .int 1, .int 0, .int 0, .int 0, .ref h2, .ref h3, .int 0, .int 0, .ref h1, .ref h4, .ref h5, .ref h6, .ref h7, .ref h8, .ref h9, .int 0, .int 0, .int 0, .ref h10, .ref h11, .ref h12, .ref h13, .int 0, .int 0, .ref h14, .ref h15, .ref h16, .ref h17, .int 0, .int 0, .ref h18, .ref h19, .ref h20, .ref h21])), (h1, .inl (k 1, 9, .inr (.inl (tL [1, 0, 0, x0, 1, 0, 0, 0, 0] 0)))), (h2, .inl (k 0, 36, .inl (tI [1, 0, 0, x0.toInt32, 1, 0] 0)))] := hD
  refine lv_iinc (v := 6) (lv' := [(1, .int 6), (0, .ref h0)]) hx hb dX11_comes_29 hl (k := 0) rfl (by decide) (by decide) rfl (fun ls hl => ?_)
  refine lv_goto (tgt := 2) hx hb dX11_comes_32 (by decide) ?_
  refine lv_iload_n hx hb dX11_comes_2 rfl (lv_at hl 0 rfl) ?_
  refine lv_bipush (v := 9) hx hb dX11_comes_3 (by decide) ?_
  refine lv_icmp_ge (tgt := 35) hx hb dX11_comes_5 (by decide) (fun cc => absurd cc (by decide +kernel)) (fun _ => ?_)
  refine lv_aload_n hx hb dX11_comes_8 rfl (lv_at hl 1 rfl) ?_
  refine va_get (D := D) (ci := 8) (v := .ref h2) (C := RX11) (T := TX11) (N := 36) hx hb hU iX11 hown hK.1 hP 0 rfl rfl 6 (by decide) (hU _ w791) (fun _ h9 => h9) rfl dX11_comes_9 ?_
  refine lv_bipush (v := 9) hx hb dX11_comes_12 (by decide) ?_
  refine lv_aload_n hx hb dX11_comes_14 rfl (lv_at hl 1 rfl) ?_
  refine va_get (D := D) (ci := 8) (v := .int 0) (C := RX11) (T := TX11) (N := 36) hx hb hU iX11 hown hK.1 hP 0 rfl rfl 1 (by decide) (hU _ w786) (fun _ h9 => h9) rfl dX11_comes_15 ?_
  refine lv_imul hx hb dX11_comes_18 (sv_i (v := 0) (by decide +kernel) ?_)
  refine lv_iload_n hx hb dX11_comes_19 rfl (lv_at hl 0 rfl) ?_
  refine lv_iadd hx hb dX11_comes_20 (sv_i (v := 6) (by decide +kernel) ?_)
  refine lv_aload_n hx hb dX11_comes_21 rfl (lv_at hl 1 rfl) ?_
  refine va_get (D := D) (ci := 8) (v := .ref h1) (C := RX11) (T := TX11) (N := 36) hx hb hU iX11 hown hK.1 hP 0 rfl rfl 10 (by decide) (hU _ w795) (fun _ h9 => h9) rfl dX11_comes_22 ?_
  refine lv_iload_n hx hb dX11_comes_25 rfl (lv_at hl 0 rfl) ?_
  refine ld_l (j := 6) (v := 0) hx hb hK hP 1 rfl (by decide +kernel) rfl dX11_comes_26 ?_
  refine lv_l2i (v := 0) hx hb dX11_comes_27 (by decide +kernel) ?_
  refine st_i (j := 6) (g := tI [1, 0, 0, x0.toInt32, 1, 0, 0] 0) hx hb hK hP hD hS 2 rfl (by decide +kernel) upd_tI dX11_comes_28 (fun H locs hP hD hS => ?_)
  have hP : va_P D cl0 [(h0, .inr (8, [.int 2, .int 0, .int 1, .int 0, .int 0, .int 0, .ref h2, .ref h3, .int 0, .int 0, .ref h1, .ref h4, .ref h5, .ref h6, .ref h7, .ref h8, .ref h9, .int 0, .int 0, .int 0, .ref h10, .ref h11, .ref h12, .ref h13, .int 0, .int 0, .ref h14, .ref h15, .ref h16, .ref h17, .int 0, .int 0, .ref h18, .ref h19, .ref h20, .ref h21])), (h1, .inl (k 1, 9, .inr (.inl (tL [1, 0, 0, x0, 1, 0, 0, 0, 0] 0)))), (h2, .inl (k 0, 36, .inl (tI [1, 0, 0, x0.toInt32, 1, 0, 0] 0)))] H := hP
  have hD : va_D A [(h0, .inr (8, [.int 2, .int 0, .int 1, .int 0, .int 0, .int 0, .ref h2, .ref h3, .int 0, .int 0, .ref h1, .ref h4, .ref h5, .ref h6, .ref h7, .ref h8, .ref h9, .int 0, .int 0, .int 0, .ref h10, .ref h11, .ref h12, .ref h13, .int 0, .int 0, .ref h14, .ref h15, .ref h16, .ref h17, .int 0, .int 0, .ref h18, .ref h19, .ref h20, .ref h21])), (h1, .inl (k 1, 9, .inr (.inl (tL [1, 0, 0, x0, 1, 0, 0, 0, 0] 0)))), (h2, .inl (k 0, 36, .inl (tI [1, 0, 0, x0.toInt32, 1, 0, 0] 0)))] := hD
  refine lv_iinc (v := 7) (lv' := [(1, .int 7), (0, .ref h0)]) hx hb dX11_comes_29 hl (k := 0) rfl (by decide) (by decide) rfl (fun ls hl => ?_)
  refine lv_goto (tgt := 2) hx hb dX11_comes_32 (by decide) ?_
  refine lv_iload_n hx hb dX11_comes_2 rfl (lv_at hl 0 rfl) ?_
  refine lv_bipush (v := 9) hx hb dX11_comes_3 (by decide) ?_
  refine lv_icmp_ge (tgt := 35) hx hb dX11_comes_5 (by decide) (fun cc => absurd cc (by decide +kernel)) (fun _ => ?_)
  refine lv_aload_n hx hb dX11_comes_8 rfl (lv_at hl 1 rfl) ?_
  refine va_get (D := D) (ci := 8) (v := .ref h2) (C := RX11) (T := TX11) (N := 36) hx hb hU iX11 hown hK.1 hP 0 rfl rfl 6 (by decide) (hU _ w791) (fun _ h9 => h9) rfl dX11_comes_9 ?_
  refine lv_bipush (v := 9) hx hb dX11_comes_12 (by decide) ?_
  refine lv_aload_n hx hb dX11_comes_14 rfl (lv_at hl 1 rfl) ?_
  refine va_get (D := D) (ci := 8) (v := .int 0) (C := RX11) (T := TX11) (N := 36) hx hb hU iX11 hown hK.1 hP 0 rfl rfl 1 (by decide) (hU _ w786) (fun _ h9 => h9) rfl dX11_comes_15 ?_
  refine lv_imul hx hb dX11_comes_18 (sv_i (v := 0) (by decide +kernel) ?_)
  refine lv_iload_n hx hb dX11_comes_19 rfl (lv_at hl 0 rfl) ?_
  refine lv_iadd hx hb dX11_comes_20 (sv_i (v := 7) (by decide +kernel) ?_)
  refine lv_aload_n hx hb dX11_comes_21 rfl (lv_at hl 1 rfl) ?_
  refine va_get (D := D) (ci := 8) (v := .ref h1) (C := RX11) (T := TX11) (N := 36) hx hb hU iX11 hown hK.1 hP 0 rfl rfl 10 (by decide) (hU _ w795) (fun _ h9 => h9) rfl dX11_comes_22 ?_
  refine lv_iload_n hx hb dX11_comes_25 rfl (lv_at hl 0 rfl) ?_
  refine ld_l (j := 7) (v := 0) hx hb hK hP 1 rfl (by decide +kernel) rfl dX11_comes_26 ?_
  refine lv_l2i (v := 0) hx hb dX11_comes_27 (by decide +kernel) ?_
  refine st_i (j := 7) (g := tI [1, 0, 0, x0.toInt32, 1, 0, 0, 0] 0) hx hb hK hP hD hS 2 rfl (by decide +kernel) upd_tI dX11_comes_28 (fun H locs hP hD hS => ?_)
  have hP : va_P D cl0 [(h0, .inr (8, [.int 2, .int 0, .int 1, .int 0, .int 0, .int 0, .ref h2, .ref h3, .int 0, .int 0, .ref h1, .ref h4, .ref h5, .ref h6, .ref h7, .ref h8, .ref h9, .int 0, .int 0, .int 0, .ref h10, .ref h11, .ref h12, .ref h13, .int 0, .int 0, .ref h14, .ref h15, .ref h16, .ref h17, .int 0, .int 0, .ref h18, .ref h19, .ref h20, .ref h21])), (h1, .inl (k 1, 9, .inr (.inl (tL [1, 0, 0, x0, 1, 0, 0, 0, 0] 0)))), (h2, .inl (k 0, 36, .inl (tI [1, 0, 0, x0.toInt32, 1, 0, 0, 0] 0)))] H := hP
  have hD : va_D A [(h0, .inr (8, [.int 2, .int 0, .int 1, .int 0, .int 0, .int 0, .ref h2, .ref h3, .int 0, .int 0, .ref h1, .ref h4, .ref h5, .ref h6, .ref h7, .ref h8, .ref h9, .int 0, .int 0, .int 0, .ref h10, .ref h11, .ref h12, .ref h13, .int 0, .int 0, .ref h14, .ref h15, .ref h16, .ref h17, .int 0, .int 0, .ref h18, .ref h19, .ref h20, .ref h21])), (h1, .inl (k 1, 9, .inr (.inl (tL [1, 0, 0, x0, 1, 0, 0, 0, 0] 0)))), (h2, .inl (k 0, 36, .inl (tI [1, 0, 0, x0.toInt32, 1, 0, 0, 0] 0)))] := hD
  refine lv_iinc (v := 8) (lv' := [(1, .int 8), (0, .ref h0)]) hx hb dX11_comes_29 hl (k := 0) rfl (by decide) (by decide) rfl (fun ls hl => ?_)
  refine lv_goto (tgt := 2) hx hb dX11_comes_32 (by decide) ?_
  refine lv_iload_n hx hb dX11_comes_2 rfl (lv_at hl 0 rfl) ?_
  refine lv_bipush (v := 9) hx hb dX11_comes_3 (by decide) ?_
  refine lv_icmp_ge (tgt := 35) hx hb dX11_comes_5 (by decide) (fun cc => absurd cc (by decide +kernel)) (fun _ => ?_)
  refine lv_aload_n hx hb dX11_comes_8 rfl (lv_at hl 1 rfl) ?_
  refine va_get (D := D) (ci := 8) (v := .ref h2) (C := RX11) (T := TX11) (N := 36) hx hb hU iX11 hown hK.1 hP 0 rfl rfl 6 (by decide) (hU _ w791) (fun _ h9 => h9) rfl dX11_comes_9 ?_
  refine lv_bipush (v := 9) hx hb dX11_comes_12 (by decide) ?_
  refine lv_aload_n hx hb dX11_comes_14 rfl (lv_at hl 1 rfl) ?_
  refine va_get (D := D) (ci := 8) (v := .int 0) (C := RX11) (T := TX11) (N := 36) hx hb hU iX11 hown hK.1 hP 0 rfl rfl 1 (by decide) (hU _ w786) (fun _ h9 => h9) rfl dX11_comes_15 ?_
  refine lv_imul hx hb dX11_comes_18 (sv_i (v := 0) (by decide +kernel) ?_)
  refine lv_iload_n hx hb dX11_comes_19 rfl (lv_at hl 0 rfl) ?_
  refine lv_iadd hx hb dX11_comes_20 (sv_i (v := 8) (by decide +kernel) ?_)
  refine lv_aload_n hx hb dX11_comes_21 rfl (lv_at hl 1 rfl) ?_
  refine va_get (D := D) (ci := 8) (v := .ref h1) (C := RX11) (T := TX11) (N := 36) hx hb hU iX11 hown hK.1 hP 0 rfl rfl 10 (by decide) (hU _ w795) (fun _ h9 => h9) rfl dX11_comes_22 ?_
  refine lv_iload_n hx hb dX11_comes_25 rfl (lv_at hl 0 rfl) ?_
  refine ld_l (j := 8) (v := 0) hx hb hK hP 1 rfl (by decide +kernel) rfl dX11_comes_26 ?_
  refine lv_l2i (v := 0) hx hb dX11_comes_27 (by decide +kernel) ?_
  refine st_i (j := 8) (g := tI [1, 0, 0, x0.toInt32, 1, 0, 0, 0, 0] 0) hx hb hK hP hD hS 2 rfl (by decide +kernel) upd_tI dX11_comes_28 (fun H locs hP hD hS => ?_)
  have hP : va_P D cl0 [(h0, .inr (8, [.int 2, .int 0, .int 1, .int 0, .int 0, .int 0, .ref h2, .ref h3, .int 0, .int 0, .ref h1, .ref h4, .ref h5, .ref h6, .ref h7, .ref h8, .ref h9, .int 0, .int 0, .int 0, .ref h10, .ref h11, .ref h12, .ref h13, .int 0, .int 0, .ref h14, .ref h15, .ref h16, .ref h17, .int 0, .int 0, .ref h18, .ref h19, .ref h20, .ref h21])), (h1, .inl (k 1, 9, .inr (.inl (tL [1, 0, 0, x0, 1, 0, 0, 0, 0] 0)))), (h2, .inl (k 0, 36, .inl (tI [1, 0, 0, x0.toInt32, 1, 0, 0, 0, 0] 0)))] H := hP
  have hD : va_D A [(h0, .inr (8, [.int 2, .int 0, .int 1, .int 0, .int 0, .int 0, .ref h2, .ref h3, .int 0, .int 0, .ref h1, .ref h4, .ref h5, .ref h6, .ref h7, .ref h8, .ref h9, .int 0, .int 0, .int 0, .ref h10, .ref h11, .ref h12, .ref h13, .int 0, .int 0, .ref h14, .ref h15, .ref h16, .ref h17, .int 0, .int 0, .ref h18, .ref h19, .ref h20, .ref h21])), (h1, .inl (k 1, 9, .inr (.inl (tL [1, 0, 0, x0, 1, 0, 0, 0, 0] 0)))), (h2, .inl (k 0, 36, .inl (tI [1, 0, 0, x0.toInt32, 1, 0, 0, 0, 0] 0)))] := hD
  refine lv_iinc (v := 9) (lv' := [(1, .int 9), (0, .ref h0)]) hx hb dX11_comes_29 hl (k := 0) rfl (by decide) (by decide) rfl (fun ls hl => ?_)
  refine lv_goto (tgt := 2) hx hb dX11_comes_32 (by decide) ?_
  refine lv_iload_n hx hb dX11_comes_2 rfl (lv_at hl 0 rfl) ?_
  refine lv_bipush (v := 9) hx hb dX11_comes_3 (by decide) ?_
  refine lv_icmp_ge (tgt := 35) hx hb dX11_comes_5 (by decide) (fun _ => ?_) (fun cc => absurd (by decide +kernel) cc)
  refine lv_aload_n hx hb dX11_comes_35 rfl (lv_at hl 1 rfl) ?_
  refine lv_dup hx hb dX11_comes_36 rfl ?_
  refine va_get (D := D) (ci := 8) (v := .int 0) (C := RX11) (T := TX11) (N := 36) hx hb hU iX11 hown hK.1 hP 0 rfl rfl 1 (by decide) (hU _ w786) (fun _ h9 => h9) rfl dX11_comes_37 ?_
  refine lv_iconst (v := 1) hx hb dX11_comes_40 (by decide) ?_
  refine lv_iadd hx hb dX11_comes_41 (sv_i (v := 1) (by decide +kernel) ?_)
  refine va_put (D := D) (ci := 8) (v := .int 1) (ty := .int) (C := RX11) (T := TX11) (N := 36) hx hb hU iX11 tyX11 tyX11_ok nmX11 hown hK.1 hP hD hS 0 rfl rfl 1 (by decide) (hU _ w786) (fun _ h9 => h9) rfl (by decide +kernel) rfl rfl (Nat.le_of_ble_eq_true rfl) dX11_comes_42 (fun H locs hP hD hS => ?_)
  have hP : va_P D cl0 [(h0, .inr (8, [.int 2, .int 1, .int 1, .int 0, .int 0, .int 0, .ref h2, .ref h3, .int 0, .int 0, .ref h1, .ref h4, .ref h5, .ref h6, .ref h7, .ref h8, .ref h9, .int 0, .int 0, .int 0, .ref h10, .ref h11, .ref h12, .ref h13, .int 0, .int 0, .ref h14, .ref h15, .ref h16, .ref h17, .int 0, .int 0, .ref h18, .ref h19, .ref h20, .ref h21])), (h1, .inl (k 1, 9, .inr (.inl (tL [1, 0, 0, x0, 1, 0, 0, 0, 0] 0)))), (h2, .inl (k 0, 36, .inl (tI [1, 0, 0, x0.toInt32, 1, 0, 0, 0, 0] 0)))] H := hP
  have hD : va_D A [(h0, .inr (8, [.int 2, .int 1, .int 1, .int 0, .int 0, .int 0, .ref h2, .ref h3, .int 0, .int 0, .ref h1, .ref h4, .ref h5, .ref h6, .ref h7, .ref h8, .ref h9, .int 0, .int 0, .int 0, .ref h10, .ref h11, .ref h12, .ref h13, .int 0, .int 0, .ref h14, .ref h15, .ref h16, .ref h17, .int 0, .int 0, .ref h18, .ref h19, .ref h20, .ref h21])), (h1, .inl (k 1, 9, .inr (.inl (tL [1, 0, 0, x0, 1, 0, 0, 0, 0] 0)))), (h2, .inl (k 0, 36, .inl (tI [1, 0, 0, x0.toInt32, 1, 0, 0, 0, 0] 0)))] := hD
  refine lv_aload_n hx hb dX11_comes_45 rfl (lv_at hl 1 rfl) ?_
  refine lv_iconst (v := 0) hx hb dX11_comes_46 (by decide) ?_
  refine va_put (D := D) (ci := 8) (v := .int 0) (ty := .boolean) (C := RX11) (T := TX11) (N := 36) hx hb hU iX11 tyX11 tyX11_ok nmX11 hown hK.1 hP hD hS 0 rfl rfl 9 (by decide) (hU _ w794) (fun _ h9 => h9) rfl (by decide +kernel) rfl rfl (Nat.le_of_ble_eq_true rfl) dX11_comes_47 (fun H locs hP hD hS => ?_)
  have hP : va_P D cl0 [(h0, .inr (8, [.int 2, .int 1, .int 1, .int 0, .int 0, .int 0, .ref h2, .ref h3, .int 0, .int 0, .ref h1, .ref h4, .ref h5, .ref h6, .ref h7, .ref h8, .ref h9, .int 0, .int 0, .int 0, .ref h10, .ref h11, .ref h12, .ref h13, .int 0, .int 0, .ref h14, .ref h15, .ref h16, .ref h17, .int 0, .int 0, .ref h18, .ref h19, .ref h20, .ref h21])), (h1, .inl (k 1, 9, .inr (.inl (tL [1, 0, 0, x0, 1, 0, 0, 0, 0] 0)))), (h2, .inl (k 0, 36, .inl (tI [1, 0, 0, x0.toInt32, 1, 0, 0, 0, 0] 0)))] H := hP
  have hD : va_D A [(h0, .inr (8, [.int 2, .int 1, .int 1, .int 0, .int 0, .int 0, .ref h2, .ref h3, .int 0, .int 0, .ref h1, .ref h4, .ref h5, .ref h6, .ref h7, .ref h8, .ref h9, .int 0, .int 0, .int 0, .ref h10, .ref h11, .ref h12, .ref h13, .int 0, .int 0, .ref h14, .ref h15, .ref h16, .ref h17, .int 0, .int 0, .ref h18, .ref h19, .ref h20, .ref h21])), (h1, .inl (k 1, 9, .inr (.inl (tL [1, 0, 0, x0, 1, 0, 0, 0, 0] 0)))), (h2, .inl (k 0, 36, .inl (tI [1, 0, 0, x0.toInt32, 1, 0, 0, 0, 0] 0)))] := hD
  refine lv_aload_n hx hb dX11_comes_50 rfl (lv_at hl 1 rfl) ?_
  refine lv_iconst (v := 0) hx hb dX11_comes_51 (by decide) ?_
  refine va_put (D := D) (ci := 8) (v := .int 0) (ty := .int) (C := RX11) (T := TX11) (N := 36) hx hb hU iX11 tyX11 tyX11_ok nmX11 hown hK.1 hP hD hS 0 rfl rfl 30 (by decide) (hU _ w815) (fun _ h9 => h9) rfl (by decide +kernel) rfl rfl (Nat.le_of_ble_eq_true rfl) dX11_comes_52 (fun H locs hP hD hS => ?_)
  have hP : va_P D cl0 [(h0, .inr (8, [.int 2, .int 1, .int 1, .int 0, .int 0, .int 0, .ref h2, .ref h3, .int 0, .int 0, .ref h1, .ref h4, .ref h5, .ref h6, .ref h7, .ref h8, .ref h9, .int 0, .int 0, .int 0, .ref h10, .ref h11, .ref h12, .ref h13, .int 0, .int 0, .ref h14, .ref h15, .ref h16, .ref h17, .int 0, .int 0, .ref h18, .ref h19, .ref h20, .ref h21])), (h1, .inl (k 1, 9, .inr (.inl (tL [1, 0, 0, x0, 1, 0, 0, 0, 0] 0)))), (h2, .inl (k 0, 36, .inl (tI [1, 0, 0, x0.toInt32, 1, 0, 0, 0, 0] 0)))] H := hP
  have hD : va_D A [(h0, .inr (8, [.int 2, .int 1, .int 1, .int 0, .int 0, .int 0, .ref h2, .ref h3, .int 0, .int 0, .ref h1, .ref h4, .ref h5, .ref h6, .ref h7, .ref h8, .ref h9, .int 0, .int 0, .int 0, .ref h10, .ref h11, .ref h12, .ref h13, .int 0, .int 0, .ref h14, .ref h15, .ref h16, .ref h17, .int 0, .int 0, .ref h18, .ref h19, .ref h20, .ref h21])), (h1, .inl (k 1, 9, .inr (.inl (tL [1, 0, 0, x0, 1, 0, 0, 0, 0] 0)))), (h2, .inl (k 0, 36, .inl (tI [1, 0, 0, x0.toInt32, 1, 0, 0, 0, 0] 0)))] := hD
  refine lv_aload_n hx hb dX11_comes_55 rfl (lv_at hl 1 rfl) ?_
  refine va_get (D := D) (ci := 8) (v := .int 1) (C := RX11) (T := TX11) (N := 36) hx hb hU iX11 hown hK.1 hP 0 rfl rfl 1 (by decide) (hU _ w786) (fun _ h9 => h9) rfl dX11_comes_56 ?_
  refine lv_iconst (v := 1) hx hb dX11_comes_59 (by decide) ?_
  refine lv_isub hx hb dX11_comes_60 (sv_i (v := 0) (by decide +kernel) ?_)
  exact retI (v := 0) hx hb hr hlocks hS (⟨rfl, hP, hD⟩) dX11_comes_61
abbrev BX11_makesUnit_5 (D : va_G) (k : Nat → ClassId) (h0 h1 h2 h3 h4 h5 h6 h7 h8 h9 h10 h11 h12 h13 h14 h15 h16 h17 h18 h19 h20 h21 : Nat) (A : Nat → Prop) (H : Heap) : Prop := va_P D cl0 [(h0, .inr (8, [.int 2, .int 0, .int 1, .int 0, .int 0, .int 0, .ref h2, .ref h3, .int 0, .int 0, .ref h1, .ref h4, .ref h5, .ref h6, .ref h7, .ref h8, .ref h9, .int 0, .int 0, .int 0, .ref h10, .ref h11, .ref h12, .ref h13, .int 0, .int 0, .ref h14, .ref h15, .ref h16, .ref h17, .int 0, .int 0, .ref h18, .ref h19, .ref h20, .ref h21])), (h1, .inl (k 1, 9, .inr (.inl (tL [1, 0, 0, 0, 1, 0, 0, 0, 0] 0))))] H ∧ va_D A [(h0, .inr (8, [.int 2, .int 0, .int 1, .int 0, .int 0, .int 0, .ref h2, .ref h3, .int 0, .int 0, .ref h1, .ref h4, .ref h5, .ref h6, .ref h7, .ref h8, .ref h9, .int 0, .int 0, .int 0, .ref h10, .ref h11, .ref h12, .ref h13, .int 0, .int 0, .ref h14, .ref h15, .ref h16, .ref h17, .int 0, .int 0, .ref h18, .ref h19, .ref h20, .ref h21])), (h1, .inl (k 1, 9, .inr (.inl (tL [1, 0, 0, 0, 1, 0, 0, 0, 0] 0))))]
set_option maxHeartbeats 4000000 in
set_option maxRecDepth 100000 in
theorem cX11_makesUnit_5 (l : Launch) (D : va_G) (k : Nat → ClassId) (sz : Nat) (h0 h1 h2 h3 h4 h5 h6 h7 h8 h9 h10 h11 h12 h13 h14 h15 h16 h17 h18 h19 h20 h21 : Nat) : Met l yX11_makesUnit (Cond.code yX11_makesUnit cX11_makesUnit 4 none :: uw) ({ frames := 2, cells := 0, slots := 0, locals := 44 }) (pC D k sz [.ref h0, .int 1, .int 1, .int 1] [(h0, .inr (8, [.int 2, .int 0, .int 1, .int 0, .int 0, .int 0, .ref h2, .ref h3, .int 0, .int 0, .ref h1, .ref h4, .ref h5, .ref h6, .ref h7, .ref h8, .ref h9, .int 0, .int 0, .int 0, .ref h10, .ref h11, .ref h12, .ref h13, .int 0, .int 0, .ref h14, .ref h15, .ref h16, .ref h17, .int 0, .int 0, .ref h18, .ref h19, .ref h20, .ref h21])), (h1, .inl (k 1, 9, .inr (.inl (tL [] 0))))]) (qV (BX11_makesUnit_5 D k h0 h1 h2 h3 h4 h5 h6 h7 h8 h9 h10 h11 h12 h13 h14 h15 h16 h17 h18 h19 h20 h21 (va_A [(h0, .inr (8, [.int 2, .int 0, .int 1, .int 0, .int 0, .int 0, .ref h2, .ref h3, .int 0, .int 0, .ref h1, .ref h4, .ref h5, .ref h6, .ref h7, .ref h8, .ref h9, .int 0, .int 0, .int 0, .ref h10, .ref h11, .ref h12, .ref h13, .int 0, .int 0, .ref h14, .ref h15, .ref h16, .ref h17, .int 0, .int 0, .ref h18, .ref h19, .ref h20, .ref h21])), (h1, .inl (k 1, 9, .inr (.inl (tL [] 0))))] sz)) (va_A [(h0, .inr (8, [.int 2, .int 0, .int 1, .int 0, .int 0, .int 0, .ref h2, .ref h3, .int 0, .int 0, .ref h1, .ref h4, .ref h5, .ref h6, .ref h7, .ref h8, .ref h9, .int 0, .int 0, .int 0, .ref h10, .ref h11, .ref h12, .ref h13, .int 0, .int 0, .ref h14, .ref h15, .ref h16, .ref h17, .int 0, .int 0, .ref h18, .ref h19, .ref h20, .ref h21])), (h1, .inl (k 1, 9, .inr (.inl (tL [] 0))))] sz)) 0 0 (va_A [(h0, .inr (8, [.int 2, .int 0, .int 1, .int 0, .int 0, .int 0, .ref h2, .ref h3, .int 0, .int 0, .ref h1, .ref h4, .ref h5, .ref h6, .ref h7, .ref h8, .ref h9, .int 0, .int 0, .int 0, .ref h10, .ref h11, .ref h12, .ref h13, .int 0, .int 0, .ref h14, .ref h15, .ref h16, .ref h17, .int 0, .int 0, .ref h18, .ref h19, .ref h20, .ref h21])), (h1, .inl (k 1, 9, .inr (.inl (tL [] 0))))] sz) := by
  refine begin_ (Qc := fun A => qV (BX11_makesUnit_5 D k h0 h1 h2 h3 h4 h5 h6 h7 h8 h9 h10 h11 h12 h13 h14 h15 h16 h17 h18 h19 h20 h21 A) A) (by decide) (Nat.le_of_ble_eq_true rfl) ?_
  intro p e s m below meth c ls A hx hb hr hml hown hlocks hin hU hK hsz hP hD hS hA hl
  have hl : lv_has ls 4 [(0, .ref h0), (1, .int 1), (2, .int 1), (3, .int 1)] := hl
  clear hsz
  refine lv_aload_n hx hb dX11_makesUnit_0 rfl (lv_at hl 0 rfl) ?_
  refine lv_aload_n hx hb dX11_makesUnit_1 rfl (lv_at hl 0 rfl) ?_
  refine va_get (D := D) (ci := 8) (v := .ref h1) (C := RX11) (T := TX11) (N := 36) hx hb hU iX11 hown hK.1 hP 0 rfl rfl 10 (by decide) (hU _ w795) (fun _ h9 => h9) rfl dX11_makesUnit_2 ?_
  refine cV (rV (q0 := 0) (ci := 8) (As := [.ref h1]) (rest := []) (wc := [(h1, .inl (k 1, 9, .inr (.inl (tL [] 0)))), (h0, .inr (8, [.int 2, .int 0, .int 1, .int 0, .int 0, .int 0, .ref h2, .ref h3, .int 0, .int 0, .ref h1, .ref h4, .ref h5, .ref h6, .ref h7, .ref h8, .ref h9, .int 0, .int 0, .int 0, .ref h10, .ref h11, .ref h12, .ref h13, .int 0, .int 0, .ref h14, .ref h15, .ref h16, .ref h17, .int 0, .int 0, .ref h18, .ref h19, .ref h20, .ref h21]))]) hx hb hml hown hU hK hP hD rfl rfl [1, 0] rfl (by decide) (cX11_first_1 l D k _ h1 h0 h2 h3 h4 h5 h6 h7 h8 h9 h10 h11 h12 h13 h14 h15 h16 h17 h18 h19 h20 h21) w919 w916 w918 w28 w72 hdX11_first ⟨rfl, rfl⟩ ⟨Nat.le_of_ble_eq_true rfl, Nat.le_of_ble_eq_true rfl⟩ rfl hl.1 (Nat.le_of_ble_eq_true rfl) dX11_makesUnit_5 ⟨Nat.le_of_ble_eq_true rfl, Nat.le_of_ble_eq_true rfl⟩) hP hD hS hA (wr := []) [1, 0] [] rfl rfl (by decide) (by decide) (fun H locs hB J hS => ?_)
  obtain ⟨hP1, hD1⟩ := hB
  obtain ⟨hP, hD⟩ := J _ hP1 hD1
  have hP : va_P D cl0 [(h0, .inr (8, [.int 2, .int 0, .int 1, .int 0, .int 0, .int 0, .ref h2, .ref h3, .int 0, .int 0, .ref h1, .ref h4, .ref h5, .ref h6, .ref h7, .ref h8, .ref h9, .int 0, .int 0, .int 0, .ref h10, .ref h11, .ref h12, .ref h13, .int 0, .int 0, .ref h14, .ref h15, .ref h16, .ref h17, .int 0, .int 0, .ref h18, .ref h19, .ref h20, .ref h21])), (h1, .inl (k 1, 9, .inr (.inl (tL [1, 0, 0, 0, 1, 0, 0, 0, 0] 0))))] H := hP
  have hD : va_D A [(h0, .inr (8, [.int 2, .int 0, .int 1, .int 0, .int 0, .int 0, .ref h2, .ref h3, .int 0, .int 0, .ref h1, .ref h4, .ref h5, .ref h6, .ref h7, .ref h8, .ref h9, .int 0, .int 0, .int 0, .ref h10, .ref h11, .ref h12, .ref h13, .int 0, .int 0, .ref h14, .ref h15, .ref h16, .ref h17, .int 0, .int 0, .ref h18, .ref h19, .ref h20, .ref h21])), (h1, .inl (k 1, 9, .inr (.inl (tL [1, 0, 0, 0, 1, 0, 0, 0, 0] 0))))] := hD
  refine lv_aload_n hx hb dX11_makesUnit_8 rfl (lv_at hl 0 rfl) ?_
  refine va_get (D := D) (ci := 8) (v := .ref h1) (C := RX11) (T := TX11) (N := 36) hx hb hU iX11 hown hK.1 hP 0 rfl rfl 10 (by decide) (hU _ w795) (fun _ h9 => h9) rfl dX11_makesUnit_9 ?_
  refine lv_iconst (v := 3) hx hb dX11_makesUnit_12 (by decide) ?_
  refine lv_iload_n hx hb dX11_makesUnit_13 rfl (lv_at hl 1 rfl) ?_
  refine lv_imul hx hb dX11_makesUnit_14 (sv_i (v := 3) (by decide +kernel) ?_)
  refine lv_iload_n hx hb dX11_makesUnit_15 rfl (lv_at hl 2 rfl) ?_
  refine lv_iadd hx hb dX11_makesUnit_16 (sv_i (v := 4) (by decide +kernel) ?_)
  refine lv_iload_n hx hb dX11_makesUnit_17 rfl (lv_at hl 3 rfl) ?_
  refine lv_i2l (v := 1) hx hb dX11_makesUnit_18 (by decide +kernel) ?_
  refine st_l (j := 4) (g := tL [1, 0, 0, 0, 1, 0, 0, 0, 0] 0) hx hb hK hP hD hS 1 rfl (by decide +kernel) upd_tL dX11_makesUnit_19 (fun H locs hP hD hS => ?_)
  have hP : va_P D cl0 [(h0, .inr (8, [.int 2, .int 0, .int 1, .int 0, .int 0, .int 0, .ref h2, .ref h3, .int 0, .int 0, .ref h1, .ref h4, .ref h5, .ref h6, .ref h7, .ref h8, .ref h9, .int 0, .int 0, .int 0, .ref h10, .ref h11, .ref h12, .ref h13, .int 0, .int 0, .ref h14, .ref h15, .ref h16, .ref h17, .int 0, .int 0, .ref h18, .ref h19, .ref h20, .ref h21])), (h1, .inl (k 1, 9, .inr (.inl (tL [1, 0, 0, 0, 1, 0, 0, 0, 0] 0))))] H := hP
  have hD : va_D A [(h0, .inr (8, [.int 2, .int 0, .int 1, .int 0, .int 0, .int 0, .ref h2, .ref h3, .int 0, .int 0, .ref h1, .ref h4, .ref h5, .ref h6, .ref h7, .ref h8, .ref h9, .int 0, .int 0, .int 0, .ref h10, .ref h11, .ref h12, .ref h13, .int 0, .int 0, .ref h14, .ref h15, .ref h16, .ref h17, .int 0, .int 0, .ref h18, .ref h19, .ref h20, .ref h21])), (h1, .inl (k 1, 9, .inr (.inl (tL [1, 0, 0, 0, 1, 0, 0, 0, 0] 0))))] := hD
  exact retV hx hb hr hlocks hS (⟨hP, hD⟩) dX11_makesUnit_20
abbrev BX11_makesUnit_6 (D : va_G) (k : Nat → ClassId) (h0 h1 h2 h3 h4 h5 h6 h7 h8 h9 h10 h11 h12 h13 h14 h15 h16 h17 h18 h19 h20 h21 : Nat) (A : Nat → Prop) (H : Heap) : Prop := va_P D cl0 [(h0, .inr (8, [.int 2, .int 0, .int 1, .int 0, .int 0, .int 0, .ref h2, .ref h3, .int 0, .int 0, .ref h1, .ref h4, .ref h5, .ref h6, .ref h7, .ref h8, .ref h9, .int 0, .int 0, .int 0, .ref h10, .ref h11, .ref h12, .ref h13, .int 0, .int 0, .ref h14, .ref h15, .ref h16, .ref h17, .int 0, .int 0, .ref h18, .ref h19, .ref h20, .ref h21])), (h1, .inl (k 1, 9, .inr (.inl (tL [1, 0, 0, 0, (-1), 0, 0, 0, 0] 0))))] H ∧ va_D A [(h0, .inr (8, [.int 2, .int 0, .int 1, .int 0, .int 0, .int 0, .ref h2, .ref h3, .int 0, .int 0, .ref h1, .ref h4, .ref h5, .ref h6, .ref h7, .ref h8, .ref h9, .int 0, .int 0, .int 0, .ref h10, .ref h11, .ref h12, .ref h13, .int 0, .int 0, .ref h14, .ref h15, .ref h16, .ref h17, .int 0, .int 0, .ref h18, .ref h19, .ref h20, .ref h21])), (h1, .inl (k 1, 9, .inr (.inl (tL [1, 0, 0, 0, (-1), 0, 0, 0, 0] 0))))]
set_option maxHeartbeats 4000000 in
set_option maxRecDepth 100000 in
theorem cX11_makesUnit_6 (l : Launch) (D : va_G) (k : Nat → ClassId) (sz : Nat) (h0 h1 h2 h3 h4 h5 h6 h7 h8 h9 h10 h11 h12 h13 h14 h15 h16 h17 h18 h19 h20 h21 : Nat) : Met l yX11_makesUnit (Cond.code yX11_makesUnit cX11_makesUnit 4 none :: uw) ({ frames := 2, cells := 0, slots := 0, locals := 44 }) (pC D k sz [.ref h0, .int 1, .int 1, .int (-1)] [(h0, .inr (8, [.int 2, .int 0, .int 1, .int 0, .int 0, .int 0, .ref h2, .ref h3, .int 0, .int 0, .ref h1, .ref h4, .ref h5, .ref h6, .ref h7, .ref h8, .ref h9, .int 0, .int 0, .int 0, .ref h10, .ref h11, .ref h12, .ref h13, .int 0, .int 0, .ref h14, .ref h15, .ref h16, .ref h17, .int 0, .int 0, .ref h18, .ref h19, .ref h20, .ref h21])), (h1, .inl (k 1, 9, .inr (.inl (tL [] 0))))]) (qV (BX11_makesUnit_6 D k h0 h1 h2 h3 h4 h5 h6 h7 h8 h9 h10 h11 h12 h13 h14 h15 h16 h17 h18 h19 h20 h21 (va_A [(h0, .inr (8, [.int 2, .int 0, .int 1, .int 0, .int 0, .int 0, .ref h2, .ref h3, .int 0, .int 0, .ref h1, .ref h4, .ref h5, .ref h6, .ref h7, .ref h8, .ref h9, .int 0, .int 0, .int 0, .ref h10, .ref h11, .ref h12, .ref h13, .int 0, .int 0, .ref h14, .ref h15, .ref h16, .ref h17, .int 0, .int 0, .ref h18, .ref h19, .ref h20, .ref h21])), (h1, .inl (k 1, 9, .inr (.inl (tL [] 0))))] sz)) (va_A [(h0, .inr (8, [.int 2, .int 0, .int 1, .int 0, .int 0, .int 0, .ref h2, .ref h3, .int 0, .int 0, .ref h1, .ref h4, .ref h5, .ref h6, .ref h7, .ref h8, .ref h9, .int 0, .int 0, .int 0, .ref h10, .ref h11, .ref h12, .ref h13, .int 0, .int 0, .ref h14, .ref h15, .ref h16, .ref h17, .int 0, .int 0, .ref h18, .ref h19, .ref h20, .ref h21])), (h1, .inl (k 1, 9, .inr (.inl (tL [] 0))))] sz)) 0 0 (va_A [(h0, .inr (8, [.int 2, .int 0, .int 1, .int 0, .int 0, .int 0, .ref h2, .ref h3, .int 0, .int 0, .ref h1, .ref h4, .ref h5, .ref h6, .ref h7, .ref h8, .ref h9, .int 0, .int 0, .int 0, .ref h10, .ref h11, .ref h12, .ref h13, .int 0, .int 0, .ref h14, .ref h15, .ref h16, .ref h17, .int 0, .int 0, .ref h18, .ref h19, .ref h20, .ref h21])), (h1, .inl (k 1, 9, .inr (.inl (tL [] 0))))] sz) := by
  refine begin_ (Qc := fun A => qV (BX11_makesUnit_6 D k h0 h1 h2 h3 h4 h5 h6 h7 h8 h9 h10 h11 h12 h13 h14 h15 h16 h17 h18 h19 h20 h21 A) A) (by decide) (Nat.le_of_ble_eq_true rfl) ?_
  intro p e s m below meth c ls A hx hb hr hml hown hlocks hin hU hK hsz hP hD hS hA hl
  have hl : lv_has ls 4 [(0, .ref h0), (1, .int 1), (2, .int 1), (3, .int (-1))] := hl
  clear hsz
  refine lv_aload_n hx hb dX11_makesUnit_0 rfl (lv_at hl 0 rfl) ?_
  refine lv_aload_n hx hb dX11_makesUnit_1 rfl (lv_at hl 0 rfl) ?_
  refine va_get (D := D) (ci := 8) (v := .ref h1) (C := RX11) (T := TX11) (N := 36) hx hb hU iX11 hown hK.1 hP 0 rfl rfl 10 (by decide) (hU _ w795) (fun _ h9 => h9) rfl dX11_makesUnit_2 ?_
  refine cV (rV (q0 := 0) (ci := 8) (As := [.ref h1]) (rest := []) (wc := [(h1, .inl (k 1, 9, .inr (.inl (tL [] 0)))), (h0, .inr (8, [.int 2, .int 0, .int 1, .int 0, .int 0, .int 0, .ref h2, .ref h3, .int 0, .int 0, .ref h1, .ref h4, .ref h5, .ref h6, .ref h7, .ref h8, .ref h9, .int 0, .int 0, .int 0, .ref h10, .ref h11, .ref h12, .ref h13, .int 0, .int 0, .ref h14, .ref h15, .ref h16, .ref h17, .int 0, .int 0, .ref h18, .ref h19, .ref h20, .ref h21]))]) hx hb hml hown hU hK hP hD rfl rfl [1, 0] rfl (by decide) (cX11_first_1 l D k _ h1 h0 h2 h3 h4 h5 h6 h7 h8 h9 h10 h11 h12 h13 h14 h15 h16 h17 h18 h19 h20 h21) w919 w916 w918 w28 w72 hdX11_first ⟨rfl, rfl⟩ ⟨Nat.le_of_ble_eq_true rfl, Nat.le_of_ble_eq_true rfl⟩ rfl hl.1 (Nat.le_of_ble_eq_true rfl) dX11_makesUnit_5 ⟨Nat.le_of_ble_eq_true rfl, Nat.le_of_ble_eq_true rfl⟩) hP hD hS hA (wr := []) [1, 0] [] rfl rfl (by decide) (by decide) (fun H locs hB J hS => ?_)
  obtain ⟨hP1, hD1⟩ := hB
  obtain ⟨hP, hD⟩ := J _ hP1 hD1
  have hP : va_P D cl0 [(h0, .inr (8, [.int 2, .int 0, .int 1, .int 0, .int 0, .int 0, .ref h2, .ref h3, .int 0, .int 0, .ref h1, .ref h4, .ref h5, .ref h6, .ref h7, .ref h8, .ref h9, .int 0, .int 0, .int 0, .ref h10, .ref h11, .ref h12, .ref h13, .int 0, .int 0, .ref h14, .ref h15, .ref h16, .ref h17, .int 0, .int 0, .ref h18, .ref h19, .ref h20, .ref h21])), (h1, .inl (k 1, 9, .inr (.inl (tL [1, 0, 0, 0, 1, 0, 0, 0, 0] 0))))] H := hP
  have hD : va_D A [(h0, .inr (8, [.int 2, .int 0, .int 1, .int 0, .int 0, .int 0, .ref h2, .ref h3, .int 0, .int 0, .ref h1, .ref h4, .ref h5, .ref h6, .ref h7, .ref h8, .ref h9, .int 0, .int 0, .int 0, .ref h10, .ref h11, .ref h12, .ref h13, .int 0, .int 0, .ref h14, .ref h15, .ref h16, .ref h17, .int 0, .int 0, .ref h18, .ref h19, .ref h20, .ref h21])), (h1, .inl (k 1, 9, .inr (.inl (tL [1, 0, 0, 0, 1, 0, 0, 0, 0] 0))))] := hD
  refine lv_aload_n hx hb dX11_makesUnit_8 rfl (lv_at hl 0 rfl) ?_
  refine va_get (D := D) (ci := 8) (v := .ref h1) (C := RX11) (T := TX11) (N := 36) hx hb hU iX11 hown hK.1 hP 0 rfl rfl 10 (by decide) (hU _ w795) (fun _ h9 => h9) rfl dX11_makesUnit_9 ?_
  refine lv_iconst (v := 3) hx hb dX11_makesUnit_12 (by decide) ?_
  refine lv_iload_n hx hb dX11_makesUnit_13 rfl (lv_at hl 1 rfl) ?_
  refine lv_imul hx hb dX11_makesUnit_14 (sv_i (v := 3) (by decide +kernel) ?_)
  refine lv_iload_n hx hb dX11_makesUnit_15 rfl (lv_at hl 2 rfl) ?_
  refine lv_iadd hx hb dX11_makesUnit_16 (sv_i (v := 4) (by decide +kernel) ?_)
  refine lv_iload_n hx hb dX11_makesUnit_17 rfl (lv_at hl 3 rfl) ?_
  refine lv_i2l (v := (-1)) hx hb dX11_makesUnit_18 (by decide +kernel) ?_
  refine st_l (j := 4) (g := tL [1, 0, 0, 0, (-1), 0, 0, 0, 0] 0) hx hb hK hP hD hS 1 rfl (by decide +kernel) upd_tL dX11_makesUnit_19 (fun H locs hP hD hS => ?_)
  have hP : va_P D cl0 [(h0, .inr (8, [.int 2, .int 0, .int 1, .int 0, .int 0, .int 0, .ref h2, .ref h3, .int 0, .int 0, .ref h1, .ref h4, .ref h5, .ref h6, .ref h7, .ref h8, .ref h9, .int 0, .int 0, .int 0, .ref h10, .ref h11, .ref h12, .ref h13, .int 0, .int 0, .ref h14, .ref h15, .ref h16, .ref h17, .int 0, .int 0, .ref h18, .ref h19, .ref h20, .ref h21])), (h1, .inl (k 1, 9, .inr (.inl (tL [1, 0, 0, 0, (-1), 0, 0, 0, 0] 0))))] H := hP
  have hD : va_D A [(h0, .inr (8, [.int 2, .int 0, .int 1, .int 0, .int 0, .int 0, .ref h2, .ref h3, .int 0, .int 0, .ref h1, .ref h4, .ref h5, .ref h6, .ref h7, .ref h8, .ref h9, .int 0, .int 0, .int 0, .ref h10, .ref h11, .ref h12, .ref h13, .int 0, .int 0, .ref h14, .ref h15, .ref h16, .ref h17, .int 0, .int 0, .ref h18, .ref h19, .ref h20, .ref h21])), (h1, .inl (k 1, 9, .inr (.inl (tL [1, 0, 0, 0, (-1), 0, 0, 0, 0] 0))))] := hD
  exact retV hx hb hr hlocks hS (⟨hP, hD⟩) dX11_makesUnit_20
abbrev BX11_comes_5 (D : va_G) (k : Nat → ClassId) (h0 h1 h2 h3 h4 h5 h6 h7 h8 h9 h10 h11 h12 h13 h14 h15 h16 h17 h18 h19 h20 h21 : Nat) (A : Nat → Prop) (r : Int32) (H : Heap) : Prop := 0 = r ∧ va_P D cl0 [(h0, .inr (8, [.int 2, .int 1, .int 1, .int 0, .int 0, .int 0, .ref h2, .ref h3, .int 0, .int 0, .ref h1, .ref h4, .ref h5, .ref h6, .ref h7, .ref h8, .ref h9, .int 0, .int 0, .int 0, .ref h10, .ref h11, .ref h12, .ref h13, .int 0, .int 0, .ref h14, .ref h15, .ref h16, .ref h17, .int 0, .int 0, .ref h18, .ref h19, .ref h20, .ref h21])), (h1, .inl (k 1, 9, .inr (.inl (tL [1, 0, 0, 0, (-1), 0, 0, 0, 0] 0)))), (h2, .inl (k 0, 36, .inl (tI [1, 0, 0, 0, (-1), 0, 0, 0, 0] 0)))] H ∧ va_D A [(h0, .inr (8, [.int 2, .int 1, .int 1, .int 0, .int 0, .int 0, .ref h2, .ref h3, .int 0, .int 0, .ref h1, .ref h4, .ref h5, .ref h6, .ref h7, .ref h8, .ref h9, .int 0, .int 0, .int 0, .ref h10, .ref h11, .ref h12, .ref h13, .int 0, .int 0, .ref h14, .ref h15, .ref h16, .ref h17, .int 0, .int 0, .ref h18, .ref h19, .ref h20, .ref h21])), (h1, .inl (k 1, 9, .inr (.inl (tL [1, 0, 0, 0, (-1), 0, 0, 0, 0] 0)))), (h2, .inl (k 0, 36, .inl (tI [1, 0, 0, 0, (-1), 0, 0, 0, 0] 0)))]
set_option maxHeartbeats 4000000 in
set_option maxRecDepth 100000 in
theorem cX11_comes_5 (l : Launch) (D : va_G) (k : Nat → ClassId) (sz : Nat) (h0 h1 h2 h3 h4 h5 h6 h7 h8 h9 h10 h11 h12 h13 h14 h15 h16 h17 h18 h19 h20 h21 : Nat) : Met l yX11_comes (Cond.code yX11_comes cX11_comes 2 (some .int) :: uw) ({ frames := 0, cells := 0, slots := 0, locals := 0 }) (pC D k sz [.ref h0] [(h0, .inr (8, [.int 2, .int 0, .int 1, .int 0, .int 0, .int 0, .ref h2, .ref h3, .int 0, .int 0, .ref h1, .ref h4, .ref h5, .ref h6, .ref h7, .ref h8, .ref h9, .int 0, .int 0, .int 0, .ref h10, .ref h11, .ref h12, .ref h13, .int 0, .int 0, .ref h14, .ref h15, .ref h16, .ref h17, .int 0, .int 0, .ref h18, .ref h19, .ref h20, .ref h21])), (h1, .inl (k 1, 9, .inr (.inl (tL [1, 0, 0, 0, (-1), 0, 0, 0, 0] 0)))), (h2, .inl (k 0, 36, .inl (tI [] 0)))]) (qI (BX11_comes_5 D k h0 h1 h2 h3 h4 h5 h6 h7 h8 h9 h10 h11 h12 h13 h14 h15 h16 h17 h18 h19 h20 h21 (va_A [(h0, .inr (8, [.int 2, .int 0, .int 1, .int 0, .int 0, .int 0, .ref h2, .ref h3, .int 0, .int 0, .ref h1, .ref h4, .ref h5, .ref h6, .ref h7, .ref h8, .ref h9, .int 0, .int 0, .int 0, .ref h10, .ref h11, .ref h12, .ref h13, .int 0, .int 0, .ref h14, .ref h15, .ref h16, .ref h17, .int 0, .int 0, .ref h18, .ref h19, .ref h20, .ref h21])), (h1, .inl (k 1, 9, .inr (.inl (tL [1, 0, 0, 0, (-1), 0, 0, 0, 0] 0)))), (h2, .inl (k 0, 36, .inl (tI [] 0)))] sz)) (va_A [(h0, .inr (8, [.int 2, .int 0, .int 1, .int 0, .int 0, .int 0, .ref h2, .ref h3, .int 0, .int 0, .ref h1, .ref h4, .ref h5, .ref h6, .ref h7, .ref h8, .ref h9, .int 0, .int 0, .int 0, .ref h10, .ref h11, .ref h12, .ref h13, .int 0, .int 0, .ref h14, .ref h15, .ref h16, .ref h17, .int 0, .int 0, .ref h18, .ref h19, .ref h20, .ref h21])), (h1, .inl (k 1, 9, .inr (.inl (tL [1, 0, 0, 0, (-1), 0, 0, 0, 0] 0)))), (h2, .inl (k 0, 36, .inl (tI [] 0)))] sz)) 0 0 (va_A [(h0, .inr (8, [.int 2, .int 0, .int 1, .int 0, .int 0, .int 0, .ref h2, .ref h3, .int 0, .int 0, .ref h1, .ref h4, .ref h5, .ref h6, .ref h7, .ref h8, .ref h9, .int 0, .int 0, .int 0, .ref h10, .ref h11, .ref h12, .ref h13, .int 0, .int 0, .ref h14, .ref h15, .ref h16, .ref h17, .int 0, .int 0, .ref h18, .ref h19, .ref h20, .ref h21])), (h1, .inl (k 1, 9, .inr (.inl (tL [1, 0, 0, 0, (-1), 0, 0, 0, 0] 0)))), (h2, .inl (k 0, 36, .inl (tI [] 0)))] sz) := by
  refine begin_ (Qc := fun A => qI (BX11_comes_5 D k h0 h1 h2 h3 h4 h5 h6 h7 h8 h9 h10 h11 h12 h13 h14 h15 h16 h17 h18 h19 h20 h21 A) A) (by decide) (Nat.le_of_ble_eq_true rfl) ?_
  intro p e s m below meth c ls A hx hb hr hml hown hlocks hin hU hK hsz hP hD hS hA hl
  have hl : lv_has ls 2 [(0, .ref h0)] := hl
  clear hsz
  refine lv_iconst (v := 0) hx hb dX11_comes_0 (by decide) ?_
  refine lv_istore_n (lv' := [(1, .int 0), (0, .ref h0)]) hx hb dX11_comes_1 rfl hl (by decide) rfl (fun ls hl => ?_)
  refine lv_iload_n hx hb dX11_comes_2 rfl (lv_at hl 0 rfl) ?_
  refine lv_bipush (v := 9) hx hb dX11_comes_3 (by decide) ?_
  refine lv_icmp_ge (tgt := 35) hx hb dX11_comes_5 (by decide) (fun cc => absurd cc (by decide +kernel)) (fun _ => ?_)
  refine lv_aload_n hx hb dX11_comes_8 rfl (lv_at hl 1 rfl) ?_
  refine va_get (D := D) (ci := 8) (v := .ref h2) (C := RX11) (T := TX11) (N := 36) hx hb hU iX11 hown hK.1 hP 0 rfl rfl 6 (by decide) (hU _ w791) (fun _ h9 => h9) rfl dX11_comes_9 ?_
  refine lv_bipush (v := 9) hx hb dX11_comes_12 (by decide) ?_
  refine lv_aload_n hx hb dX11_comes_14 rfl (lv_at hl 1 rfl) ?_
  refine va_get (D := D) (ci := 8) (v := .int 0) (C := RX11) (T := TX11) (N := 36) hx hb hU iX11 hown hK.1 hP 0 rfl rfl 1 (by decide) (hU _ w786) (fun _ h9 => h9) rfl dX11_comes_15 ?_
  refine lv_imul hx hb dX11_comes_18 (sv_i (v := 0) (by decide +kernel) ?_)
  refine lv_iload_n hx hb dX11_comes_19 rfl (lv_at hl 0 rfl) ?_
  refine lv_iadd hx hb dX11_comes_20 (sv_i (v := 0) (by decide +kernel) ?_)
  refine lv_aload_n hx hb dX11_comes_21 rfl (lv_at hl 1 rfl) ?_
  refine va_get (D := D) (ci := 8) (v := .ref h1) (C := RX11) (T := TX11) (N := 36) hx hb hU iX11 hown hK.1 hP 0 rfl rfl 10 (by decide) (hU _ w795) (fun _ h9 => h9) rfl dX11_comes_22 ?_
  refine lv_iload_n hx hb dX11_comes_25 rfl (lv_at hl 0 rfl) ?_
  refine ld_l (j := 0) (v := 1) hx hb hK hP 1 rfl (by decide +kernel) rfl dX11_comes_26 ?_
  refine lv_l2i (v := 1) hx hb dX11_comes_27 (by decide +kernel) ?_
  refine st_i (j := 0) (g := tI [1] 0) hx hb hK hP hD hS 2 rfl (by decide +kernel) upd_tI dX11_comes_28 (fun H locs hP hD hS => ?_)
  have hP : va_P D cl0 [(h0, .inr (8, [.int 2, .int 0, .int 1, .int 0, .int 0, .int 0, .ref h2, .ref h3, .int 0, .int 0, .ref h1, .ref h4, .ref h5, .ref h6, .ref h7, .ref h8, .ref h9, .int 0, .int 0, .int 0, .ref h10, .ref h11, .ref h12, .ref h13, .int 0, .int 0, .ref h14, .ref h15, .ref h16, .ref h17, .int 0, .int 0, .ref h18, .ref h19, .ref h20, .ref h21])), (h1, .inl (k 1, 9, .inr (.inl (tL [1, 0, 0, 0, (-1), 0, 0, 0, 0] 0)))), (h2, .inl (k 0, 36, .inl (tI [1] 0)))] H := hP
  have hD : va_D A [(h0, .inr (8, [.int 2, .int 0, .int 1, .int 0, .int 0, .int 0, .ref h2, .ref h3, .int 0, .int 0, .ref h1, .ref h4, .ref h5, .ref h6, .ref h7, .ref h8, .ref h9, .int 0, .int 0, .int 0, .ref h10, .ref h11, .ref h12, .ref h13, .int 0, .int 0, .ref h14, .ref h15, .ref h16, .ref h17, .int 0, .int 0, .ref h18, .ref h19, .ref h20, .ref h21])), (h1, .inl (k 1, 9, .inr (.inl (tL [1, 0, 0, 0, (-1), 0, 0, 0, 0] 0)))), (h2, .inl (k 0, 36, .inl (tI [1] 0)))] := hD
  refine lv_iinc (v := 1) (lv' := [(1, .int 1), (0, .ref h0)]) hx hb dX11_comes_29 hl (k := 0) rfl (by decide) (by decide) rfl (fun ls hl => ?_)
  refine lv_goto (tgt := 2) hx hb dX11_comes_32 (by decide) ?_
  refine lv_iload_n hx hb dX11_comes_2 rfl (lv_at hl 0 rfl) ?_
  refine lv_bipush (v := 9) hx hb dX11_comes_3 (by decide) ?_
  refine lv_icmp_ge (tgt := 35) hx hb dX11_comes_5 (by decide) (fun cc => absurd cc (by decide +kernel)) (fun _ => ?_)
  refine lv_aload_n hx hb dX11_comes_8 rfl (lv_at hl 1 rfl) ?_
  refine va_get (D := D) (ci := 8) (v := .ref h2) (C := RX11) (T := TX11) (N := 36) hx hb hU iX11 hown hK.1 hP 0 rfl rfl 6 (by decide) (hU _ w791) (fun _ h9 => h9) rfl dX11_comes_9 ?_
  refine lv_bipush (v := 9) hx hb dX11_comes_12 (by decide) ?_
  refine lv_aload_n hx hb dX11_comes_14 rfl (lv_at hl 1 rfl) ?_
  refine va_get (D := D) (ci := 8) (v := .int 0) (C := RX11) (T := TX11) (N := 36) hx hb hU iX11 hown hK.1 hP 0 rfl rfl 1 (by decide) (hU _ w786) (fun _ h9 => h9) rfl dX11_comes_15 ?_
  refine lv_imul hx hb dX11_comes_18 (sv_i (v := 0) (by decide +kernel) ?_)
  refine lv_iload_n hx hb dX11_comes_19 rfl (lv_at hl 0 rfl) ?_
  refine lv_iadd hx hb dX11_comes_20 (sv_i (v := 1) (by decide +kernel) ?_)
  refine lv_aload_n hx hb dX11_comes_21 rfl (lv_at hl 1 rfl) ?_
  refine va_get (D := D) (ci := 8) (v := .ref h1) (C := RX11) (T := TX11) (N := 36) hx hb hU iX11 hown hK.1 hP 0 rfl rfl 10 (by decide) (hU _ w795) (fun _ h9 => h9) rfl dX11_comes_22 ?_
  refine lv_iload_n hx hb dX11_comes_25 rfl (lv_at hl 0 rfl) ?_
  refine ld_l (j := 1) (v := 0) hx hb hK hP 1 rfl (by decide +kernel) rfl dX11_comes_26 ?_
  refine lv_l2i (v := 0) hx hb dX11_comes_27 (by decide +kernel) ?_
  refine st_i (j := 1) (g := tI [1, 0] 0) hx hb hK hP hD hS 2 rfl (by decide +kernel) upd_tI dX11_comes_28 (fun H locs hP hD hS => ?_)
  have hP : va_P D cl0 [(h0, .inr (8, [.int 2, .int 0, .int 1, .int 0, .int 0, .int 0, .ref h2, .ref h3, .int 0, .int 0, .ref h1, .ref h4, .ref h5, .ref h6, .ref h7, .ref h8, .ref h9, .int 0, .int 0, .int 0, .ref h10, .ref h11, .ref h12, .ref h13, .int 0, .int 0, .ref h14, .ref h15, .ref h16, .ref h17, .int 0, .int 0, .ref h18, .ref h19, .ref h20, .ref h21])), (h1, .inl (k 1, 9, .inr (.inl (tL [1, 0, 0, 0, (-1), 0, 0, 0, 0] 0)))), (h2, .inl (k 0, 36, .inl (tI [1, 0] 0)))] H := hP
  have hD : va_D A [(h0, .inr (8, [.int 2, .int 0, .int 1, .int 0, .int 0, .int 0, .ref h2, .ref h3, .int 0, .int 0, .ref h1, .ref h4, .ref h5, .ref h6, .ref h7, .ref h8, .ref h9, .int 0, .int 0, .int 0, .ref h10, .ref h11, .ref h12, .ref h13, .int 0, .int 0, .ref h14, .ref h15, .ref h16, .ref h17, .int 0, .int 0, .ref h18, .ref h19, .ref h20, .ref h21])), (h1, .inl (k 1, 9, .inr (.inl (tL [1, 0, 0, 0, (-1), 0, 0, 0, 0] 0)))), (h2, .inl (k 0, 36, .inl (tI [1, 0] 0)))] := hD
  refine lv_iinc (v := 2) (lv' := [(1, .int 2), (0, .ref h0)]) hx hb dX11_comes_29 hl (k := 0) rfl (by decide) (by decide) rfl (fun ls hl => ?_)
  refine lv_goto (tgt := 2) hx hb dX11_comes_32 (by decide) ?_
  refine lv_iload_n hx hb dX11_comes_2 rfl (lv_at hl 0 rfl) ?_
  refine lv_bipush (v := 9) hx hb dX11_comes_3 (by decide) ?_
  refine lv_icmp_ge (tgt := 35) hx hb dX11_comes_5 (by decide) (fun cc => absurd cc (by decide +kernel)) (fun _ => ?_)
  refine lv_aload_n hx hb dX11_comes_8 rfl (lv_at hl 1 rfl) ?_
  refine va_get (D := D) (ci := 8) (v := .ref h2) (C := RX11) (T := TX11) (N := 36) hx hb hU iX11 hown hK.1 hP 0 rfl rfl 6 (by decide) (hU _ w791) (fun _ h9 => h9) rfl dX11_comes_9 ?_
  refine lv_bipush (v := 9) hx hb dX11_comes_12 (by decide) ?_
  refine lv_aload_n hx hb dX11_comes_14 rfl (lv_at hl 1 rfl) ?_
  refine va_get (D := D) (ci := 8) (v := .int 0) (C := RX11) (T := TX11) (N := 36) hx hb hU iX11 hown hK.1 hP 0 rfl rfl 1 (by decide) (hU _ w786) (fun _ h9 => h9) rfl dX11_comes_15 ?_
  refine lv_imul hx hb dX11_comes_18 (sv_i (v := 0) (by decide +kernel) ?_)
  refine lv_iload_n hx hb dX11_comes_19 rfl (lv_at hl 0 rfl) ?_
  refine lv_iadd hx hb dX11_comes_20 (sv_i (v := 2) (by decide +kernel) ?_)
  refine lv_aload_n hx hb dX11_comes_21 rfl (lv_at hl 1 rfl) ?_
  refine va_get (D := D) (ci := 8) (v := .ref h1) (C := RX11) (T := TX11) (N := 36) hx hb hU iX11 hown hK.1 hP 0 rfl rfl 10 (by decide) (hU _ w795) (fun _ h9 => h9) rfl dX11_comes_22 ?_
  refine lv_iload_n hx hb dX11_comes_25 rfl (lv_at hl 0 rfl) ?_
  refine ld_l (j := 2) (v := 0) hx hb hK hP 1 rfl (by decide +kernel) rfl dX11_comes_26 ?_
  refine lv_l2i (v := 0) hx hb dX11_comes_27 (by decide +kernel) ?_
  refine st_i (j := 2) (g := tI [1, 0, 0] 0) hx hb hK hP hD hS 2 rfl (by decide +kernel) upd_tI dX11_comes_28 (fun H locs hP hD hS => ?_)
  have hP : va_P D cl0 [(h0, .inr (8, [.int 2, .int 0, .int 1, .int 0, .int 0, .int 0, .ref h2, .ref h3, .int 0, .int 0, .ref h1, .ref h4, .ref h5, .ref h6, .ref h7, .ref h8, .ref h9, .int 0, .int 0, .int 0, .ref h10, .ref h11, .ref h12, .ref h13, .int 0, .int 0, .ref h14, .ref h15, .ref h16, .ref h17, .int 0, .int 0, .ref h18, .ref h19, .ref h20, .ref h21])), (h1, .inl (k 1, 9, .inr (.inl (tL [1, 0, 0, 0, (-1), 0, 0, 0, 0] 0)))), (h2, .inl (k 0, 36, .inl (tI [1, 0, 0] 0)))] H := hP
  have hD : va_D A [(h0, .inr (8, [.int 2, .int 0, .int 1, .int 0, .int 0, .int 0, .ref h2, .ref h3, .int 0, .int 0, .ref h1, .ref h4, .ref h5, .ref h6, .ref h7, .ref h8, .ref h9, .int 0, .int 0, .int 0, .ref h10, .ref h11, .ref h12, .ref h13, .int 0, .int 0, .ref h14, .ref h15, .ref h16, .ref h17, .int 0, .int 0, .ref h18, .ref h19, .ref h20, .ref h21])), (h1, .inl (k 1, 9, .inr (.inl (tL [1, 0, 0, 0, (-1), 0, 0, 0, 0] 0)))), (h2, .inl (k 0, 36, .inl (tI [1, 0, 0] 0)))] := hD
  refine lv_iinc (v := 3) (lv' := [(1, .int 3), (0, .ref h0)]) hx hb dX11_comes_29 hl (k := 0) rfl (by decide) (by decide) rfl (fun ls hl => ?_)
  refine lv_goto (tgt := 2) hx hb dX11_comes_32 (by decide) ?_
  refine lv_iload_n hx hb dX11_comes_2 rfl (lv_at hl 0 rfl) ?_
  refine lv_bipush (v := 9) hx hb dX11_comes_3 (by decide) ?_
  refine lv_icmp_ge (tgt := 35) hx hb dX11_comes_5 (by decide) (fun cc => absurd cc (by decide +kernel)) (fun _ => ?_)
  refine lv_aload_n hx hb dX11_comes_8 rfl (lv_at hl 1 rfl) ?_
  refine va_get (D := D) (ci := 8) (v := .ref h2) (C := RX11) (T := TX11) (N := 36) hx hb hU iX11 hown hK.1 hP 0 rfl rfl 6 (by decide) (hU _ w791) (fun _ h9 => h9) rfl dX11_comes_9 ?_
  refine lv_bipush (v := 9) hx hb dX11_comes_12 (by decide) ?_
  refine lv_aload_n hx hb dX11_comes_14 rfl (lv_at hl 1 rfl) ?_
  refine va_get (D := D) (ci := 8) (v := .int 0) (C := RX11) (T := TX11) (N := 36) hx hb hU iX11 hown hK.1 hP 0 rfl rfl 1 (by decide) (hU _ w786) (fun _ h9 => h9) rfl dX11_comes_15 ?_
  refine lv_imul hx hb dX11_comes_18 (sv_i (v := 0) (by decide +kernel) ?_)
  refine lv_iload_n hx hb dX11_comes_19 rfl (lv_at hl 0 rfl) ?_
  refine lv_iadd hx hb dX11_comes_20 (sv_i (v := 3) (by decide +kernel) ?_)
  refine lv_aload_n hx hb dX11_comes_21 rfl (lv_at hl 1 rfl) ?_
  refine va_get (D := D) (ci := 8) (v := .ref h1) (C := RX11) (T := TX11) (N := 36) hx hb hU iX11 hown hK.1 hP 0 rfl rfl 10 (by decide) (hU _ w795) (fun _ h9 => h9) rfl dX11_comes_22 ?_
  refine lv_iload_n hx hb dX11_comes_25 rfl (lv_at hl 0 rfl) ?_
  refine ld_l (j := 3) (v := 0) hx hb hK hP 1 rfl (by decide +kernel) rfl dX11_comes_26 ?_
  refine lv_l2i (v := 0) hx hb dX11_comes_27 (by decide +kernel) ?_
  refine st_i (j := 3) (g := tI [1, 0, 0, 0] 0) hx hb hK hP hD hS 2 rfl (by decide +kernel) upd_tI dX11_comes_28 (fun H locs hP hD hS => ?_)
  have hP : va_P D cl0 [(h0, .inr (8, [.int 2, .int 0, .int 1, .int 0, .int 0, .int 0, .ref h2, .ref h3, .int 0, .int 0, .ref h1, .ref h4, .ref h5, .ref h6, .ref h7, .ref h8, .ref h9, .int 0, .int 0, .int 0, .ref h10, .ref h11, .ref h12, .ref h13, .int 0, .int 0, .ref h14, .ref h15, .ref h16, .ref h17, .int 0, .int 0, .ref h18, .ref h19, .ref h20, .ref h21])), (h1, .inl (k 1, 9, .inr (.inl (tL [1, 0, 0, 0, (-1), 0, 0, 0, 0] 0)))), (h2, .inl (k 0, 36, .inl (tI [1, 0, 0, 0] 0)))] H := hP
  have hD : va_D A [(h0, .inr (8, [.int 2, .int 0, .int 1, .int 0, .int 0, .int 0, .ref h2, .ref h3, .int 0, .int 0, .ref h1, .ref h4, .ref h5, .ref h6, .ref h7, .ref h8, .ref h9, .int 0, .int 0, .int 0, .ref h10, .ref h11, .ref h12, .ref h13, .int 0, .int 0, .ref h14, .ref h15, .ref h16, .ref h17, .int 0, .int 0, .ref h18, .ref h19, .ref h20, .ref h21])), (h1, .inl (k 1, 9, .inr (.inl (tL [1, 0, 0, 0, (-1), 0, 0, 0, 0] 0)))), (h2, .inl (k 0, 36, .inl (tI [1, 0, 0, 0] 0)))] := hD
  refine lv_iinc (v := 4) (lv' := [(1, .int 4), (0, .ref h0)]) hx hb dX11_comes_29 hl (k := 0) rfl (by decide) (by decide) rfl (fun ls hl => ?_)
  refine lv_goto (tgt := 2) hx hb dX11_comes_32 (by decide) ?_
  refine lv_iload_n hx hb dX11_comes_2 rfl (lv_at hl 0 rfl) ?_
  refine lv_bipush (v := 9) hx hb dX11_comes_3 (by decide) ?_
  refine lv_icmp_ge (tgt := 35) hx hb dX11_comes_5 (by decide) (fun cc => absurd cc (by decide +kernel)) (fun _ => ?_)
  refine lv_aload_n hx hb dX11_comes_8 rfl (lv_at hl 1 rfl) ?_
  refine va_get (D := D) (ci := 8) (v := .ref h2) (C := RX11) (T := TX11) (N := 36) hx hb hU iX11 hown hK.1 hP 0 rfl rfl 6 (by decide) (hU _ w791) (fun _ h9 => h9) rfl dX11_comes_9 ?_
  refine lv_bipush (v := 9) hx hb dX11_comes_12 (by decide) ?_
  refine lv_aload_n hx hb dX11_comes_14 rfl (lv_at hl 1 rfl) ?_
  refine va_get (D := D) (ci := 8) (v := .int 0) (C := RX11) (T := TX11) (N := 36) hx hb hU iX11 hown hK.1 hP 0 rfl rfl 1 (by decide) (hU _ w786) (fun _ h9 => h9) rfl dX11_comes_15 ?_
  refine lv_imul hx hb dX11_comes_18 (sv_i (v := 0) (by decide +kernel) ?_)
  refine lv_iload_n hx hb dX11_comes_19 rfl (lv_at hl 0 rfl) ?_
  refine lv_iadd hx hb dX11_comes_20 (sv_i (v := 4) (by decide +kernel) ?_)
  refine lv_aload_n hx hb dX11_comes_21 rfl (lv_at hl 1 rfl) ?_
  refine va_get (D := D) (ci := 8) (v := .ref h1) (C := RX11) (T := TX11) (N := 36) hx hb hU iX11 hown hK.1 hP 0 rfl rfl 10 (by decide) (hU _ w795) (fun _ h9 => h9) rfl dX11_comes_22 ?_
  refine lv_iload_n hx hb dX11_comes_25 rfl (lv_at hl 0 rfl) ?_
  refine ld_l (j := 4) (v := (-1)) hx hb hK hP 1 rfl (by decide +kernel) rfl dX11_comes_26 ?_
  refine lv_l2i (v := (-1)) hx hb dX11_comes_27 (by decide +kernel) ?_
  refine st_i (j := 4) (g := tI [1, 0, 0, 0, (-1)] 0) hx hb hK hP hD hS 2 rfl (by decide +kernel) upd_tI dX11_comes_28 (fun H locs hP hD hS => ?_)
  have hP : va_P D cl0 [(h0, .inr (8, [.int 2, .int 0, .int 1, .int 0, .int 0, .int 0, .ref h2, .ref h3, .int 0, .int 0, .ref h1, .ref h4, .ref h5, .ref h6, .ref h7, .ref h8, .ref h9, .int 0, .int 0, .int 0, .ref h10, .ref h11, .ref h12, .ref h13, .int 0, .int 0, .ref h14, .ref h15, .ref h16, .ref h17, .int 0, .int 0, .ref h18, .ref h19, .ref h20, .ref h21])), (h1, .inl (k 1, 9, .inr (.inl (tL [1, 0, 0, 0, (-1), 0, 0, 0, 0] 0)))), (h2, .inl (k 0, 36, .inl (tI [1, 0, 0, 0, (-1)] 0)))] H := hP
  have hD : va_D A [(h0, .inr (8, [.int 2, .int 0, .int 1, .int 0, .int 0, .int 0, .ref h2, .ref h3, .int 0, .int 0, .ref h1, .ref h4, .ref h5, .ref h6, .ref h7, .ref h8, .ref h9, .int 0, .int 0, .int 0, .ref h10, .ref h11, .ref h12, .ref h13, .int 0, .int 0, .ref h14, .ref h15, .ref h16, .ref h17, .int 0, .int 0, .ref h18, .ref h19, .ref h20, .ref h21])), (h1, .inl (k 1, 9, .inr (.inl (tL [1, 0, 0, 0, (-1), 0, 0, 0, 0] 0)))), (h2, .inl (k 0, 36, .inl (tI [1, 0, 0, 0, (-1)] 0)))] := hD
  refine lv_iinc (v := 5) (lv' := [(1, .int 5), (0, .ref h0)]) hx hb dX11_comes_29 hl (k := 0) rfl (by decide) (by decide) rfl (fun ls hl => ?_)
  refine lv_goto (tgt := 2) hx hb dX11_comes_32 (by decide) ?_
  refine lv_iload_n hx hb dX11_comes_2 rfl (lv_at hl 0 rfl) ?_
  refine lv_bipush (v := 9) hx hb dX11_comes_3 (by decide) ?_
  refine lv_icmp_ge (tgt := 35) hx hb dX11_comes_5 (by decide) (fun cc => absurd cc (by decide +kernel)) (fun _ => ?_)
  refine lv_aload_n hx hb dX11_comes_8 rfl (lv_at hl 1 rfl) ?_
  refine va_get (D := D) (ci := 8) (v := .ref h2) (C := RX11) (T := TX11) (N := 36) hx hb hU iX11 hown hK.1 hP 0 rfl rfl 6 (by decide) (hU _ w791) (fun _ h9 => h9) rfl dX11_comes_9 ?_
  refine lv_bipush (v := 9) hx hb dX11_comes_12 (by decide) ?_
  refine lv_aload_n hx hb dX11_comes_14 rfl (lv_at hl 1 rfl) ?_
  refine va_get (D := D) (ci := 8) (v := .int 0) (C := RX11) (T := TX11) (N := 36) hx hb hU iX11 hown hK.1 hP 0 rfl rfl 1 (by decide) (hU _ w786) (fun _ h9 => h9) rfl dX11_comes_15 ?_
  refine lv_imul hx hb dX11_comes_18 (sv_i (v := 0) (by decide +kernel) ?_)
  refine lv_iload_n hx hb dX11_comes_19 rfl (lv_at hl 0 rfl) ?_
  refine lv_iadd hx hb dX11_comes_20 (sv_i (v := 5) (by decide +kernel) ?_)
  refine lv_aload_n hx hb dX11_comes_21 rfl (lv_at hl 1 rfl) ?_
  refine va_get (D := D) (ci := 8) (v := .ref h1) (C := RX11) (T := TX11) (N := 36) hx hb hU iX11 hown hK.1 hP 0 rfl rfl 10 (by decide) (hU _ w795) (fun _ h9 => h9) rfl dX11_comes_22 ?_
  refine lv_iload_n hx hb dX11_comes_25 rfl (lv_at hl 0 rfl) ?_
  refine ld_l (j := 5) (v := 0) hx hb hK hP 1 rfl (by decide +kernel) rfl dX11_comes_26 ?_
  refine lv_l2i (v := 0) hx hb dX11_comes_27 (by decide +kernel) ?_
  refine st_i (j := 5) (g := tI [1, 0, 0, 0, (-1), 0] 0) hx hb hK hP hD hS 2 rfl (by decide +kernel) upd_tI dX11_comes_28 (fun H locs hP hD hS => ?_)
  have hP : va_P D cl0 [(h0, .inr (8, [.int 2, .int 0, .int 1, .int 0, .int 0, .int 0, .ref h2, .ref h3, .int 0, .int 0, .ref h1, .ref h4, .ref h5, .ref h6, .ref h7, .ref h8, .ref h9, .int 0, .int 0, .int 0, .ref h10, .ref h11, .ref h12, .ref h13, .int 0, .int 0, .ref h14, .ref h15, .ref h16, .ref h17, .int 0, .int 0, .ref h18, .ref h19, .ref h20, .ref h21])), (h1, .inl (k 1, 9, .inr (.inl (tL [1, 0, 0, 0, (-1), 0, 0, 0, 0] 0)))), (h2, .inl (k 0, 36, .inl (tI [1, 0, 0, 0, (-1), 0] 0)))] H := hP
  have hD : va_D A [(h0, .inr (8, [.int 2, .int 0, .int 1, .int 0, .int 0, .int 0, .ref h2, .ref h3, .int 0, .int 0, .ref h1, .ref h4, .ref h5, .ref h6, .ref h7, .ref h8, .ref h9, .int 0, .int 0, .int 0, .ref h10, .ref h11, .ref h12, .ref h13, .int 0, .int 0, .ref h14, .ref h15, .ref h16, .ref h17, .int 0, .int 0, .ref h18, .ref h19, .ref h20, .ref h21])), (h1, .inl (k 1, 9, .inr (.inl (tL [1, 0, 0, 0, (-1), 0, 0, 0, 0] 0)))), (h2, .inl (k 0, 36, .inl (tI [1, 0, 0, 0, (-1), 0] 0)))] := hD
  refine lv_iinc (v := 6) (lv' := [(1, .int 6), (0, .ref h0)]) hx hb dX11_comes_29 hl (k := 0) rfl (by decide) (by decide) rfl (fun ls hl => ?_)
  refine lv_goto (tgt := 2) hx hb dX11_comes_32 (by decide) ?_
  refine lv_iload_n hx hb dX11_comes_2 rfl (lv_at hl 0 rfl) ?_
  refine lv_bipush (v := 9) hx hb dX11_comes_3 (by decide) ?_
  refine lv_icmp_ge (tgt := 35) hx hb dX11_comes_5 (by decide) (fun cc => absurd cc (by decide +kernel)) (fun _ => ?_)
  refine lv_aload_n hx hb dX11_comes_8 rfl (lv_at hl 1 rfl) ?_
  refine va_get (D := D) (ci := 8) (v := .ref h2) (C := RX11) (T := TX11) (N := 36) hx hb hU iX11 hown hK.1 hP 0 rfl rfl 6 (by decide) (hU _ w791) (fun _ h9 => h9) rfl dX11_comes_9 ?_
  refine lv_bipush (v := 9) hx hb dX11_comes_12 (by decide) ?_
  refine lv_aload_n hx hb dX11_comes_14 rfl (lv_at hl 1 rfl) ?_
  refine va_get (D := D) (ci := 8) (v := .int 0) (C := RX11) (T := TX11) (N := 36) hx hb hU iX11 hown hK.1 hP 0 rfl rfl 1 (by decide) (hU _ w786) (fun _ h9 => h9) rfl dX11_comes_15 ?_
  refine lv_imul hx hb dX11_comes_18 (sv_i (v := 0) (by decide +kernel) ?_)
  refine lv_iload_n hx hb dX11_comes_19 rfl (lv_at hl 0 rfl) ?_
  refine lv_iadd hx hb dX11_comes_20 (sv_i (v := 6) (by decide +kernel) ?_)
  refine lv_aload_n hx hb dX11_comes_21 rfl (lv_at hl 1 rfl) ?_
  refine va_get (D := D) (ci := 8) (v := .ref h1) (C := RX11) (T := TX11) (N := 36) hx hb hU iX11 hown hK.1 hP 0 rfl rfl 10 (by decide) (hU _ w795) (fun _ h9 => h9) rfl dX11_comes_22 ?_
  refine lv_iload_n hx hb dX11_comes_25 rfl (lv_at hl 0 rfl) ?_
  refine ld_l (j := 6) (v := 0) hx hb hK hP 1 rfl (by decide +kernel) rfl dX11_comes_26 ?_
  refine lv_l2i (v := 0) hx hb dX11_comes_27 (by decide +kernel) ?_
  refine st_i (j := 6) (g := tI [1, 0, 0, 0, (-1), 0, 0] 0) hx hb hK hP hD hS 2 rfl (by decide +kernel) upd_tI dX11_comes_28 (fun H locs hP hD hS => ?_)
  have hP : va_P D cl0 [(h0, .inr (8, [.int 2, .int 0, .int 1, .int 0, .int 0, .int 0, .ref h2, .ref h3, .int 0, .int 0, .ref h1, .ref h4, .ref h5, .ref h6, .ref h7, .ref h8, .ref h9, .int 0, .int 0, .int 0, .ref h10, .ref h11, .ref h12, .ref h13, .int 0, .int 0, .ref h14, .ref h15, .ref h16, .ref h17, .int 0, .int 0, .ref h18, .ref h19, .ref h20, .ref h21])), (h1, .inl (k 1, 9, .inr (.inl (tL [1, 0, 0, 0, (-1), 0, 0, 0, 0] 0)))), (h2, .inl (k 0, 36, .inl (tI [1, 0, 0, 0, (-1), 0, 0] 0)))] H := hP
  have hD : va_D A [(h0, .inr (8, [.int 2, .int 0, .int 1, .int 0, .int 0, .int 0, .ref h2, .ref h3, .int 0, .int 0, .ref h1, .ref h4, .ref h5, .ref h6, .ref h7, .ref h8, .ref h9, .int 0, .int 0, .int 0, .ref h10, .ref h11, .ref h12, .ref h13, .int 0, .int 0, .ref h14, .ref h15, .ref h16, .ref h17, .int 0, .int 0, .ref h18, .ref h19, .ref h20, .ref h21])), (h1, .inl (k 1, 9, .inr (.inl (tL [1, 0, 0, 0, (-1), 0, 0, 0, 0] 0)))), (h2, .inl (k 0, 36, .inl (tI [1, 0, 0, 0, (-1), 0, 0] 0)))] := hD
  refine lv_iinc (v := 7) (lv' := [(1, .int 7), (0, .ref h0)]) hx hb dX11_comes_29 hl (k := 0) rfl (by decide) (by decide) rfl (fun ls hl => ?_)
  refine lv_goto (tgt := 2) hx hb dX11_comes_32 (by decide) ?_
  refine lv_iload_n hx hb dX11_comes_2 rfl (lv_at hl 0 rfl) ?_
  refine lv_bipush (v := 9) hx hb dX11_comes_3 (by decide) ?_
  refine lv_icmp_ge (tgt := 35) hx hb dX11_comes_5 (by decide) (fun cc => absurd cc (by decide +kernel)) (fun _ => ?_)
  refine lv_aload_n hx hb dX11_comes_8 rfl (lv_at hl 1 rfl) ?_
  refine va_get (D := D) (ci := 8) (v := .ref h2) (C := RX11) (T := TX11) (N := 36) hx hb hU iX11 hown hK.1 hP 0 rfl rfl 6 (by decide) (hU _ w791) (fun _ h9 => h9) rfl dX11_comes_9 ?_
  refine lv_bipush (v := 9) hx hb dX11_comes_12 (by decide) ?_
  refine lv_aload_n hx hb dX11_comes_14 rfl (lv_at hl 1 rfl) ?_
  refine va_get (D := D) (ci := 8) (v := .int 0) (C := RX11) (T := TX11) (N := 36) hx hb hU iX11 hown hK.1 hP 0 rfl rfl 1 (by decide) (hU _ w786) (fun _ h9 => h9) rfl dX11_comes_15 ?_
  refine lv_imul hx hb dX11_comes_18 (sv_i (v := 0) (by decide +kernel) ?_)
  refine lv_iload_n hx hb dX11_comes_19 rfl (lv_at hl 0 rfl) ?_
  refine lv_iadd hx hb dX11_comes_20 (sv_i (v := 7) (by decide +kernel) ?_)
  refine lv_aload_n hx hb dX11_comes_21 rfl (lv_at hl 1 rfl) ?_
  refine va_get (D := D) (ci := 8) (v := .ref h1) (C := RX11) (T := TX11) (N := 36) hx hb hU iX11 hown hK.1 hP 0 rfl rfl 10 (by decide) (hU _ w795) (fun _ h9 => h9) rfl dX11_comes_22 ?_
  refine lv_iload_n hx hb dX11_comes_25 rfl (lv_at hl 0 rfl) ?_
  refine ld_l (j := 7) (v := 0) hx hb hK hP 1 rfl (by decide +kernel) rfl dX11_comes_26 ?_
  refine lv_l2i (v := 0) hx hb dX11_comes_27 (by decide +kernel) ?_
  refine st_i (j := 7) (g := tI [1, 0, 0, 0, (-1), 0, 0, 0] 0) hx hb hK hP hD hS 2 rfl (by decide +kernel) upd_tI dX11_comes_28 (fun H locs hP hD hS => ?_)
  have hP : va_P D cl0 [(h0, .inr (8, [.int 2, .int 0, .int 1, .int 0, .int 0, .int 0, .ref h2, .ref h3, .int 0, .int 0, .ref h1, .ref h4, .ref h5, .ref h6, .ref h7, .ref h8, .ref h9, .int 0, .int 0, .int 0, .ref h10, .ref h11, .ref h12, .ref h13, .int 0, .int 0, .ref h14, .ref h15, .ref h16, .ref h17, .int 0, .int 0, .ref h18, .ref h19, .ref h20, .ref h21])), (h1, .inl (k 1, 9, .inr (.inl (tL [1, 0, 0, 0, (-1), 0, 0, 0, 0] 0)))), (h2, .inl (k 0, 36, .inl (tI [1, 0, 0, 0, (-1), 0, 0, 0] 0)))] H := hP
  have hD : va_D A [(h0, .inr (8, [.int 2, .int 0, .int 1, .int 0, .int 0, .int 0, .ref h2, .ref h3, .int 0, .int 0, .ref h1, .ref h4, .ref h5, .ref h6, .ref h7, .ref h8, .ref h9, .int 0, .int 0, .int 0, .ref h10, .ref h11, .ref h12, .ref h13, .int 0, .int 0, .ref h14, .ref h15, .ref h16, .ref h17, .int 0, .int 0, .ref h18, .ref h19, .ref h20, .ref h21])), (h1, .inl (k 1, 9, .inr (.inl (tL [1, 0, 0, 0, (-1), 0, 0, 0, 0] 0)))), (h2, .inl (k 0, 36, .inl (tI [1, 0, 0, 0, (-1), 0, 0, 0] 0)))] := hD
  refine lv_iinc (v := 8) (lv' := [(1, .int 8), (0, .ref h0)]) hx hb dX11_comes_29 hl (k := 0) rfl (by decide) (by decide) rfl (fun ls hl => ?_)
  refine lv_goto (tgt := 2) hx hb dX11_comes_32 (by decide) ?_
  refine lv_iload_n hx hb dX11_comes_2 rfl (lv_at hl 0 rfl) ?_
  refine lv_bipush (v := 9) hx hb dX11_comes_3 (by decide) ?_
  refine lv_icmp_ge (tgt := 35) hx hb dX11_comes_5 (by decide) (fun cc => absurd cc (by decide +kernel)) (fun _ => ?_)
  refine lv_aload_n hx hb dX11_comes_8 rfl (lv_at hl 1 rfl) ?_
  refine va_get (D := D) (ci := 8) (v := .ref h2) (C := RX11) (T := TX11) (N := 36) hx hb hU iX11 hown hK.1 hP 0 rfl rfl 6 (by decide) (hU _ w791) (fun _ h9 => h9) rfl dX11_comes_9 ?_
  refine lv_bipush (v := 9) hx hb dX11_comes_12 (by decide) ?_
  refine lv_aload_n hx hb dX11_comes_14 rfl (lv_at hl 1 rfl) ?_
  refine va_get (D := D) (ci := 8) (v := .int 0) (C := RX11) (T := TX11) (N := 36) hx hb hU iX11 hown hK.1 hP 0 rfl rfl 1 (by decide) (hU _ w786) (fun _ h9 => h9) rfl dX11_comes_15 ?_
  refine lv_imul hx hb dX11_comes_18 (sv_i (v := 0) (by decide +kernel) ?_)
  refine lv_iload_n hx hb dX11_comes_19 rfl (lv_at hl 0 rfl) ?_
  refine lv_iadd hx hb dX11_comes_20 (sv_i (v := 8) (by decide +kernel) ?_)
  refine lv_aload_n hx hb dX11_comes_21 rfl (lv_at hl 1 rfl) ?_
  refine va_get (D := D) (ci := 8) (v := .ref h1) (C := RX11) (T := TX11) (N := 36) hx hb hU iX11 hown hK.1 hP 0 rfl rfl 10 (by decide) (hU _ w795) (fun _ h9 => h9) rfl dX11_comes_22 ?_
  refine lv_iload_n hx hb dX11_comes_25 rfl (lv_at hl 0 rfl) ?_
  refine ld_l (j := 8) (v := 0) hx hb hK hP 1 rfl (by decide +kernel) rfl dX11_comes_26 ?_
  refine lv_l2i (v := 0) hx hb dX11_comes_27 (by decide +kernel) ?_
  refine st_i (j := 8) (g := tI [1, 0, 0, 0, (-1), 0, 0, 0, 0] 0) hx hb hK hP hD hS 2 rfl (by decide +kernel) upd_tI dX11_comes_28 (fun H locs hP hD hS => ?_)
  have hP : va_P D cl0 [(h0, .inr (8, [.int 2, .int 0, .int 1, .int 0, .int 0, .int 0, .ref h2, .ref h3, .int 0, .int 0, .ref h1, .ref h4, .ref h5, .ref h6, .ref h7, .ref h8, .ref h9, .int 0, .int 0, .int 0, .ref h10, .ref h11, .ref h12, .ref h13, .int 0, .int 0, .ref h14, .ref h15, .ref h16, .ref h17, .int 0, .int 0, .ref h18, .ref h19, .ref h20, .ref h21])), (h1, .inl (k 1, 9, .inr (.inl (tL [1, 0, 0, 0, (-1), 0, 0, 0, 0] 0)))), (h2, .inl (k 0, 36, .inl (tI [1, 0, 0, 0, (-1), 0, 0, 0, 0] 0)))] H := hP
  have hD : va_D A [(h0, .inr (8, [.int 2, .int 0, .int 1, .int 0, .int 0, .int 0, .ref h2, .ref h3, .int 0, .int 0, .ref h1, .ref h4, .ref h5, .ref h6, .ref h7, .ref h8, .ref h9, .int 0, .int 0, .int 0, .ref h10, .ref h11, .ref h12, .ref h13, .int 0, .int 0, .ref h14, .ref h15, .ref h16, .ref h17, .int 0, .int 0, .ref h18, .ref h19, .ref h20, .ref h21])), (h1, .inl (k 1, 9, .inr (.inl (tL [1, 0, 0, 0, (-1), 0, 0, 0, 0] 0)))), (h2, .inl (k 0, 36, .inl (tI [1, 0, 0, 0, (-1), 0, 0, 0, 0] 0)))] := hD
  refine lv_iinc (v := 9) (lv' := [(1, .int 9), (0, .ref h0)]) hx hb dX11_comes_29 hl (k := 0) rfl (by decide) (by decide) rfl (fun ls hl => ?_)
  refine lv_goto (tgt := 2) hx hb dX11_comes_32 (by decide) ?_
  refine lv_iload_n hx hb dX11_comes_2 rfl (lv_at hl 0 rfl) ?_
  refine lv_bipush (v := 9) hx hb dX11_comes_3 (by decide) ?_
  refine lv_icmp_ge (tgt := 35) hx hb dX11_comes_5 (by decide) (fun _ => ?_) (fun cc => absurd (by decide +kernel) cc)
  refine lv_aload_n hx hb dX11_comes_35 rfl (lv_at hl 1 rfl) ?_
  refine lv_dup hx hb dX11_comes_36 rfl ?_
  refine va_get (D := D) (ci := 8) (v := .int 0) (C := RX11) (T := TX11) (N := 36) hx hb hU iX11 hown hK.1 hP 0 rfl rfl 1 (by decide) (hU _ w786) (fun _ h9 => h9) rfl dX11_comes_37 ?_
  refine lv_iconst (v := 1) hx hb dX11_comes_40 (by decide) ?_
  refine lv_iadd hx hb dX11_comes_41 (sv_i (v := 1) (by decide +kernel) ?_)
  refine va_put (D := D) (ci := 8) (v := .int 1) (ty := .int) (C := RX11) (T := TX11) (N := 36) hx hb hU iX11 tyX11 tyX11_ok nmX11 hown hK.1 hP hD hS 0 rfl rfl 1 (by decide) (hU _ w786) (fun _ h9 => h9) rfl (by decide +kernel) rfl rfl (Nat.le_of_ble_eq_true rfl) dX11_comes_42 (fun H locs hP hD hS => ?_)
  have hP : va_P D cl0 [(h0, .inr (8, [.int 2, .int 1, .int 1, .int 0, .int 0, .int 0, .ref h2, .ref h3, .int 0, .int 0, .ref h1, .ref h4, .ref h5, .ref h6, .ref h7, .ref h8, .ref h9, .int 0, .int 0, .int 0, .ref h10, .ref h11, .ref h12, .ref h13, .int 0, .int 0, .ref h14, .ref h15, .ref h16, .ref h17, .int 0, .int 0, .ref h18, .ref h19, .ref h20, .ref h21])), (h1, .inl (k 1, 9, .inr (.inl (tL [1, 0, 0, 0, (-1), 0, 0, 0, 0] 0)))), (h2, .inl (k 0, 36, .inl (tI [1, 0, 0, 0, (-1), 0, 0, 0, 0] 0)))] H := hP
  have hD : va_D A [(h0, .inr (8, [.int 2, .int 1, .int 1, .int 0, .int 0, .int 0, .ref h2, .ref h3, .int 0, .int 0, .ref h1, .ref h4, .ref h5, .ref h6, .ref h7, .ref h8, .ref h9, .int 0, .int 0, .int 0, .ref h10, .ref h11, .ref h12, .ref h13, .int 0, .int 0, .ref h14, .ref h15, .ref h16, .ref h17, .int 0, .int 0, .ref h18, .ref h19, .ref h20, .ref h21])), (h1, .inl (k 1, 9, .inr (.inl (tL [1, 0, 0, 0, (-1), 0, 0, 0, 0] 0)))), (h2, .inl (k 0, 36, .inl (tI [1, 0, 0, 0, (-1), 0, 0, 0, 0] 0)))] := hD
  refine lv_aload_n hx hb dX11_comes_45 rfl (lv_at hl 1 rfl) ?_
  refine lv_iconst (v := 0) hx hb dX11_comes_46 (by decide) ?_
  refine va_put (D := D) (ci := 8) (v := .int 0) (ty := .boolean) (C := RX11) (T := TX11) (N := 36) hx hb hU iX11 tyX11 tyX11_ok nmX11 hown hK.1 hP hD hS 0 rfl rfl 9 (by decide) (hU _ w794) (fun _ h9 => h9) rfl (by decide +kernel) rfl rfl (Nat.le_of_ble_eq_true rfl) dX11_comes_47 (fun H locs hP hD hS => ?_)
  have hP : va_P D cl0 [(h0, .inr (8, [.int 2, .int 1, .int 1, .int 0, .int 0, .int 0, .ref h2, .ref h3, .int 0, .int 0, .ref h1, .ref h4, .ref h5, .ref h6, .ref h7, .ref h8, .ref h9, .int 0, .int 0, .int 0, .ref h10, .ref h11, .ref h12, .ref h13, .int 0, .int 0, .ref h14, .ref h15, .ref h16, .ref h17, .int 0, .int 0, .ref h18, .ref h19, .ref h20, .ref h21])), (h1, .inl (k 1, 9, .inr (.inl (tL [1, 0, 0, 0, (-1), 0, 0, 0, 0] 0)))), (h2, .inl (k 0, 36, .inl (tI [1, 0, 0, 0, (-1), 0, 0, 0, 0] 0)))] H := hP
  have hD : va_D A [(h0, .inr (8, [.int 2, .int 1, .int 1, .int 0, .int 0, .int 0, .ref h2, .ref h3, .int 0, .int 0, .ref h1, .ref h4, .ref h5, .ref h6, .ref h7, .ref h8, .ref h9, .int 0, .int 0, .int 0, .ref h10, .ref h11, .ref h12, .ref h13, .int 0, .int 0, .ref h14, .ref h15, .ref h16, .ref h17, .int 0, .int 0, .ref h18, .ref h19, .ref h20, .ref h21])), (h1, .inl (k 1, 9, .inr (.inl (tL [1, 0, 0, 0, (-1), 0, 0, 0, 0] 0)))), (h2, .inl (k 0, 36, .inl (tI [1, 0, 0, 0, (-1), 0, 0, 0, 0] 0)))] := hD
  refine lv_aload_n hx hb dX11_comes_50 rfl (lv_at hl 1 rfl) ?_
  refine lv_iconst (v := 0) hx hb dX11_comes_51 (by decide) ?_
  refine va_put (D := D) (ci := 8) (v := .int 0) (ty := .int) (C := RX11) (T := TX11) (N := 36) hx hb hU iX11 tyX11 tyX11_ok nmX11 hown hK.1 hP hD hS 0 rfl rfl 30 (by decide) (hU _ w815) (fun _ h9 => h9) rfl (by decide +kernel) rfl rfl (Nat.le_of_ble_eq_true rfl) dX11_comes_52 (fun H locs hP hD hS => ?_)
  have hP : va_P D cl0 [(h0, .inr (8, [.int 2, .int 1, .int 1, .int 0, .int 0, .int 0, .ref h2, .ref h3, .int 0, .int 0, .ref h1, .ref h4, .ref h5, .ref h6, .ref h7, .ref h8, .ref h9, .int 0, .int 0, .int 0, .ref h10, .ref h11, .ref h12, .ref h13, .int 0, .int 0, .ref h14, .ref h15, .ref h16, .ref h17, .int 0, .int 0, .ref h18, .ref h19, .ref h20, .ref h21])), (h1, .inl (k 1, 9, .inr (.inl (tL [1, 0, 0, 0, (-1), 0, 0, 0, 0] 0)))), (h2, .inl (k 0, 36, .inl (tI [1, 0, 0, 0, (-1), 0, 0, 0, 0] 0)))] H := hP
  have hD : va_D A [(h0, .inr (8, [.int 2, .int 1, .int 1, .int 0, .int 0, .int 0, .ref h2, .ref h3, .int 0, .int 0, .ref h1, .ref h4, .ref h5, .ref h6, .ref h7, .ref h8, .ref h9, .int 0, .int 0, .int 0, .ref h10, .ref h11, .ref h12, .ref h13, .int 0, .int 0, .ref h14, .ref h15, .ref h16, .ref h17, .int 0, .int 0, .ref h18, .ref h19, .ref h20, .ref h21])), (h1, .inl (k 1, 9, .inr (.inl (tL [1, 0, 0, 0, (-1), 0, 0, 0, 0] 0)))), (h2, .inl (k 0, 36, .inl (tI [1, 0, 0, 0, (-1), 0, 0, 0, 0] 0)))] := hD
  refine lv_aload_n hx hb dX11_comes_55 rfl (lv_at hl 1 rfl) ?_
  refine va_get (D := D) (ci := 8) (v := .int 1) (C := RX11) (T := TX11) (N := 36) hx hb hU iX11 hown hK.1 hP 0 rfl rfl 1 (by decide) (hU _ w786) (fun _ h9 => h9) rfl dX11_comes_56 ?_
  refine lv_iconst (v := 1) hx hb dX11_comes_59 (by decide) ?_
  refine lv_isub hx hb dX11_comes_60 (sv_i (v := 0) (by decide +kernel) ?_)
  exact retI (v := 0) hx hb hr hlocks hS (⟨rfl, hP, hD⟩) dX11_comes_61
abbrev BX11_unit_1 (D : va_G) (k : Nat → ClassId) (a0 a1 a3 a2 a4 a5 a6 a7 a8 a9 a10 a11 a12 a13 a14 a15 a16 a17 a18 a19 a20 a21 : Nat) (x0 : Int32) (x1 : Int32) (x2 : Int32) (A : Nat → Prop) (r : Int32) (H : Heap) : Prop := r = F_unit x0 x1 x2
set_option maxHeartbeats 4000000 in
set_option maxRecDepth 100000 in
theorem cX11_unit_1 (l : Launch) (D : va_G) (k : Nat → ClassId) (sz : Nat) (a0 a1 a3 a2 a4 a5 a6 a7 a8 a9 a10 a11 a12 a13 a14 a15 a16 a17 a18 a19 a20 a21 : Nat) (x0 : Int32) (x1 : Int32) (x2 : Int32) : Met l yX11_unit (Cond.code yX11_unit cX11_unit 4 (some .int) :: uw) ({ frames := 3, cells := 0, slots := 0, locals := 67 }) (pC D k sz [.ref a0, .int x0, .int x1, .int x2] [(a0, .inr (8, [.int 2, .int 0, .int 1, .int 0, .int 0, .int 0, .ref a1, .ref a2, .int 0, .int 0, .ref a3, .ref a4, .ref a5, .ref a6, .ref a7, .ref a8, .ref a9, .int 0, .int 0, .int 0, .ref a10, .ref a11, .ref a12, .ref a13, .int 0, .int 0, .ref a14, .ref a15, .ref a16, .ref a17, .int 0, .int 0, .ref a18, .ref a19, .ref a20, .ref a21])), (a1, .inl (k 0, 36, .inl (tI [] 0))), (a3, .inl (k 1, 9, .inr (.inl (tL [] 0))))]) (qI (BX11_unit_1 D k a0 a1 a3 a2 a4 a5 a6 a7 a8 a9 a10 a11 a12 a13 a14 a15 a16 a17 a18 a19 a20 a21 x0 x1 x2 (va_A [(a0, .inr (8, [.int 2, .int 0, .int 1, .int 0, .int 0, .int 0, .ref a1, .ref a2, .int 0, .int 0, .ref a3, .ref a4, .ref a5, .ref a6, .ref a7, .ref a8, .ref a9, .int 0, .int 0, .int 0, .ref a10, .ref a11, .ref a12, .ref a13, .int 0, .int 0, .ref a14, .ref a15, .ref a16, .ref a17, .int 0, .int 0, .ref a18, .ref a19, .ref a20, .ref a21])), (a1, .inl (k 0, 36, .inl (tI [] 0))), (a3, .inl (k 1, 9, .inr (.inl (tL [] 0))))] sz)) (va_A [(a0, .inr (8, [.int 2, .int 0, .int 1, .int 0, .int 0, .int 0, .ref a1, .ref a2, .int 0, .int 0, .ref a3, .ref a4, .ref a5, .ref a6, .ref a7, .ref a8, .ref a9, .int 0, .int 0, .int 0, .ref a10, .ref a11, .ref a12, .ref a13, .int 0, .int 0, .ref a14, .ref a15, .ref a16, .ref a17, .int 0, .int 0, .ref a18, .ref a19, .ref a20, .ref a21])), (a1, .inl (k 0, 36, .inl (tI [] 0))), (a3, .inl (k 1, 9, .inr (.inl (tL [] 0))))] sz)) 0 0 (va_A [(a0, .inr (8, [.int 2, .int 0, .int 1, .int 0, .int 0, .int 0, .ref a1, .ref a2, .int 0, .int 0, .ref a3, .ref a4, .ref a5, .ref a6, .ref a7, .ref a8, .ref a9, .int 0, .int 0, .int 0, .ref a10, .ref a11, .ref a12, .ref a13, .int 0, .int 0, .ref a14, .ref a15, .ref a16, .ref a17, .int 0, .int 0, .ref a18, .ref a19, .ref a20, .ref a21])), (a1, .inl (k 0, 36, .inl (tI [] 0))), (a3, .inl (k 1, 9, .inr (.inl (tL [] 0))))] sz) := by
  refine begin_ (Qc := fun A => qI (BX11_unit_1 D k a0 a1 a3 a2 a4 a5 a6 a7 a8 a9 a10 a11 a12 a13 a14 a15 a16 a17 a18 a19 a20 a21 x0 x1 x2 A) A) (by decide) (Nat.le_of_ble_eq_true rfl) ?_
  intro p e s m below meth c ls A hx hb hr hml hown hlocks hin hU hK hsz hP hD hS hA hl
  have hl : lv_has ls 4 [(0, .ref a0), (1, .int x0), (2, .int x1), (3, .int x2)] := hl
  clear hsz
  refine lv_aload_n hx hb dX11_unit_0 rfl (lv_at hl 0 rfl) ?_
  refine lv_iload_n hx hb dX11_unit_1 rfl (lv_at hl 1 rfl) ?_
  refine cI (rV (q0 := 0) (ci := 8) (As := [.int x0]) (rest := []) (wc := [(a0, .inr (8, [.int 2, .int 0, .int 1, .int 0, .int 0, .int 0, .ref a1, .ref a2, .int 0, .int 0, .ref a3, .ref a4, .ref a5, .ref a6, .ref a7, .ref a8, .ref a9, .int 0, .int 0, .int 0, .ref a10, .ref a11, .ref a12, .ref a13, .int 0, .int 0, .ref a14, .ref a15, .ref a16, .ref a17, .int 0, .int 0, .ref a18, .ref a19, .ref a20, .ref a21]))]) hx hb hml hown hU hK hP hD rfl rfl [0] rfl (by decide) (cX11_isPlace_1 l D k _ a0 a1 a2 a3 a4 a5 a6 a7 a8 a9 a10 a11 a12 a13 a14 a15 a16 a17 a18 a19 a20 a21 (x0)) w909 w906 w908 w26 w72 hdX11_isPlace ⟨rfl, rfl⟩ ⟨Nat.le_of_ble_eq_true rfl, Nat.le_of_ble_eq_true rfl⟩ rfl hl.1 (Nat.le_of_ble_eq_true rfl) dX11_unit_2 ⟨Nat.le_of_ble_eq_true rfl, Nat.le_of_ble_eq_true rfl⟩) hP hD hS hA (wr := [(a1, .inl (k 0, 36, .inl (tI [] 0))), (a3, .inl (k 1, 9, .inr (.inl (tL [] 0))))]) [0] [1, 2] rfl rfl (by decide) (by decide) (fun r1 H locs hB J hS => ?_)
  rcases hB with ⟨c_2, rfl, hP1, hD1⟩ | ⟨c_3, c_4, rfl, hP1, hD1⟩ | ⟨c_5, c_6, rfl, hP1, hD1⟩
  · skip
    obtain ⟨hP, hD⟩ := J _ hP1 hD1
    have hP : va_P D cl0 [(a1, .inl (k 0, 36, .inl (tI [] 0))), (a3, .inl (k 1, 9, .inr (.inl (tL [] 0)))), (a0, .inr (8, [.int 2, .int 0, .int 1, .int 0, .int 0, .int 0, .ref a1, .ref a2, .int 0, .int 0, .ref a3, .ref a4, .ref a5, .ref a6, .ref a7, .ref a8, .ref a9, .int 0, .int 0, .int 0, .ref a10, .ref a11, .ref a12, .ref a13, .int 0, .int 0, .ref a14, .ref a15, .ref a16, .ref a17, .int 0, .int 0, .ref a18, .ref a19, .ref a20, .ref a21]))] H := hP
    have hD : va_D A [(a1, .inl (k 0, 36, .inl (tI [] 0))), (a3, .inl (k 1, 9, .inr (.inl (tL [] 0)))), (a0, .inr (8, [.int 2, .int 0, .int 1, .int 0, .int 0, .int 0, .ref a1, .ref a2, .int 0, .int 0, .ref a3, .ref a4, .ref a5, .ref a6, .ref a7, .ref a8, .ref a9, .int 0, .int 0, .int 0, .ref a10, .ref a11, .ref a12, .ref a13, .int 0, .int 0, .ref a14, .ref a15, .ref a16, .ref a17, .int 0, .int 0, .ref a18, .ref a19, .ref a20, .ref a21]))] := hD
    refine lv_if_eq (tgt := 48) hx hb dX11_unit_5 (by decide) (fun _ => ?_) (fun cc => absurd (by decide +kernel) cc)
    refine lv_iconst (v := (-1)) hx hb dX11_unit_48 (by decide) ?_
    exact retI (v := (-1)) hx hb hr hlocks hS (show ((-1) : Int32) = F_unit x0 x1 x2 by first | decide +kernel | (have f0 := dv_lt (x := x0.toInt) (y := 0) c_2 (wd x0) (by decide +kernel); unfold F_unit; (repeat (first | rw [if_pos (by omega)] | rw [if_neg (by omega)])))) dX11_unit_49
  · skip
    obtain ⟨hP, hD⟩ := J _ hP1 hD1
    have hP : va_P D cl0 [(a1, .inl (k 0, 36, .inl (tI [] 0))), (a3, .inl (k 1, 9, .inr (.inl (tL [] 0)))), (a0, .inr (8, [.int 2, .int 0, .int 1, .int 0, .int 0, .int 0, .ref a1, .ref a2, .int 0, .int 0, .ref a3, .ref a4, .ref a5, .ref a6, .ref a7, .ref a8, .ref a9, .int 0, .int 0, .int 0, .ref a10, .ref a11, .ref a12, .ref a13, .int 0, .int 0, .ref a14, .ref a15, .ref a16, .ref a17, .int 0, .int 0, .ref a18, .ref a19, .ref a20, .ref a21]))] H := hP
    have hD : va_D A [(a1, .inl (k 0, 36, .inl (tI [] 0))), (a3, .inl (k 1, 9, .inr (.inl (tL [] 0)))), (a0, .inr (8, [.int 2, .int 0, .int 1, .int 0, .int 0, .int 0, .ref a1, .ref a2, .int 0, .int 0, .ref a3, .ref a4, .ref a5, .ref a6, .ref a7, .ref a8, .ref a9, .int 0, .int 0, .int 0, .ref a10, .ref a11, .ref a12, .ref a13, .int 0, .int 0, .ref a14, .ref a15, .ref a16, .ref a17, .int 0, .int 0, .ref a18, .ref a19, .ref a20, .ref a21]))] := hD
    refine lv_if_eq (tgt := 48) hx hb dX11_unit_5 (by decide) (fun _ => ?_) (fun cc => absurd (by decide +kernel) cc)
    refine lv_iconst (v := (-1)) hx hb dX11_unit_48 (by decide) ?_
    exact retI (v := (-1)) hx hb hr hlocks hS (show ((-1) : Int32) = F_unit x0 x1 x2 by first | decide +kernel | (have f0 := dv_nlt (x := x0.toInt) (y := 0) c_3 (wd x0) (by decide +kernel); have f1 := dv_lt (x := 1) (y := x0.toInt) c_4 (by decide +kernel) (wd x0); unfold F_unit; (repeat (first | rw [if_pos (by omega)] | rw [if_neg (by omega)])))) dX11_unit_49
  · skip
    obtain ⟨hP, hD⟩ := J _ hP1 hD1
    have hP : va_P D cl0 [(a1, .inl (k 0, 36, .inl (tI [] 0))), (a3, .inl (k 1, 9, .inr (.inl (tL [] 0)))), (a0, .inr (8, [.int 2, .int 0, .int 1, .int 0, .int 0, .int 0, .ref a1, .ref a2, .int 0, .int 0, .ref a3, .ref a4, .ref a5, .ref a6, .ref a7, .ref a8, .ref a9, .int 0, .int 0, .int 0, .ref a10, .ref a11, .ref a12, .ref a13, .int 0, .int 0, .ref a14, .ref a15, .ref a16, .ref a17, .int 0, .int 0, .ref a18, .ref a19, .ref a20, .ref a21]))] H := hP
    have hD : va_D A [(a1, .inl (k 0, 36, .inl (tI [] 0))), (a3, .inl (k 1, 9, .inr (.inl (tL [] 0)))), (a0, .inr (8, [.int 2, .int 0, .int 1, .int 0, .int 0, .int 0, .ref a1, .ref a2, .int 0, .int 0, .ref a3, .ref a4, .ref a5, .ref a6, .ref a7, .ref a8, .ref a9, .int 0, .int 0, .int 0, .ref a10, .ref a11, .ref a12, .ref a13, .int 0, .int 0, .ref a14, .ref a15, .ref a16, .ref a17, .int 0, .int 0, .ref a18, .ref a19, .ref a20, .ref a21]))] := hD
    refine lv_if_eq (tgt := 48) hx hb dX11_unit_5 (by decide) (fun cc => absurd cc (by decide +kernel)) (fun _ => ?_)
    refine lv_aload_n hx hb dX11_unit_8 rfl (lv_at hl 0 rfl) ?_
    refine lv_iload_n hx hb dX11_unit_9 rfl (lv_at hl 2 rfl) ?_
    refine cI (rV (q0 := 2) (ci := 8) (As := [.int x1]) (rest := []) (wc := [(a0, .inr (8, [.int 2, .int 0, .int 1, .int 0, .int 0, .int 0, .ref a1, .ref a2, .int 0, .int 0, .ref a3, .ref a4, .ref a5, .ref a6, .ref a7, .ref a8, .ref a9, .int 0, .int 0, .int 0, .ref a10, .ref a11, .ref a12, .ref a13, .int 0, .int 0, .ref a14, .ref a15, .ref a16, .ref a17, .int 0, .int 0, .ref a18, .ref a19, .ref a20, .ref a21]))]) hx hb hml hown hU hK hP hD rfl rfl [2] rfl (by decide) (cX11_isPlace_1 l D k _ a0 a1 a2 a3 a4 a5 a6 a7 a8 a9 a10 a11 a12 a13 a14 a15 a16 a17 a18 a19 a20 a21 (x1)) w909 w906 w908 w26 w72 hdX11_isPlace ⟨rfl, rfl⟩ ⟨Nat.le_of_ble_eq_true rfl, Nat.le_of_ble_eq_true rfl⟩ rfl hl.1 (Nat.le_of_ble_eq_true rfl) dX11_unit_10 ⟨Nat.le_of_ble_eq_true rfl, Nat.le_of_ble_eq_true rfl⟩) hP hD hS hA (wr := [(a1, .inl (k 0, 36, .inl (tI [] 0))), (a3, .inl (k 1, 9, .inr (.inl (tL [] 0))))]) [2] [0, 1] rfl rfl (by decide) (by decide) (fun r7 H locs hB J hS => ?_)
    rcases hB with ⟨c_8, rfl, hP1, hD1⟩ | ⟨c_9, c_10, rfl, hP1, hD1⟩ | ⟨c_11, c_12, rfl, hP1, hD1⟩
    · skip
      obtain ⟨hP, hD⟩ := J _ hP1 hD1
      have hP : va_P D cl0 [(a1, .inl (k 0, 36, .inl (tI [] 0))), (a3, .inl (k 1, 9, .inr (.inl (tL [] 0)))), (a0, .inr (8, [.int 2, .int 0, .int 1, .int 0, .int 0, .int 0, .ref a1, .ref a2, .int 0, .int 0, .ref a3, .ref a4, .ref a5, .ref a6, .ref a7, .ref a8, .ref a9, .int 0, .int 0, .int 0, .ref a10, .ref a11, .ref a12, .ref a13, .int 0, .int 0, .ref a14, .ref a15, .ref a16, .ref a17, .int 0, .int 0, .ref a18, .ref a19, .ref a20, .ref a21]))] H := hP
      have hD : va_D A [(a1, .inl (k 0, 36, .inl (tI [] 0))), (a3, .inl (k 1, 9, .inr (.inl (tL [] 0)))), (a0, .inr (8, [.int 2, .int 0, .int 1, .int 0, .int 0, .int 0, .ref a1, .ref a2, .int 0, .int 0, .ref a3, .ref a4, .ref a5, .ref a6, .ref a7, .ref a8, .ref a9, .int 0, .int 0, .int 0, .ref a10, .ref a11, .ref a12, .ref a13, .int 0, .int 0, .ref a14, .ref a15, .ref a16, .ref a17, .int 0, .int 0, .ref a18, .ref a19, .ref a20, .ref a21]))] := hD
      refine lv_if_eq (tgt := 48) hx hb dX11_unit_13 (by decide) (fun _ => ?_) (fun cc => absurd (by decide +kernel) cc)
      refine lv_iconst (v := (-1)) hx hb dX11_unit_48 (by decide) ?_
      exact retI (v := (-1)) hx hb hr hlocks hS (show ((-1) : Int32) = F_unit x0 x1 x2 by first | decide +kernel | (have f0 := dv_nlt (x := x0.toInt) (y := 0) c_5 (wd x0) (by decide +kernel); have f1 := dv_nlt (x := 1) (y := x0.toInt) c_6 (by decide +kernel) (wd x0); have f2 := dv_lt (x := x1.toInt) (y := 0) c_8 (wd x1) (by decide +kernel); unfold F_unit; (repeat (first | rw [if_pos (by omega)] | rw [if_neg (by omega)])))) dX11_unit_49
    · skip
      obtain ⟨hP, hD⟩ := J _ hP1 hD1
      have hP : va_P D cl0 [(a1, .inl (k 0, 36, .inl (tI [] 0))), (a3, .inl (k 1, 9, .inr (.inl (tL [] 0)))), (a0, .inr (8, [.int 2, .int 0, .int 1, .int 0, .int 0, .int 0, .ref a1, .ref a2, .int 0, .int 0, .ref a3, .ref a4, .ref a5, .ref a6, .ref a7, .ref a8, .ref a9, .int 0, .int 0, .int 0, .ref a10, .ref a11, .ref a12, .ref a13, .int 0, .int 0, .ref a14, .ref a15, .ref a16, .ref a17, .int 0, .int 0, .ref a18, .ref a19, .ref a20, .ref a21]))] H := hP
      have hD : va_D A [(a1, .inl (k 0, 36, .inl (tI [] 0))), (a3, .inl (k 1, 9, .inr (.inl (tL [] 0)))), (a0, .inr (8, [.int 2, .int 0, .int 1, .int 0, .int 0, .int 0, .ref a1, .ref a2, .int 0, .int 0, .ref a3, .ref a4, .ref a5, .ref a6, .ref a7, .ref a8, .ref a9, .int 0, .int 0, .int 0, .ref a10, .ref a11, .ref a12, .ref a13, .int 0, .int 0, .ref a14, .ref a15, .ref a16, .ref a17, .int 0, .int 0, .ref a18, .ref a19, .ref a20, .ref a21]))] := hD
      refine lv_if_eq (tgt := 48) hx hb dX11_unit_13 (by decide) (fun _ => ?_) (fun cc => absurd (by decide +kernel) cc)
      refine lv_iconst (v := (-1)) hx hb dX11_unit_48 (by decide) ?_
      exact retI (v := (-1)) hx hb hr hlocks hS (show ((-1) : Int32) = F_unit x0 x1 x2 by first | decide +kernel | (have f0 := dv_nlt (x := x0.toInt) (y := 0) c_5 (wd x0) (by decide +kernel); have f1 := dv_nlt (x := 1) (y := x0.toInt) c_6 (by decide +kernel) (wd x0); have f2 := dv_nlt (x := x1.toInt) (y := 0) c_9 (wd x1) (by decide +kernel); have f3 := dv_lt (x := 1) (y := x1.toInt) c_10 (by decide +kernel) (wd x1); unfold F_unit; (repeat (first | rw [if_pos (by omega)] | rw [if_neg (by omega)])))) dX11_unit_49
    · skip
      obtain ⟨hP, hD⟩ := J _ hP1 hD1
      have hP : va_P D cl0 [(a1, .inl (k 0, 36, .inl (tI [] 0))), (a3, .inl (k 1, 9, .inr (.inl (tL [] 0)))), (a0, .inr (8, [.int 2, .int 0, .int 1, .int 0, .int 0, .int 0, .ref a1, .ref a2, .int 0, .int 0, .ref a3, .ref a4, .ref a5, .ref a6, .ref a7, .ref a8, .ref a9, .int 0, .int 0, .int 0, .ref a10, .ref a11, .ref a12, .ref a13, .int 0, .int 0, .ref a14, .ref a15, .ref a16, .ref a17, .int 0, .int 0, .ref a18, .ref a19, .ref a20, .ref a21]))] H := hP
      have hD : va_D A [(a1, .inl (k 0, 36, .inl (tI [] 0))), (a3, .inl (k 1, 9, .inr (.inl (tL [] 0)))), (a0, .inr (8, [.int 2, .int 0, .int 1, .int 0, .int 0, .int 0, .ref a1, .ref a2, .int 0, .int 0, .ref a3, .ref a4, .ref a5, .ref a6, .ref a7, .ref a8, .ref a9, .int 0, .int 0, .int 0, .ref a10, .ref a11, .ref a12, .ref a13, .int 0, .int 0, .ref a14, .ref a15, .ref a16, .ref a17, .int 0, .int 0, .ref a18, .ref a19, .ref a20, .ref a21]))] := hD
      refine lv_if_eq (tgt := 48) hx hb dX11_unit_13 (by decide) (fun cc => absurd cc (by decide +kernel)) (fun _ => ?_)
      refine lv_iload_n hx hb dX11_unit_16 rfl (lv_at hl 1 rfl) ?_
      refine lv_iload_n hx hb dX11_unit_17 rfl (lv_at hl 2 rfl) ?_
      have hsp : x0.toInt = 0 ∨ x0.toInt = 1 := by
        have f0 := dv_nlt (x := x0.toInt) (y := 0) c_5 (wd x0) (by decide +kernel)
        have f1 := dv_nlt (x := 1) (y := x0.toInt) c_6 (by decide +kernel) (wd x0)
        have f2 := dv_nlt (x := x1.toInt) (y := 0) c_11 (wd x1) (by decide +kernel)
        have f3 := dv_nlt (x := 1) (y := x1.toInt) c_12 (by decide +kernel) (wd x1)
        omega
      rcases hsp with hsp | hsp
      · skip
        obtain rfl : x0 = 0 := eq32 hsp (by decide +kernel)
        have hsp : x1.toInt = 0 ∨ x1.toInt = 1 := by
          have f2 := dv_nlt (x := x1.toInt) (y := 0) c_11 (wd x1) (by decide +kernel)
          have f3 := dv_nlt (x := 1) (y := x1.toInt) c_12 (by decide +kernel) (wd x1)
          have g_0 : (0 : Int32).toInt = 0 := (by decide +kernel)
          omega
        rcases hsp with hsp | hsp
        · skip
          obtain rfl : x1 = 0 := eq32 hsp (by decide +kernel)
          refine lv_icmp_ne (tgt := 34) hx hb dX11_unit_18 (by decide) (fun cc => absurd (by decide +kernel) cc) (fun _ => ?_)
          refine lv_iload_n hx hb dX11_unit_21 rfl (lv_at hl 3 rfl) ?_
          refine lv_iconst (v := 1) hx hb dX11_unit_22 (by decide) ?_
          refine lv_icmp_eq (tgt := 50) hx hb dX11_unit_23 (by decide) (fun c_13 => ?_) (fun c_13 => ?_)
          · skip
            subst c_13
            refine lv_aload_n hx hb dX11_unit_50 rfl (lv_at hl 0 rfl) ?_
            refine va_get (D := D) (ci := 8) (v := .int 0) (C := RX11) (T := TX11) (N := 36) hx hb hU iX11 hown hK.1 hP 2 rfl rfl 1 (by decide) (hU _ w786) (fun _ h9 => h9) rfl dX11_unit_51 ?_
            refine lv_iconst (v := 4) hx hb dX11_unit_54 (by decide) ?_
            refine lv_icmp_ne (tgt := 61) hx hb dX11_unit_55 (by decide) (fun _ => ?_) (fun cc => absurd cc (by decide +kernel))
            refine lv_aload_n hx hb dX11_unit_61 rfl (lv_at hl 0 rfl) ?_
            refine lv_iload_n hx hb dX11_unit_62 rfl (lv_at hl 1 rfl) ?_
            refine lv_iload_n hx hb dX11_unit_63 rfl (lv_at hl 2 rfl) ?_
            refine lv_iload_n hx hb dX11_unit_64 rfl (lv_at hl 3 rfl) ?_
            refine cV (rV (q0 := 2) (ci := 8) (As := [.int 0, .int 0, .int 1]) (rest := []) (wc := [(a0, .inr (8, [.int 2, .int 0, .int 1, .int 0, .int 0, .int 0, .ref a1, .ref a2, .int 0, .int 0, .ref a3, .ref a4, .ref a5, .ref a6, .ref a7, .ref a8, .ref a9, .int 0, .int 0, .int 0, .ref a10, .ref a11, .ref a12, .ref a13, .int 0, .int 0, .ref a14, .ref a15, .ref a16, .ref a17, .int 0, .int 0, .ref a18, .ref a19, .ref a20, .ref a21])), (a3, .inl (k 1, 9, .inr (.inl (tL [] 0))))]) hx hb hml hown hU hK hP hD rfl rfl [2, 1] rfl (by decide) (cX11_makesUnit_1 l D k _ a0 a3 a1 a2 a4 a5 a6 a7 a8 a9 a10 a11 a12 a13 a14 a15 a16 a17 a18 a19 a20 a21) w915 w912 w914 w27 w72 hdX11_makesUnit ⟨rfl, rfl⟩ ⟨Nat.le_of_ble_eq_true rfl, Nat.le_of_ble_eq_true rfl⟩ rfl hl.1 (Nat.le_of_ble_eq_true rfl) dX11_unit_65 ⟨Nat.le_of_ble_eq_true rfl, Nat.le_of_ble_eq_true rfl⟩) hP hD hS hA (wr := [(a1, .inl (k 0, 36, .inl (tI [] 0)))]) [2, 1] [0] rfl rfl (by decide) (by decide) (fun H locs hB J hS => ?_)
            obtain ⟨hP1, hD1⟩ := hB
            obtain ⟨hP, hD⟩ := J _ hP1 hD1
            have hP : va_P D cl0 [(a1, .inl (k 0, 36, .inl (tI [] 0))), (a0, .inr (8, [.int 2, .int 0, .int 1, .int 0, .int 0, .int 0, .ref a1, .ref a2, .int 0, .int 0, .ref a3, .ref a4, .ref a5, .ref a6, .ref a7, .ref a8, .ref a9, .int 0, .int 0, .int 0, .ref a10, .ref a11, .ref a12, .ref a13, .int 0, .int 0, .ref a14, .ref a15, .ref a16, .ref a17, .int 0, .int 0, .ref a18, .ref a19, .ref a20, .ref a21])), (a3, .inl (k 1, 9, .inr (.inl (tL [1, 0, 0, 0, 1, 0, 0, 0, 0] 0))))] H := hP
            have hD : va_D A [(a1, .inl (k 0, 36, .inl (tI [] 0))), (a0, .inr (8, [.int 2, .int 0, .int 1, .int 0, .int 0, .int 0, .ref a1, .ref a2, .int 0, .int 0, .ref a3, .ref a4, .ref a5, .ref a6, .ref a7, .ref a8, .ref a9, .int 0, .int 0, .int 0, .ref a10, .ref a11, .ref a12, .ref a13, .int 0, .int 0, .ref a14, .ref a15, .ref a16, .ref a17, .int 0, .int 0, .ref a18, .ref a19, .ref a20, .ref a21])), (a3, .inl (k 1, 9, .inr (.inl (tL [1, 0, 0, 0, 1, 0, 0, 0, 0] 0))))] := hD
            refine lv_aload_n hx hb dX11_unit_68 rfl (lv_at hl 0 rfl) ?_
            refine cI (rV (q0 := 1) (ci := 8) (As := []) (rest := []) (wc := [(a0, .inr (8, [.int 2, .int 0, .int 1, .int 0, .int 0, .int 0, .ref a1, .ref a2, .int 0, .int 0, .ref a3, .ref a4, .ref a5, .ref a6, .ref a7, .ref a8, .ref a9, .int 0, .int 0, .int 0, .ref a10, .ref a11, .ref a12, .ref a13, .int 0, .int 0, .ref a14, .ref a15, .ref a16, .ref a17, .int 0, .int 0, .ref a18, .ref a19, .ref a20, .ref a21])), (a3, .inl (k 1, 9, .inr (.inl (tL [1, 0, 0, 0, 1, 0, 0, 0, 0] 0)))), (a1, .inl (k 0, 36, .inl (tI [] 0)))]) hx hb hml hown hU hK hP hD rfl rfl [1, 2, 0] rfl (by decide) (cX11_comes_1 l D k _ a0 a3 a1 a2 a4 a5 a6 a7 a8 a9 a10 a11 a12 a13 a14 a15 a16 a17 a18 a19 a20 a21) w927 w924 w926 w30 w72 hdX11_comes ⟨rfl, rfl⟩ ⟨Nat.le_of_ble_eq_true rfl, Nat.le_of_ble_eq_true rfl⟩ rfl hl.1 (Nat.le_of_ble_eq_true rfl) dX11_unit_69 ⟨Nat.le_of_ble_eq_true rfl, Nat.le_of_ble_eq_true rfl⟩) hP hD hS hA (wr := []) [1, 2, 0] [] rfl rfl (by decide) (by decide) (fun r15 H locs hB J hS => ?_)
            obtain ⟨rfl, hP1, hD1⟩ := hB
            obtain ⟨hP, hD⟩ := J _ hP1 hD1
            have hP : va_P D cl0 [(a0, .inr (8, [.int 2, .int 1, .int 1, .int 0, .int 0, .int 0, .ref a1, .ref a2, .int 0, .int 0, .ref a3, .ref a4, .ref a5, .ref a6, .ref a7, .ref a8, .ref a9, .int 0, .int 0, .int 0, .ref a10, .ref a11, .ref a12, .ref a13, .int 0, .int 0, .ref a14, .ref a15, .ref a16, .ref a17, .int 0, .int 0, .ref a18, .ref a19, .ref a20, .ref a21])), (a3, .inl (k 1, 9, .inr (.inl (tL [1, 0, 0, 0, 1, 0, 0, 0, 0] 0)))), (a1, .inl (k 0, 36, .inl (tI [1, 0, 0, 0, 1, 0, 0, 0, 0] 0)))] H := hP
            have hD : va_D A [(a0, .inr (8, [.int 2, .int 1, .int 1, .int 0, .int 0, .int 0, .ref a1, .ref a2, .int 0, .int 0, .ref a3, .ref a4, .ref a5, .ref a6, .ref a7, .ref a8, .ref a9, .int 0, .int 0, .int 0, .ref a10, .ref a11, .ref a12, .ref a13, .int 0, .int 0, .ref a14, .ref a15, .ref a16, .ref a17, .int 0, .int 0, .ref a18, .ref a19, .ref a20, .ref a21])), (a3, .inl (k 1, 9, .inr (.inl (tL [1, 0, 0, 0, 1, 0, 0, 0, 0] 0)))), (a1, .inl (k 0, 36, .inl (tI [1, 0, 0, 0, 1, 0, 0, 0, 0] 0)))] := hD
            exact retI (v := 0) hx hb hr hlocks hS (show (0 : Int32) = F_unit 0 0 1 by first | decide +kernel | (have g_0 : (0 : Int32).toInt = 0 := (by decide +kernel); have g_1 : (1 : Int32).toInt = 1 := (by decide +kernel); unfold F_unit; (repeat (first | rw [if_pos (by omega)] | rw [if_neg (by omega)])))) dX11_unit_72
          · skip
            refine lv_iload_n hx hb dX11_unit_26 rfl (lv_at hl 3 rfl) ?_
            refine lv_iconst (v := (-1)) hx hb dX11_unit_27 (by decide) ?_
            refine lv_icmp_eq (tgt := 50) hx hb dX11_unit_28 (by decide) (fun c_16 => ?_) (fun c_16 => ?_)
            · skip
              subst c_16
              refine lv_aload_n hx hb dX11_unit_50 rfl (lv_at hl 0 rfl) ?_
              refine va_get (D := D) (ci := 8) (v := .int 0) (C := RX11) (T := TX11) (N := 36) hx hb hU iX11 hown hK.1 hP 2 rfl rfl 1 (by decide) (hU _ w786) (fun _ h9 => h9) rfl dX11_unit_51 ?_
              refine lv_iconst (v := 4) hx hb dX11_unit_54 (by decide) ?_
              refine lv_icmp_ne (tgt := 61) hx hb dX11_unit_55 (by decide) (fun _ => ?_) (fun cc => absurd cc (by decide +kernel))
              refine lv_aload_n hx hb dX11_unit_61 rfl (lv_at hl 0 rfl) ?_
              refine lv_iload_n hx hb dX11_unit_62 rfl (lv_at hl 1 rfl) ?_
              refine lv_iload_n hx hb dX11_unit_63 rfl (lv_at hl 2 rfl) ?_
              refine lv_iload_n hx hb dX11_unit_64 rfl (lv_at hl 3 rfl) ?_
              refine cV (rV (q0 := 2) (ci := 8) (As := [.int 0, .int 0, .int (-1)]) (rest := []) (wc := [(a0, .inr (8, [.int 2, .int 0, .int 1, .int 0, .int 0, .int 0, .ref a1, .ref a2, .int 0, .int 0, .ref a3, .ref a4, .ref a5, .ref a6, .ref a7, .ref a8, .ref a9, .int 0, .int 0, .int 0, .ref a10, .ref a11, .ref a12, .ref a13, .int 0, .int 0, .ref a14, .ref a15, .ref a16, .ref a17, .int 0, .int 0, .ref a18, .ref a19, .ref a20, .ref a21])), (a3, .inl (k 1, 9, .inr (.inl (tL [] 0))))]) hx hb hml hown hU hK hP hD rfl rfl [2, 1] rfl (by decide) (cX11_makesUnit_2 l D k _ a0 a3 a1 a2 a4 a5 a6 a7 a8 a9 a10 a11 a12 a13 a14 a15 a16 a17 a18 a19 a20 a21) w915 w912 w914 w27 w72 hdX11_makesUnit ⟨rfl, rfl⟩ ⟨Nat.le_of_ble_eq_true rfl, Nat.le_of_ble_eq_true rfl⟩ rfl hl.1 (Nat.le_of_ble_eq_true rfl) dX11_unit_65 ⟨Nat.le_of_ble_eq_true rfl, Nat.le_of_ble_eq_true rfl⟩) hP hD hS hA (wr := [(a1, .inl (k 0, 36, .inl (tI [] 0)))]) [2, 1] [0] rfl rfl (by decide) (by decide) (fun H locs hB J hS => ?_)
              obtain ⟨hP1, hD1⟩ := hB
              obtain ⟨hP, hD⟩ := J _ hP1 hD1
              have hP : va_P D cl0 [(a1, .inl (k 0, 36, .inl (tI [] 0))), (a0, .inr (8, [.int 2, .int 0, .int 1, .int 0, .int 0, .int 0, .ref a1, .ref a2, .int 0, .int 0, .ref a3, .ref a4, .ref a5, .ref a6, .ref a7, .ref a8, .ref a9, .int 0, .int 0, .int 0, .ref a10, .ref a11, .ref a12, .ref a13, .int 0, .int 0, .ref a14, .ref a15, .ref a16, .ref a17, .int 0, .int 0, .ref a18, .ref a19, .ref a20, .ref a21])), (a3, .inl (k 1, 9, .inr (.inl (tL [(-1), 0, 0, 0, 1, 0, 0, 0, 0] 0))))] H := hP
              have hD : va_D A [(a1, .inl (k 0, 36, .inl (tI [] 0))), (a0, .inr (8, [.int 2, .int 0, .int 1, .int 0, .int 0, .int 0, .ref a1, .ref a2, .int 0, .int 0, .ref a3, .ref a4, .ref a5, .ref a6, .ref a7, .ref a8, .ref a9, .int 0, .int 0, .int 0, .ref a10, .ref a11, .ref a12, .ref a13, .int 0, .int 0, .ref a14, .ref a15, .ref a16, .ref a17, .int 0, .int 0, .ref a18, .ref a19, .ref a20, .ref a21])), (a3, .inl (k 1, 9, .inr (.inl (tL [(-1), 0, 0, 0, 1, 0, 0, 0, 0] 0))))] := hD
              refine lv_aload_n hx hb dX11_unit_68 rfl (lv_at hl 0 rfl) ?_
              refine cI (rV (q0 := 1) (ci := 8) (As := []) (rest := []) (wc := [(a0, .inr (8, [.int 2, .int 0, .int 1, .int 0, .int 0, .int 0, .ref a1, .ref a2, .int 0, .int 0, .ref a3, .ref a4, .ref a5, .ref a6, .ref a7, .ref a8, .ref a9, .int 0, .int 0, .int 0, .ref a10, .ref a11, .ref a12, .ref a13, .int 0, .int 0, .ref a14, .ref a15, .ref a16, .ref a17, .int 0, .int 0, .ref a18, .ref a19, .ref a20, .ref a21])), (a3, .inl (k 1, 9, .inr (.inl (tL [(-1), 0, 0, 0, 1, 0, 0, 0, 0] 0)))), (a1, .inl (k 0, 36, .inl (tI [] 0)))]) hx hb hml hown hU hK hP hD rfl rfl [1, 2, 0] rfl (by decide) (cX11_comes_2 l D k _ a0 a3 a1 a2 a4 a5 a6 a7 a8 a9 a10 a11 a12 a13 a14 a15 a16 a17 a18 a19 a20 a21) w927 w924 w926 w30 w72 hdX11_comes ⟨rfl, rfl⟩ ⟨Nat.le_of_ble_eq_true rfl, Nat.le_of_ble_eq_true rfl⟩ rfl hl.1 (Nat.le_of_ble_eq_true rfl) dX11_unit_69 ⟨Nat.le_of_ble_eq_true rfl, Nat.le_of_ble_eq_true rfl⟩) hP hD hS hA (wr := []) [1, 2, 0] [] rfl rfl (by decide) (by decide) (fun r18 H locs hB J hS => ?_)
              obtain ⟨rfl, hP1, hD1⟩ := hB
              obtain ⟨hP, hD⟩ := J _ hP1 hD1
              have hP : va_P D cl0 [(a0, .inr (8, [.int 2, .int 1, .int 1, .int 0, .int 0, .int 0, .ref a1, .ref a2, .int 0, .int 0, .ref a3, .ref a4, .ref a5, .ref a6, .ref a7, .ref a8, .ref a9, .int 0, .int 0, .int 0, .ref a10, .ref a11, .ref a12, .ref a13, .int 0, .int 0, .ref a14, .ref a15, .ref a16, .ref a17, .int 0, .int 0, .ref a18, .ref a19, .ref a20, .ref a21])), (a3, .inl (k 1, 9, .inr (.inl (tL [(-1), 0, 0, 0, 1, 0, 0, 0, 0] 0)))), (a1, .inl (k 0, 36, .inl (tI [(-1), 0, 0, 0, 1, 0, 0, 0, 0] 0)))] H := hP
              have hD : va_D A [(a0, .inr (8, [.int 2, .int 1, .int 1, .int 0, .int 0, .int 0, .ref a1, .ref a2, .int 0, .int 0, .ref a3, .ref a4, .ref a5, .ref a6, .ref a7, .ref a8, .ref a9, .int 0, .int 0, .int 0, .ref a10, .ref a11, .ref a12, .ref a13, .int 0, .int 0, .ref a14, .ref a15, .ref a16, .ref a17, .int 0, .int 0, .ref a18, .ref a19, .ref a20, .ref a21])), (a3, .inl (k 1, 9, .inr (.inl (tL [(-1), 0, 0, 0, 1, 0, 0, 0, 0] 0)))), (a1, .inl (k 0, 36, .inl (tI [(-1), 0, 0, 0, 1, 0, 0, 0, 0] 0)))] := hD
              exact retI (v := 0) hx hb hr hlocks hS (show (0 : Int32) = F_unit 0 0 (-1) by first | decide +kernel | (have g_m1 : ((-1) : Int32).toInt = (-1) := (by decide +kernel); have g_0 : (0 : Int32).toInt = 0 := (by decide +kernel); unfold F_unit; (repeat (first | rw [if_pos (by omega)] | rw [if_neg (by omega)])))) dX11_unit_72
            · skip
              refine lv_goto (tgt := 48) hx hb dX11_unit_31 (by decide) ?_
              refine lv_iconst (v := (-1)) hx hb dX11_unit_48 (by decide) ?_
              exact retI (v := (-1)) hx hb hr hlocks hS (show ((-1) : Int32) = F_unit 0 0 x2 by first | decide +kernel | (have f4 := cv_ne (x := x2.toInt) (y := 1) c_13 rfl (by decide +kernel); have f5 := cv_ne (x := x2.toInt) (y := (-1)) c_16 rfl (by decide +kernel); have g_0 : (0 : Int32).toInt = 0 := (by decide +kernel); unfold F_unit; (repeat (first | rw [if_pos (by omega)] | rw [if_neg (by omega)])))) dX11_unit_49
        · skip
          obtain rfl : x1 = 1 := eq32 hsp (by decide +kernel)
          refine lv_icmp_ne (tgt := 34) hx hb dX11_unit_18 (by decide) (fun _ => ?_) (fun cc => absurd cc (by decide +kernel))
          refine lv_iload_n hx hb dX11_unit_34 rfl (lv_at hl 3 rfl) ?_
          refine lv_i2l (v := x2.toInt64) hx hb dX11_unit_35 rfl ?_
          refine lv_ldc2 hx hb hown (hU _ w910) dX11_unit_36 ?_
          refine lv_ldc2 hx hb hown (hU _ w911) dX11_unit_39 ?_
          refine cI (rS (As := [.long x2.toInt64, .long (-99), .long 99]) (rest := []) (wc := []) hx hb hml hown hU hK hP hD [] rfl (by decide) (cX11_in_6 l D k _ (x2.toInt64)) w901 w899 w900 w72 hdX11_in ⟨rfl, rfl⟩ ⟨Nat.le_of_ble_eq_true rfl, Nat.le_of_ble_eq_true rfl⟩ rfl hl.1 (Nat.le_of_ble_eq_true rfl) dX11_unit_42 ⟨Nat.le_of_ble_eq_true rfl, Nat.le_of_ble_eq_true rfl⟩) hP hD hS hA (wr := [(a1, .inl (k 0, 36, .inl (tI [] 0))), (a3, .inl (k 1, 9, .inr (.inl (tL [] 0)))), (a0, .inr (8, [.int 2, .int 0, .int 1, .int 0, .int 0, .int 0, .ref a1, .ref a2, .int 0, .int 0, .ref a3, .ref a4, .ref a5, .ref a6, .ref a7, .ref a8, .ref a9, .int 0, .int 0, .int 0, .ref a10, .ref a11, .ref a12, .ref a13, .int 0, .int 0, .ref a14, .ref a15, .ref a16, .ref a17, .int 0, .int 0, .ref a18, .ref a19, .ref a20, .ref a21]))]) [] [0, 1, 2] rfl rfl (by decide) (by decide) (fun r19 H locs hB J hS => ?_)
          rcases hB with ⟨c_20, rfl, hP1, hD1⟩ | ⟨c_21, c_22, rfl, hP1, hD1⟩ | ⟨c_23, c_24, rfl, hP1, hD1⟩
          · skip
            obtain ⟨hP, hD⟩ := J _ hP1 hD1
            have hP : va_P D cl0 [(a1, .inl (k 0, 36, .inl (tI [] 0))), (a3, .inl (k 1, 9, .inr (.inl (tL [] 0)))), (a0, .inr (8, [.int 2, .int 0, .int 1, .int 0, .int 0, .int 0, .ref a1, .ref a2, .int 0, .int 0, .ref a3, .ref a4, .ref a5, .ref a6, .ref a7, .ref a8, .ref a9, .int 0, .int 0, .int 0, .ref a10, .ref a11, .ref a12, .ref a13, .int 0, .int 0, .ref a14, .ref a15, .ref a16, .ref a17, .int 0, .int 0, .ref a18, .ref a19, .ref a20, .ref a21]))] H := hP
            have hD : va_D A [(a1, .inl (k 0, 36, .inl (tI [] 0))), (a3, .inl (k 1, 9, .inr (.inl (tL [] 0)))), (a0, .inr (8, [.int 2, .int 0, .int 1, .int 0, .int 0, .int 0, .ref a1, .ref a2, .int 0, .int 0, .ref a3, .ref a4, .ref a5, .ref a6, .ref a7, .ref a8, .ref a9, .int 0, .int 0, .int 0, .ref a10, .ref a11, .ref a12, .ref a13, .int 0, .int 0, .ref a14, .ref a15, .ref a16, .ref a17, .int 0, .int 0, .ref a18, .ref a19, .ref a20, .ref a21]))] := hD
            refine lv_if_ne (tgt := 50) hx hb dX11_unit_45 (by decide) (fun cc => absurd (by decide +kernel) cc) (fun _ => ?_)
            refine lv_iconst (v := (-1)) hx hb dX11_unit_48 (by decide) ?_
            exact retI (v := (-1)) hx hb hr hlocks hS (show ((-1) : Int32) = F_unit 0 1 x2 by first | decide +kernel | (have f4 := dv_lt (x := x2.toInt) (y := (-99)) c_20 (wd x2) (by decide +kernel); have g_0 : (0 : Int32).toInt = 0 := (by decide +kernel); have g_1 : (1 : Int32).toInt = 1 := (by decide +kernel); unfold F_unit; (repeat (first | rw [if_pos (by omega)] | rw [if_neg (by omega)])))) dX11_unit_49
          · skip
            obtain ⟨hP, hD⟩ := J _ hP1 hD1
            have hP : va_P D cl0 [(a1, .inl (k 0, 36, .inl (tI [] 0))), (a3, .inl (k 1, 9, .inr (.inl (tL [] 0)))), (a0, .inr (8, [.int 2, .int 0, .int 1, .int 0, .int 0, .int 0, .ref a1, .ref a2, .int 0, .int 0, .ref a3, .ref a4, .ref a5, .ref a6, .ref a7, .ref a8, .ref a9, .int 0, .int 0, .int 0, .ref a10, .ref a11, .ref a12, .ref a13, .int 0, .int 0, .ref a14, .ref a15, .ref a16, .ref a17, .int 0, .int 0, .ref a18, .ref a19, .ref a20, .ref a21]))] H := hP
            have hD : va_D A [(a1, .inl (k 0, 36, .inl (tI [] 0))), (a3, .inl (k 1, 9, .inr (.inl (tL [] 0)))), (a0, .inr (8, [.int 2, .int 0, .int 1, .int 0, .int 0, .int 0, .ref a1, .ref a2, .int 0, .int 0, .ref a3, .ref a4, .ref a5, .ref a6, .ref a7, .ref a8, .ref a9, .int 0, .int 0, .int 0, .ref a10, .ref a11, .ref a12, .ref a13, .int 0, .int 0, .ref a14, .ref a15, .ref a16, .ref a17, .int 0, .int 0, .ref a18, .ref a19, .ref a20, .ref a21]))] := hD
            refine lv_if_ne (tgt := 50) hx hb dX11_unit_45 (by decide) (fun cc => absurd (by decide +kernel) cc) (fun _ => ?_)
            refine lv_iconst (v := (-1)) hx hb dX11_unit_48 (by decide) ?_
            exact retI (v := (-1)) hx hb hr hlocks hS (show ((-1) : Int32) = F_unit 0 1 x2 by first | decide +kernel | (have f4 := dv_nlt (x := x2.toInt) (y := (-99)) c_21 (wd x2) (by decide +kernel); have f5 := dv_lt (x := 99) (y := x2.toInt) c_22 (by decide +kernel) (wd x2); have g_0 : (0 : Int32).toInt = 0 := (by decide +kernel); have g_1 : (1 : Int32).toInt = 1 := (by decide +kernel); unfold F_unit; (repeat (first | rw [if_pos (by omega)] | rw [if_neg (by omega)])))) dX11_unit_49
          · skip
            obtain ⟨hP, hD⟩ := J _ hP1 hD1
            have hP : va_P D cl0 [(a1, .inl (k 0, 36, .inl (tI [] 0))), (a3, .inl (k 1, 9, .inr (.inl (tL [] 0)))), (a0, .inr (8, [.int 2, .int 0, .int 1, .int 0, .int 0, .int 0, .ref a1, .ref a2, .int 0, .int 0, .ref a3, .ref a4, .ref a5, .ref a6, .ref a7, .ref a8, .ref a9, .int 0, .int 0, .int 0, .ref a10, .ref a11, .ref a12, .ref a13, .int 0, .int 0, .ref a14, .ref a15, .ref a16, .ref a17, .int 0, .int 0, .ref a18, .ref a19, .ref a20, .ref a21]))] H := hP
            have hD : va_D A [(a1, .inl (k 0, 36, .inl (tI [] 0))), (a3, .inl (k 1, 9, .inr (.inl (tL [] 0)))), (a0, .inr (8, [.int 2, .int 0, .int 1, .int 0, .int 0, .int 0, .ref a1, .ref a2, .int 0, .int 0, .ref a3, .ref a4, .ref a5, .ref a6, .ref a7, .ref a8, .ref a9, .int 0, .int 0, .int 0, .ref a10, .ref a11, .ref a12, .ref a13, .int 0, .int 0, .ref a14, .ref a15, .ref a16, .ref a17, .int 0, .int 0, .ref a18, .ref a19, .ref a20, .ref a21]))] := hD
            refine lv_if_ne (tgt := 50) hx hb dX11_unit_45 (by decide) (fun _ => ?_) (fun cc => absurd cc (by decide +kernel))
            refine lv_aload_n hx hb dX11_unit_50 rfl (lv_at hl 0 rfl) ?_
            refine va_get (D := D) (ci := 8) (v := .int 0) (C := RX11) (T := TX11) (N := 36) hx hb hU iX11 hown hK.1 hP 2 rfl rfl 1 (by decide) (hU _ w786) (fun _ h9 => h9) rfl dX11_unit_51 ?_
            refine lv_iconst (v := 4) hx hb dX11_unit_54 (by decide) ?_
            refine lv_icmp_ne (tgt := 61) hx hb dX11_unit_55 (by decide) (fun _ => ?_) (fun cc => absurd cc (by decide +kernel))
            refine lv_aload_n hx hb dX11_unit_61 rfl (lv_at hl 0 rfl) ?_
            refine lv_iload_n hx hb dX11_unit_62 rfl (lv_at hl 1 rfl) ?_
            refine lv_iload_n hx hb dX11_unit_63 rfl (lv_at hl 2 rfl) ?_
            refine lv_iload_n hx hb dX11_unit_64 rfl (lv_at hl 3 rfl) ?_
            refine cV (rV (q0 := 2) (ci := 8) (As := [.int 0, .int 1, .int x2]) (rest := []) (wc := [(a0, .inr (8, [.int 2, .int 0, .int 1, .int 0, .int 0, .int 0, .ref a1, .ref a2, .int 0, .int 0, .ref a3, .ref a4, .ref a5, .ref a6, .ref a7, .ref a8, .ref a9, .int 0, .int 0, .int 0, .ref a10, .ref a11, .ref a12, .ref a13, .int 0, .int 0, .ref a14, .ref a15, .ref a16, .ref a17, .int 0, .int 0, .ref a18, .ref a19, .ref a20, .ref a21])), (a3, .inl (k 1, 9, .inr (.inl (tL [] 0))))]) hx hb hml hown hU hK hP hD rfl rfl [2, 1] rfl (by decide) (cX11_makesUnit_3 l D k _ a0 a3 a1 a2 a4 a5 a6 a7 a8 a9 a10 a11 a12 a13 a14 a15 a16 a17 a18 a19 a20 a21 (x2)) w915 w912 w914 w27 w72 hdX11_makesUnit ⟨rfl, rfl⟩ ⟨Nat.le_of_ble_eq_true rfl, Nat.le_of_ble_eq_true rfl⟩ rfl hl.1 (Nat.le_of_ble_eq_true rfl) dX11_unit_65 ⟨Nat.le_of_ble_eq_true rfl, Nat.le_of_ble_eq_true rfl⟩) hP hD hS hA (wr := [(a1, .inl (k 0, 36, .inl (tI [] 0)))]) [2, 1] [0] rfl rfl (by decide) (by decide) (fun H locs hB J hS => ?_)
            obtain ⟨hP1, hD1⟩ := hB
            obtain ⟨hP, hD⟩ := J _ hP1 hD1
            have hP : va_P D cl0 [(a1, .inl (k 0, 36, .inl (tI [] 0))), (a0, .inr (8, [.int 2, .int 0, .int 1, .int 0, .int 0, .int 0, .ref a1, .ref a2, .int 0, .int 0, .ref a3, .ref a4, .ref a5, .ref a6, .ref a7, .ref a8, .ref a9, .int 0, .int 0, .int 0, .ref a10, .ref a11, .ref a12, .ref a13, .int 0, .int 0, .ref a14, .ref a15, .ref a16, .ref a17, .int 0, .int 0, .ref a18, .ref a19, .ref a20, .ref a21])), (a3, .inl (k 1, 9, .inr (.inl (tL [1, x2.toInt64, 0, 0, 1, 0, 0, 0, 0] 0))))] H := hP
            have hD : va_D A [(a1, .inl (k 0, 36, .inl (tI [] 0))), (a0, .inr (8, [.int 2, .int 0, .int 1, .int 0, .int 0, .int 0, .ref a1, .ref a2, .int 0, .int 0, .ref a3, .ref a4, .ref a5, .ref a6, .ref a7, .ref a8, .ref a9, .int 0, .int 0, .int 0, .ref a10, .ref a11, .ref a12, .ref a13, .int 0, .int 0, .ref a14, .ref a15, .ref a16, .ref a17, .int 0, .int 0, .ref a18, .ref a19, .ref a20, .ref a21])), (a3, .inl (k 1, 9, .inr (.inl (tL [1, x2.toInt64, 0, 0, 1, 0, 0, 0, 0] 0))))] := hD
            refine lv_aload_n hx hb dX11_unit_68 rfl (lv_at hl 0 rfl) ?_
            refine cI (rV (q0 := 1) (ci := 8) (As := []) (rest := []) (wc := [(a0, .inr (8, [.int 2, .int 0, .int 1, .int 0, .int 0, .int 0, .ref a1, .ref a2, .int 0, .int 0, .ref a3, .ref a4, .ref a5, .ref a6, .ref a7, .ref a8, .ref a9, .int 0, .int 0, .int 0, .ref a10, .ref a11, .ref a12, .ref a13, .int 0, .int 0, .ref a14, .ref a15, .ref a16, .ref a17, .int 0, .int 0, .ref a18, .ref a19, .ref a20, .ref a21])), (a3, .inl (k 1, 9, .inr (.inl (tL [1, x2.toInt64, 0, 0, 1, 0, 0, 0, 0] 0)))), (a1, .inl (k 0, 36, .inl (tI [] 0)))]) hx hb hml hown hU hK hP hD rfl rfl [1, 2, 0] rfl (by decide) (cX11_comes_3 l D k _ a0 a3 a1 a2 a4 a5 a6 a7 a8 a9 a10 a11 a12 a13 a14 a15 a16 a17 a18 a19 a20 a21 (x2.toInt64)) w927 w924 w926 w30 w72 hdX11_comes ⟨rfl, rfl⟩ ⟨Nat.le_of_ble_eq_true rfl, Nat.le_of_ble_eq_true rfl⟩ rfl hl.1 (Nat.le_of_ble_eq_true rfl) dX11_unit_69 ⟨Nat.le_of_ble_eq_true rfl, Nat.le_of_ble_eq_true rfl⟩) hP hD hS hA (wr := []) [1, 2, 0] [] rfl rfl (by decide) (by decide) (fun r26 H locs hB J hS => ?_)
            obtain ⟨rfl, hP1, hD1⟩ := hB
            obtain ⟨hP, hD⟩ := J _ hP1 hD1
            have hP : va_P D cl0 [(a0, .inr (8, [.int 2, .int 1, .int 1, .int 0, .int 0, .int 0, .ref a1, .ref a2, .int 0, .int 0, .ref a3, .ref a4, .ref a5, .ref a6, .ref a7, .ref a8, .ref a9, .int 0, .int 0, .int 0, .ref a10, .ref a11, .ref a12, .ref a13, .int 0, .int 0, .ref a14, .ref a15, .ref a16, .ref a17, .int 0, .int 0, .ref a18, .ref a19, .ref a20, .ref a21])), (a3, .inl (k 1, 9, .inr (.inl (tL [1, x2.toInt64, 0, 0, 1, 0, 0, 0, 0] 0)))), (a1, .inl (k 0, 36, .inl (tI [1, x2.toInt64.toInt32, 0, 0, 1, 0, 0, 0, 0] 0)))] H := hP
            have hD : va_D A [(a0, .inr (8, [.int 2, .int 1, .int 1, .int 0, .int 0, .int 0, .ref a1, .ref a2, .int 0, .int 0, .ref a3, .ref a4, .ref a5, .ref a6, .ref a7, .ref a8, .ref a9, .int 0, .int 0, .int 0, .ref a10, .ref a11, .ref a12, .ref a13, .int 0, .int 0, .ref a14, .ref a15, .ref a16, .ref a17, .int 0, .int 0, .ref a18, .ref a19, .ref a20, .ref a21])), (a3, .inl (k 1, 9, .inr (.inl (tL [1, x2.toInt64, 0, 0, 1, 0, 0, 0, 0] 0)))), (a1, .inl (k 0, 36, .inl (tI [1, x2.toInt64.toInt32, 0, 0, 1, 0, 0, 0, 0] 0)))] := hD
            exact retI (v := 0) hx hb hr hlocks hS (show (0 : Int32) = F_unit 0 1 x2 by first | decide +kernel | (have f4 := dv_nlt (x := x2.toInt) (y := (-99)) c_23 (wd x2) (by decide +kernel); have f5 := dv_nlt (x := 99) (y := x2.toInt) c_24 (by decide +kernel) (wd x2); have g_0 : (0 : Int32).toInt = 0 := (by decide +kernel); have g_1 : (1 : Int32).toInt = 1 := (by decide +kernel); unfold F_unit; (repeat (first | rw [if_pos (by omega)] | rw [if_neg (by omega)])))) dX11_unit_72
      · skip
        obtain rfl : x0 = 1 := eq32 hsp (by decide +kernel)
        have hsp : x1.toInt = 0 ∨ x1.toInt = 1 := by
          have f2 := dv_nlt (x := x1.toInt) (y := 0) c_11 (wd x1) (by decide +kernel)
          have f3 := dv_nlt (x := 1) (y := x1.toInt) c_12 (by decide +kernel) (wd x1)
          have g_1 : (1 : Int32).toInt = 1 := (by decide +kernel)
          omega
        rcases hsp with hsp | hsp
        · skip
          obtain rfl : x1 = 0 := eq32 hsp (by decide +kernel)
          refine lv_icmp_ne (tgt := 34) hx hb dX11_unit_18 (by decide) (fun _ => ?_) (fun cc => absurd cc (by decide +kernel))
          refine lv_iload_n hx hb dX11_unit_34 rfl (lv_at hl 3 rfl) ?_
          refine lv_i2l (v := x2.toInt64) hx hb dX11_unit_35 rfl ?_
          refine lv_ldc2 hx hb hown (hU _ w910) dX11_unit_36 ?_
          refine lv_ldc2 hx hb hown (hU _ w911) dX11_unit_39 ?_
          refine cI (rS (As := [.long x2.toInt64, .long (-99), .long 99]) (rest := []) (wc := []) hx hb hml hown hU hK hP hD [] rfl (by decide) (cX11_in_6 l D k _ (x2.toInt64)) w901 w899 w900 w72 hdX11_in ⟨rfl, rfl⟩ ⟨Nat.le_of_ble_eq_true rfl, Nat.le_of_ble_eq_true rfl⟩ rfl hl.1 (Nat.le_of_ble_eq_true rfl) dX11_unit_42 ⟨Nat.le_of_ble_eq_true rfl, Nat.le_of_ble_eq_true rfl⟩) hP hD hS hA (wr := [(a1, .inl (k 0, 36, .inl (tI [] 0))), (a3, .inl (k 1, 9, .inr (.inl (tL [] 0)))), (a0, .inr (8, [.int 2, .int 0, .int 1, .int 0, .int 0, .int 0, .ref a1, .ref a2, .int 0, .int 0, .ref a3, .ref a4, .ref a5, .ref a6, .ref a7, .ref a8, .ref a9, .int 0, .int 0, .int 0, .ref a10, .ref a11, .ref a12, .ref a13, .int 0, .int 0, .ref a14, .ref a15, .ref a16, .ref a17, .int 0, .int 0, .ref a18, .ref a19, .ref a20, .ref a21]))]) [] [0, 1, 2] rfl rfl (by decide) (by decide) (fun r27 H locs hB J hS => ?_)
          rcases hB with ⟨c_28, rfl, hP1, hD1⟩ | ⟨c_29, c_30, rfl, hP1, hD1⟩ | ⟨c_31, c_32, rfl, hP1, hD1⟩
          · skip
            obtain ⟨hP, hD⟩ := J _ hP1 hD1
            have hP : va_P D cl0 [(a1, .inl (k 0, 36, .inl (tI [] 0))), (a3, .inl (k 1, 9, .inr (.inl (tL [] 0)))), (a0, .inr (8, [.int 2, .int 0, .int 1, .int 0, .int 0, .int 0, .ref a1, .ref a2, .int 0, .int 0, .ref a3, .ref a4, .ref a5, .ref a6, .ref a7, .ref a8, .ref a9, .int 0, .int 0, .int 0, .ref a10, .ref a11, .ref a12, .ref a13, .int 0, .int 0, .ref a14, .ref a15, .ref a16, .ref a17, .int 0, .int 0, .ref a18, .ref a19, .ref a20, .ref a21]))] H := hP
            have hD : va_D A [(a1, .inl (k 0, 36, .inl (tI [] 0))), (a3, .inl (k 1, 9, .inr (.inl (tL [] 0)))), (a0, .inr (8, [.int 2, .int 0, .int 1, .int 0, .int 0, .int 0, .ref a1, .ref a2, .int 0, .int 0, .ref a3, .ref a4, .ref a5, .ref a6, .ref a7, .ref a8, .ref a9, .int 0, .int 0, .int 0, .ref a10, .ref a11, .ref a12, .ref a13, .int 0, .int 0, .ref a14, .ref a15, .ref a16, .ref a17, .int 0, .int 0, .ref a18, .ref a19, .ref a20, .ref a21]))] := hD
            refine lv_if_ne (tgt := 50) hx hb dX11_unit_45 (by decide) (fun cc => absurd (by decide +kernel) cc) (fun _ => ?_)
            refine lv_iconst (v := (-1)) hx hb dX11_unit_48 (by decide) ?_
            exact retI (v := (-1)) hx hb hr hlocks hS (show ((-1) : Int32) = F_unit 1 0 x2 by first | decide +kernel | (have f4 := dv_lt (x := x2.toInt) (y := (-99)) c_28 (wd x2) (by decide +kernel); have g_0 : (0 : Int32).toInt = 0 := (by decide +kernel); have g_1 : (1 : Int32).toInt = 1 := (by decide +kernel); unfold F_unit; (repeat (first | rw [if_pos (by omega)] | rw [if_neg (by omega)])))) dX11_unit_49
          · skip
            obtain ⟨hP, hD⟩ := J _ hP1 hD1
            have hP : va_P D cl0 [(a1, .inl (k 0, 36, .inl (tI [] 0))), (a3, .inl (k 1, 9, .inr (.inl (tL [] 0)))), (a0, .inr (8, [.int 2, .int 0, .int 1, .int 0, .int 0, .int 0, .ref a1, .ref a2, .int 0, .int 0, .ref a3, .ref a4, .ref a5, .ref a6, .ref a7, .ref a8, .ref a9, .int 0, .int 0, .int 0, .ref a10, .ref a11, .ref a12, .ref a13, .int 0, .int 0, .ref a14, .ref a15, .ref a16, .ref a17, .int 0, .int 0, .ref a18, .ref a19, .ref a20, .ref a21]))] H := hP
            have hD : va_D A [(a1, .inl (k 0, 36, .inl (tI [] 0))), (a3, .inl (k 1, 9, .inr (.inl (tL [] 0)))), (a0, .inr (8, [.int 2, .int 0, .int 1, .int 0, .int 0, .int 0, .ref a1, .ref a2, .int 0, .int 0, .ref a3, .ref a4, .ref a5, .ref a6, .ref a7, .ref a8, .ref a9, .int 0, .int 0, .int 0, .ref a10, .ref a11, .ref a12, .ref a13, .int 0, .int 0, .ref a14, .ref a15, .ref a16, .ref a17, .int 0, .int 0, .ref a18, .ref a19, .ref a20, .ref a21]))] := hD
            refine lv_if_ne (tgt := 50) hx hb dX11_unit_45 (by decide) (fun cc => absurd (by decide +kernel) cc) (fun _ => ?_)
            refine lv_iconst (v := (-1)) hx hb dX11_unit_48 (by decide) ?_
            exact retI (v := (-1)) hx hb hr hlocks hS (show ((-1) : Int32) = F_unit 1 0 x2 by first | decide +kernel | (have f4 := dv_nlt (x := x2.toInt) (y := (-99)) c_29 (wd x2) (by decide +kernel); have f5 := dv_lt (x := 99) (y := x2.toInt) c_30 (by decide +kernel) (wd x2); have g_0 : (0 : Int32).toInt = 0 := (by decide +kernel); have g_1 : (1 : Int32).toInt = 1 := (by decide +kernel); unfold F_unit; (repeat (first | rw [if_pos (by omega)] | rw [if_neg (by omega)])))) dX11_unit_49
          · skip
            obtain ⟨hP, hD⟩ := J _ hP1 hD1
            have hP : va_P D cl0 [(a1, .inl (k 0, 36, .inl (tI [] 0))), (a3, .inl (k 1, 9, .inr (.inl (tL [] 0)))), (a0, .inr (8, [.int 2, .int 0, .int 1, .int 0, .int 0, .int 0, .ref a1, .ref a2, .int 0, .int 0, .ref a3, .ref a4, .ref a5, .ref a6, .ref a7, .ref a8, .ref a9, .int 0, .int 0, .int 0, .ref a10, .ref a11, .ref a12, .ref a13, .int 0, .int 0, .ref a14, .ref a15, .ref a16, .ref a17, .int 0, .int 0, .ref a18, .ref a19, .ref a20, .ref a21]))] H := hP
            have hD : va_D A [(a1, .inl (k 0, 36, .inl (tI [] 0))), (a3, .inl (k 1, 9, .inr (.inl (tL [] 0)))), (a0, .inr (8, [.int 2, .int 0, .int 1, .int 0, .int 0, .int 0, .ref a1, .ref a2, .int 0, .int 0, .ref a3, .ref a4, .ref a5, .ref a6, .ref a7, .ref a8, .ref a9, .int 0, .int 0, .int 0, .ref a10, .ref a11, .ref a12, .ref a13, .int 0, .int 0, .ref a14, .ref a15, .ref a16, .ref a17, .int 0, .int 0, .ref a18, .ref a19, .ref a20, .ref a21]))] := hD
            refine lv_if_ne (tgt := 50) hx hb dX11_unit_45 (by decide) (fun _ => ?_) (fun cc => absurd cc (by decide +kernel))
            refine lv_aload_n hx hb dX11_unit_50 rfl (lv_at hl 0 rfl) ?_
            refine va_get (D := D) (ci := 8) (v := .int 0) (C := RX11) (T := TX11) (N := 36) hx hb hU iX11 hown hK.1 hP 2 rfl rfl 1 (by decide) (hU _ w786) (fun _ h9 => h9) rfl dX11_unit_51 ?_
            refine lv_iconst (v := 4) hx hb dX11_unit_54 (by decide) ?_
            refine lv_icmp_ne (tgt := 61) hx hb dX11_unit_55 (by decide) (fun _ => ?_) (fun cc => absurd cc (by decide +kernel))
            refine lv_aload_n hx hb dX11_unit_61 rfl (lv_at hl 0 rfl) ?_
            refine lv_iload_n hx hb dX11_unit_62 rfl (lv_at hl 1 rfl) ?_
            refine lv_iload_n hx hb dX11_unit_63 rfl (lv_at hl 2 rfl) ?_
            refine lv_iload_n hx hb dX11_unit_64 rfl (lv_at hl 3 rfl) ?_
            refine cV (rV (q0 := 2) (ci := 8) (As := [.int 1, .int 0, .int x2]) (rest := []) (wc := [(a0, .inr (8, [.int 2, .int 0, .int 1, .int 0, .int 0, .int 0, .ref a1, .ref a2, .int 0, .int 0, .ref a3, .ref a4, .ref a5, .ref a6, .ref a7, .ref a8, .ref a9, .int 0, .int 0, .int 0, .ref a10, .ref a11, .ref a12, .ref a13, .int 0, .int 0, .ref a14, .ref a15, .ref a16, .ref a17, .int 0, .int 0, .ref a18, .ref a19, .ref a20, .ref a21])), (a3, .inl (k 1, 9, .inr (.inl (tL [] 0))))]) hx hb hml hown hU hK hP hD rfl rfl [2, 1] rfl (by decide) (cX11_makesUnit_4 l D k _ a0 a3 a1 a2 a4 a5 a6 a7 a8 a9 a10 a11 a12 a13 a14 a15 a16 a17 a18 a19 a20 a21 (x2)) w915 w912 w914 w27 w72 hdX11_makesUnit ⟨rfl, rfl⟩ ⟨Nat.le_of_ble_eq_true rfl, Nat.le_of_ble_eq_true rfl⟩ rfl hl.1 (Nat.le_of_ble_eq_true rfl) dX11_unit_65 ⟨Nat.le_of_ble_eq_true rfl, Nat.le_of_ble_eq_true rfl⟩) hP hD hS hA (wr := [(a1, .inl (k 0, 36, .inl (tI [] 0)))]) [2, 1] [0] rfl rfl (by decide) (by decide) (fun H locs hB J hS => ?_)
            obtain ⟨hP1, hD1⟩ := hB
            obtain ⟨hP, hD⟩ := J _ hP1 hD1
            have hP : va_P D cl0 [(a1, .inl (k 0, 36, .inl (tI [] 0))), (a0, .inr (8, [.int 2, .int 0, .int 1, .int 0, .int 0, .int 0, .ref a1, .ref a2, .int 0, .int 0, .ref a3, .ref a4, .ref a5, .ref a6, .ref a7, .ref a8, .ref a9, .int 0, .int 0, .int 0, .ref a10, .ref a11, .ref a12, .ref a13, .int 0, .int 0, .ref a14, .ref a15, .ref a16, .ref a17, .int 0, .int 0, .ref a18, .ref a19, .ref a20, .ref a21])), (a3, .inl (k 1, 9, .inr (.inl (tL [1, 0, 0, x2.toInt64, 1, 0, 0, 0, 0] 0))))] H := hP
            have hD : va_D A [(a1, .inl (k 0, 36, .inl (tI [] 0))), (a0, .inr (8, [.int 2, .int 0, .int 1, .int 0, .int 0, .int 0, .ref a1, .ref a2, .int 0, .int 0, .ref a3, .ref a4, .ref a5, .ref a6, .ref a7, .ref a8, .ref a9, .int 0, .int 0, .int 0, .ref a10, .ref a11, .ref a12, .ref a13, .int 0, .int 0, .ref a14, .ref a15, .ref a16, .ref a17, .int 0, .int 0, .ref a18, .ref a19, .ref a20, .ref a21])), (a3, .inl (k 1, 9, .inr (.inl (tL [1, 0, 0, x2.toInt64, 1, 0, 0, 0, 0] 0))))] := hD
            refine lv_aload_n hx hb dX11_unit_68 rfl (lv_at hl 0 rfl) ?_
            refine cI (rV (q0 := 1) (ci := 8) (As := []) (rest := []) (wc := [(a0, .inr (8, [.int 2, .int 0, .int 1, .int 0, .int 0, .int 0, .ref a1, .ref a2, .int 0, .int 0, .ref a3, .ref a4, .ref a5, .ref a6, .ref a7, .ref a8, .ref a9, .int 0, .int 0, .int 0, .ref a10, .ref a11, .ref a12, .ref a13, .int 0, .int 0, .ref a14, .ref a15, .ref a16, .ref a17, .int 0, .int 0, .ref a18, .ref a19, .ref a20, .ref a21])), (a3, .inl (k 1, 9, .inr (.inl (tL [1, 0, 0, x2.toInt64, 1, 0, 0, 0, 0] 0)))), (a1, .inl (k 0, 36, .inl (tI [] 0)))]) hx hb hml hown hU hK hP hD rfl rfl [1, 2, 0] rfl (by decide) (cX11_comes_4 l D k _ a0 a3 a1 a2 a4 a5 a6 a7 a8 a9 a10 a11 a12 a13 a14 a15 a16 a17 a18 a19 a20 a21 (x2.toInt64)) w927 w924 w926 w30 w72 hdX11_comes ⟨rfl, rfl⟩ ⟨Nat.le_of_ble_eq_true rfl, Nat.le_of_ble_eq_true rfl⟩ rfl hl.1 (Nat.le_of_ble_eq_true rfl) dX11_unit_69 ⟨Nat.le_of_ble_eq_true rfl, Nat.le_of_ble_eq_true rfl⟩) hP hD hS hA (wr := []) [1, 2, 0] [] rfl rfl (by decide) (by decide) (fun r34 H locs hB J hS => ?_)
            obtain ⟨rfl, hP1, hD1⟩ := hB
            obtain ⟨hP, hD⟩ := J _ hP1 hD1
            have hP : va_P D cl0 [(a0, .inr (8, [.int 2, .int 1, .int 1, .int 0, .int 0, .int 0, .ref a1, .ref a2, .int 0, .int 0, .ref a3, .ref a4, .ref a5, .ref a6, .ref a7, .ref a8, .ref a9, .int 0, .int 0, .int 0, .ref a10, .ref a11, .ref a12, .ref a13, .int 0, .int 0, .ref a14, .ref a15, .ref a16, .ref a17, .int 0, .int 0, .ref a18, .ref a19, .ref a20, .ref a21])), (a3, .inl (k 1, 9, .inr (.inl (tL [1, 0, 0, x2.toInt64, 1, 0, 0, 0, 0] 0)))), (a1, .inl (k 0, 36, .inl (tI [1, 0, 0, x2.toInt64.toInt32, 1, 0, 0, 0, 0] 0)))] H := hP
            have hD : va_D A [(a0, .inr (8, [.int 2, .int 1, .int 1, .int 0, .int 0, .int 0, .ref a1, .ref a2, .int 0, .int 0, .ref a3, .ref a4, .ref a5, .ref a6, .ref a7, .ref a8, .ref a9, .int 0, .int 0, .int 0, .ref a10, .ref a11, .ref a12, .ref a13, .int 0, .int 0, .ref a14, .ref a15, .ref a16, .ref a17, .int 0, .int 0, .ref a18, .ref a19, .ref a20, .ref a21])), (a3, .inl (k 1, 9, .inr (.inl (tL [1, 0, 0, x2.toInt64, 1, 0, 0, 0, 0] 0)))), (a1, .inl (k 0, 36, .inl (tI [1, 0, 0, x2.toInt64.toInt32, 1, 0, 0, 0, 0] 0)))] := hD
            exact retI (v := 0) hx hb hr hlocks hS (show (0 : Int32) = F_unit 1 0 x2 by first | decide +kernel | (have f4 := dv_nlt (x := x2.toInt) (y := (-99)) c_31 (wd x2) (by decide +kernel); have f5 := dv_nlt (x := 99) (y := x2.toInt) c_32 (by decide +kernel) (wd x2); have g_0 : (0 : Int32).toInt = 0 := (by decide +kernel); have g_1 : (1 : Int32).toInt = 1 := (by decide +kernel); unfold F_unit; (repeat (first | rw [if_pos (by omega)] | rw [if_neg (by omega)])))) dX11_unit_72
        · skip
          obtain rfl : x1 = 1 := eq32 hsp (by decide +kernel)
          refine lv_icmp_ne (tgt := 34) hx hb dX11_unit_18 (by decide) (fun cc => absurd (by decide +kernel) cc) (fun _ => ?_)
          refine lv_iload_n hx hb dX11_unit_21 rfl (lv_at hl 3 rfl) ?_
          refine lv_iconst (v := 1) hx hb dX11_unit_22 (by decide) ?_
          refine lv_icmp_eq (tgt := 50) hx hb dX11_unit_23 (by decide) (fun c_35 => ?_) (fun c_35 => ?_)
          · skip
            subst c_35
            refine lv_aload_n hx hb dX11_unit_50 rfl (lv_at hl 0 rfl) ?_
            refine va_get (D := D) (ci := 8) (v := .int 0) (C := RX11) (T := TX11) (N := 36) hx hb hU iX11 hown hK.1 hP 2 rfl rfl 1 (by decide) (hU _ w786) (fun _ h9 => h9) rfl dX11_unit_51 ?_
            refine lv_iconst (v := 4) hx hb dX11_unit_54 (by decide) ?_
            refine lv_icmp_ne (tgt := 61) hx hb dX11_unit_55 (by decide) (fun _ => ?_) (fun cc => absurd cc (by decide +kernel))
            refine lv_aload_n hx hb dX11_unit_61 rfl (lv_at hl 0 rfl) ?_
            refine lv_iload_n hx hb dX11_unit_62 rfl (lv_at hl 1 rfl) ?_
            refine lv_iload_n hx hb dX11_unit_63 rfl (lv_at hl 2 rfl) ?_
            refine lv_iload_n hx hb dX11_unit_64 rfl (lv_at hl 3 rfl) ?_
            refine cV (rV (q0 := 2) (ci := 8) (As := [.int 1, .int 1, .int 1]) (rest := []) (wc := [(a0, .inr (8, [.int 2, .int 0, .int 1, .int 0, .int 0, .int 0, .ref a1, .ref a2, .int 0, .int 0, .ref a3, .ref a4, .ref a5, .ref a6, .ref a7, .ref a8, .ref a9, .int 0, .int 0, .int 0, .ref a10, .ref a11, .ref a12, .ref a13, .int 0, .int 0, .ref a14, .ref a15, .ref a16, .ref a17, .int 0, .int 0, .ref a18, .ref a19, .ref a20, .ref a21])), (a3, .inl (k 1, 9, .inr (.inl (tL [] 0))))]) hx hb hml hown hU hK hP hD rfl rfl [2, 1] rfl (by decide) (cX11_makesUnit_5 l D k _ a0 a3 a1 a2 a4 a5 a6 a7 a8 a9 a10 a11 a12 a13 a14 a15 a16 a17 a18 a19 a20 a21) w915 w912 w914 w27 w72 hdX11_makesUnit ⟨rfl, rfl⟩ ⟨Nat.le_of_ble_eq_true rfl, Nat.le_of_ble_eq_true rfl⟩ rfl hl.1 (Nat.le_of_ble_eq_true rfl) dX11_unit_65 ⟨Nat.le_of_ble_eq_true rfl, Nat.le_of_ble_eq_true rfl⟩) hP hD hS hA (wr := [(a1, .inl (k 0, 36, .inl (tI [] 0)))]) [2, 1] [0] rfl rfl (by decide) (by decide) (fun H locs hB J hS => ?_)
            obtain ⟨hP1, hD1⟩ := hB
            obtain ⟨hP, hD⟩ := J _ hP1 hD1
            have hP : va_P D cl0 [(a1, .inl (k 0, 36, .inl (tI [] 0))), (a0, .inr (8, [.int 2, .int 0, .int 1, .int 0, .int 0, .int 0, .ref a1, .ref a2, .int 0, .int 0, .ref a3, .ref a4, .ref a5, .ref a6, .ref a7, .ref a8, .ref a9, .int 0, .int 0, .int 0, .ref a10, .ref a11, .ref a12, .ref a13, .int 0, .int 0, .ref a14, .ref a15, .ref a16, .ref a17, .int 0, .int 0, .ref a18, .ref a19, .ref a20, .ref a21])), (a3, .inl (k 1, 9, .inr (.inl (tL [1, 0, 0, 0, 1, 0, 0, 0, 0] 0))))] H := hP
            have hD : va_D A [(a1, .inl (k 0, 36, .inl (tI [] 0))), (a0, .inr (8, [.int 2, .int 0, .int 1, .int 0, .int 0, .int 0, .ref a1, .ref a2, .int 0, .int 0, .ref a3, .ref a4, .ref a5, .ref a6, .ref a7, .ref a8, .ref a9, .int 0, .int 0, .int 0, .ref a10, .ref a11, .ref a12, .ref a13, .int 0, .int 0, .ref a14, .ref a15, .ref a16, .ref a17, .int 0, .int 0, .ref a18, .ref a19, .ref a20, .ref a21])), (a3, .inl (k 1, 9, .inr (.inl (tL [1, 0, 0, 0, 1, 0, 0, 0, 0] 0))))] := hD
            refine lv_aload_n hx hb dX11_unit_68 rfl (lv_at hl 0 rfl) ?_
            refine cI (rV (q0 := 1) (ci := 8) (As := []) (rest := []) (wc := [(a0, .inr (8, [.int 2, .int 0, .int 1, .int 0, .int 0, .int 0, .ref a1, .ref a2, .int 0, .int 0, .ref a3, .ref a4, .ref a5, .ref a6, .ref a7, .ref a8, .ref a9, .int 0, .int 0, .int 0, .ref a10, .ref a11, .ref a12, .ref a13, .int 0, .int 0, .ref a14, .ref a15, .ref a16, .ref a17, .int 0, .int 0, .ref a18, .ref a19, .ref a20, .ref a21])), (a3, .inl (k 1, 9, .inr (.inl (tL [1, 0, 0, 0, 1, 0, 0, 0, 0] 0)))), (a1, .inl (k 0, 36, .inl (tI [] 0)))]) hx hb hml hown hU hK hP hD rfl rfl [1, 2, 0] rfl (by decide) (cX11_comes_1 l D k _ a0 a3 a1 a2 a4 a5 a6 a7 a8 a9 a10 a11 a12 a13 a14 a15 a16 a17 a18 a19 a20 a21) w927 w924 w926 w30 w72 hdX11_comes ⟨rfl, rfl⟩ ⟨Nat.le_of_ble_eq_true rfl, Nat.le_of_ble_eq_true rfl⟩ rfl hl.1 (Nat.le_of_ble_eq_true rfl) dX11_unit_69 ⟨Nat.le_of_ble_eq_true rfl, Nat.le_of_ble_eq_true rfl⟩) hP hD hS hA (wr := []) [1, 2, 0] [] rfl rfl (by decide) (by decide) (fun r37 H locs hB J hS => ?_)
            obtain ⟨rfl, hP1, hD1⟩ := hB
            obtain ⟨hP, hD⟩ := J _ hP1 hD1
            have hP : va_P D cl0 [(a0, .inr (8, [.int 2, .int 1, .int 1, .int 0, .int 0, .int 0, .ref a1, .ref a2, .int 0, .int 0, .ref a3, .ref a4, .ref a5, .ref a6, .ref a7, .ref a8, .ref a9, .int 0, .int 0, .int 0, .ref a10, .ref a11, .ref a12, .ref a13, .int 0, .int 0, .ref a14, .ref a15, .ref a16, .ref a17, .int 0, .int 0, .ref a18, .ref a19, .ref a20, .ref a21])), (a3, .inl (k 1, 9, .inr (.inl (tL [1, 0, 0, 0, 1, 0, 0, 0, 0] 0)))), (a1, .inl (k 0, 36, .inl (tI [1, 0, 0, 0, 1, 0, 0, 0, 0] 0)))] H := hP
            have hD : va_D A [(a0, .inr (8, [.int 2, .int 1, .int 1, .int 0, .int 0, .int 0, .ref a1, .ref a2, .int 0, .int 0, .ref a3, .ref a4, .ref a5, .ref a6, .ref a7, .ref a8, .ref a9, .int 0, .int 0, .int 0, .ref a10, .ref a11, .ref a12, .ref a13, .int 0, .int 0, .ref a14, .ref a15, .ref a16, .ref a17, .int 0, .int 0, .ref a18, .ref a19, .ref a20, .ref a21])), (a3, .inl (k 1, 9, .inr (.inl (tL [1, 0, 0, 0, 1, 0, 0, 0, 0] 0)))), (a1, .inl (k 0, 36, .inl (tI [1, 0, 0, 0, 1, 0, 0, 0, 0] 0)))] := hD
            exact retI (v := 0) hx hb hr hlocks hS (show (0 : Int32) = F_unit 1 1 1 by first | decide +kernel | (have g_1 : (1 : Int32).toInt = 1 := (by decide +kernel); unfold F_unit; (repeat (first | rw [if_pos (by omega)] | rw [if_neg (by omega)])))) dX11_unit_72
          · skip
            refine lv_iload_n hx hb dX11_unit_26 rfl (lv_at hl 3 rfl) ?_
            refine lv_iconst (v := (-1)) hx hb dX11_unit_27 (by decide) ?_
            refine lv_icmp_eq (tgt := 50) hx hb dX11_unit_28 (by decide) (fun c_38 => ?_) (fun c_38 => ?_)
            · skip
              subst c_38
              refine lv_aload_n hx hb dX11_unit_50 rfl (lv_at hl 0 rfl) ?_
              refine va_get (D := D) (ci := 8) (v := .int 0) (C := RX11) (T := TX11) (N := 36) hx hb hU iX11 hown hK.1 hP 2 rfl rfl 1 (by decide) (hU _ w786) (fun _ h9 => h9) rfl dX11_unit_51 ?_
              refine lv_iconst (v := 4) hx hb dX11_unit_54 (by decide) ?_
              refine lv_icmp_ne (tgt := 61) hx hb dX11_unit_55 (by decide) (fun _ => ?_) (fun cc => absurd cc (by decide +kernel))
              refine lv_aload_n hx hb dX11_unit_61 rfl (lv_at hl 0 rfl) ?_
              refine lv_iload_n hx hb dX11_unit_62 rfl (lv_at hl 1 rfl) ?_
              refine lv_iload_n hx hb dX11_unit_63 rfl (lv_at hl 2 rfl) ?_
              refine lv_iload_n hx hb dX11_unit_64 rfl (lv_at hl 3 rfl) ?_
              refine cV (rV (q0 := 2) (ci := 8) (As := [.int 1, .int 1, .int (-1)]) (rest := []) (wc := [(a0, .inr (8, [.int 2, .int 0, .int 1, .int 0, .int 0, .int 0, .ref a1, .ref a2, .int 0, .int 0, .ref a3, .ref a4, .ref a5, .ref a6, .ref a7, .ref a8, .ref a9, .int 0, .int 0, .int 0, .ref a10, .ref a11, .ref a12, .ref a13, .int 0, .int 0, .ref a14, .ref a15, .ref a16, .ref a17, .int 0, .int 0, .ref a18, .ref a19, .ref a20, .ref a21])), (a3, .inl (k 1, 9, .inr (.inl (tL [] 0))))]) hx hb hml hown hU hK hP hD rfl rfl [2, 1] rfl (by decide) (cX11_makesUnit_6 l D k _ a0 a3 a1 a2 a4 a5 a6 a7 a8 a9 a10 a11 a12 a13 a14 a15 a16 a17 a18 a19 a20 a21) w915 w912 w914 w27 w72 hdX11_makesUnit ⟨rfl, rfl⟩ ⟨Nat.le_of_ble_eq_true rfl, Nat.le_of_ble_eq_true rfl⟩ rfl hl.1 (Nat.le_of_ble_eq_true rfl) dX11_unit_65 ⟨Nat.le_of_ble_eq_true rfl, Nat.le_of_ble_eq_true rfl⟩) hP hD hS hA (wr := [(a1, .inl (k 0, 36, .inl (tI [] 0)))]) [2, 1] [0] rfl rfl (by decide) (by decide) (fun H locs hB J hS => ?_)
              obtain ⟨hP1, hD1⟩ := hB
              obtain ⟨hP, hD⟩ := J _ hP1 hD1
              have hP : va_P D cl0 [(a1, .inl (k 0, 36, .inl (tI [] 0))), (a0, .inr (8, [.int 2, .int 0, .int 1, .int 0, .int 0, .int 0, .ref a1, .ref a2, .int 0, .int 0, .ref a3, .ref a4, .ref a5, .ref a6, .ref a7, .ref a8, .ref a9, .int 0, .int 0, .int 0, .ref a10, .ref a11, .ref a12, .ref a13, .int 0, .int 0, .ref a14, .ref a15, .ref a16, .ref a17, .int 0, .int 0, .ref a18, .ref a19, .ref a20, .ref a21])), (a3, .inl (k 1, 9, .inr (.inl (tL [1, 0, 0, 0, (-1), 0, 0, 0, 0] 0))))] H := hP
              have hD : va_D A [(a1, .inl (k 0, 36, .inl (tI [] 0))), (a0, .inr (8, [.int 2, .int 0, .int 1, .int 0, .int 0, .int 0, .ref a1, .ref a2, .int 0, .int 0, .ref a3, .ref a4, .ref a5, .ref a6, .ref a7, .ref a8, .ref a9, .int 0, .int 0, .int 0, .ref a10, .ref a11, .ref a12, .ref a13, .int 0, .int 0, .ref a14, .ref a15, .ref a16, .ref a17, .int 0, .int 0, .ref a18, .ref a19, .ref a20, .ref a21])), (a3, .inl (k 1, 9, .inr (.inl (tL [1, 0, 0, 0, (-1), 0, 0, 0, 0] 0))))] := hD
              refine lv_aload_n hx hb dX11_unit_68 rfl (lv_at hl 0 rfl) ?_
              refine cI (rV (q0 := 1) (ci := 8) (As := []) (rest := []) (wc := [(a0, .inr (8, [.int 2, .int 0, .int 1, .int 0, .int 0, .int 0, .ref a1, .ref a2, .int 0, .int 0, .ref a3, .ref a4, .ref a5, .ref a6, .ref a7, .ref a8, .ref a9, .int 0, .int 0, .int 0, .ref a10, .ref a11, .ref a12, .ref a13, .int 0, .int 0, .ref a14, .ref a15, .ref a16, .ref a17, .int 0, .int 0, .ref a18, .ref a19, .ref a20, .ref a21])), (a3, .inl (k 1, 9, .inr (.inl (tL [1, 0, 0, 0, (-1), 0, 0, 0, 0] 0)))), (a1, .inl (k 0, 36, .inl (tI [] 0)))]) hx hb hml hown hU hK hP hD rfl rfl [1, 2, 0] rfl (by decide) (cX11_comes_5 l D k _ a0 a3 a1 a2 a4 a5 a6 a7 a8 a9 a10 a11 a12 a13 a14 a15 a16 a17 a18 a19 a20 a21) w927 w924 w926 w30 w72 hdX11_comes ⟨rfl, rfl⟩ ⟨Nat.le_of_ble_eq_true rfl, Nat.le_of_ble_eq_true rfl⟩ rfl hl.1 (Nat.le_of_ble_eq_true rfl) dX11_unit_69 ⟨Nat.le_of_ble_eq_true rfl, Nat.le_of_ble_eq_true rfl⟩) hP hD hS hA (wr := []) [1, 2, 0] [] rfl rfl (by decide) (by decide) (fun r40 H locs hB J hS => ?_)
              obtain ⟨rfl, hP1, hD1⟩ := hB
              obtain ⟨hP, hD⟩ := J _ hP1 hD1
              have hP : va_P D cl0 [(a0, .inr (8, [.int 2, .int 1, .int 1, .int 0, .int 0, .int 0, .ref a1, .ref a2, .int 0, .int 0, .ref a3, .ref a4, .ref a5, .ref a6, .ref a7, .ref a8, .ref a9, .int 0, .int 0, .int 0, .ref a10, .ref a11, .ref a12, .ref a13, .int 0, .int 0, .ref a14, .ref a15, .ref a16, .ref a17, .int 0, .int 0, .ref a18, .ref a19, .ref a20, .ref a21])), (a3, .inl (k 1, 9, .inr (.inl (tL [1, 0, 0, 0, (-1), 0, 0, 0, 0] 0)))), (a1, .inl (k 0, 36, .inl (tI [1, 0, 0, 0, (-1), 0, 0, 0, 0] 0)))] H := hP
              have hD : va_D A [(a0, .inr (8, [.int 2, .int 1, .int 1, .int 0, .int 0, .int 0, .ref a1, .ref a2, .int 0, .int 0, .ref a3, .ref a4, .ref a5, .ref a6, .ref a7, .ref a8, .ref a9, .int 0, .int 0, .int 0, .ref a10, .ref a11, .ref a12, .ref a13, .int 0, .int 0, .ref a14, .ref a15, .ref a16, .ref a17, .int 0, .int 0, .ref a18, .ref a19, .ref a20, .ref a21])), (a3, .inl (k 1, 9, .inr (.inl (tL [1, 0, 0, 0, (-1), 0, 0, 0, 0] 0)))), (a1, .inl (k 0, 36, .inl (tI [1, 0, 0, 0, (-1), 0, 0, 0, 0] 0)))] := hD
              exact retI (v := 0) hx hb hr hlocks hS (show (0 : Int32) = F_unit 1 1 (-1) by first | decide +kernel | (have g_m1 : ((-1) : Int32).toInt = (-1) := (by decide +kernel); have g_1 : (1 : Int32).toInt = 1 := (by decide +kernel); unfold F_unit; (repeat (first | rw [if_pos (by omega)] | rw [if_neg (by omega)])))) dX11_unit_72
            · skip
              refine lv_goto (tgt := 48) hx hb dX11_unit_31 (by decide) ?_
              refine lv_iconst (v := (-1)) hx hb dX11_unit_48 (by decide) ?_
              exact retI (v := (-1)) hx hb hr hlocks hS (show ((-1) : Int32) = F_unit 1 1 x2 by first | decide +kernel | (have f4 := cv_ne (x := x2.toInt) (y := 1) c_35 rfl (by decide +kernel); have f5 := cv_ne (x := x2.toInt) (y := (-1)) c_38 rfl (by decide +kernel); have g_1 : (1 : Int32).toInt = 1 := (by decide +kernel); unfold F_unit; (repeat (first | rw [if_pos (by omega)] | rw [if_neg (by omega)])))) dX11_unit_49
abbrev BX11_in_7 (D : va_G) (k : Nat → ClassId) (x0 : Int64) (A : Nat → Prop) (r : Int32) (H : Heap) : Prop := (x0 < 1 ∧ 0 = r ∧ va_P D cl0 [] H ∧ va_D A []) ∨ (¬ (x0 < 1) ∧ 8 < x0 ∧ 0 = r ∧ va_P D cl0 [] H ∧ va_D A []) ∨ (¬ (x0 < 1) ∧ ¬ (8 < x0) ∧ 1 = r ∧ va_P D cl0 [] H ∧ va_D A [])
set_option maxHeartbeats 4000000 in
set_option maxRecDepth 100000 in
theorem cX11_in_7 (l : Launch) (D : va_G) (k : Nat → ClassId) (sz : Nat) (x0 : Int64) : Met l yX11_in (Cond.code yX11_in cX11_in 6 (some .boolean) :: uw) ({ frames := 0, cells := 0, slots := 0, locals := 0 }) (pC D k sz [.long x0, .long 1, .long 8] []) (qI (BX11_in_7 D k x0 (va_A [] sz)) (va_A [] sz)) 0 0 (va_A [] sz) := by
  refine begin_ (Qc := fun A => qI (BX11_in_7 D k x0 A) A) (by decide) (Nat.le_of_ble_eq_true rfl) ?_
  intro p e s m below meth c ls A hx hb hr hml hown hlocks hin hU hK hsz hP hD hS hA hl
  have hl : lv_has ls 6 [(0, .long x0), (2, .long 1), (4, .long 8)] := hl
  clear hsz
  refine lv_lload_n hx hb dX11_in_0 rfl (lv_at hl 0 rfl) ?_
  refine lv_lload_n hx hb dX11_in_1 rfl (lv_at hl 1 rfl) ?_
  refine W.lcmp hx hb dX11_in_2 ?_
  refine lv_if_lt (tgt := 17) hx hb dX11_in_3 (by decide) (fun c_1 => ?_) (fun c_1 => ?_)
  · skip
    have c_1 := (lg_cmp_lt _ _).mp c_1
    refine lv_iconst (v := 0) hx hb dX11_in_17 (by decide) ?_
    exact retZ (v := 0) hx hb hr hlocks hS (Or.inl ⟨c_1, rfl, hP, hD⟩) dX11_in_18 (by decide +kernel)
  · skip
    have c_1 := fun h9 => c_1 ((lg_cmp_lt _ _).mpr h9)
    refine lv_lload_n hx hb dX11_in_6 rfl (lv_at hl 0 rfl) ?_
    refine lv_lload hx hb dX11_in_7 (lv_at hl 2 rfl) ?_
    refine W.lcmp hx hb dX11_in_9 ?_
    refine lv_if_gt (tgt := 17) hx hb dX11_in_10 (by decide) (fun c_2 => ?_) (fun c_2 => ?_)
    · skip
      have c_2 := (lg_cmp_gt _ _).mp c_2
      refine lv_iconst (v := 0) hx hb dX11_in_17 (by decide) ?_
      exact retZ (v := 0) hx hb hr hlocks hS (Or.inr (Or.inl ⟨c_1, c_2, rfl, hP, hD⟩)) dX11_in_18 (by decide +kernel)
    · skip
      have c_2 := fun h9 => c_2 ((lg_cmp_gt _ _).mpr h9)
      refine lv_iconst (v := 1) hx hb dX11_in_13 (by decide) ?_
      refine lv_goto (tgt := 18) hx hb dX11_in_14 (by decide) ?_
      exact retZ (v := 1) hx hb hr hlocks hS (Or.inr (Or.inr (⟨c_1, c_2, rfl, hP, hD⟩))) dX11_in_18 (by decide +kernel)
abbrev BX11_feed_1 (D : va_G) (k : Nat → ClassId) (a0 a8 a1 a2 a3 a4 a5 a6 a7 a9 a10 a11 a12 a13 a14 a15 a16 a17 a18 a19 a20 a21 : Nat) (x0 : Int64) (x1 : Int32) (A : Nat → Prop) (r : Int32) (H : Heap) : Prop := r = F_feed x0 x1
set_option maxHeartbeats 4000000 in
set_option maxRecDepth 100000 in
theorem cX11_feed_1 (l : Launch) (D : va_G) (k : Nat → ClassId) (sz : Nat) (a0 a8 a1 a2 a3 a4 a5 a6 a7 a9 a10 a11 a12 a13 a14 a15 a16 a17 a18 a19 a20 a21 : Nat) (x0 : Int64) (x1 : Int32) : Met l yX11_feed (Cond.code yX11_feed cX11_feed 5 (some .int) :: uw) ({ frames := 1, cells := 0, slots := 0, locals := 25 }) (pC D k sz [.ref a0, .long x0, .int x1] [(a0, .inr (8, [.int 2, .int 0, .int 1, .int 0, .int 0, .int 0, .ref a1, .ref a2, .int 0, .int 0, .ref a3, .ref a4, .ref a5, .ref a6, .ref a7, .ref a8, .ref a9, .int 0, .int 0, .int 0, .ref a10, .ref a11, .ref a12, .ref a13, .int 0, .int 0, .ref a14, .ref a15, .ref a16, .ref a17, .int 0, .int 0, .ref a18, .ref a19, .ref a20, .ref a21])), (a8, .inl (k 0, 120, .inl (tI [] 0)))]) (qI (BX11_feed_1 D k a0 a8 a1 a2 a3 a4 a5 a6 a7 a9 a10 a11 a12 a13 a14 a15 a16 a17 a18 a19 a20 a21 x0 x1 (va_A [(a0, .inr (8, [.int 2, .int 0, .int 1, .int 0, .int 0, .int 0, .ref a1, .ref a2, .int 0, .int 0, .ref a3, .ref a4, .ref a5, .ref a6, .ref a7, .ref a8, .ref a9, .int 0, .int 0, .int 0, .ref a10, .ref a11, .ref a12, .ref a13, .int 0, .int 0, .ref a14, .ref a15, .ref a16, .ref a17, .int 0, .int 0, .ref a18, .ref a19, .ref a20, .ref a21])), (a8, .inl (k 0, 120, .inl (tI [] 0)))] sz)) (va_A [(a0, .inr (8, [.int 2, .int 0, .int 1, .int 0, .int 0, .int 0, .ref a1, .ref a2, .int 0, .int 0, .ref a3, .ref a4, .ref a5, .ref a6, .ref a7, .ref a8, .ref a9, .int 0, .int 0, .int 0, .ref a10, .ref a11, .ref a12, .ref a13, .int 0, .int 0, .ref a14, .ref a15, .ref a16, .ref a17, .int 0, .int 0, .ref a18, .ref a19, .ref a20, .ref a21])), (a8, .inl (k 0, 120, .inl (tI [] 0)))] sz)) 0 0 (va_A [(a0, .inr (8, [.int 2, .int 0, .int 1, .int 0, .int 0, .int 0, .ref a1, .ref a2, .int 0, .int 0, .ref a3, .ref a4, .ref a5, .ref a6, .ref a7, .ref a8, .ref a9, .int 0, .int 0, .int 0, .ref a10, .ref a11, .ref a12, .ref a13, .int 0, .int 0, .ref a14, .ref a15, .ref a16, .ref a17, .int 0, .int 0, .ref a18, .ref a19, .ref a20, .ref a21])), (a8, .inl (k 0, 120, .inl (tI [] 0)))] sz) := by
  refine begin_ (Qc := fun A => qI (BX11_feed_1 D k a0 a8 a1 a2 a3 a4 a5 a6 a7 a9 a10 a11 a12 a13 a14 a15 a16 a17 a18 a19 a20 a21 x0 x1 A) A) (by decide) (Nat.le_of_ble_eq_true rfl) ?_
  intro p e s m below meth c ls A hx hb hr hml hown hlocks hin hU hK hsz hP hD hS hA hl
  have hl : lv_has ls 5 [(0, .ref a0), (1, .long x0), (3, .int x1)] := hl
  clear hsz
  refine lv_iload_n hx hb dX11_feed_0 rfl (lv_at hl 2 rfl) ?_
  refine lv_i2l (v := x1.toInt64) hx hb dX11_feed_1 rfl ?_
  refine lv_lconst (v := 1) hx hb dX11_feed_2 (by decide) ?_
  refine lv_ldc2 hx hb hown (hU _ w1004) dX11_feed_3 ?_
  refine cI (rS (As := [.long x1.toInt64, .long 1, .long 8]) (rest := []) (wc := []) hx hb hml hown hU hK hP hD [] rfl (by decide) (cX11_in_7 l D k _ (x1.toInt64)) w901 w899 w900 w72 hdX11_in ⟨rfl, rfl⟩ ⟨Nat.le_of_ble_eq_true rfl, Nat.le_of_ble_eq_true rfl⟩ rfl hl.1 (Nat.le_of_ble_eq_true rfl) dX11_feed_6 ⟨Nat.le_of_ble_eq_true rfl, Nat.le_of_ble_eq_true rfl⟩) hP hD hS hA (wr := [(a0, .inr (8, [.int 2, .int 0, .int 1, .int 0, .int 0, .int 0, .ref a1, .ref a2, .int 0, .int 0, .ref a3, .ref a4, .ref a5, .ref a6, .ref a7, .ref a8, .ref a9, .int 0, .int 0, .int 0, .ref a10, .ref a11, .ref a12, .ref a13, .int 0, .int 0, .ref a14, .ref a15, .ref a16, .ref a17, .int 0, .int 0, .ref a18, .ref a19, .ref a20, .ref a21])), (a8, .inl (k 0, 120, .inl (tI [] 0)))]) [] [0, 1] rfl rfl (by decide) (by decide) (fun r1 H locs hB J hS => ?_)
  rcases hB with ⟨c_2, rfl, hP1, hD1⟩ | ⟨c_3, c_4, rfl, hP1, hD1⟩ | ⟨c_5, c_6, rfl, hP1, hD1⟩
  · skip
    obtain ⟨hP, hD⟩ := J _ hP1 hD1
    have hP : va_P D cl0 [(a0, .inr (8, [.int 2, .int 0, .int 1, .int 0, .int 0, .int 0, .ref a1, .ref a2, .int 0, .int 0, .ref a3, .ref a4, .ref a5, .ref a6, .ref a7, .ref a8, .ref a9, .int 0, .int 0, .int 0, .ref a10, .ref a11, .ref a12, .ref a13, .int 0, .int 0, .ref a14, .ref a15, .ref a16, .ref a17, .int 0, .int 0, .ref a18, .ref a19, .ref a20, .ref a21])), (a8, .inl (k 0, 120, .inl (tI [] 0)))] H := hP
    have hD : va_D A [(a0, .inr (8, [.int 2, .int 0, .int 1, .int 0, .int 0, .int 0, .ref a1, .ref a2, .int 0, .int 0, .ref a3, .ref a4, .ref a5, .ref a6, .ref a7, .ref a8, .ref a9, .int 0, .int 0, .int 0, .ref a10, .ref a11, .ref a12, .ref a13, .int 0, .int 0, .ref a14, .ref a15, .ref a16, .ref a17, .int 0, .int 0, .ref a18, .ref a19, .ref a20, .ref a21])), (a8, .inl (k 0, 120, .inl (tI [] 0)))] := hD
    refine lv_if_ne (tgt := 14) hx hb dX11_feed_9 (by decide) (fun cc => absurd (by decide +kernel) cc) (fun _ => ?_)
    refine lv_iconst (v := (-1)) hx hb dX11_feed_12 (by decide) ?_
    exact retI (v := (-1)) hx hb hr hlocks hS (show ((-1) : Int32) = F_feed x0 x1 by first | decide +kernel | (have f0 := dv_lt (x := x1.toInt) (y := 1) c_2 (wd x1) (by decide +kernel); unfold F_feed; (repeat (first | rw [if_pos (by omega)] | rw [if_neg (by omega)])))) dX11_feed_13
  · skip
    obtain ⟨hP, hD⟩ := J _ hP1 hD1
    have hP : va_P D cl0 [(a0, .inr (8, [.int 2, .int 0, .int 1, .int 0, .int 0, .int 0, .ref a1, .ref a2, .int 0, .int 0, .ref a3, .ref a4, .ref a5, .ref a6, .ref a7, .ref a8, .ref a9, .int 0, .int 0, .int 0, .ref a10, .ref a11, .ref a12, .ref a13, .int 0, .int 0, .ref a14, .ref a15, .ref a16, .ref a17, .int 0, .int 0, .ref a18, .ref a19, .ref a20, .ref a21])), (a8, .inl (k 0, 120, .inl (tI [] 0)))] H := hP
    have hD : va_D A [(a0, .inr (8, [.int 2, .int 0, .int 1, .int 0, .int 0, .int 0, .ref a1, .ref a2, .int 0, .int 0, .ref a3, .ref a4, .ref a5, .ref a6, .ref a7, .ref a8, .ref a9, .int 0, .int 0, .int 0, .ref a10, .ref a11, .ref a12, .ref a13, .int 0, .int 0, .ref a14, .ref a15, .ref a16, .ref a17, .int 0, .int 0, .ref a18, .ref a19, .ref a20, .ref a21])), (a8, .inl (k 0, 120, .inl (tI [] 0)))] := hD
    refine lv_if_ne (tgt := 14) hx hb dX11_feed_9 (by decide) (fun cc => absurd (by decide +kernel) cc) (fun _ => ?_)
    refine lv_iconst (v := (-1)) hx hb dX11_feed_12 (by decide) ?_
    exact retI (v := (-1)) hx hb hr hlocks hS (show ((-1) : Int32) = F_feed x0 x1 by first | decide +kernel | (have f0 := dv_nlt (x := x1.toInt) (y := 1) c_3 (wd x1) (by decide +kernel); have f1 := dv_lt (x := 8) (y := x1.toInt) c_4 (by decide +kernel) (wd x1); unfold F_feed; (repeat (first | rw [if_pos (by omega)] | rw [if_neg (by omega)])))) dX11_feed_13
  · skip
    obtain ⟨hP, hD⟩ := J _ hP1 hD1
    have hP : va_P D cl0 [(a0, .inr (8, [.int 2, .int 0, .int 1, .int 0, .int 0, .int 0, .ref a1, .ref a2, .int 0, .int 0, .ref a3, .ref a4, .ref a5, .ref a6, .ref a7, .ref a8, .ref a9, .int 0, .int 0, .int 0, .ref a10, .ref a11, .ref a12, .ref a13, .int 0, .int 0, .ref a14, .ref a15, .ref a16, .ref a17, .int 0, .int 0, .ref a18, .ref a19, .ref a20, .ref a21])), (a8, .inl (k 0, 120, .inl (tI [] 0)))] H := hP
    have hD : va_D A [(a0, .inr (8, [.int 2, .int 0, .int 1, .int 0, .int 0, .int 0, .ref a1, .ref a2, .int 0, .int 0, .ref a3, .ref a4, .ref a5, .ref a6, .ref a7, .ref a8, .ref a9, .int 0, .int 0, .int 0, .ref a10, .ref a11, .ref a12, .ref a13, .int 0, .int 0, .ref a14, .ref a15, .ref a16, .ref a17, .int 0, .int 0, .ref a18, .ref a19, .ref a20, .ref a21])), (a8, .inl (k 0, 120, .inl (tI [] 0)))] := hD
    refine lv_if_ne (tgt := 14) hx hb dX11_feed_9 (by decide) (fun _ => ?_) (fun cc => absurd cc (by decide +kernel))
    refine lv_aload_n hx hb dX11_feed_14 rfl (lv_at hl 0 rfl) ?_
    refine va_get (D := D) (ci := 8) (v := .int 0) (C := RX11) (T := TX11) (N := 36) hx hb hU iX11 hown hK.1 hP 0 rfl rfl 17 (by decide) (hU _ w802) (fun _ h9 => h9) rfl dX11_feed_15 ?_
    refine lv_iload_n hx hb dX11_feed_18 rfl (lv_at hl 2 rfl) ?_
    refine lv_iadd hx hb dX11_feed_19 (sv_i (v := x1) (by simp) ?_)
    refine lv_bipush (v := 120) hx hb dX11_feed_20 (by decide) ?_
    have hsp : x1.toInt = 1 ∨ x1.toInt = 2 ∨ x1.toInt = 3 ∨ x1.toInt = 4 ∨ x1.toInt = 5 ∨ x1.toInt = 6 ∨ x1.toInt = 7 ∨ x1.toInt = 8 := by
      have f0 := dv_nlt (x := x1.toInt) (y := 1) c_5 (wd x1) (by decide +kernel)
      have f1 := dv_nlt (x := 8) (y := x1.toInt) c_6 (by decide +kernel) (wd x1)
      omega
    rcases hsp with hsp | hsp | hsp | hsp | hsp | hsp | hsp | hsp
    · skip
      obtain rfl : x1 = 1 := eq32 hsp (by decide +kernel)
      refine lv_icmp_le (tgt := 28) hx hb dX11_feed_22 (by decide) (fun _ => ?_) (fun cc => absurd (by decide +kernel) cc)
      refine lv_iconst (v := 0) hx hb dX11_feed_28 (by decide) ?_
      refine lv_istore (lv' := [(4, .int 0), (0, .ref a0), (1, .long x0), (3, .int 1)]) hx hb dX11_feed_29 hl (by decide) rfl (fun ls hl => ?_)
      refine lv_iload hx hb dX11_feed_31 (lv_at hl 0 rfl) ?_
      refine lv_iload_n hx hb dX11_feed_33 rfl (lv_at hl 3 rfl) ?_
      refine lv_icmp_ge (tgt := 74) hx hb dX11_feed_34 (by decide) (fun cc => absurd cc (by decide +kernel)) (fun _ => ?_)
      refine lv_aload_n hx hb dX11_feed_37 rfl (lv_at hl 1 rfl) ?_
      refine va_get (D := D) (ci := 8) (v := .ref a8) (C := RX11) (T := TX11) (N := 36) hx hb hU iX11 hown hK.1 hP 0 rfl rfl 15 (by decide) (hU _ w800) (fun _ h9 => h9) rfl dX11_feed_38 ?_
      refine lv_aload_n hx hb dX11_feed_41 rfl (lv_at hl 1 rfl) ?_
      refine va_get (D := D) (ci := 8) (v := .int 0) (C := RX11) (T := TX11) (N := 36) hx hb hU iX11 hown hK.1 hP 0 rfl rfl 17 (by decide) (hU _ w802) (fun _ h9 => h9) rfl dX11_feed_42 ?_
      refine lv_lload_n hx hb dX11_feed_45 rfl (lv_at hl 2 rfl) ?_
      refine lv_bipush (v := 8) hx hb dX11_feed_46 (by decide) ?_
      refine lv_iload hx hb dX11_feed_48 (lv_at hl 0 rfl) ?_
      refine lv_imul hx hb dX11_feed_50 (sv_i (v := 0) (by decide +kernel) ?_)
      refine lv_lshr hx hb dX11_feed_51 rfl (lv_topl (fun v7 _ => ?_))
      refine lv_ldc2 hx hb hown (hU _ w1005) dX11_feed_52 ?_
      refine lv_land hx hb dX11_feed_55 (lv_topl (fun v8 _ => ?_))
      refine lv_l2i (v := v8.toInt32) hx hb dX11_feed_56 rfl ?_
      refine st_i (j := 0) (g := tI [v8.toInt32] 0) hx hb hK hP hD hS 1 rfl (by decide +kernel) upd_tI dX11_feed_57 (fun H locs hP hD hS => ?_)
      have hP : va_P D cl0 [(a0, .inr (8, [.int 2, .int 0, .int 1, .int 0, .int 0, .int 0, .ref a1, .ref a2, .int 0, .int 0, .ref a3, .ref a4, .ref a5, .ref a6, .ref a7, .ref a8, .ref a9, .int 0, .int 0, .int 0, .ref a10, .ref a11, .ref a12, .ref a13, .int 0, .int 0, .ref a14, .ref a15, .ref a16, .ref a17, .int 0, .int 0, .ref a18, .ref a19, .ref a20, .ref a21])), (a8, .inl (k 0, 120, .inl (tI [v8.toInt32] 0)))] H := hP
      have hD : va_D A [(a0, .inr (8, [.int 2, .int 0, .int 1, .int 0, .int 0, .int 0, .ref a1, .ref a2, .int 0, .int 0, .ref a3, .ref a4, .ref a5, .ref a6, .ref a7, .ref a8, .ref a9, .int 0, .int 0, .int 0, .ref a10, .ref a11, .ref a12, .ref a13, .int 0, .int 0, .ref a14, .ref a15, .ref a16, .ref a17, .int 0, .int 0, .ref a18, .ref a19, .ref a20, .ref a21])), (a8, .inl (k 0, 120, .inl (tI [v8.toInt32] 0)))] := hD
      refine lv_aload_n hx hb dX11_feed_58 rfl (lv_at hl 1 rfl) ?_
      refine lv_dup hx hb dX11_feed_59 rfl ?_
      refine va_get (D := D) (ci := 8) (v := .int 0) (C := RX11) (T := TX11) (N := 36) hx hb hU iX11 hown hK.1 hP 0 rfl rfl 17 (by decide) (hU _ w802) (fun _ h9 => h9) rfl dX11_feed_60 ?_
      refine lv_iconst (v := 1) hx hb dX11_feed_63 (by decide) ?_
      refine lv_iadd hx hb dX11_feed_64 (sv_i (v := 1) (by decide +kernel) ?_)
      refine va_put (D := D) (ci := 8) (v := .int 1) (ty := .int) (C := RX11) (T := TX11) (N := 36) hx hb hU iX11 tyX11 tyX11_ok nmX11 hown hK.1 hP hD hS 0 rfl rfl 17 (by decide) (hU _ w802) (fun _ h9 => h9) rfl (by decide +kernel) rfl rfl (Nat.le_of_ble_eq_true rfl) dX11_feed_65 (fun H locs hP hD hS => ?_)
      have hP : va_P D cl0 [(a0, .inr (8, [.int 2, .int 0, .int 1, .int 0, .int 0, .int 0, .ref a1, .ref a2, .int 0, .int 0, .ref a3, .ref a4, .ref a5, .ref a6, .ref a7, .ref a8, .ref a9, .int 1, .int 0, .int 0, .ref a10, .ref a11, .ref a12, .ref a13, .int 0, .int 0, .ref a14, .ref a15, .ref a16, .ref a17, .int 0, .int 0, .ref a18, .ref a19, .ref a20, .ref a21])), (a8, .inl (k 0, 120, .inl (tI [v8.toInt32] 0)))] H := hP
      have hD : va_D A [(a0, .inr (8, [.int 2, .int 0, .int 1, .int 0, .int 0, .int 0, .ref a1, .ref a2, .int 0, .int 0, .ref a3, .ref a4, .ref a5, .ref a6, .ref a7, .ref a8, .ref a9, .int 1, .int 0, .int 0, .ref a10, .ref a11, .ref a12, .ref a13, .int 0, .int 0, .ref a14, .ref a15, .ref a16, .ref a17, .int 0, .int 0, .ref a18, .ref a19, .ref a20, .ref a21])), (a8, .inl (k 0, 120, .inl (tI [v8.toInt32] 0)))] := hD
      refine lv_iinc (v := 1) (lv' := [(4, .int 1), (0, .ref a0), (1, .long x0), (3, .int 1)]) hx hb dX11_feed_68 hl (k := 0) rfl (by decide) (by decide) rfl (fun ls hl => ?_)
      refine lv_goto (tgt := 31) hx hb dX11_feed_71 (by decide) ?_
      refine lv_iload hx hb dX11_feed_31 (lv_at hl 0 rfl) ?_
      refine lv_iload_n hx hb dX11_feed_33 rfl (lv_at hl 3 rfl) ?_
      refine lv_icmp_ge (tgt := 74) hx hb dX11_feed_34 (by decide) (fun _ => ?_) (fun cc => absurd (by decide +kernel) cc)
      refine lv_aload_n hx hb dX11_feed_74 rfl (lv_at hl 1 rfl) ?_
      refine va_get (D := D) (ci := 8) (v := .int 1) (C := RX11) (T := TX11) (N := 36) hx hb hU iX11 hown hK.1 hP 0 rfl rfl 17 (by decide) (hU _ w802) (fun _ h9 => h9) rfl dX11_feed_75 ?_
      exact retI (v := 1) hx hb hr hlocks hS (show (1 : Int32) = F_feed x0 1 by first | decide +kernel | (have g_1 : (1 : Int32).toInt = 1 := (by decide +kernel); unfold F_feed; (repeat (first | rw [if_pos (by omega)] | rw [if_neg (by omega)])))) dX11_feed_78
    · skip
      obtain rfl : x1 = 2 := eq32 hsp (by decide +kernel)
      refine lv_icmp_le (tgt := 28) hx hb dX11_feed_22 (by decide) (fun _ => ?_) (fun cc => absurd (by decide +kernel) cc)
      refine lv_iconst (v := 0) hx hb dX11_feed_28 (by decide) ?_
      refine lv_istore (lv' := [(4, .int 0), (0, .ref a0), (1, .long x0), (3, .int 2)]) hx hb dX11_feed_29 hl (by decide) rfl (fun ls hl => ?_)
      refine lv_iload hx hb dX11_feed_31 (lv_at hl 0 rfl) ?_
      refine lv_iload_n hx hb dX11_feed_33 rfl (lv_at hl 3 rfl) ?_
      refine lv_icmp_ge (tgt := 74) hx hb dX11_feed_34 (by decide) (fun cc => absurd cc (by decide +kernel)) (fun _ => ?_)
      refine lv_aload_n hx hb dX11_feed_37 rfl (lv_at hl 1 rfl) ?_
      refine va_get (D := D) (ci := 8) (v := .ref a8) (C := RX11) (T := TX11) (N := 36) hx hb hU iX11 hown hK.1 hP 0 rfl rfl 15 (by decide) (hU _ w800) (fun _ h9 => h9) rfl dX11_feed_38 ?_
      refine lv_aload_n hx hb dX11_feed_41 rfl (lv_at hl 1 rfl) ?_
      refine va_get (D := D) (ci := 8) (v := .int 0) (C := RX11) (T := TX11) (N := 36) hx hb hU iX11 hown hK.1 hP 0 rfl rfl 17 (by decide) (hU _ w802) (fun _ h9 => h9) rfl dX11_feed_42 ?_
      refine lv_lload_n hx hb dX11_feed_45 rfl (lv_at hl 2 rfl) ?_
      refine lv_bipush (v := 8) hx hb dX11_feed_46 (by decide) ?_
      refine lv_iload hx hb dX11_feed_48 (lv_at hl 0 rfl) ?_
      refine lv_imul hx hb dX11_feed_50 (sv_i (v := 0) (by decide +kernel) ?_)
      refine lv_lshr hx hb dX11_feed_51 rfl (lv_topl (fun v9 _ => ?_))
      refine lv_ldc2 hx hb hown (hU _ w1005) dX11_feed_52 ?_
      refine lv_land hx hb dX11_feed_55 (lv_topl (fun v10 _ => ?_))
      refine lv_l2i (v := v10.toInt32) hx hb dX11_feed_56 rfl ?_
      refine st_i (j := 0) (g := tI [v10.toInt32] 0) hx hb hK hP hD hS 1 rfl (by decide +kernel) upd_tI dX11_feed_57 (fun H locs hP hD hS => ?_)
      have hP : va_P D cl0 [(a0, .inr (8, [.int 2, .int 0, .int 1, .int 0, .int 0, .int 0, .ref a1, .ref a2, .int 0, .int 0, .ref a3, .ref a4, .ref a5, .ref a6, .ref a7, .ref a8, .ref a9, .int 0, .int 0, .int 0, .ref a10, .ref a11, .ref a12, .ref a13, .int 0, .int 0, .ref a14, .ref a15, .ref a16, .ref a17, .int 0, .int 0, .ref a18, .ref a19, .ref a20, .ref a21])), (a8, .inl (k 0, 120, .inl (tI [v10.toInt32] 0)))] H := hP
      have hD : va_D A [(a0, .inr (8, [.int 2, .int 0, .int 1, .int 0, .int 0, .int 0, .ref a1, .ref a2, .int 0, .int 0, .ref a3, .ref a4, .ref a5, .ref a6, .ref a7, .ref a8, .ref a9, .int 0, .int 0, .int 0, .ref a10, .ref a11, .ref a12, .ref a13, .int 0, .int 0, .ref a14, .ref a15, .ref a16, .ref a17, .int 0, .int 0, .ref a18, .ref a19, .ref a20, .ref a21])), (a8, .inl (k 0, 120, .inl (tI [v10.toInt32] 0)))] := hD
      refine lv_aload_n hx hb dX11_feed_58 rfl (lv_at hl 1 rfl) ?_
      refine lv_dup hx hb dX11_feed_59 rfl ?_
      refine va_get (D := D) (ci := 8) (v := .int 0) (C := RX11) (T := TX11) (N := 36) hx hb hU iX11 hown hK.1 hP 0 rfl rfl 17 (by decide) (hU _ w802) (fun _ h9 => h9) rfl dX11_feed_60 ?_
      refine lv_iconst (v := 1) hx hb dX11_feed_63 (by decide) ?_
      refine lv_iadd hx hb dX11_feed_64 (sv_i (v := 1) (by decide +kernel) ?_)
      refine va_put (D := D) (ci := 8) (v := .int 1) (ty := .int) (C := RX11) (T := TX11) (N := 36) hx hb hU iX11 tyX11 tyX11_ok nmX11 hown hK.1 hP hD hS 0 rfl rfl 17 (by decide) (hU _ w802) (fun _ h9 => h9) rfl (by decide +kernel) rfl rfl (Nat.le_of_ble_eq_true rfl) dX11_feed_65 (fun H locs hP hD hS => ?_)
      have hP : va_P D cl0 [(a0, .inr (8, [.int 2, .int 0, .int 1, .int 0, .int 0, .int 0, .ref a1, .ref a2, .int 0, .int 0, .ref a3, .ref a4, .ref a5, .ref a6, .ref a7, .ref a8, .ref a9, .int 1, .int 0, .int 0, .ref a10, .ref a11, .ref a12, .ref a13, .int 0, .int 0, .ref a14, .ref a15, .ref a16, .ref a17, .int 0, .int 0, .ref a18, .ref a19, .ref a20, .ref a21])), (a8, .inl (k 0, 120, .inl (tI [v10.toInt32] 0)))] H := hP
      have hD : va_D A [(a0, .inr (8, [.int 2, .int 0, .int 1, .int 0, .int 0, .int 0, .ref a1, .ref a2, .int 0, .int 0, .ref a3, .ref a4, .ref a5, .ref a6, .ref a7, .ref a8, .ref a9, .int 1, .int 0, .int 0, .ref a10, .ref a11, .ref a12, .ref a13, .int 0, .int 0, .ref a14, .ref a15, .ref a16, .ref a17, .int 0, .int 0, .ref a18, .ref a19, .ref a20, .ref a21])), (a8, .inl (k 0, 120, .inl (tI [v10.toInt32] 0)))] := hD
      refine lv_iinc (v := 1) (lv' := [(4, .int 1), (0, .ref a0), (1, .long x0), (3, .int 2)]) hx hb dX11_feed_68 hl (k := 0) rfl (by decide) (by decide) rfl (fun ls hl => ?_)
      refine lv_goto (tgt := 31) hx hb dX11_feed_71 (by decide) ?_
      refine lv_iload hx hb dX11_feed_31 (lv_at hl 0 rfl) ?_
      refine lv_iload_n hx hb dX11_feed_33 rfl (lv_at hl 3 rfl) ?_
      refine lv_icmp_ge (tgt := 74) hx hb dX11_feed_34 (by decide) (fun cc => absurd cc (by decide +kernel)) (fun _ => ?_)
      refine lv_aload_n hx hb dX11_feed_37 rfl (lv_at hl 1 rfl) ?_
      refine va_get (D := D) (ci := 8) (v := .ref a8) (C := RX11) (T := TX11) (N := 36) hx hb hU iX11 hown hK.1 hP 0 rfl rfl 15 (by decide) (hU _ w800) (fun _ h9 => h9) rfl dX11_feed_38 ?_
      refine lv_aload_n hx hb dX11_feed_41 rfl (lv_at hl 1 rfl) ?_
      refine va_get (D := D) (ci := 8) (v := .int 1) (C := RX11) (T := TX11) (N := 36) hx hb hU iX11 hown hK.1 hP 0 rfl rfl 17 (by decide) (hU _ w802) (fun _ h9 => h9) rfl dX11_feed_42 ?_
      refine lv_lload_n hx hb dX11_feed_45 rfl (lv_at hl 2 rfl) ?_
      refine lv_bipush (v := 8) hx hb dX11_feed_46 (by decide) ?_
      refine lv_iload hx hb dX11_feed_48 (lv_at hl 0 rfl) ?_
      refine lv_imul hx hb dX11_feed_50 (sv_i (v := 8) (by decide +kernel) ?_)
      refine lv_lshr hx hb dX11_feed_51 rfl (lv_topl (fun v11 _ => ?_))
      refine lv_ldc2 hx hb hown (hU _ w1005) dX11_feed_52 ?_
      refine lv_land hx hb dX11_feed_55 (lv_topl (fun v12 _ => ?_))
      refine lv_l2i (v := v12.toInt32) hx hb dX11_feed_56 rfl ?_
      refine st_i (j := 1) (g := tI [v10.toInt32, v12.toInt32] 0) hx hb hK hP hD hS 1 rfl (by decide +kernel) upd_tI dX11_feed_57 (fun H locs hP hD hS => ?_)
      have hP : va_P D cl0 [(a0, .inr (8, [.int 2, .int 0, .int 1, .int 0, .int 0, .int 0, .ref a1, .ref a2, .int 0, .int 0, .ref a3, .ref a4, .ref a5, .ref a6, .ref a7, .ref a8, .ref a9, .int 1, .int 0, .int 0, .ref a10, .ref a11, .ref a12, .ref a13, .int 0, .int 0, .ref a14, .ref a15, .ref a16, .ref a17, .int 0, .int 0, .ref a18, .ref a19, .ref a20, .ref a21])), (a8, .inl (k 0, 120, .inl (tI [v10.toInt32, v12.toInt32] 0)))] H := hP
      have hD : va_D A [(a0, .inr (8, [.int 2, .int 0, .int 1, .int 0, .int 0, .int 0, .ref a1, .ref a2, .int 0, .int 0, .ref a3, .ref a4, .ref a5, .ref a6, .ref a7, .ref a8, .ref a9, .int 1, .int 0, .int 0, .ref a10, .ref a11, .ref a12, .ref a13, .int 0, .int 0, .ref a14, .ref a15, .ref a16, .ref a17, .int 0, .int 0, .ref a18, .ref a19, .ref a20, .ref a21])), (a8, .inl (k 0, 120, .inl (tI [v10.toInt32, v12.toInt32] 0)))] := hD
      refine lv_aload_n hx hb dX11_feed_58 rfl (lv_at hl 1 rfl) ?_
      refine lv_dup hx hb dX11_feed_59 rfl ?_
      refine va_get (D := D) (ci := 8) (v := .int 1) (C := RX11) (T := TX11) (N := 36) hx hb hU iX11 hown hK.1 hP 0 rfl rfl 17 (by decide) (hU _ w802) (fun _ h9 => h9) rfl dX11_feed_60 ?_
      refine lv_iconst (v := 1) hx hb dX11_feed_63 (by decide) ?_
      refine lv_iadd hx hb dX11_feed_64 (sv_i (v := 2) (by decide +kernel) ?_)
      refine va_put (D := D) (ci := 8) (v := .int 2) (ty := .int) (C := RX11) (T := TX11) (N := 36) hx hb hU iX11 tyX11 tyX11_ok nmX11 hown hK.1 hP hD hS 0 rfl rfl 17 (by decide) (hU _ w802) (fun _ h9 => h9) rfl (by decide +kernel) rfl rfl (Nat.le_of_ble_eq_true rfl) dX11_feed_65 (fun H locs hP hD hS => ?_)
      have hP : va_P D cl0 [(a0, .inr (8, [.int 2, .int 0, .int 1, .int 0, .int 0, .int 0, .ref a1, .ref a2, .int 0, .int 0, .ref a3, .ref a4, .ref a5, .ref a6, .ref a7, .ref a8, .ref a9, .int 2, .int 0, .int 0, .ref a10, .ref a11, .ref a12, .ref a13, .int 0, .int 0, .ref a14, .ref a15, .ref a16, .ref a17, .int 0, .int 0, .ref a18, .ref a19, .ref a20, .ref a21])), (a8, .inl (k 0, 120, .inl (tI [v10.toInt32, v12.toInt32] 0)))] H := hP
      have hD : va_D A [(a0, .inr (8, [.int 2, .int 0, .int 1, .int 0, .int 0, .int 0, .ref a1, .ref a2, .int 0, .int 0, .ref a3, .ref a4, .ref a5, .ref a6, .ref a7, .ref a8, .ref a9, .int 2, .int 0, .int 0, .ref a10, .ref a11, .ref a12, .ref a13, .int 0, .int 0, .ref a14, .ref a15, .ref a16, .ref a17, .int 0, .int 0, .ref a18, .ref a19, .ref a20, .ref a21])), (a8, .inl (k 0, 120, .inl (tI [v10.toInt32, v12.toInt32] 0)))] := hD
      refine lv_iinc (v := 2) (lv' := [(4, .int 2), (0, .ref a0), (1, .long x0), (3, .int 2)]) hx hb dX11_feed_68 hl (k := 0) rfl (by decide) (by decide) rfl (fun ls hl => ?_)
      refine lv_goto (tgt := 31) hx hb dX11_feed_71 (by decide) ?_
      refine lv_iload hx hb dX11_feed_31 (lv_at hl 0 rfl) ?_
      refine lv_iload_n hx hb dX11_feed_33 rfl (lv_at hl 3 rfl) ?_
      refine lv_icmp_ge (tgt := 74) hx hb dX11_feed_34 (by decide) (fun _ => ?_) (fun cc => absurd (by decide +kernel) cc)
      refine lv_aload_n hx hb dX11_feed_74 rfl (lv_at hl 1 rfl) ?_
      refine va_get (D := D) (ci := 8) (v := .int 2) (C := RX11) (T := TX11) (N := 36) hx hb hU iX11 hown hK.1 hP 0 rfl rfl 17 (by decide) (hU _ w802) (fun _ h9 => h9) rfl dX11_feed_75 ?_
      exact retI (v := 2) hx hb hr hlocks hS (show (2 : Int32) = F_feed x0 2 by first | decide +kernel | (have g_2 : (2 : Int32).toInt = 2 := (by decide +kernel); unfold F_feed; (repeat (first | rw [if_pos (by omega)] | rw [if_neg (by omega)])))) dX11_feed_78
    · skip
      obtain rfl : x1 = 3 := eq32 hsp (by decide +kernel)
      refine lv_icmp_le (tgt := 28) hx hb dX11_feed_22 (by decide) (fun _ => ?_) (fun cc => absurd (by decide +kernel) cc)
      refine lv_iconst (v := 0) hx hb dX11_feed_28 (by decide) ?_
      refine lv_istore (lv' := [(4, .int 0), (0, .ref a0), (1, .long x0), (3, .int 3)]) hx hb dX11_feed_29 hl (by decide) rfl (fun ls hl => ?_)
      refine lv_iload hx hb dX11_feed_31 (lv_at hl 0 rfl) ?_
      refine lv_iload_n hx hb dX11_feed_33 rfl (lv_at hl 3 rfl) ?_
      refine lv_icmp_ge (tgt := 74) hx hb dX11_feed_34 (by decide) (fun cc => absurd cc (by decide +kernel)) (fun _ => ?_)
      refine lv_aload_n hx hb dX11_feed_37 rfl (lv_at hl 1 rfl) ?_
      refine va_get (D := D) (ci := 8) (v := .ref a8) (C := RX11) (T := TX11) (N := 36) hx hb hU iX11 hown hK.1 hP 0 rfl rfl 15 (by decide) (hU _ w800) (fun _ h9 => h9) rfl dX11_feed_38 ?_
      refine lv_aload_n hx hb dX11_feed_41 rfl (lv_at hl 1 rfl) ?_
      refine va_get (D := D) (ci := 8) (v := .int 0) (C := RX11) (T := TX11) (N := 36) hx hb hU iX11 hown hK.1 hP 0 rfl rfl 17 (by decide) (hU _ w802) (fun _ h9 => h9) rfl dX11_feed_42 ?_
      refine lv_lload_n hx hb dX11_feed_45 rfl (lv_at hl 2 rfl) ?_
      refine lv_bipush (v := 8) hx hb dX11_feed_46 (by decide) ?_
      refine lv_iload hx hb dX11_feed_48 (lv_at hl 0 rfl) ?_
      refine lv_imul hx hb dX11_feed_50 (sv_i (v := 0) (by decide +kernel) ?_)
      refine lv_lshr hx hb dX11_feed_51 rfl (lv_topl (fun v13 _ => ?_))
      refine lv_ldc2 hx hb hown (hU _ w1005) dX11_feed_52 ?_
      refine lv_land hx hb dX11_feed_55 (lv_topl (fun v14 _ => ?_))
      refine lv_l2i (v := v14.toInt32) hx hb dX11_feed_56 rfl ?_
      refine st_i (j := 0) (g := tI [v14.toInt32] 0) hx hb hK hP hD hS 1 rfl (by decide +kernel) upd_tI dX11_feed_57 (fun H locs hP hD hS => ?_)
      have hP : va_P D cl0 [(a0, .inr (8, [.int 2, .int 0, .int 1, .int 0, .int 0, .int 0, .ref a1, .ref a2, .int 0, .int 0, .ref a3, .ref a4, .ref a5, .ref a6, .ref a7, .ref a8, .ref a9, .int 0, .int 0, .int 0, .ref a10, .ref a11, .ref a12, .ref a13, .int 0, .int 0, .ref a14, .ref a15, .ref a16, .ref a17, .int 0, .int 0, .ref a18, .ref a19, .ref a20, .ref a21])), (a8, .inl (k 0, 120, .inl (tI [v14.toInt32] 0)))] H := hP
      have hD : va_D A [(a0, .inr (8, [.int 2, .int 0, .int 1, .int 0, .int 0, .int 0, .ref a1, .ref a2, .int 0, .int 0, .ref a3, .ref a4, .ref a5, .ref a6, .ref a7, .ref a8, .ref a9, .int 0, .int 0, .int 0, .ref a10, .ref a11, .ref a12, .ref a13, .int 0, .int 0, .ref a14, .ref a15, .ref a16, .ref a17, .int 0, .int 0, .ref a18, .ref a19, .ref a20, .ref a21])), (a8, .inl (k 0, 120, .inl (tI [v14.toInt32] 0)))] := hD
      refine lv_aload_n hx hb dX11_feed_58 rfl (lv_at hl 1 rfl) ?_
      refine lv_dup hx hb dX11_feed_59 rfl ?_
      refine va_get (D := D) (ci := 8) (v := .int 0) (C := RX11) (T := TX11) (N := 36) hx hb hU iX11 hown hK.1 hP 0 rfl rfl 17 (by decide) (hU _ w802) (fun _ h9 => h9) rfl dX11_feed_60 ?_
      refine lv_iconst (v := 1) hx hb dX11_feed_63 (by decide) ?_
      refine lv_iadd hx hb dX11_feed_64 (sv_i (v := 1) (by decide +kernel) ?_)
      refine va_put (D := D) (ci := 8) (v := .int 1) (ty := .int) (C := RX11) (T := TX11) (N := 36) hx hb hU iX11 tyX11 tyX11_ok nmX11 hown hK.1 hP hD hS 0 rfl rfl 17 (by decide) (hU _ w802) (fun _ h9 => h9) rfl (by decide +kernel) rfl rfl (Nat.le_of_ble_eq_true rfl) dX11_feed_65 (fun H locs hP hD hS => ?_)
      have hP : va_P D cl0 [(a0, .inr (8, [.int 2, .int 0, .int 1, .int 0, .int 0, .int 0, .ref a1, .ref a2, .int 0, .int 0, .ref a3, .ref a4, .ref a5, .ref a6, .ref a7, .ref a8, .ref a9, .int 1, .int 0, .int 0, .ref a10, .ref a11, .ref a12, .ref a13, .int 0, .int 0, .ref a14, .ref a15, .ref a16, .ref a17, .int 0, .int 0, .ref a18, .ref a19, .ref a20, .ref a21])), (a8, .inl (k 0, 120, .inl (tI [v14.toInt32] 0)))] H := hP
      have hD : va_D A [(a0, .inr (8, [.int 2, .int 0, .int 1, .int 0, .int 0, .int 0, .ref a1, .ref a2, .int 0, .int 0, .ref a3, .ref a4, .ref a5, .ref a6, .ref a7, .ref a8, .ref a9, .int 1, .int 0, .int 0, .ref a10, .ref a11, .ref a12, .ref a13, .int 0, .int 0, .ref a14, .ref a15, .ref a16, .ref a17, .int 0, .int 0, .ref a18, .ref a19, .ref a20, .ref a21])), (a8, .inl (k 0, 120, .inl (tI [v14.toInt32] 0)))] := hD
      refine lv_iinc (v := 1) (lv' := [(4, .int 1), (0, .ref a0), (1, .long x0), (3, .int 3)]) hx hb dX11_feed_68 hl (k := 0) rfl (by decide) (by decide) rfl (fun ls hl => ?_)
      refine lv_goto (tgt := 31) hx hb dX11_feed_71 (by decide) ?_
      refine lv_iload hx hb dX11_feed_31 (lv_at hl 0 rfl) ?_
      refine lv_iload_n hx hb dX11_feed_33 rfl (lv_at hl 3 rfl) ?_
      refine lv_icmp_ge (tgt := 74) hx hb dX11_feed_34 (by decide) (fun cc => absurd cc (by decide +kernel)) (fun _ => ?_)
      refine lv_aload_n hx hb dX11_feed_37 rfl (lv_at hl 1 rfl) ?_
      refine va_get (D := D) (ci := 8) (v := .ref a8) (C := RX11) (T := TX11) (N := 36) hx hb hU iX11 hown hK.1 hP 0 rfl rfl 15 (by decide) (hU _ w800) (fun _ h9 => h9) rfl dX11_feed_38 ?_
      refine lv_aload_n hx hb dX11_feed_41 rfl (lv_at hl 1 rfl) ?_
      refine va_get (D := D) (ci := 8) (v := .int 1) (C := RX11) (T := TX11) (N := 36) hx hb hU iX11 hown hK.1 hP 0 rfl rfl 17 (by decide) (hU _ w802) (fun _ h9 => h9) rfl dX11_feed_42 ?_
      refine lv_lload_n hx hb dX11_feed_45 rfl (lv_at hl 2 rfl) ?_
      refine lv_bipush (v := 8) hx hb dX11_feed_46 (by decide) ?_
      refine lv_iload hx hb dX11_feed_48 (lv_at hl 0 rfl) ?_
      refine lv_imul hx hb dX11_feed_50 (sv_i (v := 8) (by decide +kernel) ?_)
      refine lv_lshr hx hb dX11_feed_51 rfl (lv_topl (fun v15 _ => ?_))
      refine lv_ldc2 hx hb hown (hU _ w1005) dX11_feed_52 ?_
      refine lv_land hx hb dX11_feed_55 (lv_topl (fun v16 _ => ?_))
      refine lv_l2i (v := v16.toInt32) hx hb dX11_feed_56 rfl ?_
      refine st_i (j := 1) (g := tI [v14.toInt32, v16.toInt32] 0) hx hb hK hP hD hS 1 rfl (by decide +kernel) upd_tI dX11_feed_57 (fun H locs hP hD hS => ?_)
      have hP : va_P D cl0 [(a0, .inr (8, [.int 2, .int 0, .int 1, .int 0, .int 0, .int 0, .ref a1, .ref a2, .int 0, .int 0, .ref a3, .ref a4, .ref a5, .ref a6, .ref a7, .ref a8, .ref a9, .int 1, .int 0, .int 0, .ref a10, .ref a11, .ref a12, .ref a13, .int 0, .int 0, .ref a14, .ref a15, .ref a16, .ref a17, .int 0, .int 0, .ref a18, .ref a19, .ref a20, .ref a21])), (a8, .inl (k 0, 120, .inl (tI [v14.toInt32, v16.toInt32] 0)))] H := hP
      have hD : va_D A [(a0, .inr (8, [.int 2, .int 0, .int 1, .int 0, .int 0, .int 0, .ref a1, .ref a2, .int 0, .int 0, .ref a3, .ref a4, .ref a5, .ref a6, .ref a7, .ref a8, .ref a9, .int 1, .int 0, .int 0, .ref a10, .ref a11, .ref a12, .ref a13, .int 0, .int 0, .ref a14, .ref a15, .ref a16, .ref a17, .int 0, .int 0, .ref a18, .ref a19, .ref a20, .ref a21])), (a8, .inl (k 0, 120, .inl (tI [v14.toInt32, v16.toInt32] 0)))] := hD
      refine lv_aload_n hx hb dX11_feed_58 rfl (lv_at hl 1 rfl) ?_
      refine lv_dup hx hb dX11_feed_59 rfl ?_
      refine va_get (D := D) (ci := 8) (v := .int 1) (C := RX11) (T := TX11) (N := 36) hx hb hU iX11 hown hK.1 hP 0 rfl rfl 17 (by decide) (hU _ w802) (fun _ h9 => h9) rfl dX11_feed_60 ?_
      refine lv_iconst (v := 1) hx hb dX11_feed_63 (by decide) ?_
      refine lv_iadd hx hb dX11_feed_64 (sv_i (v := 2) (by decide +kernel) ?_)
      refine va_put (D := D) (ci := 8) (v := .int 2) (ty := .int) (C := RX11) (T := TX11) (N := 36) hx hb hU iX11 tyX11 tyX11_ok nmX11 hown hK.1 hP hD hS 0 rfl rfl 17 (by decide) (hU _ w802) (fun _ h9 => h9) rfl (by decide +kernel) rfl rfl (Nat.le_of_ble_eq_true rfl) dX11_feed_65 (fun H locs hP hD hS => ?_)
      have hP : va_P D cl0 [(a0, .inr (8, [.int 2, .int 0, .int 1, .int 0, .int 0, .int 0, .ref a1, .ref a2, .int 0, .int 0, .ref a3, .ref a4, .ref a5, .ref a6, .ref a7, .ref a8, .ref a9, .int 2, .int 0, .int 0, .ref a10, .ref a11, .ref a12, .ref a13, .int 0, .int 0, .ref a14, .ref a15, .ref a16, .ref a17, .int 0, .int 0, .ref a18, .ref a19, .ref a20, .ref a21])), (a8, .inl (k 0, 120, .inl (tI [v14.toInt32, v16.toInt32] 0)))] H := hP
      have hD : va_D A [(a0, .inr (8, [.int 2, .int 0, .int 1, .int 0, .int 0, .int 0, .ref a1, .ref a2, .int 0, .int 0, .ref a3, .ref a4, .ref a5, .ref a6, .ref a7, .ref a8, .ref a9, .int 2, .int 0, .int 0, .ref a10, .ref a11, .ref a12, .ref a13, .int 0, .int 0, .ref a14, .ref a15, .ref a16, .ref a17, .int 0, .int 0, .ref a18, .ref a19, .ref a20, .ref a21])), (a8, .inl (k 0, 120, .inl (tI [v14.toInt32, v16.toInt32] 0)))] := hD
      refine lv_iinc (v := 2) (lv' := [(4, .int 2), (0, .ref a0), (1, .long x0), (3, .int 3)]) hx hb dX11_feed_68 hl (k := 0) rfl (by decide) (by decide) rfl (fun ls hl => ?_)
      refine lv_goto (tgt := 31) hx hb dX11_feed_71 (by decide) ?_
      refine lv_iload hx hb dX11_feed_31 (lv_at hl 0 rfl) ?_
      refine lv_iload_n hx hb dX11_feed_33 rfl (lv_at hl 3 rfl) ?_
      refine lv_icmp_ge (tgt := 74) hx hb dX11_feed_34 (by decide) (fun cc => absurd cc (by decide +kernel)) (fun _ => ?_)
      refine lv_aload_n hx hb dX11_feed_37 rfl (lv_at hl 1 rfl) ?_
      refine va_get (D := D) (ci := 8) (v := .ref a8) (C := RX11) (T := TX11) (N := 36) hx hb hU iX11 hown hK.1 hP 0 rfl rfl 15 (by decide) (hU _ w800) (fun _ h9 => h9) rfl dX11_feed_38 ?_
      refine lv_aload_n hx hb dX11_feed_41 rfl (lv_at hl 1 rfl) ?_
      refine va_get (D := D) (ci := 8) (v := .int 2) (C := RX11) (T := TX11) (N := 36) hx hb hU iX11 hown hK.1 hP 0 rfl rfl 17 (by decide) (hU _ w802) (fun _ h9 => h9) rfl dX11_feed_42 ?_
      refine lv_lload_n hx hb dX11_feed_45 rfl (lv_at hl 2 rfl) ?_
      refine lv_bipush (v := 8) hx hb dX11_feed_46 (by decide) ?_
      refine lv_iload hx hb dX11_feed_48 (lv_at hl 0 rfl) ?_
      refine lv_imul hx hb dX11_feed_50 (sv_i (v := 16) (by decide +kernel) ?_)
      refine lv_lshr hx hb dX11_feed_51 rfl (lv_topl (fun v17 _ => ?_))
      refine lv_ldc2 hx hb hown (hU _ w1005) dX11_feed_52 ?_
      refine lv_land hx hb dX11_feed_55 (lv_topl (fun v18 _ => ?_))
      refine lv_l2i (v := v18.toInt32) hx hb dX11_feed_56 rfl ?_
      refine st_i (j := 2) (g := tI [v14.toInt32, v16.toInt32, v18.toInt32] 0) hx hb hK hP hD hS 1 rfl (by decide +kernel) upd_tI dX11_feed_57 (fun H locs hP hD hS => ?_)
      have hP : va_P D cl0 [(a0, .inr (8, [.int 2, .int 0, .int 1, .int 0, .int 0, .int 0, .ref a1, .ref a2, .int 0, .int 0, .ref a3, .ref a4, .ref a5, .ref a6, .ref a7, .ref a8, .ref a9, .int 2, .int 0, .int 0, .ref a10, .ref a11, .ref a12, .ref a13, .int 0, .int 0, .ref a14, .ref a15, .ref a16, .ref a17, .int 0, .int 0, .ref a18, .ref a19, .ref a20, .ref a21])), (a8, .inl (k 0, 120, .inl (tI [v14.toInt32, v16.toInt32, v18.toInt32] 0)))] H := hP
      have hD : va_D A [(a0, .inr (8, [.int 2, .int 0, .int 1, .int 0, .int 0, .int 0, .ref a1, .ref a2, .int 0, .int 0, .ref a3, .ref a4, .ref a5, .ref a6, .ref a7, .ref a8, .ref a9, .int 2, .int 0, .int 0, .ref a10, .ref a11, .ref a12, .ref a13, .int 0, .int 0, .ref a14, .ref a15, .ref a16, .ref a17, .int 0, .int 0, .ref a18, .ref a19, .ref a20, .ref a21])), (a8, .inl (k 0, 120, .inl (tI [v14.toInt32, v16.toInt32, v18.toInt32] 0)))] := hD
      refine lv_aload_n hx hb dX11_feed_58 rfl (lv_at hl 1 rfl) ?_
      refine lv_dup hx hb dX11_feed_59 rfl ?_
      refine va_get (D := D) (ci := 8) (v := .int 2) (C := RX11) (T := TX11) (N := 36) hx hb hU iX11 hown hK.1 hP 0 rfl rfl 17 (by decide) (hU _ w802) (fun _ h9 => h9) rfl dX11_feed_60 ?_
      refine lv_iconst (v := 1) hx hb dX11_feed_63 (by decide) ?_
      refine lv_iadd hx hb dX11_feed_64 (sv_i (v := 3) (by decide +kernel) ?_)
      refine va_put (D := D) (ci := 8) (v := .int 3) (ty := .int) (C := RX11) (T := TX11) (N := 36) hx hb hU iX11 tyX11 tyX11_ok nmX11 hown hK.1 hP hD hS 0 rfl rfl 17 (by decide) (hU _ w802) (fun _ h9 => h9) rfl (by decide +kernel) rfl rfl (Nat.le_of_ble_eq_true rfl) dX11_feed_65 (fun H locs hP hD hS => ?_)
      have hP : va_P D cl0 [(a0, .inr (8, [.int 2, .int 0, .int 1, .int 0, .int 0, .int 0, .ref a1, .ref a2, .int 0, .int 0, .ref a3, .ref a4, .ref a5, .ref a6, .ref a7, .ref a8, .ref a9, .int 3, .int 0, .int 0, .ref a10, .ref a11, .ref a12, .ref a13, .int 0, .int 0, .ref a14, .ref a15, .ref a16, .ref a17, .int 0, .int 0, .ref a18, .ref a19, .ref a20, .ref a21])), (a8, .inl (k 0, 120, .inl (tI [v14.toInt32, v16.toInt32, v18.toInt32] 0)))] H := hP
      have hD : va_D A [(a0, .inr (8, [.int 2, .int 0, .int 1, .int 0, .int 0, .int 0, .ref a1, .ref a2, .int 0, .int 0, .ref a3, .ref a4, .ref a5, .ref a6, .ref a7, .ref a8, .ref a9, .int 3, .int 0, .int 0, .ref a10, .ref a11, .ref a12, .ref a13, .int 0, .int 0, .ref a14, .ref a15, .ref a16, .ref a17, .int 0, .int 0, .ref a18, .ref a19, .ref a20, .ref a21])), (a8, .inl (k 0, 120, .inl (tI [v14.toInt32, v16.toInt32, v18.toInt32] 0)))] := hD
      refine lv_iinc (v := 3) (lv' := [(4, .int 3), (0, .ref a0), (1, .long x0), (3, .int 3)]) hx hb dX11_feed_68 hl (k := 0) rfl (by decide) (by decide) rfl (fun ls hl => ?_)
      refine lv_goto (tgt := 31) hx hb dX11_feed_71 (by decide) ?_
      refine lv_iload hx hb dX11_feed_31 (lv_at hl 0 rfl) ?_
      refine lv_iload_n hx hb dX11_feed_33 rfl (lv_at hl 3 rfl) ?_
      refine lv_icmp_ge (tgt := 74) hx hb dX11_feed_34 (by decide) (fun _ => ?_) (fun cc => absurd (by decide +kernel) cc)
      refine lv_aload_n hx hb dX11_feed_74 rfl (lv_at hl 1 rfl) ?_
      refine va_get (D := D) (ci := 8) (v := .int 3) (C := RX11) (T := TX11) (N := 36) hx hb hU iX11 hown hK.1 hP 0 rfl rfl 17 (by decide) (hU _ w802) (fun _ h9 => h9) rfl dX11_feed_75 ?_
      exact retI (v := 3) hx hb hr hlocks hS (show (3 : Int32) = F_feed x0 3 by first | decide +kernel | (have g_3 : (3 : Int32).toInt = 3 := (by decide +kernel); unfold F_feed; (repeat (first | rw [if_pos (by omega)] | rw [if_neg (by omega)])))) dX11_feed_78
    · skip
      obtain rfl : x1 = 4 := eq32 hsp (by decide +kernel)
      refine lv_icmp_le (tgt := 28) hx hb dX11_feed_22 (by decide) (fun _ => ?_) (fun cc => absurd (by decide +kernel) cc)
      refine lv_iconst (v := 0) hx hb dX11_feed_28 (by decide) ?_
      refine lv_istore (lv' := [(4, .int 0), (0, .ref a0), (1, .long x0), (3, .int 4)]) hx hb dX11_feed_29 hl (by decide) rfl (fun ls hl => ?_)
      refine lv_iload hx hb dX11_feed_31 (lv_at hl 0 rfl) ?_
      refine lv_iload_n hx hb dX11_feed_33 rfl (lv_at hl 3 rfl) ?_
      refine lv_icmp_ge (tgt := 74) hx hb dX11_feed_34 (by decide) (fun cc => absurd cc (by decide +kernel)) (fun _ => ?_)
      refine lv_aload_n hx hb dX11_feed_37 rfl (lv_at hl 1 rfl) ?_
      refine va_get (D := D) (ci := 8) (v := .ref a8) (C := RX11) (T := TX11) (N := 36) hx hb hU iX11 hown hK.1 hP 0 rfl rfl 15 (by decide) (hU _ w800) (fun _ h9 => h9) rfl dX11_feed_38 ?_
      refine lv_aload_n hx hb dX11_feed_41 rfl (lv_at hl 1 rfl) ?_
      refine va_get (D := D) (ci := 8) (v := .int 0) (C := RX11) (T := TX11) (N := 36) hx hb hU iX11 hown hK.1 hP 0 rfl rfl 17 (by decide) (hU _ w802) (fun _ h9 => h9) rfl dX11_feed_42 ?_
      refine lv_lload_n hx hb dX11_feed_45 rfl (lv_at hl 2 rfl) ?_
      refine lv_bipush (v := 8) hx hb dX11_feed_46 (by decide) ?_
      refine lv_iload hx hb dX11_feed_48 (lv_at hl 0 rfl) ?_
      refine lv_imul hx hb dX11_feed_50 (sv_i (v := 0) (by decide +kernel) ?_)
      refine lv_lshr hx hb dX11_feed_51 rfl (lv_topl (fun v19 _ => ?_))
      refine lv_ldc2 hx hb hown (hU _ w1005) dX11_feed_52 ?_
      refine lv_land hx hb dX11_feed_55 (lv_topl (fun v20 _ => ?_))
      refine lv_l2i (v := v20.toInt32) hx hb dX11_feed_56 rfl ?_
      refine st_i (j := 0) (g := tI [v20.toInt32] 0) hx hb hK hP hD hS 1 rfl (by decide +kernel) upd_tI dX11_feed_57 (fun H locs hP hD hS => ?_)
      have hP : va_P D cl0 [(a0, .inr (8, [.int 2, .int 0, .int 1, .int 0, .int 0, .int 0, .ref a1, .ref a2, .int 0, .int 0, .ref a3, .ref a4, .ref a5, .ref a6, .ref a7, .ref a8, .ref a9, .int 0, .int 0, .int 0, .ref a10, .ref a11, .ref a12, .ref a13, .int 0, .int 0, .ref a14, .ref a15, .ref a16, .ref a17, .int 0, .int 0, .ref a18, .ref a19, .ref a20, .ref a21])), (a8, .inl (k 0, 120, .inl (tI [v20.toInt32] 0)))] H := hP
      have hD : va_D A [(a0, .inr (8, [.int 2, .int 0, .int 1, .int 0, .int 0, .int 0, .ref a1, .ref a2, .int 0, .int 0, .ref a3, .ref a4, .ref a5, .ref a6, .ref a7, .ref a8, .ref a9, .int 0, .int 0, .int 0, .ref a10, .ref a11, .ref a12, .ref a13, .int 0, .int 0, .ref a14, .ref a15, .ref a16, .ref a17, .int 0, .int 0, .ref a18, .ref a19, .ref a20, .ref a21])), (a8, .inl (k 0, 120, .inl (tI [v20.toInt32] 0)))] := hD
      refine lv_aload_n hx hb dX11_feed_58 rfl (lv_at hl 1 rfl) ?_
      refine lv_dup hx hb dX11_feed_59 rfl ?_
      refine va_get (D := D) (ci := 8) (v := .int 0) (C := RX11) (T := TX11) (N := 36) hx hb hU iX11 hown hK.1 hP 0 rfl rfl 17 (by decide) (hU _ w802) (fun _ h9 => h9) rfl dX11_feed_60 ?_
      refine lv_iconst (v := 1) hx hb dX11_feed_63 (by decide) ?_
      refine lv_iadd hx hb dX11_feed_64 (sv_i (v := 1) (by decide +kernel) ?_)
      refine va_put (D := D) (ci := 8) (v := .int 1) (ty := .int) (C := RX11) (T := TX11) (N := 36) hx hb hU iX11 tyX11 tyX11_ok nmX11 hown hK.1 hP hD hS 0 rfl rfl 17 (by decide) (hU _ w802) (fun _ h9 => h9) rfl (by decide +kernel) rfl rfl (Nat.le_of_ble_eq_true rfl) dX11_feed_65 (fun H locs hP hD hS => ?_)
      have hP : va_P D cl0 [(a0, .inr (8, [.int 2, .int 0, .int 1, .int 0, .int 0, .int 0, .ref a1, .ref a2, .int 0, .int 0, .ref a3, .ref a4, .ref a5, .ref a6, .ref a7, .ref a8, .ref a9, .int 1, .int 0, .int 0, .ref a10, .ref a11, .ref a12, .ref a13, .int 0, .int 0, .ref a14, .ref a15, .ref a16, .ref a17, .int 0, .int 0, .ref a18, .ref a19, .ref a20, .ref a21])), (a8, .inl (k 0, 120, .inl (tI [v20.toInt32] 0)))] H := hP
      have hD : va_D A [(a0, .inr (8, [.int 2, .int 0, .int 1, .int 0, .int 0, .int 0, .ref a1, .ref a2, .int 0, .int 0, .ref a3, .ref a4, .ref a5, .ref a6, .ref a7, .ref a8, .ref a9, .int 1, .int 0, .int 0, .ref a10, .ref a11, .ref a12, .ref a13, .int 0, .int 0, .ref a14, .ref a15, .ref a16, .ref a17, .int 0, .int 0, .ref a18, .ref a19, .ref a20, .ref a21])), (a8, .inl (k 0, 120, .inl (tI [v20.toInt32] 0)))] := hD
      refine lv_iinc (v := 1) (lv' := [(4, .int 1), (0, .ref a0), (1, .long x0), (3, .int 4)]) hx hb dX11_feed_68 hl (k := 0) rfl (by decide) (by decide) rfl (fun ls hl => ?_)
      refine lv_goto (tgt := 31) hx hb dX11_feed_71 (by decide) ?_
      refine lv_iload hx hb dX11_feed_31 (lv_at hl 0 rfl) ?_
      refine lv_iload_n hx hb dX11_feed_33 rfl (lv_at hl 3 rfl) ?_
      refine lv_icmp_ge (tgt := 74) hx hb dX11_feed_34 (by decide) (fun cc => absurd cc (by decide +kernel)) (fun _ => ?_)
      refine lv_aload_n hx hb dX11_feed_37 rfl (lv_at hl 1 rfl) ?_
      refine va_get (D := D) (ci := 8) (v := .ref a8) (C := RX11) (T := TX11) (N := 36) hx hb hU iX11 hown hK.1 hP 0 rfl rfl 15 (by decide) (hU _ w800) (fun _ h9 => h9) rfl dX11_feed_38 ?_
      refine lv_aload_n hx hb dX11_feed_41 rfl (lv_at hl 1 rfl) ?_
      refine va_get (D := D) (ci := 8) (v := .int 1) (C := RX11) (T := TX11) (N := 36) hx hb hU iX11 hown hK.1 hP 0 rfl rfl 17 (by decide) (hU _ w802) (fun _ h9 => h9) rfl dX11_feed_42 ?_
      refine lv_lload_n hx hb dX11_feed_45 rfl (lv_at hl 2 rfl) ?_
      refine lv_bipush (v := 8) hx hb dX11_feed_46 (by decide) ?_
      refine lv_iload hx hb dX11_feed_48 (lv_at hl 0 rfl) ?_
      refine lv_imul hx hb dX11_feed_50 (sv_i (v := 8) (by decide +kernel) ?_)
      refine lv_lshr hx hb dX11_feed_51 rfl (lv_topl (fun v21 _ => ?_))
      refine lv_ldc2 hx hb hown (hU _ w1005) dX11_feed_52 ?_
      refine lv_land hx hb dX11_feed_55 (lv_topl (fun v22 _ => ?_))
      refine lv_l2i (v := v22.toInt32) hx hb dX11_feed_56 rfl ?_
      refine st_i (j := 1) (g := tI [v20.toInt32, v22.toInt32] 0) hx hb hK hP hD hS 1 rfl (by decide +kernel) upd_tI dX11_feed_57 (fun H locs hP hD hS => ?_)
      have hP : va_P D cl0 [(a0, .inr (8, [.int 2, .int 0, .int 1, .int 0, .int 0, .int 0, .ref a1, .ref a2, .int 0, .int 0, .ref a3, .ref a4, .ref a5, .ref a6, .ref a7, .ref a8, .ref a9, .int 1, .int 0, .int 0, .ref a10, .ref a11, .ref a12, .ref a13, .int 0, .int 0, .ref a14, .ref a15, .ref a16, .ref a17, .int 0, .int 0, .ref a18, .ref a19, .ref a20, .ref a21])), (a8, .inl (k 0, 120, .inl (tI [v20.toInt32, v22.toInt32] 0)))] H := hP
      have hD : va_D A [(a0, .inr (8, [.int 2, .int 0, .int 1, .int 0, .int 0, .int 0, .ref a1, .ref a2, .int 0, .int 0, .ref a3, .ref a4, .ref a5, .ref a6, .ref a7, .ref a8, .ref a9, .int 1, .int 0, .int 0, .ref a10, .ref a11, .ref a12, .ref a13, .int 0, .int 0, .ref a14, .ref a15, .ref a16, .ref a17, .int 0, .int 0, .ref a18, .ref a19, .ref a20, .ref a21])), (a8, .inl (k 0, 120, .inl (tI [v20.toInt32, v22.toInt32] 0)))] := hD
      refine lv_aload_n hx hb dX11_feed_58 rfl (lv_at hl 1 rfl) ?_
      refine lv_dup hx hb dX11_feed_59 rfl ?_
      refine va_get (D := D) (ci := 8) (v := .int 1) (C := RX11) (T := TX11) (N := 36) hx hb hU iX11 hown hK.1 hP 0 rfl rfl 17 (by decide) (hU _ w802) (fun _ h9 => h9) rfl dX11_feed_60 ?_
      refine lv_iconst (v := 1) hx hb dX11_feed_63 (by decide) ?_
      refine lv_iadd hx hb dX11_feed_64 (sv_i (v := 2) (by decide +kernel) ?_)
      refine va_put (D := D) (ci := 8) (v := .int 2) (ty := .int) (C := RX11) (T := TX11) (N := 36) hx hb hU iX11 tyX11 tyX11_ok nmX11 hown hK.1 hP hD hS 0 rfl rfl 17 (by decide) (hU _ w802) (fun _ h9 => h9) rfl (by decide +kernel) rfl rfl (Nat.le_of_ble_eq_true rfl) dX11_feed_65 (fun H locs hP hD hS => ?_)
      have hP : va_P D cl0 [(a0, .inr (8, [.int 2, .int 0, .int 1, .int 0, .int 0, .int 0, .ref a1, .ref a2, .int 0, .int 0, .ref a3, .ref a4, .ref a5, .ref a6, .ref a7, .ref a8, .ref a9, .int 2, .int 0, .int 0, .ref a10, .ref a11, .ref a12, .ref a13, .int 0, .int 0, .ref a14, .ref a15, .ref a16, .ref a17, .int 0, .int 0, .ref a18, .ref a19, .ref a20, .ref a21])), (a8, .inl (k 0, 120, .inl (tI [v20.toInt32, v22.toInt32] 0)))] H := hP
      have hD : va_D A [(a0, .inr (8, [.int 2, .int 0, .int 1, .int 0, .int 0, .int 0, .ref a1, .ref a2, .int 0, .int 0, .ref a3, .ref a4, .ref a5, .ref a6, .ref a7, .ref a8, .ref a9, .int 2, .int 0, .int 0, .ref a10, .ref a11, .ref a12, .ref a13, .int 0, .int 0, .ref a14, .ref a15, .ref a16, .ref a17, .int 0, .int 0, .ref a18, .ref a19, .ref a20, .ref a21])), (a8, .inl (k 0, 120, .inl (tI [v20.toInt32, v22.toInt32] 0)))] := hD
      refine lv_iinc (v := 2) (lv' := [(4, .int 2), (0, .ref a0), (1, .long x0), (3, .int 4)]) hx hb dX11_feed_68 hl (k := 0) rfl (by decide) (by decide) rfl (fun ls hl => ?_)
      refine lv_goto (tgt := 31) hx hb dX11_feed_71 (by decide) ?_
      refine lv_iload hx hb dX11_feed_31 (lv_at hl 0 rfl) ?_
      refine lv_iload_n hx hb dX11_feed_33 rfl (lv_at hl 3 rfl) ?_
      refine lv_icmp_ge (tgt := 74) hx hb dX11_feed_34 (by decide) (fun cc => absurd cc (by decide +kernel)) (fun _ => ?_)
      refine lv_aload_n hx hb dX11_feed_37 rfl (lv_at hl 1 rfl) ?_
      refine va_get (D := D) (ci := 8) (v := .ref a8) (C := RX11) (T := TX11) (N := 36) hx hb hU iX11 hown hK.1 hP 0 rfl rfl 15 (by decide) (hU _ w800) (fun _ h9 => h9) rfl dX11_feed_38 ?_
      refine lv_aload_n hx hb dX11_feed_41 rfl (lv_at hl 1 rfl) ?_
      refine va_get (D := D) (ci := 8) (v := .int 2) (C := RX11) (T := TX11) (N := 36) hx hb hU iX11 hown hK.1 hP 0 rfl rfl 17 (by decide) (hU _ w802) (fun _ h9 => h9) rfl dX11_feed_42 ?_
      refine lv_lload_n hx hb dX11_feed_45 rfl (lv_at hl 2 rfl) ?_
      refine lv_bipush (v := 8) hx hb dX11_feed_46 (by decide) ?_
      refine lv_iload hx hb dX11_feed_48 (lv_at hl 0 rfl) ?_
      refine lv_imul hx hb dX11_feed_50 (sv_i (v := 16) (by decide +kernel) ?_)
      refine lv_lshr hx hb dX11_feed_51 rfl (lv_topl (fun v23 _ => ?_))
      refine lv_ldc2 hx hb hown (hU _ w1005) dX11_feed_52 ?_
      refine lv_land hx hb dX11_feed_55 (lv_topl (fun v24 _ => ?_))
      refine lv_l2i (v := v24.toInt32) hx hb dX11_feed_56 rfl ?_
      refine st_i (j := 2) (g := tI [v20.toInt32, v22.toInt32, v24.toInt32] 0) hx hb hK hP hD hS 1 rfl (by decide +kernel) upd_tI dX11_feed_57 (fun H locs hP hD hS => ?_)
      have hP : va_P D cl0 [(a0, .inr (8, [.int 2, .int 0, .int 1, .int 0, .int 0, .int 0, .ref a1, .ref a2, .int 0, .int 0, .ref a3, .ref a4, .ref a5, .ref a6, .ref a7, .ref a8, .ref a9, .int 2, .int 0, .int 0, .ref a10, .ref a11, .ref a12, .ref a13, .int 0, .int 0, .ref a14, .ref a15, .ref a16, .ref a17, .int 0, .int 0, .ref a18, .ref a19, .ref a20, .ref a21])), (a8, .inl (k 0, 120, .inl (tI [v20.toInt32, v22.toInt32, v24.toInt32] 0)))] H := hP
      have hD : va_D A [(a0, .inr (8, [.int 2, .int 0, .int 1, .int 0, .int 0, .int 0, .ref a1, .ref a2, .int 0, .int 0, .ref a3, .ref a4, .ref a5, .ref a6, .ref a7, .ref a8, .ref a9, .int 2, .int 0, .int 0, .ref a10, .ref a11, .ref a12, .ref a13, .int 0, .int 0, .ref a14, .ref a15, .ref a16, .ref a17, .int 0, .int 0, .ref a18, .ref a19, .ref a20, .ref a21])), (a8, .inl (k 0, 120, .inl (tI [v20.toInt32, v22.toInt32, v24.toInt32] 0)))] := hD
      refine lv_aload_n hx hb dX11_feed_58 rfl (lv_at hl 1 rfl) ?_
      refine lv_dup hx hb dX11_feed_59 rfl ?_
      refine va_get (D := D) (ci := 8) (v := .int 2) (C := RX11) (T := TX11) (N := 36) hx hb hU iX11 hown hK.1 hP 0 rfl rfl 17 (by decide) (hU _ w802) (fun _ h9 => h9) rfl dX11_feed_60 ?_
      refine lv_iconst (v := 1) hx hb dX11_feed_63 (by decide) ?_
      refine lv_iadd hx hb dX11_feed_64 (sv_i (v := 3) (by decide +kernel) ?_)
      refine va_put (D := D) (ci := 8) (v := .int 3) (ty := .int) (C := RX11) (T := TX11) (N := 36) hx hb hU iX11 tyX11 tyX11_ok nmX11 hown hK.1 hP hD hS 0 rfl rfl 17 (by decide) (hU _ w802) (fun _ h9 => h9) rfl (by decide +kernel) rfl rfl (Nat.le_of_ble_eq_true rfl) dX11_feed_65 (fun H locs hP hD hS => ?_)
      have hP : va_P D cl0 [(a0, .inr (8, [.int 2, .int 0, .int 1, .int 0, .int 0, .int 0, .ref a1, .ref a2, .int 0, .int 0, .ref a3, .ref a4, .ref a5, .ref a6, .ref a7, .ref a8, .ref a9, .int 3, .int 0, .int 0, .ref a10, .ref a11, .ref a12, .ref a13, .int 0, .int 0, .ref a14, .ref a15, .ref a16, .ref a17, .int 0, .int 0, .ref a18, .ref a19, .ref a20, .ref a21])), (a8, .inl (k 0, 120, .inl (tI [v20.toInt32, v22.toInt32, v24.toInt32] 0)))] H := hP
      have hD : va_D A [(a0, .inr (8, [.int 2, .int 0, .int 1, .int 0, .int 0, .int 0, .ref a1, .ref a2, .int 0, .int 0, .ref a3, .ref a4, .ref a5, .ref a6, .ref a7, .ref a8, .ref a9, .int 3, .int 0, .int 0, .ref a10, .ref a11, .ref a12, .ref a13, .int 0, .int 0, .ref a14, .ref a15, .ref a16, .ref a17, .int 0, .int 0, .ref a18, .ref a19, .ref a20, .ref a21])), (a8, .inl (k 0, 120, .inl (tI [v20.toInt32, v22.toInt32, v24.toInt32] 0)))] := hD
      refine lv_iinc (v := 3) (lv' := [(4, .int 3), (0, .ref a0), (1, .long x0), (3, .int 4)]) hx hb dX11_feed_68 hl (k := 0) rfl (by decide) (by decide) rfl (fun ls hl => ?_)
      refine lv_goto (tgt := 31) hx hb dX11_feed_71 (by decide) ?_
      refine lv_iload hx hb dX11_feed_31 (lv_at hl 0 rfl) ?_
      refine lv_iload_n hx hb dX11_feed_33 rfl (lv_at hl 3 rfl) ?_
      refine lv_icmp_ge (tgt := 74) hx hb dX11_feed_34 (by decide) (fun cc => absurd cc (by decide +kernel)) (fun _ => ?_)
      refine lv_aload_n hx hb dX11_feed_37 rfl (lv_at hl 1 rfl) ?_
      refine va_get (D := D) (ci := 8) (v := .ref a8) (C := RX11) (T := TX11) (N := 36) hx hb hU iX11 hown hK.1 hP 0 rfl rfl 15 (by decide) (hU _ w800) (fun _ h9 => h9) rfl dX11_feed_38 ?_
      refine lv_aload_n hx hb dX11_feed_41 rfl (lv_at hl 1 rfl) ?_
      refine va_get (D := D) (ci := 8) (v := .int 3) (C := RX11) (T := TX11) (N := 36) hx hb hU iX11 hown hK.1 hP 0 rfl rfl 17 (by decide) (hU _ w802) (fun _ h9 => h9) rfl dX11_feed_42 ?_
      refine lv_lload_n hx hb dX11_feed_45 rfl (lv_at hl 2 rfl) ?_
      refine lv_bipush (v := 8) hx hb dX11_feed_46 (by decide) ?_
      refine lv_iload hx hb dX11_feed_48 (lv_at hl 0 rfl) ?_
      refine lv_imul hx hb dX11_feed_50 (sv_i (v := 24) (by decide +kernel) ?_)
      refine lv_lshr hx hb dX11_feed_51 rfl (lv_topl (fun v25 _ => ?_))
      refine lv_ldc2 hx hb hown (hU _ w1005) dX11_feed_52 ?_
      refine lv_land hx hb dX11_feed_55 (lv_topl (fun v26 _ => ?_))
      refine lv_l2i (v := v26.toInt32) hx hb dX11_feed_56 rfl ?_
      refine st_i (j := 3) (g := tI [v20.toInt32, v22.toInt32, v24.toInt32, v26.toInt32] 0) hx hb hK hP hD hS 1 rfl (by decide +kernel) upd_tI dX11_feed_57 (fun H locs hP hD hS => ?_)
      have hP : va_P D cl0 [(a0, .inr (8, [.int 2, .int 0, .int 1, .int 0, .int 0, .int 0, .ref a1, .ref a2, .int 0, .int 0, .ref a3, .ref a4, .ref a5, .ref a6, .ref a7, .ref a8, .ref a9, .int 3, .int 0, .int 0, .ref a10, .ref a11, .ref a12, .ref a13, .int 0, .int 0, .ref a14, .ref a15, .ref a16, .ref a17, .int 0, .int 0, .ref a18, .ref a19, .ref a20, .ref a21])), (a8, .inl (k 0, 120, .inl (tI [v20.toInt32, v22.toInt32, v24.toInt32, v26.toInt32] 0)))] H := hP
      have hD : va_D A [(a0, .inr (8, [.int 2, .int 0, .int 1, .int 0, .int 0, .int 0, .ref a1, .ref a2, .int 0, .int 0, .ref a3, .ref a4, .ref a5, .ref a6, .ref a7, .ref a8, .ref a9, .int 3, .int 0, .int 0, .ref a10, .ref a11, .ref a12, .ref a13, .int 0, .int 0, .ref a14, .ref a15, .ref a16, .ref a17, .int 0, .int 0, .ref a18, .ref a19, .ref a20, .ref a21])), (a8, .inl (k 0, 120, .inl (tI [v20.toInt32, v22.toInt32, v24.toInt32, v26.toInt32] 0)))] := hD
      refine lv_aload_n hx hb dX11_feed_58 rfl (lv_at hl 1 rfl) ?_
      refine lv_dup hx hb dX11_feed_59 rfl ?_
      refine va_get (D := D) (ci := 8) (v := .int 3) (C := RX11) (T := TX11) (N := 36) hx hb hU iX11 hown hK.1 hP 0 rfl rfl 17 (by decide) (hU _ w802) (fun _ h9 => h9) rfl dX11_feed_60 ?_
      refine lv_iconst (v := 1) hx hb dX11_feed_63 (by decide) ?_
      refine lv_iadd hx hb dX11_feed_64 (sv_i (v := 4) (by decide +kernel) ?_)
      refine va_put (D := D) (ci := 8) (v := .int 4) (ty := .int) (C := RX11) (T := TX11) (N := 36) hx hb hU iX11 tyX11 tyX11_ok nmX11 hown hK.1 hP hD hS 0 rfl rfl 17 (by decide) (hU _ w802) (fun _ h9 => h9) rfl (by decide +kernel) rfl rfl (Nat.le_of_ble_eq_true rfl) dX11_feed_65 (fun H locs hP hD hS => ?_)
      have hP : va_P D cl0 [(a0, .inr (8, [.int 2, .int 0, .int 1, .int 0, .int 0, .int 0, .ref a1, .ref a2, .int 0, .int 0, .ref a3, .ref a4, .ref a5, .ref a6, .ref a7, .ref a8, .ref a9, .int 4, .int 0, .int 0, .ref a10, .ref a11, .ref a12, .ref a13, .int 0, .int 0, .ref a14, .ref a15, .ref a16, .ref a17, .int 0, .int 0, .ref a18, .ref a19, .ref a20, .ref a21])), (a8, .inl (k 0, 120, .inl (tI [v20.toInt32, v22.toInt32, v24.toInt32, v26.toInt32] 0)))] H := hP
      have hD : va_D A [(a0, .inr (8, [.int 2, .int 0, .int 1, .int 0, .int 0, .int 0, .ref a1, .ref a2, .int 0, .int 0, .ref a3, .ref a4, .ref a5, .ref a6, .ref a7, .ref a8, .ref a9, .int 4, .int 0, .int 0, .ref a10, .ref a11, .ref a12, .ref a13, .int 0, .int 0, .ref a14, .ref a15, .ref a16, .ref a17, .int 0, .int 0, .ref a18, .ref a19, .ref a20, .ref a21])), (a8, .inl (k 0, 120, .inl (tI [v20.toInt32, v22.toInt32, v24.toInt32, v26.toInt32] 0)))] := hD
      refine lv_iinc (v := 4) (lv' := [(4, .int 4), (0, .ref a0), (1, .long x0), (3, .int 4)]) hx hb dX11_feed_68 hl (k := 0) rfl (by decide) (by decide) rfl (fun ls hl => ?_)
      refine lv_goto (tgt := 31) hx hb dX11_feed_71 (by decide) ?_
      refine lv_iload hx hb dX11_feed_31 (lv_at hl 0 rfl) ?_
      refine lv_iload_n hx hb dX11_feed_33 rfl (lv_at hl 3 rfl) ?_
      refine lv_icmp_ge (tgt := 74) hx hb dX11_feed_34 (by decide) (fun _ => ?_) (fun cc => absurd (by decide +kernel) cc)
      refine lv_aload_n hx hb dX11_feed_74 rfl (lv_at hl 1 rfl) ?_
      refine va_get (D := D) (ci := 8) (v := .int 4) (C := RX11) (T := TX11) (N := 36) hx hb hU iX11 hown hK.1 hP 0 rfl rfl 17 (by decide) (hU _ w802) (fun _ h9 => h9) rfl dX11_feed_75 ?_
      exact retI (v := 4) hx hb hr hlocks hS (show (4 : Int32) = F_feed x0 4 by first | decide +kernel | (have g_4 : (4 : Int32).toInt = 4 := (by decide +kernel); unfold F_feed; (repeat (first | rw [if_pos (by omega)] | rw [if_neg (by omega)])))) dX11_feed_78
    · skip
      obtain rfl : x1 = 5 := eq32 hsp (by decide +kernel)
      refine lv_icmp_le (tgt := 28) hx hb dX11_feed_22 (by decide) (fun _ => ?_) (fun cc => absurd (by decide +kernel) cc)
      refine lv_iconst (v := 0) hx hb dX11_feed_28 (by decide) ?_
      refine lv_istore (lv' := [(4, .int 0), (0, .ref a0), (1, .long x0), (3, .int 5)]) hx hb dX11_feed_29 hl (by decide) rfl (fun ls hl => ?_)
      refine lv_iload hx hb dX11_feed_31 (lv_at hl 0 rfl) ?_
      refine lv_iload_n hx hb dX11_feed_33 rfl (lv_at hl 3 rfl) ?_
      refine lv_icmp_ge (tgt := 74) hx hb dX11_feed_34 (by decide) (fun cc => absurd cc (by decide +kernel)) (fun _ => ?_)
      refine lv_aload_n hx hb dX11_feed_37 rfl (lv_at hl 1 rfl) ?_
      refine va_get (D := D) (ci := 8) (v := .ref a8) (C := RX11) (T := TX11) (N := 36) hx hb hU iX11 hown hK.1 hP 0 rfl rfl 15 (by decide) (hU _ w800) (fun _ h9 => h9) rfl dX11_feed_38 ?_
      refine lv_aload_n hx hb dX11_feed_41 rfl (lv_at hl 1 rfl) ?_
      refine va_get (D := D) (ci := 8) (v := .int 0) (C := RX11) (T := TX11) (N := 36) hx hb hU iX11 hown hK.1 hP 0 rfl rfl 17 (by decide) (hU _ w802) (fun _ h9 => h9) rfl dX11_feed_42 ?_
      refine lv_lload_n hx hb dX11_feed_45 rfl (lv_at hl 2 rfl) ?_
      refine lv_bipush (v := 8) hx hb dX11_feed_46 (by decide) ?_
      refine lv_iload hx hb dX11_feed_48 (lv_at hl 0 rfl) ?_
      refine lv_imul hx hb dX11_feed_50 (sv_i (v := 0) (by decide +kernel) ?_)
      refine lv_lshr hx hb dX11_feed_51 rfl (lv_topl (fun v27 _ => ?_))
      refine lv_ldc2 hx hb hown (hU _ w1005) dX11_feed_52 ?_
      refine lv_land hx hb dX11_feed_55 (lv_topl (fun v28 _ => ?_))
      refine lv_l2i (v := v28.toInt32) hx hb dX11_feed_56 rfl ?_
      refine st_i (j := 0) (g := tI [v28.toInt32] 0) hx hb hK hP hD hS 1 rfl (by decide +kernel) upd_tI dX11_feed_57 (fun H locs hP hD hS => ?_)
      have hP : va_P D cl0 [(a0, .inr (8, [.int 2, .int 0, .int 1, .int 0, .int 0, .int 0, .ref a1, .ref a2, .int 0, .int 0, .ref a3, .ref a4, .ref a5, .ref a6, .ref a7, .ref a8, .ref a9, .int 0, .int 0, .int 0, .ref a10, .ref a11, .ref a12, .ref a13, .int 0, .int 0, .ref a14, .ref a15, .ref a16, .ref a17, .int 0, .int 0, .ref a18, .ref a19, .ref a20, .ref a21])), (a8, .inl (k 0, 120, .inl (tI [v28.toInt32] 0)))] H := hP
      have hD : va_D A [(a0, .inr (8, [.int 2, .int 0, .int 1, .int 0, .int 0, .int 0, .ref a1, .ref a2, .int 0, .int 0, .ref a3, .ref a4, .ref a5, .ref a6, .ref a7, .ref a8, .ref a9, .int 0, .int 0, .int 0, .ref a10, .ref a11, .ref a12, .ref a13, .int 0, .int 0, .ref a14, .ref a15, .ref a16, .ref a17, .int 0, .int 0, .ref a18, .ref a19, .ref a20, .ref a21])), (a8, .inl (k 0, 120, .inl (tI [v28.toInt32] 0)))] := hD
      refine lv_aload_n hx hb dX11_feed_58 rfl (lv_at hl 1 rfl) ?_
      refine lv_dup hx hb dX11_feed_59 rfl ?_
      refine va_get (D := D) (ci := 8) (v := .int 0) (C := RX11) (T := TX11) (N := 36) hx hb hU iX11 hown hK.1 hP 0 rfl rfl 17 (by decide) (hU _ w802) (fun _ h9 => h9) rfl dX11_feed_60 ?_
      refine lv_iconst (v := 1) hx hb dX11_feed_63 (by decide) ?_
      refine lv_iadd hx hb dX11_feed_64 (sv_i (v := 1) (by decide +kernel) ?_)
      refine va_put (D := D) (ci := 8) (v := .int 1) (ty := .int) (C := RX11) (T := TX11) (N := 36) hx hb hU iX11 tyX11 tyX11_ok nmX11 hown hK.1 hP hD hS 0 rfl rfl 17 (by decide) (hU _ w802) (fun _ h9 => h9) rfl (by decide +kernel) rfl rfl (Nat.le_of_ble_eq_true rfl) dX11_feed_65 (fun H locs hP hD hS => ?_)
      have hP : va_P D cl0 [(a0, .inr (8, [.int 2, .int 0, .int 1, .int 0, .int 0, .int 0, .ref a1, .ref a2, .int 0, .int 0, .ref a3, .ref a4, .ref a5, .ref a6, .ref a7, .ref a8, .ref a9, .int 1, .int 0, .int 0, .ref a10, .ref a11, .ref a12, .ref a13, .int 0, .int 0, .ref a14, .ref a15, .ref a16, .ref a17, .int 0, .int 0, .ref a18, .ref a19, .ref a20, .ref a21])), (a8, .inl (k 0, 120, .inl (tI [v28.toInt32] 0)))] H := hP
      have hD : va_D A [(a0, .inr (8, [.int 2, .int 0, .int 1, .int 0, .int 0, .int 0, .ref a1, .ref a2, .int 0, .int 0, .ref a3, .ref a4, .ref a5, .ref a6, .ref a7, .ref a8, .ref a9, .int 1, .int 0, .int 0, .ref a10, .ref a11, .ref a12, .ref a13, .int 0, .int 0, .ref a14, .ref a15, .ref a16, .ref a17, .int 0, .int 0, .ref a18, .ref a19, .ref a20, .ref a21])), (a8, .inl (k 0, 120, .inl (tI [v28.toInt32] 0)))] := hD
      refine lv_iinc (v := 1) (lv' := [(4, .int 1), (0, .ref a0), (1, .long x0), (3, .int 5)]) hx hb dX11_feed_68 hl (k := 0) rfl (by decide) (by decide) rfl (fun ls hl => ?_)
      refine lv_goto (tgt := 31) hx hb dX11_feed_71 (by decide) ?_
      refine lv_iload hx hb dX11_feed_31 (lv_at hl 0 rfl) ?_
      refine lv_iload_n hx hb dX11_feed_33 rfl (lv_at hl 3 rfl) ?_
      refine lv_icmp_ge (tgt := 74) hx hb dX11_feed_34 (by decide) (fun cc => absurd cc (by decide +kernel)) (fun _ => ?_)
      refine lv_aload_n hx hb dX11_feed_37 rfl (lv_at hl 1 rfl) ?_
      refine va_get (D := D) (ci := 8) (v := .ref a8) (C := RX11) (T := TX11) (N := 36) hx hb hU iX11 hown hK.1 hP 0 rfl rfl 15 (by decide) (hU _ w800) (fun _ h9 => h9) rfl dX11_feed_38 ?_
      refine lv_aload_n hx hb dX11_feed_41 rfl (lv_at hl 1 rfl) ?_
      refine va_get (D := D) (ci := 8) (v := .int 1) (C := RX11) (T := TX11) (N := 36) hx hb hU iX11 hown hK.1 hP 0 rfl rfl 17 (by decide) (hU _ w802) (fun _ h9 => h9) rfl dX11_feed_42 ?_
      refine lv_lload_n hx hb dX11_feed_45 rfl (lv_at hl 2 rfl) ?_
      refine lv_bipush (v := 8) hx hb dX11_feed_46 (by decide) ?_
      refine lv_iload hx hb dX11_feed_48 (lv_at hl 0 rfl) ?_
      refine lv_imul hx hb dX11_feed_50 (sv_i (v := 8) (by decide +kernel) ?_)
      refine lv_lshr hx hb dX11_feed_51 rfl (lv_topl (fun v29 _ => ?_))
      refine lv_ldc2 hx hb hown (hU _ w1005) dX11_feed_52 ?_
      refine lv_land hx hb dX11_feed_55 (lv_topl (fun v30 _ => ?_))
      refine lv_l2i (v := v30.toInt32) hx hb dX11_feed_56 rfl ?_
      refine st_i (j := 1) (g := tI [v28.toInt32, v30.toInt32] 0) hx hb hK hP hD hS 1 rfl (by decide +kernel) upd_tI dX11_feed_57 (fun H locs hP hD hS => ?_)
      have hP : va_P D cl0 [(a0, .inr (8, [.int 2, .int 0, .int 1, .int 0, .int 0, .int 0, .ref a1, .ref a2, .int 0, .int 0, .ref a3, .ref a4, .ref a5, .ref a6, .ref a7, .ref a8, .ref a9, .int 1, .int 0, .int 0, .ref a10, .ref a11, .ref a12, .ref a13, .int 0, .int 0, .ref a14, .ref a15, .ref a16, .ref a17, .int 0, .int 0, .ref a18, .ref a19, .ref a20, .ref a21])), (a8, .inl (k 0, 120, .inl (tI [v28.toInt32, v30.toInt32] 0)))] H := hP
      have hD : va_D A [(a0, .inr (8, [.int 2, .int 0, .int 1, .int 0, .int 0, .int 0, .ref a1, .ref a2, .int 0, .int 0, .ref a3, .ref a4, .ref a5, .ref a6, .ref a7, .ref a8, .ref a9, .int 1, .int 0, .int 0, .ref a10, .ref a11, .ref a12, .ref a13, .int 0, .int 0, .ref a14, .ref a15, .ref a16, .ref a17, .int 0, .int 0, .ref a18, .ref a19, .ref a20, .ref a21])), (a8, .inl (k 0, 120, .inl (tI [v28.toInt32, v30.toInt32] 0)))] := hD
      refine lv_aload_n hx hb dX11_feed_58 rfl (lv_at hl 1 rfl) ?_
      refine lv_dup hx hb dX11_feed_59 rfl ?_
      refine va_get (D := D) (ci := 8) (v := .int 1) (C := RX11) (T := TX11) (N := 36) hx hb hU iX11 hown hK.1 hP 0 rfl rfl 17 (by decide) (hU _ w802) (fun _ h9 => h9) rfl dX11_feed_60 ?_
      refine lv_iconst (v := 1) hx hb dX11_feed_63 (by decide) ?_
      refine lv_iadd hx hb dX11_feed_64 (sv_i (v := 2) (by decide +kernel) ?_)
      refine va_put (D := D) (ci := 8) (v := .int 2) (ty := .int) (C := RX11) (T := TX11) (N := 36) hx hb hU iX11 tyX11 tyX11_ok nmX11 hown hK.1 hP hD hS 0 rfl rfl 17 (by decide) (hU _ w802) (fun _ h9 => h9) rfl (by decide +kernel) rfl rfl (Nat.le_of_ble_eq_true rfl) dX11_feed_65 (fun H locs hP hD hS => ?_)
      have hP : va_P D cl0 [(a0, .inr (8, [.int 2, .int 0, .int 1, .int 0, .int 0, .int 0, .ref a1, .ref a2, .int 0, .int 0, .ref a3, .ref a4, .ref a5, .ref a6, .ref a7, .ref a8, .ref a9, .int 2, .int 0, .int 0, .ref a10, .ref a11, .ref a12, .ref a13, .int 0, .int 0, .ref a14, .ref a15, .ref a16, .ref a17, .int 0, .int 0, .ref a18, .ref a19, .ref a20, .ref a21])), (a8, .inl (k 0, 120, .inl (tI [v28.toInt32, v30.toInt32] 0)))] H := hP
      have hD : va_D A [(a0, .inr (8, [.int 2, .int 0, .int 1, .int 0, .int 0, .int 0, .ref a1, .ref a2, .int 0, .int 0, .ref a3, .ref a4, .ref a5, .ref a6, .ref a7, .ref a8, .ref a9, .int 2, .int 0, .int 0, .ref a10, .ref a11, .ref a12, .ref a13, .int 0, .int 0, .ref a14, .ref a15, .ref a16, .ref a17, .int 0, .int 0, .ref a18, .ref a19, .ref a20, .ref a21])), (a8, .inl (k 0, 120, .inl (tI [v28.toInt32, v30.toInt32] 0)))] := hD
      refine lv_iinc (v := 2) (lv' := [(4, .int 2), (0, .ref a0), (1, .long x0), (3, .int 5)]) hx hb dX11_feed_68 hl (k := 0) rfl (by decide) (by decide) rfl (fun ls hl => ?_)
      refine lv_goto (tgt := 31) hx hb dX11_feed_71 (by decide) ?_
      refine lv_iload hx hb dX11_feed_31 (lv_at hl 0 rfl) ?_
      refine lv_iload_n hx hb dX11_feed_33 rfl (lv_at hl 3 rfl) ?_
      refine lv_icmp_ge (tgt := 74) hx hb dX11_feed_34 (by decide) (fun cc => absurd cc (by decide +kernel)) (fun _ => ?_)
      refine lv_aload_n hx hb dX11_feed_37 rfl (lv_at hl 1 rfl) ?_
      refine va_get (D := D) (ci := 8) (v := .ref a8) (C := RX11) (T := TX11) (N := 36) hx hb hU iX11 hown hK.1 hP 0 rfl rfl 15 (by decide) (hU _ w800) (fun _ h9 => h9) rfl dX11_feed_38 ?_
      refine lv_aload_n hx hb dX11_feed_41 rfl (lv_at hl 1 rfl) ?_
      refine va_get (D := D) (ci := 8) (v := .int 2) (C := RX11) (T := TX11) (N := 36) hx hb hU iX11 hown hK.1 hP 0 rfl rfl 17 (by decide) (hU _ w802) (fun _ h9 => h9) rfl dX11_feed_42 ?_
      refine lv_lload_n hx hb dX11_feed_45 rfl (lv_at hl 2 rfl) ?_
      refine lv_bipush (v := 8) hx hb dX11_feed_46 (by decide) ?_
      refine lv_iload hx hb dX11_feed_48 (lv_at hl 0 rfl) ?_
      refine lv_imul hx hb dX11_feed_50 (sv_i (v := 16) (by decide +kernel) ?_)
      refine lv_lshr hx hb dX11_feed_51 rfl (lv_topl (fun v31 _ => ?_))
      refine lv_ldc2 hx hb hown (hU _ w1005) dX11_feed_52 ?_
      refine lv_land hx hb dX11_feed_55 (lv_topl (fun v32 _ => ?_))
      refine lv_l2i (v := v32.toInt32) hx hb dX11_feed_56 rfl ?_
      refine st_i (j := 2) (g := tI [v28.toInt32, v30.toInt32, v32.toInt32] 0) hx hb hK hP hD hS 1 rfl (by decide +kernel) upd_tI dX11_feed_57 (fun H locs hP hD hS => ?_)
      have hP : va_P D cl0 [(a0, .inr (8, [.int 2, .int 0, .int 1, .int 0, .int 0, .int 0, .ref a1, .ref a2, .int 0, .int 0, .ref a3, .ref a4, .ref a5, .ref a6, .ref a7, .ref a8, .ref a9, .int 2, .int 0, .int 0, .ref a10, .ref a11, .ref a12, .ref a13, .int 0, .int 0, .ref a14, .ref a15, .ref a16, .ref a17, .int 0, .int 0, .ref a18, .ref a19, .ref a20, .ref a21])), (a8, .inl (k 0, 120, .inl (tI [v28.toInt32, v30.toInt32, v32.toInt32] 0)))] H := hP
      have hD : va_D A [(a0, .inr (8, [.int 2, .int 0, .int 1, .int 0, .int 0, .int 0, .ref a1, .ref a2, .int 0, .int 0, .ref a3, .ref a4, .ref a5, .ref a6, .ref a7, .ref a8, .ref a9, .int 2, .int 0, .int 0, .ref a10, .ref a11, .ref a12, .ref a13, .int 0, .int 0, .ref a14, .ref a15, .ref a16, .ref a17, .int 0, .int 0, .ref a18, .ref a19, .ref a20, .ref a21])), (a8, .inl (k 0, 120, .inl (tI [v28.toInt32, v30.toInt32, v32.toInt32] 0)))] := hD
      refine lv_aload_n hx hb dX11_feed_58 rfl (lv_at hl 1 rfl) ?_
      refine lv_dup hx hb dX11_feed_59 rfl ?_
      refine va_get (D := D) (ci := 8) (v := .int 2) (C := RX11) (T := TX11) (N := 36) hx hb hU iX11 hown hK.1 hP 0 rfl rfl 17 (by decide) (hU _ w802) (fun _ h9 => h9) rfl dX11_feed_60 ?_
      refine lv_iconst (v := 1) hx hb dX11_feed_63 (by decide) ?_
      refine lv_iadd hx hb dX11_feed_64 (sv_i (v := 3) (by decide +kernel) ?_)
      refine va_put (D := D) (ci := 8) (v := .int 3) (ty := .int) (C := RX11) (T := TX11) (N := 36) hx hb hU iX11 tyX11 tyX11_ok nmX11 hown hK.1 hP hD hS 0 rfl rfl 17 (by decide) (hU _ w802) (fun _ h9 => h9) rfl (by decide +kernel) rfl rfl (Nat.le_of_ble_eq_true rfl) dX11_feed_65 (fun H locs hP hD hS => ?_)
      have hP : va_P D cl0 [(a0, .inr (8, [.int 2, .int 0, .int 1, .int 0, .int 0, .int 0, .ref a1, .ref a2, .int 0, .int 0, .ref a3, .ref a4, .ref a5, .ref a6, .ref a7, .ref a8, .ref a9, .int 3, .int 0, .int 0, .ref a10, .ref a11, .ref a12, .ref a13, .int 0, .int 0, .ref a14, .ref a15, .ref a16, .ref a17, .int 0, .int 0, .ref a18, .ref a19, .ref a20, .ref a21])), (a8, .inl (k 0, 120, .inl (tI [v28.toInt32, v30.toInt32, v32.toInt32] 0)))] H := hP
      have hD : va_D A [(a0, .inr (8, [.int 2, .int 0, .int 1, .int 0, .int 0, .int 0, .ref a1, .ref a2, .int 0, .int 0, .ref a3, .ref a4, .ref a5, .ref a6, .ref a7, .ref a8, .ref a9, .int 3, .int 0, .int 0, .ref a10, .ref a11, .ref a12, .ref a13, .int 0, .int 0, .ref a14, .ref a15, .ref a16, .ref a17, .int 0, .int 0, .ref a18, .ref a19, .ref a20, .ref a21])), (a8, .inl (k 0, 120, .inl (tI [v28.toInt32, v30.toInt32, v32.toInt32] 0)))] := hD
      refine lv_iinc (v := 3) (lv' := [(4, .int 3), (0, .ref a0), (1, .long x0), (3, .int 5)]) hx hb dX11_feed_68 hl (k := 0) rfl (by decide) (by decide) rfl (fun ls hl => ?_)
      refine lv_goto (tgt := 31) hx hb dX11_feed_71 (by decide) ?_
      refine lv_iload hx hb dX11_feed_31 (lv_at hl 0 rfl) ?_
      refine lv_iload_n hx hb dX11_feed_33 rfl (lv_at hl 3 rfl) ?_
      refine lv_icmp_ge (tgt := 74) hx hb dX11_feed_34 (by decide) (fun cc => absurd cc (by decide +kernel)) (fun _ => ?_)
      refine lv_aload_n hx hb dX11_feed_37 rfl (lv_at hl 1 rfl) ?_
      refine va_get (D := D) (ci := 8) (v := .ref a8) (C := RX11) (T := TX11) (N := 36) hx hb hU iX11 hown hK.1 hP 0 rfl rfl 15 (by decide) (hU _ w800) (fun _ h9 => h9) rfl dX11_feed_38 ?_
      refine lv_aload_n hx hb dX11_feed_41 rfl (lv_at hl 1 rfl) ?_
      refine va_get (D := D) (ci := 8) (v := .int 3) (C := RX11) (T := TX11) (N := 36) hx hb hU iX11 hown hK.1 hP 0 rfl rfl 17 (by decide) (hU _ w802) (fun _ h9 => h9) rfl dX11_feed_42 ?_
      refine lv_lload_n hx hb dX11_feed_45 rfl (lv_at hl 2 rfl) ?_
      refine lv_bipush (v := 8) hx hb dX11_feed_46 (by decide) ?_
      refine lv_iload hx hb dX11_feed_48 (lv_at hl 0 rfl) ?_
      refine lv_imul hx hb dX11_feed_50 (sv_i (v := 24) (by decide +kernel) ?_)
      refine lv_lshr hx hb dX11_feed_51 rfl (lv_topl (fun v33 _ => ?_))
      refine lv_ldc2 hx hb hown (hU _ w1005) dX11_feed_52 ?_
      refine lv_land hx hb dX11_feed_55 (lv_topl (fun v34 _ => ?_))
      refine lv_l2i (v := v34.toInt32) hx hb dX11_feed_56 rfl ?_
      refine st_i (j := 3) (g := tI [v28.toInt32, v30.toInt32, v32.toInt32, v34.toInt32] 0) hx hb hK hP hD hS 1 rfl (by decide +kernel) upd_tI dX11_feed_57 (fun H locs hP hD hS => ?_)
      have hP : va_P D cl0 [(a0, .inr (8, [.int 2, .int 0, .int 1, .int 0, .int 0, .int 0, .ref a1, .ref a2, .int 0, .int 0, .ref a3, .ref a4, .ref a5, .ref a6, .ref a7, .ref a8, .ref a9, .int 3, .int 0, .int 0, .ref a10, .ref a11, .ref a12, .ref a13, .int 0, .int 0, .ref a14, .ref a15, .ref a16, .ref a17, .int 0, .int 0, .ref a18, .ref a19, .ref a20, .ref a21])), (a8, .inl (k 0, 120, .inl (tI [v28.toInt32, v30.toInt32, v32.toInt32, v34.toInt32] 0)))] H := hP
      have hD : va_D A [(a0, .inr (8, [.int 2, .int 0, .int 1, .int 0, .int 0, .int 0, .ref a1, .ref a2, .int 0, .int 0, .ref a3, .ref a4, .ref a5, .ref a6, .ref a7, .ref a8, .ref a9, .int 3, .int 0, .int 0, .ref a10, .ref a11, .ref a12, .ref a13, .int 0, .int 0, .ref a14, .ref a15, .ref a16, .ref a17, .int 0, .int 0, .ref a18, .ref a19, .ref a20, .ref a21])), (a8, .inl (k 0, 120, .inl (tI [v28.toInt32, v30.toInt32, v32.toInt32, v34.toInt32] 0)))] := hD
      refine lv_aload_n hx hb dX11_feed_58 rfl (lv_at hl 1 rfl) ?_
      refine lv_dup hx hb dX11_feed_59 rfl ?_
      refine va_get (D := D) (ci := 8) (v := .int 3) (C := RX11) (T := TX11) (N := 36) hx hb hU iX11 hown hK.1 hP 0 rfl rfl 17 (by decide) (hU _ w802) (fun _ h9 => h9) rfl dX11_feed_60 ?_
      refine lv_iconst (v := 1) hx hb dX11_feed_63 (by decide) ?_
      refine lv_iadd hx hb dX11_feed_64 (sv_i (v := 4) (by decide +kernel) ?_)
      refine va_put (D := D) (ci := 8) (v := .int 4) (ty := .int) (C := RX11) (T := TX11) (N := 36) hx hb hU iX11 tyX11 tyX11_ok nmX11 hown hK.1 hP hD hS 0 rfl rfl 17 (by decide) (hU _ w802) (fun _ h9 => h9) rfl (by decide +kernel) rfl rfl (Nat.le_of_ble_eq_true rfl) dX11_feed_65 (fun H locs hP hD hS => ?_)
      have hP : va_P D cl0 [(a0, .inr (8, [.int 2, .int 0, .int 1, .int 0, .int 0, .int 0, .ref a1, .ref a2, .int 0, .int 0, .ref a3, .ref a4, .ref a5, .ref a6, .ref a7, .ref a8, .ref a9, .int 4, .int 0, .int 0, .ref a10, .ref a11, .ref a12, .ref a13, .int 0, .int 0, .ref a14, .ref a15, .ref a16, .ref a17, .int 0, .int 0, .ref a18, .ref a19, .ref a20, .ref a21])), (a8, .inl (k 0, 120, .inl (tI [v28.toInt32, v30.toInt32, v32.toInt32, v34.toInt32] 0)))] H := hP
      have hD : va_D A [(a0, .inr (8, [.int 2, .int 0, .int 1, .int 0, .int 0, .int 0, .ref a1, .ref a2, .int 0, .int 0, .ref a3, .ref a4, .ref a5, .ref a6, .ref a7, .ref a8, .ref a9, .int 4, .int 0, .int 0, .ref a10, .ref a11, .ref a12, .ref a13, .int 0, .int 0, .ref a14, .ref a15, .ref a16, .ref a17, .int 0, .int 0, .ref a18, .ref a19, .ref a20, .ref a21])), (a8, .inl (k 0, 120, .inl (tI [v28.toInt32, v30.toInt32, v32.toInt32, v34.toInt32] 0)))] := hD
      refine lv_iinc (v := 4) (lv' := [(4, .int 4), (0, .ref a0), (1, .long x0), (3, .int 5)]) hx hb dX11_feed_68 hl (k := 0) rfl (by decide) (by decide) rfl (fun ls hl => ?_)
      refine lv_goto (tgt := 31) hx hb dX11_feed_71 (by decide) ?_
      refine lv_iload hx hb dX11_feed_31 (lv_at hl 0 rfl) ?_
      refine lv_iload_n hx hb dX11_feed_33 rfl (lv_at hl 3 rfl) ?_
      refine lv_icmp_ge (tgt := 74) hx hb dX11_feed_34 (by decide) (fun cc => absurd cc (by decide +kernel)) (fun _ => ?_)
      refine lv_aload_n hx hb dX11_feed_37 rfl (lv_at hl 1 rfl) ?_
      refine va_get (D := D) (ci := 8) (v := .ref a8) (C := RX11) (T := TX11) (N := 36) hx hb hU iX11 hown hK.1 hP 0 rfl rfl 15 (by decide) (hU _ w800) (fun _ h9 => h9) rfl dX11_feed_38 ?_
      refine lv_aload_n hx hb dX11_feed_41 rfl (lv_at hl 1 rfl) ?_
      refine va_get (D := D) (ci := 8) (v := .int 4) (C := RX11) (T := TX11) (N := 36) hx hb hU iX11 hown hK.1 hP 0 rfl rfl 17 (by decide) (hU _ w802) (fun _ h9 => h9) rfl dX11_feed_42 ?_
      refine lv_lload_n hx hb dX11_feed_45 rfl (lv_at hl 2 rfl) ?_
      refine lv_bipush (v := 8) hx hb dX11_feed_46 (by decide) ?_
      refine lv_iload hx hb dX11_feed_48 (lv_at hl 0 rfl) ?_
      refine lv_imul hx hb dX11_feed_50 (sv_i (v := 32) (by decide +kernel) ?_)
      refine lv_lshr hx hb dX11_feed_51 rfl (lv_topl (fun v35 _ => ?_))
      refine lv_ldc2 hx hb hown (hU _ w1005) dX11_feed_52 ?_
      refine lv_land hx hb dX11_feed_55 (lv_topl (fun v36 _ => ?_))
      refine lv_l2i (v := v36.toInt32) hx hb dX11_feed_56 rfl ?_
      refine st_i (j := 4) (g := tI [v28.toInt32, v30.toInt32, v32.toInt32, v34.toInt32, v36.toInt32] 0) hx hb hK hP hD hS 1 rfl (by decide +kernel) upd_tI dX11_feed_57 (fun H locs hP hD hS => ?_)
      have hP : va_P D cl0 [(a0, .inr (8, [.int 2, .int 0, .int 1, .int 0, .int 0, .int 0, .ref a1, .ref a2, .int 0, .int 0, .ref a3, .ref a4, .ref a5, .ref a6, .ref a7, .ref a8, .ref a9, .int 4, .int 0, .int 0, .ref a10, .ref a11, .ref a12, .ref a13, .int 0, .int 0, .ref a14, .ref a15, .ref a16, .ref a17, .int 0, .int 0, .ref a18, .ref a19, .ref a20, .ref a21])), (a8, .inl (k 0, 120, .inl (tI [v28.toInt32, v30.toInt32, v32.toInt32, v34.toInt32, v36.toInt32] 0)))] H := hP
      have hD : va_D A [(a0, .inr (8, [.int 2, .int 0, .int 1, .int 0, .int 0, .int 0, .ref a1, .ref a2, .int 0, .int 0, .ref a3, .ref a4, .ref a5, .ref a6, .ref a7, .ref a8, .ref a9, .int 4, .int 0, .int 0, .ref a10, .ref a11, .ref a12, .ref a13, .int 0, .int 0, .ref a14, .ref a15, .ref a16, .ref a17, .int 0, .int 0, .ref a18, .ref a19, .ref a20, .ref a21])), (a8, .inl (k 0, 120, .inl (tI [v28.toInt32, v30.toInt32, v32.toInt32, v34.toInt32, v36.toInt32] 0)))] := hD
      refine lv_aload_n hx hb dX11_feed_58 rfl (lv_at hl 1 rfl) ?_
      refine lv_dup hx hb dX11_feed_59 rfl ?_
      refine va_get (D := D) (ci := 8) (v := .int 4) (C := RX11) (T := TX11) (N := 36) hx hb hU iX11 hown hK.1 hP 0 rfl rfl 17 (by decide) (hU _ w802) (fun _ h9 => h9) rfl dX11_feed_60 ?_
      refine lv_iconst (v := 1) hx hb dX11_feed_63 (by decide) ?_
      refine lv_iadd hx hb dX11_feed_64 (sv_i (v := 5) (by decide +kernel) ?_)
      refine va_put (D := D) (ci := 8) (v := .int 5) (ty := .int) (C := RX11) (T := TX11) (N := 36) hx hb hU iX11 tyX11 tyX11_ok nmX11 hown hK.1 hP hD hS 0 rfl rfl 17 (by decide) (hU _ w802) (fun _ h9 => h9) rfl (by decide +kernel) rfl rfl (Nat.le_of_ble_eq_true rfl) dX11_feed_65 (fun H locs hP hD hS => ?_)
      have hP : va_P D cl0 [(a0, .inr (8, [.int 2, .int 0, .int 1, .int 0, .int 0, .int 0, .ref a1, .ref a2, .int 0, .int 0, .ref a3, .ref a4, .ref a5, .ref a6, .ref a7, .ref a8, .ref a9, .int 5, .int 0, .int 0, .ref a10, .ref a11, .ref a12, .ref a13, .int 0, .int 0, .ref a14, .ref a15, .ref a16, .ref a17, .int 0, .int 0, .ref a18, .ref a19, .ref a20, .ref a21])), (a8, .inl (k 0, 120, .inl (tI [v28.toInt32, v30.toInt32, v32.toInt32, v34.toInt32, v36.toInt32] 0)))] H := hP
      have hD : va_D A [(a0, .inr (8, [.int 2, .int 0, .int 1, .int 0, .int 0, .int 0, .ref a1, .ref a2, .int 0, .int 0, .ref a3, .ref a4, .ref a5, .ref a6, .ref a7, .ref a8, .ref a9, .int 5, .int 0, .int 0, .ref a10, .ref a11, .ref a12, .ref a13, .int 0, .int 0, .ref a14, .ref a15, .ref a16, .ref a17, .int 0, .int 0, .ref a18, .ref a19, .ref a20, .ref a21])), (a8, .inl (k 0, 120, .inl (tI [v28.toInt32, v30.toInt32, v32.toInt32, v34.toInt32, v36.toInt32] 0)))] := hD
      refine lv_iinc (v := 5) (lv' := [(4, .int 5), (0, .ref a0), (1, .long x0), (3, .int 5)]) hx hb dX11_feed_68 hl (k := 0) rfl (by decide) (by decide) rfl (fun ls hl => ?_)
      refine lv_goto (tgt := 31) hx hb dX11_feed_71 (by decide) ?_
      refine lv_iload hx hb dX11_feed_31 (lv_at hl 0 rfl) ?_
      refine lv_iload_n hx hb dX11_feed_33 rfl (lv_at hl 3 rfl) ?_
      refine lv_icmp_ge (tgt := 74) hx hb dX11_feed_34 (by decide) (fun _ => ?_) (fun cc => absurd (by decide +kernel) cc)
      refine lv_aload_n hx hb dX11_feed_74 rfl (lv_at hl 1 rfl) ?_
      refine va_get (D := D) (ci := 8) (v := .int 5) (C := RX11) (T := TX11) (N := 36) hx hb hU iX11 hown hK.1 hP 0 rfl rfl 17 (by decide) (hU _ w802) (fun _ h9 => h9) rfl dX11_feed_75 ?_
      exact retI (v := 5) hx hb hr hlocks hS (show (5 : Int32) = F_feed x0 5 by first | decide +kernel | (have g_5 : (5 : Int32).toInt = 5 := (by decide +kernel); unfold F_feed; (repeat (first | rw [if_pos (by omega)] | rw [if_neg (by omega)])))) dX11_feed_78
    · skip
      obtain rfl : x1 = 6 := eq32 hsp (by decide +kernel)
      refine lv_icmp_le (tgt := 28) hx hb dX11_feed_22 (by decide) (fun _ => ?_) (fun cc => absurd (by decide +kernel) cc)
      refine lv_iconst (v := 0) hx hb dX11_feed_28 (by decide) ?_
      refine lv_istore (lv' := [(4, .int 0), (0, .ref a0), (1, .long x0), (3, .int 6)]) hx hb dX11_feed_29 hl (by decide) rfl (fun ls hl => ?_)
      refine lv_iload hx hb dX11_feed_31 (lv_at hl 0 rfl) ?_
      refine lv_iload_n hx hb dX11_feed_33 rfl (lv_at hl 3 rfl) ?_
      refine lv_icmp_ge (tgt := 74) hx hb dX11_feed_34 (by decide) (fun cc => absurd cc (by decide +kernel)) (fun _ => ?_)
      refine lv_aload_n hx hb dX11_feed_37 rfl (lv_at hl 1 rfl) ?_
      refine va_get (D := D) (ci := 8) (v := .ref a8) (C := RX11) (T := TX11) (N := 36) hx hb hU iX11 hown hK.1 hP 0 rfl rfl 15 (by decide) (hU _ w800) (fun _ h9 => h9) rfl dX11_feed_38 ?_
      refine lv_aload_n hx hb dX11_feed_41 rfl (lv_at hl 1 rfl) ?_
      refine va_get (D := D) (ci := 8) (v := .int 0) (C := RX11) (T := TX11) (N := 36) hx hb hU iX11 hown hK.1 hP 0 rfl rfl 17 (by decide) (hU _ w802) (fun _ h9 => h9) rfl dX11_feed_42 ?_
      refine lv_lload_n hx hb dX11_feed_45 rfl (lv_at hl 2 rfl) ?_
      refine lv_bipush (v := 8) hx hb dX11_feed_46 (by decide) ?_
      refine lv_iload hx hb dX11_feed_48 (lv_at hl 0 rfl) ?_
      refine lv_imul hx hb dX11_feed_50 (sv_i (v := 0) (by decide +kernel) ?_)
      refine lv_lshr hx hb dX11_feed_51 rfl (lv_topl (fun v37 _ => ?_))
      refine lv_ldc2 hx hb hown (hU _ w1005) dX11_feed_52 ?_
      refine lv_land hx hb dX11_feed_55 (lv_topl (fun v38 _ => ?_))
      refine lv_l2i (v := v38.toInt32) hx hb dX11_feed_56 rfl ?_
      refine st_i (j := 0) (g := tI [v38.toInt32] 0) hx hb hK hP hD hS 1 rfl (by decide +kernel) upd_tI dX11_feed_57 (fun H locs hP hD hS => ?_)
      have hP : va_P D cl0 [(a0, .inr (8, [.int 2, .int 0, .int 1, .int 0, .int 0, .int 0, .ref a1, .ref a2, .int 0, .int 0, .ref a3, .ref a4, .ref a5, .ref a6, .ref a7, .ref a8, .ref a9, .int 0, .int 0, .int 0, .ref a10, .ref a11, .ref a12, .ref a13, .int 0, .int 0, .ref a14, .ref a15, .ref a16, .ref a17, .int 0, .int 0, .ref a18, .ref a19, .ref a20, .ref a21])), (a8, .inl (k 0, 120, .inl (tI [v38.toInt32] 0)))] H := hP
      have hD : va_D A [(a0, .inr (8, [.int 2, .int 0, .int 1, .int 0, .int 0, .int 0, .ref a1, .ref a2, .int 0, .int 0, .ref a3, .ref a4, .ref a5, .ref a6, .ref a7, .ref a8, .ref a9, .int 0, .int 0, .int 0, .ref a10, .ref a11, .ref a12, .ref a13, .int 0, .int 0, .ref a14, .ref a15, .ref a16, .ref a17, .int 0, .int 0, .ref a18, .ref a19, .ref a20, .ref a21])), (a8, .inl (k 0, 120, .inl (tI [v38.toInt32] 0)))] := hD
      refine lv_aload_n hx hb dX11_feed_58 rfl (lv_at hl 1 rfl) ?_
      refine lv_dup hx hb dX11_feed_59 rfl ?_
      refine va_get (D := D) (ci := 8) (v := .int 0) (C := RX11) (T := TX11) (N := 36) hx hb hU iX11 hown hK.1 hP 0 rfl rfl 17 (by decide) (hU _ w802) (fun _ h9 => h9) rfl dX11_feed_60 ?_
      refine lv_iconst (v := 1) hx hb dX11_feed_63 (by decide) ?_
      refine lv_iadd hx hb dX11_feed_64 (sv_i (v := 1) (by decide +kernel) ?_)
      refine va_put (D := D) (ci := 8) (v := .int 1) (ty := .int) (C := RX11) (T := TX11) (N := 36) hx hb hU iX11 tyX11 tyX11_ok nmX11 hown hK.1 hP hD hS 0 rfl rfl 17 (by decide) (hU _ w802) (fun _ h9 => h9) rfl (by decide +kernel) rfl rfl (Nat.le_of_ble_eq_true rfl) dX11_feed_65 (fun H locs hP hD hS => ?_)
      have hP : va_P D cl0 [(a0, .inr (8, [.int 2, .int 0, .int 1, .int 0, .int 0, .int 0, .ref a1, .ref a2, .int 0, .int 0, .ref a3, .ref a4, .ref a5, .ref a6, .ref a7, .ref a8, .ref a9, .int 1, .int 0, .int 0, .ref a10, .ref a11, .ref a12, .ref a13, .int 0, .int 0, .ref a14, .ref a15, .ref a16, .ref a17, .int 0, .int 0, .ref a18, .ref a19, .ref a20, .ref a21])), (a8, .inl (k 0, 120, .inl (tI [v38.toInt32] 0)))] H := hP
      have hD : va_D A [(a0, .inr (8, [.int 2, .int 0, .int 1, .int 0, .int 0, .int 0, .ref a1, .ref a2, .int 0, .int 0, .ref a3, .ref a4, .ref a5, .ref a6, .ref a7, .ref a8, .ref a9, .int 1, .int 0, .int 0, .ref a10, .ref a11, .ref a12, .ref a13, .int 0, .int 0, .ref a14, .ref a15, .ref a16, .ref a17, .int 0, .int 0, .ref a18, .ref a19, .ref a20, .ref a21])), (a8, .inl (k 0, 120, .inl (tI [v38.toInt32] 0)))] := hD
      refine lv_iinc (v := 1) (lv' := [(4, .int 1), (0, .ref a0), (1, .long x0), (3, .int 6)]) hx hb dX11_feed_68 hl (k := 0) rfl (by decide) (by decide) rfl (fun ls hl => ?_)
      refine lv_goto (tgt := 31) hx hb dX11_feed_71 (by decide) ?_
      refine lv_iload hx hb dX11_feed_31 (lv_at hl 0 rfl) ?_
      refine lv_iload_n hx hb dX11_feed_33 rfl (lv_at hl 3 rfl) ?_
      refine lv_icmp_ge (tgt := 74) hx hb dX11_feed_34 (by decide) (fun cc => absurd cc (by decide +kernel)) (fun _ => ?_)
      refine lv_aload_n hx hb dX11_feed_37 rfl (lv_at hl 1 rfl) ?_
      refine va_get (D := D) (ci := 8) (v := .ref a8) (C := RX11) (T := TX11) (N := 36) hx hb hU iX11 hown hK.1 hP 0 rfl rfl 15 (by decide) (hU _ w800) (fun _ h9 => h9) rfl dX11_feed_38 ?_
      refine lv_aload_n hx hb dX11_feed_41 rfl (lv_at hl 1 rfl) ?_
      refine va_get (D := D) (ci := 8) (v := .int 1) (C := RX11) (T := TX11) (N := 36) hx hb hU iX11 hown hK.1 hP 0 rfl rfl 17 (by decide) (hU _ w802) (fun _ h9 => h9) rfl dX11_feed_42 ?_
      refine lv_lload_n hx hb dX11_feed_45 rfl (lv_at hl 2 rfl) ?_
      refine lv_bipush (v := 8) hx hb dX11_feed_46 (by decide) ?_
      refine lv_iload hx hb dX11_feed_48 (lv_at hl 0 rfl) ?_
      refine lv_imul hx hb dX11_feed_50 (sv_i (v := 8) (by decide +kernel) ?_)
      refine lv_lshr hx hb dX11_feed_51 rfl (lv_topl (fun v39 _ => ?_))
      refine lv_ldc2 hx hb hown (hU _ w1005) dX11_feed_52 ?_
      refine lv_land hx hb dX11_feed_55 (lv_topl (fun v40 _ => ?_))
      refine lv_l2i (v := v40.toInt32) hx hb dX11_feed_56 rfl ?_
      refine st_i (j := 1) (g := tI [v38.toInt32, v40.toInt32] 0) hx hb hK hP hD hS 1 rfl (by decide +kernel) upd_tI dX11_feed_57 (fun H locs hP hD hS => ?_)
      have hP : va_P D cl0 [(a0, .inr (8, [.int 2, .int 0, .int 1, .int 0, .int 0, .int 0, .ref a1, .ref a2, .int 0, .int 0, .ref a3, .ref a4, .ref a5, .ref a6, .ref a7, .ref a8, .ref a9, .int 1, .int 0, .int 0, .ref a10, .ref a11, .ref a12, .ref a13, .int 0, .int 0, .ref a14, .ref a15, .ref a16, .ref a17, .int 0, .int 0, .ref a18, .ref a19, .ref a20, .ref a21])), (a8, .inl (k 0, 120, .inl (tI [v38.toInt32, v40.toInt32] 0)))] H := hP
      have hD : va_D A [(a0, .inr (8, [.int 2, .int 0, .int 1, .int 0, .int 0, .int 0, .ref a1, .ref a2, .int 0, .int 0, .ref a3, .ref a4, .ref a5, .ref a6, .ref a7, .ref a8, .ref a9, .int 1, .int 0, .int 0, .ref a10, .ref a11, .ref a12, .ref a13, .int 0, .int 0, .ref a14, .ref a15, .ref a16, .ref a17, .int 0, .int 0, .ref a18, .ref a19, .ref a20, .ref a21])), (a8, .inl (k 0, 120, .inl (tI [v38.toInt32, v40.toInt32] 0)))] := hD
      refine lv_aload_n hx hb dX11_feed_58 rfl (lv_at hl 1 rfl) ?_
      refine lv_dup hx hb dX11_feed_59 rfl ?_
      refine va_get (D := D) (ci := 8) (v := .int 1) (C := RX11) (T := TX11) (N := 36) hx hb hU iX11 hown hK.1 hP 0 rfl rfl 17 (by decide) (hU _ w802) (fun _ h9 => h9) rfl dX11_feed_60 ?_
      refine lv_iconst (v := 1) hx hb dX11_feed_63 (by decide) ?_
      refine lv_iadd hx hb dX11_feed_64 (sv_i (v := 2) (by decide +kernel) ?_)
      refine va_put (D := D) (ci := 8) (v := .int 2) (ty := .int) (C := RX11) (T := TX11) (N := 36) hx hb hU iX11 tyX11 tyX11_ok nmX11 hown hK.1 hP hD hS 0 rfl rfl 17 (by decide) (hU _ w802) (fun _ h9 => h9) rfl (by decide +kernel) rfl rfl (Nat.le_of_ble_eq_true rfl) dX11_feed_65 (fun H locs hP hD hS => ?_)
      have hP : va_P D cl0 [(a0, .inr (8, [.int 2, .int 0, .int 1, .int 0, .int 0, .int 0, .ref a1, .ref a2, .int 0, .int 0, .ref a3, .ref a4, .ref a5, .ref a6, .ref a7, .ref a8, .ref a9, .int 2, .int 0, .int 0, .ref a10, .ref a11, .ref a12, .ref a13, .int 0, .int 0, .ref a14, .ref a15, .ref a16, .ref a17, .int 0, .int 0, .ref a18, .ref a19, .ref a20, .ref a21])), (a8, .inl (k 0, 120, .inl (tI [v38.toInt32, v40.toInt32] 0)))] H := hP
      have hD : va_D A [(a0, .inr (8, [.int 2, .int 0, .int 1, .int 0, .int 0, .int 0, .ref a1, .ref a2, .int 0, .int 0, .ref a3, .ref a4, .ref a5, .ref a6, .ref a7, .ref a8, .ref a9, .int 2, .int 0, .int 0, .ref a10, .ref a11, .ref a12, .ref a13, .int 0, .int 0, .ref a14, .ref a15, .ref a16, .ref a17, .int 0, .int 0, .ref a18, .ref a19, .ref a20, .ref a21])), (a8, .inl (k 0, 120, .inl (tI [v38.toInt32, v40.toInt32] 0)))] := hD
      refine lv_iinc (v := 2) (lv' := [(4, .int 2), (0, .ref a0), (1, .long x0), (3, .int 6)]) hx hb dX11_feed_68 hl (k := 0) rfl (by decide) (by decide) rfl (fun ls hl => ?_)
      refine lv_goto (tgt := 31) hx hb dX11_feed_71 (by decide) ?_
      refine lv_iload hx hb dX11_feed_31 (lv_at hl 0 rfl) ?_
      refine lv_iload_n hx hb dX11_feed_33 rfl (lv_at hl 3 rfl) ?_
      refine lv_icmp_ge (tgt := 74) hx hb dX11_feed_34 (by decide) (fun cc => absurd cc (by decide +kernel)) (fun _ => ?_)
      refine lv_aload_n hx hb dX11_feed_37 rfl (lv_at hl 1 rfl) ?_
      refine va_get (D := D) (ci := 8) (v := .ref a8) (C := RX11) (T := TX11) (N := 36) hx hb hU iX11 hown hK.1 hP 0 rfl rfl 15 (by decide) (hU _ w800) (fun _ h9 => h9) rfl dX11_feed_38 ?_
      refine lv_aload_n hx hb dX11_feed_41 rfl (lv_at hl 1 rfl) ?_
      refine va_get (D := D) (ci := 8) (v := .int 2) (C := RX11) (T := TX11) (N := 36) hx hb hU iX11 hown hK.1 hP 0 rfl rfl 17 (by decide) (hU _ w802) (fun _ h9 => h9) rfl dX11_feed_42 ?_
      refine lv_lload_n hx hb dX11_feed_45 rfl (lv_at hl 2 rfl) ?_
      refine lv_bipush (v := 8) hx hb dX11_feed_46 (by decide) ?_
      refine lv_iload hx hb dX11_feed_48 (lv_at hl 0 rfl) ?_
      refine lv_imul hx hb dX11_feed_50 (sv_i (v := 16) (by decide +kernel) ?_)
      refine lv_lshr hx hb dX11_feed_51 rfl (lv_topl (fun v41 _ => ?_))
      refine lv_ldc2 hx hb hown (hU _ w1005) dX11_feed_52 ?_
      refine lv_land hx hb dX11_feed_55 (lv_topl (fun v42 _ => ?_))
      refine lv_l2i (v := v42.toInt32) hx hb dX11_feed_56 rfl ?_
      refine st_i (j := 2) (g := tI [v38.toInt32, v40.toInt32, v42.toInt32] 0) hx hb hK hP hD hS 1 rfl (by decide +kernel) upd_tI dX11_feed_57 (fun H locs hP hD hS => ?_)
      have hP : va_P D cl0 [(a0, .inr (8, [.int 2, .int 0, .int 1, .int 0, .int 0, .int 0, .ref a1, .ref a2, .int 0, .int 0, .ref a3, .ref a4, .ref a5, .ref a6, .ref a7, .ref a8, .ref a9, .int 2, .int 0, .int 0, .ref a10, .ref a11, .ref a12, .ref a13, .int 0, .int 0, .ref a14, .ref a15, .ref a16, .ref a17, .int 0, .int 0, .ref a18, .ref a19, .ref a20, .ref a21])), (a8, .inl (k 0, 120, .inl (tI [v38.toInt32, v40.toInt32, v42.toInt32] 0)))] H := hP
      have hD : va_D A [(a0, .inr (8, [.int 2, .int 0, .int 1, .int 0, .int 0, .int 0, .ref a1, .ref a2, .int 0, .int 0, .ref a3, .ref a4, .ref a5, .ref a6, .ref a7, .ref a8, .ref a9, .int 2, .int 0, .int 0, .ref a10, .ref a11, .ref a12, .ref a13, .int 0, .int 0, .ref a14, .ref a15, .ref a16, .ref a17, .int 0, .int 0, .ref a18, .ref a19, .ref a20, .ref a21])), (a8, .inl (k 0, 120, .inl (tI [v38.toInt32, v40.toInt32, v42.toInt32] 0)))] := hD
      refine lv_aload_n hx hb dX11_feed_58 rfl (lv_at hl 1 rfl) ?_
      refine lv_dup hx hb dX11_feed_59 rfl ?_
      refine va_get (D := D) (ci := 8) (v := .int 2) (C := RX11) (T := TX11) (N := 36) hx hb hU iX11 hown hK.1 hP 0 rfl rfl 17 (by decide) (hU _ w802) (fun _ h9 => h9) rfl dX11_feed_60 ?_
      refine lv_iconst (v := 1) hx hb dX11_feed_63 (by decide) ?_
      refine lv_iadd hx hb dX11_feed_64 (sv_i (v := 3) (by decide +kernel) ?_)
      refine va_put (D := D) (ci := 8) (v := .int 3) (ty := .int) (C := RX11) (T := TX11) (N := 36) hx hb hU iX11 tyX11 tyX11_ok nmX11 hown hK.1 hP hD hS 0 rfl rfl 17 (by decide) (hU _ w802) (fun _ h9 => h9) rfl (by decide +kernel) rfl rfl (Nat.le_of_ble_eq_true rfl) dX11_feed_65 (fun H locs hP hD hS => ?_)
      have hP : va_P D cl0 [(a0, .inr (8, [.int 2, .int 0, .int 1, .int 0, .int 0, .int 0, .ref a1, .ref a2, .int 0, .int 0, .ref a3, .ref a4, .ref a5, .ref a6, .ref a7, .ref a8, .ref a9, .int 3, .int 0, .int 0, .ref a10, .ref a11, .ref a12, .ref a13, .int 0, .int 0, .ref a14, .ref a15, .ref a16, .ref a17, .int 0, .int 0, .ref a18, .ref a19, .ref a20, .ref a21])), (a8, .inl (k 0, 120, .inl (tI [v38.toInt32, v40.toInt32, v42.toInt32] 0)))] H := hP
      have hD : va_D A [(a0, .inr (8, [.int 2, .int 0, .int 1, .int 0, .int 0, .int 0, .ref a1, .ref a2, .int 0, .int 0, .ref a3, .ref a4, .ref a5, .ref a6, .ref a7, .ref a8, .ref a9, .int 3, .int 0, .int 0, .ref a10, .ref a11, .ref a12, .ref a13, .int 0, .int 0, .ref a14, .ref a15, .ref a16, .ref a17, .int 0, .int 0, .ref a18, .ref a19, .ref a20, .ref a21])), (a8, .inl (k 0, 120, .inl (tI [v38.toInt32, v40.toInt32, v42.toInt32] 0)))] := hD
      refine lv_iinc (v := 3) (lv' := [(4, .int 3), (0, .ref a0), (1, .long x0), (3, .int 6)]) hx hb dX11_feed_68 hl (k := 0) rfl (by decide) (by decide) rfl (fun ls hl => ?_)
      refine lv_goto (tgt := 31) hx hb dX11_feed_71 (by decide) ?_
      refine lv_iload hx hb dX11_feed_31 (lv_at hl 0 rfl) ?_
      refine lv_iload_n hx hb dX11_feed_33 rfl (lv_at hl 3 rfl) ?_
      refine lv_icmp_ge (tgt := 74) hx hb dX11_feed_34 (by decide) (fun cc => absurd cc (by decide +kernel)) (fun _ => ?_)
      refine lv_aload_n hx hb dX11_feed_37 rfl (lv_at hl 1 rfl) ?_
      refine va_get (D := D) (ci := 8) (v := .ref a8) (C := RX11) (T := TX11) (N := 36) hx hb hU iX11 hown hK.1 hP 0 rfl rfl 15 (by decide) (hU _ w800) (fun _ h9 => h9) rfl dX11_feed_38 ?_
      refine lv_aload_n hx hb dX11_feed_41 rfl (lv_at hl 1 rfl) ?_
      refine va_get (D := D) (ci := 8) (v := .int 3) (C := RX11) (T := TX11) (N := 36) hx hb hU iX11 hown hK.1 hP 0 rfl rfl 17 (by decide) (hU _ w802) (fun _ h9 => h9) rfl dX11_feed_42 ?_
      refine lv_lload_n hx hb dX11_feed_45 rfl (lv_at hl 2 rfl) ?_
      refine lv_bipush (v := 8) hx hb dX11_feed_46 (by decide) ?_
      refine lv_iload hx hb dX11_feed_48 (lv_at hl 0 rfl) ?_
      refine lv_imul hx hb dX11_feed_50 (sv_i (v := 24) (by decide +kernel) ?_)
      refine lv_lshr hx hb dX11_feed_51 rfl (lv_topl (fun v43 _ => ?_))
      refine lv_ldc2 hx hb hown (hU _ w1005) dX11_feed_52 ?_
      refine lv_land hx hb dX11_feed_55 (lv_topl (fun v44 _ => ?_))
      refine lv_l2i (v := v44.toInt32) hx hb dX11_feed_56 rfl ?_
      refine st_i (j := 3) (g := tI [v38.toInt32, v40.toInt32, v42.toInt32, v44.toInt32] 0) hx hb hK hP hD hS 1 rfl (by decide +kernel) upd_tI dX11_feed_57 (fun H locs hP hD hS => ?_)
      have hP : va_P D cl0 [(a0, .inr (8, [.int 2, .int 0, .int 1, .int 0, .int 0, .int 0, .ref a1, .ref a2, .int 0, .int 0, .ref a3, .ref a4, .ref a5, .ref a6, .ref a7, .ref a8, .ref a9, .int 3, .int 0, .int 0, .ref a10, .ref a11, .ref a12, .ref a13, .int 0, .int 0, .ref a14, .ref a15, .ref a16, .ref a17, .int 0, .int 0, .ref a18, .ref a19, .ref a20, .ref a21])), (a8, .inl (k 0, 120, .inl (tI [v38.toInt32, v40.toInt32, v42.toInt32, v44.toInt32] 0)))] H := hP
      have hD : va_D A [(a0, .inr (8, [.int 2, .int 0, .int 1, .int 0, .int 0, .int 0, .ref a1, .ref a2, .int 0, .int 0, .ref a3, .ref a4, .ref a5, .ref a6, .ref a7, .ref a8, .ref a9, .int 3, .int 0, .int 0, .ref a10, .ref a11, .ref a12, .ref a13, .int 0, .int 0, .ref a14, .ref a15, .ref a16, .ref a17, .int 0, .int 0, .ref a18, .ref a19, .ref a20, .ref a21])), (a8, .inl (k 0, 120, .inl (tI [v38.toInt32, v40.toInt32, v42.toInt32, v44.toInt32] 0)))] := hD
      refine lv_aload_n hx hb dX11_feed_58 rfl (lv_at hl 1 rfl) ?_
      refine lv_dup hx hb dX11_feed_59 rfl ?_
      refine va_get (D := D) (ci := 8) (v := .int 3) (C := RX11) (T := TX11) (N := 36) hx hb hU iX11 hown hK.1 hP 0 rfl rfl 17 (by decide) (hU _ w802) (fun _ h9 => h9) rfl dX11_feed_60 ?_
      refine lv_iconst (v := 1) hx hb dX11_feed_63 (by decide) ?_
      refine lv_iadd hx hb dX11_feed_64 (sv_i (v := 4) (by decide +kernel) ?_)
      refine va_put (D := D) (ci := 8) (v := .int 4) (ty := .int) (C := RX11) (T := TX11) (N := 36) hx hb hU iX11 tyX11 tyX11_ok nmX11 hown hK.1 hP hD hS 0 rfl rfl 17 (by decide) (hU _ w802) (fun _ h9 => h9) rfl (by decide +kernel) rfl rfl (Nat.le_of_ble_eq_true rfl) dX11_feed_65 (fun H locs hP hD hS => ?_)
      have hP : va_P D cl0 [(a0, .inr (8, [.int 2, .int 0, .int 1, .int 0, .int 0, .int 0, .ref a1, .ref a2, .int 0, .int 0, .ref a3, .ref a4, .ref a5, .ref a6, .ref a7, .ref a8, .ref a9, .int 4, .int 0, .int 0, .ref a10, .ref a11, .ref a12, .ref a13, .int 0, .int 0, .ref a14, .ref a15, .ref a16, .ref a17, .int 0, .int 0, .ref a18, .ref a19, .ref a20, .ref a21])), (a8, .inl (k 0, 120, .inl (tI [v38.toInt32, v40.toInt32, v42.toInt32, v44.toInt32] 0)))] H := hP
      have hD : va_D A [(a0, .inr (8, [.int 2, .int 0, .int 1, .int 0, .int 0, .int 0, .ref a1, .ref a2, .int 0, .int 0, .ref a3, .ref a4, .ref a5, .ref a6, .ref a7, .ref a8, .ref a9, .int 4, .int 0, .int 0, .ref a10, .ref a11, .ref a12, .ref a13, .int 0, .int 0, .ref a14, .ref a15, .ref a16, .ref a17, .int 0, .int 0, .ref a18, .ref a19, .ref a20, .ref a21])), (a8, .inl (k 0, 120, .inl (tI [v38.toInt32, v40.toInt32, v42.toInt32, v44.toInt32] 0)))] := hD
      refine lv_iinc (v := 4) (lv' := [(4, .int 4), (0, .ref a0), (1, .long x0), (3, .int 6)]) hx hb dX11_feed_68 hl (k := 0) rfl (by decide) (by decide) rfl (fun ls hl => ?_)
      refine lv_goto (tgt := 31) hx hb dX11_feed_71 (by decide) ?_
      refine lv_iload hx hb dX11_feed_31 (lv_at hl 0 rfl) ?_
      refine lv_iload_n hx hb dX11_feed_33 rfl (lv_at hl 3 rfl) ?_
      refine lv_icmp_ge (tgt := 74) hx hb dX11_feed_34 (by decide) (fun cc => absurd cc (by decide +kernel)) (fun _ => ?_)
      refine lv_aload_n hx hb dX11_feed_37 rfl (lv_at hl 1 rfl) ?_
      refine va_get (D := D) (ci := 8) (v := .ref a8) (C := RX11) (T := TX11) (N := 36) hx hb hU iX11 hown hK.1 hP 0 rfl rfl 15 (by decide) (hU _ w800) (fun _ h9 => h9) rfl dX11_feed_38 ?_
      refine lv_aload_n hx hb dX11_feed_41 rfl (lv_at hl 1 rfl) ?_
      refine va_get (D := D) (ci := 8) (v := .int 4) (C := RX11) (T := TX11) (N := 36) hx hb hU iX11 hown hK.1 hP 0 rfl rfl 17 (by decide) (hU _ w802) (fun _ h9 => h9) rfl dX11_feed_42 ?_
      refine lv_lload_n hx hb dX11_feed_45 rfl (lv_at hl 2 rfl) ?_
      refine lv_bipush (v := 8) hx hb dX11_feed_46 (by decide) ?_
      refine lv_iload hx hb dX11_feed_48 (lv_at hl 0 rfl) ?_
      refine lv_imul hx hb dX11_feed_50 (sv_i (v := 32) (by decide +kernel) ?_)
      refine lv_lshr hx hb dX11_feed_51 rfl (lv_topl (fun v45 _ => ?_))
      refine lv_ldc2 hx hb hown (hU _ w1005) dX11_feed_52 ?_
      refine lv_land hx hb dX11_feed_55 (lv_topl (fun v46 _ => ?_))
      refine lv_l2i (v := v46.toInt32) hx hb dX11_feed_56 rfl ?_
      refine st_i (j := 4) (g := tI [v38.toInt32, v40.toInt32, v42.toInt32, v44.toInt32, v46.toInt32] 0) hx hb hK hP hD hS 1 rfl (by decide +kernel) upd_tI dX11_feed_57 (fun H locs hP hD hS => ?_)
      have hP : va_P D cl0 [(a0, .inr (8, [.int 2, .int 0, .int 1, .int 0, .int 0, .int 0, .ref a1, .ref a2, .int 0, .int 0, .ref a3, .ref a4, .ref a5, .ref a6, .ref a7, .ref a8, .ref a9, .int 4, .int 0, .int 0, .ref a10, .ref a11, .ref a12, .ref a13, .int 0, .int 0, .ref a14, .ref a15, .ref a16, .ref a17, .int 0, .int 0, .ref a18, .ref a19, .ref a20, .ref a21])), (a8, .inl (k 0, 120, .inl (tI [v38.toInt32, v40.toInt32, v42.toInt32, v44.toInt32, v46.toInt32] 0)))] H := hP
      have hD : va_D A [(a0, .inr (8, [.int 2, .int 0, .int 1, .int 0, .int 0, .int 0, .ref a1, .ref a2, .int 0, .int 0, .ref a3, .ref a4, .ref a5, .ref a6, .ref a7, .ref a8, .ref a9, .int 4, .int 0, .int 0, .ref a10, .ref a11, .ref a12, .ref a13, .int 0, .int 0, .ref a14, .ref a15, .ref a16, .ref a17, .int 0, .int 0, .ref a18, .ref a19, .ref a20, .ref a21])), (a8, .inl (k 0, 120, .inl (tI [v38.toInt32, v40.toInt32, v42.toInt32, v44.toInt32, v46.toInt32] 0)))] := hD
      refine lv_aload_n hx hb dX11_feed_58 rfl (lv_at hl 1 rfl) ?_
      refine lv_dup hx hb dX11_feed_59 rfl ?_
      refine va_get (D := D) (ci := 8) (v := .int 4) (C := RX11) (T := TX11) (N := 36) hx hb hU iX11 hown hK.1 hP 0 rfl rfl 17 (by decide) (hU _ w802) (fun _ h9 => h9) rfl dX11_feed_60 ?_
      refine lv_iconst (v := 1) hx hb dX11_feed_63 (by decide) ?_
      refine lv_iadd hx hb dX11_feed_64 (sv_i (v := 5) (by decide +kernel) ?_)
      refine va_put (D := D) (ci := 8) (v := .int 5) (ty := .int) (C := RX11) (T := TX11) (N := 36) hx hb hU iX11 tyX11 tyX11_ok nmX11 hown hK.1 hP hD hS 0 rfl rfl 17 (by decide) (hU _ w802) (fun _ h9 => h9) rfl (by decide +kernel) rfl rfl (Nat.le_of_ble_eq_true rfl) dX11_feed_65 (fun H locs hP hD hS => ?_)
      have hP : va_P D cl0 [(a0, .inr (8, [.int 2, .int 0, .int 1, .int 0, .int 0, .int 0, .ref a1, .ref a2, .int 0, .int 0, .ref a3, .ref a4, .ref a5, .ref a6, .ref a7, .ref a8, .ref a9, .int 5, .int 0, .int 0, .ref a10, .ref a11, .ref a12, .ref a13, .int 0, .int 0, .ref a14, .ref a15, .ref a16, .ref a17, .int 0, .int 0, .ref a18, .ref a19, .ref a20, .ref a21])), (a8, .inl (k 0, 120, .inl (tI [v38.toInt32, v40.toInt32, v42.toInt32, v44.toInt32, v46.toInt32] 0)))] H := hP
      have hD : va_D A [(a0, .inr (8, [.int 2, .int 0, .int 1, .int 0, .int 0, .int 0, .ref a1, .ref a2, .int 0, .int 0, .ref a3, .ref a4, .ref a5, .ref a6, .ref a7, .ref a8, .ref a9, .int 5, .int 0, .int 0, .ref a10, .ref a11, .ref a12, .ref a13, .int 0, .int 0, .ref a14, .ref a15, .ref a16, .ref a17, .int 0, .int 0, .ref a18, .ref a19, .ref a20, .ref a21])), (a8, .inl (k 0, 120, .inl (tI [v38.toInt32, v40.toInt32, v42.toInt32, v44.toInt32, v46.toInt32] 0)))] := hD
      refine lv_iinc (v := 5) (lv' := [(4, .int 5), (0, .ref a0), (1, .long x0), (3, .int 6)]) hx hb dX11_feed_68 hl (k := 0) rfl (by decide) (by decide) rfl (fun ls hl => ?_)
      refine lv_goto (tgt := 31) hx hb dX11_feed_71 (by decide) ?_
      refine lv_iload hx hb dX11_feed_31 (lv_at hl 0 rfl) ?_
      refine lv_iload_n hx hb dX11_feed_33 rfl (lv_at hl 3 rfl) ?_
      refine lv_icmp_ge (tgt := 74) hx hb dX11_feed_34 (by decide) (fun cc => absurd cc (by decide +kernel)) (fun _ => ?_)
      refine lv_aload_n hx hb dX11_feed_37 rfl (lv_at hl 1 rfl) ?_
      refine va_get (D := D) (ci := 8) (v := .ref a8) (C := RX11) (T := TX11) (N := 36) hx hb hU iX11 hown hK.1 hP 0 rfl rfl 15 (by decide) (hU _ w800) (fun _ h9 => h9) rfl dX11_feed_38 ?_
      refine lv_aload_n hx hb dX11_feed_41 rfl (lv_at hl 1 rfl) ?_
      refine va_get (D := D) (ci := 8) (v := .int 5) (C := RX11) (T := TX11) (N := 36) hx hb hU iX11 hown hK.1 hP 0 rfl rfl 17 (by decide) (hU _ w802) (fun _ h9 => h9) rfl dX11_feed_42 ?_
      refine lv_lload_n hx hb dX11_feed_45 rfl (lv_at hl 2 rfl) ?_
      refine lv_bipush (v := 8) hx hb dX11_feed_46 (by decide) ?_
      refine lv_iload hx hb dX11_feed_48 (lv_at hl 0 rfl) ?_
      refine lv_imul hx hb dX11_feed_50 (sv_i (v := 40) (by decide +kernel) ?_)
      refine lv_lshr hx hb dX11_feed_51 rfl (lv_topl (fun v47 _ => ?_))
      refine lv_ldc2 hx hb hown (hU _ w1005) dX11_feed_52 ?_
      refine lv_land hx hb dX11_feed_55 (lv_topl (fun v48 _ => ?_))
      refine lv_l2i (v := v48.toInt32) hx hb dX11_feed_56 rfl ?_
      refine st_i (j := 5) (g := tI [v38.toInt32, v40.toInt32, v42.toInt32, v44.toInt32, v46.toInt32, v48.toInt32] 0) hx hb hK hP hD hS 1 rfl (by decide +kernel) upd_tI dX11_feed_57 (fun H locs hP hD hS => ?_)
      have hP : va_P D cl0 [(a0, .inr (8, [.int 2, .int 0, .int 1, .int 0, .int 0, .int 0, .ref a1, .ref a2, .int 0, .int 0, .ref a3, .ref a4, .ref a5, .ref a6, .ref a7, .ref a8, .ref a9, .int 5, .int 0, .int 0, .ref a10, .ref a11, .ref a12, .ref a13, .int 0, .int 0, .ref a14, .ref a15, .ref a16, .ref a17, .int 0, .int 0, .ref a18, .ref a19, .ref a20, .ref a21])), (a8, .inl (k 0, 120, .inl (tI [v38.toInt32, v40.toInt32, v42.toInt32, v44.toInt32, v46.toInt32, v48.toInt32] 0)))] H := hP
      have hD : va_D A [(a0, .inr (8, [.int 2, .int 0, .int 1, .int 0, .int 0, .int 0, .ref a1, .ref a2, .int 0, .int 0, .ref a3, .ref a4, .ref a5, .ref a6, .ref a7, .ref a8, .ref a9, .int 5, .int 0, .int 0, .ref a10, .ref a11, .ref a12, .ref a13, .int 0, .int 0, .ref a14, .ref a15, .ref a16, .ref a17, .int 0, .int 0, .ref a18, .ref a19, .ref a20, .ref a21])), (a8, .inl (k 0, 120, .inl (tI [v38.toInt32, v40.toInt32, v42.toInt32, v44.toInt32, v46.toInt32, v48.toInt32] 0)))] := hD
      refine lv_aload_n hx hb dX11_feed_58 rfl (lv_at hl 1 rfl) ?_
      refine lv_dup hx hb dX11_feed_59 rfl ?_
      refine va_get (D := D) (ci := 8) (v := .int 5) (C := RX11) (T := TX11) (N := 36) hx hb hU iX11 hown hK.1 hP 0 rfl rfl 17 (by decide) (hU _ w802) (fun _ h9 => h9) rfl dX11_feed_60 ?_
      refine lv_iconst (v := 1) hx hb dX11_feed_63 (by decide) ?_
      refine lv_iadd hx hb dX11_feed_64 (sv_i (v := 6) (by decide +kernel) ?_)
      refine va_put (D := D) (ci := 8) (v := .int 6) (ty := .int) (C := RX11) (T := TX11) (N := 36) hx hb hU iX11 tyX11 tyX11_ok nmX11 hown hK.1 hP hD hS 0 rfl rfl 17 (by decide) (hU _ w802) (fun _ h9 => h9) rfl (by decide +kernel) rfl rfl (Nat.le_of_ble_eq_true rfl) dX11_feed_65 (fun H locs hP hD hS => ?_)
      have hP : va_P D cl0 [(a0, .inr (8, [.int 2, .int 0, .int 1, .int 0, .int 0, .int 0, .ref a1, .ref a2, .int 0, .int 0, .ref a3, .ref a4, .ref a5, .ref a6, .ref a7, .ref a8, .ref a9, .int 6, .int 0, .int 0, .ref a10, .ref a11, .ref a12, .ref a13, .int 0, .int 0, .ref a14, .ref a15, .ref a16, .ref a17, .int 0, .int 0, .ref a18, .ref a19, .ref a20, .ref a21])), (a8, .inl (k 0, 120, .inl (tI [v38.toInt32, v40.toInt32, v42.toInt32, v44.toInt32, v46.toInt32, v48.toInt32] 0)))] H := hP
      have hD : va_D A [(a0, .inr (8, [.int 2, .int 0, .int 1, .int 0, .int 0, .int 0, .ref a1, .ref a2, .int 0, .int 0, .ref a3, .ref a4, .ref a5, .ref a6, .ref a7, .ref a8, .ref a9, .int 6, .int 0, .int 0, .ref a10, .ref a11, .ref a12, .ref a13, .int 0, .int 0, .ref a14, .ref a15, .ref a16, .ref a17, .int 0, .int 0, .ref a18, .ref a19, .ref a20, .ref a21])), (a8, .inl (k 0, 120, .inl (tI [v38.toInt32, v40.toInt32, v42.toInt32, v44.toInt32, v46.toInt32, v48.toInt32] 0)))] := hD
      refine lv_iinc (v := 6) (lv' := [(4, .int 6), (0, .ref a0), (1, .long x0), (3, .int 6)]) hx hb dX11_feed_68 hl (k := 0) rfl (by decide) (by decide) rfl (fun ls hl => ?_)
      refine lv_goto (tgt := 31) hx hb dX11_feed_71 (by decide) ?_
      refine lv_iload hx hb dX11_feed_31 (lv_at hl 0 rfl) ?_
      refine lv_iload_n hx hb dX11_feed_33 rfl (lv_at hl 3 rfl) ?_
      refine lv_icmp_ge (tgt := 74) hx hb dX11_feed_34 (by decide) (fun _ => ?_) (fun cc => absurd (by decide +kernel) cc)
      refine lv_aload_n hx hb dX11_feed_74 rfl (lv_at hl 1 rfl) ?_
      refine va_get (D := D) (ci := 8) (v := .int 6) (C := RX11) (T := TX11) (N := 36) hx hb hU iX11 hown hK.1 hP 0 rfl rfl 17 (by decide) (hU _ w802) (fun _ h9 => h9) rfl dX11_feed_75 ?_
      exact retI (v := 6) hx hb hr hlocks hS (show (6 : Int32) = F_feed x0 6 by first | decide +kernel | (have g_6 : (6 : Int32).toInt = 6 := (by decide +kernel); unfold F_feed; (repeat (first | rw [if_pos (by omega)] | rw [if_neg (by omega)])))) dX11_feed_78
    · skip
      obtain rfl : x1 = 7 := eq32 hsp (by decide +kernel)
      refine lv_icmp_le (tgt := 28) hx hb dX11_feed_22 (by decide) (fun _ => ?_) (fun cc => absurd (by decide +kernel) cc)
      refine lv_iconst (v := 0) hx hb dX11_feed_28 (by decide) ?_
      refine lv_istore (lv' := [(4, .int 0), (0, .ref a0), (1, .long x0), (3, .int 7)]) hx hb dX11_feed_29 hl (by decide) rfl (fun ls hl => ?_)
      refine lv_iload hx hb dX11_feed_31 (lv_at hl 0 rfl) ?_
      refine lv_iload_n hx hb dX11_feed_33 rfl (lv_at hl 3 rfl) ?_
      refine lv_icmp_ge (tgt := 74) hx hb dX11_feed_34 (by decide) (fun cc => absurd cc (by decide +kernel)) (fun _ => ?_)
      refine lv_aload_n hx hb dX11_feed_37 rfl (lv_at hl 1 rfl) ?_
      refine va_get (D := D) (ci := 8) (v := .ref a8) (C := RX11) (T := TX11) (N := 36) hx hb hU iX11 hown hK.1 hP 0 rfl rfl 15 (by decide) (hU _ w800) (fun _ h9 => h9) rfl dX11_feed_38 ?_
      refine lv_aload_n hx hb dX11_feed_41 rfl (lv_at hl 1 rfl) ?_
      refine va_get (D := D) (ci := 8) (v := .int 0) (C := RX11) (T := TX11) (N := 36) hx hb hU iX11 hown hK.1 hP 0 rfl rfl 17 (by decide) (hU _ w802) (fun _ h9 => h9) rfl dX11_feed_42 ?_
      refine lv_lload_n hx hb dX11_feed_45 rfl (lv_at hl 2 rfl) ?_
      refine lv_bipush (v := 8) hx hb dX11_feed_46 (by decide) ?_
      refine lv_iload hx hb dX11_feed_48 (lv_at hl 0 rfl) ?_
      refine lv_imul hx hb dX11_feed_50 (sv_i (v := 0) (by decide +kernel) ?_)
      refine lv_lshr hx hb dX11_feed_51 rfl (lv_topl (fun v49 _ => ?_))
      refine lv_ldc2 hx hb hown (hU _ w1005) dX11_feed_52 ?_
      refine lv_land hx hb dX11_feed_55 (lv_topl (fun v50 _ => ?_))
      refine lv_l2i (v := v50.toInt32) hx hb dX11_feed_56 rfl ?_
      refine st_i (j := 0) (g := tI [v50.toInt32] 0) hx hb hK hP hD hS 1 rfl (by decide +kernel) upd_tI dX11_feed_57 (fun H locs hP hD hS => ?_)
      have hP : va_P D cl0 [(a0, .inr (8, [.int 2, .int 0, .int 1, .int 0, .int 0, .int 0, .ref a1, .ref a2, .int 0, .int 0, .ref a3, .ref a4, .ref a5, .ref a6, .ref a7, .ref a8, .ref a9, .int 0, .int 0, .int 0, .ref a10, .ref a11, .ref a12, .ref a13, .int 0, .int 0, .ref a14, .ref a15, .ref a16, .ref a17, .int 0, .int 0, .ref a18, .ref a19, .ref a20, .ref a21])), (a8, .inl (k 0, 120, .inl (tI [v50.toInt32] 0)))] H := hP
      have hD : va_D A [(a0, .inr (8, [.int 2, .int 0, .int 1, .int 0, .int 0, .int 0, .ref a1, .ref a2, .int 0, .int 0, .ref a3, .ref a4, .ref a5, .ref a6, .ref a7, .ref a8, .ref a9, .int 0, .int 0, .int 0, .ref a10, .ref a11, .ref a12, .ref a13, .int 0, .int 0, .ref a14, .ref a15, .ref a16, .ref a17, .int 0, .int 0, .ref a18, .ref a19, .ref a20, .ref a21])), (a8, .inl (k 0, 120, .inl (tI [v50.toInt32] 0)))] := hD
      refine lv_aload_n hx hb dX11_feed_58 rfl (lv_at hl 1 rfl) ?_
      refine lv_dup hx hb dX11_feed_59 rfl ?_
      refine va_get (D := D) (ci := 8) (v := .int 0) (C := RX11) (T := TX11) (N := 36) hx hb hU iX11 hown hK.1 hP 0 rfl rfl 17 (by decide) (hU _ w802) (fun _ h9 => h9) rfl dX11_feed_60 ?_
      refine lv_iconst (v := 1) hx hb dX11_feed_63 (by decide) ?_
      refine lv_iadd hx hb dX11_feed_64 (sv_i (v := 1) (by decide +kernel) ?_)
      refine va_put (D := D) (ci := 8) (v := .int 1) (ty := .int) (C := RX11) (T := TX11) (N := 36) hx hb hU iX11 tyX11 tyX11_ok nmX11 hown hK.1 hP hD hS 0 rfl rfl 17 (by decide) (hU _ w802) (fun _ h9 => h9) rfl (by decide +kernel) rfl rfl (Nat.le_of_ble_eq_true rfl) dX11_feed_65 (fun H locs hP hD hS => ?_)
      have hP : va_P D cl0 [(a0, .inr (8, [.int 2, .int 0, .int 1, .int 0, .int 0, .int 0, .ref a1, .ref a2, .int 0, .int 0, .ref a3, .ref a4, .ref a5, .ref a6, .ref a7, .ref a8, .ref a9, .int 1, .int 0, .int 0, .ref a10, .ref a11, .ref a12, .ref a13, .int 0, .int 0, .ref a14, .ref a15, .ref a16, .ref a17, .int 0, .int 0, .ref a18, .ref a19, .ref a20, .ref a21])), (a8, .inl (k 0, 120, .inl (tI [v50.toInt32] 0)))] H := hP
      have hD : va_D A [(a0, .inr (8, [.int 2, .int 0, .int 1, .int 0, .int 0, .int 0, .ref a1, .ref a2, .int 0, .int 0, .ref a3, .ref a4, .ref a5, .ref a6, .ref a7, .ref a8, .ref a9, .int 1, .int 0, .int 0, .ref a10, .ref a11, .ref a12, .ref a13, .int 0, .int 0, .ref a14, .ref a15, .ref a16, .ref a17, .int 0, .int 0, .ref a18, .ref a19, .ref a20, .ref a21])), (a8, .inl (k 0, 120, .inl (tI [v50.toInt32] 0)))] := hD
      refine lv_iinc (v := 1) (lv' := [(4, .int 1), (0, .ref a0), (1, .long x0), (3, .int 7)]) hx hb dX11_feed_68 hl (k := 0) rfl (by decide) (by decide) rfl (fun ls hl => ?_)
      refine lv_goto (tgt := 31) hx hb dX11_feed_71 (by decide) ?_
      refine lv_iload hx hb dX11_feed_31 (lv_at hl 0 rfl) ?_
      refine lv_iload_n hx hb dX11_feed_33 rfl (lv_at hl 3 rfl) ?_
      refine lv_icmp_ge (tgt := 74) hx hb dX11_feed_34 (by decide) (fun cc => absurd cc (by decide +kernel)) (fun _ => ?_)
      refine lv_aload_n hx hb dX11_feed_37 rfl (lv_at hl 1 rfl) ?_
      refine va_get (D := D) (ci := 8) (v := .ref a8) (C := RX11) (T := TX11) (N := 36) hx hb hU iX11 hown hK.1 hP 0 rfl rfl 15 (by decide) (hU _ w800) (fun _ h9 => h9) rfl dX11_feed_38 ?_
      refine lv_aload_n hx hb dX11_feed_41 rfl (lv_at hl 1 rfl) ?_
      refine va_get (D := D) (ci := 8) (v := .int 1) (C := RX11) (T := TX11) (N := 36) hx hb hU iX11 hown hK.1 hP 0 rfl rfl 17 (by decide) (hU _ w802) (fun _ h9 => h9) rfl dX11_feed_42 ?_
      refine lv_lload_n hx hb dX11_feed_45 rfl (lv_at hl 2 rfl) ?_
      refine lv_bipush (v := 8) hx hb dX11_feed_46 (by decide) ?_
      refine lv_iload hx hb dX11_feed_48 (lv_at hl 0 rfl) ?_
      refine lv_imul hx hb dX11_feed_50 (sv_i (v := 8) (by decide +kernel) ?_)
      refine lv_lshr hx hb dX11_feed_51 rfl (lv_topl (fun v51 _ => ?_))
      refine lv_ldc2 hx hb hown (hU _ w1005) dX11_feed_52 ?_
      refine lv_land hx hb dX11_feed_55 (lv_topl (fun v52 _ => ?_))
      refine lv_l2i (v := v52.toInt32) hx hb dX11_feed_56 rfl ?_
      refine st_i (j := 1) (g := tI [v50.toInt32, v52.toInt32] 0) hx hb hK hP hD hS 1 rfl (by decide +kernel) upd_tI dX11_feed_57 (fun H locs hP hD hS => ?_)
      have hP : va_P D cl0 [(a0, .inr (8, [.int 2, .int 0, .int 1, .int 0, .int 0, .int 0, .ref a1, .ref a2, .int 0, .int 0, .ref a3, .ref a4, .ref a5, .ref a6, .ref a7, .ref a8, .ref a9, .int 1, .int 0, .int 0, .ref a10, .ref a11, .ref a12, .ref a13, .int 0, .int 0, .ref a14, .ref a15, .ref a16, .ref a17, .int 0, .int 0, .ref a18, .ref a19, .ref a20, .ref a21])), (a8, .inl (k 0, 120, .inl (tI [v50.toInt32, v52.toInt32] 0)))] H := hP
      have hD : va_D A [(a0, .inr (8, [.int 2, .int 0, .int 1, .int 0, .int 0, .int 0, .ref a1, .ref a2, .int 0, .int 0, .ref a3, .ref a4, .ref a5, .ref a6, .ref a7, .ref a8, .ref a9, .int 1, .int 0, .int 0, .ref a10, .ref a11, .ref a12, .ref a13, .int 0, .int 0, .ref a14, .ref a15, .ref a16, .ref a17, .int 0, .int 0, .ref a18, .ref a19, .ref a20, .ref a21])), (a8, .inl (k 0, 120, .inl (tI [v50.toInt32, v52.toInt32] 0)))] := hD
      refine lv_aload_n hx hb dX11_feed_58 rfl (lv_at hl 1 rfl) ?_
      refine lv_dup hx hb dX11_feed_59 rfl ?_
      refine va_get (D := D) (ci := 8) (v := .int 1) (C := RX11) (T := TX11) (N := 36) hx hb hU iX11 hown hK.1 hP 0 rfl rfl 17 (by decide) (hU _ w802) (fun _ h9 => h9) rfl dX11_feed_60 ?_
      refine lv_iconst (v := 1) hx hb dX11_feed_63 (by decide) ?_
      refine lv_iadd hx hb dX11_feed_64 (sv_i (v := 2) (by decide +kernel) ?_)
      refine va_put (D := D) (ci := 8) (v := .int 2) (ty := .int) (C := RX11) (T := TX11) (N := 36) hx hb hU iX11 tyX11 tyX11_ok nmX11 hown hK.1 hP hD hS 0 rfl rfl 17 (by decide) (hU _ w802) (fun _ h9 => h9) rfl (by decide +kernel) rfl rfl (Nat.le_of_ble_eq_true rfl) dX11_feed_65 (fun H locs hP hD hS => ?_)
      have hP : va_P D cl0 [(a0, .inr (8, [.int 2, .int 0, .int 1, .int 0, .int 0, .int 0, .ref a1, .ref a2, .int 0, .int 0, .ref a3, .ref a4, .ref a5, .ref a6, .ref a7, .ref a8, .ref a9, .int 2, .int 0, .int 0, .ref a10, .ref a11, .ref a12, .ref a13, .int 0, .int 0, .ref a14, .ref a15, .ref a16, .ref a17, .int 0, .int 0, .ref a18, .ref a19, .ref a20, .ref a21])), (a8, .inl (k 0, 120, .inl (tI [v50.toInt32, v52.toInt32] 0)))] H := hP
      have hD : va_D A [(a0, .inr (8, [.int 2, .int 0, .int 1, .int 0, .int 0, .int 0, .ref a1, .ref a2, .int 0, .int 0, .ref a3, .ref a4, .ref a5, .ref a6, .ref a7, .ref a8, .ref a9, .int 2, .int 0, .int 0, .ref a10, .ref a11, .ref a12, .ref a13, .int 0, .int 0, .ref a14, .ref a15, .ref a16, .ref a17, .int 0, .int 0, .ref a18, .ref a19, .ref a20, .ref a21])), (a8, .inl (k 0, 120, .inl (tI [v50.toInt32, v52.toInt32] 0)))] := hD
      refine lv_iinc (v := 2) (lv' := [(4, .int 2), (0, .ref a0), (1, .long x0), (3, .int 7)]) hx hb dX11_feed_68 hl (k := 0) rfl (by decide) (by decide) rfl (fun ls hl => ?_)
      refine lv_goto (tgt := 31) hx hb dX11_feed_71 (by decide) ?_
      refine lv_iload hx hb dX11_feed_31 (lv_at hl 0 rfl) ?_
      refine lv_iload_n hx hb dX11_feed_33 rfl (lv_at hl 3 rfl) ?_
      refine lv_icmp_ge (tgt := 74) hx hb dX11_feed_34 (by decide) (fun cc => absurd cc (by decide +kernel)) (fun _ => ?_)
      refine lv_aload_n hx hb dX11_feed_37 rfl (lv_at hl 1 rfl) ?_
      refine va_get (D := D) (ci := 8) (v := .ref a8) (C := RX11) (T := TX11) (N := 36) hx hb hU iX11 hown hK.1 hP 0 rfl rfl 15 (by decide) (hU _ w800) (fun _ h9 => h9) rfl dX11_feed_38 ?_
      refine lv_aload_n hx hb dX11_feed_41 rfl (lv_at hl 1 rfl) ?_
      refine va_get (D := D) (ci := 8) (v := .int 2) (C := RX11) (T := TX11) (N := 36) hx hb hU iX11 hown hK.1 hP 0 rfl rfl 17 (by decide) (hU _ w802) (fun _ h9 => h9) rfl dX11_feed_42 ?_
      refine lv_lload_n hx hb dX11_feed_45 rfl (lv_at hl 2 rfl) ?_
      refine lv_bipush (v := 8) hx hb dX11_feed_46 (by decide) ?_
      refine lv_iload hx hb dX11_feed_48 (lv_at hl 0 rfl) ?_
      refine lv_imul hx hb dX11_feed_50 (sv_i (v := 16) (by decide +kernel) ?_)
      refine lv_lshr hx hb dX11_feed_51 rfl (lv_topl (fun v53 _ => ?_))
      refine lv_ldc2 hx hb hown (hU _ w1005) dX11_feed_52 ?_
      refine lv_land hx hb dX11_feed_55 (lv_topl (fun v54 _ => ?_))
      refine lv_l2i (v := v54.toInt32) hx hb dX11_feed_56 rfl ?_
      refine st_i (j := 2) (g := tI [v50.toInt32, v52.toInt32, v54.toInt32] 0) hx hb hK hP hD hS 1 rfl (by decide +kernel) upd_tI dX11_feed_57 (fun H locs hP hD hS => ?_)
      have hP : va_P D cl0 [(a0, .inr (8, [.int 2, .int 0, .int 1, .int 0, .int 0, .int 0, .ref a1, .ref a2, .int 0, .int 0, .ref a3, .ref a4, .ref a5, .ref a6, .ref a7, .ref a8, .ref a9, .int 2, .int 0, .int 0, .ref a10, .ref a11, .ref a12, .ref a13, .int 0, .int 0, .ref a14, .ref a15, .ref a16, .ref a17, .int 0, .int 0, .ref a18, .ref a19, .ref a20, .ref a21])), (a8, .inl (k 0, 120, .inl (tI [v50.toInt32, v52.toInt32, v54.toInt32] 0)))] H := hP
      have hD : va_D A [(a0, .inr (8, [.int 2, .int 0, .int 1, .int 0, .int 0, .int 0, .ref a1, .ref a2, .int 0, .int 0, .ref a3, .ref a4, .ref a5, .ref a6, .ref a7, .ref a8, .ref a9, .int 2, .int 0, .int 0, .ref a10, .ref a11, .ref a12, .ref a13, .int 0, .int 0, .ref a14, .ref a15, .ref a16, .ref a17, .int 0, .int 0, .ref a18, .ref a19, .ref a20, .ref a21])), (a8, .inl (k 0, 120, .inl (tI [v50.toInt32, v52.toInt32, v54.toInt32] 0)))] := hD
      refine lv_aload_n hx hb dX11_feed_58 rfl (lv_at hl 1 rfl) ?_
      refine lv_dup hx hb dX11_feed_59 rfl ?_
      refine va_get (D := D) (ci := 8) (v := .int 2) (C := RX11) (T := TX11) (N := 36) hx hb hU iX11 hown hK.1 hP 0 rfl rfl 17 (by decide) (hU _ w802) (fun _ h9 => h9) rfl dX11_feed_60 ?_
      refine lv_iconst (v := 1) hx hb dX11_feed_63 (by decide) ?_
      refine lv_iadd hx hb dX11_feed_64 (sv_i (v := 3) (by decide +kernel) ?_)
      refine va_put (D := D) (ci := 8) (v := .int 3) (ty := .int) (C := RX11) (T := TX11) (N := 36) hx hb hU iX11 tyX11 tyX11_ok nmX11 hown hK.1 hP hD hS 0 rfl rfl 17 (by decide) (hU _ w802) (fun _ h9 => h9) rfl (by decide +kernel) rfl rfl (Nat.le_of_ble_eq_true rfl) dX11_feed_65 (fun H locs hP hD hS => ?_)
      have hP : va_P D cl0 [(a0, .inr (8, [.int 2, .int 0, .int 1, .int 0, .int 0, .int 0, .ref a1, .ref a2, .int 0, .int 0, .ref a3, .ref a4, .ref a5, .ref a6, .ref a7, .ref a8, .ref a9, .int 3, .int 0, .int 0, .ref a10, .ref a11, .ref a12, .ref a13, .int 0, .int 0, .ref a14, .ref a15, .ref a16, .ref a17, .int 0, .int 0, .ref a18, .ref a19, .ref a20, .ref a21])), (a8, .inl (k 0, 120, .inl (tI [v50.toInt32, v52.toInt32, v54.toInt32] 0)))] H := hP
      have hD : va_D A [(a0, .inr (8, [.int 2, .int 0, .int 1, .int 0, .int 0, .int 0, .ref a1, .ref a2, .int 0, .int 0, .ref a3, .ref a4, .ref a5, .ref a6, .ref a7, .ref a8, .ref a9, .int 3, .int 0, .int 0, .ref a10, .ref a11, .ref a12, .ref a13, .int 0, .int 0, .ref a14, .ref a15, .ref a16, .ref a17, .int 0, .int 0, .ref a18, .ref a19, .ref a20, .ref a21])), (a8, .inl (k 0, 120, .inl (tI [v50.toInt32, v52.toInt32, v54.toInt32] 0)))] := hD
      refine lv_iinc (v := 3) (lv' := [(4, .int 3), (0, .ref a0), (1, .long x0), (3, .int 7)]) hx hb dX11_feed_68 hl (k := 0) rfl (by decide) (by decide) rfl (fun ls hl => ?_)
      refine lv_goto (tgt := 31) hx hb dX11_feed_71 (by decide) ?_
      refine lv_iload hx hb dX11_feed_31 (lv_at hl 0 rfl) ?_
      refine lv_iload_n hx hb dX11_feed_33 rfl (lv_at hl 3 rfl) ?_
      refine lv_icmp_ge (tgt := 74) hx hb dX11_feed_34 (by decide) (fun cc => absurd cc (by decide +kernel)) (fun _ => ?_)
      refine lv_aload_n hx hb dX11_feed_37 rfl (lv_at hl 1 rfl) ?_
      refine va_get (D := D) (ci := 8) (v := .ref a8) (C := RX11) (T := TX11) (N := 36) hx hb hU iX11 hown hK.1 hP 0 rfl rfl 15 (by decide) (hU _ w800) (fun _ h9 => h9) rfl dX11_feed_38 ?_
      refine lv_aload_n hx hb dX11_feed_41 rfl (lv_at hl 1 rfl) ?_
      refine va_get (D := D) (ci := 8) (v := .int 3) (C := RX11) (T := TX11) (N := 36) hx hb hU iX11 hown hK.1 hP 0 rfl rfl 17 (by decide) (hU _ w802) (fun _ h9 => h9) rfl dX11_feed_42 ?_
      refine lv_lload_n hx hb dX11_feed_45 rfl (lv_at hl 2 rfl) ?_
      refine lv_bipush (v := 8) hx hb dX11_feed_46 (by decide) ?_
      refine lv_iload hx hb dX11_feed_48 (lv_at hl 0 rfl) ?_
      refine lv_imul hx hb dX11_feed_50 (sv_i (v := 24) (by decide +kernel) ?_)
      refine lv_lshr hx hb dX11_feed_51 rfl (lv_topl (fun v55 _ => ?_))
      refine lv_ldc2 hx hb hown (hU _ w1005) dX11_feed_52 ?_
      refine lv_land hx hb dX11_feed_55 (lv_topl (fun v56 _ => ?_))
      refine lv_l2i (v := v56.toInt32) hx hb dX11_feed_56 rfl ?_
      refine st_i (j := 3) (g := tI [v50.toInt32, v52.toInt32, v54.toInt32, v56.toInt32] 0) hx hb hK hP hD hS 1 rfl (by decide +kernel) upd_tI dX11_feed_57 (fun H locs hP hD hS => ?_)
      have hP : va_P D cl0 [(a0, .inr (8, [.int 2, .int 0, .int 1, .int 0, .int 0, .int 0, .ref a1, .ref a2, .int 0, .int 0, .ref a3, .ref a4, .ref a5, .ref a6, .ref a7, .ref a8, .ref a9, .int 3, .int 0, .int 0, .ref a10, .ref a11, .ref a12, .ref a13, .int 0, .int 0, .ref a14, .ref a15, .ref a16, .ref a17, .int 0, .int 0, .ref a18, .ref a19, .ref a20, .ref a21])), (a8, .inl (k 0, 120, .inl (tI [v50.toInt32, v52.toInt32, v54.toInt32, v56.toInt32] 0)))] H := hP
      have hD : va_D A [(a0, .inr (8, [.int 2, .int 0, .int 1, .int 0, .int 0, .int 0, .ref a1, .ref a2, .int 0, .int 0, .ref a3, .ref a4, .ref a5, .ref a6, .ref a7, .ref a8, .ref a9, .int 3, .int 0, .int 0, .ref a10, .ref a11, .ref a12, .ref a13, .int 0, .int 0, .ref a14, .ref a15, .ref a16, .ref a17, .int 0, .int 0, .ref a18, .ref a19, .ref a20, .ref a21])), (a8, .inl (k 0, 120, .inl (tI [v50.toInt32, v52.toInt32, v54.toInt32, v56.toInt32] 0)))] := hD
      refine lv_aload_n hx hb dX11_feed_58 rfl (lv_at hl 1 rfl) ?_
      refine lv_dup hx hb dX11_feed_59 rfl ?_
      refine va_get (D := D) (ci := 8) (v := .int 3) (C := RX11) (T := TX11) (N := 36) hx hb hU iX11 hown hK.1 hP 0 rfl rfl 17 (by decide) (hU _ w802) (fun _ h9 => h9) rfl dX11_feed_60 ?_
      refine lv_iconst (v := 1) hx hb dX11_feed_63 (by decide) ?_
      refine lv_iadd hx hb dX11_feed_64 (sv_i (v := 4) (by decide +kernel) ?_)
      refine va_put (D := D) (ci := 8) (v := .int 4) (ty := .int) (C := RX11) (T := TX11) (N := 36) hx hb hU iX11 tyX11 tyX11_ok nmX11 hown hK.1 hP hD hS 0 rfl rfl 17 (by decide) (hU _ w802) (fun _ h9 => h9) rfl (by decide +kernel) rfl rfl (Nat.le_of_ble_eq_true rfl) dX11_feed_65 (fun H locs hP hD hS => ?_)
      have hP : va_P D cl0 [(a0, .inr (8, [.int 2, .int 0, .int 1, .int 0, .int 0, .int 0, .ref a1, .ref a2, .int 0, .int 0, .ref a3, .ref a4, .ref a5, .ref a6, .ref a7, .ref a8, .ref a9, .int 4, .int 0, .int 0, .ref a10, .ref a11, .ref a12, .ref a13, .int 0, .int 0, .ref a14, .ref a15, .ref a16, .ref a17, .int 0, .int 0, .ref a18, .ref a19, .ref a20, .ref a21])), (a8, .inl (k 0, 120, .inl (tI [v50.toInt32, v52.toInt32, v54.toInt32, v56.toInt32] 0)))] H := hP
      have hD : va_D A [(a0, .inr (8, [.int 2, .int 0, .int 1, .int 0, .int 0, .int 0, .ref a1, .ref a2, .int 0, .int 0, .ref a3, .ref a4, .ref a5, .ref a6, .ref a7, .ref a8, .ref a9, .int 4, .int 0, .int 0, .ref a10, .ref a11, .ref a12, .ref a13, .int 0, .int 0, .ref a14, .ref a15, .ref a16, .ref a17, .int 0, .int 0, .ref a18, .ref a19, .ref a20, .ref a21])), (a8, .inl (k 0, 120, .inl (tI [v50.toInt32, v52.toInt32, v54.toInt32, v56.toInt32] 0)))] := hD
      refine lv_iinc (v := 4) (lv' := [(4, .int 4), (0, .ref a0), (1, .long x0), (3, .int 7)]) hx hb dX11_feed_68 hl (k := 0) rfl (by decide) (by decide) rfl (fun ls hl => ?_)
      refine lv_goto (tgt := 31) hx hb dX11_feed_71 (by decide) ?_
      refine lv_iload hx hb dX11_feed_31 (lv_at hl 0 rfl) ?_
      refine lv_iload_n hx hb dX11_feed_33 rfl (lv_at hl 3 rfl) ?_
      refine lv_icmp_ge (tgt := 74) hx hb dX11_feed_34 (by decide) (fun cc => absurd cc (by decide +kernel)) (fun _ => ?_)
      refine lv_aload_n hx hb dX11_feed_37 rfl (lv_at hl 1 rfl) ?_
      refine va_get (D := D) (ci := 8) (v := .ref a8) (C := RX11) (T := TX11) (N := 36) hx hb hU iX11 hown hK.1 hP 0 rfl rfl 15 (by decide) (hU _ w800) (fun _ h9 => h9) rfl dX11_feed_38 ?_
      refine lv_aload_n hx hb dX11_feed_41 rfl (lv_at hl 1 rfl) ?_
      refine va_get (D := D) (ci := 8) (v := .int 4) (C := RX11) (T := TX11) (N := 36) hx hb hU iX11 hown hK.1 hP 0 rfl rfl 17 (by decide) (hU _ w802) (fun _ h9 => h9) rfl dX11_feed_42 ?_
      refine lv_lload_n hx hb dX11_feed_45 rfl (lv_at hl 2 rfl) ?_
      refine lv_bipush (v := 8) hx hb dX11_feed_46 (by decide) ?_
      refine lv_iload hx hb dX11_feed_48 (lv_at hl 0 rfl) ?_
      refine lv_imul hx hb dX11_feed_50 (sv_i (v := 32) (by decide +kernel) ?_)
      refine lv_lshr hx hb dX11_feed_51 rfl (lv_topl (fun v57 _ => ?_))
      refine lv_ldc2 hx hb hown (hU _ w1005) dX11_feed_52 ?_
      refine lv_land hx hb dX11_feed_55 (lv_topl (fun v58 _ => ?_))
      refine lv_l2i (v := v58.toInt32) hx hb dX11_feed_56 rfl ?_
      refine st_i (j := 4) (g := tI [v50.toInt32, v52.toInt32, v54.toInt32, v56.toInt32, v58.toInt32] 0) hx hb hK hP hD hS 1 rfl (by decide +kernel) upd_tI dX11_feed_57 (fun H locs hP hD hS => ?_)
      have hP : va_P D cl0 [(a0, .inr (8, [.int 2, .int 0, .int 1, .int 0, .int 0, .int 0, .ref a1, .ref a2, .int 0, .int 0, .ref a3, .ref a4, .ref a5, .ref a6, .ref a7, .ref a8, .ref a9, .int 4, .int 0, .int 0, .ref a10, .ref a11, .ref a12, .ref a13, .int 0, .int 0, .ref a14, .ref a15, .ref a16, .ref a17, .int 0, .int 0, .ref a18, .ref a19, .ref a20, .ref a21])), (a8, .inl (k 0, 120, .inl (tI [v50.toInt32, v52.toInt32, v54.toInt32, v56.toInt32, v58.toInt32] 0)))] H := hP
      have hD : va_D A [(a0, .inr (8, [.int 2, .int 0, .int 1, .int 0, .int 0, .int 0, .ref a1, .ref a2, .int 0, .int 0, .ref a3, .ref a4, .ref a5, .ref a6, .ref a7, .ref a8, .ref a9, .int 4, .int 0, .int 0, .ref a10, .ref a11, .ref a12, .ref a13, .int 0, .int 0, .ref a14, .ref a15, .ref a16, .ref a17, .int 0, .int 0, .ref a18, .ref a19, .ref a20, .ref a21])), (a8, .inl (k 0, 120, .inl (tI [v50.toInt32, v52.toInt32, v54.toInt32, v56.toInt32, v58.toInt32] 0)))] := hD
      refine lv_aload_n hx hb dX11_feed_58 rfl (lv_at hl 1 rfl) ?_
      refine lv_dup hx hb dX11_feed_59 rfl ?_
      refine va_get (D := D) (ci := 8) (v := .int 4) (C := RX11) (T := TX11) (N := 36) hx hb hU iX11 hown hK.1 hP 0 rfl rfl 17 (by decide) (hU _ w802) (fun _ h9 => h9) rfl dX11_feed_60 ?_
      refine lv_iconst (v := 1) hx hb dX11_feed_63 (by decide) ?_
      refine lv_iadd hx hb dX11_feed_64 (sv_i (v := 5) (by decide +kernel) ?_)
      refine va_put (D := D) (ci := 8) (v := .int 5) (ty := .int) (C := RX11) (T := TX11) (N := 36) hx hb hU iX11 tyX11 tyX11_ok nmX11 hown hK.1 hP hD hS 0 rfl rfl 17 (by decide) (hU _ w802) (fun _ h9 => h9) rfl (by decide +kernel) rfl rfl (Nat.le_of_ble_eq_true rfl) dX11_feed_65 (fun H locs hP hD hS => ?_)
      have hP : va_P D cl0 [(a0, .inr (8, [.int 2, .int 0, .int 1, .int 0, .int 0, .int 0, .ref a1, .ref a2, .int 0, .int 0, .ref a3, .ref a4, .ref a5, .ref a6, .ref a7, .ref a8, .ref a9, .int 5, .int 0, .int 0, .ref a10, .ref a11, .ref a12, .ref a13, .int 0, .int 0, .ref a14, .ref a15, .ref a16, .ref a17, .int 0, .int 0, .ref a18, .ref a19, .ref a20, .ref a21])), (a8, .inl (k 0, 120, .inl (tI [v50.toInt32, v52.toInt32, v54.toInt32, v56.toInt32, v58.toInt32] 0)))] H := hP
      have hD : va_D A [(a0, .inr (8, [.int 2, .int 0, .int 1, .int 0, .int 0, .int 0, .ref a1, .ref a2, .int 0, .int 0, .ref a3, .ref a4, .ref a5, .ref a6, .ref a7, .ref a8, .ref a9, .int 5, .int 0, .int 0, .ref a10, .ref a11, .ref a12, .ref a13, .int 0, .int 0, .ref a14, .ref a15, .ref a16, .ref a17, .int 0, .int 0, .ref a18, .ref a19, .ref a20, .ref a21])), (a8, .inl (k 0, 120, .inl (tI [v50.toInt32, v52.toInt32, v54.toInt32, v56.toInt32, v58.toInt32] 0)))] := hD
      refine lv_iinc (v := 5) (lv' := [(4, .int 5), (0, .ref a0), (1, .long x0), (3, .int 7)]) hx hb dX11_feed_68 hl (k := 0) rfl (by decide) (by decide) rfl (fun ls hl => ?_)
      refine lv_goto (tgt := 31) hx hb dX11_feed_71 (by decide) ?_
      refine lv_iload hx hb dX11_feed_31 (lv_at hl 0 rfl) ?_
      refine lv_iload_n hx hb dX11_feed_33 rfl (lv_at hl 3 rfl) ?_
      refine lv_icmp_ge (tgt := 74) hx hb dX11_feed_34 (by decide) (fun cc => absurd cc (by decide +kernel)) (fun _ => ?_)
      refine lv_aload_n hx hb dX11_feed_37 rfl (lv_at hl 1 rfl) ?_
      refine va_get (D := D) (ci := 8) (v := .ref a8) (C := RX11) (T := TX11) (N := 36) hx hb hU iX11 hown hK.1 hP 0 rfl rfl 15 (by decide) (hU _ w800) (fun _ h9 => h9) rfl dX11_feed_38 ?_
      refine lv_aload_n hx hb dX11_feed_41 rfl (lv_at hl 1 rfl) ?_
      refine va_get (D := D) (ci := 8) (v := .int 5) (C := RX11) (T := TX11) (N := 36) hx hb hU iX11 hown hK.1 hP 0 rfl rfl 17 (by decide) (hU _ w802) (fun _ h9 => h9) rfl dX11_feed_42 ?_
      refine lv_lload_n hx hb dX11_feed_45 rfl (lv_at hl 2 rfl) ?_
      refine lv_bipush (v := 8) hx hb dX11_feed_46 (by decide) ?_
      refine lv_iload hx hb dX11_feed_48 (lv_at hl 0 rfl) ?_
      refine lv_imul hx hb dX11_feed_50 (sv_i (v := 40) (by decide +kernel) ?_)
      refine lv_lshr hx hb dX11_feed_51 rfl (lv_topl (fun v59 _ => ?_))
      refine lv_ldc2 hx hb hown (hU _ w1005) dX11_feed_52 ?_
      refine lv_land hx hb dX11_feed_55 (lv_topl (fun v60 _ => ?_))
      refine lv_l2i (v := v60.toInt32) hx hb dX11_feed_56 rfl ?_
      refine st_i (j := 5) (g := tI [v50.toInt32, v52.toInt32, v54.toInt32, v56.toInt32, v58.toInt32, v60.toInt32] 0) hx hb hK hP hD hS 1 rfl (by decide +kernel) upd_tI dX11_feed_57 (fun H locs hP hD hS => ?_)
      have hP : va_P D cl0 [(a0, .inr (8, [.int 2, .int 0, .int 1, .int 0, .int 0, .int 0, .ref a1, .ref a2, .int 0, .int 0, .ref a3, .ref a4, .ref a5, .ref a6, .ref a7, .ref a8, .ref a9, .int 5, .int 0, .int 0, .ref a10, .ref a11, .ref a12, .ref a13, .int 0, .int 0, .ref a14, .ref a15, .ref a16, .ref a17, .int 0, .int 0, .ref a18, .ref a19, .ref a20, .ref a21])), (a8, .inl (k 0, 120, .inl (tI [v50.toInt32, v52.toInt32, v54.toInt32, v56.toInt32, v58.toInt32, v60.toInt32] 0)))] H := hP
      have hD : va_D A [(a0, .inr (8, [.int 2, .int 0, .int 1, .int 0, .int 0, .int 0, .ref a1, .ref a2, .int 0, .int 0, .ref a3, .ref a4, .ref a5, .ref a6, .ref a7, .ref a8, .ref a9, .int 5, .int 0, .int 0, .ref a10, .ref a11, .ref a12, .ref a13, .int 0, .int 0, .ref a14, .ref a15, .ref a16, .ref a17, .int 0, .int 0, .ref a18, .ref a19, .ref a20, .ref a21])), (a8, .inl (k 0, 120, .inl (tI [v50.toInt32, v52.toInt32, v54.toInt32, v56.toInt32, v58.toInt32, v60.toInt32] 0)))] := hD
      refine lv_aload_n hx hb dX11_feed_58 rfl (lv_at hl 1 rfl) ?_
      refine lv_dup hx hb dX11_feed_59 rfl ?_
      refine va_get (D := D) (ci := 8) (v := .int 5) (C := RX11) (T := TX11) (N := 36) hx hb hU iX11 hown hK.1 hP 0 rfl rfl 17 (by decide) (hU _ w802) (fun _ h9 => h9) rfl dX11_feed_60 ?_
      refine lv_iconst (v := 1) hx hb dX11_feed_63 (by decide) ?_
      refine lv_iadd hx hb dX11_feed_64 (sv_i (v := 6) (by decide +kernel) ?_)
      refine va_put (D := D) (ci := 8) (v := .int 6) (ty := .int) (C := RX11) (T := TX11) (N := 36) hx hb hU iX11 tyX11 tyX11_ok nmX11 hown hK.1 hP hD hS 0 rfl rfl 17 (by decide) (hU _ w802) (fun _ h9 => h9) rfl (by decide +kernel) rfl rfl (Nat.le_of_ble_eq_true rfl) dX11_feed_65 (fun H locs hP hD hS => ?_)
      have hP : va_P D cl0 [(a0, .inr (8, [.int 2, .int 0, .int 1, .int 0, .int 0, .int 0, .ref a1, .ref a2, .int 0, .int 0, .ref a3, .ref a4, .ref a5, .ref a6, .ref a7, .ref a8, .ref a9, .int 6, .int 0, .int 0, .ref a10, .ref a11, .ref a12, .ref a13, .int 0, .int 0, .ref a14, .ref a15, .ref a16, .ref a17, .int 0, .int 0, .ref a18, .ref a19, .ref a20, .ref a21])), (a8, .inl (k 0, 120, .inl (tI [v50.toInt32, v52.toInt32, v54.toInt32, v56.toInt32, v58.toInt32, v60.toInt32] 0)))] H := hP
      have hD : va_D A [(a0, .inr (8, [.int 2, .int 0, .int 1, .int 0, .int 0, .int 0, .ref a1, .ref a2, .int 0, .int 0, .ref a3, .ref a4, .ref a5, .ref a6, .ref a7, .ref a8, .ref a9, .int 6, .int 0, .int 0, .ref a10, .ref a11, .ref a12, .ref a13, .int 0, .int 0, .ref a14, .ref a15, .ref a16, .ref a17, .int 0, .int 0, .ref a18, .ref a19, .ref a20, .ref a21])), (a8, .inl (k 0, 120, .inl (tI [v50.toInt32, v52.toInt32, v54.toInt32, v56.toInt32, v58.toInt32, v60.toInt32] 0)))] := hD
      refine lv_iinc (v := 6) (lv' := [(4, .int 6), (0, .ref a0), (1, .long x0), (3, .int 7)]) hx hb dX11_feed_68 hl (k := 0) rfl (by decide) (by decide) rfl (fun ls hl => ?_)
      refine lv_goto (tgt := 31) hx hb dX11_feed_71 (by decide) ?_
      refine lv_iload hx hb dX11_feed_31 (lv_at hl 0 rfl) ?_
      refine lv_iload_n hx hb dX11_feed_33 rfl (lv_at hl 3 rfl) ?_
      refine lv_icmp_ge (tgt := 74) hx hb dX11_feed_34 (by decide) (fun cc => absurd cc (by decide +kernel)) (fun _ => ?_)
      refine lv_aload_n hx hb dX11_feed_37 rfl (lv_at hl 1 rfl) ?_
      refine va_get (D := D) (ci := 8) (v := .ref a8) (C := RX11) (T := TX11) (N := 36) hx hb hU iX11 hown hK.1 hP 0 rfl rfl 15 (by decide) (hU _ w800) (fun _ h9 => h9) rfl dX11_feed_38 ?_
      refine lv_aload_n hx hb dX11_feed_41 rfl (lv_at hl 1 rfl) ?_
      refine va_get (D := D) (ci := 8) (v := .int 6) (C := RX11) (T := TX11) (N := 36) hx hb hU iX11 hown hK.1 hP 0 rfl rfl 17 (by decide) (hU _ w802) (fun _ h9 => h9) rfl dX11_feed_42 ?_
      refine lv_lload_n hx hb dX11_feed_45 rfl (lv_at hl 2 rfl) ?_
      refine lv_bipush (v := 8) hx hb dX11_feed_46 (by decide) ?_
      refine lv_iload hx hb dX11_feed_48 (lv_at hl 0 rfl) ?_
      refine lv_imul hx hb dX11_feed_50 (sv_i (v := 48) (by decide +kernel) ?_)
      refine lv_lshr hx hb dX11_feed_51 rfl (lv_topl (fun v61 _ => ?_))
      refine lv_ldc2 hx hb hown (hU _ w1005) dX11_feed_52 ?_
      refine lv_land hx hb dX11_feed_55 (lv_topl (fun v62 _ => ?_))
      refine lv_l2i (v := v62.toInt32) hx hb dX11_feed_56 rfl ?_
      refine st_i (j := 6) (g := tI [v50.toInt32, v52.toInt32, v54.toInt32, v56.toInt32, v58.toInt32, v60.toInt32, v62.toInt32] 0) hx hb hK hP hD hS 1 rfl (by decide +kernel) upd_tI dX11_feed_57 (fun H locs hP hD hS => ?_)
      have hP : va_P D cl0 [(a0, .inr (8, [.int 2, .int 0, .int 1, .int 0, .int 0, .int 0, .ref a1, .ref a2, .int 0, .int 0, .ref a3, .ref a4, .ref a5, .ref a6, .ref a7, .ref a8, .ref a9, .int 6, .int 0, .int 0, .ref a10, .ref a11, .ref a12, .ref a13, .int 0, .int 0, .ref a14, .ref a15, .ref a16, .ref a17, .int 0, .int 0, .ref a18, .ref a19, .ref a20, .ref a21])), (a8, .inl (k 0, 120, .inl (tI [v50.toInt32, v52.toInt32, v54.toInt32, v56.toInt32, v58.toInt32, v60.toInt32, v62.toInt32] 0)))] H := hP
      have hD : va_D A [(a0, .inr (8, [.int 2, .int 0, .int 1, .int 0, .int 0, .int 0, .ref a1, .ref a2, .int 0, .int 0, .ref a3, .ref a4, .ref a5, .ref a6, .ref a7, .ref a8, .ref a9, .int 6, .int 0, .int 0, .ref a10, .ref a11, .ref a12, .ref a13, .int 0, .int 0, .ref a14, .ref a15, .ref a16, .ref a17, .int 0, .int 0, .ref a18, .ref a19, .ref a20, .ref a21])), (a8, .inl (k 0, 120, .inl (tI [v50.toInt32, v52.toInt32, v54.toInt32, v56.toInt32, v58.toInt32, v60.toInt32, v62.toInt32] 0)))] := hD
      refine lv_aload_n hx hb dX11_feed_58 rfl (lv_at hl 1 rfl) ?_
      refine lv_dup hx hb dX11_feed_59 rfl ?_
      refine va_get (D := D) (ci := 8) (v := .int 6) (C := RX11) (T := TX11) (N := 36) hx hb hU iX11 hown hK.1 hP 0 rfl rfl 17 (by decide) (hU _ w802) (fun _ h9 => h9) rfl dX11_feed_60 ?_
      refine lv_iconst (v := 1) hx hb dX11_feed_63 (by decide) ?_
      refine lv_iadd hx hb dX11_feed_64 (sv_i (v := 7) (by decide +kernel) ?_)
      refine va_put (D := D) (ci := 8) (v := .int 7) (ty := .int) (C := RX11) (T := TX11) (N := 36) hx hb hU iX11 tyX11 tyX11_ok nmX11 hown hK.1 hP hD hS 0 rfl rfl 17 (by decide) (hU _ w802) (fun _ h9 => h9) rfl (by decide +kernel) rfl rfl (Nat.le_of_ble_eq_true rfl) dX11_feed_65 (fun H locs hP hD hS => ?_)
      have hP : va_P D cl0 [(a0, .inr (8, [.int 2, .int 0, .int 1, .int 0, .int 0, .int 0, .ref a1, .ref a2, .int 0, .int 0, .ref a3, .ref a4, .ref a5, .ref a6, .ref a7, .ref a8, .ref a9, .int 7, .int 0, .int 0, .ref a10, .ref a11, .ref a12, .ref a13, .int 0, .int 0, .ref a14, .ref a15, .ref a16, .ref a17, .int 0, .int 0, .ref a18, .ref a19, .ref a20, .ref a21])), (a8, .inl (k 0, 120, .inl (tI [v50.toInt32, v52.toInt32, v54.toInt32, v56.toInt32, v58.toInt32, v60.toInt32, v62.toInt32] 0)))] H := hP
      have hD : va_D A [(a0, .inr (8, [.int 2, .int 0, .int 1, .int 0, .int 0, .int 0, .ref a1, .ref a2, .int 0, .int 0, .ref a3, .ref a4, .ref a5, .ref a6, .ref a7, .ref a8, .ref a9, .int 7, .int 0, .int 0, .ref a10, .ref a11, .ref a12, .ref a13, .int 0, .int 0, .ref a14, .ref a15, .ref a16, .ref a17, .int 0, .int 0, .ref a18, .ref a19, .ref a20, .ref a21])), (a8, .inl (k 0, 120, .inl (tI [v50.toInt32, v52.toInt32, v54.toInt32, v56.toInt32, v58.toInt32, v60.toInt32, v62.toInt32] 0)))] := hD
      refine lv_iinc (v := 7) (lv' := [(4, .int 7), (0, .ref a0), (1, .long x0), (3, .int 7)]) hx hb dX11_feed_68 hl (k := 0) rfl (by decide) (by decide) rfl (fun ls hl => ?_)
      refine lv_goto (tgt := 31) hx hb dX11_feed_71 (by decide) ?_
      refine lv_iload hx hb dX11_feed_31 (lv_at hl 0 rfl) ?_
      refine lv_iload_n hx hb dX11_feed_33 rfl (lv_at hl 3 rfl) ?_
      refine lv_icmp_ge (tgt := 74) hx hb dX11_feed_34 (by decide) (fun _ => ?_) (fun cc => absurd (by decide +kernel) cc)
      refine lv_aload_n hx hb dX11_feed_74 rfl (lv_at hl 1 rfl) ?_
      refine va_get (D := D) (ci := 8) (v := .int 7) (C := RX11) (T := TX11) (N := 36) hx hb hU iX11 hown hK.1 hP 0 rfl rfl 17 (by decide) (hU _ w802) (fun _ h9 => h9) rfl dX11_feed_75 ?_
      exact retI (v := 7) hx hb hr hlocks hS (show (7 : Int32) = F_feed x0 7 by first | decide +kernel | (have g_7 : (7 : Int32).toInt = 7 := (by decide +kernel); unfold F_feed; (repeat (first | rw [if_pos (by omega)] | rw [if_neg (by omega)])))) dX11_feed_78
    · skip
      obtain rfl : x1 = 8 := eq32 hsp (by decide +kernel)
      refine lv_icmp_le (tgt := 28) hx hb dX11_feed_22 (by decide) (fun _ => ?_) (fun cc => absurd (by decide +kernel) cc)
      refine lv_iconst (v := 0) hx hb dX11_feed_28 (by decide) ?_
      refine lv_istore (lv' := [(4, .int 0), (0, .ref a0), (1, .long x0), (3, .int 8)]) hx hb dX11_feed_29 hl (by decide) rfl (fun ls hl => ?_)
      refine lv_iload hx hb dX11_feed_31 (lv_at hl 0 rfl) ?_
      refine lv_iload_n hx hb dX11_feed_33 rfl (lv_at hl 3 rfl) ?_
      refine lv_icmp_ge (tgt := 74) hx hb dX11_feed_34 (by decide) (fun cc => absurd cc (by decide +kernel)) (fun _ => ?_)
      refine lv_aload_n hx hb dX11_feed_37 rfl (lv_at hl 1 rfl) ?_
      refine va_get (D := D) (ci := 8) (v := .ref a8) (C := RX11) (T := TX11) (N := 36) hx hb hU iX11 hown hK.1 hP 0 rfl rfl 15 (by decide) (hU _ w800) (fun _ h9 => h9) rfl dX11_feed_38 ?_
      refine lv_aload_n hx hb dX11_feed_41 rfl (lv_at hl 1 rfl) ?_
      refine va_get (D := D) (ci := 8) (v := .int 0) (C := RX11) (T := TX11) (N := 36) hx hb hU iX11 hown hK.1 hP 0 rfl rfl 17 (by decide) (hU _ w802) (fun _ h9 => h9) rfl dX11_feed_42 ?_
      refine lv_lload_n hx hb dX11_feed_45 rfl (lv_at hl 2 rfl) ?_
      refine lv_bipush (v := 8) hx hb dX11_feed_46 (by decide) ?_
      refine lv_iload hx hb dX11_feed_48 (lv_at hl 0 rfl) ?_
      refine lv_imul hx hb dX11_feed_50 (sv_i (v := 0) (by decide +kernel) ?_)
      refine lv_lshr hx hb dX11_feed_51 rfl (lv_topl (fun v63 _ => ?_))
      refine lv_ldc2 hx hb hown (hU _ w1005) dX11_feed_52 ?_
      refine lv_land hx hb dX11_feed_55 (lv_topl (fun v64 _ => ?_))
      refine lv_l2i (v := v64.toInt32) hx hb dX11_feed_56 rfl ?_
      refine st_i (j := 0) (g := tI [v64.toInt32] 0) hx hb hK hP hD hS 1 rfl (by decide +kernel) upd_tI dX11_feed_57 (fun H locs hP hD hS => ?_)
      have hP : va_P D cl0 [(a0, .inr (8, [.int 2, .int 0, .int 1, .int 0, .int 0, .int 0, .ref a1, .ref a2, .int 0, .int 0, .ref a3, .ref a4, .ref a5, .ref a6, .ref a7, .ref a8, .ref a9, .int 0, .int 0, .int 0, .ref a10, .ref a11, .ref a12, .ref a13, .int 0, .int 0, .ref a14, .ref a15, .ref a16, .ref a17, .int 0, .int 0, .ref a18, .ref a19, .ref a20, .ref a21])), (a8, .inl (k 0, 120, .inl (tI [v64.toInt32] 0)))] H := hP
      have hD : va_D A [(a0, .inr (8, [.int 2, .int 0, .int 1, .int 0, .int 0, .int 0, .ref a1, .ref a2, .int 0, .int 0, .ref a3, .ref a4, .ref a5, .ref a6, .ref a7, .ref a8, .ref a9, .int 0, .int 0, .int 0, .ref a10, .ref a11, .ref a12, .ref a13, .int 0, .int 0, .ref a14, .ref a15, .ref a16, .ref a17, .int 0, .int 0, .ref a18, .ref a19, .ref a20, .ref a21])), (a8, .inl (k 0, 120, .inl (tI [v64.toInt32] 0)))] := hD
      refine lv_aload_n hx hb dX11_feed_58 rfl (lv_at hl 1 rfl) ?_
      refine lv_dup hx hb dX11_feed_59 rfl ?_
      refine va_get (D := D) (ci := 8) (v := .int 0) (C := RX11) (T := TX11) (N := 36) hx hb hU iX11 hown hK.1 hP 0 rfl rfl 17 (by decide) (hU _ w802) (fun _ h9 => h9) rfl dX11_feed_60 ?_
      refine lv_iconst (v := 1) hx hb dX11_feed_63 (by decide) ?_
      refine lv_iadd hx hb dX11_feed_64 (sv_i (v := 1) (by decide +kernel) ?_)
      refine va_put (D := D) (ci := 8) (v := .int 1) (ty := .int) (C := RX11) (T := TX11) (N := 36) hx hb hU iX11 tyX11 tyX11_ok nmX11 hown hK.1 hP hD hS 0 rfl rfl 17 (by decide) (hU _ w802) (fun _ h9 => h9) rfl (by decide +kernel) rfl rfl (Nat.le_of_ble_eq_true rfl) dX11_feed_65 (fun H locs hP hD hS => ?_)
      have hP : va_P D cl0 [(a0, .inr (8, [.int 2, .int 0, .int 1, .int 0, .int 0, .int 0, .ref a1, .ref a2, .int 0, .int 0, .ref a3, .ref a4, .ref a5, .ref a6, .ref a7, .ref a8, .ref a9, .int 1, .int 0, .int 0, .ref a10, .ref a11, .ref a12, .ref a13, .int 0, .int 0, .ref a14, .ref a15, .ref a16, .ref a17, .int 0, .int 0, .ref a18, .ref a19, .ref a20, .ref a21])), (a8, .inl (k 0, 120, .inl (tI [v64.toInt32] 0)))] H := hP
      have hD : va_D A [(a0, .inr (8, [.int 2, .int 0, .int 1, .int 0, .int 0, .int 0, .ref a1, .ref a2, .int 0, .int 0, .ref a3, .ref a4, .ref a5, .ref a6, .ref a7, .ref a8, .ref a9, .int 1, .int 0, .int 0, .ref a10, .ref a11, .ref a12, .ref a13, .int 0, .int 0, .ref a14, .ref a15, .ref a16, .ref a17, .int 0, .int 0, .ref a18, .ref a19, .ref a20, .ref a21])), (a8, .inl (k 0, 120, .inl (tI [v64.toInt32] 0)))] := hD
      refine lv_iinc (v := 1) (lv' := [(4, .int 1), (0, .ref a0), (1, .long x0), (3, .int 8)]) hx hb dX11_feed_68 hl (k := 0) rfl (by decide) (by decide) rfl (fun ls hl => ?_)
      refine lv_goto (tgt := 31) hx hb dX11_feed_71 (by decide) ?_
      refine lv_iload hx hb dX11_feed_31 (lv_at hl 0 rfl) ?_
      refine lv_iload_n hx hb dX11_feed_33 rfl (lv_at hl 3 rfl) ?_
      refine lv_icmp_ge (tgt := 74) hx hb dX11_feed_34 (by decide) (fun cc => absurd cc (by decide +kernel)) (fun _ => ?_)
      refine lv_aload_n hx hb dX11_feed_37 rfl (lv_at hl 1 rfl) ?_
      refine va_get (D := D) (ci := 8) (v := .ref a8) (C := RX11) (T := TX11) (N := 36) hx hb hU iX11 hown hK.1 hP 0 rfl rfl 15 (by decide) (hU _ w800) (fun _ h9 => h9) rfl dX11_feed_38 ?_
      refine lv_aload_n hx hb dX11_feed_41 rfl (lv_at hl 1 rfl) ?_
      refine va_get (D := D) (ci := 8) (v := .int 1) (C := RX11) (T := TX11) (N := 36) hx hb hU iX11 hown hK.1 hP 0 rfl rfl 17 (by decide) (hU _ w802) (fun _ h9 => h9) rfl dX11_feed_42 ?_
      refine lv_lload_n hx hb dX11_feed_45 rfl (lv_at hl 2 rfl) ?_
      refine lv_bipush (v := 8) hx hb dX11_feed_46 (by decide) ?_
      refine lv_iload hx hb dX11_feed_48 (lv_at hl 0 rfl) ?_
      refine lv_imul hx hb dX11_feed_50 (sv_i (v := 8) (by decide +kernel) ?_)
      refine lv_lshr hx hb dX11_feed_51 rfl (lv_topl (fun v65 _ => ?_))
      refine lv_ldc2 hx hb hown (hU _ w1005) dX11_feed_52 ?_
      refine lv_land hx hb dX11_feed_55 (lv_topl (fun v66 _ => ?_))
      refine lv_l2i (v := v66.toInt32) hx hb dX11_feed_56 rfl ?_
      refine st_i (j := 1) (g := tI [v64.toInt32, v66.toInt32] 0) hx hb hK hP hD hS 1 rfl (by decide +kernel) upd_tI dX11_feed_57 (fun H locs hP hD hS => ?_)
      have hP : va_P D cl0 [(a0, .inr (8, [.int 2, .int 0, .int 1, .int 0, .int 0, .int 0, .ref a1, .ref a2, .int 0, .int 0, .ref a3, .ref a4, .ref a5, .ref a6, .ref a7, .ref a8, .ref a9, .int 1, .int 0, .int 0, .ref a10, .ref a11, .ref a12, .ref a13, .int 0, .int 0, .ref a14, .ref a15, .ref a16, .ref a17, .int 0, .int 0, .ref a18, .ref a19, .ref a20, .ref a21])), (a8, .inl (k 0, 120, .inl (tI [v64.toInt32, v66.toInt32] 0)))] H := hP
      have hD : va_D A [(a0, .inr (8, [.int 2, .int 0, .int 1, .int 0, .int 0, .int 0, .ref a1, .ref a2, .int 0, .int 0, .ref a3, .ref a4, .ref a5, .ref a6, .ref a7, .ref a8, .ref a9, .int 1, .int 0, .int 0, .ref a10, .ref a11, .ref a12, .ref a13, .int 0, .int 0, .ref a14, .ref a15, .ref a16, .ref a17, .int 0, .int 0, .ref a18, .ref a19, .ref a20, .ref a21])), (a8, .inl (k 0, 120, .inl (tI [v64.toInt32, v66.toInt32] 0)))] := hD
      refine lv_aload_n hx hb dX11_feed_58 rfl (lv_at hl 1 rfl) ?_
      refine lv_dup hx hb dX11_feed_59 rfl ?_
      refine va_get (D := D) (ci := 8) (v := .int 1) (C := RX11) (T := TX11) (N := 36) hx hb hU iX11 hown hK.1 hP 0 rfl rfl 17 (by decide) (hU _ w802) (fun _ h9 => h9) rfl dX11_feed_60 ?_
      refine lv_iconst (v := 1) hx hb dX11_feed_63 (by decide) ?_
      refine lv_iadd hx hb dX11_feed_64 (sv_i (v := 2) (by decide +kernel) ?_)
      refine va_put (D := D) (ci := 8) (v := .int 2) (ty := .int) (C := RX11) (T := TX11) (N := 36) hx hb hU iX11 tyX11 tyX11_ok nmX11 hown hK.1 hP hD hS 0 rfl rfl 17 (by decide) (hU _ w802) (fun _ h9 => h9) rfl (by decide +kernel) rfl rfl (Nat.le_of_ble_eq_true rfl) dX11_feed_65 (fun H locs hP hD hS => ?_)
      have hP : va_P D cl0 [(a0, .inr (8, [.int 2, .int 0, .int 1, .int 0, .int 0, .int 0, .ref a1, .ref a2, .int 0, .int 0, .ref a3, .ref a4, .ref a5, .ref a6, .ref a7, .ref a8, .ref a9, .int 2, .int 0, .int 0, .ref a10, .ref a11, .ref a12, .ref a13, .int 0, .int 0, .ref a14, .ref a15, .ref a16, .ref a17, .int 0, .int 0, .ref a18, .ref a19, .ref a20, .ref a21])), (a8, .inl (k 0, 120, .inl (tI [v64.toInt32, v66.toInt32] 0)))] H := hP
      have hD : va_D A [(a0, .inr (8, [.int 2, .int 0, .int 1, .int 0, .int 0, .int 0, .ref a1, .ref a2, .int 0, .int 0, .ref a3, .ref a4, .ref a5, .ref a6, .ref a7, .ref a8, .ref a9, .int 2, .int 0, .int 0, .ref a10, .ref a11, .ref a12, .ref a13, .int 0, .int 0, .ref a14, .ref a15, .ref a16, .ref a17, .int 0, .int 0, .ref a18, .ref a19, .ref a20, .ref a21])), (a8, .inl (k 0, 120, .inl (tI [v64.toInt32, v66.toInt32] 0)))] := hD
      refine lv_iinc (v := 2) (lv' := [(4, .int 2), (0, .ref a0), (1, .long x0), (3, .int 8)]) hx hb dX11_feed_68 hl (k := 0) rfl (by decide) (by decide) rfl (fun ls hl => ?_)
      refine lv_goto (tgt := 31) hx hb dX11_feed_71 (by decide) ?_
      refine lv_iload hx hb dX11_feed_31 (lv_at hl 0 rfl) ?_
      refine lv_iload_n hx hb dX11_feed_33 rfl (lv_at hl 3 rfl) ?_
      refine lv_icmp_ge (tgt := 74) hx hb dX11_feed_34 (by decide) (fun cc => absurd cc (by decide +kernel)) (fun _ => ?_)
      refine lv_aload_n hx hb dX11_feed_37 rfl (lv_at hl 1 rfl) ?_
      refine va_get (D := D) (ci := 8) (v := .ref a8) (C := RX11) (T := TX11) (N := 36) hx hb hU iX11 hown hK.1 hP 0 rfl rfl 15 (by decide) (hU _ w800) (fun _ h9 => h9) rfl dX11_feed_38 ?_
      refine lv_aload_n hx hb dX11_feed_41 rfl (lv_at hl 1 rfl) ?_
      refine va_get (D := D) (ci := 8) (v := .int 2) (C := RX11) (T := TX11) (N := 36) hx hb hU iX11 hown hK.1 hP 0 rfl rfl 17 (by decide) (hU _ w802) (fun _ h9 => h9) rfl dX11_feed_42 ?_
      refine lv_lload_n hx hb dX11_feed_45 rfl (lv_at hl 2 rfl) ?_
      refine lv_bipush (v := 8) hx hb dX11_feed_46 (by decide) ?_
      refine lv_iload hx hb dX11_feed_48 (lv_at hl 0 rfl) ?_
      refine lv_imul hx hb dX11_feed_50 (sv_i (v := 16) (by decide +kernel) ?_)
      refine lv_lshr hx hb dX11_feed_51 rfl (lv_topl (fun v67 _ => ?_))
      refine lv_ldc2 hx hb hown (hU _ w1005) dX11_feed_52 ?_
      refine lv_land hx hb dX11_feed_55 (lv_topl (fun v68 _ => ?_))
      refine lv_l2i (v := v68.toInt32) hx hb dX11_feed_56 rfl ?_
      refine st_i (j := 2) (g := tI [v64.toInt32, v66.toInt32, v68.toInt32] 0) hx hb hK hP hD hS 1 rfl (by decide +kernel) upd_tI dX11_feed_57 (fun H locs hP hD hS => ?_)
      have hP : va_P D cl0 [(a0, .inr (8, [.int 2, .int 0, .int 1, .int 0, .int 0, .int 0, .ref a1, .ref a2, .int 0, .int 0, .ref a3, .ref a4, .ref a5, .ref a6, .ref a7, .ref a8, .ref a9, .int 2, .int 0, .int 0, .ref a10, .ref a11, .ref a12, .ref a13, .int 0, .int 0, .ref a14, .ref a15, .ref a16, .ref a17, .int 0, .int 0, .ref a18, .ref a19, .ref a20, .ref a21])), (a8, .inl (k 0, 120, .inl (tI [v64.toInt32, v66.toInt32, v68.toInt32] 0)))] H := hP
      have hD : va_D A [(a0, .inr (8, [.int 2, .int 0, .int 1, .int 0, .int 0, .int 0, .ref a1, .ref a2, .int 0, .int 0, .ref a3, .ref a4, .ref a5, .ref a6, .ref a7, .ref a8, .ref a9, .int 2, .int 0, .int 0, .ref a10, .ref a11, .ref a12, .ref a13, .int 0, .int 0, .ref a14, .ref a15, .ref a16, .ref a17, .int 0, .int 0, .ref a18, .ref a19, .ref a20, .ref a21])), (a8, .inl (k 0, 120, .inl (tI [v64.toInt32, v66.toInt32, v68.toInt32] 0)))] := hD
      refine lv_aload_n hx hb dX11_feed_58 rfl (lv_at hl 1 rfl) ?_
      refine lv_dup hx hb dX11_feed_59 rfl ?_
      refine va_get (D := D) (ci := 8) (v := .int 2) (C := RX11) (T := TX11) (N := 36) hx hb hU iX11 hown hK.1 hP 0 rfl rfl 17 (by decide) (hU _ w802) (fun _ h9 => h9) rfl dX11_feed_60 ?_
      refine lv_iconst (v := 1) hx hb dX11_feed_63 (by decide) ?_
      refine lv_iadd hx hb dX11_feed_64 (sv_i (v := 3) (by decide +kernel) ?_)
      refine va_put (D := D) (ci := 8) (v := .int 3) (ty := .int) (C := RX11) (T := TX11) (N := 36) hx hb hU iX11 tyX11 tyX11_ok nmX11 hown hK.1 hP hD hS 0 rfl rfl 17 (by decide) (hU _ w802) (fun _ h9 => h9) rfl (by decide +kernel) rfl rfl (Nat.le_of_ble_eq_true rfl) dX11_feed_65 (fun H locs hP hD hS => ?_)
      have hP : va_P D cl0 [(a0, .inr (8, [.int 2, .int 0, .int 1, .int 0, .int 0, .int 0, .ref a1, .ref a2, .int 0, .int 0, .ref a3, .ref a4, .ref a5, .ref a6, .ref a7, .ref a8, .ref a9, .int 3, .int 0, .int 0, .ref a10, .ref a11, .ref a12, .ref a13, .int 0, .int 0, .ref a14, .ref a15, .ref a16, .ref a17, .int 0, .int 0, .ref a18, .ref a19, .ref a20, .ref a21])), (a8, .inl (k 0, 120, .inl (tI [v64.toInt32, v66.toInt32, v68.toInt32] 0)))] H := hP
      have hD : va_D A [(a0, .inr (8, [.int 2, .int 0, .int 1, .int 0, .int 0, .int 0, .ref a1, .ref a2, .int 0, .int 0, .ref a3, .ref a4, .ref a5, .ref a6, .ref a7, .ref a8, .ref a9, .int 3, .int 0, .int 0, .ref a10, .ref a11, .ref a12, .ref a13, .int 0, .int 0, .ref a14, .ref a15, .ref a16, .ref a17, .int 0, .int 0, .ref a18, .ref a19, .ref a20, .ref a21])), (a8, .inl (k 0, 120, .inl (tI [v64.toInt32, v66.toInt32, v68.toInt32] 0)))] := hD
      refine lv_iinc (v := 3) (lv' := [(4, .int 3), (0, .ref a0), (1, .long x0), (3, .int 8)]) hx hb dX11_feed_68 hl (k := 0) rfl (by decide) (by decide) rfl (fun ls hl => ?_)
      refine lv_goto (tgt := 31) hx hb dX11_feed_71 (by decide) ?_
      refine lv_iload hx hb dX11_feed_31 (lv_at hl 0 rfl) ?_
      refine lv_iload_n hx hb dX11_feed_33 rfl (lv_at hl 3 rfl) ?_
      refine lv_icmp_ge (tgt := 74) hx hb dX11_feed_34 (by decide) (fun cc => absurd cc (by decide +kernel)) (fun _ => ?_)
      refine lv_aload_n hx hb dX11_feed_37 rfl (lv_at hl 1 rfl) ?_
      refine va_get (D := D) (ci := 8) (v := .ref a8) (C := RX11) (T := TX11) (N := 36) hx hb hU iX11 hown hK.1 hP 0 rfl rfl 15 (by decide) (hU _ w800) (fun _ h9 => h9) rfl dX11_feed_38 ?_
      refine lv_aload_n hx hb dX11_feed_41 rfl (lv_at hl 1 rfl) ?_
      refine va_get (D := D) (ci := 8) (v := .int 3) (C := RX11) (T := TX11) (N := 36) hx hb hU iX11 hown hK.1 hP 0 rfl rfl 17 (by decide) (hU _ w802) (fun _ h9 => h9) rfl dX11_feed_42 ?_
      refine lv_lload_n hx hb dX11_feed_45 rfl (lv_at hl 2 rfl) ?_
      refine lv_bipush (v := 8) hx hb dX11_feed_46 (by decide) ?_
      refine lv_iload hx hb dX11_feed_48 (lv_at hl 0 rfl) ?_
      refine lv_imul hx hb dX11_feed_50 (sv_i (v := 24) (by decide +kernel) ?_)
      refine lv_lshr hx hb dX11_feed_51 rfl (lv_topl (fun v69 _ => ?_))
      refine lv_ldc2 hx hb hown (hU _ w1005) dX11_feed_52 ?_
      refine lv_land hx hb dX11_feed_55 (lv_topl (fun v70 _ => ?_))
      refine lv_l2i (v := v70.toInt32) hx hb dX11_feed_56 rfl ?_
      refine st_i (j := 3) (g := tI [v64.toInt32, v66.toInt32, v68.toInt32, v70.toInt32] 0) hx hb hK hP hD hS 1 rfl (by decide +kernel) upd_tI dX11_feed_57 (fun H locs hP hD hS => ?_)
      have hP : va_P D cl0 [(a0, .inr (8, [.int 2, .int 0, .int 1, .int 0, .int 0, .int 0, .ref a1, .ref a2, .int 0, .int 0, .ref a3, .ref a4, .ref a5, .ref a6, .ref a7, .ref a8, .ref a9, .int 3, .int 0, .int 0, .ref a10, .ref a11, .ref a12, .ref a13, .int 0, .int 0, .ref a14, .ref a15, .ref a16, .ref a17, .int 0, .int 0, .ref a18, .ref a19, .ref a20, .ref a21])), (a8, .inl (k 0, 120, .inl (tI [v64.toInt32, v66.toInt32, v68.toInt32, v70.toInt32] 0)))] H := hP
      have hD : va_D A [(a0, .inr (8, [.int 2, .int 0, .int 1, .int 0, .int 0, .int 0, .ref a1, .ref a2, .int 0, .int 0, .ref a3, .ref a4, .ref a5, .ref a6, .ref a7, .ref a8, .ref a9, .int 3, .int 0, .int 0, .ref a10, .ref a11, .ref a12, .ref a13, .int 0, .int 0, .ref a14, .ref a15, .ref a16, .ref a17, .int 0, .int 0, .ref a18, .ref a19, .ref a20, .ref a21])), (a8, .inl (k 0, 120, .inl (tI [v64.toInt32, v66.toInt32, v68.toInt32, v70.toInt32] 0)))] := hD
      refine lv_aload_n hx hb dX11_feed_58 rfl (lv_at hl 1 rfl) ?_
      refine lv_dup hx hb dX11_feed_59 rfl ?_
      refine va_get (D := D) (ci := 8) (v := .int 3) (C := RX11) (T := TX11) (N := 36) hx hb hU iX11 hown hK.1 hP 0 rfl rfl 17 (by decide) (hU _ w802) (fun _ h9 => h9) rfl dX11_feed_60 ?_
      refine lv_iconst (v := 1) hx hb dX11_feed_63 (by decide) ?_
      refine lv_iadd hx hb dX11_feed_64 (sv_i (v := 4) (by decide +kernel) ?_)
      refine va_put (D := D) (ci := 8) (v := .int 4) (ty := .int) (C := RX11) (T := TX11) (N := 36) hx hb hU iX11 tyX11 tyX11_ok nmX11 hown hK.1 hP hD hS 0 rfl rfl 17 (by decide) (hU _ w802) (fun _ h9 => h9) rfl (by decide +kernel) rfl rfl (Nat.le_of_ble_eq_true rfl) dX11_feed_65 (fun H locs hP hD hS => ?_)
      have hP : va_P D cl0 [(a0, .inr (8, [.int 2, .int 0, .int 1, .int 0, .int 0, .int 0, .ref a1, .ref a2, .int 0, .int 0, .ref a3, .ref a4, .ref a5, .ref a6, .ref a7, .ref a8, .ref a9, .int 4, .int 0, .int 0, .ref a10, .ref a11, .ref a12, .ref a13, .int 0, .int 0, .ref a14, .ref a15, .ref a16, .ref a17, .int 0, .int 0, .ref a18, .ref a19, .ref a20, .ref a21])), (a8, .inl (k 0, 120, .inl (tI [v64.toInt32, v66.toInt32, v68.toInt32, v70.toInt32] 0)))] H := hP
      have hD : va_D A [(a0, .inr (8, [.int 2, .int 0, .int 1, .int 0, .int 0, .int 0, .ref a1, .ref a2, .int 0, .int 0, .ref a3, .ref a4, .ref a5, .ref a6, .ref a7, .ref a8, .ref a9, .int 4, .int 0, .int 0, .ref a10, .ref a11, .ref a12, .ref a13, .int 0, .int 0, .ref a14, .ref a15, .ref a16, .ref a17, .int 0, .int 0, .ref a18, .ref a19, .ref a20, .ref a21])), (a8, .inl (k 0, 120, .inl (tI [v64.toInt32, v66.toInt32, v68.toInt32, v70.toInt32] 0)))] := hD
      refine lv_iinc (v := 4) (lv' := [(4, .int 4), (0, .ref a0), (1, .long x0), (3, .int 8)]) hx hb dX11_feed_68 hl (k := 0) rfl (by decide) (by decide) rfl (fun ls hl => ?_)
      refine lv_goto (tgt := 31) hx hb dX11_feed_71 (by decide) ?_
      refine lv_iload hx hb dX11_feed_31 (lv_at hl 0 rfl) ?_
      refine lv_iload_n hx hb dX11_feed_33 rfl (lv_at hl 3 rfl) ?_
      refine lv_icmp_ge (tgt := 74) hx hb dX11_feed_34 (by decide) (fun cc => absurd cc (by decide +kernel)) (fun _ => ?_)
      refine lv_aload_n hx hb dX11_feed_37 rfl (lv_at hl 1 rfl) ?_
      refine va_get (D := D) (ci := 8) (v := .ref a8) (C := RX11) (T := TX11) (N := 36) hx hb hU iX11 hown hK.1 hP 0 rfl rfl 15 (by decide) (hU _ w800) (fun _ h9 => h9) rfl dX11_feed_38 ?_
      refine lv_aload_n hx hb dX11_feed_41 rfl (lv_at hl 1 rfl) ?_
      refine va_get (D := D) (ci := 8) (v := .int 4) (C := RX11) (T := TX11) (N := 36) hx hb hU iX11 hown hK.1 hP 0 rfl rfl 17 (by decide) (hU _ w802) (fun _ h9 => h9) rfl dX11_feed_42 ?_
      refine lv_lload_n hx hb dX11_feed_45 rfl (lv_at hl 2 rfl) ?_
      refine lv_bipush (v := 8) hx hb dX11_feed_46 (by decide) ?_
      refine lv_iload hx hb dX11_feed_48 (lv_at hl 0 rfl) ?_
      refine lv_imul hx hb dX11_feed_50 (sv_i (v := 32) (by decide +kernel) ?_)
      refine lv_lshr hx hb dX11_feed_51 rfl (lv_topl (fun v71 _ => ?_))
      refine lv_ldc2 hx hb hown (hU _ w1005) dX11_feed_52 ?_
      refine lv_land hx hb dX11_feed_55 (lv_topl (fun v72 _ => ?_))
      refine lv_l2i (v := v72.toInt32) hx hb dX11_feed_56 rfl ?_
      refine st_i (j := 4) (g := tI [v64.toInt32, v66.toInt32, v68.toInt32, v70.toInt32, v72.toInt32] 0) hx hb hK hP hD hS 1 rfl (by decide +kernel) upd_tI dX11_feed_57 (fun H locs hP hD hS => ?_)
      have hP : va_P D cl0 [(a0, .inr (8, [.int 2, .int 0, .int 1, .int 0, .int 0, .int 0, .ref a1, .ref a2, .int 0, .int 0, .ref a3, .ref a4, .ref a5, .ref a6, .ref a7, .ref a8, .ref a9, .int 4, .int 0, .int 0, .ref a10, .ref a11, .ref a12, .ref a13, .int 0, .int 0, .ref a14, .ref a15, .ref a16, .ref a17, .int 0, .int 0, .ref a18, .ref a19, .ref a20, .ref a21])), (a8, .inl (k 0, 120, .inl (tI [v64.toInt32, v66.toInt32, v68.toInt32, v70.toInt32, v72.toInt32] 0)))] H := hP
      have hD : va_D A [(a0, .inr (8, [.int 2, .int 0, .int 1, .int 0, .int 0, .int 0, .ref a1, .ref a2, .int 0, .int 0, .ref a3, .ref a4, .ref a5, .ref a6, .ref a7, .ref a8, .ref a9, .int 4, .int 0, .int 0, .ref a10, .ref a11, .ref a12, .ref a13, .int 0, .int 0, .ref a14, .ref a15, .ref a16, .ref a17, .int 0, .int 0, .ref a18, .ref a19, .ref a20, .ref a21])), (a8, .inl (k 0, 120, .inl (tI [v64.toInt32, v66.toInt32, v68.toInt32, v70.toInt32, v72.toInt32] 0)))] := hD
      refine lv_aload_n hx hb dX11_feed_58 rfl (lv_at hl 1 rfl) ?_
      refine lv_dup hx hb dX11_feed_59 rfl ?_
      refine va_get (D := D) (ci := 8) (v := .int 4) (C := RX11) (T := TX11) (N := 36) hx hb hU iX11 hown hK.1 hP 0 rfl rfl 17 (by decide) (hU _ w802) (fun _ h9 => h9) rfl dX11_feed_60 ?_
      refine lv_iconst (v := 1) hx hb dX11_feed_63 (by decide) ?_
      refine lv_iadd hx hb dX11_feed_64 (sv_i (v := 5) (by decide +kernel) ?_)
      refine va_put (D := D) (ci := 8) (v := .int 5) (ty := .int) (C := RX11) (T := TX11) (N := 36) hx hb hU iX11 tyX11 tyX11_ok nmX11 hown hK.1 hP hD hS 0 rfl rfl 17 (by decide) (hU _ w802) (fun _ h9 => h9) rfl (by decide +kernel) rfl rfl (Nat.le_of_ble_eq_true rfl) dX11_feed_65 (fun H locs hP hD hS => ?_)
      have hP : va_P D cl0 [(a0, .inr (8, [.int 2, .int 0, .int 1, .int 0, .int 0, .int 0, .ref a1, .ref a2, .int 0, .int 0, .ref a3, .ref a4, .ref a5, .ref a6, .ref a7, .ref a8, .ref a9, .int 5, .int 0, .int 0, .ref a10, .ref a11, .ref a12, .ref a13, .int 0, .int 0, .ref a14, .ref a15, .ref a16, .ref a17, .int 0, .int 0, .ref a18, .ref a19, .ref a20, .ref a21])), (a8, .inl (k 0, 120, .inl (tI [v64.toInt32, v66.toInt32, v68.toInt32, v70.toInt32, v72.toInt32] 0)))] H := hP
      have hD : va_D A [(a0, .inr (8, [.int 2, .int 0, .int 1, .int 0, .int 0, .int 0, .ref a1, .ref a2, .int 0, .int 0, .ref a3, .ref a4, .ref a5, .ref a6, .ref a7, .ref a8, .ref a9, .int 5, .int 0, .int 0, .ref a10, .ref a11, .ref a12, .ref a13, .int 0, .int 0, .ref a14, .ref a15, .ref a16, .ref a17, .int 0, .int 0, .ref a18, .ref a19, .ref a20, .ref a21])), (a8, .inl (k 0, 120, .inl (tI [v64.toInt32, v66.toInt32, v68.toInt32, v70.toInt32, v72.toInt32] 0)))] := hD
      refine lv_iinc (v := 5) (lv' := [(4, .int 5), (0, .ref a0), (1, .long x0), (3, .int 8)]) hx hb dX11_feed_68 hl (k := 0) rfl (by decide) (by decide) rfl (fun ls hl => ?_)
      refine lv_goto (tgt := 31) hx hb dX11_feed_71 (by decide) ?_
      refine lv_iload hx hb dX11_feed_31 (lv_at hl 0 rfl) ?_
      refine lv_iload_n hx hb dX11_feed_33 rfl (lv_at hl 3 rfl) ?_
      refine lv_icmp_ge (tgt := 74) hx hb dX11_feed_34 (by decide) (fun cc => absurd cc (by decide +kernel)) (fun _ => ?_)
      refine lv_aload_n hx hb dX11_feed_37 rfl (lv_at hl 1 rfl) ?_
      refine va_get (D := D) (ci := 8) (v := .ref a8) (C := RX11) (T := TX11) (N := 36) hx hb hU iX11 hown hK.1 hP 0 rfl rfl 15 (by decide) (hU _ w800) (fun _ h9 => h9) rfl dX11_feed_38 ?_
      refine lv_aload_n hx hb dX11_feed_41 rfl (lv_at hl 1 rfl) ?_
      refine va_get (D := D) (ci := 8) (v := .int 5) (C := RX11) (T := TX11) (N := 36) hx hb hU iX11 hown hK.1 hP 0 rfl rfl 17 (by decide) (hU _ w802) (fun _ h9 => h9) rfl dX11_feed_42 ?_
      refine lv_lload_n hx hb dX11_feed_45 rfl (lv_at hl 2 rfl) ?_
      refine lv_bipush (v := 8) hx hb dX11_feed_46 (by decide) ?_
      refine lv_iload hx hb dX11_feed_48 (lv_at hl 0 rfl) ?_
      refine lv_imul hx hb dX11_feed_50 (sv_i (v := 40) (by decide +kernel) ?_)
      refine lv_lshr hx hb dX11_feed_51 rfl (lv_topl (fun v73 _ => ?_))
      refine lv_ldc2 hx hb hown (hU _ w1005) dX11_feed_52 ?_
      refine lv_land hx hb dX11_feed_55 (lv_topl (fun v74 _ => ?_))
      refine lv_l2i (v := v74.toInt32) hx hb dX11_feed_56 rfl ?_
      refine st_i (j := 5) (g := tI [v64.toInt32, v66.toInt32, v68.toInt32, v70.toInt32, v72.toInt32, v74.toInt32] 0) hx hb hK hP hD hS 1 rfl (by decide +kernel) upd_tI dX11_feed_57 (fun H locs hP hD hS => ?_)
      have hP : va_P D cl0 [(a0, .inr (8, [.int 2, .int 0, .int 1, .int 0, .int 0, .int 0, .ref a1, .ref a2, .int 0, .int 0, .ref a3, .ref a4, .ref a5, .ref a6, .ref a7, .ref a8, .ref a9, .int 5, .int 0, .int 0, .ref a10, .ref a11, .ref a12, .ref a13, .int 0, .int 0, .ref a14, .ref a15, .ref a16, .ref a17, .int 0, .int 0, .ref a18, .ref a19, .ref a20, .ref a21])), (a8, .inl (k 0, 120, .inl (tI [v64.toInt32, v66.toInt32, v68.toInt32, v70.toInt32, v72.toInt32, v74.toInt32] 0)))] H := hP
      have hD : va_D A [(a0, .inr (8, [.int 2, .int 0, .int 1, .int 0, .int 0, .int 0, .ref a1, .ref a2, .int 0, .int 0, .ref a3, .ref a4, .ref a5, .ref a6, .ref a7, .ref a8, .ref a9, .int 5, .int 0, .int 0, .ref a10, .ref a11, .ref a12, .ref a13, .int 0, .int 0, .ref a14, .ref a15, .ref a16, .ref a17, .int 0, .int 0, .ref a18, .ref a19, .ref a20, .ref a21])), (a8, .inl (k 0, 120, .inl (tI [v64.toInt32, v66.toInt32, v68.toInt32, v70.toInt32, v72.toInt32, v74.toInt32] 0)))] := hD
      refine lv_aload_n hx hb dX11_feed_58 rfl (lv_at hl 1 rfl) ?_
      refine lv_dup hx hb dX11_feed_59 rfl ?_
      refine va_get (D := D) (ci := 8) (v := .int 5) (C := RX11) (T := TX11) (N := 36) hx hb hU iX11 hown hK.1 hP 0 rfl rfl 17 (by decide) (hU _ w802) (fun _ h9 => h9) rfl dX11_feed_60 ?_
      refine lv_iconst (v := 1) hx hb dX11_feed_63 (by decide) ?_
      refine lv_iadd hx hb dX11_feed_64 (sv_i (v := 6) (by decide +kernel) ?_)
      refine va_put (D := D) (ci := 8) (v := .int 6) (ty := .int) (C := RX11) (T := TX11) (N := 36) hx hb hU iX11 tyX11 tyX11_ok nmX11 hown hK.1 hP hD hS 0 rfl rfl 17 (by decide) (hU _ w802) (fun _ h9 => h9) rfl (by decide +kernel) rfl rfl (Nat.le_of_ble_eq_true rfl) dX11_feed_65 (fun H locs hP hD hS => ?_)
      have hP : va_P D cl0 [(a0, .inr (8, [.int 2, .int 0, .int 1, .int 0, .int 0, .int 0, .ref a1, .ref a2, .int 0, .int 0, .ref a3, .ref a4, .ref a5, .ref a6, .ref a7, .ref a8, .ref a9, .int 6, .int 0, .int 0, .ref a10, .ref a11, .ref a12, .ref a13, .int 0, .int 0, .ref a14, .ref a15, .ref a16, .ref a17, .int 0, .int 0, .ref a18, .ref a19, .ref a20, .ref a21])), (a8, .inl (k 0, 120, .inl (tI [v64.toInt32, v66.toInt32, v68.toInt32, v70.toInt32, v72.toInt32, v74.toInt32] 0)))] H := hP
      have hD : va_D A [(a0, .inr (8, [.int 2, .int 0, .int 1, .int 0, .int 0, .int 0, .ref a1, .ref a2, .int 0, .int 0, .ref a3, .ref a4, .ref a5, .ref a6, .ref a7, .ref a8, .ref a9, .int 6, .int 0, .int 0, .ref a10, .ref a11, .ref a12, .ref a13, .int 0, .int 0, .ref a14, .ref a15, .ref a16, .ref a17, .int 0, .int 0, .ref a18, .ref a19, .ref a20, .ref a21])), (a8, .inl (k 0, 120, .inl (tI [v64.toInt32, v66.toInt32, v68.toInt32, v70.toInt32, v72.toInt32, v74.toInt32] 0)))] := hD
      refine lv_iinc (v := 6) (lv' := [(4, .int 6), (0, .ref a0), (1, .long x0), (3, .int 8)]) hx hb dX11_feed_68 hl (k := 0) rfl (by decide) (by decide) rfl (fun ls hl => ?_)
      refine lv_goto (tgt := 31) hx hb dX11_feed_71 (by decide) ?_
      refine lv_iload hx hb dX11_feed_31 (lv_at hl 0 rfl) ?_
      refine lv_iload_n hx hb dX11_feed_33 rfl (lv_at hl 3 rfl) ?_
      refine lv_icmp_ge (tgt := 74) hx hb dX11_feed_34 (by decide) (fun cc => absurd cc (by decide +kernel)) (fun _ => ?_)
      refine lv_aload_n hx hb dX11_feed_37 rfl (lv_at hl 1 rfl) ?_
      refine va_get (D := D) (ci := 8) (v := .ref a8) (C := RX11) (T := TX11) (N := 36) hx hb hU iX11 hown hK.1 hP 0 rfl rfl 15 (by decide) (hU _ w800) (fun _ h9 => h9) rfl dX11_feed_38 ?_
      refine lv_aload_n hx hb dX11_feed_41 rfl (lv_at hl 1 rfl) ?_
      refine va_get (D := D) (ci := 8) (v := .int 6) (C := RX11) (T := TX11) (N := 36) hx hb hU iX11 hown hK.1 hP 0 rfl rfl 17 (by decide) (hU _ w802) (fun _ h9 => h9) rfl dX11_feed_42 ?_
      refine lv_lload_n hx hb dX11_feed_45 rfl (lv_at hl 2 rfl) ?_
      refine lv_bipush (v := 8) hx hb dX11_feed_46 (by decide) ?_
      refine lv_iload hx hb dX11_feed_48 (lv_at hl 0 rfl) ?_
      refine lv_imul hx hb dX11_feed_50 (sv_i (v := 48) (by decide +kernel) ?_)
      refine lv_lshr hx hb dX11_feed_51 rfl (lv_topl (fun v75 _ => ?_))
      refine lv_ldc2 hx hb hown (hU _ w1005) dX11_feed_52 ?_
      refine lv_land hx hb dX11_feed_55 (lv_topl (fun v76 _ => ?_))
      refine lv_l2i (v := v76.toInt32) hx hb dX11_feed_56 rfl ?_
      refine st_i (j := 6) (g := tI [v64.toInt32, v66.toInt32, v68.toInt32, v70.toInt32, v72.toInt32, v74.toInt32, v76.toInt32] 0) hx hb hK hP hD hS 1 rfl (by decide +kernel) upd_tI dX11_feed_57 (fun H locs hP hD hS => ?_)
      have hP : va_P D cl0 [(a0, .inr (8, [.int 2, .int 0, .int 1, .int 0, .int 0, .int 0, .ref a1, .ref a2, .int 0, .int 0, .ref a3, .ref a4, .ref a5, .ref a6, .ref a7, .ref a8, .ref a9, .int 6, .int 0, .int 0, .ref a10, .ref a11, .ref a12, .ref a13, .int 0, .int 0, .ref a14, .ref a15, .ref a16, .ref a17, .int 0, .int 0, .ref a18, .ref a19, .ref a20, .ref a21])), (a8, .inl (k 0, 120, .inl (tI [v64.toInt32, v66.toInt32, v68.toInt32, v70.toInt32, v72.toInt32, v74.toInt32, v76.toInt32] 0)))] H := hP
      have hD : va_D A [(a0, .inr (8, [.int 2, .int 0, .int 1, .int 0, .int 0, .int 0, .ref a1, .ref a2, .int 0, .int 0, .ref a3, .ref a4, .ref a5, .ref a6, .ref a7, .ref a8, .ref a9, .int 6, .int 0, .int 0, .ref a10, .ref a11, .ref a12, .ref a13, .int 0, .int 0, .ref a14, .ref a15, .ref a16, .ref a17, .int 0, .int 0, .ref a18, .ref a19, .ref a20, .ref a21])), (a8, .inl (k 0, 120, .inl (tI [v64.toInt32, v66.toInt32, v68.toInt32, v70.toInt32, v72.toInt32, v74.toInt32, v76.toInt32] 0)))] := hD
      refine lv_aload_n hx hb dX11_feed_58 rfl (lv_at hl 1 rfl) ?_
      refine lv_dup hx hb dX11_feed_59 rfl ?_
      refine va_get (D := D) (ci := 8) (v := .int 6) (C := RX11) (T := TX11) (N := 36) hx hb hU iX11 hown hK.1 hP 0 rfl rfl 17 (by decide) (hU _ w802) (fun _ h9 => h9) rfl dX11_feed_60 ?_
      refine lv_iconst (v := 1) hx hb dX11_feed_63 (by decide) ?_
      refine lv_iadd hx hb dX11_feed_64 (sv_i (v := 7) (by decide +kernel) ?_)
      refine va_put (D := D) (ci := 8) (v := .int 7) (ty := .int) (C := RX11) (T := TX11) (N := 36) hx hb hU iX11 tyX11 tyX11_ok nmX11 hown hK.1 hP hD hS 0 rfl rfl 17 (by decide) (hU _ w802) (fun _ h9 => h9) rfl (by decide +kernel) rfl rfl (Nat.le_of_ble_eq_true rfl) dX11_feed_65 (fun H locs hP hD hS => ?_)
      have hP : va_P D cl0 [(a0, .inr (8, [.int 2, .int 0, .int 1, .int 0, .int 0, .int 0, .ref a1, .ref a2, .int 0, .int 0, .ref a3, .ref a4, .ref a5, .ref a6, .ref a7, .ref a8, .ref a9, .int 7, .int 0, .int 0, .ref a10, .ref a11, .ref a12, .ref a13, .int 0, .int 0, .ref a14, .ref a15, .ref a16, .ref a17, .int 0, .int 0, .ref a18, .ref a19, .ref a20, .ref a21])), (a8, .inl (k 0, 120, .inl (tI [v64.toInt32, v66.toInt32, v68.toInt32, v70.toInt32, v72.toInt32, v74.toInt32, v76.toInt32] 0)))] H := hP
      have hD : va_D A [(a0, .inr (8, [.int 2, .int 0, .int 1, .int 0, .int 0, .int 0, .ref a1, .ref a2, .int 0, .int 0, .ref a3, .ref a4, .ref a5, .ref a6, .ref a7, .ref a8, .ref a9, .int 7, .int 0, .int 0, .ref a10, .ref a11, .ref a12, .ref a13, .int 0, .int 0, .ref a14, .ref a15, .ref a16, .ref a17, .int 0, .int 0, .ref a18, .ref a19, .ref a20, .ref a21])), (a8, .inl (k 0, 120, .inl (tI [v64.toInt32, v66.toInt32, v68.toInt32, v70.toInt32, v72.toInt32, v74.toInt32, v76.toInt32] 0)))] := hD
      refine lv_iinc (v := 7) (lv' := [(4, .int 7), (0, .ref a0), (1, .long x0), (3, .int 8)]) hx hb dX11_feed_68 hl (k := 0) rfl (by decide) (by decide) rfl (fun ls hl => ?_)
      refine lv_goto (tgt := 31) hx hb dX11_feed_71 (by decide) ?_
      refine lv_iload hx hb dX11_feed_31 (lv_at hl 0 rfl) ?_
      refine lv_iload_n hx hb dX11_feed_33 rfl (lv_at hl 3 rfl) ?_
      refine lv_icmp_ge (tgt := 74) hx hb dX11_feed_34 (by decide) (fun cc => absurd cc (by decide +kernel)) (fun _ => ?_)
      refine lv_aload_n hx hb dX11_feed_37 rfl (lv_at hl 1 rfl) ?_
      refine va_get (D := D) (ci := 8) (v := .ref a8) (C := RX11) (T := TX11) (N := 36) hx hb hU iX11 hown hK.1 hP 0 rfl rfl 15 (by decide) (hU _ w800) (fun _ h9 => h9) rfl dX11_feed_38 ?_
      refine lv_aload_n hx hb dX11_feed_41 rfl (lv_at hl 1 rfl) ?_
      refine va_get (D := D) (ci := 8) (v := .int 7) (C := RX11) (T := TX11) (N := 36) hx hb hU iX11 hown hK.1 hP 0 rfl rfl 17 (by decide) (hU _ w802) (fun _ h9 => h9) rfl dX11_feed_42 ?_
      refine lv_lload_n hx hb dX11_feed_45 rfl (lv_at hl 2 rfl) ?_
      refine lv_bipush (v := 8) hx hb dX11_feed_46 (by decide) ?_
      refine lv_iload hx hb dX11_feed_48 (lv_at hl 0 rfl) ?_
      refine lv_imul hx hb dX11_feed_50 (sv_i (v := 56) (by decide +kernel) ?_)
      refine lv_lshr hx hb dX11_feed_51 rfl (lv_topl (fun v77 _ => ?_))
      refine lv_ldc2 hx hb hown (hU _ w1005) dX11_feed_52 ?_
      refine lv_land hx hb dX11_feed_55 (lv_topl (fun v78 _ => ?_))
      refine lv_l2i (v := v78.toInt32) hx hb dX11_feed_56 rfl ?_
      refine st_i (j := 7) (g := tI [v64.toInt32, v66.toInt32, v68.toInt32, v70.toInt32, v72.toInt32, v74.toInt32, v76.toInt32, v78.toInt32] 0) hx hb hK hP hD hS 1 rfl (by decide +kernel) upd_tI dX11_feed_57 (fun H locs hP hD hS => ?_)
      have hP : va_P D cl0 [(a0, .inr (8, [.int 2, .int 0, .int 1, .int 0, .int 0, .int 0, .ref a1, .ref a2, .int 0, .int 0, .ref a3, .ref a4, .ref a5, .ref a6, .ref a7, .ref a8, .ref a9, .int 7, .int 0, .int 0, .ref a10, .ref a11, .ref a12, .ref a13, .int 0, .int 0, .ref a14, .ref a15, .ref a16, .ref a17, .int 0, .int 0, .ref a18, .ref a19, .ref a20, .ref a21])), (a8, .inl (k 0, 120, .inl (tI [v64.toInt32, v66.toInt32, v68.toInt32, v70.toInt32, v72.toInt32, v74.toInt32, v76.toInt32, v78.toInt32] 0)))] H := hP
      have hD : va_D A [(a0, .inr (8, [.int 2, .int 0, .int 1, .int 0, .int 0, .int 0, .ref a1, .ref a2, .int 0, .int 0, .ref a3, .ref a4, .ref a5, .ref a6, .ref a7, .ref a8, .ref a9, .int 7, .int 0, .int 0, .ref a10, .ref a11, .ref a12, .ref a13, .int 0, .int 0, .ref a14, .ref a15, .ref a16, .ref a17, .int 0, .int 0, .ref a18, .ref a19, .ref a20, .ref a21])), (a8, .inl (k 0, 120, .inl (tI [v64.toInt32, v66.toInt32, v68.toInt32, v70.toInt32, v72.toInt32, v74.toInt32, v76.toInt32, v78.toInt32] 0)))] := hD
      refine lv_aload_n hx hb dX11_feed_58 rfl (lv_at hl 1 rfl) ?_
      refine lv_dup hx hb dX11_feed_59 rfl ?_
      refine va_get (D := D) (ci := 8) (v := .int 7) (C := RX11) (T := TX11) (N := 36) hx hb hU iX11 hown hK.1 hP 0 rfl rfl 17 (by decide) (hU _ w802) (fun _ h9 => h9) rfl dX11_feed_60 ?_
      refine lv_iconst (v := 1) hx hb dX11_feed_63 (by decide) ?_
      refine lv_iadd hx hb dX11_feed_64 (sv_i (v := 8) (by decide +kernel) ?_)
      refine va_put (D := D) (ci := 8) (v := .int 8) (ty := .int) (C := RX11) (T := TX11) (N := 36) hx hb hU iX11 tyX11 tyX11_ok nmX11 hown hK.1 hP hD hS 0 rfl rfl 17 (by decide) (hU _ w802) (fun _ h9 => h9) rfl (by decide +kernel) rfl rfl (Nat.le_of_ble_eq_true rfl) dX11_feed_65 (fun H locs hP hD hS => ?_)
      have hP : va_P D cl0 [(a0, .inr (8, [.int 2, .int 0, .int 1, .int 0, .int 0, .int 0, .ref a1, .ref a2, .int 0, .int 0, .ref a3, .ref a4, .ref a5, .ref a6, .ref a7, .ref a8, .ref a9, .int 8, .int 0, .int 0, .ref a10, .ref a11, .ref a12, .ref a13, .int 0, .int 0, .ref a14, .ref a15, .ref a16, .ref a17, .int 0, .int 0, .ref a18, .ref a19, .ref a20, .ref a21])), (a8, .inl (k 0, 120, .inl (tI [v64.toInt32, v66.toInt32, v68.toInt32, v70.toInt32, v72.toInt32, v74.toInt32, v76.toInt32, v78.toInt32] 0)))] H := hP
      have hD : va_D A [(a0, .inr (8, [.int 2, .int 0, .int 1, .int 0, .int 0, .int 0, .ref a1, .ref a2, .int 0, .int 0, .ref a3, .ref a4, .ref a5, .ref a6, .ref a7, .ref a8, .ref a9, .int 8, .int 0, .int 0, .ref a10, .ref a11, .ref a12, .ref a13, .int 0, .int 0, .ref a14, .ref a15, .ref a16, .ref a17, .int 0, .int 0, .ref a18, .ref a19, .ref a20, .ref a21])), (a8, .inl (k 0, 120, .inl (tI [v64.toInt32, v66.toInt32, v68.toInt32, v70.toInt32, v72.toInt32, v74.toInt32, v76.toInt32, v78.toInt32] 0)))] := hD
      refine lv_iinc (v := 8) (lv' := [(4, .int 8), (0, .ref a0), (1, .long x0), (3, .int 8)]) hx hb dX11_feed_68 hl (k := 0) rfl (by decide) (by decide) rfl (fun ls hl => ?_)
      refine lv_goto (tgt := 31) hx hb dX11_feed_71 (by decide) ?_
      refine lv_iload hx hb dX11_feed_31 (lv_at hl 0 rfl) ?_
      refine lv_iload_n hx hb dX11_feed_33 rfl (lv_at hl 3 rfl) ?_
      refine lv_icmp_ge (tgt := 74) hx hb dX11_feed_34 (by decide) (fun _ => ?_) (fun cc => absurd (by decide +kernel) cc)
      refine lv_aload_n hx hb dX11_feed_74 rfl (lv_at hl 1 rfl) ?_
      refine va_get (D := D) (ci := 8) (v := .int 8) (C := RX11) (T := TX11) (N := 36) hx hb hU iX11 hown hK.1 hP 0 rfl rfl 17 (by decide) (hU _ w802) (fun _ h9 => h9) rfl dX11_feed_75 ?_
      exact retI (v := 8) hx hb hr hlocks hS (show (8 : Int32) = F_feed x0 8 by first | decide +kernel | (have g_8 : (8 : Int32).toInt = 8 := (by decide +kernel); unfold F_feed; (repeat (first | rw [if_pos (by omega)] | rw [if_neg (by omega)])))) dX11_feed_78
