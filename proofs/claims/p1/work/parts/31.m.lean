abbrev BX11_isSheet_1 (D : va_G) (k : Nat → ClassId) (x0 : Int32) (A : Nat → Prop) (r : Int32) (H : Heap) : Prop := (x0.toInt64 < 0 ∧ 0 = r ∧ va_P D cl0 [] H ∧ va_D A []) ∨ (¬ (x0.toInt64 < 0) ∧ 3 < x0.toInt64 ∧ 0 = r ∧ va_P D cl0 [] H ∧ va_D A []) ∨ (¬ (x0.toInt64 < 0) ∧ ¬ (3 < x0.toInt64) ∧ 1 = r ∧ va_P D cl0 [] H ∧ va_D A [])
set_option maxHeartbeats 4000000 in
set_option maxRecDepth 100000 in
theorem cX11_isSheet_1 (l : Launch) (D : va_G) (k : Nat → ClassId) (sz : Nat) (x0 : Int32) : Met l yX11_isSheet (Cond.code yX11_isSheet cX11_isSheet 1 (some .boolean) :: uw) ({ frames := 1, cells := 0, slots := 0, locals := 25 }) (pC D k sz [.int x0] []) (qI (BX11_isSheet_1 D k x0 (va_A [] sz)) (va_A [] sz)) 0 0 (va_A [] sz) := by
  refine begin_ (Qc := fun A => qI (BX11_isSheet_1 D k x0 A) A) (by decide) (Nat.le_of_ble_eq_true rfl) ?_
  intro p e s m below meth c ls A hx hb hr hml hown hlocks hin hU hK hsz hP hD hS hA hl
  have hl : lv_has ls 1 [(0, .int x0)] := hl
  clear hsz
  refine lv_iload_n hx hb dX11_isSheet_0 rfl (lv_at hl 0 rfl) ?_
  refine lv_i2l (v := x0.toInt64) hx hb dX11_isSheet_1 rfl ?_
  refine lv_lconst (v := 0) hx hb dX11_isSheet_2 (by decide) ?_
  refine lv_ldc2 hx hb hown (hU _ w898) dX11_isSheet_3 ?_
  refine cI (rS (As := [.long x0.toInt64, .long 0, .long 3]) (rest := []) (wc := []) hx hb hml hown hU hK hP hD [] rfl (by decide) (cX11_in_2 l D k _ (x0.toInt64)) w901 w899 w900 w72 hdX11_in ⟨rfl, rfl⟩ ⟨Nat.le_of_ble_eq_true rfl, Nat.le_of_ble_eq_true rfl⟩ rfl hl.1 (Nat.le_of_ble_eq_true rfl) dX11_isSheet_6 ⟨Nat.le_of_ble_eq_true rfl, Nat.le_of_ble_eq_true rfl⟩) hP hD hS hA (wr := []) [] [] rfl rfl (by decide) (by decide) (fun r1 H locs hB J hS => ?_)
  rcases hB with ⟨c_2, rfl, hP1, hD1⟩ | ⟨c_3, c_4, rfl, hP1, hD1⟩ | ⟨c_5, c_6, rfl, hP1, hD1⟩
  · skip
    obtain ⟨hP, hD⟩ := J _ hP1 hD1
    have hP : va_P D cl0 [] H := hP
    have hD : va_D A [] := hD
    exact retZ (v := 0) hx hb hr hlocks hS (Or.inl ⟨c_2, rfl, hP, hD⟩) dX11_isSheet_9 (by decide +kernel)
  · skip
    obtain ⟨hP, hD⟩ := J _ hP1 hD1
    have hP : va_P D cl0 [] H := hP
    have hD : va_D A [] := hD
    exact retZ (v := 0) hx hb hr hlocks hS (Or.inr (Or.inl ⟨c_3, c_4, rfl, hP, hD⟩)) dX11_isSheet_9 (by decide +kernel)
  · skip
    obtain ⟨hP, hD⟩ := J _ hP1 hD1
    have hP : va_P D cl0 [] H := hP
    have hD : va_D A [] := hD
    exact retZ (v := 1) hx hb hr hlocks hS (Or.inr (Or.inr (⟨c_5, c_6, rfl, hP, hD⟩))) dX11_isSheet_9 (by decide +kernel)
abbrev BX11_keeps_1 (D : va_G) (k : Nat → ClassId) (a0 a18 a1 a2 a3 a4 a5 a6 a7 a8 a9 a10 a11 a12 a13 a14 a15 a16 a17 a19 a20 a21 : Nat) (x0 : Int32) (x1 : Int32) (A : Nat → Prop) (r : Int32) (H : Heap) : Prop := r = F_keeps x0 x1
set_option maxHeartbeats 4000000 in
set_option maxRecDepth 100000 in
theorem cX11_keeps_1 (l : Launch) (D : va_G) (k : Nat → ClassId) (sz : Nat) (a0 a18 a1 a2 a3 a4 a5 a6 a7 a8 a9 a10 a11 a12 a13 a14 a15 a16 a17 a19 a20 a21 : Nat) (x0 : Int32) (x1 : Int32) : Met l yX11_keeps (Cond.code yX11_keeps cX11_keeps 5 (some .int) :: uw) ({ frames := 2, cells := 0, slots := 0, locals := 45 }) (pC D k sz [.ref a0, .int x0, .int x1] [(a0, .inr (8, [.int 2, .int 0, .int 1, .int 0, .int 0, .int 0, .ref a1, .ref a2, .int 0, .int 0, .ref a3, .ref a4, .ref a5, .ref a6, .ref a7, .ref a8, .ref a9, .int 0, .int 0, .int 0, .ref a10, .ref a11, .ref a12, .ref a13, .int 0, .int 0, .ref a14, .ref a15, .ref a16, .ref a17, .int 0, .int 0, .ref a18, .ref a19, .ref a20, .ref a21])), (a18, .inl (k 0, 4, .inl (tI [(-1), (-1), (-1), (-1)] 0)))]) (qI (BX11_keeps_1 D k a0 a18 a1 a2 a3 a4 a5 a6 a7 a8 a9 a10 a11 a12 a13 a14 a15 a16 a17 a19 a20 a21 x0 x1 (va_A [(a0, .inr (8, [.int 2, .int 0, .int 1, .int 0, .int 0, .int 0, .ref a1, .ref a2, .int 0, .int 0, .ref a3, .ref a4, .ref a5, .ref a6, .ref a7, .ref a8, .ref a9, .int 0, .int 0, .int 0, .ref a10, .ref a11, .ref a12, .ref a13, .int 0, .int 0, .ref a14, .ref a15, .ref a16, .ref a17, .int 0, .int 0, .ref a18, .ref a19, .ref a20, .ref a21])), (a18, .inl (k 0, 4, .inl (tI [(-1), (-1), (-1), (-1)] 0)))] sz)) (va_A [(a0, .inr (8, [.int 2, .int 0, .int 1, .int 0, .int 0, .int 0, .ref a1, .ref a2, .int 0, .int 0, .ref a3, .ref a4, .ref a5, .ref a6, .ref a7, .ref a8, .ref a9, .int 0, .int 0, .int 0, .ref a10, .ref a11, .ref a12, .ref a13, .int 0, .int 0, .ref a14, .ref a15, .ref a16, .ref a17, .int 0, .int 0, .ref a18, .ref a19, .ref a20, .ref a21])), (a18, .inl (k 0, 4, .inl (tI [(-1), (-1), (-1), (-1)] 0)))] sz)) 0 0 (va_A [(a0, .inr (8, [.int 2, .int 0, .int 1, .int 0, .int 0, .int 0, .ref a1, .ref a2, .int 0, .int 0, .ref a3, .ref a4, .ref a5, .ref a6, .ref a7, .ref a8, .ref a9, .int 0, .int 0, .int 0, .ref a10, .ref a11, .ref a12, .ref a13, .int 0, .int 0, .ref a14, .ref a15, .ref a16, .ref a17, .int 0, .int 0, .ref a18, .ref a19, .ref a20, .ref a21])), (a18, .inl (k 0, 4, .inl (tI [(-1), (-1), (-1), (-1)] 0)))] sz) := by
  refine begin_ (Qc := fun A => qI (BX11_keeps_1 D k a0 a18 a1 a2 a3 a4 a5 a6 a7 a8 a9 a10 a11 a12 a13 a14 a15 a16 a17 a19 a20 a21 x0 x1 A) A) (by decide) (Nat.le_of_ble_eq_true rfl) ?_
  intro p e s m below meth c ls A hx hb hr hml hown hlocks hin hU hK hsz hP hD hS hA hl
  have hl : lv_has ls 5 [(0, .ref a0), (1, .int x0), (2, .int x1)] := hl
  clear hsz
  refine lv_iload_n hx hb dX11_keeps_0 rfl (lv_at hl 1 rfl) ?_
  refine cI (rS (As := [.int x0]) (rest := []) (wc := []) hx hb hml hown hU hK hP hD [] rfl (by decide) (cX11_isSheet_1 l D k _ (x0)) w1101 w1099 w1100 w72 hdX11_isSheet ⟨rfl, rfl⟩ ⟨Nat.le_of_ble_eq_true rfl, Nat.le_of_ble_eq_true rfl⟩ rfl hl.1 (Nat.le_of_ble_eq_true rfl) dX11_keeps_1 ⟨Nat.le_of_ble_eq_true rfl, Nat.le_of_ble_eq_true rfl⟩) hP hD hS hA (wr := [(a0, .inr (8, [.int 2, .int 0, .int 1, .int 0, .int 0, .int 0, .ref a1, .ref a2, .int 0, .int 0, .ref a3, .ref a4, .ref a5, .ref a6, .ref a7, .ref a8, .ref a9, .int 0, .int 0, .int 0, .ref a10, .ref a11, .ref a12, .ref a13, .int 0, .int 0, .ref a14, .ref a15, .ref a16, .ref a17, .int 0, .int 0, .ref a18, .ref a19, .ref a20, .ref a21])), (a18, .inl (k 0, 4, .inl (tI [(-1), (-1), (-1), (-1)] 0)))]) [] [0, 1] rfl rfl (by decide) (by decide) (fun r1 H locs hB J hS => ?_)
  rcases hB with ⟨c_2, rfl, hP1, hD1⟩ | ⟨c_3, c_4, rfl, hP1, hD1⟩ | ⟨c_5, c_6, rfl, hP1, hD1⟩
  · skip
    obtain ⟨hP, hD⟩ := J _ hP1 hD1
    have hP : va_P D cl0 [(a0, .inr (8, [.int 2, .int 0, .int 1, .int 0, .int 0, .int 0, .ref a1, .ref a2, .int 0, .int 0, .ref a3, .ref a4, .ref a5, .ref a6, .ref a7, .ref a8, .ref a9, .int 0, .int 0, .int 0, .ref a10, .ref a11, .ref a12, .ref a13, .int 0, .int 0, .ref a14, .ref a15, .ref a16, .ref a17, .int 0, .int 0, .ref a18, .ref a19, .ref a20, .ref a21])), (a18, .inl (k 0, 4, .inl (tI [(-1), (-1), (-1), (-1)] 0)))] H := hP
    have hD : va_D A [(a0, .inr (8, [.int 2, .int 0, .int 1, .int 0, .int 0, .int 0, .ref a1, .ref a2, .int 0, .int 0, .ref a3, .ref a4, .ref a5, .ref a6, .ref a7, .ref a8, .ref a9, .int 0, .int 0, .int 0, .ref a10, .ref a11, .ref a12, .ref a13, .int 0, .int 0, .ref a14, .ref a15, .ref a16, .ref a17, .int 0, .int 0, .ref a18, .ref a19, .ref a20, .ref a21])), (a18, .inl (k 0, 4, .inl (tI [(-1), (-1), (-1), (-1)] 0)))] := hD
    refine lv_if_ne (tgt := 9) hx hb dX11_keeps_4 (by decide) (fun cc => absurd (by decide +kernel) cc) (fun _ => ?_)
    refine lv_iconst (v := (-1)) hx hb dX11_keeps_7 (by decide) ?_
    exact retI (v := (-1)) hx hb hr hlocks hS (show ((-1) : Int32) = F_keeps x0 x1 by first | decide +kernel | (have f0 := dv_lt (x := x0.toInt) (y := 0) c_2 (wd x0) (by decide +kernel); unfold F_keeps; (repeat (first | rw [if_pos (by omega)] | rw [if_neg (by omega)])))) dX11_keeps_8
  · skip
    obtain ⟨hP, hD⟩ := J _ hP1 hD1
    have hP : va_P D cl0 [(a0, .inr (8, [.int 2, .int 0, .int 1, .int 0, .int 0, .int 0, .ref a1, .ref a2, .int 0, .int 0, .ref a3, .ref a4, .ref a5, .ref a6, .ref a7, .ref a8, .ref a9, .int 0, .int 0, .int 0, .ref a10, .ref a11, .ref a12, .ref a13, .int 0, .int 0, .ref a14, .ref a15, .ref a16, .ref a17, .int 0, .int 0, .ref a18, .ref a19, .ref a20, .ref a21])), (a18, .inl (k 0, 4, .inl (tI [(-1), (-1), (-1), (-1)] 0)))] H := hP
    have hD : va_D A [(a0, .inr (8, [.int 2, .int 0, .int 1, .int 0, .int 0, .int 0, .ref a1, .ref a2, .int 0, .int 0, .ref a3, .ref a4, .ref a5, .ref a6, .ref a7, .ref a8, .ref a9, .int 0, .int 0, .int 0, .ref a10, .ref a11, .ref a12, .ref a13, .int 0, .int 0, .ref a14, .ref a15, .ref a16, .ref a17, .int 0, .int 0, .ref a18, .ref a19, .ref a20, .ref a21])), (a18, .inl (k 0, 4, .inl (tI [(-1), (-1), (-1), (-1)] 0)))] := hD
    refine lv_if_ne (tgt := 9) hx hb dX11_keeps_4 (by decide) (fun cc => absurd (by decide +kernel) cc) (fun _ => ?_)
    refine lv_iconst (v := (-1)) hx hb dX11_keeps_7 (by decide) ?_
    exact retI (v := (-1)) hx hb hr hlocks hS (show ((-1) : Int32) = F_keeps x0 x1 by first | decide +kernel | (have f0 := dv_nlt (x := x0.toInt) (y := 0) c_3 (wd x0) (by decide +kernel); have f1 := dv_lt (x := 3) (y := x0.toInt) c_4 (by decide +kernel) (wd x0); unfold F_keeps; (repeat (first | rw [if_pos (by omega)] | rw [if_neg (by omega)])))) dX11_keeps_8
  · skip
    obtain ⟨hP, hD⟩ := J _ hP1 hD1
    have hP : va_P D cl0 [(a0, .inr (8, [.int 2, .int 0, .int 1, .int 0, .int 0, .int 0, .ref a1, .ref a2, .int 0, .int 0, .ref a3, .ref a4, .ref a5, .ref a6, .ref a7, .ref a8, .ref a9, .int 0, .int 0, .int 0, .ref a10, .ref a11, .ref a12, .ref a13, .int 0, .int 0, .ref a14, .ref a15, .ref a16, .ref a17, .int 0, .int 0, .ref a18, .ref a19, .ref a20, .ref a21])), (a18, .inl (k 0, 4, .inl (tI [(-1), (-1), (-1), (-1)] 0)))] H := hP
    have hD : va_D A [(a0, .inr (8, [.int 2, .int 0, .int 1, .int 0, .int 0, .int 0, .ref a1, .ref a2, .int 0, .int 0, .ref a3, .ref a4, .ref a5, .ref a6, .ref a7, .ref a8, .ref a9, .int 0, .int 0, .int 0, .ref a10, .ref a11, .ref a12, .ref a13, .int 0, .int 0, .ref a14, .ref a15, .ref a16, .ref a17, .int 0, .int 0, .ref a18, .ref a19, .ref a20, .ref a21])), (a18, .inl (k 0, 4, .inl (tI [(-1), (-1), (-1), (-1)] 0)))] := hD
    refine lv_if_ne (tgt := 9) hx hb dX11_keeps_4 (by decide) (fun _ => ?_) (fun cc => absurd cc (by decide +kernel))
    refine lv_aload_n hx hb dX11_keeps_9 rfl (lv_at hl 0 rfl) ?_
    refine va_get (D := D) (ci := 8) (v := .ref a18) (C := RX11) (T := TX11) (N := 36) hx hb hU iX11 hown hK.1 hP 0 rfl rfl 32 (by decide) (hU _ w817) (fun _ h9 => h9) rfl dX11_keeps_10 ?_
    refine lv_iload_n hx hb dX11_keeps_13 rfl (lv_at hl 1 rfl) ?_
    have hsp : x0.toInt = 0 ∨ x0.toInt = 1 ∨ x0.toInt = 2 ∨ x0.toInt = 3 := by
      have f0 := dv_nlt (x := x0.toInt) (y := 0) c_5 (wd x0) (by decide +kernel)
      have f1 := dv_nlt (x := 3) (y := x0.toInt) c_6 (by decide +kernel) (wd x0)
      omega
    rcases hsp with hsp | hsp | hsp | hsp
    · skip
      obtain rfl : x0 = 0 := eq32 hsp (by decide +kernel)
      refine ld_i (j := 0) (v := (-1)) hx hb hK hP 1 rfl (by decide +kernel) rfl dX11_keeps_14 ?_
      refine lv_if_eq (tgt := 35) hx hb dX11_keeps_15 (by decide) (fun cc => absurd cc (by decide +kernel)) (fun _ => ?_)
      refine lv_aload_n hx hb dX11_keeps_18 rfl (lv_at hl 0 rfl) ?_
      refine va_get (D := D) (ci := 8) (v := .ref a18) (C := RX11) (T := TX11) (N := 36) hx hb hU iX11 hown hK.1 hP 0 rfl rfl 32 (by decide) (hU _ w817) (fun _ h9 => h9) rfl dX11_keeps_19 ?_
      refine lv_iload_n hx hb dX11_keeps_22 rfl (lv_at hl 1 rfl) ?_
      refine ld_i (j := 0) (v := (-1)) hx hb hK hP 1 rfl (by decide +kernel) rfl dX11_keeps_23 ?_
      refine lv_if_ge (tgt := 32) hx hb dX11_keeps_24 (by decide) (fun cc => absurd cc (by decide +kernel)) (fun _ => ?_)
      refine lv_bipush (v := (-11)) hx hb dX11_keeps_27 (by decide) ?_
      refine lv_goto (tgt := 34) hx hb dX11_keeps_29 (by decide) ?_
      exact retI (v := (-11)) hx hb hr hlocks hS (show ((-11) : Int32) = F_keeps 0 x1 by first | decide +kernel | (have g_0 : (0 : Int32).toInt = 0 := (by decide +kernel); unfold F_keeps; (repeat (first | rw [if_pos (by omega)] | rw [if_neg (by omega)])))) dX11_keeps_34
    · skip
      obtain rfl : x0 = 1 := eq32 hsp (by decide +kernel)
      refine ld_i (j := 1) (v := (-1)) hx hb hK hP 1 rfl (by decide +kernel) rfl dX11_keeps_14 ?_
      refine lv_if_eq (tgt := 35) hx hb dX11_keeps_15 (by decide) (fun cc => absurd cc (by decide +kernel)) (fun _ => ?_)
      refine lv_aload_n hx hb dX11_keeps_18 rfl (lv_at hl 0 rfl) ?_
      refine va_get (D := D) (ci := 8) (v := .ref a18) (C := RX11) (T := TX11) (N := 36) hx hb hU iX11 hown hK.1 hP 0 rfl rfl 32 (by decide) (hU _ w817) (fun _ h9 => h9) rfl dX11_keeps_19 ?_
      refine lv_iload_n hx hb dX11_keeps_22 rfl (lv_at hl 1 rfl) ?_
      refine ld_i (j := 1) (v := (-1)) hx hb hK hP 1 rfl (by decide +kernel) rfl dX11_keeps_23 ?_
      refine lv_if_ge (tgt := 32) hx hb dX11_keeps_24 (by decide) (fun cc => absurd cc (by decide +kernel)) (fun _ => ?_)
      refine lv_bipush (v := (-11)) hx hb dX11_keeps_27 (by decide) ?_
      refine lv_goto (tgt := 34) hx hb dX11_keeps_29 (by decide) ?_
      exact retI (v := (-11)) hx hb hr hlocks hS (show ((-11) : Int32) = F_keeps 1 x1 by first | decide +kernel | (have g_1 : (1 : Int32).toInt = 1 := (by decide +kernel); unfold F_keeps; (repeat (first | rw [if_pos (by omega)] | rw [if_neg (by omega)])))) dX11_keeps_34
    · skip
      obtain rfl : x0 = 2 := eq32 hsp (by decide +kernel)
      refine ld_i (j := 2) (v := (-1)) hx hb hK hP 1 rfl (by decide +kernel) rfl dX11_keeps_14 ?_
      refine lv_if_eq (tgt := 35) hx hb dX11_keeps_15 (by decide) (fun cc => absurd cc (by decide +kernel)) (fun _ => ?_)
      refine lv_aload_n hx hb dX11_keeps_18 rfl (lv_at hl 0 rfl) ?_
      refine va_get (D := D) (ci := 8) (v := .ref a18) (C := RX11) (T := TX11) (N := 36) hx hb hU iX11 hown hK.1 hP 0 rfl rfl 32 (by decide) (hU _ w817) (fun _ h9 => h9) rfl dX11_keeps_19 ?_
      refine lv_iload_n hx hb dX11_keeps_22 rfl (lv_at hl 1 rfl) ?_
      refine ld_i (j := 2) (v := (-1)) hx hb hK hP 1 rfl (by decide +kernel) rfl dX11_keeps_23 ?_
      refine lv_if_ge (tgt := 32) hx hb dX11_keeps_24 (by decide) (fun cc => absurd cc (by decide +kernel)) (fun _ => ?_)
      refine lv_bipush (v := (-11)) hx hb dX11_keeps_27 (by decide) ?_
      refine lv_goto (tgt := 34) hx hb dX11_keeps_29 (by decide) ?_
      exact retI (v := (-11)) hx hb hr hlocks hS (show ((-11) : Int32) = F_keeps 2 x1 by first | decide +kernel | (have g_2 : (2 : Int32).toInt = 2 := (by decide +kernel); unfold F_keeps; (repeat (first | rw [if_pos (by omega)] | rw [if_neg (by omega)])))) dX11_keeps_34
    · skip
      obtain rfl : x0 = 3 := eq32 hsp (by decide +kernel)
      refine ld_i (j := 3) (v := (-1)) hx hb hK hP 1 rfl (by decide +kernel) rfl dX11_keeps_14 ?_
      refine lv_if_eq (tgt := 35) hx hb dX11_keeps_15 (by decide) (fun cc => absurd cc (by decide +kernel)) (fun _ => ?_)
      refine lv_aload_n hx hb dX11_keeps_18 rfl (lv_at hl 0 rfl) ?_
      refine va_get (D := D) (ci := 8) (v := .ref a18) (C := RX11) (T := TX11) (N := 36) hx hb hU iX11 hown hK.1 hP 0 rfl rfl 32 (by decide) (hU _ w817) (fun _ h9 => h9) rfl dX11_keeps_19 ?_
      refine lv_iload_n hx hb dX11_keeps_22 rfl (lv_at hl 1 rfl) ?_
      refine ld_i (j := 3) (v := (-1)) hx hb hK hP 1 rfl (by decide +kernel) rfl dX11_keeps_23 ?_
      refine lv_if_ge (tgt := 32) hx hb dX11_keeps_24 (by decide) (fun cc => absurd cc (by decide +kernel)) (fun _ => ?_)
      refine lv_bipush (v := (-11)) hx hb dX11_keeps_27 (by decide) ?_
      refine lv_goto (tgt := 34) hx hb dX11_keeps_29 (by decide) ?_
      exact retI (v := (-11)) hx hb hr hlocks hS (show ((-11) : Int32) = F_keeps 3 x1 by first | decide +kernel | (have g_3 : (3 : Int32).toInt = 3 := (by decide +kernel); unfold F_keeps; (repeat (first | rw [if_pos (by omega)] | rw [if_neg (by omega)])))) dX11_keeps_34
abbrev BX11_put_1 (D : va_G) (k : Nat → ClassId) (a0 a18 a1 a2 a3 a4 a5 a6 a7 a8 a9 a10 a11 a12 a13 a14 a15 a16 a17 a19 a20 a21 : Nat) (x0 : Int32) (x1 : Int32) (x2 : Int64) (A : Nat → Prop) (r : Int32) (H : Heap) : Prop := r = F_put x0 x1 x2
set_option maxHeartbeats 4000000 in
set_option maxRecDepth 100000 in
theorem cX11_put_1 (l : Launch) (D : va_G) (k : Nat → ClassId) (sz : Nat) (a0 a18 a1 a2 a3 a4 a5 a6 a7 a8 a9 a10 a11 a12 a13 a14 a15 a16 a17 a19 a20 a21 : Nat) (x0 : Int32) (x1 : Int32) (x2 : Int64) : Met l yX11_put (Cond.code yX11_put cX11_put 5 (some .int) :: uw) ({ frames := 2, cells := 0, slots := 0, locals := 45 }) (pC D k sz [.ref a0, .int x0, .int x1, .long x2] [(a0, .inr (8, [.int 2, .int 0, .int 1, .int 0, .int 0, .int 0, .ref a1, .ref a2, .int 0, .int 0, .ref a3, .ref a4, .ref a5, .ref a6, .ref a7, .ref a8, .ref a9, .int 0, .int 0, .int 0, .ref a10, .ref a11, .ref a12, .ref a13, .int 0, .int 0, .ref a14, .ref a15, .ref a16, .ref a17, .int 0, .int 0, .ref a18, .ref a19, .ref a20, .ref a21])), (a18, .inl (k 0, 4, .inl (tI [(-1), (-1), (-1), (-1)] 0)))]) (qI (BX11_put_1 D k a0 a18 a1 a2 a3 a4 a5 a6 a7 a8 a9 a10 a11 a12 a13 a14 a15 a16 a17 a19 a20 a21 x0 x1 x2 (va_A [(a0, .inr (8, [.int 2, .int 0, .int 1, .int 0, .int 0, .int 0, .ref a1, .ref a2, .int 0, .int 0, .ref a3, .ref a4, .ref a5, .ref a6, .ref a7, .ref a8, .ref a9, .int 0, .int 0, .int 0, .ref a10, .ref a11, .ref a12, .ref a13, .int 0, .int 0, .ref a14, .ref a15, .ref a16, .ref a17, .int 0, .int 0, .ref a18, .ref a19, .ref a20, .ref a21])), (a18, .inl (k 0, 4, .inl (tI [(-1), (-1), (-1), (-1)] 0)))] sz)) (va_A [(a0, .inr (8, [.int 2, .int 0, .int 1, .int 0, .int 0, .int 0, .ref a1, .ref a2, .int 0, .int 0, .ref a3, .ref a4, .ref a5, .ref a6, .ref a7, .ref a8, .ref a9, .int 0, .int 0, .int 0, .ref a10, .ref a11, .ref a12, .ref a13, .int 0, .int 0, .ref a14, .ref a15, .ref a16, .ref a17, .int 0, .int 0, .ref a18, .ref a19, .ref a20, .ref a21])), (a18, .inl (k 0, 4, .inl (tI [(-1), (-1), (-1), (-1)] 0)))] sz)) 0 0 (va_A [(a0, .inr (8, [.int 2, .int 0, .int 1, .int 0, .int 0, .int 0, .ref a1, .ref a2, .int 0, .int 0, .ref a3, .ref a4, .ref a5, .ref a6, .ref a7, .ref a8, .ref a9, .int 0, .int 0, .int 0, .ref a10, .ref a11, .ref a12, .ref a13, .int 0, .int 0, .ref a14, .ref a15, .ref a16, .ref a17, .int 0, .int 0, .ref a18, .ref a19, .ref a20, .ref a21])), (a18, .inl (k 0, 4, .inl (tI [(-1), (-1), (-1), (-1)] 0)))] sz) := by
  refine begin_ (Qc := fun A => qI (BX11_put_1 D k a0 a18 a1 a2 a3 a4 a5 a6 a7 a8 a9 a10 a11 a12 a13 a14 a15 a16 a17 a19 a20 a21 x0 x1 x2 A) A) (by decide) (Nat.le_of_ble_eq_true rfl) ?_
  intro p e s m below meth c ls A hx hb hr hml hown hlocks hin hU hK hsz hP hD hS hA hl
  have hl : lv_has ls 5 [(0, .ref a0), (1, .int x0), (2, .int x1), (3, .long x2)] := hl
  clear hsz
  refine lv_iload_n hx hb dX11_put_0 rfl (lv_at hl 1 rfl) ?_
  refine cI (rS (As := [.int x0]) (rest := []) (wc := []) hx hb hml hown hU hK hP hD [] rfl (by decide) (cX11_isSheet_1 l D k _ (x0)) w1101 w1099 w1100 w72 hdX11_isSheet ⟨rfl, rfl⟩ ⟨Nat.le_of_ble_eq_true rfl, Nat.le_of_ble_eq_true rfl⟩ rfl hl.1 (Nat.le_of_ble_eq_true rfl) dX11_put_1 ⟨Nat.le_of_ble_eq_true rfl, Nat.le_of_ble_eq_true rfl⟩) hP hD hS hA (wr := [(a0, .inr (8, [.int 2, .int 0, .int 1, .int 0, .int 0, .int 0, .ref a1, .ref a2, .int 0, .int 0, .ref a3, .ref a4, .ref a5, .ref a6, .ref a7, .ref a8, .ref a9, .int 0, .int 0, .int 0, .ref a10, .ref a11, .ref a12, .ref a13, .int 0, .int 0, .ref a14, .ref a15, .ref a16, .ref a17, .int 0, .int 0, .ref a18, .ref a19, .ref a20, .ref a21])), (a18, .inl (k 0, 4, .inl (tI [(-1), (-1), (-1), (-1)] 0)))]) [] [0, 1] rfl rfl (by decide) (by decide) (fun r1 H locs hB J hS => ?_)
  rcases hB with ⟨c_2, rfl, hP1, hD1⟩ | ⟨c_3, c_4, rfl, hP1, hD1⟩ | ⟨c_5, c_6, rfl, hP1, hD1⟩
  · skip
    obtain ⟨hP, hD⟩ := J _ hP1 hD1
    have hP : va_P D cl0 [(a0, .inr (8, [.int 2, .int 0, .int 1, .int 0, .int 0, .int 0, .ref a1, .ref a2, .int 0, .int 0, .ref a3, .ref a4, .ref a5, .ref a6, .ref a7, .ref a8, .ref a9, .int 0, .int 0, .int 0, .ref a10, .ref a11, .ref a12, .ref a13, .int 0, .int 0, .ref a14, .ref a15, .ref a16, .ref a17, .int 0, .int 0, .ref a18, .ref a19, .ref a20, .ref a21])), (a18, .inl (k 0, 4, .inl (tI [(-1), (-1), (-1), (-1)] 0)))] H := hP
    have hD : va_D A [(a0, .inr (8, [.int 2, .int 0, .int 1, .int 0, .int 0, .int 0, .ref a1, .ref a2, .int 0, .int 0, .ref a3, .ref a4, .ref a5, .ref a6, .ref a7, .ref a8, .ref a9, .int 0, .int 0, .int 0, .ref a10, .ref a11, .ref a12, .ref a13, .int 0, .int 0, .ref a14, .ref a15, .ref a16, .ref a17, .int 0, .int 0, .ref a18, .ref a19, .ref a20, .ref a21])), (a18, .inl (k 0, 4, .inl (tI [(-1), (-1), (-1), (-1)] 0)))] := hD
    refine lv_if_ne (tgt := 9) hx hb dX11_put_4 (by decide) (fun cc => absurd (by decide +kernel) cc) (fun _ => ?_)
    refine lv_iconst (v := (-1)) hx hb dX11_put_7 (by decide) ?_
    exact retI (v := (-1)) hx hb hr hlocks hS (show ((-1) : Int32) = F_put x0 x1 x2 by first | decide +kernel | (have f0 := dv_lt (x := x0.toInt) (y := 0) c_2 (wd x0) (by decide +kernel); unfold F_put; (repeat (first | rw [if_pos (by omega)] | rw [if_neg (by omega)])))) dX11_put_8
  · skip
    obtain ⟨hP, hD⟩ := J _ hP1 hD1
    have hP : va_P D cl0 [(a0, .inr (8, [.int 2, .int 0, .int 1, .int 0, .int 0, .int 0, .ref a1, .ref a2, .int 0, .int 0, .ref a3, .ref a4, .ref a5, .ref a6, .ref a7, .ref a8, .ref a9, .int 0, .int 0, .int 0, .ref a10, .ref a11, .ref a12, .ref a13, .int 0, .int 0, .ref a14, .ref a15, .ref a16, .ref a17, .int 0, .int 0, .ref a18, .ref a19, .ref a20, .ref a21])), (a18, .inl (k 0, 4, .inl (tI [(-1), (-1), (-1), (-1)] 0)))] H := hP
    have hD : va_D A [(a0, .inr (8, [.int 2, .int 0, .int 1, .int 0, .int 0, .int 0, .ref a1, .ref a2, .int 0, .int 0, .ref a3, .ref a4, .ref a5, .ref a6, .ref a7, .ref a8, .ref a9, .int 0, .int 0, .int 0, .ref a10, .ref a11, .ref a12, .ref a13, .int 0, .int 0, .ref a14, .ref a15, .ref a16, .ref a17, .int 0, .int 0, .ref a18, .ref a19, .ref a20, .ref a21])), (a18, .inl (k 0, 4, .inl (tI [(-1), (-1), (-1), (-1)] 0)))] := hD
    refine lv_if_ne (tgt := 9) hx hb dX11_put_4 (by decide) (fun cc => absurd (by decide +kernel) cc) (fun _ => ?_)
    refine lv_iconst (v := (-1)) hx hb dX11_put_7 (by decide) ?_
    exact retI (v := (-1)) hx hb hr hlocks hS (show ((-1) : Int32) = F_put x0 x1 x2 by first | decide +kernel | (have f0 := dv_nlt (x := x0.toInt) (y := 0) c_3 (wd x0) (by decide +kernel); have f1 := dv_lt (x := 3) (y := x0.toInt) c_4 (by decide +kernel) (wd x0); unfold F_put; (repeat (first | rw [if_pos (by omega)] | rw [if_neg (by omega)])))) dX11_put_8
  · skip
    obtain ⟨hP, hD⟩ := J _ hP1 hD1
    have hP : va_P D cl0 [(a0, .inr (8, [.int 2, .int 0, .int 1, .int 0, .int 0, .int 0, .ref a1, .ref a2, .int 0, .int 0, .ref a3, .ref a4, .ref a5, .ref a6, .ref a7, .ref a8, .ref a9, .int 0, .int 0, .int 0, .ref a10, .ref a11, .ref a12, .ref a13, .int 0, .int 0, .ref a14, .ref a15, .ref a16, .ref a17, .int 0, .int 0, .ref a18, .ref a19, .ref a20, .ref a21])), (a18, .inl (k 0, 4, .inl (tI [(-1), (-1), (-1), (-1)] 0)))] H := hP
    have hD : va_D A [(a0, .inr (8, [.int 2, .int 0, .int 1, .int 0, .int 0, .int 0, .ref a1, .ref a2, .int 0, .int 0, .ref a3, .ref a4, .ref a5, .ref a6, .ref a7, .ref a8, .ref a9, .int 0, .int 0, .int 0, .ref a10, .ref a11, .ref a12, .ref a13, .int 0, .int 0, .ref a14, .ref a15, .ref a16, .ref a17, .int 0, .int 0, .ref a18, .ref a19, .ref a20, .ref a21])), (a18, .inl (k 0, 4, .inl (tI [(-1), (-1), (-1), (-1)] 0)))] := hD
    refine lv_if_ne (tgt := 9) hx hb dX11_put_4 (by decide) (fun _ => ?_) (fun cc => absurd cc (by decide +kernel))
    refine lv_aload_n hx hb dX11_put_9 rfl (lv_at hl 0 rfl) ?_
    refine va_get (D := D) (ci := 8) (v := .ref a18) (C := RX11) (T := TX11) (N := 36) hx hb hU iX11 hown hK.1 hP 0 rfl rfl 32 (by decide) (hU _ w817) (fun _ h9 => h9) rfl dX11_put_10 ?_
    refine lv_iload_n hx hb dX11_put_13 rfl (lv_at hl 1 rfl) ?_
    have hsp : x0.toInt = 0 ∨ x0.toInt = 1 ∨ x0.toInt = 2 ∨ x0.toInt = 3 := by
      have f0 := dv_nlt (x := x0.toInt) (y := 0) c_5 (wd x0) (by decide +kernel)
      have f1 := dv_nlt (x := 3) (y := x0.toInt) c_6 (by decide +kernel) (wd x0)
      omega
    rcases hsp with hsp | hsp | hsp | hsp
    · skip
      obtain rfl : x0 = 0 := eq32 hsp (by decide +kernel)
      refine ld_i (j := 0) (v := (-1)) hx hb hK hP 1 rfl (by decide +kernel) rfl dX11_put_14 ?_
      refine lv_if_ge (tgt := 21) hx hb dX11_put_15 (by decide) (fun cc => absurd cc (by decide +kernel)) (fun _ => ?_)
      refine lv_bipush (v := (-11)) hx hb dX11_put_18 (by decide) ?_
      exact retI (v := (-11)) hx hb hr hlocks hS (show ((-11) : Int32) = F_put 0 x1 x2 by first | decide +kernel | (have g_0 : (0 : Int32).toInt = 0 := (by decide +kernel); unfold F_put; (repeat (first | rw [if_pos (by omega)] | rw [if_neg (by omega)])))) dX11_put_20
    · skip
      obtain rfl : x0 = 1 := eq32 hsp (by decide +kernel)
      refine ld_i (j := 1) (v := (-1)) hx hb hK hP 1 rfl (by decide +kernel) rfl dX11_put_14 ?_
      refine lv_if_ge (tgt := 21) hx hb dX11_put_15 (by decide) (fun cc => absurd cc (by decide +kernel)) (fun _ => ?_)
      refine lv_bipush (v := (-11)) hx hb dX11_put_18 (by decide) ?_
      exact retI (v := (-11)) hx hb hr hlocks hS (show ((-11) : Int32) = F_put 1 x1 x2 by first | decide +kernel | (have g_1 : (1 : Int32).toInt = 1 := (by decide +kernel); unfold F_put; (repeat (first | rw [if_pos (by omega)] | rw [if_neg (by omega)])))) dX11_put_20
    · skip
      obtain rfl : x0 = 2 := eq32 hsp (by decide +kernel)
      refine ld_i (j := 2) (v := (-1)) hx hb hK hP 1 rfl (by decide +kernel) rfl dX11_put_14 ?_
      refine lv_if_ge (tgt := 21) hx hb dX11_put_15 (by decide) (fun cc => absurd cc (by decide +kernel)) (fun _ => ?_)
      refine lv_bipush (v := (-11)) hx hb dX11_put_18 (by decide) ?_
      exact retI (v := (-11)) hx hb hr hlocks hS (show ((-11) : Int32) = F_put 2 x1 x2 by first | decide +kernel | (have g_2 : (2 : Int32).toInt = 2 := (by decide +kernel); unfold F_put; (repeat (first | rw [if_pos (by omega)] | rw [if_neg (by omega)])))) dX11_put_20
    · skip
      obtain rfl : x0 = 3 := eq32 hsp (by decide +kernel)
      refine ld_i (j := 3) (v := (-1)) hx hb hK hP 1 rfl (by decide +kernel) rfl dX11_put_14 ?_
      refine lv_if_ge (tgt := 21) hx hb dX11_put_15 (by decide) (fun cc => absurd cc (by decide +kernel)) (fun _ => ?_)
      refine lv_bipush (v := (-11)) hx hb dX11_put_18 (by decide) ?_
      exact retI (v := (-11)) hx hb hr hlocks hS (show ((-11) : Int32) = F_put 3 x1 x2 by first | decide +kernel | (have g_3 : (3 : Int32).toInt = 3 := (by decide +kernel); unfold F_put; (repeat (first | rw [if_pos (by omega)] | rw [if_neg (by omega)])))) dX11_put_20
abbrev BX11_item_1 (D : va_G) (k : Nat → ClassId) (a0 a18 a1 a2 a3 a4 a5 a6 a7 a8 a9 a10 a11 a12 a13 a14 a15 a16 a17 a19 a20 a21 : Nat) (x0 : Int32) (x1 : Int32) (x2 : Int32) (A : Nat → Prop) (r : Int32) (H : Heap) : Prop := r = F_item x0 x1 x2
set_option maxHeartbeats 4000000 in
set_option maxRecDepth 100000 in
theorem cX11_item_1 (l : Launch) (D : va_G) (k : Nat → ClassId) (sz : Nat) (a0 a18 a1 a2 a3 a4 a5 a6 a7 a8 a9 a10 a11 a12 a13 a14 a15 a16 a17 a19 a20 a21 : Nat) (x0 : Int32) (x1 : Int32) (x2 : Int32) : Met l yX11_item (Cond.code yX11_item cX11_item 4 (some .int) :: uw) ({ frames := 2, cells := 0, slots := 0, locals := 45 }) (pC D k sz [.ref a0, .int x0, .int x1, .int x2] [(a0, .inr (8, [.int 2, .int 0, .int 1, .int 0, .int 0, .int 0, .ref a1, .ref a2, .int 0, .int 0, .ref a3, .ref a4, .ref a5, .ref a6, .ref a7, .ref a8, .ref a9, .int 0, .int 0, .int 0, .ref a10, .ref a11, .ref a12, .ref a13, .int 0, .int 0, .ref a14, .ref a15, .ref a16, .ref a17, .int 0, .int 0, .ref a18, .ref a19, .ref a20, .ref a21])), (a18, .inl (k 0, 4, .inl (tI [(-1), (-1), (-1), (-1)] 0)))]) (qI (BX11_item_1 D k a0 a18 a1 a2 a3 a4 a5 a6 a7 a8 a9 a10 a11 a12 a13 a14 a15 a16 a17 a19 a20 a21 x0 x1 x2 (va_A [(a0, .inr (8, [.int 2, .int 0, .int 1, .int 0, .int 0, .int 0, .ref a1, .ref a2, .int 0, .int 0, .ref a3, .ref a4, .ref a5, .ref a6, .ref a7, .ref a8, .ref a9, .int 0, .int 0, .int 0, .ref a10, .ref a11, .ref a12, .ref a13, .int 0, .int 0, .ref a14, .ref a15, .ref a16, .ref a17, .int 0, .int 0, .ref a18, .ref a19, .ref a20, .ref a21])), (a18, .inl (k 0, 4, .inl (tI [(-1), (-1), (-1), (-1)] 0)))] sz)) (va_A [(a0, .inr (8, [.int 2, .int 0, .int 1, .int 0, .int 0, .int 0, .ref a1, .ref a2, .int 0, .int 0, .ref a3, .ref a4, .ref a5, .ref a6, .ref a7, .ref a8, .ref a9, .int 0, .int 0, .int 0, .ref a10, .ref a11, .ref a12, .ref a13, .int 0, .int 0, .ref a14, .ref a15, .ref a16, .ref a17, .int 0, .int 0, .ref a18, .ref a19, .ref a20, .ref a21])), (a18, .inl (k 0, 4, .inl (tI [(-1), (-1), (-1), (-1)] 0)))] sz)) 0 0 (va_A [(a0, .inr (8, [.int 2, .int 0, .int 1, .int 0, .int 0, .int 0, .ref a1, .ref a2, .int 0, .int 0, .ref a3, .ref a4, .ref a5, .ref a6, .ref a7, .ref a8, .ref a9, .int 0, .int 0, .int 0, .ref a10, .ref a11, .ref a12, .ref a13, .int 0, .int 0, .ref a14, .ref a15, .ref a16, .ref a17, .int 0, .int 0, .ref a18, .ref a19, .ref a20, .ref a21])), (a18, .inl (k 0, 4, .inl (tI [(-1), (-1), (-1), (-1)] 0)))] sz) := by
  refine begin_ (Qc := fun A => qI (BX11_item_1 D k a0 a18 a1 a2 a3 a4 a5 a6 a7 a8 a9 a10 a11 a12 a13 a14 a15 a16 a17 a19 a20 a21 x0 x1 x2 A) A) (by decide) (Nat.le_of_ble_eq_true rfl) ?_
  intro p e s m below meth c ls A hx hb hr hml hown hlocks hin hU hK hsz hP hD hS hA hl
  have hl : lv_has ls 4 [(0, .ref a0), (1, .int x0), (2, .int x1), (3, .int x2)] := hl
  clear hsz
  refine lv_iload_n hx hb dX11_item_0 rfl (lv_at hl 1 rfl) ?_
  refine cI (rS (As := [.int x0]) (rest := []) (wc := []) hx hb hml hown hU hK hP hD [] rfl (by decide) (cX11_isSheet_1 l D k _ (x0)) w1101 w1099 w1100 w72 hdX11_isSheet ⟨rfl, rfl⟩ ⟨Nat.le_of_ble_eq_true rfl, Nat.le_of_ble_eq_true rfl⟩ rfl hl.1 (Nat.le_of_ble_eq_true rfl) dX11_item_1 ⟨Nat.le_of_ble_eq_true rfl, Nat.le_of_ble_eq_true rfl⟩) hP hD hS hA (wr := [(a0, .inr (8, [.int 2, .int 0, .int 1, .int 0, .int 0, .int 0, .ref a1, .ref a2, .int 0, .int 0, .ref a3, .ref a4, .ref a5, .ref a6, .ref a7, .ref a8, .ref a9, .int 0, .int 0, .int 0, .ref a10, .ref a11, .ref a12, .ref a13, .int 0, .int 0, .ref a14, .ref a15, .ref a16, .ref a17, .int 0, .int 0, .ref a18, .ref a19, .ref a20, .ref a21])), (a18, .inl (k 0, 4, .inl (tI [(-1), (-1), (-1), (-1)] 0)))]) [] [0, 1] rfl rfl (by decide) (by decide) (fun r1 H locs hB J hS => ?_)
  rcases hB with ⟨c_2, rfl, hP1, hD1⟩ | ⟨c_3, c_4, rfl, hP1, hD1⟩ | ⟨c_5, c_6, rfl, hP1, hD1⟩
  · skip
    obtain ⟨hP, hD⟩ := J _ hP1 hD1
    have hP : va_P D cl0 [(a0, .inr (8, [.int 2, .int 0, .int 1, .int 0, .int 0, .int 0, .ref a1, .ref a2, .int 0, .int 0, .ref a3, .ref a4, .ref a5, .ref a6, .ref a7, .ref a8, .ref a9, .int 0, .int 0, .int 0, .ref a10, .ref a11, .ref a12, .ref a13, .int 0, .int 0, .ref a14, .ref a15, .ref a16, .ref a17, .int 0, .int 0, .ref a18, .ref a19, .ref a20, .ref a21])), (a18, .inl (k 0, 4, .inl (tI [(-1), (-1), (-1), (-1)] 0)))] H := hP
    have hD : va_D A [(a0, .inr (8, [.int 2, .int 0, .int 1, .int 0, .int 0, .int 0, .ref a1, .ref a2, .int 0, .int 0, .ref a3, .ref a4, .ref a5, .ref a6, .ref a7, .ref a8, .ref a9, .int 0, .int 0, .int 0, .ref a10, .ref a11, .ref a12, .ref a13, .int 0, .int 0, .ref a14, .ref a15, .ref a16, .ref a17, .int 0, .int 0, .ref a18, .ref a19, .ref a20, .ref a21])), (a18, .inl (k 0, 4, .inl (tI [(-1), (-1), (-1), (-1)] 0)))] := hD
    refine lv_if_eq (tgt := 19) hx hb dX11_item_4 (by decide) (fun _ => ?_) (fun cc => absurd (by decide +kernel) cc)
    refine lv_iconst (v := (-1)) hx hb dX11_item_19 (by decide) ?_
    exact retI (v := (-1)) hx hb hr hlocks hS (show ((-1) : Int32) = F_item x0 x1 x2 by first | decide +kernel | (have f0 := dv_lt (x := x0.toInt) (y := 0) c_2 (wd x0) (by decide +kernel); unfold F_item; (repeat (first | rw [if_pos (by omega)] | rw [if_neg (by omega)])))) dX11_item_20
  · skip
    obtain ⟨hP, hD⟩ := J _ hP1 hD1
    have hP : va_P D cl0 [(a0, .inr (8, [.int 2, .int 0, .int 1, .int 0, .int 0, .int 0, .ref a1, .ref a2, .int 0, .int 0, .ref a3, .ref a4, .ref a5, .ref a6, .ref a7, .ref a8, .ref a9, .int 0, .int 0, .int 0, .ref a10, .ref a11, .ref a12, .ref a13, .int 0, .int 0, .ref a14, .ref a15, .ref a16, .ref a17, .int 0, .int 0, .ref a18, .ref a19, .ref a20, .ref a21])), (a18, .inl (k 0, 4, .inl (tI [(-1), (-1), (-1), (-1)] 0)))] H := hP
    have hD : va_D A [(a0, .inr (8, [.int 2, .int 0, .int 1, .int 0, .int 0, .int 0, .ref a1, .ref a2, .int 0, .int 0, .ref a3, .ref a4, .ref a5, .ref a6, .ref a7, .ref a8, .ref a9, .int 0, .int 0, .int 0, .ref a10, .ref a11, .ref a12, .ref a13, .int 0, .int 0, .ref a14, .ref a15, .ref a16, .ref a17, .int 0, .int 0, .ref a18, .ref a19, .ref a20, .ref a21])), (a18, .inl (k 0, 4, .inl (tI [(-1), (-1), (-1), (-1)] 0)))] := hD
    refine lv_if_eq (tgt := 19) hx hb dX11_item_4 (by decide) (fun _ => ?_) (fun cc => absurd (by decide +kernel) cc)
    refine lv_iconst (v := (-1)) hx hb dX11_item_19 (by decide) ?_
    exact retI (v := (-1)) hx hb hr hlocks hS (show ((-1) : Int32) = F_item x0 x1 x2 by first | decide +kernel | (have f0 := dv_nlt (x := x0.toInt) (y := 0) c_3 (wd x0) (by decide +kernel); have f1 := dv_lt (x := 3) (y := x0.toInt) c_4 (by decide +kernel) (wd x0); unfold F_item; (repeat (first | rw [if_pos (by omega)] | rw [if_neg (by omega)])))) dX11_item_20
  · skip
    obtain ⟨hP, hD⟩ := J _ hP1 hD1
    have hP : va_P D cl0 [(a0, .inr (8, [.int 2, .int 0, .int 1, .int 0, .int 0, .int 0, .ref a1, .ref a2, .int 0, .int 0, .ref a3, .ref a4, .ref a5, .ref a6, .ref a7, .ref a8, .ref a9, .int 0, .int 0, .int 0, .ref a10, .ref a11, .ref a12, .ref a13, .int 0, .int 0, .ref a14, .ref a15, .ref a16, .ref a17, .int 0, .int 0, .ref a18, .ref a19, .ref a20, .ref a21])), (a18, .inl (k 0, 4, .inl (tI [(-1), (-1), (-1), (-1)] 0)))] H := hP
    have hD : va_D A [(a0, .inr (8, [.int 2, .int 0, .int 1, .int 0, .int 0, .int 0, .ref a1, .ref a2, .int 0, .int 0, .ref a3, .ref a4, .ref a5, .ref a6, .ref a7, .ref a8, .ref a9, .int 0, .int 0, .int 0, .ref a10, .ref a11, .ref a12, .ref a13, .int 0, .int 0, .ref a14, .ref a15, .ref a16, .ref a17, .int 0, .int 0, .ref a18, .ref a19, .ref a20, .ref a21])), (a18, .inl (k 0, 4, .inl (tI [(-1), (-1), (-1), (-1)] 0)))] := hD
    refine lv_if_eq (tgt := 19) hx hb dX11_item_4 (by decide) (fun cc => absurd cc (by decide +kernel)) (fun _ => ?_)
    refine lv_iload_n hx hb dX11_item_7 rfl (lv_at hl 2 rfl) ?_
    refine lv_i2l (v := x1.toInt64) hx hb dX11_item_8 rfl ?_
    refine lv_lconst (v := 0) hx hb dX11_item_9 (by decide) ?_
    refine lv_ldc2 hx hb hown (hU _ w1156) dX11_item_10 ?_
    refine cI (rS (As := [.long x1.toInt64, .long 0, .long 2]) (rest := []) (wc := []) hx hb hml hown hU hK hP hD [] rfl (by decide) (cX11_in_4 l D k _ (x1.toInt64)) w901 w899 w900 w72 hdX11_in ⟨rfl, rfl⟩ ⟨Nat.le_of_ble_eq_true rfl, Nat.le_of_ble_eq_true rfl⟩ rfl hl.1 (Nat.le_of_ble_eq_true rfl) dX11_item_13 ⟨Nat.le_of_ble_eq_true rfl, Nat.le_of_ble_eq_true rfl⟩) hP hD hS hA (wr := [(a0, .inr (8, [.int 2, .int 0, .int 1, .int 0, .int 0, .int 0, .ref a1, .ref a2, .int 0, .int 0, .ref a3, .ref a4, .ref a5, .ref a6, .ref a7, .ref a8, .ref a9, .int 0, .int 0, .int 0, .ref a10, .ref a11, .ref a12, .ref a13, .int 0, .int 0, .ref a14, .ref a15, .ref a16, .ref a17, .int 0, .int 0, .ref a18, .ref a19, .ref a20, .ref a21])), (a18, .inl (k 0, 4, .inl (tI [(-1), (-1), (-1), (-1)] 0)))]) [] [0, 1] rfl rfl (by decide) (by decide) (fun r7 H locs hB J hS => ?_)
    rcases hB with ⟨c_8, rfl, hP1, hD1⟩ | ⟨c_9, c_10, rfl, hP1, hD1⟩ | ⟨c_11, c_12, rfl, hP1, hD1⟩
    · skip
      obtain ⟨hP, hD⟩ := J _ hP1 hD1
      have hP : va_P D cl0 [(a0, .inr (8, [.int 2, .int 0, .int 1, .int 0, .int 0, .int 0, .ref a1, .ref a2, .int 0, .int 0, .ref a3, .ref a4, .ref a5, .ref a6, .ref a7, .ref a8, .ref a9, .int 0, .int 0, .int 0, .ref a10, .ref a11, .ref a12, .ref a13, .int 0, .int 0, .ref a14, .ref a15, .ref a16, .ref a17, .int 0, .int 0, .ref a18, .ref a19, .ref a20, .ref a21])), (a18, .inl (k 0, 4, .inl (tI [(-1), (-1), (-1), (-1)] 0)))] H := hP
      have hD : va_D A [(a0, .inr (8, [.int 2, .int 0, .int 1, .int 0, .int 0, .int 0, .ref a1, .ref a2, .int 0, .int 0, .ref a3, .ref a4, .ref a5, .ref a6, .ref a7, .ref a8, .ref a9, .int 0, .int 0, .int 0, .ref a10, .ref a11, .ref a12, .ref a13, .int 0, .int 0, .ref a14, .ref a15, .ref a16, .ref a17, .int 0, .int 0, .ref a18, .ref a19, .ref a20, .ref a21])), (a18, .inl (k 0, 4, .inl (tI [(-1), (-1), (-1), (-1)] 0)))] := hD
      refine lv_if_ne (tgt := 21) hx hb dX11_item_16 (by decide) (fun cc => absurd (by decide +kernel) cc) (fun _ => ?_)
      refine lv_iconst (v := (-1)) hx hb dX11_item_19 (by decide) ?_
      exact retI (v := (-1)) hx hb hr hlocks hS (show ((-1) : Int32) = F_item x0 x1 x2 by first | decide +kernel | (have f0 := dv_nlt (x := x0.toInt) (y := 0) c_5 (wd x0) (by decide +kernel); have f1 := dv_nlt (x := 3) (y := x0.toInt) c_6 (by decide +kernel) (wd x0); have f2 := dv_lt (x := x1.toInt) (y := 0) c_8 (wd x1) (by decide +kernel); unfold F_item; (repeat (first | rw [if_pos (by omega)] | rw [if_neg (by omega)])))) dX11_item_20
    · skip
      obtain ⟨hP, hD⟩ := J _ hP1 hD1
      have hP : va_P D cl0 [(a0, .inr (8, [.int 2, .int 0, .int 1, .int 0, .int 0, .int 0, .ref a1, .ref a2, .int 0, .int 0, .ref a3, .ref a4, .ref a5, .ref a6, .ref a7, .ref a8, .ref a9, .int 0, .int 0, .int 0, .ref a10, .ref a11, .ref a12, .ref a13, .int 0, .int 0, .ref a14, .ref a15, .ref a16, .ref a17, .int 0, .int 0, .ref a18, .ref a19, .ref a20, .ref a21])), (a18, .inl (k 0, 4, .inl (tI [(-1), (-1), (-1), (-1)] 0)))] H := hP
      have hD : va_D A [(a0, .inr (8, [.int 2, .int 0, .int 1, .int 0, .int 0, .int 0, .ref a1, .ref a2, .int 0, .int 0, .ref a3, .ref a4, .ref a5, .ref a6, .ref a7, .ref a8, .ref a9, .int 0, .int 0, .int 0, .ref a10, .ref a11, .ref a12, .ref a13, .int 0, .int 0, .ref a14, .ref a15, .ref a16, .ref a17, .int 0, .int 0, .ref a18, .ref a19, .ref a20, .ref a21])), (a18, .inl (k 0, 4, .inl (tI [(-1), (-1), (-1), (-1)] 0)))] := hD
      refine lv_if_ne (tgt := 21) hx hb dX11_item_16 (by decide) (fun cc => absurd (by decide +kernel) cc) (fun _ => ?_)
      refine lv_iconst (v := (-1)) hx hb dX11_item_19 (by decide) ?_
      exact retI (v := (-1)) hx hb hr hlocks hS (show ((-1) : Int32) = F_item x0 x1 x2 by first | decide +kernel | (have f0 := dv_nlt (x := x0.toInt) (y := 0) c_5 (wd x0) (by decide +kernel); have f1 := dv_nlt (x := 3) (y := x0.toInt) c_6 (by decide +kernel) (wd x0); have f2 := dv_nlt (x := x1.toInt) (y := 0) c_9 (wd x1) (by decide +kernel); have f3 := dv_lt (x := 2) (y := x1.toInt) c_10 (by decide +kernel) (wd x1); unfold F_item; (repeat (first | rw [if_pos (by omega)] | rw [if_neg (by omega)])))) dX11_item_20
    · skip
      obtain ⟨hP, hD⟩ := J _ hP1 hD1
      have hP : va_P D cl0 [(a0, .inr (8, [.int 2, .int 0, .int 1, .int 0, .int 0, .int 0, .ref a1, .ref a2, .int 0, .int 0, .ref a3, .ref a4, .ref a5, .ref a6, .ref a7, .ref a8, .ref a9, .int 0, .int 0, .int 0, .ref a10, .ref a11, .ref a12, .ref a13, .int 0, .int 0, .ref a14, .ref a15, .ref a16, .ref a17, .int 0, .int 0, .ref a18, .ref a19, .ref a20, .ref a21])), (a18, .inl (k 0, 4, .inl (tI [(-1), (-1), (-1), (-1)] 0)))] H := hP
      have hD : va_D A [(a0, .inr (8, [.int 2, .int 0, .int 1, .int 0, .int 0, .int 0, .ref a1, .ref a2, .int 0, .int 0, .ref a3, .ref a4, .ref a5, .ref a6, .ref a7, .ref a8, .ref a9, .int 0, .int 0, .int 0, .ref a10, .ref a11, .ref a12, .ref a13, .int 0, .int 0, .ref a14, .ref a15, .ref a16, .ref a17, .int 0, .int 0, .ref a18, .ref a19, .ref a20, .ref a21])), (a18, .inl (k 0, 4, .inl (tI [(-1), (-1), (-1), (-1)] 0)))] := hD
      refine lv_if_ne (tgt := 21) hx hb dX11_item_16 (by decide) (fun _ => ?_) (fun cc => absurd cc (by decide +kernel))
      refine lv_aload_n hx hb dX11_item_21 rfl (lv_at hl 0 rfl) ?_
      refine va_get (D := D) (ci := 8) (v := .ref a18) (C := RX11) (T := TX11) (N := 36) hx hb hU iX11 hown hK.1 hP 0 rfl rfl 32 (by decide) (hU _ w817) (fun _ h9 => h9) rfl dX11_item_22 ?_
      refine lv_iload_n hx hb dX11_item_25 rfl (lv_at hl 1 rfl) ?_
      have hsp : x0.toInt = 0 ∨ x0.toInt = 1 ∨ x0.toInt = 2 ∨ x0.toInt = 3 := by
        have f0 := dv_nlt (x := x0.toInt) (y := 0) c_5 (wd x0) (by decide +kernel)
        have f1 := dv_nlt (x := 3) (y := x0.toInt) c_6 (by decide +kernel) (wd x0)
        have f2 := dv_nlt (x := x1.toInt) (y := 0) c_11 (wd x1) (by decide +kernel)
        have f3 := dv_nlt (x := 2) (y := x1.toInt) c_12 (by decide +kernel) (wd x1)
        omega
      rcases hsp with hsp | hsp | hsp | hsp
      · skip
        obtain rfl : x0 = 0 := eq32 hsp (by decide +kernel)
        refine ld_i (j := 0) (v := (-1)) hx hb hK hP 1 rfl (by decide +kernel) rfl dX11_item_26 ?_
        refine lv_iload_n hx hb dX11_item_27 rfl (lv_at hl 2 rfl) ?_
        have hsp : x1.toInt = 0 ∨ x1.toInt = 1 ∨ x1.toInt = 2 := by
          have f2 := dv_nlt (x := x1.toInt) (y := 0) c_11 (wd x1) (by decide +kernel)
          have f3 := dv_nlt (x := 2) (y := x1.toInt) c_12 (by decide +kernel) (wd x1)
          have g_0 : (0 : Int32).toInt = 0 := (by decide +kernel)
          omega
        rcases hsp with hsp | hsp | hsp
        · skip
          obtain rfl : x1 = 0 := eq32 hsp (by decide +kernel)
          refine lv_icmp_eq (tgt := 48) hx hb dX11_item_28 (by decide) (fun cc => absurd cc (by decide +kernel)) (fun _ => ?_)
          refine lv_aload_n hx hb dX11_item_31 rfl (lv_at hl 0 rfl) ?_
          refine va_get (D := D) (ci := 8) (v := .ref a18) (C := RX11) (T := TX11) (N := 36) hx hb hU iX11 hown hK.1 hP 0 rfl rfl 32 (by decide) (hU _ w817) (fun _ h9 => h9) rfl dX11_item_32 ?_
          refine lv_iload_n hx hb dX11_item_35 rfl (lv_at hl 1 rfl) ?_
          refine ld_i (j := 0) (v := (-1)) hx hb hK hP 1 rfl (by decide +kernel) rfl dX11_item_36 ?_
          refine lv_if_ge (tgt := 45) hx hb dX11_item_37 (by decide) (fun cc => absurd cc (by decide +kernel)) (fun _ => ?_)
          refine lv_bipush (v := (-11)) hx hb dX11_item_40 (by decide) ?_
          refine lv_goto (tgt := 47) hx hb dX11_item_42 (by decide) ?_
          exact retI (v := (-11)) hx hb hr hlocks hS (show ((-11) : Int32) = F_item 0 0 x2 by first | decide +kernel | (have g_0 : (0 : Int32).toInt = 0 := (by decide +kernel); unfold F_item; (repeat (first | rw [if_pos (by omega)] | rw [if_neg (by omega)])))) dX11_item_47
        · skip
          obtain rfl : x1 = 1 := eq32 hsp (by decide +kernel)
          refine lv_icmp_eq (tgt := 48) hx hb dX11_item_28 (by decide) (fun cc => absurd cc (by decide +kernel)) (fun _ => ?_)
          refine lv_aload_n hx hb dX11_item_31 rfl (lv_at hl 0 rfl) ?_
          refine va_get (D := D) (ci := 8) (v := .ref a18) (C := RX11) (T := TX11) (N := 36) hx hb hU iX11 hown hK.1 hP 0 rfl rfl 32 (by decide) (hU _ w817) (fun _ h9 => h9) rfl dX11_item_32 ?_
          refine lv_iload_n hx hb dX11_item_35 rfl (lv_at hl 1 rfl) ?_
          refine ld_i (j := 0) (v := (-1)) hx hb hK hP 1 rfl (by decide +kernel) rfl dX11_item_36 ?_
          refine lv_if_ge (tgt := 45) hx hb dX11_item_37 (by decide) (fun cc => absurd cc (by decide +kernel)) (fun _ => ?_)
          refine lv_bipush (v := (-11)) hx hb dX11_item_40 (by decide) ?_
          refine lv_goto (tgt := 47) hx hb dX11_item_42 (by decide) ?_
          exact retI (v := (-11)) hx hb hr hlocks hS (show ((-11) : Int32) = F_item 0 1 x2 by first | decide +kernel | (have g_0 : (0 : Int32).toInt = 0 := (by decide +kernel); have g_1 : (1 : Int32).toInt = 1 := (by decide +kernel); unfold F_item; (repeat (first | rw [if_pos (by omega)] | rw [if_neg (by omega)])))) dX11_item_47
        · skip
          obtain rfl : x1 = 2 := eq32 hsp (by decide +kernel)
          refine lv_icmp_eq (tgt := 48) hx hb dX11_item_28 (by decide) (fun cc => absurd cc (by decide +kernel)) (fun _ => ?_)
          refine lv_aload_n hx hb dX11_item_31 rfl (lv_at hl 0 rfl) ?_
          refine va_get (D := D) (ci := 8) (v := .ref a18) (C := RX11) (T := TX11) (N := 36) hx hb hU iX11 hown hK.1 hP 0 rfl rfl 32 (by decide) (hU _ w817) (fun _ h9 => h9) rfl dX11_item_32 ?_
          refine lv_iload_n hx hb dX11_item_35 rfl (lv_at hl 1 rfl) ?_
          refine ld_i (j := 0) (v := (-1)) hx hb hK hP 1 rfl (by decide +kernel) rfl dX11_item_36 ?_
          refine lv_if_ge (tgt := 45) hx hb dX11_item_37 (by decide) (fun cc => absurd cc (by decide +kernel)) (fun _ => ?_)
          refine lv_bipush (v := (-11)) hx hb dX11_item_40 (by decide) ?_
          refine lv_goto (tgt := 47) hx hb dX11_item_42 (by decide) ?_
          exact retI (v := (-11)) hx hb hr hlocks hS (show ((-11) : Int32) = F_item 0 2 x2 by first | decide +kernel | (have g_0 : (0 : Int32).toInt = 0 := (by decide +kernel); have g_2 : (2 : Int32).toInt = 2 := (by decide +kernel); unfold F_item; (repeat (first | rw [if_pos (by omega)] | rw [if_neg (by omega)])))) dX11_item_47
      · skip
        obtain rfl : x0 = 1 := eq32 hsp (by decide +kernel)
        refine ld_i (j := 1) (v := (-1)) hx hb hK hP 1 rfl (by decide +kernel) rfl dX11_item_26 ?_
        refine lv_iload_n hx hb dX11_item_27 rfl (lv_at hl 2 rfl) ?_
        have hsp : x1.toInt = 0 ∨ x1.toInt = 1 ∨ x1.toInt = 2 := by
          have f2 := dv_nlt (x := x1.toInt) (y := 0) c_11 (wd x1) (by decide +kernel)
          have f3 := dv_nlt (x := 2) (y := x1.toInt) c_12 (by decide +kernel) (wd x1)
          have g_1 : (1 : Int32).toInt = 1 := (by decide +kernel)
          omega
        rcases hsp with hsp | hsp | hsp
        · skip
          obtain rfl : x1 = 0 := eq32 hsp (by decide +kernel)
          refine lv_icmp_eq (tgt := 48) hx hb dX11_item_28 (by decide) (fun cc => absurd cc (by decide +kernel)) (fun _ => ?_)
          refine lv_aload_n hx hb dX11_item_31 rfl (lv_at hl 0 rfl) ?_
          refine va_get (D := D) (ci := 8) (v := .ref a18) (C := RX11) (T := TX11) (N := 36) hx hb hU iX11 hown hK.1 hP 0 rfl rfl 32 (by decide) (hU _ w817) (fun _ h9 => h9) rfl dX11_item_32 ?_
          refine lv_iload_n hx hb dX11_item_35 rfl (lv_at hl 1 rfl) ?_
          refine ld_i (j := 1) (v := (-1)) hx hb hK hP 1 rfl (by decide +kernel) rfl dX11_item_36 ?_
          refine lv_if_ge (tgt := 45) hx hb dX11_item_37 (by decide) (fun cc => absurd cc (by decide +kernel)) (fun _ => ?_)
          refine lv_bipush (v := (-11)) hx hb dX11_item_40 (by decide) ?_
          refine lv_goto (tgt := 47) hx hb dX11_item_42 (by decide) ?_
          exact retI (v := (-11)) hx hb hr hlocks hS (show ((-11) : Int32) = F_item 1 0 x2 by first | decide +kernel | (have g_0 : (0 : Int32).toInt = 0 := (by decide +kernel); have g_1 : (1 : Int32).toInt = 1 := (by decide +kernel); unfold F_item; (repeat (first | rw [if_pos (by omega)] | rw [if_neg (by omega)])))) dX11_item_47
        · skip
          obtain rfl : x1 = 1 := eq32 hsp (by decide +kernel)
          refine lv_icmp_eq (tgt := 48) hx hb dX11_item_28 (by decide) (fun cc => absurd cc (by decide +kernel)) (fun _ => ?_)
          refine lv_aload_n hx hb dX11_item_31 rfl (lv_at hl 0 rfl) ?_
          refine va_get (D := D) (ci := 8) (v := .ref a18) (C := RX11) (T := TX11) (N := 36) hx hb hU iX11 hown hK.1 hP 0 rfl rfl 32 (by decide) (hU _ w817) (fun _ h9 => h9) rfl dX11_item_32 ?_
          refine lv_iload_n hx hb dX11_item_35 rfl (lv_at hl 1 rfl) ?_
          refine ld_i (j := 1) (v := (-1)) hx hb hK hP 1 rfl (by decide +kernel) rfl dX11_item_36 ?_
          refine lv_if_ge (tgt := 45) hx hb dX11_item_37 (by decide) (fun cc => absurd cc (by decide +kernel)) (fun _ => ?_)
          refine lv_bipush (v := (-11)) hx hb dX11_item_40 (by decide) ?_
          refine lv_goto (tgt := 47) hx hb dX11_item_42 (by decide) ?_
          exact retI (v := (-11)) hx hb hr hlocks hS (show ((-11) : Int32) = F_item 1 1 x2 by first | decide +kernel | (have g_1 : (1 : Int32).toInt = 1 := (by decide +kernel); unfold F_item; (repeat (first | rw [if_pos (by omega)] | rw [if_neg (by omega)])))) dX11_item_47
        · skip
          obtain rfl : x1 = 2 := eq32 hsp (by decide +kernel)
          refine lv_icmp_eq (tgt := 48) hx hb dX11_item_28 (by decide) (fun cc => absurd cc (by decide +kernel)) (fun _ => ?_)
          refine lv_aload_n hx hb dX11_item_31 rfl (lv_at hl 0 rfl) ?_
          refine va_get (D := D) (ci := 8) (v := .ref a18) (C := RX11) (T := TX11) (N := 36) hx hb hU iX11 hown hK.1 hP 0 rfl rfl 32 (by decide) (hU _ w817) (fun _ h9 => h9) rfl dX11_item_32 ?_
          refine lv_iload_n hx hb dX11_item_35 rfl (lv_at hl 1 rfl) ?_
          refine ld_i (j := 1) (v := (-1)) hx hb hK hP 1 rfl (by decide +kernel) rfl dX11_item_36 ?_
          refine lv_if_ge (tgt := 45) hx hb dX11_item_37 (by decide) (fun cc => absurd cc (by decide +kernel)) (fun _ => ?_)
          refine lv_bipush (v := (-11)) hx hb dX11_item_40 (by decide) ?_
          refine lv_goto (tgt := 47) hx hb dX11_item_42 (by decide) ?_
          exact retI (v := (-11)) hx hb hr hlocks hS (show ((-11) : Int32) = F_item 1 2 x2 by first | decide +kernel | (have g_1 : (1 : Int32).toInt = 1 := (by decide +kernel); have g_2 : (2 : Int32).toInt = 2 := (by decide +kernel); unfold F_item; (repeat (first | rw [if_pos (by omega)] | rw [if_neg (by omega)])))) dX11_item_47
      · skip
        obtain rfl : x0 = 2 := eq32 hsp (by decide +kernel)
        refine ld_i (j := 2) (v := (-1)) hx hb hK hP 1 rfl (by decide +kernel) rfl dX11_item_26 ?_
        refine lv_iload_n hx hb dX11_item_27 rfl (lv_at hl 2 rfl) ?_
        have hsp : x1.toInt = 0 ∨ x1.toInt = 1 ∨ x1.toInt = 2 := by
          have f2 := dv_nlt (x := x1.toInt) (y := 0) c_11 (wd x1) (by decide +kernel)
          have f3 := dv_nlt (x := 2) (y := x1.toInt) c_12 (by decide +kernel) (wd x1)
          have g_2 : (2 : Int32).toInt = 2 := (by decide +kernel)
          omega
        rcases hsp with hsp | hsp | hsp
        · skip
          obtain rfl : x1 = 0 := eq32 hsp (by decide +kernel)
          refine lv_icmp_eq (tgt := 48) hx hb dX11_item_28 (by decide) (fun cc => absurd cc (by decide +kernel)) (fun _ => ?_)
          refine lv_aload_n hx hb dX11_item_31 rfl (lv_at hl 0 rfl) ?_
          refine va_get (D := D) (ci := 8) (v := .ref a18) (C := RX11) (T := TX11) (N := 36) hx hb hU iX11 hown hK.1 hP 0 rfl rfl 32 (by decide) (hU _ w817) (fun _ h9 => h9) rfl dX11_item_32 ?_
          refine lv_iload_n hx hb dX11_item_35 rfl (lv_at hl 1 rfl) ?_
          refine ld_i (j := 2) (v := (-1)) hx hb hK hP 1 rfl (by decide +kernel) rfl dX11_item_36 ?_
          refine lv_if_ge (tgt := 45) hx hb dX11_item_37 (by decide) (fun cc => absurd cc (by decide +kernel)) (fun _ => ?_)
          refine lv_bipush (v := (-11)) hx hb dX11_item_40 (by decide) ?_
          refine lv_goto (tgt := 47) hx hb dX11_item_42 (by decide) ?_
          exact retI (v := (-11)) hx hb hr hlocks hS (show ((-11) : Int32) = F_item 2 0 x2 by first | decide +kernel | (have g_0 : (0 : Int32).toInt = 0 := (by decide +kernel); have g_2 : (2 : Int32).toInt = 2 := (by decide +kernel); unfold F_item; (repeat (first | rw [if_pos (by omega)] | rw [if_neg (by omega)])))) dX11_item_47
        · skip
          obtain rfl : x1 = 1 := eq32 hsp (by decide +kernel)
          refine lv_icmp_eq (tgt := 48) hx hb dX11_item_28 (by decide) (fun cc => absurd cc (by decide +kernel)) (fun _ => ?_)
          refine lv_aload_n hx hb dX11_item_31 rfl (lv_at hl 0 rfl) ?_
          refine va_get (D := D) (ci := 8) (v := .ref a18) (C := RX11) (T := TX11) (N := 36) hx hb hU iX11 hown hK.1 hP 0 rfl rfl 32 (by decide) (hU _ w817) (fun _ h9 => h9) rfl dX11_item_32 ?_
          refine lv_iload_n hx hb dX11_item_35 rfl (lv_at hl 1 rfl) ?_
          refine ld_i (j := 2) (v := (-1)) hx hb hK hP 1 rfl (by decide +kernel) rfl dX11_item_36 ?_
          refine lv_if_ge (tgt := 45) hx hb dX11_item_37 (by decide) (fun cc => absurd cc (by decide +kernel)) (fun _ => ?_)
          refine lv_bipush (v := (-11)) hx hb dX11_item_40 (by decide) ?_
          refine lv_goto (tgt := 47) hx hb dX11_item_42 (by decide) ?_
          exact retI (v := (-11)) hx hb hr hlocks hS (show ((-11) : Int32) = F_item 2 1 x2 by first | decide +kernel | (have g_1 : (1 : Int32).toInt = 1 := (by decide +kernel); have g_2 : (2 : Int32).toInt = 2 := (by decide +kernel); unfold F_item; (repeat (first | rw [if_pos (by omega)] | rw [if_neg (by omega)])))) dX11_item_47
        · skip
          obtain rfl : x1 = 2 := eq32 hsp (by decide +kernel)
          refine lv_icmp_eq (tgt := 48) hx hb dX11_item_28 (by decide) (fun cc => absurd cc (by decide +kernel)) (fun _ => ?_)
          refine lv_aload_n hx hb dX11_item_31 rfl (lv_at hl 0 rfl) ?_
          refine va_get (D := D) (ci := 8) (v := .ref a18) (C := RX11) (T := TX11) (N := 36) hx hb hU iX11 hown hK.1 hP 0 rfl rfl 32 (by decide) (hU _ w817) (fun _ h9 => h9) rfl dX11_item_32 ?_
          refine lv_iload_n hx hb dX11_item_35 rfl (lv_at hl 1 rfl) ?_
          refine ld_i (j := 2) (v := (-1)) hx hb hK hP 1 rfl (by decide +kernel) rfl dX11_item_36 ?_
          refine lv_if_ge (tgt := 45) hx hb dX11_item_37 (by decide) (fun cc => absurd cc (by decide +kernel)) (fun _ => ?_)
          refine lv_bipush (v := (-11)) hx hb dX11_item_40 (by decide) ?_
          refine lv_goto (tgt := 47) hx hb dX11_item_42 (by decide) ?_
          exact retI (v := (-11)) hx hb hr hlocks hS (show ((-11) : Int32) = F_item 2 2 x2 by first | decide +kernel | (have g_2 : (2 : Int32).toInt = 2 := (by decide +kernel); unfold F_item; (repeat (first | rw [if_pos (by omega)] | rw [if_neg (by omega)])))) dX11_item_47
      · skip
        obtain rfl : x0 = 3 := eq32 hsp (by decide +kernel)
        refine ld_i (j := 3) (v := (-1)) hx hb hK hP 1 rfl (by decide +kernel) rfl dX11_item_26 ?_
        refine lv_iload_n hx hb dX11_item_27 rfl (lv_at hl 2 rfl) ?_
        have hsp : x1.toInt = 0 ∨ x1.toInt = 1 ∨ x1.toInt = 2 := by
          have f2 := dv_nlt (x := x1.toInt) (y := 0) c_11 (wd x1) (by decide +kernel)
          have f3 := dv_nlt (x := 2) (y := x1.toInt) c_12 (by decide +kernel) (wd x1)
          have g_3 : (3 : Int32).toInt = 3 := (by decide +kernel)
          omega
        rcases hsp with hsp | hsp | hsp
        · skip
          obtain rfl : x1 = 0 := eq32 hsp (by decide +kernel)
          refine lv_icmp_eq (tgt := 48) hx hb dX11_item_28 (by decide) (fun cc => absurd cc (by decide +kernel)) (fun _ => ?_)
          refine lv_aload_n hx hb dX11_item_31 rfl (lv_at hl 0 rfl) ?_
          refine va_get (D := D) (ci := 8) (v := .ref a18) (C := RX11) (T := TX11) (N := 36) hx hb hU iX11 hown hK.1 hP 0 rfl rfl 32 (by decide) (hU _ w817) (fun _ h9 => h9) rfl dX11_item_32 ?_
          refine lv_iload_n hx hb dX11_item_35 rfl (lv_at hl 1 rfl) ?_
          refine ld_i (j := 3) (v := (-1)) hx hb hK hP 1 rfl (by decide +kernel) rfl dX11_item_36 ?_
          refine lv_if_ge (tgt := 45) hx hb dX11_item_37 (by decide) (fun cc => absurd cc (by decide +kernel)) (fun _ => ?_)
          refine lv_bipush (v := (-11)) hx hb dX11_item_40 (by decide) ?_
          refine lv_goto (tgt := 47) hx hb dX11_item_42 (by decide) ?_
          exact retI (v := (-11)) hx hb hr hlocks hS (show ((-11) : Int32) = F_item 3 0 x2 by first | decide +kernel | (have g_0 : (0 : Int32).toInt = 0 := (by decide +kernel); have g_3 : (3 : Int32).toInt = 3 := (by decide +kernel); unfold F_item; (repeat (first | rw [if_pos (by omega)] | rw [if_neg (by omega)])))) dX11_item_47
        · skip
          obtain rfl : x1 = 1 := eq32 hsp (by decide +kernel)
          refine lv_icmp_eq (tgt := 48) hx hb dX11_item_28 (by decide) (fun cc => absurd cc (by decide +kernel)) (fun _ => ?_)
          refine lv_aload_n hx hb dX11_item_31 rfl (lv_at hl 0 rfl) ?_
          refine va_get (D := D) (ci := 8) (v := .ref a18) (C := RX11) (T := TX11) (N := 36) hx hb hU iX11 hown hK.1 hP 0 rfl rfl 32 (by decide) (hU _ w817) (fun _ h9 => h9) rfl dX11_item_32 ?_
          refine lv_iload_n hx hb dX11_item_35 rfl (lv_at hl 1 rfl) ?_
          refine ld_i (j := 3) (v := (-1)) hx hb hK hP 1 rfl (by decide +kernel) rfl dX11_item_36 ?_
          refine lv_if_ge (tgt := 45) hx hb dX11_item_37 (by decide) (fun cc => absurd cc (by decide +kernel)) (fun _ => ?_)
          refine lv_bipush (v := (-11)) hx hb dX11_item_40 (by decide) ?_
          refine lv_goto (tgt := 47) hx hb dX11_item_42 (by decide) ?_
          exact retI (v := (-11)) hx hb hr hlocks hS (show ((-11) : Int32) = F_item 3 1 x2 by first | decide +kernel | (have g_1 : (1 : Int32).toInt = 1 := (by decide +kernel); have g_3 : (3 : Int32).toInt = 3 := (by decide +kernel); unfold F_item; (repeat (first | rw [if_pos (by omega)] | rw [if_neg (by omega)])))) dX11_item_47
        · skip
          obtain rfl : x1 = 2 := eq32 hsp (by decide +kernel)
          refine lv_icmp_eq (tgt := 48) hx hb dX11_item_28 (by decide) (fun cc => absurd cc (by decide +kernel)) (fun _ => ?_)
          refine lv_aload_n hx hb dX11_item_31 rfl (lv_at hl 0 rfl) ?_
          refine va_get (D := D) (ci := 8) (v := .ref a18) (C := RX11) (T := TX11) (N := 36) hx hb hU iX11 hown hK.1 hP 0 rfl rfl 32 (by decide) (hU _ w817) (fun _ h9 => h9) rfl dX11_item_32 ?_
          refine lv_iload_n hx hb dX11_item_35 rfl (lv_at hl 1 rfl) ?_
          refine ld_i (j := 3) (v := (-1)) hx hb hK hP 1 rfl (by decide +kernel) rfl dX11_item_36 ?_
          refine lv_if_ge (tgt := 45) hx hb dX11_item_37 (by decide) (fun cc => absurd cc (by decide +kernel)) (fun _ => ?_)
          refine lv_bipush (v := (-11)) hx hb dX11_item_40 (by decide) ?_
          refine lv_goto (tgt := 47) hx hb dX11_item_42 (by decide) ?_
          exact retI (v := (-11)) hx hb hr hlocks hS (show ((-11) : Int32) = F_item 3 2 x2 by first | decide +kernel | (have g_2 : (2 : Int32).toInt = 2 := (by decide +kernel); have g_3 : (3 : Int32).toInt = 3 := (by decide +kernel); unfold F_item; (repeat (first | rw [if_pos (by omega)] | rw [if_neg (by omega)])))) dX11_item_47
abbrev BX11_copy_1 (D : va_G) (k : Nat → ClassId) (a0 a18 a1 a2 a3 a4 a5 a6 a7 a8 a9 a10 a11 a12 a13 a14 a15 a16 a17 a19 a20 a21 : Nat) (x0 : Int32) (x1 : Int32) (x2 : Int32) (x3 : Int32) (x4 : Int32) (A : Nat → Prop) (r : Int32) (H : Heap) : Prop := r = F_copy x0 x1 x2 x3 x4
set_option maxHeartbeats 4000000 in
set_option maxRecDepth 100000 in
theorem cX11_copy_1 (l : Launch) (D : va_G) (k : Nat → ClassId) (sz : Nat) (a0 a18 a1 a2 a3 a4 a5 a6 a7 a8 a9 a10 a11 a12 a13 a14 a15 a16 a17 a19 a20 a21 : Nat) (x0 : Int32) (x1 : Int32) (x2 : Int32) (x3 : Int32) (x4 : Int32) : Met l yX11_copy (Cond.code yX11_copy cX11_copy 7 (some .int) :: uw) ({ frames := 2, cells := 0, slots := 0, locals := 45 }) (pC D k sz [.ref a0, .int x0, .int x1, .int x2, .int x3, .int x4] [(a0, .inr (8, [.int 2, .int 0, .int 1, .int 0, .int 0, .int 0, .ref a1, .ref a2, .int 0, .int 0, .ref a3, .ref a4, .ref a5, .ref a6, .ref a7, .ref a8, .ref a9, .int 0, .int 0, .int 0, .ref a10, .ref a11, .ref a12, .ref a13, .int 0, .int 0, .ref a14, .ref a15, .ref a16, .ref a17, .int 0, .int 0, .ref a18, .ref a19, .ref a20, .ref a21])), (a18, .inl (k 0, 4, .inl (tI [(-1), (-1), (-1), (-1)] 0)))]) (qI (BX11_copy_1 D k a0 a18 a1 a2 a3 a4 a5 a6 a7 a8 a9 a10 a11 a12 a13 a14 a15 a16 a17 a19 a20 a21 x0 x1 x2 x3 x4 (va_A [(a0, .inr (8, [.int 2, .int 0, .int 1, .int 0, .int 0, .int 0, .ref a1, .ref a2, .int 0, .int 0, .ref a3, .ref a4, .ref a5, .ref a6, .ref a7, .ref a8, .ref a9, .int 0, .int 0, .int 0, .ref a10, .ref a11, .ref a12, .ref a13, .int 0, .int 0, .ref a14, .ref a15, .ref a16, .ref a17, .int 0, .int 0, .ref a18, .ref a19, .ref a20, .ref a21])), (a18, .inl (k 0, 4, .inl (tI [(-1), (-1), (-1), (-1)] 0)))] sz)) (va_A [(a0, .inr (8, [.int 2, .int 0, .int 1, .int 0, .int 0, .int 0, .ref a1, .ref a2, .int 0, .int 0, .ref a3, .ref a4, .ref a5, .ref a6, .ref a7, .ref a8, .ref a9, .int 0, .int 0, .int 0, .ref a10, .ref a11, .ref a12, .ref a13, .int 0, .int 0, .ref a14, .ref a15, .ref a16, .ref a17, .int 0, .int 0, .ref a18, .ref a19, .ref a20, .ref a21])), (a18, .inl (k 0, 4, .inl (tI [(-1), (-1), (-1), (-1)] 0)))] sz)) 0 0 (va_A [(a0, .inr (8, [.int 2, .int 0, .int 1, .int 0, .int 0, .int 0, .ref a1, .ref a2, .int 0, .int 0, .ref a3, .ref a4, .ref a5, .ref a6, .ref a7, .ref a8, .ref a9, .int 0, .int 0, .int 0, .ref a10, .ref a11, .ref a12, .ref a13, .int 0, .int 0, .ref a14, .ref a15, .ref a16, .ref a17, .int 0, .int 0, .ref a18, .ref a19, .ref a20, .ref a21])), (a18, .inl (k 0, 4, .inl (tI [(-1), (-1), (-1), (-1)] 0)))] sz) := by
  refine begin_ (Qc := fun A => qI (BX11_copy_1 D k a0 a18 a1 a2 a3 a4 a5 a6 a7 a8 a9 a10 a11 a12 a13 a14 a15 a16 a17 a19 a20 a21 x0 x1 x2 x3 x4 A) A) (by decide) (Nat.le_of_ble_eq_true rfl) ?_
  intro p e s m below meth c ls A hx hb hr hml hown hlocks hin hU hK hsz hP hD hS hA hl
  have hl : lv_has ls 7 [(0, .ref a0), (1, .int x0), (2, .int x1), (3, .int x2), (4, .int x3), (5, .int x4)] := hl
  clear hsz
  refine lv_iload_n hx hb dX11_copy_0 rfl (lv_at hl 1 rfl) ?_
  refine cI (rS (As := [.int x0]) (rest := []) (wc := []) hx hb hml hown hU hK hP hD [] rfl (by decide) (cX11_isSheet_1 l D k _ (x0)) w1101 w1099 w1100 w72 hdX11_isSheet ⟨rfl, rfl⟩ ⟨Nat.le_of_ble_eq_true rfl, Nat.le_of_ble_eq_true rfl⟩ rfl hl.1 (Nat.le_of_ble_eq_true rfl) dX11_copy_1 ⟨Nat.le_of_ble_eq_true rfl, Nat.le_of_ble_eq_true rfl⟩) hP hD hS hA (wr := [(a0, .inr (8, [.int 2, .int 0, .int 1, .int 0, .int 0, .int 0, .ref a1, .ref a2, .int 0, .int 0, .ref a3, .ref a4, .ref a5, .ref a6, .ref a7, .ref a8, .ref a9, .int 0, .int 0, .int 0, .ref a10, .ref a11, .ref a12, .ref a13, .int 0, .int 0, .ref a14, .ref a15, .ref a16, .ref a17, .int 0, .int 0, .ref a18, .ref a19, .ref a20, .ref a21])), (a18, .inl (k 0, 4, .inl (tI [(-1), (-1), (-1), (-1)] 0)))]) [] [0, 1] rfl rfl (by decide) (by decide) (fun r1 H locs hB J hS => ?_)
  rcases hB with ⟨c_2, rfl, hP1, hD1⟩ | ⟨c_3, c_4, rfl, hP1, hD1⟩ | ⟨c_5, c_6, rfl, hP1, hD1⟩
  · skip
    obtain ⟨hP, hD⟩ := J _ hP1 hD1
    have hP : va_P D cl0 [(a0, .inr (8, [.int 2, .int 0, .int 1, .int 0, .int 0, .int 0, .ref a1, .ref a2, .int 0, .int 0, .ref a3, .ref a4, .ref a5, .ref a6, .ref a7, .ref a8, .ref a9, .int 0, .int 0, .int 0, .ref a10, .ref a11, .ref a12, .ref a13, .int 0, .int 0, .ref a14, .ref a15, .ref a16, .ref a17, .int 0, .int 0, .ref a18, .ref a19, .ref a20, .ref a21])), (a18, .inl (k 0, 4, .inl (tI [(-1), (-1), (-1), (-1)] 0)))] H := hP
    have hD : va_D A [(a0, .inr (8, [.int 2, .int 0, .int 1, .int 0, .int 0, .int 0, .ref a1, .ref a2, .int 0, .int 0, .ref a3, .ref a4, .ref a5, .ref a6, .ref a7, .ref a8, .ref a9, .int 0, .int 0, .int 0, .ref a10, .ref a11, .ref a12, .ref a13, .int 0, .int 0, .ref a14, .ref a15, .ref a16, .ref a17, .int 0, .int 0, .ref a18, .ref a19, .ref a20, .ref a21])), (a18, .inl (k 0, 4, .inl (tI [(-1), (-1), (-1), (-1)] 0)))] := hD
    refine lv_if_eq (tgt := 14) hx hb dX11_copy_4 (by decide) (fun _ => ?_) (fun cc => absurd (by decide +kernel) cc)
    refine lv_iconst (v := (-1)) hx hb dX11_copy_14 (by decide) ?_
    exact retI (v := (-1)) hx hb hr hlocks hS (show ((-1) : Int32) = F_copy x0 x1 x2 x3 x4 by first | decide +kernel | (have f0 := dv_lt (x := x0.toInt) (y := 0) c_2 (wd x0) (by decide +kernel); unfold F_copy; (repeat (first | rw [if_pos (by omega)] | rw [if_neg (by omega)])))) dX11_copy_15
  · skip
    obtain ⟨hP, hD⟩ := J _ hP1 hD1
    have hP : va_P D cl0 [(a0, .inr (8, [.int 2, .int 0, .int 1, .int 0, .int 0, .int 0, .ref a1, .ref a2, .int 0, .int 0, .ref a3, .ref a4, .ref a5, .ref a6, .ref a7, .ref a8, .ref a9, .int 0, .int 0, .int 0, .ref a10, .ref a11, .ref a12, .ref a13, .int 0, .int 0, .ref a14, .ref a15, .ref a16, .ref a17, .int 0, .int 0, .ref a18, .ref a19, .ref a20, .ref a21])), (a18, .inl (k 0, 4, .inl (tI [(-1), (-1), (-1), (-1)] 0)))] H := hP
    have hD : va_D A [(a0, .inr (8, [.int 2, .int 0, .int 1, .int 0, .int 0, .int 0, .ref a1, .ref a2, .int 0, .int 0, .ref a3, .ref a4, .ref a5, .ref a6, .ref a7, .ref a8, .ref a9, .int 0, .int 0, .int 0, .ref a10, .ref a11, .ref a12, .ref a13, .int 0, .int 0, .ref a14, .ref a15, .ref a16, .ref a17, .int 0, .int 0, .ref a18, .ref a19, .ref a20, .ref a21])), (a18, .inl (k 0, 4, .inl (tI [(-1), (-1), (-1), (-1)] 0)))] := hD
    refine lv_if_eq (tgt := 14) hx hb dX11_copy_4 (by decide) (fun _ => ?_) (fun cc => absurd (by decide +kernel) cc)
    refine lv_iconst (v := (-1)) hx hb dX11_copy_14 (by decide) ?_
    exact retI (v := (-1)) hx hb hr hlocks hS (show ((-1) : Int32) = F_copy x0 x1 x2 x3 x4 by first | decide +kernel | (have f0 := dv_nlt (x := x0.toInt) (y := 0) c_3 (wd x0) (by decide +kernel); have f1 := dv_lt (x := 3) (y := x0.toInt) c_4 (by decide +kernel) (wd x0); unfold F_copy; (repeat (first | rw [if_pos (by omega)] | rw [if_neg (by omega)])))) dX11_copy_15
  · skip
    obtain ⟨hP, hD⟩ := J _ hP1 hD1
    have hP : va_P D cl0 [(a0, .inr (8, [.int 2, .int 0, .int 1, .int 0, .int 0, .int 0, .ref a1, .ref a2, .int 0, .int 0, .ref a3, .ref a4, .ref a5, .ref a6, .ref a7, .ref a8, .ref a9, .int 0, .int 0, .int 0, .ref a10, .ref a11, .ref a12, .ref a13, .int 0, .int 0, .ref a14, .ref a15, .ref a16, .ref a17, .int 0, .int 0, .ref a18, .ref a19, .ref a20, .ref a21])), (a18, .inl (k 0, 4, .inl (tI [(-1), (-1), (-1), (-1)] 0)))] H := hP
    have hD : va_D A [(a0, .inr (8, [.int 2, .int 0, .int 1, .int 0, .int 0, .int 0, .ref a1, .ref a2, .int 0, .int 0, .ref a3, .ref a4, .ref a5, .ref a6, .ref a7, .ref a8, .ref a9, .int 0, .int 0, .int 0, .ref a10, .ref a11, .ref a12, .ref a13, .int 0, .int 0, .ref a14, .ref a15, .ref a16, .ref a17, .int 0, .int 0, .ref a18, .ref a19, .ref a20, .ref a21])), (a18, .inl (k 0, 4, .inl (tI [(-1), (-1), (-1), (-1)] 0)))] := hD
    refine lv_if_eq (tgt := 14) hx hb dX11_copy_4 (by decide) (fun cc => absurd cc (by decide +kernel)) (fun _ => ?_)
    refine lv_iload_n hx hb dX11_copy_7 rfl (lv_at hl 3 rfl) ?_
    refine cI (rS (As := [.int x2]) (rest := []) (wc := []) hx hb hml hown hU hK hP hD [] rfl (by decide) (cX11_isSheet_1 l D k _ (x2)) w1101 w1099 w1100 w72 hdX11_isSheet ⟨rfl, rfl⟩ ⟨Nat.le_of_ble_eq_true rfl, Nat.le_of_ble_eq_true rfl⟩ rfl hl.1 (Nat.le_of_ble_eq_true rfl) dX11_copy_8 ⟨Nat.le_of_ble_eq_true rfl, Nat.le_of_ble_eq_true rfl⟩) hP hD hS hA (wr := [(a0, .inr (8, [.int 2, .int 0, .int 1, .int 0, .int 0, .int 0, .ref a1, .ref a2, .int 0, .int 0, .ref a3, .ref a4, .ref a5, .ref a6, .ref a7, .ref a8, .ref a9, .int 0, .int 0, .int 0, .ref a10, .ref a11, .ref a12, .ref a13, .int 0, .int 0, .ref a14, .ref a15, .ref a16, .ref a17, .int 0, .int 0, .ref a18, .ref a19, .ref a20, .ref a21])), (a18, .inl (k 0, 4, .inl (tI [(-1), (-1), (-1), (-1)] 0)))]) [] [0, 1] rfl rfl (by decide) (by decide) (fun r7 H locs hB J hS => ?_)
    rcases hB with ⟨c_8, rfl, hP1, hD1⟩ | ⟨c_9, c_10, rfl, hP1, hD1⟩ | ⟨c_11, c_12, rfl, hP1, hD1⟩
    · skip
      obtain ⟨hP, hD⟩ := J _ hP1 hD1
      have hP : va_P D cl0 [(a0, .inr (8, [.int 2, .int 0, .int 1, .int 0, .int 0, .int 0, .ref a1, .ref a2, .int 0, .int 0, .ref a3, .ref a4, .ref a5, .ref a6, .ref a7, .ref a8, .ref a9, .int 0, .int 0, .int 0, .ref a10, .ref a11, .ref a12, .ref a13, .int 0, .int 0, .ref a14, .ref a15, .ref a16, .ref a17, .int 0, .int 0, .ref a18, .ref a19, .ref a20, .ref a21])), (a18, .inl (k 0, 4, .inl (tI [(-1), (-1), (-1), (-1)] 0)))] H := hP
      have hD : va_D A [(a0, .inr (8, [.int 2, .int 0, .int 1, .int 0, .int 0, .int 0, .ref a1, .ref a2, .int 0, .int 0, .ref a3, .ref a4, .ref a5, .ref a6, .ref a7, .ref a8, .ref a9, .int 0, .int 0, .int 0, .ref a10, .ref a11, .ref a12, .ref a13, .int 0, .int 0, .ref a14, .ref a15, .ref a16, .ref a17, .int 0, .int 0, .ref a18, .ref a19, .ref a20, .ref a21])), (a18, .inl (k 0, 4, .inl (tI [(-1), (-1), (-1), (-1)] 0)))] := hD
      refine lv_if_ne (tgt := 16) hx hb dX11_copy_11 (by decide) (fun cc => absurd (by decide +kernel) cc) (fun _ => ?_)
      refine lv_iconst (v := (-1)) hx hb dX11_copy_14 (by decide) ?_
      exact retI (v := (-1)) hx hb hr hlocks hS (show ((-1) : Int32) = F_copy x0 x1 x2 x3 x4 by first | decide +kernel | (have f0 := dv_nlt (x := x0.toInt) (y := 0) c_5 (wd x0) (by decide +kernel); have f1 := dv_nlt (x := 3) (y := x0.toInt) c_6 (by decide +kernel) (wd x0); have f2 := dv_lt (x := x2.toInt) (y := 0) c_8 (wd x2) (by decide +kernel); unfold F_copy; (repeat (first | rw [if_pos (by omega)] | rw [if_neg (by omega)])))) dX11_copy_15
    · skip
      obtain ⟨hP, hD⟩ := J _ hP1 hD1
      have hP : va_P D cl0 [(a0, .inr (8, [.int 2, .int 0, .int 1, .int 0, .int 0, .int 0, .ref a1, .ref a2, .int 0, .int 0, .ref a3, .ref a4, .ref a5, .ref a6, .ref a7, .ref a8, .ref a9, .int 0, .int 0, .int 0, .ref a10, .ref a11, .ref a12, .ref a13, .int 0, .int 0, .ref a14, .ref a15, .ref a16, .ref a17, .int 0, .int 0, .ref a18, .ref a19, .ref a20, .ref a21])), (a18, .inl (k 0, 4, .inl (tI [(-1), (-1), (-1), (-1)] 0)))] H := hP
      have hD : va_D A [(a0, .inr (8, [.int 2, .int 0, .int 1, .int 0, .int 0, .int 0, .ref a1, .ref a2, .int 0, .int 0, .ref a3, .ref a4, .ref a5, .ref a6, .ref a7, .ref a8, .ref a9, .int 0, .int 0, .int 0, .ref a10, .ref a11, .ref a12, .ref a13, .int 0, .int 0, .ref a14, .ref a15, .ref a16, .ref a17, .int 0, .int 0, .ref a18, .ref a19, .ref a20, .ref a21])), (a18, .inl (k 0, 4, .inl (tI [(-1), (-1), (-1), (-1)] 0)))] := hD
      refine lv_if_ne (tgt := 16) hx hb dX11_copy_11 (by decide) (fun cc => absurd (by decide +kernel) cc) (fun _ => ?_)
      refine lv_iconst (v := (-1)) hx hb dX11_copy_14 (by decide) ?_
      exact retI (v := (-1)) hx hb hr hlocks hS (show ((-1) : Int32) = F_copy x0 x1 x2 x3 x4 by first | decide +kernel | (have f0 := dv_nlt (x := x0.toInt) (y := 0) c_5 (wd x0) (by decide +kernel); have f1 := dv_nlt (x := 3) (y := x0.toInt) c_6 (by decide +kernel) (wd x0); have f2 := dv_nlt (x := x2.toInt) (y := 0) c_9 (wd x2) (by decide +kernel); have f3 := dv_lt (x := 3) (y := x2.toInt) c_10 (by decide +kernel) (wd x2); unfold F_copy; (repeat (first | rw [if_pos (by omega)] | rw [if_neg (by omega)])))) dX11_copy_15
    · skip
      obtain ⟨hP, hD⟩ := J _ hP1 hD1
      have hP : va_P D cl0 [(a0, .inr (8, [.int 2, .int 0, .int 1, .int 0, .int 0, .int 0, .ref a1, .ref a2, .int 0, .int 0, .ref a3, .ref a4, .ref a5, .ref a6, .ref a7, .ref a8, .ref a9, .int 0, .int 0, .int 0, .ref a10, .ref a11, .ref a12, .ref a13, .int 0, .int 0, .ref a14, .ref a15, .ref a16, .ref a17, .int 0, .int 0, .ref a18, .ref a19, .ref a20, .ref a21])), (a18, .inl (k 0, 4, .inl (tI [(-1), (-1), (-1), (-1)] 0)))] H := hP
      have hD : va_D A [(a0, .inr (8, [.int 2, .int 0, .int 1, .int 0, .int 0, .int 0, .ref a1, .ref a2, .int 0, .int 0, .ref a3, .ref a4, .ref a5, .ref a6, .ref a7, .ref a8, .ref a9, .int 0, .int 0, .int 0, .ref a10, .ref a11, .ref a12, .ref a13, .int 0, .int 0, .ref a14, .ref a15, .ref a16, .ref a17, .int 0, .int 0, .ref a18, .ref a19, .ref a20, .ref a21])), (a18, .inl (k 0, 4, .inl (tI [(-1), (-1), (-1), (-1)] 0)))] := hD
      refine lv_if_ne (tgt := 16) hx hb dX11_copy_11 (by decide) (fun _ => ?_) (fun cc => absurd cc (by decide +kernel))
      refine lv_aload_n hx hb dX11_copy_16 rfl (lv_at hl 0 rfl) ?_
      refine va_get (D := D) (ci := 8) (v := .ref a18) (C := RX11) (T := TX11) (N := 36) hx hb hU iX11 hown hK.1 hP 0 rfl rfl 32 (by decide) (hU _ w817) (fun _ h9 => h9) rfl dX11_copy_17 ?_
      refine lv_iload_n hx hb dX11_copy_20 rfl (lv_at hl 1 rfl) ?_
      have hsp : x0.toInt = 0 ∨ x0.toInt = 1 ∨ x0.toInt = 2 ∨ x0.toInt = 3 := by
        have f0 := dv_nlt (x := x0.toInt) (y := 0) c_5 (wd x0) (by decide +kernel)
        have f1 := dv_nlt (x := 3) (y := x0.toInt) c_6 (by decide +kernel) (wd x0)
        have f2 := dv_nlt (x := x2.toInt) (y := 0) c_11 (wd x2) (by decide +kernel)
        have f3 := dv_nlt (x := 3) (y := x2.toInt) c_12 (by decide +kernel) (wd x2)
        omega
      rcases hsp with hsp | hsp | hsp | hsp
      · skip
        obtain rfl : x0 = 0 := eq32 hsp (by decide +kernel)
        refine ld_i (j := 0) (v := (-1)) hx hb hK hP 1 rfl (by decide +kernel) rfl dX11_copy_21 ?_
        refine lv_if_lt (tgt := 34) hx hb dX11_copy_22 (by decide) (fun _ => ?_) (fun cc => absurd (by decide +kernel) cc)
        refine lv_bipush (v := (-11)) hx hb dX11_copy_34 (by decide) ?_
        exact retI (v := (-11)) hx hb hr hlocks hS (show ((-11) : Int32) = F_copy 0 x1 x2 x3 x4 by first | decide +kernel | (have f2 := dv_nlt (x := x2.toInt) (y := 0) c_11 (wd x2) (by decide +kernel); have f3 := dv_nlt (x := 3) (y := x2.toInt) c_12 (by decide +kernel) (wd x2); have g_0 : (0 : Int32).toInt = 0 := (by decide +kernel); unfold F_copy; (repeat (first | rw [if_pos (by omega)] | rw [if_neg (by omega)])))) dX11_copy_36
      · skip
        obtain rfl : x0 = 1 := eq32 hsp (by decide +kernel)
        refine ld_i (j := 1) (v := (-1)) hx hb hK hP 1 rfl (by decide +kernel) rfl dX11_copy_21 ?_
        refine lv_if_lt (tgt := 34) hx hb dX11_copy_22 (by decide) (fun _ => ?_) (fun cc => absurd (by decide +kernel) cc)
        refine lv_bipush (v := (-11)) hx hb dX11_copy_34 (by decide) ?_
        exact retI (v := (-11)) hx hb hr hlocks hS (show ((-11) : Int32) = F_copy 1 x1 x2 x3 x4 by first | decide +kernel | (have f2 := dv_nlt (x := x2.toInt) (y := 0) c_11 (wd x2) (by decide +kernel); have f3 := dv_nlt (x := 3) (y := x2.toInt) c_12 (by decide +kernel) (wd x2); have g_1 : (1 : Int32).toInt = 1 := (by decide +kernel); unfold F_copy; (repeat (first | rw [if_pos (by omega)] | rw [if_neg (by omega)])))) dX11_copy_36
      · skip
        obtain rfl : x0 = 2 := eq32 hsp (by decide +kernel)
        refine ld_i (j := 2) (v := (-1)) hx hb hK hP 1 rfl (by decide +kernel) rfl dX11_copy_21 ?_
        refine lv_if_lt (tgt := 34) hx hb dX11_copy_22 (by decide) (fun _ => ?_) (fun cc => absurd (by decide +kernel) cc)
        refine lv_bipush (v := (-11)) hx hb dX11_copy_34 (by decide) ?_
        exact retI (v := (-11)) hx hb hr hlocks hS (show ((-11) : Int32) = F_copy 2 x1 x2 x3 x4 by first | decide +kernel | (have f2 := dv_nlt (x := x2.toInt) (y := 0) c_11 (wd x2) (by decide +kernel); have f3 := dv_nlt (x := 3) (y := x2.toInt) c_12 (by decide +kernel) (wd x2); have g_2 : (2 : Int32).toInt = 2 := (by decide +kernel); unfold F_copy; (repeat (first | rw [if_pos (by omega)] | rw [if_neg (by omega)])))) dX11_copy_36
      · skip
        obtain rfl : x0 = 3 := eq32 hsp (by decide +kernel)
        refine ld_i (j := 3) (v := (-1)) hx hb hK hP 1 rfl (by decide +kernel) rfl dX11_copy_21 ?_
        refine lv_if_lt (tgt := 34) hx hb dX11_copy_22 (by decide) (fun _ => ?_) (fun cc => absurd (by decide +kernel) cc)
        refine lv_bipush (v := (-11)) hx hb dX11_copy_34 (by decide) ?_
        exact retI (v := (-11)) hx hb hr hlocks hS (show ((-11) : Int32) = F_copy 3 x1 x2 x3 x4 by first | decide +kernel | (have f2 := dv_nlt (x := x2.toInt) (y := 0) c_11 (wd x2) (by decide +kernel); have f3 := dv_nlt (x := 3) (y := x2.toInt) c_12 (by decide +kernel) (wd x2); have g_3 : (3 : Int32).toInt = 3 := (by decide +kernel); unfold F_copy; (repeat (first | rw [if_pos (by omega)] | rw [if_neg (by omega)])))) dX11_copy_36
abbrev BX11_lacks_1 (D : va_G) (k : Nat → ClassId) (h0 h1 h2 h3 h4 h5 h6 h7 h8 h9 h10 h11 h12 h13 h14 h15 h16 h17 h18 h19 h20 h21 : Nat) (x0 : Int32) (A : Nat → Prop) (r : Int32) (H : Heap) : Prop := (-11) = r ∧ va_P D cl0 [(h0, .inr (8, [.int 2, .int 0, .int 1, .int 0, .int 0, .int 0, .ref h2, .ref h3, .int 0, .int 0, .ref h4, .ref h5, .ref h6, .ref h7, .ref h8, .ref h9, .ref h10, .int 0, .int 0, .int 0, .ref h11, .ref h12, .ref h13, .ref h14, .int 0, .int 0, .ref h15, .ref h16, .ref h17, .ref h18, .int 0, .int 0, .ref h1, .ref h19, .ref h20, .ref h21])), (h1, .inl (k 0, 4, .inl (tI [(-1), (-1), (-1), (-1)] 0)))] H ∧ va_D A [(h0, .inr (8, [.int 2, .int 0, .int 1, .int 0, .int 0, .int 0, .ref h2, .ref h3, .int 0, .int 0, .ref h4, .ref h5, .ref h6, .ref h7, .ref h8, .ref h9, .ref h10, .int 0, .int 0, .int 0, .ref h11, .ref h12, .ref h13, .ref h14, .int 0, .int 0, .ref h15, .ref h16, .ref h17, .ref h18, .int 0, .int 0, .ref h1, .ref h19, .ref h20, .ref h21])), (h1, .inl (k 0, 4, .inl (tI [(-1), (-1), (-1), (-1)] 0)))]
set_option maxHeartbeats 4000000 in
set_option maxRecDepth 100000 in
theorem cX11_lacks_1 (l : Launch) (D : va_G) (k : Nat → ClassId) (sz : Nat) (h0 h1 h2 h3 h4 h5 h6 h7 h8 h9 h10 h11 h12 h13 h14 h15 h16 h17 h18 h19 h20 h21 : Nat) (x0 : Int32) : Met l yX11_lacks (Cond.code yX11_lacks cX11_lacks 3 (some .int) :: uw) ({ frames := 0, cells := 0, slots := 0, locals := 0 }) (pC D k sz [.ref h0, .int 0, .int x0] [(h0, .inr (8, [.int 2, .int 0, .int 1, .int 0, .int 0, .int 0, .ref h2, .ref h3, .int 0, .int 0, .ref h4, .ref h5, .ref h6, .ref h7, .ref h8, .ref h9, .ref h10, .int 0, .int 0, .int 0, .ref h11, .ref h12, .ref h13, .ref h14, .int 0, .int 0, .ref h15, .ref h16, .ref h17, .ref h18, .int 0, .int 0, .ref h1, .ref h19, .ref h20, .ref h21])), (h1, .inl (k 0, 4, .inl (tI [(-1), (-1), (-1), (-1)] 0)))]) (qI (BX11_lacks_1 D k h0 h1 h2 h3 h4 h5 h6 h7 h8 h9 h10 h11 h12 h13 h14 h15 h16 h17 h18 h19 h20 h21 x0 (va_A [(h0, .inr (8, [.int 2, .int 0, .int 1, .int 0, .int 0, .int 0, .ref h2, .ref h3, .int 0, .int 0, .ref h4, .ref h5, .ref h6, .ref h7, .ref h8, .ref h9, .ref h10, .int 0, .int 0, .int 0, .ref h11, .ref h12, .ref h13, .ref h14, .int 0, .int 0, .ref h15, .ref h16, .ref h17, .ref h18, .int 0, .int 0, .ref h1, .ref h19, .ref h20, .ref h21])), (h1, .inl (k 0, 4, .inl (tI [(-1), (-1), (-1), (-1)] 0)))] sz)) (va_A [(h0, .inr (8, [.int 2, .int 0, .int 1, .int 0, .int 0, .int 0, .ref h2, .ref h3, .int 0, .int 0, .ref h4, .ref h5, .ref h6, .ref h7, .ref h8, .ref h9, .ref h10, .int 0, .int 0, .int 0, .ref h11, .ref h12, .ref h13, .ref h14, .int 0, .int 0, .ref h15, .ref h16, .ref h17, .ref h18, .int 0, .int 0, .ref h1, .ref h19, .ref h20, .ref h21])), (h1, .inl (k 0, 4, .inl (tI [(-1), (-1), (-1), (-1)] 0)))] sz)) 0 0 (va_A [(h0, .inr (8, [.int 2, .int 0, .int 1, .int 0, .int 0, .int 0, .ref h2, .ref h3, .int 0, .int 0, .ref h4, .ref h5, .ref h6, .ref h7, .ref h8, .ref h9, .ref h10, .int 0, .int 0, .int 0, .ref h11, .ref h12, .ref h13, .ref h14, .int 0, .int 0, .ref h15, .ref h16, .ref h17, .ref h18, .int 0, .int 0, .ref h1, .ref h19, .ref h20, .ref h21])), (h1, .inl (k 0, 4, .inl (tI [(-1), (-1), (-1), (-1)] 0)))] sz) := by
  refine begin_ (Qc := fun A => qI (BX11_lacks_1 D k h0 h1 h2 h3 h4 h5 h6 h7 h8 h9 h10 h11 h12 h13 h14 h15 h16 h17 h18 h19 h20 h21 x0 A) A) (by decide) (Nat.le_of_ble_eq_true rfl) ?_
  intro p e s m below meth c ls A hx hb hr hml hown hlocks hin hU hK hsz hP hD hS hA hl
  have hl : lv_has ls 3 [(0, .ref h0), (1, .int 0), (2, .int x0)] := hl
  clear hsz
  refine lv_aload_n hx hb dX11_lacks_0 rfl (lv_at hl 0 rfl) ?_
  refine va_get (D := D) (ci := 8) (v := .ref h1) (C := RX11) (T := TX11) (N := 36) hx hb hU iX11 hown hK.1 hP 0 rfl rfl 32 (by decide) (hU _ w817) (fun _ h9 => h9) rfl dX11_lacks_1 ?_
  refine lv_iload_n hx hb dX11_lacks_4 rfl (lv_at hl 1 rfl) ?_
  refine ld_i (j := 0) (v := (-1)) hx hb hK hP 1 rfl (by decide +kernel) rfl dX11_lacks_5 ?_
  refine lv_if_ge (tgt := 12) hx hb dX11_lacks_6 (by decide) (fun cc => absurd cc (by decide +kernel)) (fun _ => ?_)
  refine lv_bipush (v := (-11)) hx hb dX11_lacks_9 (by decide) ?_
  exact retI (v := (-11)) hx hb hr hlocks hS (⟨rfl, hP, hD⟩) dX11_lacks_11
abbrev BX11_lacks_2 (D : va_G) (k : Nat → ClassId) (h0 h1 h2 h3 h4 h5 h6 h7 h8 h9 h10 h11 h12 h13 h14 h15 h16 h17 h18 h19 h20 h21 : Nat) (x0 : Int32) (A : Nat → Prop) (r : Int32) (H : Heap) : Prop := (-11) = r ∧ va_P D cl0 [(h0, .inr (8, [.int 2, .int 0, .int 1, .int 0, .int 0, .int 0, .ref h2, .ref h3, .int 0, .int 0, .ref h4, .ref h5, .ref h6, .ref h7, .ref h8, .ref h9, .ref h10, .int 0, .int 0, .int 0, .ref h11, .ref h12, .ref h13, .ref h14, .int 0, .int 0, .ref h15, .ref h16, .ref h17, .ref h18, .int 0, .int 0, .ref h1, .ref h19, .ref h20, .ref h21])), (h1, .inl (k 0, 4, .inl (tI [(-1), (-1), (-1), (-1)] 0)))] H ∧ va_D A [(h0, .inr (8, [.int 2, .int 0, .int 1, .int 0, .int 0, .int 0, .ref h2, .ref h3, .int 0, .int 0, .ref h4, .ref h5, .ref h6, .ref h7, .ref h8, .ref h9, .ref h10, .int 0, .int 0, .int 0, .ref h11, .ref h12, .ref h13, .ref h14, .int 0, .int 0, .ref h15, .ref h16, .ref h17, .ref h18, .int 0, .int 0, .ref h1, .ref h19, .ref h20, .ref h21])), (h1, .inl (k 0, 4, .inl (tI [(-1), (-1), (-1), (-1)] 0)))]
set_option maxHeartbeats 4000000 in
set_option maxRecDepth 100000 in
theorem cX11_lacks_2 (l : Launch) (D : va_G) (k : Nat → ClassId) (sz : Nat) (h0 h1 h2 h3 h4 h5 h6 h7 h8 h9 h10 h11 h12 h13 h14 h15 h16 h17 h18 h19 h20 h21 : Nat) (x0 : Int32) : Met l yX11_lacks (Cond.code yX11_lacks cX11_lacks 3 (some .int) :: uw) ({ frames := 0, cells := 0, slots := 0, locals := 0 }) (pC D k sz [.ref h0, .int 1, .int x0] [(h0, .inr (8, [.int 2, .int 0, .int 1, .int 0, .int 0, .int 0, .ref h2, .ref h3, .int 0, .int 0, .ref h4, .ref h5, .ref h6, .ref h7, .ref h8, .ref h9, .ref h10, .int 0, .int 0, .int 0, .ref h11, .ref h12, .ref h13, .ref h14, .int 0, .int 0, .ref h15, .ref h16, .ref h17, .ref h18, .int 0, .int 0, .ref h1, .ref h19, .ref h20, .ref h21])), (h1, .inl (k 0, 4, .inl (tI [(-1), (-1), (-1), (-1)] 0)))]) (qI (BX11_lacks_2 D k h0 h1 h2 h3 h4 h5 h6 h7 h8 h9 h10 h11 h12 h13 h14 h15 h16 h17 h18 h19 h20 h21 x0 (va_A [(h0, .inr (8, [.int 2, .int 0, .int 1, .int 0, .int 0, .int 0, .ref h2, .ref h3, .int 0, .int 0, .ref h4, .ref h5, .ref h6, .ref h7, .ref h8, .ref h9, .ref h10, .int 0, .int 0, .int 0, .ref h11, .ref h12, .ref h13, .ref h14, .int 0, .int 0, .ref h15, .ref h16, .ref h17, .ref h18, .int 0, .int 0, .ref h1, .ref h19, .ref h20, .ref h21])), (h1, .inl (k 0, 4, .inl (tI [(-1), (-1), (-1), (-1)] 0)))] sz)) (va_A [(h0, .inr (8, [.int 2, .int 0, .int 1, .int 0, .int 0, .int 0, .ref h2, .ref h3, .int 0, .int 0, .ref h4, .ref h5, .ref h6, .ref h7, .ref h8, .ref h9, .ref h10, .int 0, .int 0, .int 0, .ref h11, .ref h12, .ref h13, .ref h14, .int 0, .int 0, .ref h15, .ref h16, .ref h17, .ref h18, .int 0, .int 0, .ref h1, .ref h19, .ref h20, .ref h21])), (h1, .inl (k 0, 4, .inl (tI [(-1), (-1), (-1), (-1)] 0)))] sz)) 0 0 (va_A [(h0, .inr (8, [.int 2, .int 0, .int 1, .int 0, .int 0, .int 0, .ref h2, .ref h3, .int 0, .int 0, .ref h4, .ref h5, .ref h6, .ref h7, .ref h8, .ref h9, .ref h10, .int 0, .int 0, .int 0, .ref h11, .ref h12, .ref h13, .ref h14, .int 0, .int 0, .ref h15, .ref h16, .ref h17, .ref h18, .int 0, .int 0, .ref h1, .ref h19, .ref h20, .ref h21])), (h1, .inl (k 0, 4, .inl (tI [(-1), (-1), (-1), (-1)] 0)))] sz) := by
  refine begin_ (Qc := fun A => qI (BX11_lacks_2 D k h0 h1 h2 h3 h4 h5 h6 h7 h8 h9 h10 h11 h12 h13 h14 h15 h16 h17 h18 h19 h20 h21 x0 A) A) (by decide) (Nat.le_of_ble_eq_true rfl) ?_
  intro p e s m below meth c ls A hx hb hr hml hown hlocks hin hU hK hsz hP hD hS hA hl
  have hl : lv_has ls 3 [(0, .ref h0), (1, .int 1), (2, .int x0)] := hl
  clear hsz
  refine lv_aload_n hx hb dX11_lacks_0 rfl (lv_at hl 0 rfl) ?_
  refine va_get (D := D) (ci := 8) (v := .ref h1) (C := RX11) (T := TX11) (N := 36) hx hb hU iX11 hown hK.1 hP 0 rfl rfl 32 (by decide) (hU _ w817) (fun _ h9 => h9) rfl dX11_lacks_1 ?_
  refine lv_iload_n hx hb dX11_lacks_4 rfl (lv_at hl 1 rfl) ?_
  refine ld_i (j := 1) (v := (-1)) hx hb hK hP 1 rfl (by decide +kernel) rfl dX11_lacks_5 ?_
  refine lv_if_ge (tgt := 12) hx hb dX11_lacks_6 (by decide) (fun cc => absurd cc (by decide +kernel)) (fun _ => ?_)
  refine lv_bipush (v := (-11)) hx hb dX11_lacks_9 (by decide) ?_
  exact retI (v := (-11)) hx hb hr hlocks hS (⟨rfl, hP, hD⟩) dX11_lacks_11
abbrev BX11_lacks_3 (D : va_G) (k : Nat → ClassId) (h0 h1 h2 h3 h4 h5 h6 h7 h8 h9 h10 h11 h12 h13 h14 h15 h16 h17 h18 h19 h20 h21 : Nat) (x0 : Int32) (A : Nat → Prop) (r : Int32) (H : Heap) : Prop := (-11) = r ∧ va_P D cl0 [(h0, .inr (8, [.int 2, .int 0, .int 1, .int 0, .int 0, .int 0, .ref h2, .ref h3, .int 0, .int 0, .ref h4, .ref h5, .ref h6, .ref h7, .ref h8, .ref h9, .ref h10, .int 0, .int 0, .int 0, .ref h11, .ref h12, .ref h13, .ref h14, .int 0, .int 0, .ref h15, .ref h16, .ref h17, .ref h18, .int 0, .int 0, .ref h1, .ref h19, .ref h20, .ref h21])), (h1, .inl (k 0, 4, .inl (tI [(-1), (-1), (-1), (-1)] 0)))] H ∧ va_D A [(h0, .inr (8, [.int 2, .int 0, .int 1, .int 0, .int 0, .int 0, .ref h2, .ref h3, .int 0, .int 0, .ref h4, .ref h5, .ref h6, .ref h7, .ref h8, .ref h9, .ref h10, .int 0, .int 0, .int 0, .ref h11, .ref h12, .ref h13, .ref h14, .int 0, .int 0, .ref h15, .ref h16, .ref h17, .ref h18, .int 0, .int 0, .ref h1, .ref h19, .ref h20, .ref h21])), (h1, .inl (k 0, 4, .inl (tI [(-1), (-1), (-1), (-1)] 0)))]
set_option maxHeartbeats 4000000 in
set_option maxRecDepth 100000 in
theorem cX11_lacks_3 (l : Launch) (D : va_G) (k : Nat → ClassId) (sz : Nat) (h0 h1 h2 h3 h4 h5 h6 h7 h8 h9 h10 h11 h12 h13 h14 h15 h16 h17 h18 h19 h20 h21 : Nat) (x0 : Int32) : Met l yX11_lacks (Cond.code yX11_lacks cX11_lacks 3 (some .int) :: uw) ({ frames := 0, cells := 0, slots := 0, locals := 0 }) (pC D k sz [.ref h0, .int 2, .int x0] [(h0, .inr (8, [.int 2, .int 0, .int 1, .int 0, .int 0, .int 0, .ref h2, .ref h3, .int 0, .int 0, .ref h4, .ref h5, .ref h6, .ref h7, .ref h8, .ref h9, .ref h10, .int 0, .int 0, .int 0, .ref h11, .ref h12, .ref h13, .ref h14, .int 0, .int 0, .ref h15, .ref h16, .ref h17, .ref h18, .int 0, .int 0, .ref h1, .ref h19, .ref h20, .ref h21])), (h1, .inl (k 0, 4, .inl (tI [(-1), (-1), (-1), (-1)] 0)))]) (qI (BX11_lacks_3 D k h0 h1 h2 h3 h4 h5 h6 h7 h8 h9 h10 h11 h12 h13 h14 h15 h16 h17 h18 h19 h20 h21 x0 (va_A [(h0, .inr (8, [.int 2, .int 0, .int 1, .int 0, .int 0, .int 0, .ref h2, .ref h3, .int 0, .int 0, .ref h4, .ref h5, .ref h6, .ref h7, .ref h8, .ref h9, .ref h10, .int 0, .int 0, .int 0, .ref h11, .ref h12, .ref h13, .ref h14, .int 0, .int 0, .ref h15, .ref h16, .ref h17, .ref h18, .int 0, .int 0, .ref h1, .ref h19, .ref h20, .ref h21])), (h1, .inl (k 0, 4, .inl (tI [(-1), (-1), (-1), (-1)] 0)))] sz)) (va_A [(h0, .inr (8, [.int 2, .int 0, .int 1, .int 0, .int 0, .int 0, .ref h2, .ref h3, .int 0, .int 0, .ref h4, .ref h5, .ref h6, .ref h7, .ref h8, .ref h9, .ref h10, .int 0, .int 0, .int 0, .ref h11, .ref h12, .ref h13, .ref h14, .int 0, .int 0, .ref h15, .ref h16, .ref h17, .ref h18, .int 0, .int 0, .ref h1, .ref h19, .ref h20, .ref h21])), (h1, .inl (k 0, 4, .inl (tI [(-1), (-1), (-1), (-1)] 0)))] sz)) 0 0 (va_A [(h0, .inr (8, [.int 2, .int 0, .int 1, .int 0, .int 0, .int 0, .ref h2, .ref h3, .int 0, .int 0, .ref h4, .ref h5, .ref h6, .ref h7, .ref h8, .ref h9, .ref h10, .int 0, .int 0, .int 0, .ref h11, .ref h12, .ref h13, .ref h14, .int 0, .int 0, .ref h15, .ref h16, .ref h17, .ref h18, .int 0, .int 0, .ref h1, .ref h19, .ref h20, .ref h21])), (h1, .inl (k 0, 4, .inl (tI [(-1), (-1), (-1), (-1)] 0)))] sz) := by
  refine begin_ (Qc := fun A => qI (BX11_lacks_3 D k h0 h1 h2 h3 h4 h5 h6 h7 h8 h9 h10 h11 h12 h13 h14 h15 h16 h17 h18 h19 h20 h21 x0 A) A) (by decide) (Nat.le_of_ble_eq_true rfl) ?_
  intro p e s m below meth c ls A hx hb hr hml hown hlocks hin hU hK hsz hP hD hS hA hl
  have hl : lv_has ls 3 [(0, .ref h0), (1, .int 2), (2, .int x0)] := hl
  clear hsz
  refine lv_aload_n hx hb dX11_lacks_0 rfl (lv_at hl 0 rfl) ?_
  refine va_get (D := D) (ci := 8) (v := .ref h1) (C := RX11) (T := TX11) (N := 36) hx hb hU iX11 hown hK.1 hP 0 rfl rfl 32 (by decide) (hU _ w817) (fun _ h9 => h9) rfl dX11_lacks_1 ?_
  refine lv_iload_n hx hb dX11_lacks_4 rfl (lv_at hl 1 rfl) ?_
  refine ld_i (j := 2) (v := (-1)) hx hb hK hP 1 rfl (by decide +kernel) rfl dX11_lacks_5 ?_
  refine lv_if_ge (tgt := 12) hx hb dX11_lacks_6 (by decide) (fun cc => absurd cc (by decide +kernel)) (fun _ => ?_)
  refine lv_bipush (v := (-11)) hx hb dX11_lacks_9 (by decide) ?_
  exact retI (v := (-11)) hx hb hr hlocks hS (⟨rfl, hP, hD⟩) dX11_lacks_11
abbrev BX11_lacks_4 (D : va_G) (k : Nat → ClassId) (h0 h1 h2 h3 h4 h5 h6 h7 h8 h9 h10 h11 h12 h13 h14 h15 h16 h17 h18 h19 h20 h21 : Nat) (x0 : Int32) (A : Nat → Prop) (r : Int32) (H : Heap) : Prop := (-11) = r ∧ va_P D cl0 [(h0, .inr (8, [.int 2, .int 0, .int 1, .int 0, .int 0, .int 0, .ref h2, .ref h3, .int 0, .int 0, .ref h4, .ref h5, .ref h6, .ref h7, .ref h8, .ref h9, .ref h10, .int 0, .int 0, .int 0, .ref h11, .ref h12, .ref h13, .ref h14, .int 0, .int 0, .ref h15, .ref h16, .ref h17, .ref h18, .int 0, .int 0, .ref h1, .ref h19, .ref h20, .ref h21])), (h1, .inl (k 0, 4, .inl (tI [(-1), (-1), (-1), (-1)] 0)))] H ∧ va_D A [(h0, .inr (8, [.int 2, .int 0, .int 1, .int 0, .int 0, .int 0, .ref h2, .ref h3, .int 0, .int 0, .ref h4, .ref h5, .ref h6, .ref h7, .ref h8, .ref h9, .ref h10, .int 0, .int 0, .int 0, .ref h11, .ref h12, .ref h13, .ref h14, .int 0, .int 0, .ref h15, .ref h16, .ref h17, .ref h18, .int 0, .int 0, .ref h1, .ref h19, .ref h20, .ref h21])), (h1, .inl (k 0, 4, .inl (tI [(-1), (-1), (-1), (-1)] 0)))]
set_option maxHeartbeats 4000000 in
set_option maxRecDepth 100000 in
theorem cX11_lacks_4 (l : Launch) (D : va_G) (k : Nat → ClassId) (sz : Nat) (h0 h1 h2 h3 h4 h5 h6 h7 h8 h9 h10 h11 h12 h13 h14 h15 h16 h17 h18 h19 h20 h21 : Nat) (x0 : Int32) : Met l yX11_lacks (Cond.code yX11_lacks cX11_lacks 3 (some .int) :: uw) ({ frames := 0, cells := 0, slots := 0, locals := 0 }) (pC D k sz [.ref h0, .int 3, .int x0] [(h0, .inr (8, [.int 2, .int 0, .int 1, .int 0, .int 0, .int 0, .ref h2, .ref h3, .int 0, .int 0, .ref h4, .ref h5, .ref h6, .ref h7, .ref h8, .ref h9, .ref h10, .int 0, .int 0, .int 0, .ref h11, .ref h12, .ref h13, .ref h14, .int 0, .int 0, .ref h15, .ref h16, .ref h17, .ref h18, .int 0, .int 0, .ref h1, .ref h19, .ref h20, .ref h21])), (h1, .inl (k 0, 4, .inl (tI [(-1), (-1), (-1), (-1)] 0)))]) (qI (BX11_lacks_4 D k h0 h1 h2 h3 h4 h5 h6 h7 h8 h9 h10 h11 h12 h13 h14 h15 h16 h17 h18 h19 h20 h21 x0 (va_A [(h0, .inr (8, [.int 2, .int 0, .int 1, .int 0, .int 0, .int 0, .ref h2, .ref h3, .int 0, .int 0, .ref h4, .ref h5, .ref h6, .ref h7, .ref h8, .ref h9, .ref h10, .int 0, .int 0, .int 0, .ref h11, .ref h12, .ref h13, .ref h14, .int 0, .int 0, .ref h15, .ref h16, .ref h17, .ref h18, .int 0, .int 0, .ref h1, .ref h19, .ref h20, .ref h21])), (h1, .inl (k 0, 4, .inl (tI [(-1), (-1), (-1), (-1)] 0)))] sz)) (va_A [(h0, .inr (8, [.int 2, .int 0, .int 1, .int 0, .int 0, .int 0, .ref h2, .ref h3, .int 0, .int 0, .ref h4, .ref h5, .ref h6, .ref h7, .ref h8, .ref h9, .ref h10, .int 0, .int 0, .int 0, .ref h11, .ref h12, .ref h13, .ref h14, .int 0, .int 0, .ref h15, .ref h16, .ref h17, .ref h18, .int 0, .int 0, .ref h1, .ref h19, .ref h20, .ref h21])), (h1, .inl (k 0, 4, .inl (tI [(-1), (-1), (-1), (-1)] 0)))] sz)) 0 0 (va_A [(h0, .inr (8, [.int 2, .int 0, .int 1, .int 0, .int 0, .int 0, .ref h2, .ref h3, .int 0, .int 0, .ref h4, .ref h5, .ref h6, .ref h7, .ref h8, .ref h9, .ref h10, .int 0, .int 0, .int 0, .ref h11, .ref h12, .ref h13, .ref h14, .int 0, .int 0, .ref h15, .ref h16, .ref h17, .ref h18, .int 0, .int 0, .ref h1, .ref h19, .ref h20, .ref h21])), (h1, .inl (k 0, 4, .inl (tI [(-1), (-1), (-1), (-1)] 0)))] sz) := by
  refine begin_ (Qc := fun A => qI (BX11_lacks_4 D k h0 h1 h2 h3 h4 h5 h6 h7 h8 h9 h10 h11 h12 h13 h14 h15 h16 h17 h18 h19 h20 h21 x0 A) A) (by decide) (Nat.le_of_ble_eq_true rfl) ?_
  intro p e s m below meth c ls A hx hb hr hml hown hlocks hin hU hK hsz hP hD hS hA hl
  have hl : lv_has ls 3 [(0, .ref h0), (1, .int 3), (2, .int x0)] := hl
  clear hsz
  refine lv_aload_n hx hb dX11_lacks_0 rfl (lv_at hl 0 rfl) ?_
  refine va_get (D := D) (ci := 8) (v := .ref h1) (C := RX11) (T := TX11) (N := 36) hx hb hU iX11 hown hK.1 hP 0 rfl rfl 32 (by decide) (hU _ w817) (fun _ h9 => h9) rfl dX11_lacks_1 ?_
  refine lv_iload_n hx hb dX11_lacks_4 rfl (lv_at hl 1 rfl) ?_
  refine ld_i (j := 3) (v := (-1)) hx hb hK hP 1 rfl (by decide +kernel) rfl dX11_lacks_5 ?_
  refine lv_if_ge (tgt := 12) hx hb dX11_lacks_6 (by decide) (fun cc => absurd cc (by decide +kernel)) (fun _ => ?_)
  refine lv_bipush (v := (-11)) hx hb dX11_lacks_9 (by decide) ?_
  exact retI (v := (-11)) hx hb hr hlocks hS (⟨rfl, hP, hD⟩) dX11_lacks_11
abbrev BX11_take_1 (D : va_G) (k : Nat → ClassId) (a0 a18 a1 a2 a3 a4 a5 a6 a7 a8 a9 a10 a11 a12 a13 a14 a15 a16 a17 a19 a20 a21 : Nat) (x0 : Int32) (x1 : Int32) (A : Nat → Prop) (r : Int32) (H : Heap) : Prop := r = F_take x0 x1
set_option maxHeartbeats 4000000 in
set_option maxRecDepth 100000 in
theorem cX11_take_1 (l : Launch) (D : va_G) (k : Nat → ClassId) (sz : Nat) (a0 a18 a1 a2 a3 a4 a5 a6 a7 a8 a9 a10 a11 a12 a13 a14 a15 a16 a17 a19 a20 a21 : Nat) (x0 : Int32) (x1 : Int32) : Met l yX11_take (Cond.code yX11_take cX11_take 8 (some .int) :: uw) ({ frames := 2, cells := 0, slots := 0, locals := 45 }) (pC D k sz [.ref a0, .int x0, .int x1] [(a0, .inr (8, [.int 2, .int 0, .int 1, .int 0, .int 0, .int 0, .ref a1, .ref a2, .int 0, .int 0, .ref a3, .ref a4, .ref a5, .ref a6, .ref a7, .ref a8, .ref a9, .int 0, .int 0, .int 0, .ref a10, .ref a11, .ref a12, .ref a13, .int 0, .int 0, .ref a14, .ref a15, .ref a16, .ref a17, .int 0, .int 0, .ref a18, .ref a19, .ref a20, .ref a21])), (a18, .inl (k 0, 4, .inl (tI [(-1), (-1), (-1), (-1)] 0)))]) (qI (BX11_take_1 D k a0 a18 a1 a2 a3 a4 a5 a6 a7 a8 a9 a10 a11 a12 a13 a14 a15 a16 a17 a19 a20 a21 x0 x1 (va_A [(a0, .inr (8, [.int 2, .int 0, .int 1, .int 0, .int 0, .int 0, .ref a1, .ref a2, .int 0, .int 0, .ref a3, .ref a4, .ref a5, .ref a6, .ref a7, .ref a8, .ref a9, .int 0, .int 0, .int 0, .ref a10, .ref a11, .ref a12, .ref a13, .int 0, .int 0, .ref a14, .ref a15, .ref a16, .ref a17, .int 0, .int 0, .ref a18, .ref a19, .ref a20, .ref a21])), (a18, .inl (k 0, 4, .inl (tI [(-1), (-1), (-1), (-1)] 0)))] sz)) (va_A [(a0, .inr (8, [.int 2, .int 0, .int 1, .int 0, .int 0, .int 0, .ref a1, .ref a2, .int 0, .int 0, .ref a3, .ref a4, .ref a5, .ref a6, .ref a7, .ref a8, .ref a9, .int 0, .int 0, .int 0, .ref a10, .ref a11, .ref a12, .ref a13, .int 0, .int 0, .ref a14, .ref a15, .ref a16, .ref a17, .int 0, .int 0, .ref a18, .ref a19, .ref a20, .ref a21])), (a18, .inl (k 0, 4, .inl (tI [(-1), (-1), (-1), (-1)] 0)))] sz)) 0 0 (va_A [(a0, .inr (8, [.int 2, .int 0, .int 1, .int 0, .int 0, .int 0, .ref a1, .ref a2, .int 0, .int 0, .ref a3, .ref a4, .ref a5, .ref a6, .ref a7, .ref a8, .ref a9, .int 0, .int 0, .int 0, .ref a10, .ref a11, .ref a12, .ref a13, .int 0, .int 0, .ref a14, .ref a15, .ref a16, .ref a17, .int 0, .int 0, .ref a18, .ref a19, .ref a20, .ref a21])), (a18, .inl (k 0, 4, .inl (tI [(-1), (-1), (-1), (-1)] 0)))] sz) := by
  refine begin_ (Qc := fun A => qI (BX11_take_1 D k a0 a18 a1 a2 a3 a4 a5 a6 a7 a8 a9 a10 a11 a12 a13 a14 a15 a16 a17 a19 a20 a21 x0 x1 A) A) (by decide) (Nat.le_of_ble_eq_true rfl) ?_
  intro p e s m below meth c ls A hx hb hr hml hown hlocks hin hU hK hsz hP hD hS hA hl
  have hl : lv_has ls 8 [(0, .ref a0), (1, .int x0), (2, .int x1)] := hl
  clear hsz
  refine lv_iload_n hx hb dX11_take_0 rfl (lv_at hl 1 rfl) ?_
  refine cI (rS (As := [.int x0]) (rest := []) (wc := []) hx hb hml hown hU hK hP hD [] rfl (by decide) (cX11_isSheet_1 l D k _ (x0)) w1101 w1099 w1100 w72 hdX11_isSheet ⟨rfl, rfl⟩ ⟨Nat.le_of_ble_eq_true rfl, Nat.le_of_ble_eq_true rfl⟩ rfl hl.1 (Nat.le_of_ble_eq_true rfl) dX11_take_1 ⟨Nat.le_of_ble_eq_true rfl, Nat.le_of_ble_eq_true rfl⟩) hP hD hS hA (wr := [(a0, .inr (8, [.int 2, .int 0, .int 1, .int 0, .int 0, .int 0, .ref a1, .ref a2, .int 0, .int 0, .ref a3, .ref a4, .ref a5, .ref a6, .ref a7, .ref a8, .ref a9, .int 0, .int 0, .int 0, .ref a10, .ref a11, .ref a12, .ref a13, .int 0, .int 0, .ref a14, .ref a15, .ref a16, .ref a17, .int 0, .int 0, .ref a18, .ref a19, .ref a20, .ref a21])), (a18, .inl (k 0, 4, .inl (tI [(-1), (-1), (-1), (-1)] 0)))]) [] [0, 1] rfl rfl (by decide) (by decide) (fun r1 H locs hB J hS => ?_)
  rcases hB with ⟨c_2, rfl, hP1, hD1⟩ | ⟨c_3, c_4, rfl, hP1, hD1⟩ | ⟨c_5, c_6, rfl, hP1, hD1⟩
  · skip
    obtain ⟨hP, hD⟩ := J _ hP1 hD1
    have hP : va_P D cl0 [(a0, .inr (8, [.int 2, .int 0, .int 1, .int 0, .int 0, .int 0, .ref a1, .ref a2, .int 0, .int 0, .ref a3, .ref a4, .ref a5, .ref a6, .ref a7, .ref a8, .ref a9, .int 0, .int 0, .int 0, .ref a10, .ref a11, .ref a12, .ref a13, .int 0, .int 0, .ref a14, .ref a15, .ref a16, .ref a17, .int 0, .int 0, .ref a18, .ref a19, .ref a20, .ref a21])), (a18, .inl (k 0, 4, .inl (tI [(-1), (-1), (-1), (-1)] 0)))] H := hP
    have hD : va_D A [(a0, .inr (8, [.int 2, .int 0, .int 1, .int 0, .int 0, .int 0, .ref a1, .ref a2, .int 0, .int 0, .ref a3, .ref a4, .ref a5, .ref a6, .ref a7, .ref a8, .ref a9, .int 0, .int 0, .int 0, .ref a10, .ref a11, .ref a12, .ref a13, .int 0, .int 0, .ref a14, .ref a15, .ref a16, .ref a17, .int 0, .int 0, .ref a18, .ref a19, .ref a20, .ref a21])), (a18, .inl (k 0, 4, .inl (tI [(-1), (-1), (-1), (-1)] 0)))] := hD
    refine lv_if_ne (tgt := 9) hx hb dX11_take_4 (by decide) (fun cc => absurd (by decide +kernel) cc) (fun _ => ?_)
    refine lv_iconst (v := (-1)) hx hb dX11_take_7 (by decide) ?_
    exact retI (v := (-1)) hx hb hr hlocks hS (show ((-1) : Int32) = F_take x0 x1 by first | decide +kernel | (have f0 := dv_lt (x := x0.toInt) (y := 0) c_2 (wd x0) (by decide +kernel); unfold F_take; (repeat (first | rw [if_pos (by omega)] | rw [if_neg (by omega)])))) dX11_take_8
  · skip
    obtain ⟨hP, hD⟩ := J _ hP1 hD1
    have hP : va_P D cl0 [(a0, .inr (8, [.int 2, .int 0, .int 1, .int 0, .int 0, .int 0, .ref a1, .ref a2, .int 0, .int 0, .ref a3, .ref a4, .ref a5, .ref a6, .ref a7, .ref a8, .ref a9, .int 0, .int 0, .int 0, .ref a10, .ref a11, .ref a12, .ref a13, .int 0, .int 0, .ref a14, .ref a15, .ref a16, .ref a17, .int 0, .int 0, .ref a18, .ref a19, .ref a20, .ref a21])), (a18, .inl (k 0, 4, .inl (tI [(-1), (-1), (-1), (-1)] 0)))] H := hP
    have hD : va_D A [(a0, .inr (8, [.int 2, .int 0, .int 1, .int 0, .int 0, .int 0, .ref a1, .ref a2, .int 0, .int 0, .ref a3, .ref a4, .ref a5, .ref a6, .ref a7, .ref a8, .ref a9, .int 0, .int 0, .int 0, .ref a10, .ref a11, .ref a12, .ref a13, .int 0, .int 0, .ref a14, .ref a15, .ref a16, .ref a17, .int 0, .int 0, .ref a18, .ref a19, .ref a20, .ref a21])), (a18, .inl (k 0, 4, .inl (tI [(-1), (-1), (-1), (-1)] 0)))] := hD
    refine lv_if_ne (tgt := 9) hx hb dX11_take_4 (by decide) (fun cc => absurd (by decide +kernel) cc) (fun _ => ?_)
    refine lv_iconst (v := (-1)) hx hb dX11_take_7 (by decide) ?_
    exact retI (v := (-1)) hx hb hr hlocks hS (show ((-1) : Int32) = F_take x0 x1 by first | decide +kernel | (have f0 := dv_nlt (x := x0.toInt) (y := 0) c_3 (wd x0) (by decide +kernel); have f1 := dv_lt (x := 3) (y := x0.toInt) c_4 (by decide +kernel) (wd x0); unfold F_take; (repeat (first | rw [if_pos (by omega)] | rw [if_neg (by omega)])))) dX11_take_8
  · skip
    obtain ⟨hP, hD⟩ := J _ hP1 hD1
    have hP : va_P D cl0 [(a0, .inr (8, [.int 2, .int 0, .int 1, .int 0, .int 0, .int 0, .ref a1, .ref a2, .int 0, .int 0, .ref a3, .ref a4, .ref a5, .ref a6, .ref a7, .ref a8, .ref a9, .int 0, .int 0, .int 0, .ref a10, .ref a11, .ref a12, .ref a13, .int 0, .int 0, .ref a14, .ref a15, .ref a16, .ref a17, .int 0, .int 0, .ref a18, .ref a19, .ref a20, .ref a21])), (a18, .inl (k 0, 4, .inl (tI [(-1), (-1), (-1), (-1)] 0)))] H := hP
    have hD : va_D A [(a0, .inr (8, [.int 2, .int 0, .int 1, .int 0, .int 0, .int 0, .ref a1, .ref a2, .int 0, .int 0, .ref a3, .ref a4, .ref a5, .ref a6, .ref a7, .ref a8, .ref a9, .int 0, .int 0, .int 0, .ref a10, .ref a11, .ref a12, .ref a13, .int 0, .int 0, .ref a14, .ref a15, .ref a16, .ref a17, .int 0, .int 0, .ref a18, .ref a19, .ref a20, .ref a21])), (a18, .inl (k 0, 4, .inl (tI [(-1), (-1), (-1), (-1)] 0)))] := hD
    refine lv_if_ne (tgt := 9) hx hb dX11_take_4 (by decide) (fun _ => ?_) (fun cc => absurd cc (by decide +kernel))
    refine lv_aload_n hx hb dX11_take_9 rfl (lv_at hl 0 rfl) ?_
    refine lv_iload_n hx hb dX11_take_10 rfl (lv_at hl 1 rfl) ?_
    refine lv_iload_n hx hb dX11_take_11 rfl (lv_at hl 2 rfl) ?_
    have hsp : x0.toInt = 0 ∨ x0.toInt = 1 ∨ x0.toInt = 2 ∨ x0.toInt = 3 := by
      have f0 := dv_nlt (x := x0.toInt) (y := 0) c_5 (wd x0) (by decide +kernel)
      have f1 := dv_nlt (x := 3) (y := x0.toInt) c_6 (by decide +kernel) (wd x0)
      omega
    rcases hsp with hsp | hsp | hsp | hsp
    · skip
      obtain rfl : x0 = 0 := eq32 hsp (by decide +kernel)
      refine cI (rV (q0 := 0) (ci := 8) (As := [.int 0, .int x1]) (rest := []) (wc := [(a0, .inr (8, [.int 2, .int 0, .int 1, .int 0, .int 0, .int 0, .ref a1, .ref a2, .int 0, .int 0, .ref a3, .ref a4, .ref a5, .ref a6, .ref a7, .ref a8, .ref a9, .int 0, .int 0, .int 0, .ref a10, .ref a11, .ref a12, .ref a13, .int 0, .int 0, .ref a14, .ref a15, .ref a16, .ref a17, .int 0, .int 0, .ref a18, .ref a19, .ref a20, .ref a21])), (a18, .inl (k 0, 4, .inl (tI [(-1), (-1), (-1), (-1)] 0)))]) hx hb hml hown hU hK hP hD rfl rfl [0, 1] rfl (by decide) (cX11_lacks_1 l D k _ a0 a18 a1 a2 a3 a4 a5 a6 a7 a8 a9 a10 a11 a12 a13 a14 a15 a16 a17 a19 a20 a21 (x1)) w1205 w1202 w1204 w61 w72 hdX11_lacks ⟨rfl, rfl⟩ ⟨Nat.le_of_ble_eq_true rfl, Nat.le_of_ble_eq_true rfl⟩ rfl hl.1 (Nat.le_of_ble_eq_true rfl) dX11_take_12 ⟨Nat.le_of_ble_eq_true rfl, Nat.le_of_ble_eq_true rfl⟩) hP hD hS hA (wr := []) [0, 1] [] rfl rfl (by decide) (by decide) (fun r7 H locs hB J hS => ?_)
      obtain ⟨rfl, hP1, hD1⟩ := hB
      obtain ⟨hP, hD⟩ := J _ hP1 hD1
      have hP : va_P D cl0 [(a0, .inr (8, [.int 2, .int 0, .int 1, .int 0, .int 0, .int 0, .ref a1, .ref a2, .int 0, .int 0, .ref a3, .ref a4, .ref a5, .ref a6, .ref a7, .ref a8, .ref a9, .int 0, .int 0, .int 0, .ref a10, .ref a11, .ref a12, .ref a13, .int 0, .int 0, .ref a14, .ref a15, .ref a16, .ref a17, .int 0, .int 0, .ref a18, .ref a19, .ref a20, .ref a21])), (a18, .inl (k 0, 4, .inl (tI [(-1), (-1), (-1), (-1)] 0)))] H := hP
      have hD : va_D A [(a0, .inr (8, [.int 2, .int 0, .int 1, .int 0, .int 0, .int 0, .ref a1, .ref a2, .int 0, .int 0, .ref a3, .ref a4, .ref a5, .ref a6, .ref a7, .ref a8, .ref a9, .int 0, .int 0, .int 0, .ref a10, .ref a11, .ref a12, .ref a13, .int 0, .int 0, .ref a14, .ref a15, .ref a16, .ref a17, .int 0, .int 0, .ref a18, .ref a19, .ref a20, .ref a21])), (a18, .inl (k 0, 4, .inl (tI [(-1), (-1), (-1), (-1)] 0)))] := hD
      refine lv_istore_n (lv' := [(3, .int (-11)), (0, .ref a0), (1, .int 0), (2, .int x1)]) hx hb dX11_take_15 rfl hl (by decide) rfl (fun ls hl => ?_)
      refine lv_iload_n hx hb dX11_take_16 rfl (lv_at hl 0 rfl) ?_
      refine lv_if_eq (tgt := 22) hx hb dX11_take_17 (by decide) (fun cc => absurd cc (by decide +kernel)) (fun _ => ?_)
      refine lv_iload_n hx hb dX11_take_20 rfl (lv_at hl 0 rfl) ?_
      exact retI (v := (-11)) hx hb hr hlocks hS (show ((-11) : Int32) = F_take 0 x1 by first | decide +kernel | (have g_0 : (0 : Int32).toInt = 0 := (by decide +kernel); unfold F_take; (repeat (first | rw [if_pos (by omega)] | rw [if_neg (by omega)])))) dX11_take_21
    · skip
      obtain rfl : x0 = 1 := eq32 hsp (by decide +kernel)
      refine cI (rV (q0 := 0) (ci := 8) (As := [.int 1, .int x1]) (rest := []) (wc := [(a0, .inr (8, [.int 2, .int 0, .int 1, .int 0, .int 0, .int 0, .ref a1, .ref a2, .int 0, .int 0, .ref a3, .ref a4, .ref a5, .ref a6, .ref a7, .ref a8, .ref a9, .int 0, .int 0, .int 0, .ref a10, .ref a11, .ref a12, .ref a13, .int 0, .int 0, .ref a14, .ref a15, .ref a16, .ref a17, .int 0, .int 0, .ref a18, .ref a19, .ref a20, .ref a21])), (a18, .inl (k 0, 4, .inl (tI [(-1), (-1), (-1), (-1)] 0)))]) hx hb hml hown hU hK hP hD rfl rfl [0, 1] rfl (by decide) (cX11_lacks_2 l D k _ a0 a18 a1 a2 a3 a4 a5 a6 a7 a8 a9 a10 a11 a12 a13 a14 a15 a16 a17 a19 a20 a21 (x1)) w1205 w1202 w1204 w61 w72 hdX11_lacks ⟨rfl, rfl⟩ ⟨Nat.le_of_ble_eq_true rfl, Nat.le_of_ble_eq_true rfl⟩ rfl hl.1 (Nat.le_of_ble_eq_true rfl) dX11_take_12 ⟨Nat.le_of_ble_eq_true rfl, Nat.le_of_ble_eq_true rfl⟩) hP hD hS hA (wr := []) [0, 1] [] rfl rfl (by decide) (by decide) (fun r8 H locs hB J hS => ?_)
      obtain ⟨rfl, hP1, hD1⟩ := hB
      obtain ⟨hP, hD⟩ := J _ hP1 hD1
      have hP : va_P D cl0 [(a0, .inr (8, [.int 2, .int 0, .int 1, .int 0, .int 0, .int 0, .ref a1, .ref a2, .int 0, .int 0, .ref a3, .ref a4, .ref a5, .ref a6, .ref a7, .ref a8, .ref a9, .int 0, .int 0, .int 0, .ref a10, .ref a11, .ref a12, .ref a13, .int 0, .int 0, .ref a14, .ref a15, .ref a16, .ref a17, .int 0, .int 0, .ref a18, .ref a19, .ref a20, .ref a21])), (a18, .inl (k 0, 4, .inl (tI [(-1), (-1), (-1), (-1)] 0)))] H := hP
      have hD : va_D A [(a0, .inr (8, [.int 2, .int 0, .int 1, .int 0, .int 0, .int 0, .ref a1, .ref a2, .int 0, .int 0, .ref a3, .ref a4, .ref a5, .ref a6, .ref a7, .ref a8, .ref a9, .int 0, .int 0, .int 0, .ref a10, .ref a11, .ref a12, .ref a13, .int 0, .int 0, .ref a14, .ref a15, .ref a16, .ref a17, .int 0, .int 0, .ref a18, .ref a19, .ref a20, .ref a21])), (a18, .inl (k 0, 4, .inl (tI [(-1), (-1), (-1), (-1)] 0)))] := hD
      refine lv_istore_n (lv' := [(3, .int (-11)), (0, .ref a0), (1, .int 1), (2, .int x1)]) hx hb dX11_take_15 rfl hl (by decide) rfl (fun ls hl => ?_)
      refine lv_iload_n hx hb dX11_take_16 rfl (lv_at hl 0 rfl) ?_
      refine lv_if_eq (tgt := 22) hx hb dX11_take_17 (by decide) (fun cc => absurd cc (by decide +kernel)) (fun _ => ?_)
      refine lv_iload_n hx hb dX11_take_20 rfl (lv_at hl 0 rfl) ?_
      exact retI (v := (-11)) hx hb hr hlocks hS (show ((-11) : Int32) = F_take 1 x1 by first | decide +kernel | (have g_1 : (1 : Int32).toInt = 1 := (by decide +kernel); unfold F_take; (repeat (first | rw [if_pos (by omega)] | rw [if_neg (by omega)])))) dX11_take_21
    · skip
      obtain rfl : x0 = 2 := eq32 hsp (by decide +kernel)
      refine cI (rV (q0 := 0) (ci := 8) (As := [.int 2, .int x1]) (rest := []) (wc := [(a0, .inr (8, [.int 2, .int 0, .int 1, .int 0, .int 0, .int 0, .ref a1, .ref a2, .int 0, .int 0, .ref a3, .ref a4, .ref a5, .ref a6, .ref a7, .ref a8, .ref a9, .int 0, .int 0, .int 0, .ref a10, .ref a11, .ref a12, .ref a13, .int 0, .int 0, .ref a14, .ref a15, .ref a16, .ref a17, .int 0, .int 0, .ref a18, .ref a19, .ref a20, .ref a21])), (a18, .inl (k 0, 4, .inl (tI [(-1), (-1), (-1), (-1)] 0)))]) hx hb hml hown hU hK hP hD rfl rfl [0, 1] rfl (by decide) (cX11_lacks_3 l D k _ a0 a18 a1 a2 a3 a4 a5 a6 a7 a8 a9 a10 a11 a12 a13 a14 a15 a16 a17 a19 a20 a21 (x1)) w1205 w1202 w1204 w61 w72 hdX11_lacks ⟨rfl, rfl⟩ ⟨Nat.le_of_ble_eq_true rfl, Nat.le_of_ble_eq_true rfl⟩ rfl hl.1 (Nat.le_of_ble_eq_true rfl) dX11_take_12 ⟨Nat.le_of_ble_eq_true rfl, Nat.le_of_ble_eq_true rfl⟩) hP hD hS hA (wr := []) [0, 1] [] rfl rfl (by decide) (by decide) (fun r9 H locs hB J hS => ?_)
      obtain ⟨rfl, hP1, hD1⟩ := hB
      obtain ⟨hP, hD⟩ := J _ hP1 hD1
      have hP : va_P D cl0 [(a0, .inr (8, [.int 2, .int 0, .int 1, .int 0, .int 0, .int 0, .ref a1, .ref a2, .int 0, .int 0, .ref a3, .ref a4, .ref a5, .ref a6, .ref a7, .ref a8, .ref a9, .int 0, .int 0, .int 0, .ref a10, .ref a11, .ref a12, .ref a13, .int 0, .int 0, .ref a14, .ref a15, .ref a16, .ref a17, .int 0, .int 0, .ref a18, .ref a19, .ref a20, .ref a21])), (a18, .inl (k 0, 4, .inl (tI [(-1), (-1), (-1), (-1)] 0)))] H := hP
      have hD : va_D A [(a0, .inr (8, [.int 2, .int 0, .int 1, .int 0, .int 0, .int 0, .ref a1, .ref a2, .int 0, .int 0, .ref a3, .ref a4, .ref a5, .ref a6, .ref a7, .ref a8, .ref a9, .int 0, .int 0, .int 0, .ref a10, .ref a11, .ref a12, .ref a13, .int 0, .int 0, .ref a14, .ref a15, .ref a16, .ref a17, .int 0, .int 0, .ref a18, .ref a19, .ref a20, .ref a21])), (a18, .inl (k 0, 4, .inl (tI [(-1), (-1), (-1), (-1)] 0)))] := hD
      refine lv_istore_n (lv' := [(3, .int (-11)), (0, .ref a0), (1, .int 2), (2, .int x1)]) hx hb dX11_take_15 rfl hl (by decide) rfl (fun ls hl => ?_)
      refine lv_iload_n hx hb dX11_take_16 rfl (lv_at hl 0 rfl) ?_
      refine lv_if_eq (tgt := 22) hx hb dX11_take_17 (by decide) (fun cc => absurd cc (by decide +kernel)) (fun _ => ?_)
      refine lv_iload_n hx hb dX11_take_20 rfl (lv_at hl 0 rfl) ?_
      exact retI (v := (-11)) hx hb hr hlocks hS (show ((-11) : Int32) = F_take 2 x1 by first | decide +kernel | (have g_2 : (2 : Int32).toInt = 2 := (by decide +kernel); unfold F_take; (repeat (first | rw [if_pos (by omega)] | rw [if_neg (by omega)])))) dX11_take_21
    · skip
      obtain rfl : x0 = 3 := eq32 hsp (by decide +kernel)
      refine cI (rV (q0 := 0) (ci := 8) (As := [.int 3, .int x1]) (rest := []) (wc := [(a0, .inr (8, [.int 2, .int 0, .int 1, .int 0, .int 0, .int 0, .ref a1, .ref a2, .int 0, .int 0, .ref a3, .ref a4, .ref a5, .ref a6, .ref a7, .ref a8, .ref a9, .int 0, .int 0, .int 0, .ref a10, .ref a11, .ref a12, .ref a13, .int 0, .int 0, .ref a14, .ref a15, .ref a16, .ref a17, .int 0, .int 0, .ref a18, .ref a19, .ref a20, .ref a21])), (a18, .inl (k 0, 4, .inl (tI [(-1), (-1), (-1), (-1)] 0)))]) hx hb hml hown hU hK hP hD rfl rfl [0, 1] rfl (by decide) (cX11_lacks_4 l D k _ a0 a18 a1 a2 a3 a4 a5 a6 a7 a8 a9 a10 a11 a12 a13 a14 a15 a16 a17 a19 a20 a21 (x1)) w1205 w1202 w1204 w61 w72 hdX11_lacks ⟨rfl, rfl⟩ ⟨Nat.le_of_ble_eq_true rfl, Nat.le_of_ble_eq_true rfl⟩ rfl hl.1 (Nat.le_of_ble_eq_true rfl) dX11_take_12 ⟨Nat.le_of_ble_eq_true rfl, Nat.le_of_ble_eq_true rfl⟩) hP hD hS hA (wr := []) [0, 1] [] rfl rfl (by decide) (by decide) (fun r10 H locs hB J hS => ?_)
      obtain ⟨rfl, hP1, hD1⟩ := hB
      obtain ⟨hP, hD⟩ := J _ hP1 hD1
      have hP : va_P D cl0 [(a0, .inr (8, [.int 2, .int 0, .int 1, .int 0, .int 0, .int 0, .ref a1, .ref a2, .int 0, .int 0, .ref a3, .ref a4, .ref a5, .ref a6, .ref a7, .ref a8, .ref a9, .int 0, .int 0, .int 0, .ref a10, .ref a11, .ref a12, .ref a13, .int 0, .int 0, .ref a14, .ref a15, .ref a16, .ref a17, .int 0, .int 0, .ref a18, .ref a19, .ref a20, .ref a21])), (a18, .inl (k 0, 4, .inl (tI [(-1), (-1), (-1), (-1)] 0)))] H := hP
      have hD : va_D A [(a0, .inr (8, [.int 2, .int 0, .int 1, .int 0, .int 0, .int 0, .ref a1, .ref a2, .int 0, .int 0, .ref a3, .ref a4, .ref a5, .ref a6, .ref a7, .ref a8, .ref a9, .int 0, .int 0, .int 0, .ref a10, .ref a11, .ref a12, .ref a13, .int 0, .int 0, .ref a14, .ref a15, .ref a16, .ref a17, .int 0, .int 0, .ref a18, .ref a19, .ref a20, .ref a21])), (a18, .inl (k 0, 4, .inl (tI [(-1), (-1), (-1), (-1)] 0)))] := hD
      refine lv_istore_n (lv' := [(3, .int (-11)), (0, .ref a0), (1, .int 3), (2, .int x1)]) hx hb dX11_take_15 rfl hl (by decide) rfl (fun ls hl => ?_)
      refine lv_iload_n hx hb dX11_take_16 rfl (lv_at hl 0 rfl) ?_
      refine lv_if_eq (tgt := 22) hx hb dX11_take_17 (by decide) (fun cc => absurd cc (by decide +kernel)) (fun _ => ?_)
      refine lv_iload_n hx hb dX11_take_20 rfl (lv_at hl 0 rfl) ?_
      exact retI (v := (-11)) hx hb hr hlocks hS (show ((-11) : Int32) = F_take 3 x1 by first | decide +kernel | (have g_3 : (3 : Int32).toInt = 3 := (by decide +kernel); unfold F_take; (repeat (first | rw [if_pos (by omega)] | rw [if_neg (by omega)])))) dX11_take_21
abbrev BX11_in_8 (D : va_G) (k : Nat → ClassId) (x0 : Int64) (A : Nat → Prop) (r : Int32) (H : Heap) : Prop := (x0 < (-1) ∧ 0 = r ∧ va_P D cl0 [] H ∧ va_D A []) ∨ (¬ (x0 < (-1)) ∧ 2 < x0 ∧ 0 = r ∧ va_P D cl0 [] H ∧ va_D A []) ∨ (¬ (x0 < (-1)) ∧ ¬ (2 < x0) ∧ 1 = r ∧ va_P D cl0 [] H ∧ va_D A [])
set_option maxHeartbeats 4000000 in
set_option maxRecDepth 100000 in
theorem cX11_in_8 (l : Launch) (D : va_G) (k : Nat → ClassId) (sz : Nat) (x0 : Int64) : Met l yX11_in (Cond.code yX11_in cX11_in 6 (some .boolean) :: uw) ({ frames := 0, cells := 0, slots := 0, locals := 0 }) (pC D k sz [.long x0, .long (-1), .long 2] []) (qI (BX11_in_8 D k x0 (va_A [] sz)) (va_A [] sz)) 0 0 (va_A [] sz) := by
  refine begin_ (Qc := fun A => qI (BX11_in_8 D k x0 A) A) (by decide) (Nat.le_of_ble_eq_true rfl) ?_
  intro p e s m below meth c ls A hx hb hr hml hown hlocks hin hU hK hsz hP hD hS hA hl
  have hl : lv_has ls 6 [(0, .long x0), (2, .long (-1)), (4, .long 2)] := hl
  clear hsz
  refine lv_lload_n hx hb dX11_in_0 rfl (lv_at hl 0 rfl) ?_
  refine lv_lload_n hx hb dX11_in_1 rfl (lv_at hl 1 rfl) ?_
  refine W.lcmp hx hb dX11_in_2 ?_
  refine lv_if_lt (tgt := 17) hx hb dX11_in_3 (by decide) (fun c_1 => ?_) (fun c_1 => ?_)
  · skip
    have c_1 := (lg_cmp_lt _ _).mp c_1
    refine lv_iconst (v := 0) hx hb dX11_in_17 (by decide) ?_
    exact retZ (v := 0) hx hb hr hlocks hS (Or.inl ⟨c_1, rfl, hP, hD⟩) dX11_in_18 (by decide +kernel)
  · skip
    have c_1 := fun h9 => c_1 ((lg_cmp_lt _ _).mpr h9)
    refine lv_lload_n hx hb dX11_in_6 rfl (lv_at hl 0 rfl) ?_
    refine lv_lload hx hb dX11_in_7 (lv_at hl 2 rfl) ?_
    refine W.lcmp hx hb dX11_in_9 ?_
    refine lv_if_gt (tgt := 17) hx hb dX11_in_10 (by decide) (fun c_2 => ?_) (fun c_2 => ?_)
    · skip
      have c_2 := (lg_cmp_gt _ _).mp c_2
      refine lv_iconst (v := 0) hx hb dX11_in_17 (by decide) ?_
      exact retZ (v := 0) hx hb hr hlocks hS (Or.inr (Or.inl ⟨c_1, c_2, rfl, hP, hD⟩)) dX11_in_18 (by decide +kernel)
    · skip
      have c_2 := fun h9 => c_2 ((lg_cmp_gt _ _).mpr h9)
      refine lv_iconst (v := 1) hx hb dX11_in_13 (by decide) ?_
      refine lv_goto (tgt := 18) hx hb dX11_in_14 (by decide) ?_
      exact retZ (v := 1) hx hb hr hlocks hS (Or.inr (Or.inr (⟨c_1, c_2, rfl, hP, hD⟩))) dX11_in_18 (by decide +kernel)
abbrev BX11_sheet_1 (D : va_G) (k : Nat → ClassId) (a0 a18 a19 a20 a1 a2 a3 a4 a5 a6 a7 a8 a9 a10 a11 a12 a13 a14 a15 a16 a17 a21 : Nat) (x0 : Int32) (x1 : Int32) (x2 : Int32) (A : Nat → Prop) (r : Int32) (H : Heap) : Prop := r = F_sheet x0 x1 x2
set_option maxHeartbeats 4000000 in
set_option maxRecDepth 100000 in
theorem cX11_sheet_1 (l : Launch) (D : va_G) (k : Nat → ClassId) (sz : Nat) (a0 a18 a19 a20 a1 a2 a3 a4 a5 a6 a7 a8 a9 a10 a11 a12 a13 a14 a15 a16 a17 a21 : Nat) (x0 : Int32) (x1 : Int32) (x2 : Int32) : Met l yX11_sheet (Cond.code yX11_sheet cX11_sheet 5 (some .int) :: uw) ({ frames := 2, cells := 0, slots := 0, locals := 45 }) (pC D k sz [.ref a0, .int x0, .int x1, .int x2] [(a0, .inr (8, [.int 2, .int 0, .int 1, .int 0, .int 0, .int 0, .ref a1, .ref a2, .int 0, .int 0, .ref a3, .ref a4, .ref a5, .ref a6, .ref a7, .ref a8, .ref a9, .int 0, .int 0, .int 0, .ref a10, .ref a11, .ref a12, .ref a13, .int 0, .int 0, .ref a14, .ref a15, .ref a16, .ref a17, .int 0, .int 0, .ref a18, .ref a19, .ref a20, .ref a21])), (a18, .inl (k 0, 4, .inl (tI [(-1), (-1), (-1), (-1)] 0))), (a19, .inl (k 0, 4, .inl (tI [] 0))), (a20, .inl (k 1, 160, .inr (.inl (tL [] 0))))]) (qI (BX11_sheet_1 D k a0 a18 a19 a20 a1 a2 a3 a4 a5 a6 a7 a8 a9 a10 a11 a12 a13 a14 a15 a16 a17 a21 x0 x1 x2 (va_A [(a0, .inr (8, [.int 2, .int 0, .int 1, .int 0, .int 0, .int 0, .ref a1, .ref a2, .int 0, .int 0, .ref a3, .ref a4, .ref a5, .ref a6, .ref a7, .ref a8, .ref a9, .int 0, .int 0, .int 0, .ref a10, .ref a11, .ref a12, .ref a13, .int 0, .int 0, .ref a14, .ref a15, .ref a16, .ref a17, .int 0, .int 0, .ref a18, .ref a19, .ref a20, .ref a21])), (a18, .inl (k 0, 4, .inl (tI [(-1), (-1), (-1), (-1)] 0))), (a19, .inl (k 0, 4, .inl (tI [] 0))), (a20, .inl (k 1, 160, .inr (.inl (tL [] 0))))] sz)) (va_A [(a0, .inr (8, [.int 2, .int 0, .int 1, .int 0, .int 0, .int 0, .ref a1, .ref a2, .int 0, .int 0, .ref a3, .ref a4, .ref a5, .ref a6, .ref a7, .ref a8, .ref a9, .int 0, .int 0, .int 0, .ref a10, .ref a11, .ref a12, .ref a13, .int 0, .int 0, .ref a14, .ref a15, .ref a16, .ref a17, .int 0, .int 0, .ref a18, .ref a19, .ref a20, .ref a21])), (a18, .inl (k 0, 4, .inl (tI [(-1), (-1), (-1), (-1)] 0))), (a19, .inl (k 0, 4, .inl (tI [] 0))), (a20, .inl (k 1, 160, .inr (.inl (tL [] 0))))] sz)) 0 0 (va_A [(a0, .inr (8, [.int 2, .int 0, .int 1, .int 0, .int 0, .int 0, .ref a1, .ref a2, .int 0, .int 0, .ref a3, .ref a4, .ref a5, .ref a6, .ref a7, .ref a8, .ref a9, .int 0, .int 0, .int 0, .ref a10, .ref a11, .ref a12, .ref a13, .int 0, .int 0, .ref a14, .ref a15, .ref a16, .ref a17, .int 0, .int 0, .ref a18, .ref a19, .ref a20, .ref a21])), (a18, .inl (k 0, 4, .inl (tI [(-1), (-1), (-1), (-1)] 0))), (a19, .inl (k 0, 4, .inl (tI [] 0))), (a20, .inl (k 1, 160, .inr (.inl (tL [] 0))))] sz) := by
  refine begin_ (Qc := fun A => qI (BX11_sheet_1 D k a0 a18 a19 a20 a1 a2 a3 a4 a5 a6 a7 a8 a9 a10 a11 a12 a13 a14 a15 a16 a17 a21 x0 x1 x2 A) A) (by decide) (Nat.le_of_ble_eq_true rfl) ?_
  intro p e s m below meth c ls A hx hb hr hml hown hlocks hin hU hK hsz hP hD hS hA hl
  have hl : lv_has ls 5 [(0, .ref a0), (1, .int x0), (2, .int x1), (3, .int x2)] := hl
  clear hsz
  refine lv_iload_n hx hb dX11_sheet_0 rfl (lv_at hl 1 rfl) ?_
  refine cI (rS (As := [.int x0]) (rest := []) (wc := []) hx hb hml hown hU hK hP hD [] rfl (by decide) (cX11_isSheet_1 l D k _ (x0)) w1101 w1099 w1100 w72 hdX11_isSheet ⟨rfl, rfl⟩ ⟨Nat.le_of_ble_eq_true rfl, Nat.le_of_ble_eq_true rfl⟩ rfl hl.1 (Nat.le_of_ble_eq_true rfl) dX11_sheet_1 ⟨Nat.le_of_ble_eq_true rfl, Nat.le_of_ble_eq_true rfl⟩) hP hD hS hA (wr := [(a0, .inr (8, [.int 2, .int 0, .int 1, .int 0, .int 0, .int 0, .ref a1, .ref a2, .int 0, .int 0, .ref a3, .ref a4, .ref a5, .ref a6, .ref a7, .ref a8, .ref a9, .int 0, .int 0, .int 0, .ref a10, .ref a11, .ref a12, .ref a13, .int 0, .int 0, .ref a14, .ref a15, .ref a16, .ref a17, .int 0, .int 0, .ref a18, .ref a19, .ref a20, .ref a21])), (a18, .inl (k 0, 4, .inl (tI [(-1), (-1), (-1), (-1)] 0))), (a19, .inl (k 0, 4, .inl (tI [] 0))), (a20, .inl (k 1, 160, .inr (.inl (tL [] 0))))]) [] [0, 1, 2, 3] rfl rfl (by decide) (by decide) (fun r1 H locs hB J hS => ?_)
  rcases hB with ⟨c_2, rfl, hP1, hD1⟩ | ⟨c_3, c_4, rfl, hP1, hD1⟩ | ⟨c_5, c_6, rfl, hP1, hD1⟩
  · skip
    obtain ⟨hP, hD⟩ := J _ hP1 hD1
    have hP : va_P D cl0 [(a0, .inr (8, [.int 2, .int 0, .int 1, .int 0, .int 0, .int 0, .ref a1, .ref a2, .int 0, .int 0, .ref a3, .ref a4, .ref a5, .ref a6, .ref a7, .ref a8, .ref a9, .int 0, .int 0, .int 0, .ref a10, .ref a11, .ref a12, .ref a13, .int 0, .int 0, .ref a14, .ref a15, .ref a16, .ref a17, .int 0, .int 0, .ref a18, .ref a19, .ref a20, .ref a21])), (a18, .inl (k 0, 4, .inl (tI [(-1), (-1), (-1), (-1)] 0))), (a19, .inl (k 0, 4, .inl (tI [] 0))), (a20, .inl (k 1, 160, .inr (.inl (tL [] 0))))] H := hP
    have hD : va_D A [(a0, .inr (8, [.int 2, .int 0, .int 1, .int 0, .int 0, .int 0, .ref a1, .ref a2, .int 0, .int 0, .ref a3, .ref a4, .ref a5, .ref a6, .ref a7, .ref a8, .ref a9, .int 0, .int 0, .int 0, .ref a10, .ref a11, .ref a12, .ref a13, .int 0, .int 0, .ref a14, .ref a15, .ref a16, .ref a17, .int 0, .int 0, .ref a18, .ref a19, .ref a20, .ref a21])), (a18, .inl (k 0, 4, .inl (tI [(-1), (-1), (-1), (-1)] 0))), (a19, .inl (k 0, 4, .inl (tI [] 0))), (a20, .inl (k 1, 160, .inr (.inl (tL [] 0))))] := hD
    refine lv_if_eq (tgt := 31) hx hb dX11_sheet_4 (by decide) (fun _ => ?_) (fun cc => absurd (by decide +kernel) cc)
    refine lv_iconst (v := (-1)) hx hb dX11_sheet_31 (by decide) ?_
    exact retI (v := (-1)) hx hb hr hlocks hS (show ((-1) : Int32) = F_sheet x0 x1 x2 by first | decide +kernel | (have f0 := dv_lt (x := x0.toInt) (y := 0) c_2 (wd x0) (by decide +kernel); unfold F_sheet; (repeat (first | rw [if_pos (by omega)] | rw [if_neg (by omega)])))) dX11_sheet_32
  · skip
    obtain ⟨hP, hD⟩ := J _ hP1 hD1
    have hP : va_P D cl0 [(a0, .inr (8, [.int 2, .int 0, .int 1, .int 0, .int 0, .int 0, .ref a1, .ref a2, .int 0, .int 0, .ref a3, .ref a4, .ref a5, .ref a6, .ref a7, .ref a8, .ref a9, .int 0, .int 0, .int 0, .ref a10, .ref a11, .ref a12, .ref a13, .int 0, .int 0, .ref a14, .ref a15, .ref a16, .ref a17, .int 0, .int 0, .ref a18, .ref a19, .ref a20, .ref a21])), (a18, .inl (k 0, 4, .inl (tI [(-1), (-1), (-1), (-1)] 0))), (a19, .inl (k 0, 4, .inl (tI [] 0))), (a20, .inl (k 1, 160, .inr (.inl (tL [] 0))))] H := hP
    have hD : va_D A [(a0, .inr (8, [.int 2, .int 0, .int 1, .int 0, .int 0, .int 0, .ref a1, .ref a2, .int 0, .int 0, .ref a3, .ref a4, .ref a5, .ref a6, .ref a7, .ref a8, .ref a9, .int 0, .int 0, .int 0, .ref a10, .ref a11, .ref a12, .ref a13, .int 0, .int 0, .ref a14, .ref a15, .ref a16, .ref a17, .int 0, .int 0, .ref a18, .ref a19, .ref a20, .ref a21])), (a18, .inl (k 0, 4, .inl (tI [(-1), (-1), (-1), (-1)] 0))), (a19, .inl (k 0, 4, .inl (tI [] 0))), (a20, .inl (k 1, 160, .inr (.inl (tL [] 0))))] := hD
    refine lv_if_eq (tgt := 31) hx hb dX11_sheet_4 (by decide) (fun _ => ?_) (fun cc => absurd (by decide +kernel) cc)
    refine lv_iconst (v := (-1)) hx hb dX11_sheet_31 (by decide) ?_
    exact retI (v := (-1)) hx hb hr hlocks hS (show ((-1) : Int32) = F_sheet x0 x1 x2 by first | decide +kernel | (have f0 := dv_nlt (x := x0.toInt) (y := 0) c_3 (wd x0) (by decide +kernel); have f1 := dv_lt (x := 3) (y := x0.toInt) c_4 (by decide +kernel) (wd x0); unfold F_sheet; (repeat (first | rw [if_pos (by omega)] | rw [if_neg (by omega)])))) dX11_sheet_32
  · skip
    obtain ⟨hP, hD⟩ := J _ hP1 hD1
    have hP : va_P D cl0 [(a0, .inr (8, [.int 2, .int 0, .int 1, .int 0, .int 0, .int 0, .ref a1, .ref a2, .int 0, .int 0, .ref a3, .ref a4, .ref a5, .ref a6, .ref a7, .ref a8, .ref a9, .int 0, .int 0, .int 0, .ref a10, .ref a11, .ref a12, .ref a13, .int 0, .int 0, .ref a14, .ref a15, .ref a16, .ref a17, .int 0, .int 0, .ref a18, .ref a19, .ref a20, .ref a21])), (a18, .inl (k 0, 4, .inl (tI [(-1), (-1), (-1), (-1)] 0))), (a19, .inl (k 0, 4, .inl (tI [] 0))), (a20, .inl (k 1, 160, .inr (.inl (tL [] 0))))] H := hP
    have hD : va_D A [(a0, .inr (8, [.int 2, .int 0, .int 1, .int 0, .int 0, .int 0, .ref a1, .ref a2, .int 0, .int 0, .ref a3, .ref a4, .ref a5, .ref a6, .ref a7, .ref a8, .ref a9, .int 0, .int 0, .int 0, .ref a10, .ref a11, .ref a12, .ref a13, .int 0, .int 0, .ref a14, .ref a15, .ref a16, .ref a17, .int 0, .int 0, .ref a18, .ref a19, .ref a20, .ref a21])), (a18, .inl (k 0, 4, .inl (tI [(-1), (-1), (-1), (-1)] 0))), (a19, .inl (k 0, 4, .inl (tI [] 0))), (a20, .inl (k 1, 160, .inr (.inl (tL [] 0))))] := hD
    refine lv_if_eq (tgt := 31) hx hb dX11_sheet_4 (by decide) (fun cc => absurd cc (by decide +kernel)) (fun _ => ?_)
    refine lv_iload_n hx hb dX11_sheet_7 rfl (lv_at hl 2 rfl) ?_
    refine lv_i2l (v := x1.toInt64) hx hb dX11_sheet_8 rfl ?_
    refine lv_ldc2 hx hb hown (hU _ w944) dX11_sheet_9 ?_
    refine lv_ldc2 hx hb hown (hU _ w1156) dX11_sheet_12 ?_
    refine cI (rS (As := [.long x1.toInt64, .long (-1), .long 2]) (rest := []) (wc := []) hx hb hml hown hU hK hP hD [] rfl (by decide) (cX11_in_8 l D k _ (x1.toInt64)) w901 w899 w900 w72 hdX11_in ⟨rfl, rfl⟩ ⟨Nat.le_of_ble_eq_true rfl, Nat.le_of_ble_eq_true rfl⟩ rfl hl.1 (Nat.le_of_ble_eq_true rfl) dX11_sheet_15 ⟨Nat.le_of_ble_eq_true rfl, Nat.le_of_ble_eq_true rfl⟩) hP hD hS hA (wr := [(a0, .inr (8, [.int 2, .int 0, .int 1, .int 0, .int 0, .int 0, .ref a1, .ref a2, .int 0, .int 0, .ref a3, .ref a4, .ref a5, .ref a6, .ref a7, .ref a8, .ref a9, .int 0, .int 0, .int 0, .ref a10, .ref a11, .ref a12, .ref a13, .int 0, .int 0, .ref a14, .ref a15, .ref a16, .ref a17, .int 0, .int 0, .ref a18, .ref a19, .ref a20, .ref a21])), (a18, .inl (k 0, 4, .inl (tI [(-1), (-1), (-1), (-1)] 0))), (a19, .inl (k 0, 4, .inl (tI [] 0))), (a20, .inl (k 1, 160, .inr (.inl (tL [] 0))))]) [] [0, 1, 2, 3] rfl rfl (by decide) (by decide) (fun r7 H locs hB J hS => ?_)
    rcases hB with ⟨c_8, rfl, hP1, hD1⟩ | ⟨c_9, c_10, rfl, hP1, hD1⟩ | ⟨c_11, c_12, rfl, hP1, hD1⟩
    · skip
      obtain ⟨hP, hD⟩ := J _ hP1 hD1
      have hP : va_P D cl0 [(a0, .inr (8, [.int 2, .int 0, .int 1, .int 0, .int 0, .int 0, .ref a1, .ref a2, .int 0, .int 0, .ref a3, .ref a4, .ref a5, .ref a6, .ref a7, .ref a8, .ref a9, .int 0, .int 0, .int 0, .ref a10, .ref a11, .ref a12, .ref a13, .int 0, .int 0, .ref a14, .ref a15, .ref a16, .ref a17, .int 0, .int 0, .ref a18, .ref a19, .ref a20, .ref a21])), (a18, .inl (k 0, 4, .inl (tI [(-1), (-1), (-1), (-1)] 0))), (a19, .inl (k 0, 4, .inl (tI [] 0))), (a20, .inl (k 1, 160, .inr (.inl (tL [] 0))))] H := hP
      have hD : va_D A [(a0, .inr (8, [.int 2, .int 0, .int 1, .int 0, .int 0, .int 0, .ref a1, .ref a2, .int 0, .int 0, .ref a3, .ref a4, .ref a5, .ref a6, .ref a7, .ref a8, .ref a9, .int 0, .int 0, .int 0, .ref a10, .ref a11, .ref a12, .ref a13, .int 0, .int 0, .ref a14, .ref a15, .ref a16, .ref a17, .int 0, .int 0, .ref a18, .ref a19, .ref a20, .ref a21])), (a18, .inl (k 0, 4, .inl (tI [(-1), (-1), (-1), (-1)] 0))), (a19, .inl (k 0, 4, .inl (tI [] 0))), (a20, .inl (k 1, 160, .inr (.inl (tL [] 0))))] := hD
      refine lv_if_eq (tgt := 31) hx hb dX11_sheet_18 (by decide) (fun _ => ?_) (fun cc => absurd (by decide +kernel) cc)
      refine lv_iconst (v := (-1)) hx hb dX11_sheet_31 (by decide) ?_
      exact retI (v := (-1)) hx hb hr hlocks hS (show ((-1) : Int32) = F_sheet x0 x1 x2 by first | decide +kernel | (have f0 := dv_nlt (x := x0.toInt) (y := 0) c_5 (wd x0) (by decide +kernel); have f1 := dv_nlt (x := 3) (y := x0.toInt) c_6 (by decide +kernel) (wd x0); have f2 := dv_lt (x := x1.toInt) (y := (-1)) c_8 (wd x1) (by decide +kernel); unfold F_sheet; (repeat (first | rw [if_pos (by omega)] | rw [if_neg (by omega)])))) dX11_sheet_32
    · skip
      obtain ⟨hP, hD⟩ := J _ hP1 hD1
      have hP : va_P D cl0 [(a0, .inr (8, [.int 2, .int 0, .int 1, .int 0, .int 0, .int 0, .ref a1, .ref a2, .int 0, .int 0, .ref a3, .ref a4, .ref a5, .ref a6, .ref a7, .ref a8, .ref a9, .int 0, .int 0, .int 0, .ref a10, .ref a11, .ref a12, .ref a13, .int 0, .int 0, .ref a14, .ref a15, .ref a16, .ref a17, .int 0, .int 0, .ref a18, .ref a19, .ref a20, .ref a21])), (a18, .inl (k 0, 4, .inl (tI [(-1), (-1), (-1), (-1)] 0))), (a19, .inl (k 0, 4, .inl (tI [] 0))), (a20, .inl (k 1, 160, .inr (.inl (tL [] 0))))] H := hP
      have hD : va_D A [(a0, .inr (8, [.int 2, .int 0, .int 1, .int 0, .int 0, .int 0, .ref a1, .ref a2, .int 0, .int 0, .ref a3, .ref a4, .ref a5, .ref a6, .ref a7, .ref a8, .ref a9, .int 0, .int 0, .int 0, .ref a10, .ref a11, .ref a12, .ref a13, .int 0, .int 0, .ref a14, .ref a15, .ref a16, .ref a17, .int 0, .int 0, .ref a18, .ref a19, .ref a20, .ref a21])), (a18, .inl (k 0, 4, .inl (tI [(-1), (-1), (-1), (-1)] 0))), (a19, .inl (k 0, 4, .inl (tI [] 0))), (a20, .inl (k 1, 160, .inr (.inl (tL [] 0))))] := hD
      refine lv_if_eq (tgt := 31) hx hb dX11_sheet_18 (by decide) (fun _ => ?_) (fun cc => absurd (by decide +kernel) cc)
      refine lv_iconst (v := (-1)) hx hb dX11_sheet_31 (by decide) ?_
      exact retI (v := (-1)) hx hb hr hlocks hS (show ((-1) : Int32) = F_sheet x0 x1 x2 by first | decide +kernel | (have f0 := dv_nlt (x := x0.toInt) (y := 0) c_5 (wd x0) (by decide +kernel); have f1 := dv_nlt (x := 3) (y := x0.toInt) c_6 (by decide +kernel) (wd x0); have f2 := dv_nlt (x := x1.toInt) (y := (-1)) c_9 (wd x1) (by decide +kernel); have f3 := dv_lt (x := 2) (y := x1.toInt) c_10 (by decide +kernel) (wd x1); unfold F_sheet; (repeat (first | rw [if_pos (by omega)] | rw [if_neg (by omega)])))) dX11_sheet_32
    · skip
      obtain ⟨hP, hD⟩ := J _ hP1 hD1
      have hP : va_P D cl0 [(a0, .inr (8, [.int 2, .int 0, .int 1, .int 0, .int 0, .int 0, .ref a1, .ref a2, .int 0, .int 0, .ref a3, .ref a4, .ref a5, .ref a6, .ref a7, .ref a8, .ref a9, .int 0, .int 0, .int 0, .ref a10, .ref a11, .ref a12, .ref a13, .int 0, .int 0, .ref a14, .ref a15, .ref a16, .ref a17, .int 0, .int 0, .ref a18, .ref a19, .ref a20, .ref a21])), (a18, .inl (k 0, 4, .inl (tI [(-1), (-1), (-1), (-1)] 0))), (a19, .inl (k 0, 4, .inl (tI [] 0))), (a20, .inl (k 1, 160, .inr (.inl (tL [] 0))))] H := hP
      have hD : va_D A [(a0, .inr (8, [.int 2, .int 0, .int 1, .int 0, .int 0, .int 0, .ref a1, .ref a2, .int 0, .int 0, .ref a3, .ref a4, .ref a5, .ref a6, .ref a7, .ref a8, .ref a9, .int 0, .int 0, .int 0, .ref a10, .ref a11, .ref a12, .ref a13, .int 0, .int 0, .ref a14, .ref a15, .ref a16, .ref a17, .int 0, .int 0, .ref a18, .ref a19, .ref a20, .ref a21])), (a18, .inl (k 0, 4, .inl (tI [(-1), (-1), (-1), (-1)] 0))), (a19, .inl (k 0, 4, .inl (tI [] 0))), (a20, .inl (k 1, 160, .inr (.inl (tL [] 0))))] := hD
      refine lv_if_eq (tgt := 31) hx hb dX11_sheet_18 (by decide) (fun cc => absurd cc (by decide +kernel)) (fun _ => ?_)
      refine lv_iload_n hx hb dX11_sheet_21 rfl (lv_at hl 2 rfl) ?_
      have hsp : x1.toInt = (-1) ∨ x1.toInt = 0 ∨ x1.toInt = 1 ∨ x1.toInt = 2 := by
        have f0 := dv_nlt (x := x0.toInt) (y := 0) c_5 (wd x0) (by decide +kernel)
        have f1 := dv_nlt (x := 3) (y := x0.toInt) c_6 (by decide +kernel) (wd x0)
        have f2 := dv_nlt (x := x1.toInt) (y := (-1)) c_11 (wd x1) (by decide +kernel)
        have f3 := dv_nlt (x := 2) (y := x1.toInt) c_12 (by decide +kernel) (wd x1)
        omega
      rcases hsp with hsp | hsp | hsp | hsp
      · skip
        obtain rfl : x1 = (-1) := eq32 hsp (by decide +kernel)
        refine lv_if_lt (tgt := 33) hx hb dX11_sheet_22 (by decide) (fun _ => ?_) (fun cc => absurd (by decide +kernel) cc)
        refine lv_iload_n hx hb dX11_sheet_33 rfl (lv_at hl 2 rfl) ?_
        refine lv_if_lt (tgt := 44) hx hb dX11_sheet_34 (by decide) (fun _ => ?_) (fun cc => absurd (by decide +kernel) cc)
        refine lv_aload_n hx hb dX11_sheet_44 rfl (lv_at hl 0 rfl) ?_
        refine va_get (D := D) (ci := 8) (v := .ref a18) (C := RX11) (T := TX11) (N := 36) hx hb hU iX11 hown hK.1 hP 0 rfl rfl 32 (by decide) (hU _ w817) (fun _ h9 => h9) rfl dX11_sheet_45 ?_
        refine lv_iload_n hx hb dX11_sheet_48 rfl (lv_at hl 1 rfl) ?_
        refine lv_iload_n hx hb dX11_sheet_49 rfl (lv_at hl 2 rfl) ?_
        have hsp : x0.toInt = 0 ∨ x0.toInt = 1 ∨ x0.toInt = 2 ∨ x0.toInt = 3 := by
          have f0 := dv_nlt (x := x0.toInt) (y := 0) c_5 (wd x0) (by decide +kernel)
          have f1 := dv_nlt (x := 3) (y := x0.toInt) c_6 (by decide +kernel) (wd x0)
          have g_m1 : ((-1) : Int32).toInt = (-1) := (by decide +kernel)
          omega
        rcases hsp with hsp | hsp | hsp | hsp
        · skip
          obtain rfl : x0 = 0 := eq32 hsp (by decide +kernel)
          refine st_i (j := 0) (g := tI [(-1), (-1), (-1), (-1)] 0) hx hb hK hP hD hS 1 rfl (by decide +kernel) upd_tI dX11_sheet_50 (fun H locs hP hD hS => ?_)
          have hP : va_P D cl0 [(a0, .inr (8, [.int 2, .int 0, .int 1, .int 0, .int 0, .int 0, .ref a1, .ref a2, .int 0, .int 0, .ref a3, .ref a4, .ref a5, .ref a6, .ref a7, .ref a8, .ref a9, .int 0, .int 0, .int 0, .ref a10, .ref a11, .ref a12, .ref a13, .int 0, .int 0, .ref a14, .ref a15, .ref a16, .ref a17, .int 0, .int 0, .ref a18, .ref a19, .ref a20, .ref a21])), (a18, .inl (k 0, 4, .inl (tI [(-1), (-1), (-1), (-1)] 0))), (a19, .inl (k 0, 4, .inl (tI [] 0))), (a20, .inl (k 1, 160, .inr (.inl (tL [] 0))))] H := hP
          have hD : va_D A [(a0, .inr (8, [.int 2, .int 0, .int 1, .int 0, .int 0, .int 0, .ref a1, .ref a2, .int 0, .int 0, .ref a3, .ref a4, .ref a5, .ref a6, .ref a7, .ref a8, .ref a9, .int 0, .int 0, .int 0, .ref a10, .ref a11, .ref a12, .ref a13, .int 0, .int 0, .ref a14, .ref a15, .ref a16, .ref a17, .int 0, .int 0, .ref a18, .ref a19, .ref a20, .ref a21])), (a18, .inl (k 0, 4, .inl (tI [(-1), (-1), (-1), (-1)] 0))), (a19, .inl (k 0, 4, .inl (tI [] 0))), (a20, .inl (k 1, 160, .inr (.inl (tL [] 0))))] := hD
          refine lv_aload_n hx hb dX11_sheet_51 rfl (lv_at hl 0 rfl) ?_
          refine va_get (D := D) (ci := 8) (v := .ref a19) (C := RX11) (T := TX11) (N := 36) hx hb hU iX11 hown hK.1 hP 0 rfl rfl 33 (by decide) (hU _ w818) (fun _ h9 => h9) rfl dX11_sheet_52 ?_
          refine lv_iload_n hx hb dX11_sheet_55 rfl (lv_at hl 1 rfl) ?_
          refine lv_iload_n hx hb dX11_sheet_56 rfl (lv_at hl 2 rfl) ?_
          refine lv_if_ge (tgt := 64) hx hb dX11_sheet_57 (by decide) (fun cc => absurd cc (by decide +kernel)) (fun _ => ?_)
          refine lv_iconst (v := 0) hx hb dX11_sheet_60 (by decide) ?_
          refine lv_goto (tgt := 65) hx hb dX11_sheet_61 (by decide) ?_
          refine st_i (j := 0) (g := tI [0] 0) hx hb hK hP hD hS 2 rfl (by decide +kernel) upd_tI dX11_sheet_65 (fun H locs hP hD hS => ?_)
          have hP : va_P D cl0 [(a0, .inr (8, [.int 2, .int 0, .int 1, .int 0, .int 0, .int 0, .ref a1, .ref a2, .int 0, .int 0, .ref a3, .ref a4, .ref a5, .ref a6, .ref a7, .ref a8, .ref a9, .int 0, .int 0, .int 0, .ref a10, .ref a11, .ref a12, .ref a13, .int 0, .int 0, .ref a14, .ref a15, .ref a16, .ref a17, .int 0, .int 0, .ref a18, .ref a19, .ref a20, .ref a21])), (a18, .inl (k 0, 4, .inl (tI [(-1), (-1), (-1), (-1)] 0))), (a19, .inl (k 0, 4, .inl (tI [0] 0))), (a20, .inl (k 1, 160, .inr (.inl (tL [] 0))))] H := hP
          have hD : va_D A [(a0, .inr (8, [.int 2, .int 0, .int 1, .int 0, .int 0, .int 0, .ref a1, .ref a2, .int 0, .int 0, .ref a3, .ref a4, .ref a5, .ref a6, .ref a7, .ref a8, .ref a9, .int 0, .int 0, .int 0, .ref a10, .ref a11, .ref a12, .ref a13, .int 0, .int 0, .ref a14, .ref a15, .ref a16, .ref a17, .int 0, .int 0, .ref a18, .ref a19, .ref a20, .ref a21])), (a18, .inl (k 0, 4, .inl (tI [(-1), (-1), (-1), (-1)] 0))), (a19, .inl (k 0, 4, .inl (tI [0] 0))), (a20, .inl (k 1, 160, .inr (.inl (tL [] 0))))] := hD
          refine lv_iconst (v := 0) hx hb dX11_sheet_66 (by decide) ?_
          refine lv_istore (lv' := [(4, .int 0), (0, .ref a0), (1, .int 0), (2, .int (-1)), (3, .int x2)]) hx hb dX11_sheet_67 hl (by decide) rfl (fun ls hl => ?_)
          exact sheetM_loop (q0 := 0) (q1 := 3) (sn := 0) hx hb hr hlocks hown hU hK (fun _ => (show (1 : Int32) = F_sheet 0 (-1) x2 by first | decide +kernel | (have g_m1 : ((-1) : Int32).toInt = (-1) := (by decide +kernel); have g_0 : (0 : Int32).toInt = 0 := (by decide +kernel); unfold F_sheet; (repeat (first | rw [if_pos (by omega)] | rw [if_neg (by omega)]))))) (by decide) (by decide) rfl 40 0 _ _ _ _ ls (by decide) rfl rfl hP hD hS (lv_sub hl [0, 1, 2, 3, 4] rfl)
        · skip
          obtain rfl : x0 = 1 := eq32 hsp (by decide +kernel)
          refine st_i (j := 1) (g := tI [(-1), (-1), (-1), (-1)] 0) hx hb hK hP hD hS 1 rfl (by decide +kernel) upd_tI dX11_sheet_50 (fun H locs hP hD hS => ?_)
          have hP : va_P D cl0 [(a0, .inr (8, [.int 2, .int 0, .int 1, .int 0, .int 0, .int 0, .ref a1, .ref a2, .int 0, .int 0, .ref a3, .ref a4, .ref a5, .ref a6, .ref a7, .ref a8, .ref a9, .int 0, .int 0, .int 0, .ref a10, .ref a11, .ref a12, .ref a13, .int 0, .int 0, .ref a14, .ref a15, .ref a16, .ref a17, .int 0, .int 0, .ref a18, .ref a19, .ref a20, .ref a21])), (a18, .inl (k 0, 4, .inl (tI [(-1), (-1), (-1), (-1)] 0))), (a19, .inl (k 0, 4, .inl (tI [] 0))), (a20, .inl (k 1, 160, .inr (.inl (tL [] 0))))] H := hP
          have hD : va_D A [(a0, .inr (8, [.int 2, .int 0, .int 1, .int 0, .int 0, .int 0, .ref a1, .ref a2, .int 0, .int 0, .ref a3, .ref a4, .ref a5, .ref a6, .ref a7, .ref a8, .ref a9, .int 0, .int 0, .int 0, .ref a10, .ref a11, .ref a12, .ref a13, .int 0, .int 0, .ref a14, .ref a15, .ref a16, .ref a17, .int 0, .int 0, .ref a18, .ref a19, .ref a20, .ref a21])), (a18, .inl (k 0, 4, .inl (tI [(-1), (-1), (-1), (-1)] 0))), (a19, .inl (k 0, 4, .inl (tI [] 0))), (a20, .inl (k 1, 160, .inr (.inl (tL [] 0))))] := hD
          refine lv_aload_n hx hb dX11_sheet_51 rfl (lv_at hl 0 rfl) ?_
          refine va_get (D := D) (ci := 8) (v := .ref a19) (C := RX11) (T := TX11) (N := 36) hx hb hU iX11 hown hK.1 hP 0 rfl rfl 33 (by decide) (hU _ w818) (fun _ h9 => h9) rfl dX11_sheet_52 ?_
          refine lv_iload_n hx hb dX11_sheet_55 rfl (lv_at hl 1 rfl) ?_
          refine lv_iload_n hx hb dX11_sheet_56 rfl (lv_at hl 2 rfl) ?_
          refine lv_if_ge (tgt := 64) hx hb dX11_sheet_57 (by decide) (fun cc => absurd cc (by decide +kernel)) (fun _ => ?_)
          refine lv_iconst (v := 0) hx hb dX11_sheet_60 (by decide) ?_
          refine lv_goto (tgt := 65) hx hb dX11_sheet_61 (by decide) ?_
          refine st_i (j := 1) (g := tI [0, 0] 0) hx hb hK hP hD hS 2 rfl (by decide +kernel) upd_tI dX11_sheet_65 (fun H locs hP hD hS => ?_)
          have hP : va_P D cl0 [(a0, .inr (8, [.int 2, .int 0, .int 1, .int 0, .int 0, .int 0, .ref a1, .ref a2, .int 0, .int 0, .ref a3, .ref a4, .ref a5, .ref a6, .ref a7, .ref a8, .ref a9, .int 0, .int 0, .int 0, .ref a10, .ref a11, .ref a12, .ref a13, .int 0, .int 0, .ref a14, .ref a15, .ref a16, .ref a17, .int 0, .int 0, .ref a18, .ref a19, .ref a20, .ref a21])), (a18, .inl (k 0, 4, .inl (tI [(-1), (-1), (-1), (-1)] 0))), (a19, .inl (k 0, 4, .inl (tI [0, 0] 0))), (a20, .inl (k 1, 160, .inr (.inl (tL [] 0))))] H := hP
          have hD : va_D A [(a0, .inr (8, [.int 2, .int 0, .int 1, .int 0, .int 0, .int 0, .ref a1, .ref a2, .int 0, .int 0, .ref a3, .ref a4, .ref a5, .ref a6, .ref a7, .ref a8, .ref a9, .int 0, .int 0, .int 0, .ref a10, .ref a11, .ref a12, .ref a13, .int 0, .int 0, .ref a14, .ref a15, .ref a16, .ref a17, .int 0, .int 0, .ref a18, .ref a19, .ref a20, .ref a21])), (a18, .inl (k 0, 4, .inl (tI [(-1), (-1), (-1), (-1)] 0))), (a19, .inl (k 0, 4, .inl (tI [0, 0] 0))), (a20, .inl (k 1, 160, .inr (.inl (tL [] 0))))] := hD
          refine lv_iconst (v := 0) hx hb dX11_sheet_66 (by decide) ?_
          refine lv_istore (lv' := [(4, .int 0), (0, .ref a0), (1, .int 1), (2, .int (-1)), (3, .int x2)]) hx hb dX11_sheet_67 hl (by decide) rfl (fun ls hl => ?_)
          exact sheetM_loop (q0 := 0) (q1 := 3) (sn := 1) hx hb hr hlocks hown hU hK (fun _ => (show (1 : Int32) = F_sheet 1 (-1) x2 by first | decide +kernel | (have g_m1 : ((-1) : Int32).toInt = (-1) := (by decide +kernel); have g_1 : (1 : Int32).toInt = 1 := (by decide +kernel); unfold F_sheet; (repeat (first | rw [if_pos (by omega)] | rw [if_neg (by omega)]))))) (by decide) (by decide) rfl 40 0 _ _ _ _ ls (by decide) rfl rfl hP hD hS (lv_sub hl [0, 1, 2, 3, 4] rfl)
        · skip
          obtain rfl : x0 = 2 := eq32 hsp (by decide +kernel)
          refine st_i (j := 2) (g := tI [(-1), (-1), (-1), (-1)] 0) hx hb hK hP hD hS 1 rfl (by decide +kernel) upd_tI dX11_sheet_50 (fun H locs hP hD hS => ?_)
          have hP : va_P D cl0 [(a0, .inr (8, [.int 2, .int 0, .int 1, .int 0, .int 0, .int 0, .ref a1, .ref a2, .int 0, .int 0, .ref a3, .ref a4, .ref a5, .ref a6, .ref a7, .ref a8, .ref a9, .int 0, .int 0, .int 0, .ref a10, .ref a11, .ref a12, .ref a13, .int 0, .int 0, .ref a14, .ref a15, .ref a16, .ref a17, .int 0, .int 0, .ref a18, .ref a19, .ref a20, .ref a21])), (a18, .inl (k 0, 4, .inl (tI [(-1), (-1), (-1), (-1)] 0))), (a19, .inl (k 0, 4, .inl (tI [] 0))), (a20, .inl (k 1, 160, .inr (.inl (tL [] 0))))] H := hP
          have hD : va_D A [(a0, .inr (8, [.int 2, .int 0, .int 1, .int 0, .int 0, .int 0, .ref a1, .ref a2, .int 0, .int 0, .ref a3, .ref a4, .ref a5, .ref a6, .ref a7, .ref a8, .ref a9, .int 0, .int 0, .int 0, .ref a10, .ref a11, .ref a12, .ref a13, .int 0, .int 0, .ref a14, .ref a15, .ref a16, .ref a17, .int 0, .int 0, .ref a18, .ref a19, .ref a20, .ref a21])), (a18, .inl (k 0, 4, .inl (tI [(-1), (-1), (-1), (-1)] 0))), (a19, .inl (k 0, 4, .inl (tI [] 0))), (a20, .inl (k 1, 160, .inr (.inl (tL [] 0))))] := hD
          refine lv_aload_n hx hb dX11_sheet_51 rfl (lv_at hl 0 rfl) ?_
          refine va_get (D := D) (ci := 8) (v := .ref a19) (C := RX11) (T := TX11) (N := 36) hx hb hU iX11 hown hK.1 hP 0 rfl rfl 33 (by decide) (hU _ w818) (fun _ h9 => h9) rfl dX11_sheet_52 ?_
          refine lv_iload_n hx hb dX11_sheet_55 rfl (lv_at hl 1 rfl) ?_
          refine lv_iload_n hx hb dX11_sheet_56 rfl (lv_at hl 2 rfl) ?_
          refine lv_if_ge (tgt := 64) hx hb dX11_sheet_57 (by decide) (fun cc => absurd cc (by decide +kernel)) (fun _ => ?_)
          refine lv_iconst (v := 0) hx hb dX11_sheet_60 (by decide) ?_
          refine lv_goto (tgt := 65) hx hb dX11_sheet_61 (by decide) ?_
          refine st_i (j := 2) (g := tI [0, 0, 0] 0) hx hb hK hP hD hS 2 rfl (by decide +kernel) upd_tI dX11_sheet_65 (fun H locs hP hD hS => ?_)
          have hP : va_P D cl0 [(a0, .inr (8, [.int 2, .int 0, .int 1, .int 0, .int 0, .int 0, .ref a1, .ref a2, .int 0, .int 0, .ref a3, .ref a4, .ref a5, .ref a6, .ref a7, .ref a8, .ref a9, .int 0, .int 0, .int 0, .ref a10, .ref a11, .ref a12, .ref a13, .int 0, .int 0, .ref a14, .ref a15, .ref a16, .ref a17, .int 0, .int 0, .ref a18, .ref a19, .ref a20, .ref a21])), (a18, .inl (k 0, 4, .inl (tI [(-1), (-1), (-1), (-1)] 0))), (a19, .inl (k 0, 4, .inl (tI [0, 0, 0] 0))), (a20, .inl (k 1, 160, .inr (.inl (tL [] 0))))] H := hP
          have hD : va_D A [(a0, .inr (8, [.int 2, .int 0, .int 1, .int 0, .int 0, .int 0, .ref a1, .ref a2, .int 0, .int 0, .ref a3, .ref a4, .ref a5, .ref a6, .ref a7, .ref a8, .ref a9, .int 0, .int 0, .int 0, .ref a10, .ref a11, .ref a12, .ref a13, .int 0, .int 0, .ref a14, .ref a15, .ref a16, .ref a17, .int 0, .int 0, .ref a18, .ref a19, .ref a20, .ref a21])), (a18, .inl (k 0, 4, .inl (tI [(-1), (-1), (-1), (-1)] 0))), (a19, .inl (k 0, 4, .inl (tI [0, 0, 0] 0))), (a20, .inl (k 1, 160, .inr (.inl (tL [] 0))))] := hD
          refine lv_iconst (v := 0) hx hb dX11_sheet_66 (by decide) ?_
          refine lv_istore (lv' := [(4, .int 0), (0, .ref a0), (1, .int 2), (2, .int (-1)), (3, .int x2)]) hx hb dX11_sheet_67 hl (by decide) rfl (fun ls hl => ?_)
          exact sheetM_loop (q0 := 0) (q1 := 3) (sn := 2) hx hb hr hlocks hown hU hK (fun _ => (show (1 : Int32) = F_sheet 2 (-1) x2 by first | decide +kernel | (have g_m1 : ((-1) : Int32).toInt = (-1) := (by decide +kernel); have g_2 : (2 : Int32).toInt = 2 := (by decide +kernel); unfold F_sheet; (repeat (first | rw [if_pos (by omega)] | rw [if_neg (by omega)]))))) (by decide) (by decide) rfl 40 0 _ _ _ _ ls (by decide) rfl rfl hP hD hS (lv_sub hl [0, 1, 2, 3, 4] rfl)
        · skip
          obtain rfl : x0 = 3 := eq32 hsp (by decide +kernel)
          refine st_i (j := 3) (g := tI [(-1), (-1), (-1), (-1)] 0) hx hb hK hP hD hS 1 rfl (by decide +kernel) upd_tI dX11_sheet_50 (fun H locs hP hD hS => ?_)
          have hP : va_P D cl0 [(a0, .inr (8, [.int 2, .int 0, .int 1, .int 0, .int 0, .int 0, .ref a1, .ref a2, .int 0, .int 0, .ref a3, .ref a4, .ref a5, .ref a6, .ref a7, .ref a8, .ref a9, .int 0, .int 0, .int 0, .ref a10, .ref a11, .ref a12, .ref a13, .int 0, .int 0, .ref a14, .ref a15, .ref a16, .ref a17, .int 0, .int 0, .ref a18, .ref a19, .ref a20, .ref a21])), (a18, .inl (k 0, 4, .inl (tI [(-1), (-1), (-1), (-1)] 0))), (a19, .inl (k 0, 4, .inl (tI [] 0))), (a20, .inl (k 1, 160, .inr (.inl (tL [] 0))))] H := hP
          have hD : va_D A [(a0, .inr (8, [.int 2, .int 0, .int 1, .int 0, .int 0, .int 0, .ref a1, .ref a2, .int 0, .int 0, .ref a3, .ref a4, .ref a5, .ref a6, .ref a7, .ref a8, .ref a9, .int 0, .int 0, .int 0, .ref a10, .ref a11, .ref a12, .ref a13, .int 0, .int 0, .ref a14, .ref a15, .ref a16, .ref a17, .int 0, .int 0, .ref a18, .ref a19, .ref a20, .ref a21])), (a18, .inl (k 0, 4, .inl (tI [(-1), (-1), (-1), (-1)] 0))), (a19, .inl (k 0, 4, .inl (tI [] 0))), (a20, .inl (k 1, 160, .inr (.inl (tL [] 0))))] := hD
          refine lv_aload_n hx hb dX11_sheet_51 rfl (lv_at hl 0 rfl) ?_
          refine va_get (D := D) (ci := 8) (v := .ref a19) (C := RX11) (T := TX11) (N := 36) hx hb hU iX11 hown hK.1 hP 0 rfl rfl 33 (by decide) (hU _ w818) (fun _ h9 => h9) rfl dX11_sheet_52 ?_
          refine lv_iload_n hx hb dX11_sheet_55 rfl (lv_at hl 1 rfl) ?_
          refine lv_iload_n hx hb dX11_sheet_56 rfl (lv_at hl 2 rfl) ?_
          refine lv_if_ge (tgt := 64) hx hb dX11_sheet_57 (by decide) (fun cc => absurd cc (by decide +kernel)) (fun _ => ?_)
          refine lv_iconst (v := 0) hx hb dX11_sheet_60 (by decide) ?_
          refine lv_goto (tgt := 65) hx hb dX11_sheet_61 (by decide) ?_
          refine st_i (j := 3) (g := tI [0, 0, 0, 0] 0) hx hb hK hP hD hS 2 rfl (by decide +kernel) upd_tI dX11_sheet_65 (fun H locs hP hD hS => ?_)
          have hP : va_P D cl0 [(a0, .inr (8, [.int 2, .int 0, .int 1, .int 0, .int 0, .int 0, .ref a1, .ref a2, .int 0, .int 0, .ref a3, .ref a4, .ref a5, .ref a6, .ref a7, .ref a8, .ref a9, .int 0, .int 0, .int 0, .ref a10, .ref a11, .ref a12, .ref a13, .int 0, .int 0, .ref a14, .ref a15, .ref a16, .ref a17, .int 0, .int 0, .ref a18, .ref a19, .ref a20, .ref a21])), (a18, .inl (k 0, 4, .inl (tI [(-1), (-1), (-1), (-1)] 0))), (a19, .inl (k 0, 4, .inl (tI [0, 0, 0, 0] 0))), (a20, .inl (k 1, 160, .inr (.inl (tL [] 0))))] H := hP
          have hD : va_D A [(a0, .inr (8, [.int 2, .int 0, .int 1, .int 0, .int 0, .int 0, .ref a1, .ref a2, .int 0, .int 0, .ref a3, .ref a4, .ref a5, .ref a6, .ref a7, .ref a8, .ref a9, .int 0, .int 0, .int 0, .ref a10, .ref a11, .ref a12, .ref a13, .int 0, .int 0, .ref a14, .ref a15, .ref a16, .ref a17, .int 0, .int 0, .ref a18, .ref a19, .ref a20, .ref a21])), (a18, .inl (k 0, 4, .inl (tI [(-1), (-1), (-1), (-1)] 0))), (a19, .inl (k 0, 4, .inl (tI [0, 0, 0, 0] 0))), (a20, .inl (k 1, 160, .inr (.inl (tL [] 0))))] := hD
          refine lv_iconst (v := 0) hx hb dX11_sheet_66 (by decide) ?_
          refine lv_istore (lv' := [(4, .int 0), (0, .ref a0), (1, .int 3), (2, .int (-1)), (3, .int x2)]) hx hb dX11_sheet_67 hl (by decide) rfl (fun ls hl => ?_)
          exact sheetM_loop (q0 := 0) (q1 := 3) (sn := 3) hx hb hr hlocks hown hU hK (fun _ => (show (1 : Int32) = F_sheet 3 (-1) x2 by first | decide +kernel | (have g_m1 : ((-1) : Int32).toInt = (-1) := (by decide +kernel); have g_3 : (3 : Int32).toInt = 3 := (by decide +kernel); unfold F_sheet; (repeat (first | rw [if_pos (by omega)] | rw [if_neg (by omega)]))))) (by decide) (by decide) rfl 40 0 _ _ _ _ ls (by decide) rfl rfl hP hD hS (lv_sub hl [0, 1, 2, 3, 4] rfl)
      · skip
        obtain rfl : x1 = 0 := eq32 hsp (by decide +kernel)
        refine lv_if_lt (tgt := 33) hx hb dX11_sheet_22 (by decide) (fun cc => absurd cc (by decide +kernel)) (fun _ => ?_)
        refine lv_iload_n hx hb dX11_sheet_25 rfl (lv_at hl 3 rfl) ?_
        refine lv_bipush (v := 40) hx hb dX11_sheet_26 (by decide) ?_
        refine lv_icmp_le (tgt := 33) hx hb dX11_sheet_28 (by decide) (fun c_13 => ?_) (fun c_13 => ?_)
        · skip
          refine lv_iload_n hx hb dX11_sheet_33 rfl (lv_at hl 2 rfl) ?_
          refine lv_if_lt (tgt := 44) hx hb dX11_sheet_34 (by decide) (fun cc => absurd cc (by decide +kernel)) (fun _ => ?_)
          refine lv_iload_n hx hb dX11_sheet_37 rfl (lv_at hl 3 rfl) ?_
          refine lv_if_ge (tgt := 44) hx hb dX11_sheet_38 (by decide) (fun c_14 => ?_) (fun c_14 => ?_)
          · skip
            refine lv_aload_n hx hb dX11_sheet_44 rfl (lv_at hl 0 rfl) ?_
            refine va_get (D := D) (ci := 8) (v := .ref a18) (C := RX11) (T := TX11) (N := 36) hx hb hU iX11 hown hK.1 hP 0 rfl rfl 32 (by decide) (hU _ w817) (fun _ h9 => h9) rfl dX11_sheet_45 ?_
            refine lv_iload_n hx hb dX11_sheet_48 rfl (lv_at hl 1 rfl) ?_
            refine lv_iload_n hx hb dX11_sheet_49 rfl (lv_at hl 2 rfl) ?_
            have hsp : x0.toInt = 0 ∨ x0.toInt = 1 ∨ x0.toInt = 2 ∨ x0.toInt = 3 := by
              have f0 := dv_nlt (x := x0.toInt) (y := 0) c_5 (wd x0) (by decide +kernel)
              have f1 := dv_nlt (x := 3) (y := x0.toInt) c_6 (by decide +kernel) (wd x0)
              have f4 := cv_le (x := x2.toInt) (y := 40) c_13 rfl (by decide +kernel)
              have f5 := cv_le (x := 0) (y := x2.toInt) c_14 (by decide +kernel) rfl
              have g_0 : (0 : Int32).toInt = 0 := (by decide +kernel)
              omega
            rcases hsp with hsp | hsp | hsp | hsp
            · skip
              obtain rfl : x0 = 0 := eq32 hsp (by decide +kernel)
              refine st_i (j := 0) (g := tI [0, (-1), (-1), (-1)] 0) hx hb hK hP hD hS 1 rfl (by decide +kernel) upd_tI dX11_sheet_50 (fun H locs hP hD hS => ?_)
              have hP : va_P D cl0 [(a0, .inr (8, [.int 2, .int 0, .int 1, .int 0, .int 0, .int 0, .ref a1, .ref a2, .int 0, .int 0, .ref a3, .ref a4, .ref a5, .ref a6, .ref a7, .ref a8, .ref a9, .int 0, .int 0, .int 0, .ref a10, .ref a11, .ref a12, .ref a13, .int 0, .int 0, .ref a14, .ref a15, .ref a16, .ref a17, .int 0, .int 0, .ref a18, .ref a19, .ref a20, .ref a21])), (a18, .inl (k 0, 4, .inl (tI [0, (-1), (-1), (-1)] 0))), (a19, .inl (k 0, 4, .inl (tI [] 0))), (a20, .inl (k 1, 160, .inr (.inl (tL [] 0))))] H := hP
              have hD : va_D A [(a0, .inr (8, [.int 2, .int 0, .int 1, .int 0, .int 0, .int 0, .ref a1, .ref a2, .int 0, .int 0, .ref a3, .ref a4, .ref a5, .ref a6, .ref a7, .ref a8, .ref a9, .int 0, .int 0, .int 0, .ref a10, .ref a11, .ref a12, .ref a13, .int 0, .int 0, .ref a14, .ref a15, .ref a16, .ref a17, .int 0, .int 0, .ref a18, .ref a19, .ref a20, .ref a21])), (a18, .inl (k 0, 4, .inl (tI [0, (-1), (-1), (-1)] 0))), (a19, .inl (k 0, 4, .inl (tI [] 0))), (a20, .inl (k 1, 160, .inr (.inl (tL [] 0))))] := hD
              refine lv_aload_n hx hb dX11_sheet_51 rfl (lv_at hl 0 rfl) ?_
              refine va_get (D := D) (ci := 8) (v := .ref a19) (C := RX11) (T := TX11) (N := 36) hx hb hU iX11 hown hK.1 hP 0 rfl rfl 33 (by decide) (hU _ w818) (fun _ h9 => h9) rfl dX11_sheet_52 ?_
              refine lv_iload_n hx hb dX11_sheet_55 rfl (lv_at hl 1 rfl) ?_
              refine lv_iload_n hx hb dX11_sheet_56 rfl (lv_at hl 2 rfl) ?_
              refine lv_if_ge (tgt := 64) hx hb dX11_sheet_57 (by decide) (fun _ => ?_) (fun cc => absurd (by decide +kernel) cc)
              refine lv_iload_n hx hb dX11_sheet_64 rfl (lv_at hl 3 rfl) ?_
              refine st_i (j := 0) (g := tI [x2] 0) hx hb hK hP hD hS 2 rfl (by decide +kernel) upd_tI dX11_sheet_65 (fun H locs hP hD hS => ?_)
              have hP : va_P D cl0 [(a0, .inr (8, [.int 2, .int 0, .int 1, .int 0, .int 0, .int 0, .ref a1, .ref a2, .int 0, .int 0, .ref a3, .ref a4, .ref a5, .ref a6, .ref a7, .ref a8, .ref a9, .int 0, .int 0, .int 0, .ref a10, .ref a11, .ref a12, .ref a13, .int 0, .int 0, .ref a14, .ref a15, .ref a16, .ref a17, .int 0, .int 0, .ref a18, .ref a19, .ref a20, .ref a21])), (a18, .inl (k 0, 4, .inl (tI [0, (-1), (-1), (-1)] 0))), (a19, .inl (k 0, 4, .inl (tI [x2] 0))), (a20, .inl (k 1, 160, .inr (.inl (tL [] 0))))] H := hP
              have hD : va_D A [(a0, .inr (8, [.int 2, .int 0, .int 1, .int 0, .int 0, .int 0, .ref a1, .ref a2, .int 0, .int 0, .ref a3, .ref a4, .ref a5, .ref a6, .ref a7, .ref a8, .ref a9, .int 0, .int 0, .int 0, .ref a10, .ref a11, .ref a12, .ref a13, .int 0, .int 0, .ref a14, .ref a15, .ref a16, .ref a17, .int 0, .int 0, .ref a18, .ref a19, .ref a20, .ref a21])), (a18, .inl (k 0, 4, .inl (tI [0, (-1), (-1), (-1)] 0))), (a19, .inl (k 0, 4, .inl (tI [x2] 0))), (a20, .inl (k 1, 160, .inr (.inl (tL [] 0))))] := hD
              refine lv_iconst (v := 0) hx hb dX11_sheet_66 (by decide) ?_
              refine lv_istore (lv' := [(4, .int 0), (0, .ref a0), (1, .int 0), (2, .int 0), (3, .int x2)]) hx hb dX11_sheet_67 hl (by decide) rfl (fun ls hl => ?_)
              exact sheetM_loop (q0 := 0) (q1 := 3) (sn := 0) hx hb hr hlocks hown hU hK (fun _ => (show (1 : Int32) = F_sheet 0 0 x2 by first | decide +kernel | (have f4 := cv_le (x := x2.toInt) (y := 40) c_13 rfl (by decide +kernel); have f5 := cv_le (x := 0) (y := x2.toInt) c_14 (by decide +kernel) rfl; have g_0 : (0 : Int32).toInt = 0 := (by decide +kernel); unfold F_sheet; (repeat (first | rw [if_pos (by omega)] | rw [if_neg (by omega)]))))) (by decide) (by decide) rfl 40 0 _ _ _ _ ls (by decide) rfl rfl hP hD hS (lv_sub hl [0, 1, 2, 3, 4] rfl)
            · skip
              obtain rfl : x0 = 1 := eq32 hsp (by decide +kernel)
              refine st_i (j := 1) (g := tI [(-1), 0, (-1), (-1)] 0) hx hb hK hP hD hS 1 rfl (by decide +kernel) upd_tI dX11_sheet_50 (fun H locs hP hD hS => ?_)
              have hP : va_P D cl0 [(a0, .inr (8, [.int 2, .int 0, .int 1, .int 0, .int 0, .int 0, .ref a1, .ref a2, .int 0, .int 0, .ref a3, .ref a4, .ref a5, .ref a6, .ref a7, .ref a8, .ref a9, .int 0, .int 0, .int 0, .ref a10, .ref a11, .ref a12, .ref a13, .int 0, .int 0, .ref a14, .ref a15, .ref a16, .ref a17, .int 0, .int 0, .ref a18, .ref a19, .ref a20, .ref a21])), (a18, .inl (k 0, 4, .inl (tI [(-1), 0, (-1), (-1)] 0))), (a19, .inl (k 0, 4, .inl (tI [] 0))), (a20, .inl (k 1, 160, .inr (.inl (tL [] 0))))] H := hP
              have hD : va_D A [(a0, .inr (8, [.int 2, .int 0, .int 1, .int 0, .int 0, .int 0, .ref a1, .ref a2, .int 0, .int 0, .ref a3, .ref a4, .ref a5, .ref a6, .ref a7, .ref a8, .ref a9, .int 0, .int 0, .int 0, .ref a10, .ref a11, .ref a12, .ref a13, .int 0, .int 0, .ref a14, .ref a15, .ref a16, .ref a17, .int 0, .int 0, .ref a18, .ref a19, .ref a20, .ref a21])), (a18, .inl (k 0, 4, .inl (tI [(-1), 0, (-1), (-1)] 0))), (a19, .inl (k 0, 4, .inl (tI [] 0))), (a20, .inl (k 1, 160, .inr (.inl (tL [] 0))))] := hD
              refine lv_aload_n hx hb dX11_sheet_51 rfl (lv_at hl 0 rfl) ?_
              refine va_get (D := D) (ci := 8) (v := .ref a19) (C := RX11) (T := TX11) (N := 36) hx hb hU iX11 hown hK.1 hP 0 rfl rfl 33 (by decide) (hU _ w818) (fun _ h9 => h9) rfl dX11_sheet_52 ?_
              refine lv_iload_n hx hb dX11_sheet_55 rfl (lv_at hl 1 rfl) ?_
              refine lv_iload_n hx hb dX11_sheet_56 rfl (lv_at hl 2 rfl) ?_
              refine lv_if_ge (tgt := 64) hx hb dX11_sheet_57 (by decide) (fun _ => ?_) (fun cc => absurd (by decide +kernel) cc)
              refine lv_iload_n hx hb dX11_sheet_64 rfl (lv_at hl 3 rfl) ?_
              refine st_i (j := 1) (g := tI [0, x2] 0) hx hb hK hP hD hS 2 rfl (by decide +kernel) upd_tI dX11_sheet_65 (fun H locs hP hD hS => ?_)
              have hP : va_P D cl0 [(a0, .inr (8, [.int 2, .int 0, .int 1, .int 0, .int 0, .int 0, .ref a1, .ref a2, .int 0, .int 0, .ref a3, .ref a4, .ref a5, .ref a6, .ref a7, .ref a8, .ref a9, .int 0, .int 0, .int 0, .ref a10, .ref a11, .ref a12, .ref a13, .int 0, .int 0, .ref a14, .ref a15, .ref a16, .ref a17, .int 0, .int 0, .ref a18, .ref a19, .ref a20, .ref a21])), (a18, .inl (k 0, 4, .inl (tI [(-1), 0, (-1), (-1)] 0))), (a19, .inl (k 0, 4, .inl (tI [0, x2] 0))), (a20, .inl (k 1, 160, .inr (.inl (tL [] 0))))] H := hP
              have hD : va_D A [(a0, .inr (8, [.int 2, .int 0, .int 1, .int 0, .int 0, .int 0, .ref a1, .ref a2, .int 0, .int 0, .ref a3, .ref a4, .ref a5, .ref a6, .ref a7, .ref a8, .ref a9, .int 0, .int 0, .int 0, .ref a10, .ref a11, .ref a12, .ref a13, .int 0, .int 0, .ref a14, .ref a15, .ref a16, .ref a17, .int 0, .int 0, .ref a18, .ref a19, .ref a20, .ref a21])), (a18, .inl (k 0, 4, .inl (tI [(-1), 0, (-1), (-1)] 0))), (a19, .inl (k 0, 4, .inl (tI [0, x2] 0))), (a20, .inl (k 1, 160, .inr (.inl (tL [] 0))))] := hD
              refine lv_iconst (v := 0) hx hb dX11_sheet_66 (by decide) ?_
              refine lv_istore (lv' := [(4, .int 0), (0, .ref a0), (1, .int 1), (2, .int 0), (3, .int x2)]) hx hb dX11_sheet_67 hl (by decide) rfl (fun ls hl => ?_)
              exact sheetM_loop (q0 := 0) (q1 := 3) (sn := 1) hx hb hr hlocks hown hU hK (fun _ => (show (1 : Int32) = F_sheet 1 0 x2 by first | decide +kernel | (have f4 := cv_le (x := x2.toInt) (y := 40) c_13 rfl (by decide +kernel); have f5 := cv_le (x := 0) (y := x2.toInt) c_14 (by decide +kernel) rfl; have g_0 : (0 : Int32).toInt = 0 := (by decide +kernel); have g_1 : (1 : Int32).toInt = 1 := (by decide +kernel); unfold F_sheet; (repeat (first | rw [if_pos (by omega)] | rw [if_neg (by omega)]))))) (by decide) (by decide) rfl 40 0 _ _ _ _ ls (by decide) rfl rfl hP hD hS (lv_sub hl [0, 1, 2, 3, 4] rfl)
            · skip
              obtain rfl : x0 = 2 := eq32 hsp (by decide +kernel)
              refine st_i (j := 2) (g := tI [(-1), (-1), 0, (-1)] 0) hx hb hK hP hD hS 1 rfl (by decide +kernel) upd_tI dX11_sheet_50 (fun H locs hP hD hS => ?_)
              have hP : va_P D cl0 [(a0, .inr (8, [.int 2, .int 0, .int 1, .int 0, .int 0, .int 0, .ref a1, .ref a2, .int 0, .int 0, .ref a3, .ref a4, .ref a5, .ref a6, .ref a7, .ref a8, .ref a9, .int 0, .int 0, .int 0, .ref a10, .ref a11, .ref a12, .ref a13, .int 0, .int 0, .ref a14, .ref a15, .ref a16, .ref a17, .int 0, .int 0, .ref a18, .ref a19, .ref a20, .ref a21])), (a18, .inl (k 0, 4, .inl (tI [(-1), (-1), 0, (-1)] 0))), (a19, .inl (k 0, 4, .inl (tI [] 0))), (a20, .inl (k 1, 160, .inr (.inl (tL [] 0))))] H := hP
              have hD : va_D A [(a0, .inr (8, [.int 2, .int 0, .int 1, .int 0, .int 0, .int 0, .ref a1, .ref a2, .int 0, .int 0, .ref a3, .ref a4, .ref a5, .ref a6, .ref a7, .ref a8, .ref a9, .int 0, .int 0, .int 0, .ref a10, .ref a11, .ref a12, .ref a13, .int 0, .int 0, .ref a14, .ref a15, .ref a16, .ref a17, .int 0, .int 0, .ref a18, .ref a19, .ref a20, .ref a21])), (a18, .inl (k 0, 4, .inl (tI [(-1), (-1), 0, (-1)] 0))), (a19, .inl (k 0, 4, .inl (tI [] 0))), (a20, .inl (k 1, 160, .inr (.inl (tL [] 0))))] := hD
              refine lv_aload_n hx hb dX11_sheet_51 rfl (lv_at hl 0 rfl) ?_
              refine va_get (D := D) (ci := 8) (v := .ref a19) (C := RX11) (T := TX11) (N := 36) hx hb hU iX11 hown hK.1 hP 0 rfl rfl 33 (by decide) (hU _ w818) (fun _ h9 => h9) rfl dX11_sheet_52 ?_
              refine lv_iload_n hx hb dX11_sheet_55 rfl (lv_at hl 1 rfl) ?_
              refine lv_iload_n hx hb dX11_sheet_56 rfl (lv_at hl 2 rfl) ?_
              refine lv_if_ge (tgt := 64) hx hb dX11_sheet_57 (by decide) (fun _ => ?_) (fun cc => absurd (by decide +kernel) cc)
              refine lv_iload_n hx hb dX11_sheet_64 rfl (lv_at hl 3 rfl) ?_
              refine st_i (j := 2) (g := tI [0, 0, x2] 0) hx hb hK hP hD hS 2 rfl (by decide +kernel) upd_tI dX11_sheet_65 (fun H locs hP hD hS => ?_)
              have hP : va_P D cl0 [(a0, .inr (8, [.int 2, .int 0, .int 1, .int 0, .int 0, .int 0, .ref a1, .ref a2, .int 0, .int 0, .ref a3, .ref a4, .ref a5, .ref a6, .ref a7, .ref a8, .ref a9, .int 0, .int 0, .int 0, .ref a10, .ref a11, .ref a12, .ref a13, .int 0, .int 0, .ref a14, .ref a15, .ref a16, .ref a17, .int 0, .int 0, .ref a18, .ref a19, .ref a20, .ref a21])), (a18, .inl (k 0, 4, .inl (tI [(-1), (-1), 0, (-1)] 0))), (a19, .inl (k 0, 4, .inl (tI [0, 0, x2] 0))), (a20, .inl (k 1, 160, .inr (.inl (tL [] 0))))] H := hP
              have hD : va_D A [(a0, .inr (8, [.int 2, .int 0, .int 1, .int 0, .int 0, .int 0, .ref a1, .ref a2, .int 0, .int 0, .ref a3, .ref a4, .ref a5, .ref a6, .ref a7, .ref a8, .ref a9, .int 0, .int 0, .int 0, .ref a10, .ref a11, .ref a12, .ref a13, .int 0, .int 0, .ref a14, .ref a15, .ref a16, .ref a17, .int 0, .int 0, .ref a18, .ref a19, .ref a20, .ref a21])), (a18, .inl (k 0, 4, .inl (tI [(-1), (-1), 0, (-1)] 0))), (a19, .inl (k 0, 4, .inl (tI [0, 0, x2] 0))), (a20, .inl (k 1, 160, .inr (.inl (tL [] 0))))] := hD
              refine lv_iconst (v := 0) hx hb dX11_sheet_66 (by decide) ?_
              refine lv_istore (lv' := [(4, .int 0), (0, .ref a0), (1, .int 2), (2, .int 0), (3, .int x2)]) hx hb dX11_sheet_67 hl (by decide) rfl (fun ls hl => ?_)
              exact sheetM_loop (q0 := 0) (q1 := 3) (sn := 2) hx hb hr hlocks hown hU hK (fun _ => (show (1 : Int32) = F_sheet 2 0 x2 by first | decide +kernel | (have f4 := cv_le (x := x2.toInt) (y := 40) c_13 rfl (by decide +kernel); have f5 := cv_le (x := 0) (y := x2.toInt) c_14 (by decide +kernel) rfl; have g_0 : (0 : Int32).toInt = 0 := (by decide +kernel); have g_2 : (2 : Int32).toInt = 2 := (by decide +kernel); unfold F_sheet; (repeat (first | rw [if_pos (by omega)] | rw [if_neg (by omega)]))))) (by decide) (by decide) rfl 40 0 _ _ _ _ ls (by decide) rfl rfl hP hD hS (lv_sub hl [0, 1, 2, 3, 4] rfl)
            · skip
              obtain rfl : x0 = 3 := eq32 hsp (by decide +kernel)
              refine st_i (j := 3) (g := tI [(-1), (-1), (-1), 0] 0) hx hb hK hP hD hS 1 rfl (by decide +kernel) upd_tI dX11_sheet_50 (fun H locs hP hD hS => ?_)
              have hP : va_P D cl0 [(a0, .inr (8, [.int 2, .int 0, .int 1, .int 0, .int 0, .int 0, .ref a1, .ref a2, .int 0, .int 0, .ref a3, .ref a4, .ref a5, .ref a6, .ref a7, .ref a8, .ref a9, .int 0, .int 0, .int 0, .ref a10, .ref a11, .ref a12, .ref a13, .int 0, .int 0, .ref a14, .ref a15, .ref a16, .ref a17, .int 0, .int 0, .ref a18, .ref a19, .ref a20, .ref a21])), (a18, .inl (k 0, 4, .inl (tI [(-1), (-1), (-1), 0] 0))), (a19, .inl (k 0, 4, .inl (tI [] 0))), (a20, .inl (k 1, 160, .inr (.inl (tL [] 0))))] H := hP
              have hD : va_D A [(a0, .inr (8, [.int 2, .int 0, .int 1, .int 0, .int 0, .int 0, .ref a1, .ref a2, .int 0, .int 0, .ref a3, .ref a4, .ref a5, .ref a6, .ref a7, .ref a8, .ref a9, .int 0, .int 0, .int 0, .ref a10, .ref a11, .ref a12, .ref a13, .int 0, .int 0, .ref a14, .ref a15, .ref a16, .ref a17, .int 0, .int 0, .ref a18, .ref a19, .ref a20, .ref a21])), (a18, .inl (k 0, 4, .inl (tI [(-1), (-1), (-1), 0] 0))), (a19, .inl (k 0, 4, .inl (tI [] 0))), (a20, .inl (k 1, 160, .inr (.inl (tL [] 0))))] := hD
              refine lv_aload_n hx hb dX11_sheet_51 rfl (lv_at hl 0 rfl) ?_
              refine va_get (D := D) (ci := 8) (v := .ref a19) (C := RX11) (T := TX11) (N := 36) hx hb hU iX11 hown hK.1 hP 0 rfl rfl 33 (by decide) (hU _ w818) (fun _ h9 => h9) rfl dX11_sheet_52 ?_
              refine lv_iload_n hx hb dX11_sheet_55 rfl (lv_at hl 1 rfl) ?_
              refine lv_iload_n hx hb dX11_sheet_56 rfl (lv_at hl 2 rfl) ?_
              refine lv_if_ge (tgt := 64) hx hb dX11_sheet_57 (by decide) (fun _ => ?_) (fun cc => absurd (by decide +kernel) cc)
              refine lv_iload_n hx hb dX11_sheet_64 rfl (lv_at hl 3 rfl) ?_
              refine st_i (j := 3) (g := tI [0, 0, 0, x2] 0) hx hb hK hP hD hS 2 rfl (by decide +kernel) upd_tI dX11_sheet_65 (fun H locs hP hD hS => ?_)
              have hP : va_P D cl0 [(a0, .inr (8, [.int 2, .int 0, .int 1, .int 0, .int 0, .int 0, .ref a1, .ref a2, .int 0, .int 0, .ref a3, .ref a4, .ref a5, .ref a6, .ref a7, .ref a8, .ref a9, .int 0, .int 0, .int 0, .ref a10, .ref a11, .ref a12, .ref a13, .int 0, .int 0, .ref a14, .ref a15, .ref a16, .ref a17, .int 0, .int 0, .ref a18, .ref a19, .ref a20, .ref a21])), (a18, .inl (k 0, 4, .inl (tI [(-1), (-1), (-1), 0] 0))), (a19, .inl (k 0, 4, .inl (tI [0, 0, 0, x2] 0))), (a20, .inl (k 1, 160, .inr (.inl (tL [] 0))))] H := hP
              have hD : va_D A [(a0, .inr (8, [.int 2, .int 0, .int 1, .int 0, .int 0, .int 0, .ref a1, .ref a2, .int 0, .int 0, .ref a3, .ref a4, .ref a5, .ref a6, .ref a7, .ref a8, .ref a9, .int 0, .int 0, .int 0, .ref a10, .ref a11, .ref a12, .ref a13, .int 0, .int 0, .ref a14, .ref a15, .ref a16, .ref a17, .int 0, .int 0, .ref a18, .ref a19, .ref a20, .ref a21])), (a18, .inl (k 0, 4, .inl (tI [(-1), (-1), (-1), 0] 0))), (a19, .inl (k 0, 4, .inl (tI [0, 0, 0, x2] 0))), (a20, .inl (k 1, 160, .inr (.inl (tL [] 0))))] := hD
              refine lv_iconst (v := 0) hx hb dX11_sheet_66 (by decide) ?_
              refine lv_istore (lv' := [(4, .int 0), (0, .ref a0), (1, .int 3), (2, .int 0), (3, .int x2)]) hx hb dX11_sheet_67 hl (by decide) rfl (fun ls hl => ?_)
              exact sheetM_loop (q0 := 0) (q1 := 3) (sn := 3) hx hb hr hlocks hown hU hK (fun _ => (show (1 : Int32) = F_sheet 3 0 x2 by first | decide +kernel | (have f4 := cv_le (x := x2.toInt) (y := 40) c_13 rfl (by decide +kernel); have f5 := cv_le (x := 0) (y := x2.toInt) c_14 (by decide +kernel) rfl; have g_0 : (0 : Int32).toInt = 0 := (by decide +kernel); have g_3 : (3 : Int32).toInt = 3 := (by decide +kernel); unfold F_sheet; (repeat (first | rw [if_pos (by omega)] | rw [if_neg (by omega)]))))) (by decide) (by decide) rfl 40 0 _ _ _ _ ls (by decide) rfl rfl hP hD hS (lv_sub hl [0, 1, 2, 3, 4] rfl)
          · skip
            refine lv_bipush (v := (-14)) hx hb dX11_sheet_41 (by decide) ?_
            exact retI (v := (-14)) hx hb hr hlocks hS (show ((-14) : Int32) = F_sheet x0 0 x2 by first | decide +kernel | (have f0 := dv_nlt (x := x0.toInt) (y := 0) c_5 (wd x0) (by decide +kernel); have f1 := dv_nlt (x := 3) (y := x0.toInt) c_6 (by decide +kernel) (wd x0); have f4 := cv_le (x := x2.toInt) (y := 40) c_13 rfl (by decide +kernel); have f5 := cv_nle (x := 0) (y := x2.toInt) c_14 (by decide +kernel) rfl; have g_0 : (0 : Int32).toInt = 0 := (by decide +kernel); unfold F_sheet; (repeat (first | rw [if_pos (by omega)] | rw [if_neg (by omega)])))) dX11_sheet_43
        · skip
          refine lv_iconst (v := (-1)) hx hb dX11_sheet_31 (by decide) ?_
          exact retI (v := (-1)) hx hb hr hlocks hS (show ((-1) : Int32) = F_sheet x0 0 x2 by first | decide +kernel | (have f0 := dv_nlt (x := x0.toInt) (y := 0) c_5 (wd x0) (by decide +kernel); have f1 := dv_nlt (x := 3) (y := x0.toInt) c_6 (by decide +kernel) (wd x0); have f4 := cv_nle (x := x2.toInt) (y := 40) c_13 rfl (by decide +kernel); have g_0 : (0 : Int32).toInt = 0 := (by decide +kernel); unfold F_sheet; (repeat (first | rw [if_pos (by omega)] | rw [if_neg (by omega)])))) dX11_sheet_32
      · skip
        obtain rfl : x1 = 1 := eq32 hsp (by decide +kernel)
        refine lv_if_lt (tgt := 33) hx hb dX11_sheet_22 (by decide) (fun cc => absurd cc (by decide +kernel)) (fun _ => ?_)
        refine lv_iload_n hx hb dX11_sheet_25 rfl (lv_at hl 3 rfl) ?_
        refine lv_bipush (v := 40) hx hb dX11_sheet_26 (by decide) ?_
        refine lv_icmp_le (tgt := 33) hx hb dX11_sheet_28 (by decide) (fun c_15 => ?_) (fun c_15 => ?_)
        · skip
          refine lv_iload_n hx hb dX11_sheet_33 rfl (lv_at hl 2 rfl) ?_
          refine lv_if_lt (tgt := 44) hx hb dX11_sheet_34 (by decide) (fun cc => absurd cc (by decide +kernel)) (fun _ => ?_)
          refine lv_iload_n hx hb dX11_sheet_37 rfl (lv_at hl 3 rfl) ?_
          refine lv_if_ge (tgt := 44) hx hb dX11_sheet_38 (by decide) (fun c_16 => ?_) (fun c_16 => ?_)
          · skip
            refine lv_aload_n hx hb dX11_sheet_44 rfl (lv_at hl 0 rfl) ?_
            refine va_get (D := D) (ci := 8) (v := .ref a18) (C := RX11) (T := TX11) (N := 36) hx hb hU iX11 hown hK.1 hP 0 rfl rfl 32 (by decide) (hU _ w817) (fun _ h9 => h9) rfl dX11_sheet_45 ?_
            refine lv_iload_n hx hb dX11_sheet_48 rfl (lv_at hl 1 rfl) ?_
            refine lv_iload_n hx hb dX11_sheet_49 rfl (lv_at hl 2 rfl) ?_
            have hsp : x0.toInt = 0 ∨ x0.toInt = 1 ∨ x0.toInt = 2 ∨ x0.toInt = 3 := by
              have f0 := dv_nlt (x := x0.toInt) (y := 0) c_5 (wd x0) (by decide +kernel)
              have f1 := dv_nlt (x := 3) (y := x0.toInt) c_6 (by decide +kernel) (wd x0)
              have f4 := cv_le (x := x2.toInt) (y := 40) c_15 rfl (by decide +kernel)
              have f5 := cv_le (x := 0) (y := x2.toInt) c_16 (by decide +kernel) rfl
              have g_1 : (1 : Int32).toInt = 1 := (by decide +kernel)
              omega
            rcases hsp with hsp | hsp | hsp | hsp
            · skip
              obtain rfl : x0 = 0 := eq32 hsp (by decide +kernel)
              refine st_i (j := 0) (g := tI [1, (-1), (-1), (-1)] 0) hx hb hK hP hD hS 1 rfl (by decide +kernel) upd_tI dX11_sheet_50 (fun H locs hP hD hS => ?_)
              have hP : va_P D cl0 [(a0, .inr (8, [.int 2, .int 0, .int 1, .int 0, .int 0, .int 0, .ref a1, .ref a2, .int 0, .int 0, .ref a3, .ref a4, .ref a5, .ref a6, .ref a7, .ref a8, .ref a9, .int 0, .int 0, .int 0, .ref a10, .ref a11, .ref a12, .ref a13, .int 0, .int 0, .ref a14, .ref a15, .ref a16, .ref a17, .int 0, .int 0, .ref a18, .ref a19, .ref a20, .ref a21])), (a18, .inl (k 0, 4, .inl (tI [1, (-1), (-1), (-1)] 0))), (a19, .inl (k 0, 4, .inl (tI [] 0))), (a20, .inl (k 1, 160, .inr (.inl (tL [] 0))))] H := hP
              have hD : va_D A [(a0, .inr (8, [.int 2, .int 0, .int 1, .int 0, .int 0, .int 0, .ref a1, .ref a2, .int 0, .int 0, .ref a3, .ref a4, .ref a5, .ref a6, .ref a7, .ref a8, .ref a9, .int 0, .int 0, .int 0, .ref a10, .ref a11, .ref a12, .ref a13, .int 0, .int 0, .ref a14, .ref a15, .ref a16, .ref a17, .int 0, .int 0, .ref a18, .ref a19, .ref a20, .ref a21])), (a18, .inl (k 0, 4, .inl (tI [1, (-1), (-1), (-1)] 0))), (a19, .inl (k 0, 4, .inl (tI [] 0))), (a20, .inl (k 1, 160, .inr (.inl (tL [] 0))))] := hD
              refine lv_aload_n hx hb dX11_sheet_51 rfl (lv_at hl 0 rfl) ?_
              refine va_get (D := D) (ci := 8) (v := .ref a19) (C := RX11) (T := TX11) (N := 36) hx hb hU iX11 hown hK.1 hP 0 rfl rfl 33 (by decide) (hU _ w818) (fun _ h9 => h9) rfl dX11_sheet_52 ?_
              refine lv_iload_n hx hb dX11_sheet_55 rfl (lv_at hl 1 rfl) ?_
              refine lv_iload_n hx hb dX11_sheet_56 rfl (lv_at hl 2 rfl) ?_
              refine lv_if_ge (tgt := 64) hx hb dX11_sheet_57 (by decide) (fun _ => ?_) (fun cc => absurd (by decide +kernel) cc)
              refine lv_iload_n hx hb dX11_sheet_64 rfl (lv_at hl 3 rfl) ?_
              refine st_i (j := 0) (g := tI [x2] 0) hx hb hK hP hD hS 2 rfl (by decide +kernel) upd_tI dX11_sheet_65 (fun H locs hP hD hS => ?_)
              have hP : va_P D cl0 [(a0, .inr (8, [.int 2, .int 0, .int 1, .int 0, .int 0, .int 0, .ref a1, .ref a2, .int 0, .int 0, .ref a3, .ref a4, .ref a5, .ref a6, .ref a7, .ref a8, .ref a9, .int 0, .int 0, .int 0, .ref a10, .ref a11, .ref a12, .ref a13, .int 0, .int 0, .ref a14, .ref a15, .ref a16, .ref a17, .int 0, .int 0, .ref a18, .ref a19, .ref a20, .ref a21])), (a18, .inl (k 0, 4, .inl (tI [1, (-1), (-1), (-1)] 0))), (a19, .inl (k 0, 4, .inl (tI [x2] 0))), (a20, .inl (k 1, 160, .inr (.inl (tL [] 0))))] H := hP
              have hD : va_D A [(a0, .inr (8, [.int 2, .int 0, .int 1, .int 0, .int 0, .int 0, .ref a1, .ref a2, .int 0, .int 0, .ref a3, .ref a4, .ref a5, .ref a6, .ref a7, .ref a8, .ref a9, .int 0, .int 0, .int 0, .ref a10, .ref a11, .ref a12, .ref a13, .int 0, .int 0, .ref a14, .ref a15, .ref a16, .ref a17, .int 0, .int 0, .ref a18, .ref a19, .ref a20, .ref a21])), (a18, .inl (k 0, 4, .inl (tI [1, (-1), (-1), (-1)] 0))), (a19, .inl (k 0, 4, .inl (tI [x2] 0))), (a20, .inl (k 1, 160, .inr (.inl (tL [] 0))))] := hD
              refine lv_iconst (v := 0) hx hb dX11_sheet_66 (by decide) ?_
              refine lv_istore (lv' := [(4, .int 0), (0, .ref a0), (1, .int 0), (2, .int 1), (3, .int x2)]) hx hb dX11_sheet_67 hl (by decide) rfl (fun ls hl => ?_)
              exact sheetM_loop (q0 := 0) (q1 := 3) (sn := 0) hx hb hr hlocks hown hU hK (fun _ => (show (1 : Int32) = F_sheet 0 1 x2 by first | decide +kernel | (have f4 := cv_le (x := x2.toInt) (y := 40) c_15 rfl (by decide +kernel); have f5 := cv_le (x := 0) (y := x2.toInt) c_16 (by decide +kernel) rfl; have g_0 : (0 : Int32).toInt = 0 := (by decide +kernel); have g_1 : (1 : Int32).toInt = 1 := (by decide +kernel); unfold F_sheet; (repeat (first | rw [if_pos (by omega)] | rw [if_neg (by omega)]))))) (by decide) (by decide) rfl 40 0 _ _ _ _ ls (by decide) rfl rfl hP hD hS (lv_sub hl [0, 1, 2, 3, 4] rfl)
            · skip
              obtain rfl : x0 = 1 := eq32 hsp (by decide +kernel)
              refine st_i (j := 1) (g := tI [(-1), 1, (-1), (-1)] 0) hx hb hK hP hD hS 1 rfl (by decide +kernel) upd_tI dX11_sheet_50 (fun H locs hP hD hS => ?_)
              have hP : va_P D cl0 [(a0, .inr (8, [.int 2, .int 0, .int 1, .int 0, .int 0, .int 0, .ref a1, .ref a2, .int 0, .int 0, .ref a3, .ref a4, .ref a5, .ref a6, .ref a7, .ref a8, .ref a9, .int 0, .int 0, .int 0, .ref a10, .ref a11, .ref a12, .ref a13, .int 0, .int 0, .ref a14, .ref a15, .ref a16, .ref a17, .int 0, .int 0, .ref a18, .ref a19, .ref a20, .ref a21])), (a18, .inl (k 0, 4, .inl (tI [(-1), 1, (-1), (-1)] 0))), (a19, .inl (k 0, 4, .inl (tI [] 0))), (a20, .inl (k 1, 160, .inr (.inl (tL [] 0))))] H := hP
              have hD : va_D A [(a0, .inr (8, [.int 2, .int 0, .int 1, .int 0, .int 0, .int 0, .ref a1, .ref a2, .int 0, .int 0, .ref a3, .ref a4, .ref a5, .ref a6, .ref a7, .ref a8, .ref a9, .int 0, .int 0, .int 0, .ref a10, .ref a11, .ref a12, .ref a13, .int 0, .int 0, .ref a14, .ref a15, .ref a16, .ref a17, .int 0, .int 0, .ref a18, .ref a19, .ref a20, .ref a21])), (a18, .inl (k 0, 4, .inl (tI [(-1), 1, (-1), (-1)] 0))), (a19, .inl (k 0, 4, .inl (tI [] 0))), (a20, .inl (k 1, 160, .inr (.inl (tL [] 0))))] := hD
              refine lv_aload_n hx hb dX11_sheet_51 rfl (lv_at hl 0 rfl) ?_
              refine va_get (D := D) (ci := 8) (v := .ref a19) (C := RX11) (T := TX11) (N := 36) hx hb hU iX11 hown hK.1 hP 0 rfl rfl 33 (by decide) (hU _ w818) (fun _ h9 => h9) rfl dX11_sheet_52 ?_
              refine lv_iload_n hx hb dX11_sheet_55 rfl (lv_at hl 1 rfl) ?_
              refine lv_iload_n hx hb dX11_sheet_56 rfl (lv_at hl 2 rfl) ?_
              refine lv_if_ge (tgt := 64) hx hb dX11_sheet_57 (by decide) (fun _ => ?_) (fun cc => absurd (by decide +kernel) cc)
              refine lv_iload_n hx hb dX11_sheet_64 rfl (lv_at hl 3 rfl) ?_
              refine st_i (j := 1) (g := tI [0, x2] 0) hx hb hK hP hD hS 2 rfl (by decide +kernel) upd_tI dX11_sheet_65 (fun H locs hP hD hS => ?_)
              have hP : va_P D cl0 [(a0, .inr (8, [.int 2, .int 0, .int 1, .int 0, .int 0, .int 0, .ref a1, .ref a2, .int 0, .int 0, .ref a3, .ref a4, .ref a5, .ref a6, .ref a7, .ref a8, .ref a9, .int 0, .int 0, .int 0, .ref a10, .ref a11, .ref a12, .ref a13, .int 0, .int 0, .ref a14, .ref a15, .ref a16, .ref a17, .int 0, .int 0, .ref a18, .ref a19, .ref a20, .ref a21])), (a18, .inl (k 0, 4, .inl (tI [(-1), 1, (-1), (-1)] 0))), (a19, .inl (k 0, 4, .inl (tI [0, x2] 0))), (a20, .inl (k 1, 160, .inr (.inl (tL [] 0))))] H := hP
              have hD : va_D A [(a0, .inr (8, [.int 2, .int 0, .int 1, .int 0, .int 0, .int 0, .ref a1, .ref a2, .int 0, .int 0, .ref a3, .ref a4, .ref a5, .ref a6, .ref a7, .ref a8, .ref a9, .int 0, .int 0, .int 0, .ref a10, .ref a11, .ref a12, .ref a13, .int 0, .int 0, .ref a14, .ref a15, .ref a16, .ref a17, .int 0, .int 0, .ref a18, .ref a19, .ref a20, .ref a21])), (a18, .inl (k 0, 4, .inl (tI [(-1), 1, (-1), (-1)] 0))), (a19, .inl (k 0, 4, .inl (tI [0, x2] 0))), (a20, .inl (k 1, 160, .inr (.inl (tL [] 0))))] := hD
              refine lv_iconst (v := 0) hx hb dX11_sheet_66 (by decide) ?_
              refine lv_istore (lv' := [(4, .int 0), (0, .ref a0), (1, .int 1), (2, .int 1), (3, .int x2)]) hx hb dX11_sheet_67 hl (by decide) rfl (fun ls hl => ?_)
              exact sheetM_loop (q0 := 0) (q1 := 3) (sn := 1) hx hb hr hlocks hown hU hK (fun _ => (show (1 : Int32) = F_sheet 1 1 x2 by first | decide +kernel | (have f4 := cv_le (x := x2.toInt) (y := 40) c_15 rfl (by decide +kernel); have f5 := cv_le (x := 0) (y := x2.toInt) c_16 (by decide +kernel) rfl; have g_1 : (1 : Int32).toInt = 1 := (by decide +kernel); unfold F_sheet; (repeat (first | rw [if_pos (by omega)] | rw [if_neg (by omega)]))))) (by decide) (by decide) rfl 40 0 _ _ _ _ ls (by decide) rfl rfl hP hD hS (lv_sub hl [0, 1, 2, 3, 4] rfl)
            · skip
              obtain rfl : x0 = 2 := eq32 hsp (by decide +kernel)
              refine st_i (j := 2) (g := tI [(-1), (-1), 1, (-1)] 0) hx hb hK hP hD hS 1 rfl (by decide +kernel) upd_tI dX11_sheet_50 (fun H locs hP hD hS => ?_)
              have hP : va_P D cl0 [(a0, .inr (8, [.int 2, .int 0, .int 1, .int 0, .int 0, .int 0, .ref a1, .ref a2, .int 0, .int 0, .ref a3, .ref a4, .ref a5, .ref a6, .ref a7, .ref a8, .ref a9, .int 0, .int 0, .int 0, .ref a10, .ref a11, .ref a12, .ref a13, .int 0, .int 0, .ref a14, .ref a15, .ref a16, .ref a17, .int 0, .int 0, .ref a18, .ref a19, .ref a20, .ref a21])), (a18, .inl (k 0, 4, .inl (tI [(-1), (-1), 1, (-1)] 0))), (a19, .inl (k 0, 4, .inl (tI [] 0))), (a20, .inl (k 1, 160, .inr (.inl (tL [] 0))))] H := hP
              have hD : va_D A [(a0, .inr (8, [.int 2, .int 0, .int 1, .int 0, .int 0, .int 0, .ref a1, .ref a2, .int 0, .int 0, .ref a3, .ref a4, .ref a5, .ref a6, .ref a7, .ref a8, .ref a9, .int 0, .int 0, .int 0, .ref a10, .ref a11, .ref a12, .ref a13, .int 0, .int 0, .ref a14, .ref a15, .ref a16, .ref a17, .int 0, .int 0, .ref a18, .ref a19, .ref a20, .ref a21])), (a18, .inl (k 0, 4, .inl (tI [(-1), (-1), 1, (-1)] 0))), (a19, .inl (k 0, 4, .inl (tI [] 0))), (a20, .inl (k 1, 160, .inr (.inl (tL [] 0))))] := hD
              refine lv_aload_n hx hb dX11_sheet_51 rfl (lv_at hl 0 rfl) ?_
              refine va_get (D := D) (ci := 8) (v := .ref a19) (C := RX11) (T := TX11) (N := 36) hx hb hU iX11 hown hK.1 hP 0 rfl rfl 33 (by decide) (hU _ w818) (fun _ h9 => h9) rfl dX11_sheet_52 ?_
              refine lv_iload_n hx hb dX11_sheet_55 rfl (lv_at hl 1 rfl) ?_
              refine lv_iload_n hx hb dX11_sheet_56 rfl (lv_at hl 2 rfl) ?_
              refine lv_if_ge (tgt := 64) hx hb dX11_sheet_57 (by decide) (fun _ => ?_) (fun cc => absurd (by decide +kernel) cc)
              refine lv_iload_n hx hb dX11_sheet_64 rfl (lv_at hl 3 rfl) ?_
              refine st_i (j := 2) (g := tI [0, 0, x2] 0) hx hb hK hP hD hS 2 rfl (by decide +kernel) upd_tI dX11_sheet_65 (fun H locs hP hD hS => ?_)
              have hP : va_P D cl0 [(a0, .inr (8, [.int 2, .int 0, .int 1, .int 0, .int 0, .int 0, .ref a1, .ref a2, .int 0, .int 0, .ref a3, .ref a4, .ref a5, .ref a6, .ref a7, .ref a8, .ref a9, .int 0, .int 0, .int 0, .ref a10, .ref a11, .ref a12, .ref a13, .int 0, .int 0, .ref a14, .ref a15, .ref a16, .ref a17, .int 0, .int 0, .ref a18, .ref a19, .ref a20, .ref a21])), (a18, .inl (k 0, 4, .inl (tI [(-1), (-1), 1, (-1)] 0))), (a19, .inl (k 0, 4, .inl (tI [0, 0, x2] 0))), (a20, .inl (k 1, 160, .inr (.inl (tL [] 0))))] H := hP
              have hD : va_D A [(a0, .inr (8, [.int 2, .int 0, .int 1, .int 0, .int 0, .int 0, .ref a1, .ref a2, .int 0, .int 0, .ref a3, .ref a4, .ref a5, .ref a6, .ref a7, .ref a8, .ref a9, .int 0, .int 0, .int 0, .ref a10, .ref a11, .ref a12, .ref a13, .int 0, .int 0, .ref a14, .ref a15, .ref a16, .ref a17, .int 0, .int 0, .ref a18, .ref a19, .ref a20, .ref a21])), (a18, .inl (k 0, 4, .inl (tI [(-1), (-1), 1, (-1)] 0))), (a19, .inl (k 0, 4, .inl (tI [0, 0, x2] 0))), (a20, .inl (k 1, 160, .inr (.inl (tL [] 0))))] := hD
              refine lv_iconst (v := 0) hx hb dX11_sheet_66 (by decide) ?_
              refine lv_istore (lv' := [(4, .int 0), (0, .ref a0), (1, .int 2), (2, .int 1), (3, .int x2)]) hx hb dX11_sheet_67 hl (by decide) rfl (fun ls hl => ?_)
              exact sheetM_loop (q0 := 0) (q1 := 3) (sn := 2) hx hb hr hlocks hown hU hK (fun _ => (show (1 : Int32) = F_sheet 2 1 x2 by first | decide +kernel | (have f4 := cv_le (x := x2.toInt) (y := 40) c_15 rfl (by decide +kernel); have f5 := cv_le (x := 0) (y := x2.toInt) c_16 (by decide +kernel) rfl; have g_1 : (1 : Int32).toInt = 1 := (by decide +kernel); have g_2 : (2 : Int32).toInt = 2 := (by decide +kernel); unfold F_sheet; (repeat (first | rw [if_pos (by omega)] | rw [if_neg (by omega)]))))) (by decide) (by decide) rfl 40 0 _ _ _ _ ls (by decide) rfl rfl hP hD hS (lv_sub hl [0, 1, 2, 3, 4] rfl)
            · skip
              obtain rfl : x0 = 3 := eq32 hsp (by decide +kernel)
              refine st_i (j := 3) (g := tI [(-1), (-1), (-1), 1] 0) hx hb hK hP hD hS 1 rfl (by decide +kernel) upd_tI dX11_sheet_50 (fun H locs hP hD hS => ?_)
              have hP : va_P D cl0 [(a0, .inr (8, [.int 2, .int 0, .int 1, .int 0, .int 0, .int 0, .ref a1, .ref a2, .int 0, .int 0, .ref a3, .ref a4, .ref a5, .ref a6, .ref a7, .ref a8, .ref a9, .int 0, .int 0, .int 0, .ref a10, .ref a11, .ref a12, .ref a13, .int 0, .int 0, .ref a14, .ref a15, .ref a16, .ref a17, .int 0, .int 0, .ref a18, .ref a19, .ref a20, .ref a21])), (a18, .inl (k 0, 4, .inl (tI [(-1), (-1), (-1), 1] 0))), (a19, .inl (k 0, 4, .inl (tI [] 0))), (a20, .inl (k 1, 160, .inr (.inl (tL [] 0))))] H := hP
              have hD : va_D A [(a0, .inr (8, [.int 2, .int 0, .int 1, .int 0, .int 0, .int 0, .ref a1, .ref a2, .int 0, .int 0, .ref a3, .ref a4, .ref a5, .ref a6, .ref a7, .ref a8, .ref a9, .int 0, .int 0, .int 0, .ref a10, .ref a11, .ref a12, .ref a13, .int 0, .int 0, .ref a14, .ref a15, .ref a16, .ref a17, .int 0, .int 0, .ref a18, .ref a19, .ref a20, .ref a21])), (a18, .inl (k 0, 4, .inl (tI [(-1), (-1), (-1), 1] 0))), (a19, .inl (k 0, 4, .inl (tI [] 0))), (a20, .inl (k 1, 160, .inr (.inl (tL [] 0))))] := hD
              refine lv_aload_n hx hb dX11_sheet_51 rfl (lv_at hl 0 rfl) ?_
              refine va_get (D := D) (ci := 8) (v := .ref a19) (C := RX11) (T := TX11) (N := 36) hx hb hU iX11 hown hK.1 hP 0 rfl rfl 33 (by decide) (hU _ w818) (fun _ h9 => h9) rfl dX11_sheet_52 ?_
              refine lv_iload_n hx hb dX11_sheet_55 rfl (lv_at hl 1 rfl) ?_
              refine lv_iload_n hx hb dX11_sheet_56 rfl (lv_at hl 2 rfl) ?_
              refine lv_if_ge (tgt := 64) hx hb dX11_sheet_57 (by decide) (fun _ => ?_) (fun cc => absurd (by decide +kernel) cc)
              refine lv_iload_n hx hb dX11_sheet_64 rfl (lv_at hl 3 rfl) ?_
              refine st_i (j := 3) (g := tI [0, 0, 0, x2] 0) hx hb hK hP hD hS 2 rfl (by decide +kernel) upd_tI dX11_sheet_65 (fun H locs hP hD hS => ?_)
              have hP : va_P D cl0 [(a0, .inr (8, [.int 2, .int 0, .int 1, .int 0, .int 0, .int 0, .ref a1, .ref a2, .int 0, .int 0, .ref a3, .ref a4, .ref a5, .ref a6, .ref a7, .ref a8, .ref a9, .int 0, .int 0, .int 0, .ref a10, .ref a11, .ref a12, .ref a13, .int 0, .int 0, .ref a14, .ref a15, .ref a16, .ref a17, .int 0, .int 0, .ref a18, .ref a19, .ref a20, .ref a21])), (a18, .inl (k 0, 4, .inl (tI [(-1), (-1), (-1), 1] 0))), (a19, .inl (k 0, 4, .inl (tI [0, 0, 0, x2] 0))), (a20, .inl (k 1, 160, .inr (.inl (tL [] 0))))] H := hP
              have hD : va_D A [(a0, .inr (8, [.int 2, .int 0, .int 1, .int 0, .int 0, .int 0, .ref a1, .ref a2, .int 0, .int 0, .ref a3, .ref a4, .ref a5, .ref a6, .ref a7, .ref a8, .ref a9, .int 0, .int 0, .int 0, .ref a10, .ref a11, .ref a12, .ref a13, .int 0, .int 0, .ref a14, .ref a15, .ref a16, .ref a17, .int 0, .int 0, .ref a18, .ref a19, .ref a20, .ref a21])), (a18, .inl (k 0, 4, .inl (tI [(-1), (-1), (-1), 1] 0))), (a19, .inl (k 0, 4, .inl (tI [0, 0, 0, x2] 0))), (a20, .inl (k 1, 160, .inr (.inl (tL [] 0))))] := hD
              refine lv_iconst (v := 0) hx hb dX11_sheet_66 (by decide) ?_
              refine lv_istore (lv' := [(4, .int 0), (0, .ref a0), (1, .int 3), (2, .int 1), (3, .int x2)]) hx hb dX11_sheet_67 hl (by decide) rfl (fun ls hl => ?_)
              exact sheetM_loop (q0 := 0) (q1 := 3) (sn := 3) hx hb hr hlocks hown hU hK (fun _ => (show (1 : Int32) = F_sheet 3 1 x2 by first | decide +kernel | (have f4 := cv_le (x := x2.toInt) (y := 40) c_15 rfl (by decide +kernel); have f5 := cv_le (x := 0) (y := x2.toInt) c_16 (by decide +kernel) rfl; have g_1 : (1 : Int32).toInt = 1 := (by decide +kernel); have g_3 : (3 : Int32).toInt = 3 := (by decide +kernel); unfold F_sheet; (repeat (first | rw [if_pos (by omega)] | rw [if_neg (by omega)]))))) (by decide) (by decide) rfl 40 0 _ _ _ _ ls (by decide) rfl rfl hP hD hS (lv_sub hl [0, 1, 2, 3, 4] rfl)
          · skip
            refine lv_bipush (v := (-14)) hx hb dX11_sheet_41 (by decide) ?_
            exact retI (v := (-14)) hx hb hr hlocks hS (show ((-14) : Int32) = F_sheet x0 1 x2 by first | decide +kernel | (have f0 := dv_nlt (x := x0.toInt) (y := 0) c_5 (wd x0) (by decide +kernel); have f1 := dv_nlt (x := 3) (y := x0.toInt) c_6 (by decide +kernel) (wd x0); have f4 := cv_le (x := x2.toInt) (y := 40) c_15 rfl (by decide +kernel); have f5 := cv_nle (x := 0) (y := x2.toInt) c_16 (by decide +kernel) rfl; have g_1 : (1 : Int32).toInt = 1 := (by decide +kernel); unfold F_sheet; (repeat (first | rw [if_pos (by omega)] | rw [if_neg (by omega)])))) dX11_sheet_43
        · skip
          refine lv_iconst (v := (-1)) hx hb dX11_sheet_31 (by decide) ?_
          exact retI (v := (-1)) hx hb hr hlocks hS (show ((-1) : Int32) = F_sheet x0 1 x2 by first | decide +kernel | (have f0 := dv_nlt (x := x0.toInt) (y := 0) c_5 (wd x0) (by decide +kernel); have f1 := dv_nlt (x := 3) (y := x0.toInt) c_6 (by decide +kernel) (wd x0); have f4 := cv_nle (x := x2.toInt) (y := 40) c_15 rfl (by decide +kernel); have g_1 : (1 : Int32).toInt = 1 := (by decide +kernel); unfold F_sheet; (repeat (first | rw [if_pos (by omega)] | rw [if_neg (by omega)])))) dX11_sheet_32
      · skip
        obtain rfl : x1 = 2 := eq32 hsp (by decide +kernel)
        refine lv_if_lt (tgt := 33) hx hb dX11_sheet_22 (by decide) (fun cc => absurd cc (by decide +kernel)) (fun _ => ?_)
        refine lv_iload_n hx hb dX11_sheet_25 rfl (lv_at hl 3 rfl) ?_
        refine lv_bipush (v := 40) hx hb dX11_sheet_26 (by decide) ?_
        refine lv_icmp_le (tgt := 33) hx hb dX11_sheet_28 (by decide) (fun c_17 => ?_) (fun c_17 => ?_)
        · skip
          refine lv_iload_n hx hb dX11_sheet_33 rfl (lv_at hl 2 rfl) ?_
          refine lv_if_lt (tgt := 44) hx hb dX11_sheet_34 (by decide) (fun cc => absurd cc (by decide +kernel)) (fun _ => ?_)
          refine lv_iload_n hx hb dX11_sheet_37 rfl (lv_at hl 3 rfl) ?_
          refine lv_if_ge (tgt := 44) hx hb dX11_sheet_38 (by decide) (fun c_18 => ?_) (fun c_18 => ?_)
          · skip
            refine lv_aload_n hx hb dX11_sheet_44 rfl (lv_at hl 0 rfl) ?_
            refine va_get (D := D) (ci := 8) (v := .ref a18) (C := RX11) (T := TX11) (N := 36) hx hb hU iX11 hown hK.1 hP 0 rfl rfl 32 (by decide) (hU _ w817) (fun _ h9 => h9) rfl dX11_sheet_45 ?_
            refine lv_iload_n hx hb dX11_sheet_48 rfl (lv_at hl 1 rfl) ?_
            refine lv_iload_n hx hb dX11_sheet_49 rfl (lv_at hl 2 rfl) ?_
            have hsp : x0.toInt = 0 ∨ x0.toInt = 1 ∨ x0.toInt = 2 ∨ x0.toInt = 3 := by
              have f0 := dv_nlt (x := x0.toInt) (y := 0) c_5 (wd x0) (by decide +kernel)
              have f1 := dv_nlt (x := 3) (y := x0.toInt) c_6 (by decide +kernel) (wd x0)
              have f4 := cv_le (x := x2.toInt) (y := 40) c_17 rfl (by decide +kernel)
              have f5 := cv_le (x := 0) (y := x2.toInt) c_18 (by decide +kernel) rfl
              have g_2 : (2 : Int32).toInt = 2 := (by decide +kernel)
              omega
            rcases hsp with hsp | hsp | hsp | hsp
            · skip
              obtain rfl : x0 = 0 := eq32 hsp (by decide +kernel)
              refine st_i (j := 0) (g := tI [2, (-1), (-1), (-1)] 0) hx hb hK hP hD hS 1 rfl (by decide +kernel) upd_tI dX11_sheet_50 (fun H locs hP hD hS => ?_)
              have hP : va_P D cl0 [(a0, .inr (8, [.int 2, .int 0, .int 1, .int 0, .int 0, .int 0, .ref a1, .ref a2, .int 0, .int 0, .ref a3, .ref a4, .ref a5, .ref a6, .ref a7, .ref a8, .ref a9, .int 0, .int 0, .int 0, .ref a10, .ref a11, .ref a12, .ref a13, .int 0, .int 0, .ref a14, .ref a15, .ref a16, .ref a17, .int 0, .int 0, .ref a18, .ref a19, .ref a20, .ref a21])), (a18, .inl (k 0, 4, .inl (tI [2, (-1), (-1), (-1)] 0))), (a19, .inl (k 0, 4, .inl (tI [] 0))), (a20, .inl (k 1, 160, .inr (.inl (tL [] 0))))] H := hP
              have hD : va_D A [(a0, .inr (8, [.int 2, .int 0, .int 1, .int 0, .int 0, .int 0, .ref a1, .ref a2, .int 0, .int 0, .ref a3, .ref a4, .ref a5, .ref a6, .ref a7, .ref a8, .ref a9, .int 0, .int 0, .int 0, .ref a10, .ref a11, .ref a12, .ref a13, .int 0, .int 0, .ref a14, .ref a15, .ref a16, .ref a17, .int 0, .int 0, .ref a18, .ref a19, .ref a20, .ref a21])), (a18, .inl (k 0, 4, .inl (tI [2, (-1), (-1), (-1)] 0))), (a19, .inl (k 0, 4, .inl (tI [] 0))), (a20, .inl (k 1, 160, .inr (.inl (tL [] 0))))] := hD
              refine lv_aload_n hx hb dX11_sheet_51 rfl (lv_at hl 0 rfl) ?_
              refine va_get (D := D) (ci := 8) (v := .ref a19) (C := RX11) (T := TX11) (N := 36) hx hb hU iX11 hown hK.1 hP 0 rfl rfl 33 (by decide) (hU _ w818) (fun _ h9 => h9) rfl dX11_sheet_52 ?_
              refine lv_iload_n hx hb dX11_sheet_55 rfl (lv_at hl 1 rfl) ?_
              refine lv_iload_n hx hb dX11_sheet_56 rfl (lv_at hl 2 rfl) ?_
              refine lv_if_ge (tgt := 64) hx hb dX11_sheet_57 (by decide) (fun _ => ?_) (fun cc => absurd (by decide +kernel) cc)
              refine lv_iload_n hx hb dX11_sheet_64 rfl (lv_at hl 3 rfl) ?_
              refine st_i (j := 0) (g := tI [x2] 0) hx hb hK hP hD hS 2 rfl (by decide +kernel) upd_tI dX11_sheet_65 (fun H locs hP hD hS => ?_)
              have hP : va_P D cl0 [(a0, .inr (8, [.int 2, .int 0, .int 1, .int 0, .int 0, .int 0, .ref a1, .ref a2, .int 0, .int 0, .ref a3, .ref a4, .ref a5, .ref a6, .ref a7, .ref a8, .ref a9, .int 0, .int 0, .int 0, .ref a10, .ref a11, .ref a12, .ref a13, .int 0, .int 0, .ref a14, .ref a15, .ref a16, .ref a17, .int 0, .int 0, .ref a18, .ref a19, .ref a20, .ref a21])), (a18, .inl (k 0, 4, .inl (tI [2, (-1), (-1), (-1)] 0))), (a19, .inl (k 0, 4, .inl (tI [x2] 0))), (a20, .inl (k 1, 160, .inr (.inl (tL [] 0))))] H := hP
              have hD : va_D A [(a0, .inr (8, [.int 2, .int 0, .int 1, .int 0, .int 0, .int 0, .ref a1, .ref a2, .int 0, .int 0, .ref a3, .ref a4, .ref a5, .ref a6, .ref a7, .ref a8, .ref a9, .int 0, .int 0, .int 0, .ref a10, .ref a11, .ref a12, .ref a13, .int 0, .int 0, .ref a14, .ref a15, .ref a16, .ref a17, .int 0, .int 0, .ref a18, .ref a19, .ref a20, .ref a21])), (a18, .inl (k 0, 4, .inl (tI [2, (-1), (-1), (-1)] 0))), (a19, .inl (k 0, 4, .inl (tI [x2] 0))), (a20, .inl (k 1, 160, .inr (.inl (tL [] 0))))] := hD
              refine lv_iconst (v := 0) hx hb dX11_sheet_66 (by decide) ?_
              refine lv_istore (lv' := [(4, .int 0), (0, .ref a0), (1, .int 0), (2, .int 2), (3, .int x2)]) hx hb dX11_sheet_67 hl (by decide) rfl (fun ls hl => ?_)
              exact sheetM_loop (q0 := 0) (q1 := 3) (sn := 0) hx hb hr hlocks hown hU hK (fun _ => (show (1 : Int32) = F_sheet 0 2 x2 by first | decide +kernel | (have f4 := cv_le (x := x2.toInt) (y := 40) c_17 rfl (by decide +kernel); have f5 := cv_le (x := 0) (y := x2.toInt) c_18 (by decide +kernel) rfl; have g_0 : (0 : Int32).toInt = 0 := (by decide +kernel); have g_2 : (2 : Int32).toInt = 2 := (by decide +kernel); unfold F_sheet; (repeat (first | rw [if_pos (by omega)] | rw [if_neg (by omega)]))))) (by decide) (by decide) rfl 40 0 _ _ _ _ ls (by decide) rfl rfl hP hD hS (lv_sub hl [0, 1, 2, 3, 4] rfl)
            · skip
              obtain rfl : x0 = 1 := eq32 hsp (by decide +kernel)
              refine st_i (j := 1) (g := tI [(-1), 2, (-1), (-1)] 0) hx hb hK hP hD hS 1 rfl (by decide +kernel) upd_tI dX11_sheet_50 (fun H locs hP hD hS => ?_)
              have hP : va_P D cl0 [(a0, .inr (8, [.int 2, .int 0, .int 1, .int 0, .int 0, .int 0, .ref a1, .ref a2, .int 0, .int 0, .ref a3, .ref a4, .ref a5, .ref a6, .ref a7, .ref a8, .ref a9, .int 0, .int 0, .int 0, .ref a10, .ref a11, .ref a12, .ref a13, .int 0, .int 0, .ref a14, .ref a15, .ref a16, .ref a17, .int 0, .int 0, .ref a18, .ref a19, .ref a20, .ref a21])), (a18, .inl (k 0, 4, .inl (tI [(-1), 2, (-1), (-1)] 0))), (a19, .inl (k 0, 4, .inl (tI [] 0))), (a20, .inl (k 1, 160, .inr (.inl (tL [] 0))))] H := hP
              have hD : va_D A [(a0, .inr (8, [.int 2, .int 0, .int 1, .int 0, .int 0, .int 0, .ref a1, .ref a2, .int 0, .int 0, .ref a3, .ref a4, .ref a5, .ref a6, .ref a7, .ref a8, .ref a9, .int 0, .int 0, .int 0, .ref a10, .ref a11, .ref a12, .ref a13, .int 0, .int 0, .ref a14, .ref a15, .ref a16, .ref a17, .int 0, .int 0, .ref a18, .ref a19, .ref a20, .ref a21])), (a18, .inl (k 0, 4, .inl (tI [(-1), 2, (-1), (-1)] 0))), (a19, .inl (k 0, 4, .inl (tI [] 0))), (a20, .inl (k 1, 160, .inr (.inl (tL [] 0))))] := hD
              refine lv_aload_n hx hb dX11_sheet_51 rfl (lv_at hl 0 rfl) ?_
              refine va_get (D := D) (ci := 8) (v := .ref a19) (C := RX11) (T := TX11) (N := 36) hx hb hU iX11 hown hK.1 hP 0 rfl rfl 33 (by decide) (hU _ w818) (fun _ h9 => h9) rfl dX11_sheet_52 ?_
              refine lv_iload_n hx hb dX11_sheet_55 rfl (lv_at hl 1 rfl) ?_
              refine lv_iload_n hx hb dX11_sheet_56 rfl (lv_at hl 2 rfl) ?_
              refine lv_if_ge (tgt := 64) hx hb dX11_sheet_57 (by decide) (fun _ => ?_) (fun cc => absurd (by decide +kernel) cc)
              refine lv_iload_n hx hb dX11_sheet_64 rfl (lv_at hl 3 rfl) ?_
              refine st_i (j := 1) (g := tI [0, x2] 0) hx hb hK hP hD hS 2 rfl (by decide +kernel) upd_tI dX11_sheet_65 (fun H locs hP hD hS => ?_)
              have hP : va_P D cl0 [(a0, .inr (8, [.int 2, .int 0, .int 1, .int 0, .int 0, .int 0, .ref a1, .ref a2, .int 0, .int 0, .ref a3, .ref a4, .ref a5, .ref a6, .ref a7, .ref a8, .ref a9, .int 0, .int 0, .int 0, .ref a10, .ref a11, .ref a12, .ref a13, .int 0, .int 0, .ref a14, .ref a15, .ref a16, .ref a17, .int 0, .int 0, .ref a18, .ref a19, .ref a20, .ref a21])), (a18, .inl (k 0, 4, .inl (tI [(-1), 2, (-1), (-1)] 0))), (a19, .inl (k 0, 4, .inl (tI [0, x2] 0))), (a20, .inl (k 1, 160, .inr (.inl (tL [] 0))))] H := hP
              have hD : va_D A [(a0, .inr (8, [.int 2, .int 0, .int 1, .int 0, .int 0, .int 0, .ref a1, .ref a2, .int 0, .int 0, .ref a3, .ref a4, .ref a5, .ref a6, .ref a7, .ref a8, .ref a9, .int 0, .int 0, .int 0, .ref a10, .ref a11, .ref a12, .ref a13, .int 0, .int 0, .ref a14, .ref a15, .ref a16, .ref a17, .int 0, .int 0, .ref a18, .ref a19, .ref a20, .ref a21])), (a18, .inl (k 0, 4, .inl (tI [(-1), 2, (-1), (-1)] 0))), (a19, .inl (k 0, 4, .inl (tI [0, x2] 0))), (a20, .inl (k 1, 160, .inr (.inl (tL [] 0))))] := hD
              refine lv_iconst (v := 0) hx hb dX11_sheet_66 (by decide) ?_
              refine lv_istore (lv' := [(4, .int 0), (0, .ref a0), (1, .int 1), (2, .int 2), (3, .int x2)]) hx hb dX11_sheet_67 hl (by decide) rfl (fun ls hl => ?_)
              exact sheetM_loop (q0 := 0) (q1 := 3) (sn := 1) hx hb hr hlocks hown hU hK (fun _ => (show (1 : Int32) = F_sheet 1 2 x2 by first | decide +kernel | (have f4 := cv_le (x := x2.toInt) (y := 40) c_17 rfl (by decide +kernel); have f5 := cv_le (x := 0) (y := x2.toInt) c_18 (by decide +kernel) rfl; have g_1 : (1 : Int32).toInt = 1 := (by decide +kernel); have g_2 : (2 : Int32).toInt = 2 := (by decide +kernel); unfold F_sheet; (repeat (first | rw [if_pos (by omega)] | rw [if_neg (by omega)]))))) (by decide) (by decide) rfl 40 0 _ _ _ _ ls (by decide) rfl rfl hP hD hS (lv_sub hl [0, 1, 2, 3, 4] rfl)
            · skip
              obtain rfl : x0 = 2 := eq32 hsp (by decide +kernel)
              refine st_i (j := 2) (g := tI [(-1), (-1), 2, (-1)] 0) hx hb hK hP hD hS 1 rfl (by decide +kernel) upd_tI dX11_sheet_50 (fun H locs hP hD hS => ?_)
              have hP : va_P D cl0 [(a0, .inr (8, [.int 2, .int 0, .int 1, .int 0, .int 0, .int 0, .ref a1, .ref a2, .int 0, .int 0, .ref a3, .ref a4, .ref a5, .ref a6, .ref a7, .ref a8, .ref a9, .int 0, .int 0, .int 0, .ref a10, .ref a11, .ref a12, .ref a13, .int 0, .int 0, .ref a14, .ref a15, .ref a16, .ref a17, .int 0, .int 0, .ref a18, .ref a19, .ref a20, .ref a21])), (a18, .inl (k 0, 4, .inl (tI [(-1), (-1), 2, (-1)] 0))), (a19, .inl (k 0, 4, .inl (tI [] 0))), (a20, .inl (k 1, 160, .inr (.inl (tL [] 0))))] H := hP
              have hD : va_D A [(a0, .inr (8, [.int 2, .int 0, .int 1, .int 0, .int 0, .int 0, .ref a1, .ref a2, .int 0, .int 0, .ref a3, .ref a4, .ref a5, .ref a6, .ref a7, .ref a8, .ref a9, .int 0, .int 0, .int 0, .ref a10, .ref a11, .ref a12, .ref a13, .int 0, .int 0, .ref a14, .ref a15, .ref a16, .ref a17, .int 0, .int 0, .ref a18, .ref a19, .ref a20, .ref a21])), (a18, .inl (k 0, 4, .inl (tI [(-1), (-1), 2, (-1)] 0))), (a19, .inl (k 0, 4, .inl (tI [] 0))), (a20, .inl (k 1, 160, .inr (.inl (tL [] 0))))] := hD
              refine lv_aload_n hx hb dX11_sheet_51 rfl (lv_at hl 0 rfl) ?_
              refine va_get (D := D) (ci := 8) (v := .ref a19) (C := RX11) (T := TX11) (N := 36) hx hb hU iX11 hown hK.1 hP 0 rfl rfl 33 (by decide) (hU _ w818) (fun _ h9 => h9) rfl dX11_sheet_52 ?_
              refine lv_iload_n hx hb dX11_sheet_55 rfl (lv_at hl 1 rfl) ?_
              refine lv_iload_n hx hb dX11_sheet_56 rfl (lv_at hl 2 rfl) ?_
              refine lv_if_ge (tgt := 64) hx hb dX11_sheet_57 (by decide) (fun _ => ?_) (fun cc => absurd (by decide +kernel) cc)
              refine lv_iload_n hx hb dX11_sheet_64 rfl (lv_at hl 3 rfl) ?_
              refine st_i (j := 2) (g := tI [0, 0, x2] 0) hx hb hK hP hD hS 2 rfl (by decide +kernel) upd_tI dX11_sheet_65 (fun H locs hP hD hS => ?_)
              have hP : va_P D cl0 [(a0, .inr (8, [.int 2, .int 0, .int 1, .int 0, .int 0, .int 0, .ref a1, .ref a2, .int 0, .int 0, .ref a3, .ref a4, .ref a5, .ref a6, .ref a7, .ref a8, .ref a9, .int 0, .int 0, .int 0, .ref a10, .ref a11, .ref a12, .ref a13, .int 0, .int 0, .ref a14, .ref a15, .ref a16, .ref a17, .int 0, .int 0, .ref a18, .ref a19, .ref a20, .ref a21])), (a18, .inl (k 0, 4, .inl (tI [(-1), (-1), 2, (-1)] 0))), (a19, .inl (k 0, 4, .inl (tI [0, 0, x2] 0))), (a20, .inl (k 1, 160, .inr (.inl (tL [] 0))))] H := hP
              have hD : va_D A [(a0, .inr (8, [.int 2, .int 0, .int 1, .int 0, .int 0, .int 0, .ref a1, .ref a2, .int 0, .int 0, .ref a3, .ref a4, .ref a5, .ref a6, .ref a7, .ref a8, .ref a9, .int 0, .int 0, .int 0, .ref a10, .ref a11, .ref a12, .ref a13, .int 0, .int 0, .ref a14, .ref a15, .ref a16, .ref a17, .int 0, .int 0, .ref a18, .ref a19, .ref a20, .ref a21])), (a18, .inl (k 0, 4, .inl (tI [(-1), (-1), 2, (-1)] 0))), (a19, .inl (k 0, 4, .inl (tI [0, 0, x2] 0))), (a20, .inl (k 1, 160, .inr (.inl (tL [] 0))))] := hD
              refine lv_iconst (v := 0) hx hb dX11_sheet_66 (by decide) ?_
              refine lv_istore (lv' := [(4, .int 0), (0, .ref a0), (1, .int 2), (2, .int 2), (3, .int x2)]) hx hb dX11_sheet_67 hl (by decide) rfl (fun ls hl => ?_)
              exact sheetM_loop (q0 := 0) (q1 := 3) (sn := 2) hx hb hr hlocks hown hU hK (fun _ => (show (1 : Int32) = F_sheet 2 2 x2 by first | decide +kernel | (have f4 := cv_le (x := x2.toInt) (y := 40) c_17 rfl (by decide +kernel); have f5 := cv_le (x := 0) (y := x2.toInt) c_18 (by decide +kernel) rfl; have g_2 : (2 : Int32).toInt = 2 := (by decide +kernel); unfold F_sheet; (repeat (first | rw [if_pos (by omega)] | rw [if_neg (by omega)]))))) (by decide) (by decide) rfl 40 0 _ _ _ _ ls (by decide) rfl rfl hP hD hS (lv_sub hl [0, 1, 2, 3, 4] rfl)
            · skip
              obtain rfl : x0 = 3 := eq32 hsp (by decide +kernel)
              refine st_i (j := 3) (g := tI [(-1), (-1), (-1), 2] 0) hx hb hK hP hD hS 1 rfl (by decide +kernel) upd_tI dX11_sheet_50 (fun H locs hP hD hS => ?_)
              have hP : va_P D cl0 [(a0, .inr (8, [.int 2, .int 0, .int 1, .int 0, .int 0, .int 0, .ref a1, .ref a2, .int 0, .int 0, .ref a3, .ref a4, .ref a5, .ref a6, .ref a7, .ref a8, .ref a9, .int 0, .int 0, .int 0, .ref a10, .ref a11, .ref a12, .ref a13, .int 0, .int 0, .ref a14, .ref a15, .ref a16, .ref a17, .int 0, .int 0, .ref a18, .ref a19, .ref a20, .ref a21])), (a18, .inl (k 0, 4, .inl (tI [(-1), (-1), (-1), 2] 0))), (a19, .inl (k 0, 4, .inl (tI [] 0))), (a20, .inl (k 1, 160, .inr (.inl (tL [] 0))))] H := hP
              have hD : va_D A [(a0, .inr (8, [.int 2, .int 0, .int 1, .int 0, .int 0, .int 0, .ref a1, .ref a2, .int 0, .int 0, .ref a3, .ref a4, .ref a5, .ref a6, .ref a7, .ref a8, .ref a9, .int 0, .int 0, .int 0, .ref a10, .ref a11, .ref a12, .ref a13, .int 0, .int 0, .ref a14, .ref a15, .ref a16, .ref a17, .int 0, .int 0, .ref a18, .ref a19, .ref a20, .ref a21])), (a18, .inl (k 0, 4, .inl (tI [(-1), (-1), (-1), 2] 0))), (a19, .inl (k 0, 4, .inl (tI [] 0))), (a20, .inl (k 1, 160, .inr (.inl (tL [] 0))))] := hD
              refine lv_aload_n hx hb dX11_sheet_51 rfl (lv_at hl 0 rfl) ?_
              refine va_get (D := D) (ci := 8) (v := .ref a19) (C := RX11) (T := TX11) (N := 36) hx hb hU iX11 hown hK.1 hP 0 rfl rfl 33 (by decide) (hU _ w818) (fun _ h9 => h9) rfl dX11_sheet_52 ?_
              refine lv_iload_n hx hb dX11_sheet_55 rfl (lv_at hl 1 rfl) ?_
              refine lv_iload_n hx hb dX11_sheet_56 rfl (lv_at hl 2 rfl) ?_
              refine lv_if_ge (tgt := 64) hx hb dX11_sheet_57 (by decide) (fun _ => ?_) (fun cc => absurd (by decide +kernel) cc)
              refine lv_iload_n hx hb dX11_sheet_64 rfl (lv_at hl 3 rfl) ?_
              refine st_i (j := 3) (g := tI [0, 0, 0, x2] 0) hx hb hK hP hD hS 2 rfl (by decide +kernel) upd_tI dX11_sheet_65 (fun H locs hP hD hS => ?_)
              have hP : va_P D cl0 [(a0, .inr (8, [.int 2, .int 0, .int 1, .int 0, .int 0, .int 0, .ref a1, .ref a2, .int 0, .int 0, .ref a3, .ref a4, .ref a5, .ref a6, .ref a7, .ref a8, .ref a9, .int 0, .int 0, .int 0, .ref a10, .ref a11, .ref a12, .ref a13, .int 0, .int 0, .ref a14, .ref a15, .ref a16, .ref a17, .int 0, .int 0, .ref a18, .ref a19, .ref a20, .ref a21])), (a18, .inl (k 0, 4, .inl (tI [(-1), (-1), (-1), 2] 0))), (a19, .inl (k 0, 4, .inl (tI [0, 0, 0, x2] 0))), (a20, .inl (k 1, 160, .inr (.inl (tL [] 0))))] H := hP
              have hD : va_D A [(a0, .inr (8, [.int 2, .int 0, .int 1, .int 0, .int 0, .int 0, .ref a1, .ref a2, .int 0, .int 0, .ref a3, .ref a4, .ref a5, .ref a6, .ref a7, .ref a8, .ref a9, .int 0, .int 0, .int 0, .ref a10, .ref a11, .ref a12, .ref a13, .int 0, .int 0, .ref a14, .ref a15, .ref a16, .ref a17, .int 0, .int 0, .ref a18, .ref a19, .ref a20, .ref a21])), (a18, .inl (k 0, 4, .inl (tI [(-1), (-1), (-1), 2] 0))), (a19, .inl (k 0, 4, .inl (tI [0, 0, 0, x2] 0))), (a20, .inl (k 1, 160, .inr (.inl (tL [] 0))))] := hD
              refine lv_iconst (v := 0) hx hb dX11_sheet_66 (by decide) ?_
              refine lv_istore (lv' := [(4, .int 0), (0, .ref a0), (1, .int 3), (2, .int 2), (3, .int x2)]) hx hb dX11_sheet_67 hl (by decide) rfl (fun ls hl => ?_)
              exact sheetM_loop (q0 := 0) (q1 := 3) (sn := 3) hx hb hr hlocks hown hU hK (fun _ => (show (1 : Int32) = F_sheet 3 2 x2 by first | decide +kernel | (have f4 := cv_le (x := x2.toInt) (y := 40) c_17 rfl (by decide +kernel); have f5 := cv_le (x := 0) (y := x2.toInt) c_18 (by decide +kernel) rfl; have g_2 : (2 : Int32).toInt = 2 := (by decide +kernel); have g_3 : (3 : Int32).toInt = 3 := (by decide +kernel); unfold F_sheet; (repeat (first | rw [if_pos (by omega)] | rw [if_neg (by omega)]))))) (by decide) (by decide) rfl 40 0 _ _ _ _ ls (by decide) rfl rfl hP hD hS (lv_sub hl [0, 1, 2, 3, 4] rfl)
          · skip
            refine lv_bipush (v := (-14)) hx hb dX11_sheet_41 (by decide) ?_
            exact retI (v := (-14)) hx hb hr hlocks hS (show ((-14) : Int32) = F_sheet x0 2 x2 by first | decide +kernel | (have f0 := dv_nlt (x := x0.toInt) (y := 0) c_5 (wd x0) (by decide +kernel); have f1 := dv_nlt (x := 3) (y := x0.toInt) c_6 (by decide +kernel) (wd x0); have f4 := cv_le (x := x2.toInt) (y := 40) c_17 rfl (by decide +kernel); have f5 := cv_nle (x := 0) (y := x2.toInt) c_18 (by decide +kernel) rfl; have g_2 : (2 : Int32).toInt = 2 := (by decide +kernel); unfold F_sheet; (repeat (first | rw [if_pos (by omega)] | rw [if_neg (by omega)])))) dX11_sheet_43
        · skip
          refine lv_iconst (v := (-1)) hx hb dX11_sheet_31 (by decide) ?_
          exact retI (v := (-1)) hx hb hr hlocks hS (show ((-1) : Int32) = F_sheet x0 2 x2 by first | decide +kernel | (have f0 := dv_nlt (x := x0.toInt) (y := 0) c_5 (wd x0) (by decide +kernel); have f1 := dv_nlt (x := 3) (y := x0.toInt) c_6 (by decide +kernel) (wd x0); have f4 := cv_nle (x := x2.toInt) (y := 40) c_17 rfl (by decide +kernel); have g_2 : (2 : Int32).toInt = 2 := (by decide +kernel); unfold F_sheet; (repeat (first | rw [if_pos (by omega)] | rw [if_neg (by omega)])))) dX11_sheet_32
abbrev BX11_in_9 (D : va_G) (k : Nat → ClassId) (x0 : Int64) (A : Nat → Prop) (r : Int32) (H : Heap) : Prop := (x0 < 1 ∧ 0 = r ∧ va_P D cl0 [] H ∧ va_D A []) ∨ (¬ (x0 < 1) ∧ 4 < x0 ∧ 0 = r ∧ va_P D cl0 [] H ∧ va_D A []) ∨ (¬ (x0 < 1) ∧ ¬ (4 < x0) ∧ 1 = r ∧ va_P D cl0 [] H ∧ va_D A [])
set_option maxHeartbeats 4000000 in
set_option maxRecDepth 100000 in
theorem cX11_in_9 (l : Launch) (D : va_G) (k : Nat → ClassId) (sz : Nat) (x0 : Int64) : Met l yX11_in (Cond.code yX11_in cX11_in 6 (some .boolean) :: uw) ({ frames := 0, cells := 0, slots := 0, locals := 0 }) (pC D k sz [.long x0, .long 1, .long 4] []) (qI (BX11_in_9 D k x0 (va_A [] sz)) (va_A [] sz)) 0 0 (va_A [] sz) := by
  refine begin_ (Qc := fun A => qI (BX11_in_9 D k x0 A) A) (by decide) (Nat.le_of_ble_eq_true rfl) ?_
  intro p e s m below meth c ls A hx hb hr hml hown hlocks hin hU hK hsz hP hD hS hA hl
  have hl : lv_has ls 6 [(0, .long x0), (2, .long 1), (4, .long 4)] := hl
  clear hsz
  refine lv_lload_n hx hb dX11_in_0 rfl (lv_at hl 0 rfl) ?_
  refine lv_lload_n hx hb dX11_in_1 rfl (lv_at hl 1 rfl) ?_
  refine W.lcmp hx hb dX11_in_2 ?_
  refine lv_if_lt (tgt := 17) hx hb dX11_in_3 (by decide) (fun c_1 => ?_) (fun c_1 => ?_)
  · skip
    have c_1 := (lg_cmp_lt _ _).mp c_1
    refine lv_iconst (v := 0) hx hb dX11_in_17 (by decide) ?_
    exact retZ (v := 0) hx hb hr hlocks hS (Or.inl ⟨c_1, rfl, hP, hD⟩) dX11_in_18 (by decide +kernel)
  · skip
    have c_1 := fun h9 => c_1 ((lg_cmp_lt _ _).mpr h9)
    refine lv_lload_n hx hb dX11_in_6 rfl (lv_at hl 0 rfl) ?_
    refine lv_lload hx hb dX11_in_7 (lv_at hl 2 rfl) ?_
    refine W.lcmp hx hb dX11_in_9 ?_
    refine lv_if_gt (tgt := 17) hx hb dX11_in_10 (by decide) (fun c_2 => ?_) (fun c_2 => ?_)
    · skip
      have c_2 := (lg_cmp_gt _ _).mp c_2
      refine lv_iconst (v := 0) hx hb dX11_in_17 (by decide) ?_
      exact retZ (v := 0) hx hb hr hlocks hS (Or.inr (Or.inl ⟨c_1, c_2, rfl, hP, hD⟩)) dX11_in_18 (by decide +kernel)
    · skip
      have c_2 := fun h9 => c_2 ((lg_cmp_gt _ _).mpr h9)
      refine lv_iconst (v := 1) hx hb dX11_in_13 (by decide) ?_
      refine lv_goto (tgt := 18) hx hb dX11_in_14 (by decide) ?_
      exact retZ (v := 1) hx hb hr hlocks hS (Or.inr (Or.inr (⟨c_1, c_2, rfl, hP, hD⟩))) dX11_in_18 (by decide +kernel)
abbrev BX11_drawn_1 (D : va_G) (k : Nat → ClassId) (h0 h1 h2 h3 h4 h5 h6 h7 h8 h9 h10 h11 h12 h13 h14 h15 h16 h17 h18 h19 h20 h21 : Nat) (A : Nat → Prop) (r : Int32) (H : Heap) : Prop := 0 = r ∧ va_P D cl0 [(h0, .inr (8, [.int 2, .int 0, .int 1103527590, .int 0, .int 0, .int 0, .ref h1, .ref h2, .int 0, .int 0, .ref h3, .ref h4, .ref h5, .ref h6, .ref h7, .ref h8, .ref h9, .int 0, .int 0, .int 0, .ref h10, .ref h11, .ref h12, .ref h13, .int 0, .int 0, .ref h14, .ref h15, .ref h16, .ref h17, .int 0, .int 0, .ref h18, .ref h19, .ref h20, .ref h21]))] H ∧ va_D A [(h0, .inr (8, [.int 2, .int 0, .int 1103527590, .int 0, .int 0, .int 0, .ref h1, .ref h2, .int 0, .int 0, .ref h3, .ref h4, .ref h5, .ref h6, .ref h7, .ref h8, .ref h9, .int 0, .int 0, .int 0, .ref h10, .ref h11, .ref h12, .ref h13, .int 0, .int 0, .ref h14, .ref h15, .ref h16, .ref h17, .int 0, .int 0, .ref h18, .ref h19, .ref h20, .ref h21]))]
set_option maxHeartbeats 4000000 in
set_option maxRecDepth 100000 in
theorem cX11_drawn_1 (l : Launch) (D : va_G) (k : Nat → ClassId) (sz : Nat) (h0 h1 h2 h3 h4 h5 h6 h7 h8 h9 h10 h11 h12 h13 h14 h15 h16 h17 h18 h19 h20 h21 : Nat) : Met l yX11_drawn (Cond.code yX11_drawn cX11_drawn 2 (some .int) :: uw) ({ frames := 0, cells := 0, slots := 0, locals := 0 }) (pC D k sz [.ref h0, .int 2] [(h0, .inr (8, [.int 2, .int 0, .int 1, .int 0, .int 0, .int 0, .ref h1, .ref h2, .int 0, .int 0, .ref h3, .ref h4, .ref h5, .ref h6, .ref h7, .ref h8, .ref h9, .int 0, .int 0, .int 0, .ref h10, .ref h11, .ref h12, .ref h13, .int 0, .int 0, .ref h14, .ref h15, .ref h16, .ref h17, .int 0, .int 0, .ref h18, .ref h19, .ref h20, .ref h21]))]) (qI (BX11_drawn_1 D k h0 h1 h2 h3 h4 h5 h6 h7 h8 h9 h10 h11 h12 h13 h14 h15 h16 h17 h18 h19 h20 h21 (va_A [(h0, .inr (8, [.int 2, .int 0, .int 1, .int 0, .int 0, .int 0, .ref h1, .ref h2, .int 0, .int 0, .ref h3, .ref h4, .ref h5, .ref h6, .ref h7, .ref h8, .ref h9, .int 0, .int 0, .int 0, .ref h10, .ref h11, .ref h12, .ref h13, .int 0, .int 0, .ref h14, .ref h15, .ref h16, .ref h17, .int 0, .int 0, .ref h18, .ref h19, .ref h20, .ref h21]))] sz)) (va_A [(h0, .inr (8, [.int 2, .int 0, .int 1, .int 0, .int 0, .int 0, .ref h1, .ref h2, .int 0, .int 0, .ref h3, .ref h4, .ref h5, .ref h6, .ref h7, .ref h8, .ref h9, .int 0, .int 0, .int 0, .ref h10, .ref h11, .ref h12, .ref h13, .int 0, .int 0, .ref h14, .ref h15, .ref h16, .ref h17, .int 0, .int 0, .ref h18, .ref h19, .ref h20, .ref h21]))] sz)) 0 0 (va_A [(h0, .inr (8, [.int 2, .int 0, .int 1, .int 0, .int 0, .int 0, .ref h1, .ref h2, .int 0, .int 0, .ref h3, .ref h4, .ref h5, .ref h6, .ref h7, .ref h8, .ref h9, .int 0, .int 0, .int 0, .ref h10, .ref h11, .ref h12, .ref h13, .int 0, .int 0, .ref h14, .ref h15, .ref h16, .ref h17, .int 0, .int 0, .ref h18, .ref h19, .ref h20, .ref h21]))] sz) := by
  refine begin_ (Qc := fun A => qI (BX11_drawn_1 D k h0 h1 h2 h3 h4 h5 h6 h7 h8 h9 h10 h11 h12 h13 h14 h15 h16 h17 h18 h19 h20 h21 A) A) (by decide) (Nat.le_of_ble_eq_true rfl) ?_
  intro p e s m below meth c ls A hx hb hr hml hown hlocks hin hU hK hsz hP hD hS hA hl
  have hl : lv_has ls 2 [(0, .ref h0), (1, .int 2)] := hl
  clear hsz
  refine lv_aload_n hx hb dX11_drawn_0 rfl (lv_at hl 0 rfl) ?_
  refine lv_aload_n hx hb dX11_drawn_1 rfl (lv_at hl 0 rfl) ?_
  refine va_get (D := D) (ci := 8) (v := .int 1) (C := RX11) (T := TX11) (N := 36) hx hb hU iX11 hown hK.1 hP 0 rfl rfl 2 (by decide) (hU _ w787) (fun _ h9 => h9) rfl dX11_drawn_2 ?_
  refine lv_ldcw hx hb hown (hU _ w1178) dX11_drawn_5 ?_
  refine lv_imul hx hb dX11_drawn_8 (sv_i (v := 1103515245) (by decide +kernel) ?_)
  refine lv_sipush (v := 12345) hx hb dX11_drawn_9 (by decide) ?_
  refine lv_iadd hx hb dX11_drawn_12 (sv_i (v := 1103527590) (by decide +kernel) ?_)
  refine va_put (D := D) (ci := 8) (v := .int 1103527590) (ty := .int) (C := RX11) (T := TX11) (N := 36) hx hb hU iX11 tyX11 tyX11_ok nmX11 hown hK.1 hP hD hS 0 rfl rfl 2 (by decide) (hU _ w787) (fun _ h9 => h9) rfl (by decide +kernel) rfl rfl (Nat.le_of_ble_eq_true rfl) dX11_drawn_13 (fun H locs hP hD hS => ?_)
  have hP : va_P D cl0 [(h0, .inr (8, [.int 2, .int 0, .int 1103527590, .int 0, .int 0, .int 0, .ref h1, .ref h2, .int 0, .int 0, .ref h3, .ref h4, .ref h5, .ref h6, .ref h7, .ref h8, .ref h9, .int 0, .int 0, .int 0, .ref h10, .ref h11, .ref h12, .ref h13, .int 0, .int 0, .ref h14, .ref h15, .ref h16, .ref h17, .int 0, .int 0, .ref h18, .ref h19, .ref h20, .ref h21]))] H := hP
  have hD : va_D A [(h0, .inr (8, [.int 2, .int 0, .int 1103527590, .int 0, .int 0, .int 0, .ref h1, .ref h2, .int 0, .int 0, .ref h3, .ref h4, .ref h5, .ref h6, .ref h7, .ref h8, .ref h9, .int 0, .int 0, .int 0, .ref h10, .ref h11, .ref h12, .ref h13, .int 0, .int 0, .ref h14, .ref h15, .ref h16, .ref h17, .int 0, .int 0, .ref h18, .ref h19, .ref h20, .ref h21]))] := hD
  refine lv_aload_n hx hb dX11_drawn_16 rfl (lv_at hl 0 rfl) ?_
  refine va_get (D := D) (ci := 8) (v := .int 1103527590) (C := RX11) (T := TX11) (N := 36) hx hb hU iX11 hown hK.1 hP 0 rfl rfl 2 (by decide) (hU _ w787) (fun _ h9 => h9) rfl dX11_drawn_17 ?_
  refine lv_bipush (v := 16) hx hb dX11_drawn_20 (by decide) ?_
  refine lv_iushr (v := 16838) hx hb dX11_drawn_22 (by decide +kernel) ?_
  refine lv_iload_n hx hb dX11_drawn_23 rfl (lv_at hl 1 rfl) ?_
  refine lv_irem hx hb dX11_drawn_24 (by decide +kernel) (sv_i (v := 0) (by decide +kernel) ?_)
  exact retI (v := 0) hx hb hr hlocks hS (⟨rfl, hP, hD⟩) dX11_drawn_25
abbrev BX11_drawn_2 (D : va_G) (k : Nat → ClassId) (h0 h1 h2 h3 h4 h5 h6 h7 h8 h9 h10 h11 h12 h13 h14 h15 h16 h17 h18 h19 h20 h21 : Nat) (A : Nat → Prop) (r : Int32) (H : Heap) : Prop := 0 = r ∧ va_P D cl0 [(h0, .inr (8, [.int 2, .int 0, .int (-1770082073), .int 0, .int 0, .int 0, .ref h1, .ref h2, .int 0, .int 0, .ref h3, .ref h4, .ref h5, .ref h6, .ref h7, .ref h8, .ref h9, .int 0, .int 0, .int 0, .ref h10, .ref h11, .ref h12, .ref h13, .int 0, .int 0, .ref h14, .ref h15, .ref h16, .ref h17, .int 0, .int 0, .ref h18, .ref h19, .ref h20, .ref h21]))] H ∧ va_D A [(h0, .inr (8, [.int 2, .int 0, .int (-1770082073), .int 0, .int 0, .int 0, .ref h1, .ref h2, .int 0, .int 0, .ref h3, .ref h4, .ref h5, .ref h6, .ref h7, .ref h8, .ref h9, .int 0, .int 0, .int 0, .ref h10, .ref h11, .ref h12, .ref h13, .int 0, .int 0, .ref h14, .ref h15, .ref h16, .ref h17, .int 0, .int 0, .ref h18, .ref h19, .ref h20, .ref h21]))]
set_option maxHeartbeats 4000000 in
set_option maxRecDepth 100000 in
theorem cX11_drawn_2 (l : Launch) (D : va_G) (k : Nat → ClassId) (sz : Nat) (h0 h1 h2 h3 h4 h5 h6 h7 h8 h9 h10 h11 h12 h13 h14 h15 h16 h17 h18 h19 h20 h21 : Nat) : Met l yX11_drawn (Cond.code yX11_drawn cX11_drawn 2 (some .int) :: uw) ({ frames := 0, cells := 0, slots := 0, locals := 0 }) (pC D k sz [.ref h0, .int 2] [(h0, .inr (8, [.int 2, .int 0, .int 1103527590, .int 0, .int 0, .int 0, .ref h1, .ref h2, .int 0, .int 0, .ref h3, .ref h4, .ref h5, .ref h6, .ref h7, .ref h8, .ref h9, .int 0, .int 0, .int 0, .ref h10, .ref h11, .ref h12, .ref h13, .int 0, .int 0, .ref h14, .ref h15, .ref h16, .ref h17, .int 0, .int 0, .ref h18, .ref h19, .ref h20, .ref h21]))]) (qI (BX11_drawn_2 D k h0 h1 h2 h3 h4 h5 h6 h7 h8 h9 h10 h11 h12 h13 h14 h15 h16 h17 h18 h19 h20 h21 (va_A [(h0, .inr (8, [.int 2, .int 0, .int 1103527590, .int 0, .int 0, .int 0, .ref h1, .ref h2, .int 0, .int 0, .ref h3, .ref h4, .ref h5, .ref h6, .ref h7, .ref h8, .ref h9, .int 0, .int 0, .int 0, .ref h10, .ref h11, .ref h12, .ref h13, .int 0, .int 0, .ref h14, .ref h15, .ref h16, .ref h17, .int 0, .int 0, .ref h18, .ref h19, .ref h20, .ref h21]))] sz)) (va_A [(h0, .inr (8, [.int 2, .int 0, .int 1103527590, .int 0, .int 0, .int 0, .ref h1, .ref h2, .int 0, .int 0, .ref h3, .ref h4, .ref h5, .ref h6, .ref h7, .ref h8, .ref h9, .int 0, .int 0, .int 0, .ref h10, .ref h11, .ref h12, .ref h13, .int 0, .int 0, .ref h14, .ref h15, .ref h16, .ref h17, .int 0, .int 0, .ref h18, .ref h19, .ref h20, .ref h21]))] sz)) 0 0 (va_A [(h0, .inr (8, [.int 2, .int 0, .int 1103527590, .int 0, .int 0, .int 0, .ref h1, .ref h2, .int 0, .int 0, .ref h3, .ref h4, .ref h5, .ref h6, .ref h7, .ref h8, .ref h9, .int 0, .int 0, .int 0, .ref h10, .ref h11, .ref h12, .ref h13, .int 0, .int 0, .ref h14, .ref h15, .ref h16, .ref h17, .int 0, .int 0, .ref h18, .ref h19, .ref h20, .ref h21]))] sz) := by
  refine begin_ (Qc := fun A => qI (BX11_drawn_2 D k h0 h1 h2 h3 h4 h5 h6 h7 h8 h9 h10 h11 h12 h13 h14 h15 h16 h17 h18 h19 h20 h21 A) A) (by decide) (Nat.le_of_ble_eq_true rfl) ?_
  intro p e s m below meth c ls A hx hb hr hml hown hlocks hin hU hK hsz hP hD hS hA hl
  have hl : lv_has ls 2 [(0, .ref h0), (1, .int 2)] := hl
  clear hsz
  refine lv_aload_n hx hb dX11_drawn_0 rfl (lv_at hl 0 rfl) ?_
  refine lv_aload_n hx hb dX11_drawn_1 rfl (lv_at hl 0 rfl) ?_
  refine va_get (D := D) (ci := 8) (v := .int 1103527590) (C := RX11) (T := TX11) (N := 36) hx hb hU iX11 hown hK.1 hP 0 rfl rfl 2 (by decide) (hU _ w787) (fun _ h9 => h9) rfl dX11_drawn_2 ?_
  refine lv_ldcw hx hb hown (hU _ w1178) dX11_drawn_5 ?_
  refine lv_imul hx hb dX11_drawn_8 (sv_i (v := (-1770094418)) (by decide +kernel) ?_)
  refine lv_sipush (v := 12345) hx hb dX11_drawn_9 (by decide) ?_
  refine lv_iadd hx hb dX11_drawn_12 (sv_i (v := (-1770082073)) (by decide +kernel) ?_)
  refine va_put (D := D) (ci := 8) (v := .int (-1770082073)) (ty := .int) (C := RX11) (T := TX11) (N := 36) hx hb hU iX11 tyX11 tyX11_ok nmX11 hown hK.1 hP hD hS 0 rfl rfl 2 (by decide) (hU _ w787) (fun _ h9 => h9) rfl (by decide +kernel) rfl rfl (Nat.le_of_ble_eq_true rfl) dX11_drawn_13 (fun H locs hP hD hS => ?_)
  have hP : va_P D cl0 [(h0, .inr (8, [.int 2, .int 0, .int (-1770082073), .int 0, .int 0, .int 0, .ref h1, .ref h2, .int 0, .int 0, .ref h3, .ref h4, .ref h5, .ref h6, .ref h7, .ref h8, .ref h9, .int 0, .int 0, .int 0, .ref h10, .ref h11, .ref h12, .ref h13, .int 0, .int 0, .ref h14, .ref h15, .ref h16, .ref h17, .int 0, .int 0, .ref h18, .ref h19, .ref h20, .ref h21]))] H := hP
  have hD : va_D A [(h0, .inr (8, [.int 2, .int 0, .int (-1770082073), .int 0, .int 0, .int 0, .ref h1, .ref h2, .int 0, .int 0, .ref h3, .ref h4, .ref h5, .ref h6, .ref h7, .ref h8, .ref h9, .int 0, .int 0, .int 0, .ref h10, .ref h11, .ref h12, .ref h13, .int 0, .int 0, .ref h14, .ref h15, .ref h16, .ref h17, .int 0, .int 0, .ref h18, .ref h19, .ref h20, .ref h21]))] := hD
  refine lv_aload_n hx hb dX11_drawn_16 rfl (lv_at hl 0 rfl) ?_
  refine va_get (D := D) (ci := 8) (v := .int (-1770082073)) (C := RX11) (T := TX11) (N := 36) hx hb hU iX11 hown hK.1 hP 0 rfl rfl 2 (by decide) (hU _ w787) (fun _ h9 => h9) rfl dX11_drawn_17 ?_
  refine lv_bipush (v := 16) hx hb dX11_drawn_20 (by decide) ?_
  refine lv_iushr (v := 38526) hx hb dX11_drawn_22 (by decide +kernel) ?_
  refine lv_iload_n hx hb dX11_drawn_23 rfl (lv_at hl 1 rfl) ?_
  refine lv_irem hx hb dX11_drawn_24 (by decide +kernel) (sv_i (v := 0) (by decide +kernel) ?_)
  exact retI (v := 0) hx hb hr hlocks hS (⟨rfl, hP, hD⟩) dX11_drawn_25
abbrev BX11_drawn_3 (D : va_G) (k : Nat → ClassId) (h0 h1 h2 h3 h4 h5 h6 h7 h8 h9 h10 h11 h12 h13 h14 h15 h16 h17 h18 h19 h20 h21 : Nat) (A : Nat → Prop) (r : Int32) (H : Heap) : Prop := 3 = r ∧ va_P D cl0 [(h0, .inr (8, [.int 2, .int 0, .int 662824084, .int 0, .int 0, .int 0, .ref h1, .ref h2, .int 0, .int 0, .ref h3, .ref h4, .ref h5, .ref h6, .ref h7, .ref h8, .ref h9, .int 0, .int 0, .int 0, .ref h10, .ref h11, .ref h12, .ref h13, .int 0, .int 0, .ref h14, .ref h15, .ref h16, .ref h17, .int 0, .int 0, .ref h18, .ref h19, .ref h20, .ref h21]))] H ∧ va_D A [(h0, .inr (8, [.int 2, .int 0, .int 662824084, .int 0, .int 0, .int 0, .ref h1, .ref h2, .int 0, .int 0, .ref h3, .ref h4, .ref h5, .ref h6, .ref h7, .ref h8, .ref h9, .int 0, .int 0, .int 0, .ref h10, .ref h11, .ref h12, .ref h13, .int 0, .int 0, .ref h14, .ref h15, .ref h16, .ref h17, .int 0, .int 0, .ref h18, .ref h19, .ref h20, .ref h21]))]
set_option maxHeartbeats 4000000 in
set_option maxRecDepth 100000 in
theorem cX11_drawn_3 (l : Launch) (D : va_G) (k : Nat → ClassId) (sz : Nat) (h0 h1 h2 h3 h4 h5 h6 h7 h8 h9 h10 h11 h12 h13 h14 h15 h16 h17 h18 h19 h20 h21 : Nat) : Met l yX11_drawn (Cond.code yX11_drawn cX11_drawn 2 (some .int) :: uw) ({ frames := 0, cells := 0, slots := 0, locals := 0 }) (pC D k sz [.ref h0, .int 5] [(h0, .inr (8, [.int 2, .int 0, .int (-1770082073), .int 0, .int 0, .int 0, .ref h1, .ref h2, .int 0, .int 0, .ref h3, .ref h4, .ref h5, .ref h6, .ref h7, .ref h8, .ref h9, .int 0, .int 0, .int 0, .ref h10, .ref h11, .ref h12, .ref h13, .int 0, .int 0, .ref h14, .ref h15, .ref h16, .ref h17, .int 0, .int 0, .ref h18, .ref h19, .ref h20, .ref h21]))]) (qI (BX11_drawn_3 D k h0 h1 h2 h3 h4 h5 h6 h7 h8 h9 h10 h11 h12 h13 h14 h15 h16 h17 h18 h19 h20 h21 (va_A [(h0, .inr (8, [.int 2, .int 0, .int (-1770082073), .int 0, .int 0, .int 0, .ref h1, .ref h2, .int 0, .int 0, .ref h3, .ref h4, .ref h5, .ref h6, .ref h7, .ref h8, .ref h9, .int 0, .int 0, .int 0, .ref h10, .ref h11, .ref h12, .ref h13, .int 0, .int 0, .ref h14, .ref h15, .ref h16, .ref h17, .int 0, .int 0, .ref h18, .ref h19, .ref h20, .ref h21]))] sz)) (va_A [(h0, .inr (8, [.int 2, .int 0, .int (-1770082073), .int 0, .int 0, .int 0, .ref h1, .ref h2, .int 0, .int 0, .ref h3, .ref h4, .ref h5, .ref h6, .ref h7, .ref h8, .ref h9, .int 0, .int 0, .int 0, .ref h10, .ref h11, .ref h12, .ref h13, .int 0, .int 0, .ref h14, .ref h15, .ref h16, .ref h17, .int 0, .int 0, .ref h18, .ref h19, .ref h20, .ref h21]))] sz)) 0 0 (va_A [(h0, .inr (8, [.int 2, .int 0, .int (-1770082073), .int 0, .int 0, .int 0, .ref h1, .ref h2, .int 0, .int 0, .ref h3, .ref h4, .ref h5, .ref h6, .ref h7, .ref h8, .ref h9, .int 0, .int 0, .int 0, .ref h10, .ref h11, .ref h12, .ref h13, .int 0, .int 0, .ref h14, .ref h15, .ref h16, .ref h17, .int 0, .int 0, .ref h18, .ref h19, .ref h20, .ref h21]))] sz) := by
  refine begin_ (Qc := fun A => qI (BX11_drawn_3 D k h0 h1 h2 h3 h4 h5 h6 h7 h8 h9 h10 h11 h12 h13 h14 h15 h16 h17 h18 h19 h20 h21 A) A) (by decide) (Nat.le_of_ble_eq_true rfl) ?_
  intro p e s m below meth c ls A hx hb hr hml hown hlocks hin hU hK hsz hP hD hS hA hl
  have hl : lv_has ls 2 [(0, .ref h0), (1, .int 5)] := hl
  clear hsz
  refine lv_aload_n hx hb dX11_drawn_0 rfl (lv_at hl 0 rfl) ?_
  refine lv_aload_n hx hb dX11_drawn_1 rfl (lv_at hl 0 rfl) ?_
  refine va_get (D := D) (ci := 8) (v := .int (-1770082073)) (C := RX11) (T := TX11) (N := 36) hx hb hU iX11 hown hK.1 hP 0 rfl rfl 2 (by decide) (hU _ w787) (fun _ h9 => h9) rfl dX11_drawn_2 ?_
  refine lv_ldcw hx hb hown (hU _ w1178) dX11_drawn_5 ?_
  refine lv_imul hx hb dX11_drawn_8 (sv_i (v := 662811739) (by decide +kernel) ?_)
  refine lv_sipush (v := 12345) hx hb dX11_drawn_9 (by decide) ?_
  refine lv_iadd hx hb dX11_drawn_12 (sv_i (v := 662824084) (by decide +kernel) ?_)
  refine va_put (D := D) (ci := 8) (v := .int 662824084) (ty := .int) (C := RX11) (T := TX11) (N := 36) hx hb hU iX11 tyX11 tyX11_ok nmX11 hown hK.1 hP hD hS 0 rfl rfl 2 (by decide) (hU _ w787) (fun _ h9 => h9) rfl (by decide +kernel) rfl rfl (Nat.le_of_ble_eq_true rfl) dX11_drawn_13 (fun H locs hP hD hS => ?_)
  have hP : va_P D cl0 [(h0, .inr (8, [.int 2, .int 0, .int 662824084, .int 0, .int 0, .int 0, .ref h1, .ref h2, .int 0, .int 0, .ref h3, .ref h4, .ref h5, .ref h6, .ref h7, .ref h8, .ref h9, .int 0, .int 0, .int 0, .ref h10, .ref h11, .ref h12, .ref h13, .int 0, .int 0, .ref h14, .ref h15, .ref h16, .ref h17, .int 0, .int 0, .ref h18, .ref h19, .ref h20, .ref h21]))] H := hP
  have hD : va_D A [(h0, .inr (8, [.int 2, .int 0, .int 662824084, .int 0, .int 0, .int 0, .ref h1, .ref h2, .int 0, .int 0, .ref h3, .ref h4, .ref h5, .ref h6, .ref h7, .ref h8, .ref h9, .int 0, .int 0, .int 0, .ref h10, .ref h11, .ref h12, .ref h13, .int 0, .int 0, .ref h14, .ref h15, .ref h16, .ref h17, .int 0, .int 0, .ref h18, .ref h19, .ref h20, .ref h21]))] := hD
  refine lv_aload_n hx hb dX11_drawn_16 rfl (lv_at hl 0 rfl) ?_
  refine va_get (D := D) (ci := 8) (v := .int 662824084) (C := RX11) (T := TX11) (N := 36) hx hb hU iX11 hown hK.1 hP 0 rfl rfl 2 (by decide) (hU _ w787) (fun _ h9 => h9) rfl dX11_drawn_17 ?_
  refine lv_bipush (v := 16) hx hb dX11_drawn_20 (by decide) ?_
  refine lv_iushr (v := 10113) hx hb dX11_drawn_22 (by decide +kernel) ?_
  refine lv_iload_n hx hb dX11_drawn_23 rfl (lv_at hl 1 rfl) ?_
  refine lv_irem hx hb dX11_drawn_24 (by decide +kernel) (sv_i (v := 3) (by decide +kernel) ?_)
  exact retI (v := 3) hx hb hr hlocks hS (⟨rfl, hP, hD⟩) dX11_drawn_25
abbrev BX11_first_2 (D : va_G) (k : Nat → ClassId) (h0 h1 h2 h3 h4 h5 h6 h7 h8 h9 h10 h11 h12 h13 h14 h15 h16 h17 h18 h19 h20 h21 : Nat) (A : Nat → Prop) (H : Heap) : Prop := va_P D cl0 [(h1, .inr (8, [.int 2, .int 0, .int 662824084, .int 0, .int 0, .int 0, .ref h2, .ref h3, .int 0, .int 0, .ref h0, .ref h4, .ref h5, .ref h6, .ref h7, .ref h8, .ref h9, .int 0, .int 0, .int 0, .ref h10, .ref h11, .ref h12, .ref h13, .int 0, .int 0, .ref h14, .ref h15, .ref h16, .ref h17, .int 0, .int 0, .ref h18, .ref h19, .ref h20, .ref h21])), (h0, .inl (k 1, 9, .inr (.inl (tL [1, 0, 0, 0, 1, 0, 0, 0, 0] 0))))] H ∧ va_D A [(h1, .inr (8, [.int 2, .int 0, .int 662824084, .int 0, .int 0, .int 0, .ref h2, .ref h3, .int 0, .int 0, .ref h0, .ref h4, .ref h5, .ref h6, .ref h7, .ref h8, .ref h9, .int 0, .int 0, .int 0, .ref h10, .ref h11, .ref h12, .ref h13, .int 0, .int 0, .ref h14, .ref h15, .ref h16, .ref h17, .int 0, .int 0, .ref h18, .ref h19, .ref h20, .ref h21])), (h0, .inl (k 1, 9, .inr (.inl (tL [1, 0, 0, 0, 1, 0, 0, 0, 0] 0))))]
set_option maxHeartbeats 4000000 in
set_option maxRecDepth 100000 in
theorem cX11_first_2 (l : Launch) (D : va_G) (k : Nat → ClassId) (sz : Nat) (h0 h1 h2 h3 h4 h5 h6 h7 h8 h9 h10 h11 h12 h13 h14 h15 h16 h17 h18 h19 h20 h21 : Nat) : Met l yX11_first (Cond.code yX11_first cX11_first 3 none :: uw) ({ frames := 1, cells := 0, slots := 0, locals := 22 }) (pC D k sz [.ref h1, .ref h0] [(h0, .inl (k 1, 9, .inr (.inl (tL [] 0)))), (h1, .inr (8, [.int 2, .int 0, .int 662824084, .int 0, .int 0, .int 0, .ref h2, .ref h3, .int 0, .int 0, .ref h0, .ref h4, .ref h5, .ref h6, .ref h7, .ref h8, .ref h9, .int 0, .int 0, .int 0, .ref h10, .ref h11, .ref h12, .ref h13, .int 0, .int 0, .ref h14, .ref h15, .ref h16, .ref h17, .int 0, .int 0, .ref h18, .ref h19, .ref h20, .ref h21]))]) (qV (BX11_first_2 D k h0 h1 h2 h3 h4 h5 h6 h7 h8 h9 h10 h11 h12 h13 h14 h15 h16 h17 h18 h19 h20 h21 (va_A [(h0, .inl (k 1, 9, .inr (.inl (tL [] 0)))), (h1, .inr (8, [.int 2, .int 0, .int 662824084, .int 0, .int 0, .int 0, .ref h2, .ref h3, .int 0, .int 0, .ref h0, .ref h4, .ref h5, .ref h6, .ref h7, .ref h8, .ref h9, .int 0, .int 0, .int 0, .ref h10, .ref h11, .ref h12, .ref h13, .int 0, .int 0, .ref h14, .ref h15, .ref h16, .ref h17, .int 0, .int 0, .ref h18, .ref h19, .ref h20, .ref h21]))] sz)) (va_A [(h0, .inl (k 1, 9, .inr (.inl (tL [] 0)))), (h1, .inr (8, [.int 2, .int 0, .int 662824084, .int 0, .int 0, .int 0, .ref h2, .ref h3, .int 0, .int 0, .ref h0, .ref h4, .ref h5, .ref h6, .ref h7, .ref h8, .ref h9, .int 0, .int 0, .int 0, .ref h10, .ref h11, .ref h12, .ref h13, .int 0, .int 0, .ref h14, .ref h15, .ref h16, .ref h17, .int 0, .int 0, .ref h18, .ref h19, .ref h20, .ref h21]))] sz)) 0 0 (va_A [(h0, .inl (k 1, 9, .inr (.inl (tL [] 0)))), (h1, .inr (8, [.int 2, .int 0, .int 662824084, .int 0, .int 0, .int 0, .ref h2, .ref h3, .int 0, .int 0, .ref h0, .ref h4, .ref h5, .ref h6, .ref h7, .ref h8, .ref h9, .int 0, .int 0, .int 0, .ref h10, .ref h11, .ref h12, .ref h13, .int 0, .int 0, .ref h14, .ref h15, .ref h16, .ref h17, .int 0, .int 0, .ref h18, .ref h19, .ref h20, .ref h21]))] sz) := by
  refine begin_ (Qc := fun A => qV (BX11_first_2 D k h0 h1 h2 h3 h4 h5 h6 h7 h8 h9 h10 h11 h12 h13 h14 h15 h16 h17 h18 h19 h20 h21 A) A) (by decide) (Nat.le_of_ble_eq_true rfl) ?_
  intro p e s m below meth c ls A hx hb hr hml hown hlocks hin hU hK hsz hP hD hS hA hl
  have hl : lv_has ls 3 [(0, .ref h1), (1, .ref h0)] := hl
  clear hsz
  refine lv_aload_n hx hb dX11_first_0 rfl (lv_at hl 0 rfl) ?_
  refine lv_aload_n hx hb dX11_first_1 rfl (lv_at hl 1 rfl) ?_
  refine cV (rV (q0 := 1) (ci := 8) (As := [.ref h0]) (rest := []) (wc := [(h0, .inl (k 1, 9, .inr (.inl (tL [] 0))))]) hx hb hml hown hU hK hP hD rfl rfl [0] rfl (by decide) (cX11_clears_1 l D k _ h0 h1) w923 w920 w922 w29 w72 hdX11_clears ⟨rfl, rfl⟩ ⟨Nat.le_of_ble_eq_true rfl, Nat.le_of_ble_eq_true rfl⟩ rfl hl.1 (Nat.le_of_ble_eq_true rfl) dX11_first_2 ⟨Nat.le_of_ble_eq_true rfl, Nat.le_of_ble_eq_true rfl⟩) hP hD hS hA (wr := [(h1, .inr (8, [.int 2, .int 0, .int 662824084, .int 0, .int 0, .int 0, .ref h2, .ref h3, .int 0, .int 0, .ref h0, .ref h4, .ref h5, .ref h6, .ref h7, .ref h8, .ref h9, .int 0, .int 0, .int 0, .ref h10, .ref h11, .ref h12, .ref h13, .int 0, .int 0, .ref h14, .ref h15, .ref h16, .ref h17, .int 0, .int 0, .ref h18, .ref h19, .ref h20, .ref h21]))]) [0] [1] rfl rfl (by decide) (by decide) (fun H locs hB J hS => ?_)
  obtain ⟨hP1, hD1⟩ := hB
  obtain ⟨hP, hD⟩ := J _ hP1 hD1
  have hP : va_P D cl0 [(h1, .inr (8, [.int 2, .int 0, .int 662824084, .int 0, .int 0, .int 0, .ref h2, .ref h3, .int 0, .int 0, .ref h0, .ref h4, .ref h5, .ref h6, .ref h7, .ref h8, .ref h9, .int 0, .int 0, .int 0, .ref h10, .ref h11, .ref h12, .ref h13, .int 0, .int 0, .ref h14, .ref h15, .ref h16, .ref h17, .int 0, .int 0, .ref h18, .ref h19, .ref h20, .ref h21])), (h0, .inl (k 1, 9, .inr (.inl (tL [0, 0, 0, 0, 0, 0, 0, 0, 0] 0))))] H := hP
  have hD : va_D A [(h1, .inr (8, [.int 2, .int 0, .int 662824084, .int 0, .int 0, .int 0, .ref h2, .ref h3, .int 0, .int 0, .ref h0, .ref h4, .ref h5, .ref h6, .ref h7, .ref h8, .ref h9, .int 0, .int 0, .int 0, .ref h10, .ref h11, .ref h12, .ref h13, .int 0, .int 0, .ref h14, .ref h15, .ref h16, .ref h17, .int 0, .int 0, .ref h18, .ref h19, .ref h20, .ref h21])), (h0, .inl (k 1, 9, .inr (.inl (tL [0, 0, 0, 0, 0, 0, 0, 0, 0] 0))))] := hD
  refine lv_iconst (v := 0) hx hb dX11_first_5 (by decide) ?_
  refine lv_istore_n (lv' := [(2, .int 0), (0, .ref h1), (1, .ref h0)]) hx hb dX11_first_6 rfl hl (by decide) rfl (fun ls hl => ?_)
  refine lv_iload_n hx hb dX11_first_7 rfl (lv_at hl 0 rfl) ?_
  refine lv_aload_n hx hb dX11_first_8 rfl (lv_at hl 1 rfl) ?_
  refine va_get (D := D) (ci := 8) (v := .int 2) (C := RX11) (T := TX11) (N := 36) hx hb hU iX11 hown hK.1 hP 0 rfl rfl 0 (by decide) (hU _ w785) (fun _ h9 => h9) rfl dX11_first_9 ?_
  refine lv_icmp_ge (tgt := 27) hx hb dX11_first_12 (by decide) (fun cc => absurd cc (by decide +kernel)) (fun _ => ?_)
  refine lv_aload_n hx hb dX11_first_15 rfl (lv_at hl 2 rfl) ?_
  refine lv_iconst (v := 4) hx hb dX11_first_16 (by decide) ?_
  refine lv_iload_n hx hb dX11_first_17 rfl (lv_at hl 0 rfl) ?_
  refine lv_imul hx hb dX11_first_18 (sv_i (v := 0) (by decide +kernel) ?_)
  refine lv_lconst (v := 1) hx hb dX11_first_19 (by decide) ?_
  refine st_l (j := 0) (g := tL [1, 0, 0, 0, 0, 0, 0, 0, 0] 0) hx hb hK hP hD hS 1 rfl (by decide +kernel) upd_tL dX11_first_20 (fun H locs hP hD hS => ?_)
  have hP : va_P D cl0 [(h1, .inr (8, [.int 2, .int 0, .int 662824084, .int 0, .int 0, .int 0, .ref h2, .ref h3, .int 0, .int 0, .ref h0, .ref h4, .ref h5, .ref h6, .ref h7, .ref h8, .ref h9, .int 0, .int 0, .int 0, .ref h10, .ref h11, .ref h12, .ref h13, .int 0, .int 0, .ref h14, .ref h15, .ref h16, .ref h17, .int 0, .int 0, .ref h18, .ref h19, .ref h20, .ref h21])), (h0, .inl (k 1, 9, .inr (.inl (tL [1, 0, 0, 0, 0, 0, 0, 0, 0] 0))))] H := hP
  have hD : va_D A [(h1, .inr (8, [.int 2, .int 0, .int 662824084, .int 0, .int 0, .int 0, .ref h2, .ref h3, .int 0, .int 0, .ref h0, .ref h4, .ref h5, .ref h6, .ref h7, .ref h8, .ref h9, .int 0, .int 0, .int 0, .ref h10, .ref h11, .ref h12, .ref h13, .int 0, .int 0, .ref h14, .ref h15, .ref h16, .ref h17, .int 0, .int 0, .ref h18, .ref h19, .ref h20, .ref h21])), (h0, .inl (k 1, 9, .inr (.inl (tL [1, 0, 0, 0, 0, 0, 0, 0, 0] 0))))] := hD
  refine lv_iinc (v := 1) (lv' := [(2, .int 1), (0, .ref h1), (1, .ref h0)]) hx hb dX11_first_21 hl (k := 0) rfl (by decide) (by decide) rfl (fun ls hl => ?_)
  refine lv_goto (tgt := 7) hx hb dX11_first_24 (by decide) ?_
  refine lv_iload_n hx hb dX11_first_7 rfl (lv_at hl 0 rfl) ?_
  refine lv_aload_n hx hb dX11_first_8 rfl (lv_at hl 1 rfl) ?_
  refine va_get (D := D) (ci := 8) (v := .int 2) (C := RX11) (T := TX11) (N := 36) hx hb hU iX11 hown hK.1 hP 0 rfl rfl 0 (by decide) (hU _ w785) (fun _ h9 => h9) rfl dX11_first_9 ?_
  refine lv_icmp_ge (tgt := 27) hx hb dX11_first_12 (by decide) (fun cc => absurd cc (by decide +kernel)) (fun _ => ?_)
  refine lv_aload_n hx hb dX11_first_15 rfl (lv_at hl 2 rfl) ?_
  refine lv_iconst (v := 4) hx hb dX11_first_16 (by decide) ?_
  refine lv_iload_n hx hb dX11_first_17 rfl (lv_at hl 0 rfl) ?_
  refine lv_imul hx hb dX11_first_18 (sv_i (v := 4) (by decide +kernel) ?_)
  refine lv_lconst (v := 1) hx hb dX11_first_19 (by decide) ?_
  refine st_l (j := 4) (g := tL [1, 0, 0, 0, 1, 0, 0, 0, 0] 0) hx hb hK hP hD hS 1 rfl (by decide +kernel) upd_tL dX11_first_20 (fun H locs hP hD hS => ?_)
  have hP : va_P D cl0 [(h1, .inr (8, [.int 2, .int 0, .int 662824084, .int 0, .int 0, .int 0, .ref h2, .ref h3, .int 0, .int 0, .ref h0, .ref h4, .ref h5, .ref h6, .ref h7, .ref h8, .ref h9, .int 0, .int 0, .int 0, .ref h10, .ref h11, .ref h12, .ref h13, .int 0, .int 0, .ref h14, .ref h15, .ref h16, .ref h17, .int 0, .int 0, .ref h18, .ref h19, .ref h20, .ref h21])), (h0, .inl (k 1, 9, .inr (.inl (tL [1, 0, 0, 0, 1, 0, 0, 0, 0] 0))))] H := hP
  have hD : va_D A [(h1, .inr (8, [.int 2, .int 0, .int 662824084, .int 0, .int 0, .int 0, .ref h2, .ref h3, .int 0, .int 0, .ref h0, .ref h4, .ref h5, .ref h6, .ref h7, .ref h8, .ref h9, .int 0, .int 0, .int 0, .ref h10, .ref h11, .ref h12, .ref h13, .int 0, .int 0, .ref h14, .ref h15, .ref h16, .ref h17, .int 0, .int 0, .ref h18, .ref h19, .ref h20, .ref h21])), (h0, .inl (k 1, 9, .inr (.inl (tL [1, 0, 0, 0, 1, 0, 0, 0, 0] 0))))] := hD
  refine lv_iinc (v := 2) (lv' := [(2, .int 2), (0, .ref h1), (1, .ref h0)]) hx hb dX11_first_21 hl (k := 0) rfl (by decide) (by decide) rfl (fun ls hl => ?_)
  refine lv_goto (tgt := 7) hx hb dX11_first_24 (by decide) ?_
  refine lv_iload_n hx hb dX11_first_7 rfl (lv_at hl 0 rfl) ?_
  refine lv_aload_n hx hb dX11_first_8 rfl (lv_at hl 1 rfl) ?_
  refine va_get (D := D) (ci := 8) (v := .int 2) (C := RX11) (T := TX11) (N := 36) hx hb hU iX11 hown hK.1 hP 0 rfl rfl 0 (by decide) (hU _ w785) (fun _ h9 => h9) rfl dX11_first_9 ?_
  refine lv_icmp_ge (tgt := 27) hx hb dX11_first_12 (by decide) (fun _ => ?_) (fun cc => absurd (by decide +kernel) cc)
  exact retV hx hb hr hlocks hS (⟨hP, hD⟩) dX11_first_27
abbrev BX11_makesUnit_7 (D : va_G) (k : Nat → ClassId) (h0 h1 h2 h3 h4 h5 h6 h7 h8 h9 h10 h11 h12 h13 h14 h15 h16 h17 h18 h19 h20 h21 : Nat) (A : Nat → Prop) (H : Heap) : Prop := va_P D cl0 [(h0, .inr (8, [.int 2, .int 0, .int 662824084, .int 0, .int 0, .int 0, .ref h2, .ref h3, .int 0, .int 0, .ref h1, .ref h4, .ref h5, .ref h6, .ref h7, .ref h8, .ref h9, .int 0, .int 0, .int 0, .ref h10, .ref h11, .ref h12, .ref h13, .int 0, .int 0, .ref h14, .ref h15, .ref h16, .ref h17, .int 0, .int 0, .ref h18, .ref h19, .ref h20, .ref h21])), (h1, .inl (k 1, 9, .inr (.inl (tL [(-1), 0, 0, 0, 1, 0, 0, 0, 0] 0))))] H ∧ va_D A [(h0, .inr (8, [.int 2, .int 0, .int 662824084, .int 0, .int 0, .int 0, .ref h2, .ref h3, .int 0, .int 0, .ref h1, .ref h4, .ref h5, .ref h6, .ref h7, .ref h8, .ref h9, .int 0, .int 0, .int 0, .ref h10, .ref h11, .ref h12, .ref h13, .int 0, .int 0, .ref h14, .ref h15, .ref h16, .ref h17, .int 0, .int 0, .ref h18, .ref h19, .ref h20, .ref h21])), (h1, .inl (k 1, 9, .inr (.inl (tL [(-1), 0, 0, 0, 1, 0, 0, 0, 0] 0))))]
set_option maxHeartbeats 4000000 in
set_option maxRecDepth 100000 in
theorem cX11_makesUnit_7 (l : Launch) (D : va_G) (k : Nat → ClassId) (sz : Nat) (h0 h1 h2 h3 h4 h5 h6 h7 h8 h9 h10 h11 h12 h13 h14 h15 h16 h17 h18 h19 h20 h21 : Nat) : Met l yX11_makesUnit (Cond.code yX11_makesUnit cX11_makesUnit 4 none :: uw) ({ frames := 2, cells := 0, slots := 0, locals := 44 }) (pC D k sz [.ref h0, .int 0, .int 0, .int (-1)] [(h0, .inr (8, [.int 2, .int 0, .int 662824084, .int 0, .int 0, .int 0, .ref h2, .ref h3, .int 0, .int 0, .ref h1, .ref h4, .ref h5, .ref h6, .ref h7, .ref h8, .ref h9, .int 0, .int 0, .int 0, .ref h10, .ref h11, .ref h12, .ref h13, .int 0, .int 0, .ref h14, .ref h15, .ref h16, .ref h17, .int 0, .int 0, .ref h18, .ref h19, .ref h20, .ref h21])), (h1, .inl (k 1, 9, .inr (.inl (tL [] 0))))]) (qV (BX11_makesUnit_7 D k h0 h1 h2 h3 h4 h5 h6 h7 h8 h9 h10 h11 h12 h13 h14 h15 h16 h17 h18 h19 h20 h21 (va_A [(h0, .inr (8, [.int 2, .int 0, .int 662824084, .int 0, .int 0, .int 0, .ref h2, .ref h3, .int 0, .int 0, .ref h1, .ref h4, .ref h5, .ref h6, .ref h7, .ref h8, .ref h9, .int 0, .int 0, .int 0, .ref h10, .ref h11, .ref h12, .ref h13, .int 0, .int 0, .ref h14, .ref h15, .ref h16, .ref h17, .int 0, .int 0, .ref h18, .ref h19, .ref h20, .ref h21])), (h1, .inl (k 1, 9, .inr (.inl (tL [] 0))))] sz)) (va_A [(h0, .inr (8, [.int 2, .int 0, .int 662824084, .int 0, .int 0, .int 0, .ref h2, .ref h3, .int 0, .int 0, .ref h1, .ref h4, .ref h5, .ref h6, .ref h7, .ref h8, .ref h9, .int 0, .int 0, .int 0, .ref h10, .ref h11, .ref h12, .ref h13, .int 0, .int 0, .ref h14, .ref h15, .ref h16, .ref h17, .int 0, .int 0, .ref h18, .ref h19, .ref h20, .ref h21])), (h1, .inl (k 1, 9, .inr (.inl (tL [] 0))))] sz)) 0 0 (va_A [(h0, .inr (8, [.int 2, .int 0, .int 662824084, .int 0, .int 0, .int 0, .ref h2, .ref h3, .int 0, .int 0, .ref h1, .ref h4, .ref h5, .ref h6, .ref h7, .ref h8, .ref h9, .int 0, .int 0, .int 0, .ref h10, .ref h11, .ref h12, .ref h13, .int 0, .int 0, .ref h14, .ref h15, .ref h16, .ref h17, .int 0, .int 0, .ref h18, .ref h19, .ref h20, .ref h21])), (h1, .inl (k 1, 9, .inr (.inl (tL [] 0))))] sz) := by
  refine begin_ (Qc := fun A => qV (BX11_makesUnit_7 D k h0 h1 h2 h3 h4 h5 h6 h7 h8 h9 h10 h11 h12 h13 h14 h15 h16 h17 h18 h19 h20 h21 A) A) (by decide) (Nat.le_of_ble_eq_true rfl) ?_
  intro p e s m below meth c ls A hx hb hr hml hown hlocks hin hU hK hsz hP hD hS hA hl
  have hl : lv_has ls 4 [(0, .ref h0), (1, .int 0), (2, .int 0), (3, .int (-1))] := hl
  clear hsz
  refine lv_aload_n hx hb dX11_makesUnit_0 rfl (lv_at hl 0 rfl) ?_
  refine lv_aload_n hx hb dX11_makesUnit_1 rfl (lv_at hl 0 rfl) ?_
  refine va_get (D := D) (ci := 8) (v := .ref h1) (C := RX11) (T := TX11) (N := 36) hx hb hU iX11 hown hK.1 hP 0 rfl rfl 10 (by decide) (hU _ w795) (fun _ h9 => h9) rfl dX11_makesUnit_2 ?_
  refine cV (rV (q0 := 0) (ci := 8) (As := [.ref h1]) (rest := []) (wc := [(h1, .inl (k 1, 9, .inr (.inl (tL [] 0)))), (h0, .inr (8, [.int 2, .int 0, .int 662824084, .int 0, .int 0, .int 0, .ref h2, .ref h3, .int 0, .int 0, .ref h1, .ref h4, .ref h5, .ref h6, .ref h7, .ref h8, .ref h9, .int 0, .int 0, .int 0, .ref h10, .ref h11, .ref h12, .ref h13, .int 0, .int 0, .ref h14, .ref h15, .ref h16, .ref h17, .int 0, .int 0, .ref h18, .ref h19, .ref h20, .ref h21]))]) hx hb hml hown hU hK hP hD rfl rfl [1, 0] rfl (by decide) (cX11_first_2 l D k _ h1 h0 h2 h3 h4 h5 h6 h7 h8 h9 h10 h11 h12 h13 h14 h15 h16 h17 h18 h19 h20 h21) w919 w916 w918 w28 w72 hdX11_first ⟨rfl, rfl⟩ ⟨Nat.le_of_ble_eq_true rfl, Nat.le_of_ble_eq_true rfl⟩ rfl hl.1 (Nat.le_of_ble_eq_true rfl) dX11_makesUnit_5 ⟨Nat.le_of_ble_eq_true rfl, Nat.le_of_ble_eq_true rfl⟩) hP hD hS hA (wr := []) [1, 0] [] rfl rfl (by decide) (by decide) (fun H locs hB J hS => ?_)
  obtain ⟨hP1, hD1⟩ := hB
  obtain ⟨hP, hD⟩ := J _ hP1 hD1
  have hP : va_P D cl0 [(h0, .inr (8, [.int 2, .int 0, .int 662824084, .int 0, .int 0, .int 0, .ref h2, .ref h3, .int 0, .int 0, .ref h1, .ref h4, .ref h5, .ref h6, .ref h7, .ref h8, .ref h9, .int 0, .int 0, .int 0, .ref h10, .ref h11, .ref h12, .ref h13, .int 0, .int 0, .ref h14, .ref h15, .ref h16, .ref h17, .int 0, .int 0, .ref h18, .ref h19, .ref h20, .ref h21])), (h1, .inl (k 1, 9, .inr (.inl (tL [1, 0, 0, 0, 1, 0, 0, 0, 0] 0))))] H := hP
  have hD : va_D A [(h0, .inr (8, [.int 2, .int 0, .int 662824084, .int 0, .int 0, .int 0, .ref h2, .ref h3, .int 0, .int 0, .ref h1, .ref h4, .ref h5, .ref h6, .ref h7, .ref h8, .ref h9, .int 0, .int 0, .int 0, .ref h10, .ref h11, .ref h12, .ref h13, .int 0, .int 0, .ref h14, .ref h15, .ref h16, .ref h17, .int 0, .int 0, .ref h18, .ref h19, .ref h20, .ref h21])), (h1, .inl (k 1, 9, .inr (.inl (tL [1, 0, 0, 0, 1, 0, 0, 0, 0] 0))))] := hD
  refine lv_aload_n hx hb dX11_makesUnit_8 rfl (lv_at hl 0 rfl) ?_
  refine va_get (D := D) (ci := 8) (v := .ref h1) (C := RX11) (T := TX11) (N := 36) hx hb hU iX11 hown hK.1 hP 0 rfl rfl 10 (by decide) (hU _ w795) (fun _ h9 => h9) rfl dX11_makesUnit_9 ?_
  refine lv_iconst (v := 3) hx hb dX11_makesUnit_12 (by decide) ?_
  refine lv_iload_n hx hb dX11_makesUnit_13 rfl (lv_at hl 1 rfl) ?_
  refine lv_imul hx hb dX11_makesUnit_14 (sv_i (v := 0) (by decide +kernel) ?_)
  refine lv_iload_n hx hb dX11_makesUnit_15 rfl (lv_at hl 2 rfl) ?_
  refine lv_iadd hx hb dX11_makesUnit_16 (sv_i (v := 0) (by decide +kernel) ?_)
  refine lv_iload_n hx hb dX11_makesUnit_17 rfl (lv_at hl 3 rfl) ?_
  refine lv_i2l (v := (-1)) hx hb dX11_makesUnit_18 (by decide +kernel) ?_
  refine st_l (j := 0) (g := tL [(-1), 0, 0, 0, 1, 0, 0, 0, 0] 0) hx hb hK hP hD hS 1 rfl (by decide +kernel) upd_tL dX11_makesUnit_19 (fun H locs hP hD hS => ?_)
  have hP : va_P D cl0 [(h0, .inr (8, [.int 2, .int 0, .int 662824084, .int 0, .int 0, .int 0, .ref h2, .ref h3, .int 0, .int 0, .ref h1, .ref h4, .ref h5, .ref h6, .ref h7, .ref h8, .ref h9, .int 0, .int 0, .int 0, .ref h10, .ref h11, .ref h12, .ref h13, .int 0, .int 0, .ref h14, .ref h15, .ref h16, .ref h17, .int 0, .int 0, .ref h18, .ref h19, .ref h20, .ref h21])), (h1, .inl (k 1, 9, .inr (.inl (tL [(-1), 0, 0, 0, 1, 0, 0, 0, 0] 0))))] H := hP
  have hD : va_D A [(h0, .inr (8, [.int 2, .int 0, .int 662824084, .int 0, .int 0, .int 0, .ref h2, .ref h3, .int 0, .int 0, .ref h1, .ref h4, .ref h5, .ref h6, .ref h7, .ref h8, .ref h9, .int 0, .int 0, .int 0, .ref h10, .ref h11, .ref h12, .ref h13, .int 0, .int 0, .ref h14, .ref h15, .ref h16, .ref h17, .int 0, .int 0, .ref h18, .ref h19, .ref h20, .ref h21])), (h1, .inl (k 1, 9, .inr (.inl (tL [(-1), 0, 0, 0, 1, 0, 0, 0, 0] 0))))] := hD
  exact retV hx hb hr hlocks hS (⟨hP, hD⟩) dX11_makesUnit_20
abbrev BX11_comes_6 (D : va_G) (k : Nat → ClassId) (h0 h1 h2 h3 h4 h5 h6 h7 h8 h9 h10 h11 h12 h13 h14 h15 h16 h17 h18 h19 h20 h21 : Nat) (A : Nat → Prop) (r : Int32) (H : Heap) : Prop := 0 = r ∧ va_P D cl0 [(h0, .inr (8, [.int 2, .int 1, .int 662824084, .int 0, .int 0, .int 0, .ref h2, .ref h3, .int 0, .int 0, .ref h1, .ref h4, .ref h5, .ref h6, .ref h7, .ref h8, .ref h9, .int 0, .int 0, .int 0, .ref h10, .ref h11, .ref h12, .ref h13, .int 0, .int 0, .ref h14, .ref h15, .ref h16, .ref h17, .int 0, .int 0, .ref h18, .ref h19, .ref h20, .ref h21])), (h1, .inl (k 1, 9, .inr (.inl (tL [(-1), 0, 0, 0, 1, 0, 0, 0, 0] 0)))), (h2, .inl (k 0, 36, .inl (tI [(-1), 0, 0, 0, 1, 0, 0, 0, 0] 0)))] H ∧ va_D A [(h0, .inr (8, [.int 2, .int 1, .int 662824084, .int 0, .int 0, .int 0, .ref h2, .ref h3, .int 0, .int 0, .ref h1, .ref h4, .ref h5, .ref h6, .ref h7, .ref h8, .ref h9, .int 0, .int 0, .int 0, .ref h10, .ref h11, .ref h12, .ref h13, .int 0, .int 0, .ref h14, .ref h15, .ref h16, .ref h17, .int 0, .int 0, .ref h18, .ref h19, .ref h20, .ref h21])), (h1, .inl (k 1, 9, .inr (.inl (tL [(-1), 0, 0, 0, 1, 0, 0, 0, 0] 0)))), (h2, .inl (k 0, 36, .inl (tI [(-1), 0, 0, 0, 1, 0, 0, 0, 0] 0)))]
set_option maxHeartbeats 4000000 in
set_option maxRecDepth 100000 in
theorem cX11_comes_6 (l : Launch) (D : va_G) (k : Nat → ClassId) (sz : Nat) (h0 h1 h2 h3 h4 h5 h6 h7 h8 h9 h10 h11 h12 h13 h14 h15 h16 h17 h18 h19 h20 h21 : Nat) : Met l yX11_comes (Cond.code yX11_comes cX11_comes 2 (some .int) :: uw) ({ frames := 0, cells := 0, slots := 0, locals := 0 }) (pC D k sz [.ref h0] [(h0, .inr (8, [.int 2, .int 0, .int 662824084, .int 0, .int 0, .int 0, .ref h2, .ref h3, .int 0, .int 0, .ref h1, .ref h4, .ref h5, .ref h6, .ref h7, .ref h8, .ref h9, .int 0, .int 0, .int 0, .ref h10, .ref h11, .ref h12, .ref h13, .int 0, .int 0, .ref h14, .ref h15, .ref h16, .ref h17, .int 0, .int 0, .ref h18, .ref h19, .ref h20, .ref h21])), (h1, .inl (k 1, 9, .inr (.inl (tL [(-1), 0, 0, 0, 1, 0, 0, 0, 0] 0)))), (h2, .inl (k 0, 36, .inl (tI [] 0)))]) (qI (BX11_comes_6 D k h0 h1 h2 h3 h4 h5 h6 h7 h8 h9 h10 h11 h12 h13 h14 h15 h16 h17 h18 h19 h20 h21 (va_A [(h0, .inr (8, [.int 2, .int 0, .int 662824084, .int 0, .int 0, .int 0, .ref h2, .ref h3, .int 0, .int 0, .ref h1, .ref h4, .ref h5, .ref h6, .ref h7, .ref h8, .ref h9, .int 0, .int 0, .int 0, .ref h10, .ref h11, .ref h12, .ref h13, .int 0, .int 0, .ref h14, .ref h15, .ref h16, .ref h17, .int 0, .int 0, .ref h18, .ref h19, .ref h20, .ref h21])), (h1, .inl (k 1, 9, .inr (.inl (tL [(-1), 0, 0, 0, 1, 0, 0, 0, 0] 0)))), (h2, .inl (k 0, 36, .inl (tI [] 0)))] sz)) (va_A [(h0, .inr (8, [.int 2, .int 0, .int 662824084, .int 0, .int 0, .int 0, .ref h2, .ref h3, .int 0, .int 0, .ref h1, .ref h4, .ref h5, .ref h6, .ref h7, .ref h8, .ref h9, .int 0, .int 0, .int 0, .ref h10, .ref h11, .ref h12, .ref h13, .int 0, .int 0, .ref h14, .ref h15, .ref h16, .ref h17, .int 0, .int 0, .ref h18, .ref h19, .ref h20, .ref h21])), (h1, .inl (k 1, 9, .inr (.inl (tL [(-1), 0, 0, 0, 1, 0, 0, 0, 0] 0)))), (h2, .inl (k 0, 36, .inl (tI [] 0)))] sz)) 0 0 (va_A [(h0, .inr (8, [.int 2, .int 0, .int 662824084, .int 0, .int 0, .int 0, .ref h2, .ref h3, .int 0, .int 0, .ref h1, .ref h4, .ref h5, .ref h6, .ref h7, .ref h8, .ref h9, .int 0, .int 0, .int 0, .ref h10, .ref h11, .ref h12, .ref h13, .int 0, .int 0, .ref h14, .ref h15, .ref h16, .ref h17, .int 0, .int 0, .ref h18, .ref h19, .ref h20, .ref h21])), (h1, .inl (k 1, 9, .inr (.inl (tL [(-1), 0, 0, 0, 1, 0, 0, 0, 0] 0)))), (h2, .inl (k 0, 36, .inl (tI [] 0)))] sz) := by
  refine begin_ (Qc := fun A => qI (BX11_comes_6 D k h0 h1 h2 h3 h4 h5 h6 h7 h8 h9 h10 h11 h12 h13 h14 h15 h16 h17 h18 h19 h20 h21 A) A) (by decide) (Nat.le_of_ble_eq_true rfl) ?_
  intro p e s m below meth c ls A hx hb hr hml hown hlocks hin hU hK hsz hP hD hS hA hl
  have hl : lv_has ls 2 [(0, .ref h0)] := hl
  clear hsz
  refine lv_iconst (v := 0) hx hb dX11_comes_0 (by decide) ?_
  refine lv_istore_n (lv' := [(1, .int 0), (0, .ref h0)]) hx hb dX11_comes_1 rfl hl (by decide) rfl (fun ls hl => ?_)
  refine lv_iload_n hx hb dX11_comes_2 rfl (lv_at hl 0 rfl) ?_
  refine lv_bipush (v := 9) hx hb dX11_comes_3 (by decide) ?_
  refine lv_icmp_ge (tgt := 35) hx hb dX11_comes_5 (by decide) (fun cc => absurd cc (by decide +kernel)) (fun _ => ?_)
  refine lv_aload_n hx hb dX11_comes_8 rfl (lv_at hl 1 rfl) ?_
  refine va_get (D := D) (ci := 8) (v := .ref h2) (C := RX11) (T := TX11) (N := 36) hx hb hU iX11 hown hK.1 hP 0 rfl rfl 6 (by decide) (hU _ w791) (fun _ h9 => h9) rfl dX11_comes_9 ?_
  refine lv_bipush (v := 9) hx hb dX11_comes_12 (by decide) ?_
  refine lv_aload_n hx hb dX11_comes_14 rfl (lv_at hl 1 rfl) ?_
  refine va_get (D := D) (ci := 8) (v := .int 0) (C := RX11) (T := TX11) (N := 36) hx hb hU iX11 hown hK.1 hP 0 rfl rfl 1 (by decide) (hU _ w786) (fun _ h9 => h9) rfl dX11_comes_15 ?_
  refine lv_imul hx hb dX11_comes_18 (sv_i (v := 0) (by decide +kernel) ?_)
  refine lv_iload_n hx hb dX11_comes_19 rfl (lv_at hl 0 rfl) ?_
  refine lv_iadd hx hb dX11_comes_20 (sv_i (v := 0) (by decide +kernel) ?_)
  refine lv_aload_n hx hb dX11_comes_21 rfl (lv_at hl 1 rfl) ?_
  refine va_get (D := D) (ci := 8) (v := .ref h1) (C := RX11) (T := TX11) (N := 36) hx hb hU iX11 hown hK.1 hP 0 rfl rfl 10 (by decide) (hU _ w795) (fun _ h9 => h9) rfl dX11_comes_22 ?_
  refine lv_iload_n hx hb dX11_comes_25 rfl (lv_at hl 0 rfl) ?_
  refine ld_l (j := 0) (v := (-1)) hx hb hK hP 1 rfl (by decide +kernel) rfl dX11_comes_26 ?_
  refine lv_l2i (v := (-1)) hx hb dX11_comes_27 (by decide +kernel) ?_
  refine st_i (j := 0) (g := tI [(-1)] 0) hx hb hK hP hD hS 2 rfl (by decide +kernel) upd_tI dX11_comes_28 (fun H locs hP hD hS => ?_)
  have hP : va_P D cl0 [(h0, .inr (8, [.int 2, .int 0, .int 662824084, .int 0, .int 0, .int 0, .ref h2, .ref h3, .int 0, .int 0, .ref h1, .ref h4, .ref h5, .ref h6, .ref h7, .ref h8, .ref h9, .int 0, .int 0, .int 0, .ref h10, .ref h11, .ref h12, .ref h13, .int 0, .int 0, .ref h14, .ref h15, .ref h16, .ref h17, .int 0, .int 0, .ref h18, .ref h19, .ref h20, .ref h21])), (h1, .inl (k 1, 9, .inr (.inl (tL [(-1), 0, 0, 0, 1, 0, 0, 0, 0] 0)))), (h2, .inl (k 0, 36, .inl (tI [(-1)] 0)))] H := hP
  have hD : va_D A [(h0, .inr (8, [.int 2, .int 0, .int 662824084, .int 0, .int 0, .int 0, .ref h2, .ref h3, .int 0, .int 0, .ref h1, .ref h4, .ref h5, .ref h6, .ref h7, .ref h8, .ref h9, .int 0, .int 0, .int 0, .ref h10, .ref h11, .ref h12, .ref h13, .int 0, .int 0, .ref h14, .ref h15, .ref h16, .ref h17, .int 0, .int 0, .ref h18, .ref h19, .ref h20, .ref h21])), (h1, .inl (k 1, 9, .inr (.inl (tL [(-1), 0, 0, 0, 1, 0, 0, 0, 0] 0)))), (h2, .inl (k 0, 36, .inl (tI [(-1)] 0)))] := hD
  refine lv_iinc (v := 1) (lv' := [(1, .int 1), (0, .ref h0)]) hx hb dX11_comes_29 hl (k := 0) rfl (by decide) (by decide) rfl (fun ls hl => ?_)
  refine lv_goto (tgt := 2) hx hb dX11_comes_32 (by decide) ?_
  refine lv_iload_n hx hb dX11_comes_2 rfl (lv_at hl 0 rfl) ?_
  refine lv_bipush (v := 9) hx hb dX11_comes_3 (by decide) ?_
  refine lv_icmp_ge (tgt := 35) hx hb dX11_comes_5 (by decide) (fun cc => absurd cc (by decide +kernel)) (fun _ => ?_)
  refine lv_aload_n hx hb dX11_comes_8 rfl (lv_at hl 1 rfl) ?_
  refine va_get (D := D) (ci := 8) (v := .ref h2) (C := RX11) (T := TX11) (N := 36) hx hb hU iX11 hown hK.1 hP 0 rfl rfl 6 (by decide) (hU _ w791) (fun _ h9 => h9) rfl dX11_comes_9 ?_
  refine lv_bipush (v := 9) hx hb dX11_comes_12 (by decide) ?_
  refine lv_aload_n hx hb dX11_comes_14 rfl (lv_at hl 1 rfl) ?_
  refine va_get (D := D) (ci := 8) (v := .int 0) (C := RX11) (T := TX11) (N := 36) hx hb hU iX11 hown hK.1 hP 0 rfl rfl 1 (by decide) (hU _ w786) (fun _ h9 => h9) rfl dX11_comes_15 ?_
  refine lv_imul hx hb dX11_comes_18 (sv_i (v := 0) (by decide +kernel) ?_)
  refine lv_iload_n hx hb dX11_comes_19 rfl (lv_at hl 0 rfl) ?_
  refine lv_iadd hx hb dX11_comes_20 (sv_i (v := 1) (by decide +kernel) ?_)
  refine lv_aload_n hx hb dX11_comes_21 rfl (lv_at hl 1 rfl) ?_
  refine va_get (D := D) (ci := 8) (v := .ref h1) (C := RX11) (T := TX11) (N := 36) hx hb hU iX11 hown hK.1 hP 0 rfl rfl 10 (by decide) (hU _ w795) (fun _ h9 => h9) rfl dX11_comes_22 ?_
  refine lv_iload_n hx hb dX11_comes_25 rfl (lv_at hl 0 rfl) ?_
  refine ld_l (j := 1) (v := 0) hx hb hK hP 1 rfl (by decide +kernel) rfl dX11_comes_26 ?_
  refine lv_l2i (v := 0) hx hb dX11_comes_27 (by decide +kernel) ?_
  refine st_i (j := 1) (g := tI [(-1), 0] 0) hx hb hK hP hD hS 2 rfl (by decide +kernel) upd_tI dX11_comes_28 (fun H locs hP hD hS => ?_)
  have hP : va_P D cl0 [(h0, .inr (8, [.int 2, .int 0, .int 662824084, .int 0, .int 0, .int 0, .ref h2, .ref h3, .int 0, .int 0, .ref h1, .ref h4, .ref h5, .ref h6, .ref h7, .ref h8, .ref h9, .int 0, .int 0, .int 0, .ref h10, .ref h11, .ref h12, .ref h13, .int 0, .int 0, .ref h14, .ref h15, .ref h16, .ref h17, .int 0, .int 0, .ref h18, .ref h19, .ref h20, .ref h21])), (h1, .inl (k 1, 9, .inr (.inl (tL [(-1), 0, 0, 0, 1, 0, 0, 0, 0] 0)))), (h2, .inl (k 0, 36, .inl (tI [(-1), 0] 0)))] H := hP
  have hD : va_D A [(h0, .inr (8, [.int 2, .int 0, .int 662824084, .int 0, .int 0, .int 0, .ref h2, .ref h3, .int 0, .int 0, .ref h1, .ref h4, .ref h5, .ref h6, .ref h7, .ref h8, .ref h9, .int 0, .int 0, .int 0, .ref h10, .ref h11, .ref h12, .ref h13, .int 0, .int 0, .ref h14, .ref h15, .ref h16, .ref h17, .int 0, .int 0, .ref h18, .ref h19, .ref h20, .ref h21])), (h1, .inl (k 1, 9, .inr (.inl (tL [(-1), 0, 0, 0, 1, 0, 0, 0, 0] 0)))), (h2, .inl (k 0, 36, .inl (tI [(-1), 0] 0)))] := hD
  refine lv_iinc (v := 2) (lv' := [(1, .int 2), (0, .ref h0)]) hx hb dX11_comes_29 hl (k := 0) rfl (by decide) (by decide) rfl (fun ls hl => ?_)
  refine lv_goto (tgt := 2) hx hb dX11_comes_32 (by decide) ?_
  refine lv_iload_n hx hb dX11_comes_2 rfl (lv_at hl 0 rfl) ?_
  refine lv_bipush (v := 9) hx hb dX11_comes_3 (by decide) ?_
  refine lv_icmp_ge (tgt := 35) hx hb dX11_comes_5 (by decide) (fun cc => absurd cc (by decide +kernel)) (fun _ => ?_)
  refine lv_aload_n hx hb dX11_comes_8 rfl (lv_at hl 1 rfl) ?_
  refine va_get (D := D) (ci := 8) (v := .ref h2) (C := RX11) (T := TX11) (N := 36) hx hb hU iX11 hown hK.1 hP 0 rfl rfl 6 (by decide) (hU _ w791) (fun _ h9 => h9) rfl dX11_comes_9 ?_
  refine lv_bipush (v := 9) hx hb dX11_comes_12 (by decide) ?_
  refine lv_aload_n hx hb dX11_comes_14 rfl (lv_at hl 1 rfl) ?_
  refine va_get (D := D) (ci := 8) (v := .int 0) (C := RX11) (T := TX11) (N := 36) hx hb hU iX11 hown hK.1 hP 0 rfl rfl 1 (by decide) (hU _ w786) (fun _ h9 => h9) rfl dX11_comes_15 ?_
  refine lv_imul hx hb dX11_comes_18 (sv_i (v := 0) (by decide +kernel) ?_)
  refine lv_iload_n hx hb dX11_comes_19 rfl (lv_at hl 0 rfl) ?_
  refine lv_iadd hx hb dX11_comes_20 (sv_i (v := 2) (by decide +kernel) ?_)
  refine lv_aload_n hx hb dX11_comes_21 rfl (lv_at hl 1 rfl) ?_
  refine va_get (D := D) (ci := 8) (v := .ref h1) (C := RX11) (T := TX11) (N := 36) hx hb hU iX11 hown hK.1 hP 0 rfl rfl 10 (by decide) (hU _ w795) (fun _ h9 => h9) rfl dX11_comes_22 ?_
  refine lv_iload_n hx hb dX11_comes_25 rfl (lv_at hl 0 rfl) ?_
  refine ld_l (j := 2) (v := 0) hx hb hK hP 1 rfl (by decide +kernel) rfl dX11_comes_26 ?_
  refine lv_l2i (v := 0) hx hb dX11_comes_27 (by decide +kernel) ?_
  refine st_i (j := 2) (g := tI [(-1), 0, 0] 0) hx hb hK hP hD hS 2 rfl (by decide +kernel) upd_tI dX11_comes_28 (fun H locs hP hD hS => ?_)
  have hP : va_P D cl0 [(h0, .inr (8, [.int 2, .int 0, .int 662824084, .int 0, .int 0, .int 0, .ref h2, .ref h3, .int 0, .int 0, .ref h1, .ref h4, .ref h5, .ref h6, .ref h7, .ref h8, .ref h9, .int 0, .int 0, .int 0, .ref h10, .ref h11, .ref h12, .ref h13, .int 0, .int 0, .ref h14, .ref h15, .ref h16, .ref h17, .int 0, .int 0, .ref h18, .ref h19, .ref h20, .ref h21])), (h1, .inl (k 1, 9, .inr (.inl (tL [(-1), 0, 0, 0, 1, 0, 0, 0, 0] 0)))), (h2, .inl (k 0, 36, .inl (tI [(-1), 0, 0] 0)))] H := hP
  have hD : va_D A [(h0, .inr (8, [.int 2, .int 0, .int 662824084, .int 0, .int 0, .int 0, .ref h2, .ref h3, .int 0, .int 0, .ref h1, .ref h4, .ref h5, .ref h6, .ref h7, .ref h8, .ref h9, .int 0, .int 0, .int 0, .ref h10, .ref h11, .ref h12, .ref h13, .int 0, .int 0, .ref h14, .ref h15, .ref h16, .ref h17, .int 0, .int 0, .ref h18, .ref h19, .ref h20, .ref h21])), (h1, .inl (k 1, 9, .inr (.inl (tL [(-1), 0, 0, 0, 1, 0, 0, 0, 0] 0)))), (h2, .inl (k 0, 36, .inl (tI [(-1), 0, 0] 0)))] := hD
  refine lv_iinc (v := 3) (lv' := [(1, .int 3), (0, .ref h0)]) hx hb dX11_comes_29 hl (k := 0) rfl (by decide) (by decide) rfl (fun ls hl => ?_)
  refine lv_goto (tgt := 2) hx hb dX11_comes_32 (by decide) ?_
  refine lv_iload_n hx hb dX11_comes_2 rfl (lv_at hl 0 rfl) ?_
  refine lv_bipush (v := 9) hx hb dX11_comes_3 (by decide) ?_
  refine lv_icmp_ge (tgt := 35) hx hb dX11_comes_5 (by decide) (fun cc => absurd cc (by decide +kernel)) (fun _ => ?_)
  refine lv_aload_n hx hb dX11_comes_8 rfl (lv_at hl 1 rfl) ?_
  refine va_get (D := D) (ci := 8) (v := .ref h2) (C := RX11) (T := TX11) (N := 36) hx hb hU iX11 hown hK.1 hP 0 rfl rfl 6 (by decide) (hU _ w791) (fun _ h9 => h9) rfl dX11_comes_9 ?_
  refine lv_bipush (v := 9) hx hb dX11_comes_12 (by decide) ?_
  refine lv_aload_n hx hb dX11_comes_14 rfl (lv_at hl 1 rfl) ?_
  refine va_get (D := D) (ci := 8) (v := .int 0) (C := RX11) (T := TX11) (N := 36) hx hb hU iX11 hown hK.1 hP 0 rfl rfl 1 (by decide) (hU _ w786) (fun _ h9 => h9) rfl dX11_comes_15 ?_
  refine lv_imul hx hb dX11_comes_18 (sv_i (v := 0) (by decide +kernel) ?_)
  refine lv_iload_n hx hb dX11_comes_19 rfl (lv_at hl 0 rfl) ?_
  refine lv_iadd hx hb dX11_comes_20 (sv_i (v := 3) (by decide +kernel) ?_)
  refine lv_aload_n hx hb dX11_comes_21 rfl (lv_at hl 1 rfl) ?_
  refine va_get (D := D) (ci := 8) (v := .ref h1) (C := RX11) (T := TX11) (N := 36) hx hb hU iX11 hown hK.1 hP 0 rfl rfl 10 (by decide) (hU _ w795) (fun _ h9 => h9) rfl dX11_comes_22 ?_
  refine lv_iload_n hx hb dX11_comes_25 rfl (lv_at hl 0 rfl) ?_
  refine ld_l (j := 3) (v := 0) hx hb hK hP 1 rfl (by decide +kernel) rfl dX11_comes_26 ?_
  refine lv_l2i (v := 0) hx hb dX11_comes_27 (by decide +kernel) ?_
  refine st_i (j := 3) (g := tI [(-1), 0, 0, 0] 0) hx hb hK hP hD hS 2 rfl (by decide +kernel) upd_tI dX11_comes_28 (fun H locs hP hD hS => ?_)
  have hP : va_P D cl0 [(h0, .inr (8, [.int 2, .int 0, .int 662824084, .int 0, .int 0, .int 0, .ref h2, .ref h3, .int 0, .int 0, .ref h1, .ref h4, .ref h5, .ref h6, .ref h7, .ref h8, .ref h9, .int 0, .int 0, .int 0, .ref h10, .ref h11, .ref h12, .ref h13, .int 0, .int 0, .ref h14, .ref h15, .ref h16, .ref h17, .int 0, .int 0, .ref h18, .ref h19, .ref h20, .ref h21])), (h1, .inl (k 1, 9, .inr (.inl (tL [(-1), 0, 0, 0, 1, 0, 0, 0, 0] 0)))), (h2, .inl (k 0, 36, .inl (tI [(-1), 0, 0, 0] 0)))] H := hP
  have hD : va_D A [(h0, .inr (8, [.int 2, .int 0, .int 662824084, .int 0, .int 0, .int 0, .ref h2, .ref h3, .int 0, .int 0, .ref h1, .ref h4, .ref h5, .ref h6, .ref h7, .ref h8, .ref h9, .int 0, .int 0, .int 0, .ref h10, .ref h11, .ref h12, .ref h13, .int 0, .int 0, .ref h14, .ref h15, .ref h16, .ref h17, .int 0, .int 0, .ref h18, .ref h19, .ref h20, .ref h21])), (h1, .inl (k 1, 9, .inr (.inl (tL [(-1), 0, 0, 0, 1, 0, 0, 0, 0] 0)))), (h2, .inl (k 0, 36, .inl (tI [(-1), 0, 0, 0] 0)))] := hD
  refine lv_iinc (v := 4) (lv' := [(1, .int 4), (0, .ref h0)]) hx hb dX11_comes_29 hl (k := 0) rfl (by decide) (by decide) rfl (fun ls hl => ?_)
  refine lv_goto (tgt := 2) hx hb dX11_comes_32 (by decide) ?_
  refine lv_iload_n hx hb dX11_comes_2 rfl (lv_at hl 0 rfl) ?_
  refine lv_bipush (v := 9) hx hb dX11_comes_3 (by decide) ?_
  refine lv_icmp_ge (tgt := 35) hx hb dX11_comes_5 (by decide) (fun cc => absurd cc (by decide +kernel)) (fun _ => ?_)
  refine lv_aload_n hx hb dX11_comes_8 rfl (lv_at hl 1 rfl) ?_
  refine va_get (D := D) (ci := 8) (v := .ref h2) (C := RX11) (T := TX11) (N := 36) hx hb hU iX11 hown hK.1 hP 0 rfl rfl 6 (by decide) (hU _ w791) (fun _ h9 => h9) rfl dX11_comes_9 ?_
  refine lv_bipush (v := 9) hx hb dX11_comes_12 (by decide) ?_
  refine lv_aload_n hx hb dX11_comes_14 rfl (lv_at hl 1 rfl) ?_
  refine va_get (D := D) (ci := 8) (v := .int 0) (C := RX11) (T := TX11) (N := 36) hx hb hU iX11 hown hK.1 hP 0 rfl rfl 1 (by decide) (hU _ w786) (fun _ h9 => h9) rfl dX11_comes_15 ?_
  refine lv_imul hx hb dX11_comes_18 (sv_i (v := 0) (by decide +kernel) ?_)
  refine lv_iload_n hx hb dX11_comes_19 rfl (lv_at hl 0 rfl) ?_
  refine lv_iadd hx hb dX11_comes_20 (sv_i (v := 4) (by decide +kernel) ?_)
  refine lv_aload_n hx hb dX11_comes_21 rfl (lv_at hl 1 rfl) ?_
  refine va_get (D := D) (ci := 8) (v := .ref h1) (C := RX11) (T := TX11) (N := 36) hx hb hU iX11 hown hK.1 hP 0 rfl rfl 10 (by decide) (hU _ w795) (fun _ h9 => h9) rfl dX11_comes_22 ?_
  refine lv_iload_n hx hb dX11_comes_25 rfl (lv_at hl 0 rfl) ?_
  refine ld_l (j := 4) (v := 1) hx hb hK hP 1 rfl (by decide +kernel) rfl dX11_comes_26 ?_
  refine lv_l2i (v := 1) hx hb dX11_comes_27 (by decide +kernel) ?_
  refine st_i (j := 4) (g := tI [(-1), 0, 0, 0, 1] 0) hx hb hK hP hD hS 2 rfl (by decide +kernel) upd_tI dX11_comes_28 (fun H locs hP hD hS => ?_)
  have hP : va_P D cl0 [(h0, .inr (8, [.int 2, .int 0, .int 662824084, .int 0, .int 0, .int 0, .ref h2, .ref h3, .int 0, .int 0, .ref h1, .ref h4, .ref h5, .ref h6, .ref h7, .ref h8, .ref h9, .int 0, .int 0, .int 0, .ref h10, .ref h11, .ref h12, .ref h13, .int 0, .int 0, .ref h14, .ref h15, .ref h16, .ref h17, .int 0, .int 0, .ref h18, .ref h19, .ref h20, .ref h21])), (h1, .inl (k 1, 9, .inr (.inl (tL [(-1), 0, 0, 0, 1, 0, 0, 0, 0] 0)))), (h2, .inl (k 0, 36, .inl (tI [(-1), 0, 0, 0, 1] 0)))] H := hP
  have hD : va_D A [(h0, .inr (8, [.int 2, .int 0, .int 662824084, .int 0, .int 0, .int 0, .ref h2, .ref h3, .int 0, .int 0, .ref h1, .ref h4, .ref h5, .ref h6, .ref h7, .ref h8, .ref h9, .int 0, .int 0, .int 0, .ref h10, .ref h11, .ref h12, .ref h13, .int 0, .int 0, .ref h14, .ref h15, .ref h16, .ref h17, .int 0, .int 0, .ref h18, .ref h19, .ref h20, .ref h21])), (h1, .inl (k 1, 9, .inr (.inl (tL [(-1), 0, 0, 0, 1, 0, 0, 0, 0] 0)))), (h2, .inl (k 0, 36, .inl (tI [(-1), 0, 0, 0, 1] 0)))] := hD
  refine lv_iinc (v := 5) (lv' := [(1, .int 5), (0, .ref h0)]) hx hb dX11_comes_29 hl (k := 0) rfl (by decide) (by decide) rfl (fun ls hl => ?_)
  refine lv_goto (tgt := 2) hx hb dX11_comes_32 (by decide) ?_
  refine lv_iload_n hx hb dX11_comes_2 rfl (lv_at hl 0 rfl) ?_
  refine lv_bipush (v := 9) hx hb dX11_comes_3 (by decide) ?_
  refine lv_icmp_ge (tgt := 35) hx hb dX11_comes_5 (by decide) (fun cc => absurd cc (by decide +kernel)) (fun _ => ?_)
  refine lv_aload_n hx hb dX11_comes_8 rfl (lv_at hl 1 rfl) ?_
  refine va_get (D := D) (ci := 8) (v := .ref h2) (C := RX11) (T := TX11) (N := 36) hx hb hU iX11 hown hK.1 hP 0 rfl rfl 6 (by decide) (hU _ w791) (fun _ h9 => h9) rfl dX11_comes_9 ?_
  refine lv_bipush (v := 9) hx hb dX11_comes_12 (by decide) ?_
  refine lv_aload_n hx hb dX11_comes_14 rfl (lv_at hl 1 rfl) ?_
  refine va_get (D := D) (ci := 8) (v := .int 0) (C := RX11) (T := TX11) (N := 36) hx hb hU iX11 hown hK.1 hP 0 rfl rfl 1 (by decide) (hU _ w786) (fun _ h9 => h9) rfl dX11_comes_15 ?_
  refine lv_imul hx hb dX11_comes_18 (sv_i (v := 0) (by decide +kernel) ?_)
  refine lv_iload_n hx hb dX11_comes_19 rfl (lv_at hl 0 rfl) ?_
  refine lv_iadd hx hb dX11_comes_20 (sv_i (v := 5) (by decide +kernel) ?_)
  refine lv_aload_n hx hb dX11_comes_21 rfl (lv_at hl 1 rfl) ?_
  refine va_get (D := D) (ci := 8) (v := .ref h1) (C := RX11) (T := TX11) (N := 36) hx hb hU iX11 hown hK.1 hP 0 rfl rfl 10 (by decide) (hU _ w795) (fun _ h9 => h9) rfl dX11_comes_22 ?_
  refine lv_iload_n hx hb dX11_comes_25 rfl (lv_at hl 0 rfl) ?_
  refine ld_l (j := 5) (v := 0) hx hb hK hP 1 rfl (by decide +kernel) rfl dX11_comes_26 ?_
  refine lv_l2i (v := 0) hx hb dX11_comes_27 (by decide +kernel) ?_
  refine st_i (j := 5) (g := tI [(-1), 0, 0, 0, 1, 0] 0) hx hb hK hP hD hS 2 rfl (by decide +kernel) upd_tI dX11_comes_28 (fun H locs hP hD hS => ?_)
  have hP : va_P D cl0 [(h0, .inr (8, [.int 2, .int 0, .int 662824084, .int 0, .int 0, .int 0, .ref h2, .ref h3, .int 0, .int 0, .ref h1, .ref h4, .ref h5, .ref h6, .ref h7, .ref h8, .ref h9, .int 0, .int 0, .int 0, .ref h10, .ref h11, .ref h12, .ref h13, .int 0, .int 0, .ref h14, .ref h15, .ref h16, .ref h17, .int 0, .int 0, .ref h18, .ref h19, .ref h20, .ref h21])), (h1, .inl (k 1, 9, .inr (.inl (tL [(-1), 0, 0, 0, 1, 0, 0, 0, 0] 0)))), (h2, .inl (k 0, 36, .inl (tI [(-1), 0, 0, 0, 1, 0] 0)))] H := hP
  have hD : va_D A [(h0, .inr (8, [.int 2, .int 0, .int 662824084, .int 0, .int 0, .int 0, .ref h2, .ref h3, .int 0, .int 0, .ref h1, .ref h4, .ref h5, .ref h6, .ref h7, .ref h8, .ref h9, .int 0, .int 0, .int 0, .ref h10, .ref h11, .ref h12, .ref h13, .int 0, .int 0, .ref h14, .ref h15, .ref h16, .ref h17, .int 0, .int 0, .ref h18, .ref h19, .ref h20, .ref h21])), (h1, .inl (k 1, 9, .inr (.inl (tL [(-1), 0, 0, 0, 1, 0, 0, 0, 0] 0)))), (h2, .inl (k 0, 36, .inl (tI [(-1), 0, 0, 0, 1, 0] 0)))] := hD
  refine lv_iinc (v := 6) (lv' := [(1, .int 6), (0, .ref h0)]) hx hb dX11_comes_29 hl (k := 0) rfl (by decide) (by decide) rfl (fun ls hl => ?_)
  refine lv_goto (tgt := 2) hx hb dX11_comes_32 (by decide) ?_
  refine lv_iload_n hx hb dX11_comes_2 rfl (lv_at hl 0 rfl) ?_
  refine lv_bipush (v := 9) hx hb dX11_comes_3 (by decide) ?_
  refine lv_icmp_ge (tgt := 35) hx hb dX11_comes_5 (by decide) (fun cc => absurd cc (by decide +kernel)) (fun _ => ?_)
  refine lv_aload_n hx hb dX11_comes_8 rfl (lv_at hl 1 rfl) ?_
  refine va_get (D := D) (ci := 8) (v := .ref h2) (C := RX11) (T := TX11) (N := 36) hx hb hU iX11 hown hK.1 hP 0 rfl rfl 6 (by decide) (hU _ w791) (fun _ h9 => h9) rfl dX11_comes_9 ?_
  refine lv_bipush (v := 9) hx hb dX11_comes_12 (by decide) ?_
  refine lv_aload_n hx hb dX11_comes_14 rfl (lv_at hl 1 rfl) ?_
  refine va_get (D := D) (ci := 8) (v := .int 0) (C := RX11) (T := TX11) (N := 36) hx hb hU iX11 hown hK.1 hP 0 rfl rfl 1 (by decide) (hU _ w786) (fun _ h9 => h9) rfl dX11_comes_15 ?_
  refine lv_imul hx hb dX11_comes_18 (sv_i (v := 0) (by decide +kernel) ?_)
  refine lv_iload_n hx hb dX11_comes_19 rfl (lv_at hl 0 rfl) ?_
  refine lv_iadd hx hb dX11_comes_20 (sv_i (v := 6) (by decide +kernel) ?_)
  refine lv_aload_n hx hb dX11_comes_21 rfl (lv_at hl 1 rfl) ?_
  refine va_get (D := D) (ci := 8) (v := .ref h1) (C := RX11) (T := TX11) (N := 36) hx hb hU iX11 hown hK.1 hP 0 rfl rfl 10 (by decide) (hU _ w795) (fun _ h9 => h9) rfl dX11_comes_22 ?_
  refine lv_iload_n hx hb dX11_comes_25 rfl (lv_at hl 0 rfl) ?_
  refine ld_l (j := 6) (v := 0) hx hb hK hP 1 rfl (by decide +kernel) rfl dX11_comes_26 ?_
  refine lv_l2i (v := 0) hx hb dX11_comes_27 (by decide +kernel) ?_
  refine st_i (j := 6) (g := tI [(-1), 0, 0, 0, 1, 0, 0] 0) hx hb hK hP hD hS 2 rfl (by decide +kernel) upd_tI dX11_comes_28 (fun H locs hP hD hS => ?_)
  have hP : va_P D cl0 [(h0, .inr (8, [.int 2, .int 0, .int 662824084, .int 0, .int 0, .int 0, .ref h2, .ref h3, .int 0, .int 0, .ref h1, .ref h4, .ref h5, .ref h6, .ref h7, .ref h8, .ref h9, .int 0, .int 0, .int 0, .ref h10, .ref h11, .ref h12, .ref h13, .int 0, .int 0, .ref h14, .ref h15, .ref h16, .ref h17, .int 0, .int 0, .ref h18, .ref h19, .ref h20, .ref h21])), (h1, .inl (k 1, 9, .inr (.inl (tL [(-1), 0, 0, 0, 1, 0, 0, 0, 0] 0)))), (h2, .inl (k 0, 36, .inl (tI [(-1), 0, 0, 0, 1, 0, 0] 0)))] H := hP
  have hD : va_D A [(h0, .inr (8, [.int 2, .int 0, .int 662824084, .int 0, .int 0, .int 0, .ref h2, .ref h3, .int 0, .int 0, .ref h1, .ref h4, .ref h5, .ref h6, .ref h7, .ref h8, .ref h9, .int 0, .int 0, .int 0, .ref h10, .ref h11, .ref h12, .ref h13, .int 0, .int 0, .ref h14, .ref h15, .ref h16, .ref h17, .int 0, .int 0, .ref h18, .ref h19, .ref h20, .ref h21])), (h1, .inl (k 1, 9, .inr (.inl (tL [(-1), 0, 0, 0, 1, 0, 0, 0, 0] 0)))), (h2, .inl (k 0, 36, .inl (tI [(-1), 0, 0, 0, 1, 0, 0] 0)))] := hD
  refine lv_iinc (v := 7) (lv' := [(1, .int 7), (0, .ref h0)]) hx hb dX11_comes_29 hl (k := 0) rfl (by decide) (by decide) rfl (fun ls hl => ?_)
  refine lv_goto (tgt := 2) hx hb dX11_comes_32 (by decide) ?_
  refine lv_iload_n hx hb dX11_comes_2 rfl (lv_at hl 0 rfl) ?_
  refine lv_bipush (v := 9) hx hb dX11_comes_3 (by decide) ?_
  refine lv_icmp_ge (tgt := 35) hx hb dX11_comes_5 (by decide) (fun cc => absurd cc (by decide +kernel)) (fun _ => ?_)
  refine lv_aload_n hx hb dX11_comes_8 rfl (lv_at hl 1 rfl) ?_
  refine va_get (D := D) (ci := 8) (v := .ref h2) (C := RX11) (T := TX11) (N := 36) hx hb hU iX11 hown hK.1 hP 0 rfl rfl 6 (by decide) (hU _ w791) (fun _ h9 => h9) rfl dX11_comes_9 ?_
  refine lv_bipush (v := 9) hx hb dX11_comes_12 (by decide) ?_
  refine lv_aload_n hx hb dX11_comes_14 rfl (lv_at hl 1 rfl) ?_
  refine va_get (D := D) (ci := 8) (v := .int 0) (C := RX11) (T := TX11) (N := 36) hx hb hU iX11 hown hK.1 hP 0 rfl rfl 1 (by decide) (hU _ w786) (fun _ h9 => h9) rfl dX11_comes_15 ?_
  refine lv_imul hx hb dX11_comes_18 (sv_i (v := 0) (by decide +kernel) ?_)
  refine lv_iload_n hx hb dX11_comes_19 rfl (lv_at hl 0 rfl) ?_
  refine lv_iadd hx hb dX11_comes_20 (sv_i (v := 7) (by decide +kernel) ?_)
  refine lv_aload_n hx hb dX11_comes_21 rfl (lv_at hl 1 rfl) ?_
  refine va_get (D := D) (ci := 8) (v := .ref h1) (C := RX11) (T := TX11) (N := 36) hx hb hU iX11 hown hK.1 hP 0 rfl rfl 10 (by decide) (hU _ w795) (fun _ h9 => h9) rfl dX11_comes_22 ?_
  refine lv_iload_n hx hb dX11_comes_25 rfl (lv_at hl 0 rfl) ?_
  refine ld_l (j := 7) (v := 0) hx hb hK hP 1 rfl (by decide +kernel) rfl dX11_comes_26 ?_
  refine lv_l2i (v := 0) hx hb dX11_comes_27 (by decide +kernel) ?_
  refine st_i (j := 7) (g := tI [(-1), 0, 0, 0, 1, 0, 0, 0] 0) hx hb hK hP hD hS 2 rfl (by decide +kernel) upd_tI dX11_comes_28 (fun H locs hP hD hS => ?_)
  have hP : va_P D cl0 [(h0, .inr (8, [.int 2, .int 0, .int 662824084, .int 0, .int 0, .int 0, .ref h2, .ref h3, .int 0, .int 0, .ref h1, .ref h4, .ref h5, .ref h6, .ref h7, .ref h8, .ref h9, .int 0, .int 0, .int 0, .ref h10, .ref h11, .ref h12, .ref h13, .int 0, .int 0, .ref h14, .ref h15, .ref h16, .ref h17, .int 0, .int 0, .ref h18, .ref h19, .ref h20, .ref h21])), (h1, .inl (k 1, 9, .inr (.inl (tL [(-1), 0, 0, 0, 1, 0, 0, 0, 0] 0)))), (h2, .inl (k 0, 36, .inl (tI [(-1), 0, 0, 0, 1, 0, 0, 0] 0)))] H := hP
  have hD : va_D A [(h0, .inr (8, [.int 2, .int 0, .int 662824084, .int 0, .int 0, .int 0, .ref h2, .ref h3, .int 0, .int 0, .ref h1, .ref h4, .ref h5, .ref h6, .ref h7, .ref h8, .ref h9, .int 0, .int 0, .int 0, .ref h10, .ref h11, .ref h12, .ref h13, .int 0, .int 0, .ref h14, .ref h15, .ref h16, .ref h17, .int 0, .int 0, .ref h18, .ref h19, .ref h20, .ref h21])), (h1, .inl (k 1, 9, .inr (.inl (tL [(-1), 0, 0, 0, 1, 0, 0, 0, 0] 0)))), (h2, .inl (k 0, 36, .inl (tI [(-1), 0, 0, 0, 1, 0, 0, 0] 0)))] := hD
  refine lv_iinc (v := 8) (lv' := [(1, .int 8), (0, .ref h0)]) hx hb dX11_comes_29 hl (k := 0) rfl (by decide) (by decide) rfl (fun ls hl => ?_)
  refine lv_goto (tgt := 2) hx hb dX11_comes_32 (by decide) ?_
  refine lv_iload_n hx hb dX11_comes_2 rfl (lv_at hl 0 rfl) ?_
  refine lv_bipush (v := 9) hx hb dX11_comes_3 (by decide) ?_
  refine lv_icmp_ge (tgt := 35) hx hb dX11_comes_5 (by decide) (fun cc => absurd cc (by decide +kernel)) (fun _ => ?_)
  refine lv_aload_n hx hb dX11_comes_8 rfl (lv_at hl 1 rfl) ?_
  refine va_get (D := D) (ci := 8) (v := .ref h2) (C := RX11) (T := TX11) (N := 36) hx hb hU iX11 hown hK.1 hP 0 rfl rfl 6 (by decide) (hU _ w791) (fun _ h9 => h9) rfl dX11_comes_9 ?_
  refine lv_bipush (v := 9) hx hb dX11_comes_12 (by decide) ?_
  refine lv_aload_n hx hb dX11_comes_14 rfl (lv_at hl 1 rfl) ?_
  refine va_get (D := D) (ci := 8) (v := .int 0) (C := RX11) (T := TX11) (N := 36) hx hb hU iX11 hown hK.1 hP 0 rfl rfl 1 (by decide) (hU _ w786) (fun _ h9 => h9) rfl dX11_comes_15 ?_
  refine lv_imul hx hb dX11_comes_18 (sv_i (v := 0) (by decide +kernel) ?_)
  refine lv_iload_n hx hb dX11_comes_19 rfl (lv_at hl 0 rfl) ?_
  refine lv_iadd hx hb dX11_comes_20 (sv_i (v := 8) (by decide +kernel) ?_)
  refine lv_aload_n hx hb dX11_comes_21 rfl (lv_at hl 1 rfl) ?_
  refine va_get (D := D) (ci := 8) (v := .ref h1) (C := RX11) (T := TX11) (N := 36) hx hb hU iX11 hown hK.1 hP 0 rfl rfl 10 (by decide) (hU _ w795) (fun _ h9 => h9) rfl dX11_comes_22 ?_
  refine lv_iload_n hx hb dX11_comes_25 rfl (lv_at hl 0 rfl) ?_
  refine ld_l (j := 8) (v := 0) hx hb hK hP 1 rfl (by decide +kernel) rfl dX11_comes_26 ?_
  refine lv_l2i (v := 0) hx hb dX11_comes_27 (by decide +kernel) ?_
  refine st_i (j := 8) (g := tI [(-1), 0, 0, 0, 1, 0, 0, 0, 0] 0) hx hb hK hP hD hS 2 rfl (by decide +kernel) upd_tI dX11_comes_28 (fun H locs hP hD hS => ?_)
  have hP : va_P D cl0 [(h0, .inr (8, [.int 2, .int 0, .int 662824084, .int 0, .int 0, .int 0, .ref h2, .ref h3, .int 0, .int 0, .ref h1, .ref h4, .ref h5, .ref h6, .ref h7, .ref h8, .ref h9, .int 0, .int 0, .int 0, .ref h10, .ref h11, .ref h12, .ref h13, .int 0, .int 0, .ref h14, .ref h15, .ref h16, .ref h17, .int 0, .int 0, .ref h18, .ref h19, .ref h20, .ref h21])), (h1, .inl (k 1, 9, .inr (.inl (tL [(-1), 0, 0, 0, 1, 0, 0, 0, 0] 0)))), (h2, .inl (k 0, 36, .inl (tI [(-1), 0, 0, 0, 1, 0, 0, 0, 0] 0)))] H := hP
  have hD : va_D A [(h0, .inr (8, [.int 2, .int 0, .int 662824084, .int 0, .int 0, .int 0, .ref h2, .ref h3, .int 0, .int 0, .ref h1, .ref h4, .ref h5, .ref h6, .ref h7, .ref h8, .ref h9, .int 0, .int 0, .int 0, .ref h10, .ref h11, .ref h12, .ref h13, .int 0, .int 0, .ref h14, .ref h15, .ref h16, .ref h17, .int 0, .int 0, .ref h18, .ref h19, .ref h20, .ref h21])), (h1, .inl (k 1, 9, .inr (.inl (tL [(-1), 0, 0, 0, 1, 0, 0, 0, 0] 0)))), (h2, .inl (k 0, 36, .inl (tI [(-1), 0, 0, 0, 1, 0, 0, 0, 0] 0)))] := hD
  refine lv_iinc (v := 9) (lv' := [(1, .int 9), (0, .ref h0)]) hx hb dX11_comes_29 hl (k := 0) rfl (by decide) (by decide) rfl (fun ls hl => ?_)
  refine lv_goto (tgt := 2) hx hb dX11_comes_32 (by decide) ?_
  refine lv_iload_n hx hb dX11_comes_2 rfl (lv_at hl 0 rfl) ?_
  refine lv_bipush (v := 9) hx hb dX11_comes_3 (by decide) ?_
  refine lv_icmp_ge (tgt := 35) hx hb dX11_comes_5 (by decide) (fun _ => ?_) (fun cc => absurd (by decide +kernel) cc)
  refine lv_aload_n hx hb dX11_comes_35 rfl (lv_at hl 1 rfl) ?_
  refine lv_dup hx hb dX11_comes_36 rfl ?_
  refine va_get (D := D) (ci := 8) (v := .int 0) (C := RX11) (T := TX11) (N := 36) hx hb hU iX11 hown hK.1 hP 0 rfl rfl 1 (by decide) (hU _ w786) (fun _ h9 => h9) rfl dX11_comes_37 ?_
  refine lv_iconst (v := 1) hx hb dX11_comes_40 (by decide) ?_
  refine lv_iadd hx hb dX11_comes_41 (sv_i (v := 1) (by decide +kernel) ?_)
  refine va_put (D := D) (ci := 8) (v := .int 1) (ty := .int) (C := RX11) (T := TX11) (N := 36) hx hb hU iX11 tyX11 tyX11_ok nmX11 hown hK.1 hP hD hS 0 rfl rfl 1 (by decide) (hU _ w786) (fun _ h9 => h9) rfl (by decide +kernel) rfl rfl (Nat.le_of_ble_eq_true rfl) dX11_comes_42 (fun H locs hP hD hS => ?_)
  have hP : va_P D cl0 [(h0, .inr (8, [.int 2, .int 1, .int 662824084, .int 0, .int 0, .int 0, .ref h2, .ref h3, .int 0, .int 0, .ref h1, .ref h4, .ref h5, .ref h6, .ref h7, .ref h8, .ref h9, .int 0, .int 0, .int 0, .ref h10, .ref h11, .ref h12, .ref h13, .int 0, .int 0, .ref h14, .ref h15, .ref h16, .ref h17, .int 0, .int 0, .ref h18, .ref h19, .ref h20, .ref h21])), (h1, .inl (k 1, 9, .inr (.inl (tL [(-1), 0, 0, 0, 1, 0, 0, 0, 0] 0)))), (h2, .inl (k 0, 36, .inl (tI [(-1), 0, 0, 0, 1, 0, 0, 0, 0] 0)))] H := hP
  have hD : va_D A [(h0, .inr (8, [.int 2, .int 1, .int 662824084, .int 0, .int 0, .int 0, .ref h2, .ref h3, .int 0, .int 0, .ref h1, .ref h4, .ref h5, .ref h6, .ref h7, .ref h8, .ref h9, .int 0, .int 0, .int 0, .ref h10, .ref h11, .ref h12, .ref h13, .int 0, .int 0, .ref h14, .ref h15, .ref h16, .ref h17, .int 0, .int 0, .ref h18, .ref h19, .ref h20, .ref h21])), (h1, .inl (k 1, 9, .inr (.inl (tL [(-1), 0, 0, 0, 1, 0, 0, 0, 0] 0)))), (h2, .inl (k 0, 36, .inl (tI [(-1), 0, 0, 0, 1, 0, 0, 0, 0] 0)))] := hD
  refine lv_aload_n hx hb dX11_comes_45 rfl (lv_at hl 1 rfl) ?_
  refine lv_iconst (v := 0) hx hb dX11_comes_46 (by decide) ?_
  refine va_put (D := D) (ci := 8) (v := .int 0) (ty := .boolean) (C := RX11) (T := TX11) (N := 36) hx hb hU iX11 tyX11 tyX11_ok nmX11 hown hK.1 hP hD hS 0 rfl rfl 9 (by decide) (hU _ w794) (fun _ h9 => h9) rfl (by decide +kernel) rfl rfl (Nat.le_of_ble_eq_true rfl) dX11_comes_47 (fun H locs hP hD hS => ?_)
  have hP : va_P D cl0 [(h0, .inr (8, [.int 2, .int 1, .int 662824084, .int 0, .int 0, .int 0, .ref h2, .ref h3, .int 0, .int 0, .ref h1, .ref h4, .ref h5, .ref h6, .ref h7, .ref h8, .ref h9, .int 0, .int 0, .int 0, .ref h10, .ref h11, .ref h12, .ref h13, .int 0, .int 0, .ref h14, .ref h15, .ref h16, .ref h17, .int 0, .int 0, .ref h18, .ref h19, .ref h20, .ref h21])), (h1, .inl (k 1, 9, .inr (.inl (tL [(-1), 0, 0, 0, 1, 0, 0, 0, 0] 0)))), (h2, .inl (k 0, 36, .inl (tI [(-1), 0, 0, 0, 1, 0, 0, 0, 0] 0)))] H := hP
  have hD : va_D A [(h0, .inr (8, [.int 2, .int 1, .int 662824084, .int 0, .int 0, .int 0, .ref h2, .ref h3, .int 0, .int 0, .ref h1, .ref h4, .ref h5, .ref h6, .ref h7, .ref h8, .ref h9, .int 0, .int 0, .int 0, .ref h10, .ref h11, .ref h12, .ref h13, .int 0, .int 0, .ref h14, .ref h15, .ref h16, .ref h17, .int 0, .int 0, .ref h18, .ref h19, .ref h20, .ref h21])), (h1, .inl (k 1, 9, .inr (.inl (tL [(-1), 0, 0, 0, 1, 0, 0, 0, 0] 0)))), (h2, .inl (k 0, 36, .inl (tI [(-1), 0, 0, 0, 1, 0, 0, 0, 0] 0)))] := hD
  refine lv_aload_n hx hb dX11_comes_50 rfl (lv_at hl 1 rfl) ?_
  refine lv_iconst (v := 0) hx hb dX11_comes_51 (by decide) ?_
  refine va_put (D := D) (ci := 8) (v := .int 0) (ty := .int) (C := RX11) (T := TX11) (N := 36) hx hb hU iX11 tyX11 tyX11_ok nmX11 hown hK.1 hP hD hS 0 rfl rfl 30 (by decide) (hU _ w815) (fun _ h9 => h9) rfl (by decide +kernel) rfl rfl (Nat.le_of_ble_eq_true rfl) dX11_comes_52 (fun H locs hP hD hS => ?_)
  have hP : va_P D cl0 [(h0, .inr (8, [.int 2, .int 1, .int 662824084, .int 0, .int 0, .int 0, .ref h2, .ref h3, .int 0, .int 0, .ref h1, .ref h4, .ref h5, .ref h6, .ref h7, .ref h8, .ref h9, .int 0, .int 0, .int 0, .ref h10, .ref h11, .ref h12, .ref h13, .int 0, .int 0, .ref h14, .ref h15, .ref h16, .ref h17, .int 0, .int 0, .ref h18, .ref h19, .ref h20, .ref h21])), (h1, .inl (k 1, 9, .inr (.inl (tL [(-1), 0, 0, 0, 1, 0, 0, 0, 0] 0)))), (h2, .inl (k 0, 36, .inl (tI [(-1), 0, 0, 0, 1, 0, 0, 0, 0] 0)))] H := hP
  have hD : va_D A [(h0, .inr (8, [.int 2, .int 1, .int 662824084, .int 0, .int 0, .int 0, .ref h2, .ref h3, .int 0, .int 0, .ref h1, .ref h4, .ref h5, .ref h6, .ref h7, .ref h8, .ref h9, .int 0, .int 0, .int 0, .ref h10, .ref h11, .ref h12, .ref h13, .int 0, .int 0, .ref h14, .ref h15, .ref h16, .ref h17, .int 0, .int 0, .ref h18, .ref h19, .ref h20, .ref h21])), (h1, .inl (k 1, 9, .inr (.inl (tL [(-1), 0, 0, 0, 1, 0, 0, 0, 0] 0)))), (h2, .inl (k 0, 36, .inl (tI [(-1), 0, 0, 0, 1, 0, 0, 0, 0] 0)))] := hD
  refine lv_aload_n hx hb dX11_comes_55 rfl (lv_at hl 1 rfl) ?_
  refine va_get (D := D) (ci := 8) (v := .int 1) (C := RX11) (T := TX11) (N := 36) hx hb hU iX11 hown hK.1 hP 0 rfl rfl 1 (by decide) (hU _ w786) (fun _ h9 => h9) rfl dX11_comes_56 ?_
  refine lv_iconst (v := 1) hx hb dX11_comes_59 (by decide) ?_
  refine lv_isub hx hb dX11_comes_60 (sv_i (v := 0) (by decide +kernel) ?_)
  exact retI (v := 0) hx hb hr hlocks hS (⟨rfl, hP, hD⟩) dX11_comes_61
abbrev BX11_drawn_4 (D : va_G) (k : Nat → ClassId) (h0 h1 h2 h3 h4 h5 h6 h7 h8 h9 h10 h11 h12 h13 h14 h15 h16 h17 h18 h19 h20 h21 : Nat) (A : Nat → Prop) (r : Int32) (H : Heap) : Prop := 1 = r ∧ va_P D cl0 [(h0, .inr (8, [.int 2, .int 1, .int (-999580867), .int 0, .int 0, .int 0, .ref h1, .ref h2, .int 0, .int 0, .ref h3, .ref h4, .ref h5, .ref h6, .ref h7, .ref h8, .ref h9, .int 0, .int 0, .int 0, .ref h10, .ref h11, .ref h12, .ref h13, .int 0, .int 0, .ref h14, .ref h15, .ref h16, .ref h17, .int 0, .int 0, .ref h18, .ref h19, .ref h20, .ref h21]))] H ∧ va_D A [(h0, .inr (8, [.int 2, .int 1, .int (-999580867), .int 0, .int 0, .int 0, .ref h1, .ref h2, .int 0, .int 0, .ref h3, .ref h4, .ref h5, .ref h6, .ref h7, .ref h8, .ref h9, .int 0, .int 0, .int 0, .ref h10, .ref h11, .ref h12, .ref h13, .int 0, .int 0, .ref h14, .ref h15, .ref h16, .ref h17, .int 0, .int 0, .ref h18, .ref h19, .ref h20, .ref h21]))]
set_option maxHeartbeats 4000000 in
set_option maxRecDepth 100000 in
theorem cX11_drawn_4 (l : Launch) (D : va_G) (k : Nat → ClassId) (sz : Nat) (h0 h1 h2 h3 h4 h5 h6 h7 h8 h9 h10 h11 h12 h13 h14 h15 h16 h17 h18 h19 h20 h21 : Nat) : Met l yX11_drawn (Cond.code yX11_drawn cX11_drawn 2 (some .int) :: uw) ({ frames := 0, cells := 0, slots := 0, locals := 0 }) (pC D k sz [.ref h0, .int 2] [(h0, .inr (8, [.int 2, .int 1, .int 662824084, .int 0, .int 0, .int 0, .ref h1, .ref h2, .int 0, .int 0, .ref h3, .ref h4, .ref h5, .ref h6, .ref h7, .ref h8, .ref h9, .int 0, .int 0, .int 0, .ref h10, .ref h11, .ref h12, .ref h13, .int 0, .int 0, .ref h14, .ref h15, .ref h16, .ref h17, .int 0, .int 0, .ref h18, .ref h19, .ref h20, .ref h21]))]) (qI (BX11_drawn_4 D k h0 h1 h2 h3 h4 h5 h6 h7 h8 h9 h10 h11 h12 h13 h14 h15 h16 h17 h18 h19 h20 h21 (va_A [(h0, .inr (8, [.int 2, .int 1, .int 662824084, .int 0, .int 0, .int 0, .ref h1, .ref h2, .int 0, .int 0, .ref h3, .ref h4, .ref h5, .ref h6, .ref h7, .ref h8, .ref h9, .int 0, .int 0, .int 0, .ref h10, .ref h11, .ref h12, .ref h13, .int 0, .int 0, .ref h14, .ref h15, .ref h16, .ref h17, .int 0, .int 0, .ref h18, .ref h19, .ref h20, .ref h21]))] sz)) (va_A [(h0, .inr (8, [.int 2, .int 1, .int 662824084, .int 0, .int 0, .int 0, .ref h1, .ref h2, .int 0, .int 0, .ref h3, .ref h4, .ref h5, .ref h6, .ref h7, .ref h8, .ref h9, .int 0, .int 0, .int 0, .ref h10, .ref h11, .ref h12, .ref h13, .int 0, .int 0, .ref h14, .ref h15, .ref h16, .ref h17, .int 0, .int 0, .ref h18, .ref h19, .ref h20, .ref h21]))] sz)) 0 0 (va_A [(h0, .inr (8, [.int 2, .int 1, .int 662824084, .int 0, .int 0, .int 0, .ref h1, .ref h2, .int 0, .int 0, .ref h3, .ref h4, .ref h5, .ref h6, .ref h7, .ref h8, .ref h9, .int 0, .int 0, .int 0, .ref h10, .ref h11, .ref h12, .ref h13, .int 0, .int 0, .ref h14, .ref h15, .ref h16, .ref h17, .int 0, .int 0, .ref h18, .ref h19, .ref h20, .ref h21]))] sz) := by
  refine begin_ (Qc := fun A => qI (BX11_drawn_4 D k h0 h1 h2 h3 h4 h5 h6 h7 h8 h9 h10 h11 h12 h13 h14 h15 h16 h17 h18 h19 h20 h21 A) A) (by decide) (Nat.le_of_ble_eq_true rfl) ?_
  intro p e s m below meth c ls A hx hb hr hml hown hlocks hin hU hK hsz hP hD hS hA hl
  have hl : lv_has ls 2 [(0, .ref h0), (1, .int 2)] := hl
  clear hsz
  refine lv_aload_n hx hb dX11_drawn_0 rfl (lv_at hl 0 rfl) ?_
  refine lv_aload_n hx hb dX11_drawn_1 rfl (lv_at hl 0 rfl) ?_
  refine va_get (D := D) (ci := 8) (v := .int 662824084) (C := RX11) (T := TX11) (N := 36) hx hb hU iX11 hown hK.1 hP 0 rfl rfl 2 (by decide) (hU _ w787) (fun _ h9 => h9) rfl dX11_drawn_2 ?_
  refine lv_ldcw hx hb hown (hU _ w1178) dX11_drawn_5 ?_
  refine lv_imul hx hb dX11_drawn_8 (sv_i (v := (-999593212)) (by decide +kernel) ?_)
  refine lv_sipush (v := 12345) hx hb dX11_drawn_9 (by decide) ?_
  refine lv_iadd hx hb dX11_drawn_12 (sv_i (v := (-999580867)) (by decide +kernel) ?_)
  refine va_put (D := D) (ci := 8) (v := .int (-999580867)) (ty := .int) (C := RX11) (T := TX11) (N := 36) hx hb hU iX11 tyX11 tyX11_ok nmX11 hown hK.1 hP hD hS 0 rfl rfl 2 (by decide) (hU _ w787) (fun _ h9 => h9) rfl (by decide +kernel) rfl rfl (Nat.le_of_ble_eq_true rfl) dX11_drawn_13 (fun H locs hP hD hS => ?_)
  have hP : va_P D cl0 [(h0, .inr (8, [.int 2, .int 1, .int (-999580867), .int 0, .int 0, .int 0, .ref h1, .ref h2, .int 0, .int 0, .ref h3, .ref h4, .ref h5, .ref h6, .ref h7, .ref h8, .ref h9, .int 0, .int 0, .int 0, .ref h10, .ref h11, .ref h12, .ref h13, .int 0, .int 0, .ref h14, .ref h15, .ref h16, .ref h17, .int 0, .int 0, .ref h18, .ref h19, .ref h20, .ref h21]))] H := hP
  have hD : va_D A [(h0, .inr (8, [.int 2, .int 1, .int (-999580867), .int 0, .int 0, .int 0, .ref h1, .ref h2, .int 0, .int 0, .ref h3, .ref h4, .ref h5, .ref h6, .ref h7, .ref h8, .ref h9, .int 0, .int 0, .int 0, .ref h10, .ref h11, .ref h12, .ref h13, .int 0, .int 0, .ref h14, .ref h15, .ref h16, .ref h17, .int 0, .int 0, .ref h18, .ref h19, .ref h20, .ref h21]))] := hD
  refine lv_aload_n hx hb dX11_drawn_16 rfl (lv_at hl 0 rfl) ?_
  refine va_get (D := D) (ci := 8) (v := .int (-999580867)) (C := RX11) (T := TX11) (N := 36) hx hb hU iX11 hown hK.1 hP 0 rfl rfl 2 (by decide) (hU _ w787) (fun _ h9 => h9) rfl dX11_drawn_17 ?_
  refine lv_bipush (v := 16) hx hb dX11_drawn_20 (by decide) ?_
  refine lv_iushr (v := 50283) hx hb dX11_drawn_22 (by decide +kernel) ?_
  refine lv_iload_n hx hb dX11_drawn_23 rfl (lv_at hl 1 rfl) ?_
  refine lv_irem hx hb dX11_drawn_24 (by decide +kernel) (sv_i (v := 1) (by decide +kernel) ?_)
  exact retI (v := 1) hx hb hr hlocks hS (⟨rfl, hP, hD⟩) dX11_drawn_25
abbrev BX11_drawn_5 (D : va_G) (k : Nat → ClassId) (h0 h1 h2 h3 h4 h5 h6 h7 h8 h9 h10 h11 h12 h13 h14 h15 h16 h17 h18 h19 h20 h21 : Nat) (A : Nat → Prop) (r : Int32) (H : Heap) : Prop := 1 = r ∧ va_P D cl0 [(h0, .inr (8, [.int 2, .int 1, .int (-112468174), .int 0, .int 0, .int 0, .ref h1, .ref h2, .int 0, .int 0, .ref h3, .ref h4, .ref h5, .ref h6, .ref h7, .ref h8, .ref h9, .int 0, .int 0, .int 0, .ref h10, .ref h11, .ref h12, .ref h13, .int 0, .int 0, .ref h14, .ref h15, .ref h16, .ref h17, .int 0, .int 0, .ref h18, .ref h19, .ref h20, .ref h21]))] H ∧ va_D A [(h0, .inr (8, [.int 2, .int 1, .int (-112468174), .int 0, .int 0, .int 0, .ref h1, .ref h2, .int 0, .int 0, .ref h3, .ref h4, .ref h5, .ref h6, .ref h7, .ref h8, .ref h9, .int 0, .int 0, .int 0, .ref h10, .ref h11, .ref h12, .ref h13, .int 0, .int 0, .ref h14, .ref h15, .ref h16, .ref h17, .int 0, .int 0, .ref h18, .ref h19, .ref h20, .ref h21]))]
set_option maxHeartbeats 4000000 in
set_option maxRecDepth 100000 in
theorem cX11_drawn_5 (l : Launch) (D : va_G) (k : Nat → ClassId) (sz : Nat) (h0 h1 h2 h3 h4 h5 h6 h7 h8 h9 h10 h11 h12 h13 h14 h15 h16 h17 h18 h19 h20 h21 : Nat) : Met l yX11_drawn (Cond.code yX11_drawn cX11_drawn 2 (some .int) :: uw) ({ frames := 0, cells := 0, slots := 0, locals := 0 }) (pC D k sz [.ref h0, .int 2] [(h0, .inr (8, [.int 2, .int 1, .int (-999580867), .int 0, .int 0, .int 0, .ref h1, .ref h2, .int 0, .int 0, .ref h3, .ref h4, .ref h5, .ref h6, .ref h7, .ref h8, .ref h9, .int 0, .int 0, .int 0, .ref h10, .ref h11, .ref h12, .ref h13, .int 0, .int 0, .ref h14, .ref h15, .ref h16, .ref h17, .int 0, .int 0, .ref h18, .ref h19, .ref h20, .ref h21]))]) (qI (BX11_drawn_5 D k h0 h1 h2 h3 h4 h5 h6 h7 h8 h9 h10 h11 h12 h13 h14 h15 h16 h17 h18 h19 h20 h21 (va_A [(h0, .inr (8, [.int 2, .int 1, .int (-999580867), .int 0, .int 0, .int 0, .ref h1, .ref h2, .int 0, .int 0, .ref h3, .ref h4, .ref h5, .ref h6, .ref h7, .ref h8, .ref h9, .int 0, .int 0, .int 0, .ref h10, .ref h11, .ref h12, .ref h13, .int 0, .int 0, .ref h14, .ref h15, .ref h16, .ref h17, .int 0, .int 0, .ref h18, .ref h19, .ref h20, .ref h21]))] sz)) (va_A [(h0, .inr (8, [.int 2, .int 1, .int (-999580867), .int 0, .int 0, .int 0, .ref h1, .ref h2, .int 0, .int 0, .ref h3, .ref h4, .ref h5, .ref h6, .ref h7, .ref h8, .ref h9, .int 0, .int 0, .int 0, .ref h10, .ref h11, .ref h12, .ref h13, .int 0, .int 0, .ref h14, .ref h15, .ref h16, .ref h17, .int 0, .int 0, .ref h18, .ref h19, .ref h20, .ref h21]))] sz)) 0 0 (va_A [(h0, .inr (8, [.int 2, .int 1, .int (-999580867), .int 0, .int 0, .int 0, .ref h1, .ref h2, .int 0, .int 0, .ref h3, .ref h4, .ref h5, .ref h6, .ref h7, .ref h8, .ref h9, .int 0, .int 0, .int 0, .ref h10, .ref h11, .ref h12, .ref h13, .int 0, .int 0, .ref h14, .ref h15, .ref h16, .ref h17, .int 0, .int 0, .ref h18, .ref h19, .ref h20, .ref h21]))] sz) := by
  refine begin_ (Qc := fun A => qI (BX11_drawn_5 D k h0 h1 h2 h3 h4 h5 h6 h7 h8 h9 h10 h11 h12 h13 h14 h15 h16 h17 h18 h19 h20 h21 A) A) (by decide) (Nat.le_of_ble_eq_true rfl) ?_
  intro p e s m below meth c ls A hx hb hr hml hown hlocks hin hU hK hsz hP hD hS hA hl
  have hl : lv_has ls 2 [(0, .ref h0), (1, .int 2)] := hl
  clear hsz
  refine lv_aload_n hx hb dX11_drawn_0 rfl (lv_at hl 0 rfl) ?_
  refine lv_aload_n hx hb dX11_drawn_1 rfl (lv_at hl 0 rfl) ?_
  refine va_get (D := D) (ci := 8) (v := .int (-999580867)) (C := RX11) (T := TX11) (N := 36) hx hb hU iX11 hown hK.1 hP 0 rfl rfl 2 (by decide) (hU _ w787) (fun _ h9 => h9) rfl dX11_drawn_2 ?_
  refine lv_ldcw hx hb hown (hU _ w1178) dX11_drawn_5 ?_
  refine lv_imul hx hb dX11_drawn_8 (sv_i (v := (-112480519)) (by decide +kernel) ?_)
  refine lv_sipush (v := 12345) hx hb dX11_drawn_9 (by decide) ?_
  refine lv_iadd hx hb dX11_drawn_12 (sv_i (v := (-112468174)) (by decide +kernel) ?_)
  refine va_put (D := D) (ci := 8) (v := .int (-112468174)) (ty := .int) (C := RX11) (T := TX11) (N := 36) hx hb hU iX11 tyX11 tyX11_ok nmX11 hown hK.1 hP hD hS 0 rfl rfl 2 (by decide) (hU _ w787) (fun _ h9 => h9) rfl (by decide +kernel) rfl rfl (Nat.le_of_ble_eq_true rfl) dX11_drawn_13 (fun H locs hP hD hS => ?_)
  have hP : va_P D cl0 [(h0, .inr (8, [.int 2, .int 1, .int (-112468174), .int 0, .int 0, .int 0, .ref h1, .ref h2, .int 0, .int 0, .ref h3, .ref h4, .ref h5, .ref h6, .ref h7, .ref h8, .ref h9, .int 0, .int 0, .int 0, .ref h10, .ref h11, .ref h12, .ref h13, .int 0, .int 0, .ref h14, .ref h15, .ref h16, .ref h17, .int 0, .int 0, .ref h18, .ref h19, .ref h20, .ref h21]))] H := hP
  have hD : va_D A [(h0, .inr (8, [.int 2, .int 1, .int (-112468174), .int 0, .int 0, .int 0, .ref h1, .ref h2, .int 0, .int 0, .ref h3, .ref h4, .ref h5, .ref h6, .ref h7, .ref h8, .ref h9, .int 0, .int 0, .int 0, .ref h10, .ref h11, .ref h12, .ref h13, .int 0, .int 0, .ref h14, .ref h15, .ref h16, .ref h17, .int 0, .int 0, .ref h18, .ref h19, .ref h20, .ref h21]))] := hD
  refine lv_aload_n hx hb dX11_drawn_16 rfl (lv_at hl 0 rfl) ?_
  refine va_get (D := D) (ci := 8) (v := .int (-112468174)) (C := RX11) (T := TX11) (N := 36) hx hb hU iX11 hown hK.1 hP 0 rfl rfl 2 (by decide) (hU _ w787) (fun _ h9 => h9) rfl dX11_drawn_17 ?_
  refine lv_bipush (v := 16) hx hb dX11_drawn_20 (by decide) ?_
  refine lv_iushr (v := 63819) hx hb dX11_drawn_22 (by decide +kernel) ?_
  refine lv_iload_n hx hb dX11_drawn_23 rfl (lv_at hl 1 rfl) ?_
  refine lv_irem hx hb dX11_drawn_24 (by decide +kernel) (sv_i (v := 1) (by decide +kernel) ?_)
  exact retI (v := 1) hx hb hr hlocks hS (⟨rfl, hP, hD⟩) dX11_drawn_25
abbrev BX11_drawn_6 (D : va_G) (k : Nat → ClassId) (h0 h1 h2 h3 h4 h5 h6 h7 h8 h9 h10 h11 h12 h13 h14 h15 h16 h17 h18 h19 h20 h21 : Nat) (A : Nat → Prop) (r : Int32) (H : Heap) : Prop := 0 = r ∧ va_P D cl0 [(h0, .inr (8, [.int 2, .int 1, .int (-1778682749), .int 0, .int 0, .int 0, .ref h1, .ref h2, .int 0, .int 0, .ref h3, .ref h4, .ref h5, .ref h6, .ref h7, .ref h8, .ref h9, .int 0, .int 0, .int 0, .ref h10, .ref h11, .ref h12, .ref h13, .int 0, .int 0, .ref h14, .ref h15, .ref h16, .ref h17, .int 0, .int 0, .ref h18, .ref h19, .ref h20, .ref h21]))] H ∧ va_D A [(h0, .inr (8, [.int 2, .int 1, .int (-1778682749), .int 0, .int 0, .int 0, .ref h1, .ref h2, .int 0, .int 0, .ref h3, .ref h4, .ref h5, .ref h6, .ref h7, .ref h8, .ref h9, .int 0, .int 0, .int 0, .ref h10, .ref h11, .ref h12, .ref h13, .int 0, .int 0, .ref h14, .ref h15, .ref h16, .ref h17, .int 0, .int 0, .ref h18, .ref h19, .ref h20, .ref h21]))]
set_option maxHeartbeats 4000000 in
set_option maxRecDepth 100000 in
theorem cX11_drawn_6 (l : Launch) (D : va_G) (k : Nat → ClassId) (sz : Nat) (h0 h1 h2 h3 h4 h5 h6 h7 h8 h9 h10 h11 h12 h13 h14 h15 h16 h17 h18 h19 h20 h21 : Nat) : Met l yX11_drawn (Cond.code yX11_drawn cX11_drawn 2 (some .int) :: uw) ({ frames := 0, cells := 0, slots := 0, locals := 0 }) (pC D k sz [.ref h0, .int 5] [(h0, .inr (8, [.int 2, .int 1, .int (-112468174), .int 0, .int 0, .int 0, .ref h1, .ref h2, .int 0, .int 0, .ref h3, .ref h4, .ref h5, .ref h6, .ref h7, .ref h8, .ref h9, .int 0, .int 0, .int 0, .ref h10, .ref h11, .ref h12, .ref h13, .int 0, .int 0, .ref h14, .ref h15, .ref h16, .ref h17, .int 0, .int 0, .ref h18, .ref h19, .ref h20, .ref h21]))]) (qI (BX11_drawn_6 D k h0 h1 h2 h3 h4 h5 h6 h7 h8 h9 h10 h11 h12 h13 h14 h15 h16 h17 h18 h19 h20 h21 (va_A [(h0, .inr (8, [.int 2, .int 1, .int (-112468174), .int 0, .int 0, .int 0, .ref h1, .ref h2, .int 0, .int 0, .ref h3, .ref h4, .ref h5, .ref h6, .ref h7, .ref h8, .ref h9, .int 0, .int 0, .int 0, .ref h10, .ref h11, .ref h12, .ref h13, .int 0, .int 0, .ref h14, .ref h15, .ref h16, .ref h17, .int 0, .int 0, .ref h18, .ref h19, .ref h20, .ref h21]))] sz)) (va_A [(h0, .inr (8, [.int 2, .int 1, .int (-112468174), .int 0, .int 0, .int 0, .ref h1, .ref h2, .int 0, .int 0, .ref h3, .ref h4, .ref h5, .ref h6, .ref h7, .ref h8, .ref h9, .int 0, .int 0, .int 0, .ref h10, .ref h11, .ref h12, .ref h13, .int 0, .int 0, .ref h14, .ref h15, .ref h16, .ref h17, .int 0, .int 0, .ref h18, .ref h19, .ref h20, .ref h21]))] sz)) 0 0 (va_A [(h0, .inr (8, [.int 2, .int 1, .int (-112468174), .int 0, .int 0, .int 0, .ref h1, .ref h2, .int 0, .int 0, .ref h3, .ref h4, .ref h5, .ref h6, .ref h7, .ref h8, .ref h9, .int 0, .int 0, .int 0, .ref h10, .ref h11, .ref h12, .ref h13, .int 0, .int 0, .ref h14, .ref h15, .ref h16, .ref h17, .int 0, .int 0, .ref h18, .ref h19, .ref h20, .ref h21]))] sz) := by
  refine begin_ (Qc := fun A => qI (BX11_drawn_6 D k h0 h1 h2 h3 h4 h5 h6 h7 h8 h9 h10 h11 h12 h13 h14 h15 h16 h17 h18 h19 h20 h21 A) A) (by decide) (Nat.le_of_ble_eq_true rfl) ?_
  intro p e s m below meth c ls A hx hb hr hml hown hlocks hin hU hK hsz hP hD hS hA hl
  have hl : lv_has ls 2 [(0, .ref h0), (1, .int 5)] := hl
  clear hsz
  refine lv_aload_n hx hb dX11_drawn_0 rfl (lv_at hl 0 rfl) ?_
  refine lv_aload_n hx hb dX11_drawn_1 rfl (lv_at hl 0 rfl) ?_
  refine va_get (D := D) (ci := 8) (v := .int (-112468174)) (C := RX11) (T := TX11) (N := 36) hx hb hU iX11 hown hK.1 hP 0 rfl rfl 2 (by decide) (hU _ w787) (fun _ h9 => h9) rfl dX11_drawn_2 ?_
  refine lv_ldcw hx hb hown (hU _ w1178) dX11_drawn_5 ?_
  refine lv_imul hx hb dX11_drawn_8 (sv_i (v := (-1778695094)) (by decide +kernel) ?_)
  refine lv_sipush (v := 12345) hx hb dX11_drawn_9 (by decide) ?_
  refine lv_iadd hx hb dX11_drawn_12 (sv_i (v := (-1778682749)) (by decide +kernel) ?_)
  refine va_put (D := D) (ci := 8) (v := .int (-1778682749)) (ty := .int) (C := RX11) (T := TX11) (N := 36) hx hb hU iX11 tyX11 tyX11_ok nmX11 hown hK.1 hP hD hS 0 rfl rfl 2 (by decide) (hU _ w787) (fun _ h9 => h9) rfl (by decide +kernel) rfl rfl (Nat.le_of_ble_eq_true rfl) dX11_drawn_13 (fun H locs hP hD hS => ?_)
  have hP : va_P D cl0 [(h0, .inr (8, [.int 2, .int 1, .int (-1778682749), .int 0, .int 0, .int 0, .ref h1, .ref h2, .int 0, .int 0, .ref h3, .ref h4, .ref h5, .ref h6, .ref h7, .ref h8, .ref h9, .int 0, .int 0, .int 0, .ref h10, .ref h11, .ref h12, .ref h13, .int 0, .int 0, .ref h14, .ref h15, .ref h16, .ref h17, .int 0, .int 0, .ref h18, .ref h19, .ref h20, .ref h21]))] H := hP
  have hD : va_D A [(h0, .inr (8, [.int 2, .int 1, .int (-1778682749), .int 0, .int 0, .int 0, .ref h1, .ref h2, .int 0, .int 0, .ref h3, .ref h4, .ref h5, .ref h6, .ref h7, .ref h8, .ref h9, .int 0, .int 0, .int 0, .ref h10, .ref h11, .ref h12, .ref h13, .int 0, .int 0, .ref h14, .ref h15, .ref h16, .ref h17, .int 0, .int 0, .ref h18, .ref h19, .ref h20, .ref h21]))] := hD
  refine lv_aload_n hx hb dX11_drawn_16 rfl (lv_at hl 0 rfl) ?_
  refine va_get (D := D) (ci := 8) (v := .int (-1778682749)) (C := RX11) (T := TX11) (N := 36) hx hb hU iX11 hown hK.1 hP 0 rfl rfl 2 (by decide) (hU _ w787) (fun _ h9 => h9) rfl dX11_drawn_17 ?_
  refine lv_bipush (v := 16) hx hb dX11_drawn_20 (by decide) ?_
  refine lv_iushr (v := 38395) hx hb dX11_drawn_22 (by decide +kernel) ?_
  refine lv_iload_n hx hb dX11_drawn_23 rfl (lv_at hl 1 rfl) ?_
  refine lv_irem hx hb dX11_drawn_24 (by decide +kernel) (sv_i (v := 0) (by decide +kernel) ?_)
  exact retI (v := 0) hx hb hr hlocks hS (⟨rfl, hP, hD⟩) dX11_drawn_25
abbrev BX11_clears_2 (D : va_G) (k : Nat → ClassId) (h0 h1 : Nat) (A : Nat → Prop) (H : Heap) : Prop := va_P D cl0 [(h0, .inl (k 1, 9, .inr (.inl (tL [0, 0, 0, 0, 0, 0, 0, 0, 0] 0))))] H ∧ va_D A [(h0, .inl (k 1, 9, .inr (.inl (tL [0, 0, 0, 0, 0, 0, 0, 0, 0] 0))))]
set_option maxHeartbeats 4000000 in
set_option maxRecDepth 100000 in
theorem cX11_clears_2 (l : Launch) (D : va_G) (k : Nat → ClassId) (sz : Nat) (h0 h1 : Nat) : Met l yX11_clears (Cond.code yX11_clears cX11_clears 3 none :: uw) ({ frames := 0, cells := 0, slots := 0, locals := 0 }) (pC D k sz [.ref h1, .ref h0] [(h0, .inl (k 1, 9, .inr (.inl (tL [(-1), 0, 0, 0, 1, 0, 0, 0, 0] 0))))]) (qV (BX11_clears_2 D k h0 h1 (va_A [(h0, .inl (k 1, 9, .inr (.inl (tL [(-1), 0, 0, 0, 1, 0, 0, 0, 0] 0))))] sz)) (va_A [(h0, .inl (k 1, 9, .inr (.inl (tL [(-1), 0, 0, 0, 1, 0, 0, 0, 0] 0))))] sz)) 0 0 (va_A [(h0, .inl (k 1, 9, .inr (.inl (tL [(-1), 0, 0, 0, 1, 0, 0, 0, 0] 0))))] sz) := by
  refine begin_ (Qc := fun A => qV (BX11_clears_2 D k h0 h1 A) A) (by decide) (Nat.le_of_ble_eq_true rfl) ?_
  intro p e s m below meth c ls A hx hb hr hml hown hlocks hin hU hK hsz hP hD hS hA hl
  have hl : lv_has ls 3 [(0, .ref h1), (1, .ref h0)] := hl
  clear hsz
  refine lv_iconst (v := 0) hx hb dX11_clears_0 (by decide) ?_
  refine lv_istore_n (lv' := [(2, .int 0), (0, .ref h1), (1, .ref h0)]) hx hb dX11_clears_1 rfl hl (by decide) rfl (fun ls hl => ?_)
  refine lv_iload_n hx hb dX11_clears_2 rfl (lv_at hl 0 rfl) ?_
  refine lv_bipush (v := 9) hx hb dX11_clears_3 (by decide) ?_
  refine lv_icmp_ge (tgt := 18) hx hb dX11_clears_5 (by decide) (fun cc => absurd cc (by decide +kernel)) (fun _ => ?_)
  refine lv_aload_n hx hb dX11_clears_8 rfl (lv_at hl 2 rfl) ?_
  refine lv_iload_n hx hb dX11_clears_9 rfl (lv_at hl 0 rfl) ?_
  refine lv_lconst (v := 0) hx hb dX11_clears_10 (by decide) ?_
  refine st_l (j := 0) (g := tL [0, 0, 0, 0, 1, 0, 0, 0, 0] 0) hx hb hK hP hD hS 0 rfl (by decide +kernel) upd_tL dX11_clears_11 (fun H locs hP hD hS => ?_)
  have hP : va_P D cl0 [(h0, .inl (k 1, 9, .inr (.inl (tL [0, 0, 0, 0, 1, 0, 0, 0, 0] 0))))] H := hP
  have hD : va_D A [(h0, .inl (k 1, 9, .inr (.inl (tL [0, 0, 0, 0, 1, 0, 0, 0, 0] 0))))] := hD
  refine lv_iinc (v := 1) (lv' := [(2, .int 1), (0, .ref h1), (1, .ref h0)]) hx hb dX11_clears_12 hl (k := 0) rfl (by decide) (by decide) rfl (fun ls hl => ?_)
  refine lv_goto (tgt := 2) hx hb dX11_clears_15 (by decide) ?_
  refine lv_iload_n hx hb dX11_clears_2 rfl (lv_at hl 0 rfl) ?_
  refine lv_bipush (v := 9) hx hb dX11_clears_3 (by decide) ?_
  refine lv_icmp_ge (tgt := 18) hx hb dX11_clears_5 (by decide) (fun cc => absurd cc (by decide +kernel)) (fun _ => ?_)
  refine lv_aload_n hx hb dX11_clears_8 rfl (lv_at hl 2 rfl) ?_
  refine lv_iload_n hx hb dX11_clears_9 rfl (lv_at hl 0 rfl) ?_
  refine lv_lconst (v := 0) hx hb dX11_clears_10 (by decide) ?_
  refine st_l (j := 1) (g := tL [0, 0, 0, 0, 1, 0, 0, 0, 0] 0) hx hb hK hP hD hS 0 rfl (by decide +kernel) upd_tL dX11_clears_11 (fun H locs hP hD hS => ?_)
  have hP : va_P D cl0 [(h0, .inl (k 1, 9, .inr (.inl (tL [0, 0, 0, 0, 1, 0, 0, 0, 0] 0))))] H := hP
  have hD : va_D A [(h0, .inl (k 1, 9, .inr (.inl (tL [0, 0, 0, 0, 1, 0, 0, 0, 0] 0))))] := hD
  refine lv_iinc (v := 2) (lv' := [(2, .int 2), (0, .ref h1), (1, .ref h0)]) hx hb dX11_clears_12 hl (k := 0) rfl (by decide) (by decide) rfl (fun ls hl => ?_)
  refine lv_goto (tgt := 2) hx hb dX11_clears_15 (by decide) ?_
  refine lv_iload_n hx hb dX11_clears_2 rfl (lv_at hl 0 rfl) ?_
  refine lv_bipush (v := 9) hx hb dX11_clears_3 (by decide) ?_
  refine lv_icmp_ge (tgt := 18) hx hb dX11_clears_5 (by decide) (fun cc => absurd cc (by decide +kernel)) (fun _ => ?_)
  refine lv_aload_n hx hb dX11_clears_8 rfl (lv_at hl 2 rfl) ?_
  refine lv_iload_n hx hb dX11_clears_9 rfl (lv_at hl 0 rfl) ?_
  refine lv_lconst (v := 0) hx hb dX11_clears_10 (by decide) ?_
  refine st_l (j := 2) (g := tL [0, 0, 0, 0, 1, 0, 0, 0, 0] 0) hx hb hK hP hD hS 0 rfl (by decide +kernel) upd_tL dX11_clears_11 (fun H locs hP hD hS => ?_)
  have hP : va_P D cl0 [(h0, .inl (k 1, 9, .inr (.inl (tL [0, 0, 0, 0, 1, 0, 0, 0, 0] 0))))] H := hP
  have hD : va_D A [(h0, .inl (k 1, 9, .inr (.inl (tL [0, 0, 0, 0, 1, 0, 0, 0, 0] 0))))] := hD
  refine lv_iinc (v := 3) (lv' := [(2, .int 3), (0, .ref h1), (1, .ref h0)]) hx hb dX11_clears_12 hl (k := 0) rfl (by decide) (by decide) rfl (fun ls hl => ?_)
  refine lv_goto (tgt := 2) hx hb dX11_clears_15 (by decide) ?_
  refine lv_iload_n hx hb dX11_clears_2 rfl (lv_at hl 0 rfl) ?_
  refine lv_bipush (v := 9) hx hb dX11_clears_3 (by decide) ?_
  refine lv_icmp_ge (tgt := 18) hx hb dX11_clears_5 (by decide) (fun cc => absurd cc (by decide +kernel)) (fun _ => ?_)
  refine lv_aload_n hx hb dX11_clears_8 rfl (lv_at hl 2 rfl) ?_
  refine lv_iload_n hx hb dX11_clears_9 rfl (lv_at hl 0 rfl) ?_
  refine lv_lconst (v := 0) hx hb dX11_clears_10 (by decide) ?_
  refine st_l (j := 3) (g := tL [0, 0, 0, 0, 1, 0, 0, 0, 0] 0) hx hb hK hP hD hS 0 rfl (by decide +kernel) upd_tL dX11_clears_11 (fun H locs hP hD hS => ?_)
  have hP : va_P D cl0 [(h0, .inl (k 1, 9, .inr (.inl (tL [0, 0, 0, 0, 1, 0, 0, 0, 0] 0))))] H := hP
  have hD : va_D A [(h0, .inl (k 1, 9, .inr (.inl (tL [0, 0, 0, 0, 1, 0, 0, 0, 0] 0))))] := hD
  refine lv_iinc (v := 4) (lv' := [(2, .int 4), (0, .ref h1), (1, .ref h0)]) hx hb dX11_clears_12 hl (k := 0) rfl (by decide) (by decide) rfl (fun ls hl => ?_)
  refine lv_goto (tgt := 2) hx hb dX11_clears_15 (by decide) ?_
  refine lv_iload_n hx hb dX11_clears_2 rfl (lv_at hl 0 rfl) ?_
  refine lv_bipush (v := 9) hx hb dX11_clears_3 (by decide) ?_
  refine lv_icmp_ge (tgt := 18) hx hb dX11_clears_5 (by decide) (fun cc => absurd cc (by decide +kernel)) (fun _ => ?_)
  refine lv_aload_n hx hb dX11_clears_8 rfl (lv_at hl 2 rfl) ?_
  refine lv_iload_n hx hb dX11_clears_9 rfl (lv_at hl 0 rfl) ?_
  refine lv_lconst (v := 0) hx hb dX11_clears_10 (by decide) ?_
  refine st_l (j := 4) (g := tL [0, 0, 0, 0, 0, 0, 0, 0, 0] 0) hx hb hK hP hD hS 0 rfl (by decide +kernel) upd_tL dX11_clears_11 (fun H locs hP hD hS => ?_)
  have hP : va_P D cl0 [(h0, .inl (k 1, 9, .inr (.inl (tL [0, 0, 0, 0, 0, 0, 0, 0, 0] 0))))] H := hP
  have hD : va_D A [(h0, .inl (k 1, 9, .inr (.inl (tL [0, 0, 0, 0, 0, 0, 0, 0, 0] 0))))] := hD
  refine lv_iinc (v := 5) (lv' := [(2, .int 5), (0, .ref h1), (1, .ref h0)]) hx hb dX11_clears_12 hl (k := 0) rfl (by decide) (by decide) rfl (fun ls hl => ?_)
  refine lv_goto (tgt := 2) hx hb dX11_clears_15 (by decide) ?_
  refine lv_iload_n hx hb dX11_clears_2 rfl (lv_at hl 0 rfl) ?_
  refine lv_bipush (v := 9) hx hb dX11_clears_3 (by decide) ?_
  refine lv_icmp_ge (tgt := 18) hx hb dX11_clears_5 (by decide) (fun cc => absurd cc (by decide +kernel)) (fun _ => ?_)
  refine lv_aload_n hx hb dX11_clears_8 rfl (lv_at hl 2 rfl) ?_
  refine lv_iload_n hx hb dX11_clears_9 rfl (lv_at hl 0 rfl) ?_
  refine lv_lconst (v := 0) hx hb dX11_clears_10 (by decide) ?_
  refine st_l (j := 5) (g := tL [0, 0, 0, 0, 0, 0, 0, 0, 0] 0) hx hb hK hP hD hS 0 rfl (by decide +kernel) upd_tL dX11_clears_11 (fun H locs hP hD hS => ?_)
  have hP : va_P D cl0 [(h0, .inl (k 1, 9, .inr (.inl (tL [0, 0, 0, 0, 0, 0, 0, 0, 0] 0))))] H := hP
  have hD : va_D A [(h0, .inl (k 1, 9, .inr (.inl (tL [0, 0, 0, 0, 0, 0, 0, 0, 0] 0))))] := hD
  refine lv_iinc (v := 6) (lv' := [(2, .int 6), (0, .ref h1), (1, .ref h0)]) hx hb dX11_clears_12 hl (k := 0) rfl (by decide) (by decide) rfl (fun ls hl => ?_)
  refine lv_goto (tgt := 2) hx hb dX11_clears_15 (by decide) ?_
  refine lv_iload_n hx hb dX11_clears_2 rfl (lv_at hl 0 rfl) ?_
  refine lv_bipush (v := 9) hx hb dX11_clears_3 (by decide) ?_
  refine lv_icmp_ge (tgt := 18) hx hb dX11_clears_5 (by decide) (fun cc => absurd cc (by decide +kernel)) (fun _ => ?_)
  refine lv_aload_n hx hb dX11_clears_8 rfl (lv_at hl 2 rfl) ?_
  refine lv_iload_n hx hb dX11_clears_9 rfl (lv_at hl 0 rfl) ?_
  refine lv_lconst (v := 0) hx hb dX11_clears_10 (by decide) ?_
  refine st_l (j := 6) (g := tL [0, 0, 0, 0, 0, 0, 0, 0, 0] 0) hx hb hK hP hD hS 0 rfl (by decide +kernel) upd_tL dX11_clears_11 (fun H locs hP hD hS => ?_)
  have hP : va_P D cl0 [(h0, .inl (k 1, 9, .inr (.inl (tL [0, 0, 0, 0, 0, 0, 0, 0, 0] 0))))] H := hP
  have hD : va_D A [(h0, .inl (k 1, 9, .inr (.inl (tL [0, 0, 0, 0, 0, 0, 0, 0, 0] 0))))] := hD
  refine lv_iinc (v := 7) (lv' := [(2, .int 7), (0, .ref h1), (1, .ref h0)]) hx hb dX11_clears_12 hl (k := 0) rfl (by decide) (by decide) rfl (fun ls hl => ?_)
  refine lv_goto (tgt := 2) hx hb dX11_clears_15 (by decide) ?_
  refine lv_iload_n hx hb dX11_clears_2 rfl (lv_at hl 0 rfl) ?_
  refine lv_bipush (v := 9) hx hb dX11_clears_3 (by decide) ?_
  refine lv_icmp_ge (tgt := 18) hx hb dX11_clears_5 (by decide) (fun cc => absurd cc (by decide +kernel)) (fun _ => ?_)
  refine lv_aload_n hx hb dX11_clears_8 rfl (lv_at hl 2 rfl) ?_
  refine lv_iload_n hx hb dX11_clears_9 rfl (lv_at hl 0 rfl) ?_
  refine lv_lconst (v := 0) hx hb dX11_clears_10 (by decide) ?_
  refine st_l (j := 7) (g := tL [0, 0, 0, 0, 0, 0, 0, 0, 0] 0) hx hb hK hP hD hS 0 rfl (by decide +kernel) upd_tL dX11_clears_11 (fun H locs hP hD hS => ?_)
  have hP : va_P D cl0 [(h0, .inl (k 1, 9, .inr (.inl (tL [0, 0, 0, 0, 0, 0, 0, 0, 0] 0))))] H := hP
  have hD : va_D A [(h0, .inl (k 1, 9, .inr (.inl (tL [0, 0, 0, 0, 0, 0, 0, 0, 0] 0))))] := hD
  refine lv_iinc (v := 8) (lv' := [(2, .int 8), (0, .ref h1), (1, .ref h0)]) hx hb dX11_clears_12 hl (k := 0) rfl (by decide) (by decide) rfl (fun ls hl => ?_)
  refine lv_goto (tgt := 2) hx hb dX11_clears_15 (by decide) ?_
  refine lv_iload_n hx hb dX11_clears_2 rfl (lv_at hl 0 rfl) ?_
  refine lv_bipush (v := 9) hx hb dX11_clears_3 (by decide) ?_
  refine lv_icmp_ge (tgt := 18) hx hb dX11_clears_5 (by decide) (fun cc => absurd cc (by decide +kernel)) (fun _ => ?_)
  refine lv_aload_n hx hb dX11_clears_8 rfl (lv_at hl 2 rfl) ?_
  refine lv_iload_n hx hb dX11_clears_9 rfl (lv_at hl 0 rfl) ?_
  refine lv_lconst (v := 0) hx hb dX11_clears_10 (by decide) ?_
  refine st_l (j := 8) (g := tL [0, 0, 0, 0, 0, 0, 0, 0, 0] 0) hx hb hK hP hD hS 0 rfl (by decide +kernel) upd_tL dX11_clears_11 (fun H locs hP hD hS => ?_)
  have hP : va_P D cl0 [(h0, .inl (k 1, 9, .inr (.inl (tL [0, 0, 0, 0, 0, 0, 0, 0, 0] 0))))] H := hP
  have hD : va_D A [(h0, .inl (k 1, 9, .inr (.inl (tL [0, 0, 0, 0, 0, 0, 0, 0, 0] 0))))] := hD
  refine lv_iinc (v := 9) (lv' := [(2, .int 9), (0, .ref h1), (1, .ref h0)]) hx hb dX11_clears_12 hl (k := 0) rfl (by decide) (by decide) rfl (fun ls hl => ?_)
  refine lv_goto (tgt := 2) hx hb dX11_clears_15 (by decide) ?_
  refine lv_iload_n hx hb dX11_clears_2 rfl (lv_at hl 0 rfl) ?_
  refine lv_bipush (v := 9) hx hb dX11_clears_3 (by decide) ?_
  refine lv_icmp_ge (tgt := 18) hx hb dX11_clears_5 (by decide) (fun _ => ?_) (fun cc => absurd (by decide +kernel) cc)
  exact retV hx hb hr hlocks hS (⟨hP, hD⟩) dX11_clears_18
abbrev BX11_first_3 (D : va_G) (k : Nat → ClassId) (h0 h1 h2 h3 h4 h5 h6 h7 h8 h9 h10 h11 h12 h13 h14 h15 h16 h17 h18 h19 h20 h21 : Nat) (A : Nat → Prop) (H : Heap) : Prop := va_P D cl0 [(h1, .inr (8, [.int 2, .int 1, .int (-1778682749), .int 0, .int 0, .int 0, .ref h2, .ref h3, .int 0, .int 0, .ref h0, .ref h4, .ref h5, .ref h6, .ref h7, .ref h8, .ref h9, .int 0, .int 0, .int 0, .ref h10, .ref h11, .ref h12, .ref h13, .int 0, .int 0, .ref h14, .ref h15, .ref h16, .ref h17, .int 0, .int 0, .ref h18, .ref h19, .ref h20, .ref h21])), (h0, .inl (k 1, 9, .inr (.inl (tL [1, 0, 0, 0, 1, 0, 0, 0, 0] 0))))] H ∧ va_D A [(h1, .inr (8, [.int 2, .int 1, .int (-1778682749), .int 0, .int 0, .int 0, .ref h2, .ref h3, .int 0, .int 0, .ref h0, .ref h4, .ref h5, .ref h6, .ref h7, .ref h8, .ref h9, .int 0, .int 0, .int 0, .ref h10, .ref h11, .ref h12, .ref h13, .int 0, .int 0, .ref h14, .ref h15, .ref h16, .ref h17, .int 0, .int 0, .ref h18, .ref h19, .ref h20, .ref h21])), (h0, .inl (k 1, 9, .inr (.inl (tL [1, 0, 0, 0, 1, 0, 0, 0, 0] 0))))]
set_option maxHeartbeats 4000000 in
set_option maxRecDepth 100000 in
theorem cX11_first_3 (l : Launch) (D : va_G) (k : Nat → ClassId) (sz : Nat) (h0 h1 h2 h3 h4 h5 h6 h7 h8 h9 h10 h11 h12 h13 h14 h15 h16 h17 h18 h19 h20 h21 : Nat) : Met l yX11_first (Cond.code yX11_first cX11_first 3 none :: uw) ({ frames := 1, cells := 0, slots := 0, locals := 22 }) (pC D k sz [.ref h1, .ref h0] [(h0, .inl (k 1, 9, .inr (.inl (tL [(-1), 0, 0, 0, 1, 0, 0, 0, 0] 0)))), (h1, .inr (8, [.int 2, .int 1, .int (-1778682749), .int 0, .int 0, .int 0, .ref h2, .ref h3, .int 0, .int 0, .ref h0, .ref h4, .ref h5, .ref h6, .ref h7, .ref h8, .ref h9, .int 0, .int 0, .int 0, .ref h10, .ref h11, .ref h12, .ref h13, .int 0, .int 0, .ref h14, .ref h15, .ref h16, .ref h17, .int 0, .int 0, .ref h18, .ref h19, .ref h20, .ref h21]))]) (qV (BX11_first_3 D k h0 h1 h2 h3 h4 h5 h6 h7 h8 h9 h10 h11 h12 h13 h14 h15 h16 h17 h18 h19 h20 h21 (va_A [(h0, .inl (k 1, 9, .inr (.inl (tL [(-1), 0, 0, 0, 1, 0, 0, 0, 0] 0)))), (h1, .inr (8, [.int 2, .int 1, .int (-1778682749), .int 0, .int 0, .int 0, .ref h2, .ref h3, .int 0, .int 0, .ref h0, .ref h4, .ref h5, .ref h6, .ref h7, .ref h8, .ref h9, .int 0, .int 0, .int 0, .ref h10, .ref h11, .ref h12, .ref h13, .int 0, .int 0, .ref h14, .ref h15, .ref h16, .ref h17, .int 0, .int 0, .ref h18, .ref h19, .ref h20, .ref h21]))] sz)) (va_A [(h0, .inl (k 1, 9, .inr (.inl (tL [(-1), 0, 0, 0, 1, 0, 0, 0, 0] 0)))), (h1, .inr (8, [.int 2, .int 1, .int (-1778682749), .int 0, .int 0, .int 0, .ref h2, .ref h3, .int 0, .int 0, .ref h0, .ref h4, .ref h5, .ref h6, .ref h7, .ref h8, .ref h9, .int 0, .int 0, .int 0, .ref h10, .ref h11, .ref h12, .ref h13, .int 0, .int 0, .ref h14, .ref h15, .ref h16, .ref h17, .int 0, .int 0, .ref h18, .ref h19, .ref h20, .ref h21]))] sz)) 0 0 (va_A [(h0, .inl (k 1, 9, .inr (.inl (tL [(-1), 0, 0, 0, 1, 0, 0, 0, 0] 0)))), (h1, .inr (8, [.int 2, .int 1, .int (-1778682749), .int 0, .int 0, .int 0, .ref h2, .ref h3, .int 0, .int 0, .ref h0, .ref h4, .ref h5, .ref h6, .ref h7, .ref h8, .ref h9, .int 0, .int 0, .int 0, .ref h10, .ref h11, .ref h12, .ref h13, .int 0, .int 0, .ref h14, .ref h15, .ref h16, .ref h17, .int 0, .int 0, .ref h18, .ref h19, .ref h20, .ref h21]))] sz) := by
  refine begin_ (Qc := fun A => qV (BX11_first_3 D k h0 h1 h2 h3 h4 h5 h6 h7 h8 h9 h10 h11 h12 h13 h14 h15 h16 h17 h18 h19 h20 h21 A) A) (by decide) (Nat.le_of_ble_eq_true rfl) ?_
  intro p e s m below meth c ls A hx hb hr hml hown hlocks hin hU hK hsz hP hD hS hA hl
  have hl : lv_has ls 3 [(0, .ref h1), (1, .ref h0)] := hl
  clear hsz
  refine lv_aload_n hx hb dX11_first_0 rfl (lv_at hl 0 rfl) ?_
  refine lv_aload_n hx hb dX11_first_1 rfl (lv_at hl 1 rfl) ?_
  refine cV (rV (q0 := 1) (ci := 8) (As := [.ref h0]) (rest := []) (wc := [(h0, .inl (k 1, 9, .inr (.inl (tL [(-1), 0, 0, 0, 1, 0, 0, 0, 0] 0))))]) hx hb hml hown hU hK hP hD rfl rfl [0] rfl (by decide) (cX11_clears_2 l D k _ h0 h1) w923 w920 w922 w29 w72 hdX11_clears ⟨rfl, rfl⟩ ⟨Nat.le_of_ble_eq_true rfl, Nat.le_of_ble_eq_true rfl⟩ rfl hl.1 (Nat.le_of_ble_eq_true rfl) dX11_first_2 ⟨Nat.le_of_ble_eq_true rfl, Nat.le_of_ble_eq_true rfl⟩) hP hD hS hA (wr := [(h1, .inr (8, [.int 2, .int 1, .int (-1778682749), .int 0, .int 0, .int 0, .ref h2, .ref h3, .int 0, .int 0, .ref h0, .ref h4, .ref h5, .ref h6, .ref h7, .ref h8, .ref h9, .int 0, .int 0, .int 0, .ref h10, .ref h11, .ref h12, .ref h13, .int 0, .int 0, .ref h14, .ref h15, .ref h16, .ref h17, .int 0, .int 0, .ref h18, .ref h19, .ref h20, .ref h21]))]) [0] [1] rfl rfl (by decide) (by decide) (fun H locs hB J hS => ?_)
  obtain ⟨hP1, hD1⟩ := hB
  obtain ⟨hP, hD⟩ := J _ hP1 hD1
  have hP : va_P D cl0 [(h1, .inr (8, [.int 2, .int 1, .int (-1778682749), .int 0, .int 0, .int 0, .ref h2, .ref h3, .int 0, .int 0, .ref h0, .ref h4, .ref h5, .ref h6, .ref h7, .ref h8, .ref h9, .int 0, .int 0, .int 0, .ref h10, .ref h11, .ref h12, .ref h13, .int 0, .int 0, .ref h14, .ref h15, .ref h16, .ref h17, .int 0, .int 0, .ref h18, .ref h19, .ref h20, .ref h21])), (h0, .inl (k 1, 9, .inr (.inl (tL [0, 0, 0, 0, 0, 0, 0, 0, 0] 0))))] H := hP
  have hD : va_D A [(h1, .inr (8, [.int 2, .int 1, .int (-1778682749), .int 0, .int 0, .int 0, .ref h2, .ref h3, .int 0, .int 0, .ref h0, .ref h4, .ref h5, .ref h6, .ref h7, .ref h8, .ref h9, .int 0, .int 0, .int 0, .ref h10, .ref h11, .ref h12, .ref h13, .int 0, .int 0, .ref h14, .ref h15, .ref h16, .ref h17, .int 0, .int 0, .ref h18, .ref h19, .ref h20, .ref h21])), (h0, .inl (k 1, 9, .inr (.inl (tL [0, 0, 0, 0, 0, 0, 0, 0, 0] 0))))] := hD
  refine lv_iconst (v := 0) hx hb dX11_first_5 (by decide) ?_
  refine lv_istore_n (lv' := [(2, .int 0), (0, .ref h1), (1, .ref h0)]) hx hb dX11_first_6 rfl hl (by decide) rfl (fun ls hl => ?_)
  refine lv_iload_n hx hb dX11_first_7 rfl (lv_at hl 0 rfl) ?_
  refine lv_aload_n hx hb dX11_first_8 rfl (lv_at hl 1 rfl) ?_
  refine va_get (D := D) (ci := 8) (v := .int 2) (C := RX11) (T := TX11) (N := 36) hx hb hU iX11 hown hK.1 hP 0 rfl rfl 0 (by decide) (hU _ w785) (fun _ h9 => h9) rfl dX11_first_9 ?_
  refine lv_icmp_ge (tgt := 27) hx hb dX11_first_12 (by decide) (fun cc => absurd cc (by decide +kernel)) (fun _ => ?_)
  refine lv_aload_n hx hb dX11_first_15 rfl (lv_at hl 2 rfl) ?_
  refine lv_iconst (v := 4) hx hb dX11_first_16 (by decide) ?_
  refine lv_iload_n hx hb dX11_first_17 rfl (lv_at hl 0 rfl) ?_
  refine lv_imul hx hb dX11_first_18 (sv_i (v := 0) (by decide +kernel) ?_)
  refine lv_lconst (v := 1) hx hb dX11_first_19 (by decide) ?_
  refine st_l (j := 0) (g := tL [1, 0, 0, 0, 0, 0, 0, 0, 0] 0) hx hb hK hP hD hS 1 rfl (by decide +kernel) upd_tL dX11_first_20 (fun H locs hP hD hS => ?_)
  have hP : va_P D cl0 [(h1, .inr (8, [.int 2, .int 1, .int (-1778682749), .int 0, .int 0, .int 0, .ref h2, .ref h3, .int 0, .int 0, .ref h0, .ref h4, .ref h5, .ref h6, .ref h7, .ref h8, .ref h9, .int 0, .int 0, .int 0, .ref h10, .ref h11, .ref h12, .ref h13, .int 0, .int 0, .ref h14, .ref h15, .ref h16, .ref h17, .int 0, .int 0, .ref h18, .ref h19, .ref h20, .ref h21])), (h0, .inl (k 1, 9, .inr (.inl (tL [1, 0, 0, 0, 0, 0, 0, 0, 0] 0))))] H := hP
  have hD : va_D A [(h1, .inr (8, [.int 2, .int 1, .int (-1778682749), .int 0, .int 0, .int 0, .ref h2, .ref h3, .int 0, .int 0, .ref h0, .ref h4, .ref h5, .ref h6, .ref h7, .ref h8, .ref h9, .int 0, .int 0, .int 0, .ref h10, .ref h11, .ref h12, .ref h13, .int 0, .int 0, .ref h14, .ref h15, .ref h16, .ref h17, .int 0, .int 0, .ref h18, .ref h19, .ref h20, .ref h21])), (h0, .inl (k 1, 9, .inr (.inl (tL [1, 0, 0, 0, 0, 0, 0, 0, 0] 0))))] := hD
  refine lv_iinc (v := 1) (lv' := [(2, .int 1), (0, .ref h1), (1, .ref h0)]) hx hb dX11_first_21 hl (k := 0) rfl (by decide) (by decide) rfl (fun ls hl => ?_)
  refine lv_goto (tgt := 7) hx hb dX11_first_24 (by decide) ?_
  refine lv_iload_n hx hb dX11_first_7 rfl (lv_at hl 0 rfl) ?_
  refine lv_aload_n hx hb dX11_first_8 rfl (lv_at hl 1 rfl) ?_
  refine va_get (D := D) (ci := 8) (v := .int 2) (C := RX11) (T := TX11) (N := 36) hx hb hU iX11 hown hK.1 hP 0 rfl rfl 0 (by decide) (hU _ w785) (fun _ h9 => h9) rfl dX11_first_9 ?_
  refine lv_icmp_ge (tgt := 27) hx hb dX11_first_12 (by decide) (fun cc => absurd cc (by decide +kernel)) (fun _ => ?_)
  refine lv_aload_n hx hb dX11_first_15 rfl (lv_at hl 2 rfl) ?_
  refine lv_iconst (v := 4) hx hb dX11_first_16 (by decide) ?_
  refine lv_iload_n hx hb dX11_first_17 rfl (lv_at hl 0 rfl) ?_
  refine lv_imul hx hb dX11_first_18 (sv_i (v := 4) (by decide +kernel) ?_)
  refine lv_lconst (v := 1) hx hb dX11_first_19 (by decide) ?_
  refine st_l (j := 4) (g := tL [1, 0, 0, 0, 1, 0, 0, 0, 0] 0) hx hb hK hP hD hS 1 rfl (by decide +kernel) upd_tL dX11_first_20 (fun H locs hP hD hS => ?_)
  have hP : va_P D cl0 [(h1, .inr (8, [.int 2, .int 1, .int (-1778682749), .int 0, .int 0, .int 0, .ref h2, .ref h3, .int 0, .int 0, .ref h0, .ref h4, .ref h5, .ref h6, .ref h7, .ref h8, .ref h9, .int 0, .int 0, .int 0, .ref h10, .ref h11, .ref h12, .ref h13, .int 0, .int 0, .ref h14, .ref h15, .ref h16, .ref h17, .int 0, .int 0, .ref h18, .ref h19, .ref h20, .ref h21])), (h0, .inl (k 1, 9, .inr (.inl (tL [1, 0, 0, 0, 1, 0, 0, 0, 0] 0))))] H := hP
  have hD : va_D A [(h1, .inr (8, [.int 2, .int 1, .int (-1778682749), .int 0, .int 0, .int 0, .ref h2, .ref h3, .int 0, .int 0, .ref h0, .ref h4, .ref h5, .ref h6, .ref h7, .ref h8, .ref h9, .int 0, .int 0, .int 0, .ref h10, .ref h11, .ref h12, .ref h13, .int 0, .int 0, .ref h14, .ref h15, .ref h16, .ref h17, .int 0, .int 0, .ref h18, .ref h19, .ref h20, .ref h21])), (h0, .inl (k 1, 9, .inr (.inl (tL [1, 0, 0, 0, 1, 0, 0, 0, 0] 0))))] := hD
  refine lv_iinc (v := 2) (lv' := [(2, .int 2), (0, .ref h1), (1, .ref h0)]) hx hb dX11_first_21 hl (k := 0) rfl (by decide) (by decide) rfl (fun ls hl => ?_)
  refine lv_goto (tgt := 7) hx hb dX11_first_24 (by decide) ?_
  refine lv_iload_n hx hb dX11_first_7 rfl (lv_at hl 0 rfl) ?_
  refine lv_aload_n hx hb dX11_first_8 rfl (lv_at hl 1 rfl) ?_
  refine va_get (D := D) (ci := 8) (v := .int 2) (C := RX11) (T := TX11) (N := 36) hx hb hU iX11 hown hK.1 hP 0 rfl rfl 0 (by decide) (hU _ w785) (fun _ h9 => h9) rfl dX11_first_9 ?_
  refine lv_icmp_ge (tgt := 27) hx hb dX11_first_12 (by decide) (fun _ => ?_) (fun cc => absurd (by decide +kernel) cc)
  exact retV hx hb hr hlocks hS (⟨hP, hD⟩) dX11_first_27
abbrev BX11_makesUnit_8 (D : va_G) (k : Nat → ClassId) (h0 h1 h2 h3 h4 h5 h6 h7 h8 h9 h10 h11 h12 h13 h14 h15 h16 h17 h18 h19 h20 h21 : Nat) (A : Nat → Prop) (H : Heap) : Prop := va_P D cl0 [(h0, .inr (8, [.int 2, .int 1, .int (-1778682749), .int 0, .int 0, .int 0, .ref h2, .ref h3, .int 0, .int 0, .ref h1, .ref h4, .ref h5, .ref h6, .ref h7, .ref h8, .ref h9, .int 0, .int 0, .int 0, .ref h10, .ref h11, .ref h12, .ref h13, .int 0, .int 0, .ref h14, .ref h15, .ref h16, .ref h17, .int 0, .int 0, .ref h18, .ref h19, .ref h20, .ref h21])), (h1, .inl (k 1, 9, .inr (.inl (tL [1, 0, 0, 0, (-1), 0, 0, 0, 0] 0))))] H ∧ va_D A [(h0, .inr (8, [.int 2, .int 1, .int (-1778682749), .int 0, .int 0, .int 0, .ref h2, .ref h3, .int 0, .int 0, .ref h1, .ref h4, .ref h5, .ref h6, .ref h7, .ref h8, .ref h9, .int 0, .int 0, .int 0, .ref h10, .ref h11, .ref h12, .ref h13, .int 0, .int 0, .ref h14, .ref h15, .ref h16, .ref h17, .int 0, .int 0, .ref h18, .ref h19, .ref h20, .ref h21])), (h1, .inl (k 1, 9, .inr (.inl (tL [1, 0, 0, 0, (-1), 0, 0, 0, 0] 0))))]
set_option maxHeartbeats 4000000 in
set_option maxRecDepth 100000 in
theorem cX11_makesUnit_8 (l : Launch) (D : va_G) (k : Nat → ClassId) (sz : Nat) (h0 h1 h2 h3 h4 h5 h6 h7 h8 h9 h10 h11 h12 h13 h14 h15 h16 h17 h18 h19 h20 h21 : Nat) : Met l yX11_makesUnit (Cond.code yX11_makesUnit cX11_makesUnit 4 none :: uw) ({ frames := 2, cells := 0, slots := 0, locals := 44 }) (pC D k sz [.ref h0, .int 1, .int 1, .int (-1)] [(h0, .inr (8, [.int 2, .int 1, .int (-1778682749), .int 0, .int 0, .int 0, .ref h2, .ref h3, .int 0, .int 0, .ref h1, .ref h4, .ref h5, .ref h6, .ref h7, .ref h8, .ref h9, .int 0, .int 0, .int 0, .ref h10, .ref h11, .ref h12, .ref h13, .int 0, .int 0, .ref h14, .ref h15, .ref h16, .ref h17, .int 0, .int 0, .ref h18, .ref h19, .ref h20, .ref h21])), (h1, .inl (k 1, 9, .inr (.inl (tL [(-1), 0, 0, 0, 1, 0, 0, 0, 0] 0))))]) (qV (BX11_makesUnit_8 D k h0 h1 h2 h3 h4 h5 h6 h7 h8 h9 h10 h11 h12 h13 h14 h15 h16 h17 h18 h19 h20 h21 (va_A [(h0, .inr (8, [.int 2, .int 1, .int (-1778682749), .int 0, .int 0, .int 0, .ref h2, .ref h3, .int 0, .int 0, .ref h1, .ref h4, .ref h5, .ref h6, .ref h7, .ref h8, .ref h9, .int 0, .int 0, .int 0, .ref h10, .ref h11, .ref h12, .ref h13, .int 0, .int 0, .ref h14, .ref h15, .ref h16, .ref h17, .int 0, .int 0, .ref h18, .ref h19, .ref h20, .ref h21])), (h1, .inl (k 1, 9, .inr (.inl (tL [(-1), 0, 0, 0, 1, 0, 0, 0, 0] 0))))] sz)) (va_A [(h0, .inr (8, [.int 2, .int 1, .int (-1778682749), .int 0, .int 0, .int 0, .ref h2, .ref h3, .int 0, .int 0, .ref h1, .ref h4, .ref h5, .ref h6, .ref h7, .ref h8, .ref h9, .int 0, .int 0, .int 0, .ref h10, .ref h11, .ref h12, .ref h13, .int 0, .int 0, .ref h14, .ref h15, .ref h16, .ref h17, .int 0, .int 0, .ref h18, .ref h19, .ref h20, .ref h21])), (h1, .inl (k 1, 9, .inr (.inl (tL [(-1), 0, 0, 0, 1, 0, 0, 0, 0] 0))))] sz)) 0 0 (va_A [(h0, .inr (8, [.int 2, .int 1, .int (-1778682749), .int 0, .int 0, .int 0, .ref h2, .ref h3, .int 0, .int 0, .ref h1, .ref h4, .ref h5, .ref h6, .ref h7, .ref h8, .ref h9, .int 0, .int 0, .int 0, .ref h10, .ref h11, .ref h12, .ref h13, .int 0, .int 0, .ref h14, .ref h15, .ref h16, .ref h17, .int 0, .int 0, .ref h18, .ref h19, .ref h20, .ref h21])), (h1, .inl (k 1, 9, .inr (.inl (tL [(-1), 0, 0, 0, 1, 0, 0, 0, 0] 0))))] sz) := by
  refine begin_ (Qc := fun A => qV (BX11_makesUnit_8 D k h0 h1 h2 h3 h4 h5 h6 h7 h8 h9 h10 h11 h12 h13 h14 h15 h16 h17 h18 h19 h20 h21 A) A) (by decide) (Nat.le_of_ble_eq_true rfl) ?_
  intro p e s m below meth c ls A hx hb hr hml hown hlocks hin hU hK hsz hP hD hS hA hl
  have hl : lv_has ls 4 [(0, .ref h0), (1, .int 1), (2, .int 1), (3, .int (-1))] := hl
  clear hsz
  refine lv_aload_n hx hb dX11_makesUnit_0 rfl (lv_at hl 0 rfl) ?_
  refine lv_aload_n hx hb dX11_makesUnit_1 rfl (lv_at hl 0 rfl) ?_
  refine va_get (D := D) (ci := 8) (v := .ref h1) (C := RX11) (T := TX11) (N := 36) hx hb hU iX11 hown hK.1 hP 0 rfl rfl 10 (by decide) (hU _ w795) (fun _ h9 => h9) rfl dX11_makesUnit_2 ?_
  refine cV (rV (q0 := 0) (ci := 8) (As := [.ref h1]) (rest := []) (wc := [(h1, .inl (k 1, 9, .inr (.inl (tL [(-1), 0, 0, 0, 1, 0, 0, 0, 0] 0)))), (h0, .inr (8, [.int 2, .int 1, .int (-1778682749), .int 0, .int 0, .int 0, .ref h2, .ref h3, .int 0, .int 0, .ref h1, .ref h4, .ref h5, .ref h6, .ref h7, .ref h8, .ref h9, .int 0, .int 0, .int 0, .ref h10, .ref h11, .ref h12, .ref h13, .int 0, .int 0, .ref h14, .ref h15, .ref h16, .ref h17, .int 0, .int 0, .ref h18, .ref h19, .ref h20, .ref h21]))]) hx hb hml hown hU hK hP hD rfl rfl [1, 0] rfl (by decide) (cX11_first_3 l D k _ h1 h0 h2 h3 h4 h5 h6 h7 h8 h9 h10 h11 h12 h13 h14 h15 h16 h17 h18 h19 h20 h21) w919 w916 w918 w28 w72 hdX11_first ⟨rfl, rfl⟩ ⟨Nat.le_of_ble_eq_true rfl, Nat.le_of_ble_eq_true rfl⟩ rfl hl.1 (Nat.le_of_ble_eq_true rfl) dX11_makesUnit_5 ⟨Nat.le_of_ble_eq_true rfl, Nat.le_of_ble_eq_true rfl⟩) hP hD hS hA (wr := []) [1, 0] [] rfl rfl (by decide) (by decide) (fun H locs hB J hS => ?_)
  obtain ⟨hP1, hD1⟩ := hB
  obtain ⟨hP, hD⟩ := J _ hP1 hD1
  have hP : va_P D cl0 [(h0, .inr (8, [.int 2, .int 1, .int (-1778682749), .int 0, .int 0, .int 0, .ref h2, .ref h3, .int 0, .int 0, .ref h1, .ref h4, .ref h5, .ref h6, .ref h7, .ref h8, .ref h9, .int 0, .int 0, .int 0, .ref h10, .ref h11, .ref h12, .ref h13, .int 0, .int 0, .ref h14, .ref h15, .ref h16, .ref h17, .int 0, .int 0, .ref h18, .ref h19, .ref h20, .ref h21])), (h1, .inl (k 1, 9, .inr (.inl (tL [1, 0, 0, 0, 1, 0, 0, 0, 0] 0))))] H := hP
  have hD : va_D A [(h0, .inr (8, [.int 2, .int 1, .int (-1778682749), .int 0, .int 0, .int 0, .ref h2, .ref h3, .int 0, .int 0, .ref h1, .ref h4, .ref h5, .ref h6, .ref h7, .ref h8, .ref h9, .int 0, .int 0, .int 0, .ref h10, .ref h11, .ref h12, .ref h13, .int 0, .int 0, .ref h14, .ref h15, .ref h16, .ref h17, .int 0, .int 0, .ref h18, .ref h19, .ref h20, .ref h21])), (h1, .inl (k 1, 9, .inr (.inl (tL [1, 0, 0, 0, 1, 0, 0, 0, 0] 0))))] := hD
  refine lv_aload_n hx hb dX11_makesUnit_8 rfl (lv_at hl 0 rfl) ?_
  refine va_get (D := D) (ci := 8) (v := .ref h1) (C := RX11) (T := TX11) (N := 36) hx hb hU iX11 hown hK.1 hP 0 rfl rfl 10 (by decide) (hU _ w795) (fun _ h9 => h9) rfl dX11_makesUnit_9 ?_
  refine lv_iconst (v := 3) hx hb dX11_makesUnit_12 (by decide) ?_
  refine lv_iload_n hx hb dX11_makesUnit_13 rfl (lv_at hl 1 rfl) ?_
  refine lv_imul hx hb dX11_makesUnit_14 (sv_i (v := 3) (by decide +kernel) ?_)
  refine lv_iload_n hx hb dX11_makesUnit_15 rfl (lv_at hl 2 rfl) ?_
  refine lv_iadd hx hb dX11_makesUnit_16 (sv_i (v := 4) (by decide +kernel) ?_)
  refine lv_iload_n hx hb dX11_makesUnit_17 rfl (lv_at hl 3 rfl) ?_
  refine lv_i2l (v := (-1)) hx hb dX11_makesUnit_18 (by decide +kernel) ?_
  refine st_l (j := 4) (g := tL [1, 0, 0, 0, (-1), 0, 0, 0, 0] 0) hx hb hK hP hD hS 1 rfl (by decide +kernel) upd_tL dX11_makesUnit_19 (fun H locs hP hD hS => ?_)
  have hP : va_P D cl0 [(h0, .inr (8, [.int 2, .int 1, .int (-1778682749), .int 0, .int 0, .int 0, .ref h2, .ref h3, .int 0, .int 0, .ref h1, .ref h4, .ref h5, .ref h6, .ref h7, .ref h8, .ref h9, .int 0, .int 0, .int 0, .ref h10, .ref h11, .ref h12, .ref h13, .int 0, .int 0, .ref h14, .ref h15, .ref h16, .ref h17, .int 0, .int 0, .ref h18, .ref h19, .ref h20, .ref h21])), (h1, .inl (k 1, 9, .inr (.inl (tL [1, 0, 0, 0, (-1), 0, 0, 0, 0] 0))))] H := hP
  have hD : va_D A [(h0, .inr (8, [.int 2, .int 1, .int (-1778682749), .int 0, .int 0, .int 0, .ref h2, .ref h3, .int 0, .int 0, .ref h1, .ref h4, .ref h5, .ref h6, .ref h7, .ref h8, .ref h9, .int 0, .int 0, .int 0, .ref h10, .ref h11, .ref h12, .ref h13, .int 0, .int 0, .ref h14, .ref h15, .ref h16, .ref h17, .int 0, .int 0, .ref h18, .ref h19, .ref h20, .ref h21])), (h1, .inl (k 1, 9, .inr (.inl (tL [1, 0, 0, 0, (-1), 0, 0, 0, 0] 0))))] := hD
  exact retV hx hb hr hlocks hS (⟨hP, hD⟩) dX11_makesUnit_20
abbrev BX11_comes_7 (D : va_G) (k : Nat → ClassId) (h0 h1 h2 h3 h4 h5 h6 h7 h8 h9 h10 h11 h12 h13 h14 h15 h16 h17 h18 h19 h20 h21 : Nat) (A : Nat → Prop) (r : Int32) (H : Heap) : Prop := 1 = r ∧ va_P D cl0 [(h0, .inr (8, [.int 2, .int 2, .int (-1778682749), .int 0, .int 0, .int 0, .ref h2, .ref h3, .int 0, .int 0, .ref h1, .ref h4, .ref h5, .ref h6, .ref h7, .ref h8, .ref h9, .int 0, .int 0, .int 0, .ref h10, .ref h11, .ref h12, .ref h13, .int 0, .int 0, .ref h14, .ref h15, .ref h16, .ref h17, .int 0, .int 0, .ref h18, .ref h19, .ref h20, .ref h21])), (h1, .inl (k 1, 9, .inr (.inl (tL [1, 0, 0, 0, (-1), 0, 0, 0, 0] 0)))), (h2, .inl (k 0, 36, .inl (tI [(-1), 0, 0, 0, 1, 0, 0, 0, 0, 1, 0, 0, 0, (-1), 0, 0, 0, 0] 0)))] H ∧ va_D A [(h0, .inr (8, [.int 2, .int 2, .int (-1778682749), .int 0, .int 0, .int 0, .ref h2, .ref h3, .int 0, .int 0, .ref h1, .ref h4, .ref h5, .ref h6, .ref h7, .ref h8, .ref h9, .int 0, .int 0, .int 0, .ref h10, .ref h11, .ref h12, .ref h13, .int 0, .int 0, .ref h14, .ref h15, .ref h16, .ref h17, .int 0, .int 0, .ref h18, .ref h19, .ref h20, .ref h21])), (h1, .inl (k 1, 9, .inr (.inl (tL [1, 0, 0, 0, (-1), 0, 0, 0, 0] 0)))), (h2, .inl (k 0, 36, .inl (tI [(-1), 0, 0, 0, 1, 0, 0, 0, 0, 1, 0, 0, 0, (-1), 0, 0, 0, 0] 0)))]
set_option maxHeartbeats 4000000 in
set_option maxRecDepth 100000 in
theorem cX11_comes_7 (l : Launch) (D : va_G) (k : Nat → ClassId) (sz : Nat) (h0 h1 h2 h3 h4 h5 h6 h7 h8 h9 h10 h11 h12 h13 h14 h15 h16 h17 h18 h19 h20 h21 : Nat) : Met l yX11_comes (Cond.code yX11_comes cX11_comes 2 (some .int) :: uw) ({ frames := 0, cells := 0, slots := 0, locals := 0 }) (pC D k sz [.ref h0] [(h0, .inr (8, [.int 2, .int 1, .int (-1778682749), .int 0, .int 0, .int 0, .ref h2, .ref h3, .int 0, .int 0, .ref h1, .ref h4, .ref h5, .ref h6, .ref h7, .ref h8, .ref h9, .int 0, .int 0, .int 0, .ref h10, .ref h11, .ref h12, .ref h13, .int 0, .int 0, .ref h14, .ref h15, .ref h16, .ref h17, .int 0, .int 0, .ref h18, .ref h19, .ref h20, .ref h21])), (h1, .inl (k 1, 9, .inr (.inl (tL [1, 0, 0, 0, (-1), 0, 0, 0, 0] 0)))), (h2, .inl (k 0, 36, .inl (tI [(-1), 0, 0, 0, 1, 0, 0, 0, 0] 0)))]) (qI (BX11_comes_7 D k h0 h1 h2 h3 h4 h5 h6 h7 h8 h9 h10 h11 h12 h13 h14 h15 h16 h17 h18 h19 h20 h21 (va_A [(h0, .inr (8, [.int 2, .int 1, .int (-1778682749), .int 0, .int 0, .int 0, .ref h2, .ref h3, .int 0, .int 0, .ref h1, .ref h4, .ref h5, .ref h6, .ref h7, .ref h8, .ref h9, .int 0, .int 0, .int 0, .ref h10, .ref h11, .ref h12, .ref h13, .int 0, .int 0, .ref h14, .ref h15, .ref h16, .ref h17, .int 0, .int 0, .ref h18, .ref h19, .ref h20, .ref h21])), (h1, .inl (k 1, 9, .inr (.inl (tL [1, 0, 0, 0, (-1), 0, 0, 0, 0] 0)))), (h2, .inl (k 0, 36, .inl (tI [(-1), 0, 0, 0, 1, 0, 0, 0, 0] 0)))] sz)) (va_A [(h0, .inr (8, [.int 2, .int 1, .int (-1778682749), .int 0, .int 0, .int 0, .ref h2, .ref h3, .int 0, .int 0, .ref h1, .ref h4, .ref h5, .ref h6, .ref h7, .ref h8, .ref h9, .int 0, .int 0, .int 0, .ref h10, .ref h11, .ref h12, .ref h13, .int 0, .int 0, .ref h14, .ref h15, .ref h16, .ref h17, .int 0, .int 0, .ref h18, .ref h19, .ref h20, .ref h21])), (h1, .inl (k 1, 9, .inr (.inl (tL [1, 0, 0, 0, (-1), 0, 0, 0, 0] 0)))), (h2, .inl (k 0, 36, .inl (tI [(-1), 0, 0, 0, 1, 0, 0, 0, 0] 0)))] sz)) 0 0 (va_A [(h0, .inr (8, [.int 2, .int 1, .int (-1778682749), .int 0, .int 0, .int 0, .ref h2, .ref h3, .int 0, .int 0, .ref h1, .ref h4, .ref h5, .ref h6, .ref h7, .ref h8, .ref h9, .int 0, .int 0, .int 0, .ref h10, .ref h11, .ref h12, .ref h13, .int 0, .int 0, .ref h14, .ref h15, .ref h16, .ref h17, .int 0, .int 0, .ref h18, .ref h19, .ref h20, .ref h21])), (h1, .inl (k 1, 9, .inr (.inl (tL [1, 0, 0, 0, (-1), 0, 0, 0, 0] 0)))), (h2, .inl (k 0, 36, .inl (tI [(-1), 0, 0, 0, 1, 0, 0, 0, 0] 0)))] sz) := by
  refine begin_ (Qc := fun A => qI (BX11_comes_7 D k h0 h1 h2 h3 h4 h5 h6 h7 h8 h9 h10 h11 h12 h13 h14 h15 h16 h17 h18 h19 h20 h21 A) A) (by decide) (Nat.le_of_ble_eq_true rfl) ?_
  intro p e s m below meth c ls A hx hb hr hml hown hlocks hin hU hK hsz hP hD hS hA hl
  have hl : lv_has ls 2 [(0, .ref h0)] := hl
  clear hsz
  refine lv_iconst (v := 0) hx hb dX11_comes_0 (by decide) ?_
  refine lv_istore_n (lv' := [(1, .int 0), (0, .ref h0)]) hx hb dX11_comes_1 rfl hl (by decide) rfl (fun ls hl => ?_)
  refine lv_iload_n hx hb dX11_comes_2 rfl (lv_at hl 0 rfl) ?_
  refine lv_bipush (v := 9) hx hb dX11_comes_3 (by decide) ?_
  refine lv_icmp_ge (tgt := 35) hx hb dX11_comes_5 (by decide) (fun cc => absurd cc (by decide +kernel)) (fun _ => ?_)
  refine lv_aload_n hx hb dX11_comes_8 rfl (lv_at hl 1 rfl) ?_
  refine va_get (D := D) (ci := 8) (v := .ref h2) (C := RX11) (T := TX11) (N := 36) hx hb hU iX11 hown hK.1 hP 0 rfl rfl 6 (by decide) (hU _ w791) (fun _ h9 => h9) rfl dX11_comes_9 ?_
  refine lv_bipush (v := 9) hx hb dX11_comes_12 (by decide) ?_
  refine lv_aload_n hx hb dX11_comes_14 rfl (lv_at hl 1 rfl) ?_
  refine va_get (D := D) (ci := 8) (v := .int 1) (C := RX11) (T := TX11) (N := 36) hx hb hU iX11 hown hK.1 hP 0 rfl rfl 1 (by decide) (hU _ w786) (fun _ h9 => h9) rfl dX11_comes_15 ?_
  refine lv_imul hx hb dX11_comes_18 (sv_i (v := 9) (by decide +kernel) ?_)
  refine lv_iload_n hx hb dX11_comes_19 rfl (lv_at hl 0 rfl) ?_
  refine lv_iadd hx hb dX11_comes_20 (sv_i (v := 9) (by decide +kernel) ?_)
  refine lv_aload_n hx hb dX11_comes_21 rfl (lv_at hl 1 rfl) ?_
  refine va_get (D := D) (ci := 8) (v := .ref h1) (C := RX11) (T := TX11) (N := 36) hx hb hU iX11 hown hK.1 hP 0 rfl rfl 10 (by decide) (hU _ w795) (fun _ h9 => h9) rfl dX11_comes_22 ?_
  refine lv_iload_n hx hb dX11_comes_25 rfl (lv_at hl 0 rfl) ?_
  refine ld_l (j := 0) (v := 1) hx hb hK hP 1 rfl (by decide +kernel) rfl dX11_comes_26 ?_
  refine lv_l2i (v := 1) hx hb dX11_comes_27 (by decide +kernel) ?_
  refine st_i (j := 9) (g := tI [(-1), 0, 0, 0, 1, 0, 0, 0, 0, 1] 0) hx hb hK hP hD hS 2 rfl (by decide +kernel) upd_tI dX11_comes_28 (fun H locs hP hD hS => ?_)
  have hP : va_P D cl0 [(h0, .inr (8, [.int 2, .int 1, .int (-1778682749), .int 0, .int 0, .int 0, .ref h2, .ref h3, .int 0, .int 0, .ref h1, .ref h4, .ref h5, .ref h6, .ref h7, .ref h8, .ref h9, .int 0, .int 0, .int 0, .ref h10, .ref h11, .ref h12, .ref h13, .int 0, .int 0, .ref h14, .ref h15, .ref h16, .ref h17, .int 0, .int 0, .ref h18, .ref h19, .ref h20, .ref h21])), (h1, .inl (k 1, 9, .inr (.inl (tL [1, 0, 0, 0, (-1), 0, 0, 0, 0] 0)))), (h2, .inl (k 0, 36, .inl (tI [(-1), 0, 0, 0, 1, 0, 0, 0, 0, 1] 0)))] H := hP
  have hD : va_D A [(h0, .inr (8, [.int 2, .int 1, .int (-1778682749), .int 0, .int 0, .int 0, .ref h2, .ref h3, .int 0, .int 0, .ref h1, .ref h4, .ref h5, .ref h6, .ref h7, .ref h8, .ref h9, .int 0, .int 0, .int 0, .ref h10, .ref h11, .ref h12, .ref h13, .int 0, .int 0, .ref h14, .ref h15, .ref h16, .ref h17, .int 0, .int 0, .ref h18, .ref h19, .ref h20, .ref h21])), (h1, .inl (k 1, 9, .inr (.inl (tL [1, 0, 0, 0, (-1), 0, 0, 0, 0] 0)))), (h2, .inl (k 0, 36, .inl (tI [(-1), 0, 0, 0, 1, 0, 0, 0, 0, 1] 0)))] := hD
  refine lv_iinc (v := 1) (lv' := [(1, .int 1), (0, .ref h0)]) hx hb dX11_comes_29 hl (k := 0) rfl (by decide) (by decide) rfl (fun ls hl => ?_)
  refine lv_goto (tgt := 2) hx hb dX11_comes_32 (by decide) ?_
  refine lv_iload_n hx hb dX11_comes_2 rfl (lv_at hl 0 rfl) ?_
  refine lv_bipush (v := 9) hx hb dX11_comes_3 (by decide) ?_
  refine lv_icmp_ge (tgt := 35) hx hb dX11_comes_5 (by decide) (fun cc => absurd cc (by decide +kernel)) (fun _ => ?_)
  refine lv_aload_n hx hb dX11_comes_8 rfl (lv_at hl 1 rfl) ?_
  refine va_get (D := D) (ci := 8) (v := .ref h2) (C := RX11) (T := TX11) (N := 36) hx hb hU iX11 hown hK.1 hP 0 rfl rfl 6 (by decide) (hU _ w791) (fun _ h9 => h9) rfl dX11_comes_9 ?_
  refine lv_bipush (v := 9) hx hb dX11_comes_12 (by decide) ?_
  refine lv_aload_n hx hb dX11_comes_14 rfl (lv_at hl 1 rfl) ?_
  refine va_get (D := D) (ci := 8) (v := .int 1) (C := RX11) (T := TX11) (N := 36) hx hb hU iX11 hown hK.1 hP 0 rfl rfl 1 (by decide) (hU _ w786) (fun _ h9 => h9) rfl dX11_comes_15 ?_
  refine lv_imul hx hb dX11_comes_18 (sv_i (v := 9) (by decide +kernel) ?_)
  refine lv_iload_n hx hb dX11_comes_19 rfl (lv_at hl 0 rfl) ?_
  refine lv_iadd hx hb dX11_comes_20 (sv_i (v := 10) (by decide +kernel) ?_)
  refine lv_aload_n hx hb dX11_comes_21 rfl (lv_at hl 1 rfl) ?_
  refine va_get (D := D) (ci := 8) (v := .ref h1) (C := RX11) (T := TX11) (N := 36) hx hb hU iX11 hown hK.1 hP 0 rfl rfl 10 (by decide) (hU _ w795) (fun _ h9 => h9) rfl dX11_comes_22 ?_
  refine lv_iload_n hx hb dX11_comes_25 rfl (lv_at hl 0 rfl) ?_
  refine ld_l (j := 1) (v := 0) hx hb hK hP 1 rfl (by decide +kernel) rfl dX11_comes_26 ?_
  refine lv_l2i (v := 0) hx hb dX11_comes_27 (by decide +kernel) ?_
  refine st_i (j := 10) (g := tI [(-1), 0, 0, 0, 1, 0, 0, 0, 0, 1, 0] 0) hx hb hK hP hD hS 2 rfl (by decide +kernel) upd_tI dX11_comes_28 (fun H locs hP hD hS => ?_)
  have hP : va_P D cl0 [(h0, .inr (8, [.int 2, .int 1, .int (-1778682749), .int 0, .int 0, .int 0, .ref h2, .ref h3, .int 0, .int 0, .ref h1, .ref h4, .ref h5, .ref h6, .ref h7, .ref h8, .ref h9, .int 0, .int 0, .int 0, .ref h10, .ref h11, .ref h12, .ref h13, .int 0, .int 0, .ref h14, .ref h15, .ref h16, .ref h17, .int 0, .int 0, .ref h18, .ref h19, .ref h20, .ref h21])), (h1, .inl (k 1, 9, .inr (.inl (tL [1, 0, 0, 0, (-1), 0, 0, 0, 0] 0)))), (h2, .inl (k 0, 36, .inl (tI [(-1), 0, 0, 0, 1, 0, 0, 0, 0, 1, 0] 0)))] H := hP
  have hD : va_D A [(h0, .inr (8, [.int 2, .int 1, .int (-1778682749), .int 0, .int 0, .int 0, .ref h2, .ref h3, .int 0, .int 0, .ref h1, .ref h4, .ref h5, .ref h6, .ref h7, .ref h8, .ref h9, .int 0, .int 0, .int 0, .ref h10, .ref h11, .ref h12, .ref h13, .int 0, .int 0, .ref h14, .ref h15, .ref h16, .ref h17, .int 0, .int 0, .ref h18, .ref h19, .ref h20, .ref h21])), (h1, .inl (k 1, 9, .inr (.inl (tL [1, 0, 0, 0, (-1), 0, 0, 0, 0] 0)))), (h2, .inl (k 0, 36, .inl (tI [(-1), 0, 0, 0, 1, 0, 0, 0, 0, 1, 0] 0)))] := hD
  refine lv_iinc (v := 2) (lv' := [(1, .int 2), (0, .ref h0)]) hx hb dX11_comes_29 hl (k := 0) rfl (by decide) (by decide) rfl (fun ls hl => ?_)
  refine lv_goto (tgt := 2) hx hb dX11_comes_32 (by decide) ?_
  refine lv_iload_n hx hb dX11_comes_2 rfl (lv_at hl 0 rfl) ?_
  refine lv_bipush (v := 9) hx hb dX11_comes_3 (by decide) ?_
  refine lv_icmp_ge (tgt := 35) hx hb dX11_comes_5 (by decide) (fun cc => absurd cc (by decide +kernel)) (fun _ => ?_)
  refine lv_aload_n hx hb dX11_comes_8 rfl (lv_at hl 1 rfl) ?_
  refine va_get (D := D) (ci := 8) (v := .ref h2) (C := RX11) (T := TX11) (N := 36) hx hb hU iX11 hown hK.1 hP 0 rfl rfl 6 (by decide) (hU _ w791) (fun _ h9 => h9) rfl dX11_comes_9 ?_
  refine lv_bipush (v := 9) hx hb dX11_comes_12 (by decide) ?_
  refine lv_aload_n hx hb dX11_comes_14 rfl (lv_at hl 1 rfl) ?_
  refine va_get (D := D) (ci := 8) (v := .int 1) (C := RX11) (T := TX11) (N := 36) hx hb hU iX11 hown hK.1 hP 0 rfl rfl 1 (by decide) (hU _ w786) (fun _ h9 => h9) rfl dX11_comes_15 ?_
  refine lv_imul hx hb dX11_comes_18 (sv_i (v := 9) (by decide +kernel) ?_)
  refine lv_iload_n hx hb dX11_comes_19 rfl (lv_at hl 0 rfl) ?_
  refine lv_iadd hx hb dX11_comes_20 (sv_i (v := 11) (by decide +kernel) ?_)
  refine lv_aload_n hx hb dX11_comes_21 rfl (lv_at hl 1 rfl) ?_
  refine va_get (D := D) (ci := 8) (v := .ref h1) (C := RX11) (T := TX11) (N := 36) hx hb hU iX11 hown hK.1 hP 0 rfl rfl 10 (by decide) (hU _ w795) (fun _ h9 => h9) rfl dX11_comes_22 ?_
  refine lv_iload_n hx hb dX11_comes_25 rfl (lv_at hl 0 rfl) ?_
  refine ld_l (j := 2) (v := 0) hx hb hK hP 1 rfl (by decide +kernel) rfl dX11_comes_26 ?_
  refine lv_l2i (v := 0) hx hb dX11_comes_27 (by decide +kernel) ?_
  refine st_i (j := 11) (g := tI [(-1), 0, 0, 0, 1, 0, 0, 0, 0, 1, 0, 0] 0) hx hb hK hP hD hS 2 rfl (by decide +kernel) upd_tI dX11_comes_28 (fun H locs hP hD hS => ?_)
  have hP : va_P D cl0 [(h0, .inr (8, [.int 2, .int 1, .int (-1778682749), .int 0, .int 0, .int 0, .ref h2, .ref h3, .int 0, .int 0, .ref h1, .ref h4, .ref h5, .ref h6, .ref h7, .ref h8, .ref h9, .int 0, .int 0, .int 0, .ref h10, .ref h11, .ref h12, .ref h13, .int 0, .int 0, .ref h14, .ref h15, .ref h16, .ref h17, .int 0, .int 0, .ref h18, .ref h19, .ref h20, .ref h21])), (h1, .inl (k 1, 9, .inr (.inl (tL [1, 0, 0, 0, (-1), 0, 0, 0, 0] 0)))), (h2, .inl (k 0, 36, .inl (tI [(-1), 0, 0, 0, 1, 0, 0, 0, 0, 1, 0, 0] 0)))] H := hP
  have hD : va_D A [(h0, .inr (8, [.int 2, .int 1, .int (-1778682749), .int 0, .int 0, .int 0, .ref h2, .ref h3, .int 0, .int 0, .ref h1, .ref h4, .ref h5, .ref h6, .ref h7, .ref h8, .ref h9, .int 0, .int 0, .int 0, .ref h10, .ref h11, .ref h12, .ref h13, .int 0, .int 0, .ref h14, .ref h15, .ref h16, .ref h17, .int 0, .int 0, .ref h18, .ref h19, .ref h20, .ref h21])), (h1, .inl (k 1, 9, .inr (.inl (tL [1, 0, 0, 0, (-1), 0, 0, 0, 0] 0)))), (h2, .inl (k 0, 36, .inl (tI [(-1), 0, 0, 0, 1, 0, 0, 0, 0, 1, 0, 0] 0)))] := hD
  refine lv_iinc (v := 3) (lv' := [(1, .int 3), (0, .ref h0)]) hx hb dX11_comes_29 hl (k := 0) rfl (by decide) (by decide) rfl (fun ls hl => ?_)
  refine lv_goto (tgt := 2) hx hb dX11_comes_32 (by decide) ?_
  refine lv_iload_n hx hb dX11_comes_2 rfl (lv_at hl 0 rfl) ?_
  refine lv_bipush (v := 9) hx hb dX11_comes_3 (by decide) ?_
  refine lv_icmp_ge (tgt := 35) hx hb dX11_comes_5 (by decide) (fun cc => absurd cc (by decide +kernel)) (fun _ => ?_)
  refine lv_aload_n hx hb dX11_comes_8 rfl (lv_at hl 1 rfl) ?_
  refine va_get (D := D) (ci := 8) (v := .ref h2) (C := RX11) (T := TX11) (N := 36) hx hb hU iX11 hown hK.1 hP 0 rfl rfl 6 (by decide) (hU _ w791) (fun _ h9 => h9) rfl dX11_comes_9 ?_
  refine lv_bipush (v := 9) hx hb dX11_comes_12 (by decide) ?_
  refine lv_aload_n hx hb dX11_comes_14 rfl (lv_at hl 1 rfl) ?_
  refine va_get (D := D) (ci := 8) (v := .int 1) (C := RX11) (T := TX11) (N := 36) hx hb hU iX11 hown hK.1 hP 0 rfl rfl 1 (by decide) (hU _ w786) (fun _ h9 => h9) rfl dX11_comes_15 ?_
  refine lv_imul hx hb dX11_comes_18 (sv_i (v := 9) (by decide +kernel) ?_)
  refine lv_iload_n hx hb dX11_comes_19 rfl (lv_at hl 0 rfl) ?_
  refine lv_iadd hx hb dX11_comes_20 (sv_i (v := 12) (by decide +kernel) ?_)
  refine lv_aload_n hx hb dX11_comes_21 rfl (lv_at hl 1 rfl) ?_
  refine va_get (D := D) (ci := 8) (v := .ref h1) (C := RX11) (T := TX11) (N := 36) hx hb hU iX11 hown hK.1 hP 0 rfl rfl 10 (by decide) (hU _ w795) (fun _ h9 => h9) rfl dX11_comes_22 ?_
  refine lv_iload_n hx hb dX11_comes_25 rfl (lv_at hl 0 rfl) ?_
  refine ld_l (j := 3) (v := 0) hx hb hK hP 1 rfl (by decide +kernel) rfl dX11_comes_26 ?_
  refine lv_l2i (v := 0) hx hb dX11_comes_27 (by decide +kernel) ?_
  refine st_i (j := 12) (g := tI [(-1), 0, 0, 0, 1, 0, 0, 0, 0, 1, 0, 0, 0] 0) hx hb hK hP hD hS 2 rfl (by decide +kernel) upd_tI dX11_comes_28 (fun H locs hP hD hS => ?_)
  have hP : va_P D cl0 [(h0, .inr (8, [.int 2, .int 1, .int (-1778682749), .int 0, .int 0, .int 0, .ref h2, .ref h3, .int 0, .int 0, .ref h1, .ref h4, .ref h5, .ref h6, .ref h7, .ref h8, .ref h9, .int 0, .int 0, .int 0, .ref h10, .ref h11, .ref h12, .ref h13, .int 0, .int 0, .ref h14, .ref h15, .ref h16, .ref h17, .int 0, .int 0, .ref h18, .ref h19, .ref h20, .ref h21])), (h1, .inl (k 1, 9, .inr (.inl (tL [1, 0, 0, 0, (-1), 0, 0, 0, 0] 0)))), (h2, .inl (k 0, 36, .inl (tI [(-1), 0, 0, 0, 1, 0, 0, 0, 0, 1, 0, 0, 0] 0)))] H := hP
  have hD : va_D A [(h0, .inr (8, [.int 2, .int 1, .int (-1778682749), .int 0, .int 0, .int 0, .ref h2, .ref h3, .int 0, .int 0, .ref h1, .ref h4, .ref h5, .ref h6, .ref h7, .ref h8, .ref h9, .int 0, .int 0, .int 0, .ref h10, .ref h11, .ref h12, .ref h13, .int 0, .int 0, .ref h14, .ref h15, .ref h16, .ref h17, .int 0, .int 0, .ref h18, .ref h19, .ref h20, .ref h21])), (h1, .inl (k 1, 9, .inr (.inl (tL [1, 0, 0, 0, (-1), 0, 0, 0, 0] 0)))), (h2, .inl (k 0, 36, .inl (tI [(-1), 0, 0, 0, 1, 0, 0, 0, 0, 1, 0, 0, 0] 0)))] := hD
  refine lv_iinc (v := 4) (lv' := [(1, .int 4), (0, .ref h0)]) hx hb dX11_comes_29 hl (k := 0) rfl (by decide) (by decide) rfl (fun ls hl => ?_)
  refine lv_goto (tgt := 2) hx hb dX11_comes_32 (by decide) ?_
  refine lv_iload_n hx hb dX11_comes_2 rfl (lv_at hl 0 rfl) ?_
  refine lv_bipush (v := 9) hx hb dX11_comes_3 (by decide) ?_
  refine lv_icmp_ge (tgt := 35) hx hb dX11_comes_5 (by decide) (fun cc => absurd cc (by decide +kernel)) (fun _ => ?_)
  refine lv_aload_n hx hb dX11_comes_8 rfl (lv_at hl 1 rfl) ?_
  refine va_get (D := D) (ci := 8) (v := .ref h2) (C := RX11) (T := TX11) (N := 36) hx hb hU iX11 hown hK.1 hP 0 rfl rfl 6 (by decide) (hU _ w791) (fun _ h9 => h9) rfl dX11_comes_9 ?_
  refine lv_bipush (v := 9) hx hb dX11_comes_12 (by decide) ?_
  refine lv_aload_n hx hb dX11_comes_14 rfl (lv_at hl 1 rfl) ?_
  refine va_get (D := D) (ci := 8) (v := .int 1) (C := RX11) (T := TX11) (N := 36) hx hb hU iX11 hown hK.1 hP 0 rfl rfl 1 (by decide) (hU _ w786) (fun _ h9 => h9) rfl dX11_comes_15 ?_
  refine lv_imul hx hb dX11_comes_18 (sv_i (v := 9) (by decide +kernel) ?_)
  refine lv_iload_n hx hb dX11_comes_19 rfl (lv_at hl 0 rfl) ?_
  refine lv_iadd hx hb dX11_comes_20 (sv_i (v := 13) (by decide +kernel) ?_)
  refine lv_aload_n hx hb dX11_comes_21 rfl (lv_at hl 1 rfl) ?_
  refine va_get (D := D) (ci := 8) (v := .ref h1) (C := RX11) (T := TX11) (N := 36) hx hb hU iX11 hown hK.1 hP 0 rfl rfl 10 (by decide) (hU _ w795) (fun _ h9 => h9) rfl dX11_comes_22 ?_
  refine lv_iload_n hx hb dX11_comes_25 rfl (lv_at hl 0 rfl) ?_
  refine ld_l (j := 4) (v := (-1)) hx hb hK hP 1 rfl (by decide +kernel) rfl dX11_comes_26 ?_
  refine lv_l2i (v := (-1)) hx hb dX11_comes_27 (by decide +kernel) ?_
  refine st_i (j := 13) (g := tI [(-1), 0, 0, 0, 1, 0, 0, 0, 0, 1, 0, 0, 0, (-1)] 0) hx hb hK hP hD hS 2 rfl (by decide +kernel) upd_tI dX11_comes_28 (fun H locs hP hD hS => ?_)
  have hP : va_P D cl0 [(h0, .inr (8, [.int 2, .int 1, .int (-1778682749), .int 0, .int 0, .int 0, .ref h2, .ref h3, .int 0, .int 0, .ref h1, .ref h4, .ref h5, .ref h6, .ref h7, .ref h8, .ref h9, .int 0, .int 0, .int 0, .ref h10, .ref h11, .ref h12, .ref h13, .int 0, .int 0, .ref h14, .ref h15, .ref h16, .ref h17, .int 0, .int 0, .ref h18, .ref h19, .ref h20, .ref h21])), (h1, .inl (k 1, 9, .inr (.inl (tL [1, 0, 0, 0, (-1), 0, 0, 0, 0] 0)))), (h2, .inl (k 0, 36, .inl (tI [(-1), 0, 0, 0, 1, 0, 0, 0, 0, 1, 0, 0, 0, (-1)] 0)))] H := hP
  have hD : va_D A [(h0, .inr (8, [.int 2, .int 1, .int (-1778682749), .int 0, .int 0, .int 0, .ref h2, .ref h3, .int 0, .int 0, .ref h1, .ref h4, .ref h5, .ref h6, .ref h7, .ref h8, .ref h9, .int 0, .int 0, .int 0, .ref h10, .ref h11, .ref h12, .ref h13, .int 0, .int 0, .ref h14, .ref h15, .ref h16, .ref h17, .int 0, .int 0, .ref h18, .ref h19, .ref h20, .ref h21])), (h1, .inl (k 1, 9, .inr (.inl (tL [1, 0, 0, 0, (-1), 0, 0, 0, 0] 0)))), (h2, .inl (k 0, 36, .inl (tI [(-1), 0, 0, 0, 1, 0, 0, 0, 0, 1, 0, 0, 0, (-1)] 0)))] := hD
  refine lv_iinc (v := 5) (lv' := [(1, .int 5), (0, .ref h0)]) hx hb dX11_comes_29 hl (k := 0) rfl (by decide) (by decide) rfl (fun ls hl => ?_)
  refine lv_goto (tgt := 2) hx hb dX11_comes_32 (by decide) ?_
  refine lv_iload_n hx hb dX11_comes_2 rfl (lv_at hl 0 rfl) ?_
  refine lv_bipush (v := 9) hx hb dX11_comes_3 (by decide) ?_
  refine lv_icmp_ge (tgt := 35) hx hb dX11_comes_5 (by decide) (fun cc => absurd cc (by decide +kernel)) (fun _ => ?_)
  refine lv_aload_n hx hb dX11_comes_8 rfl (lv_at hl 1 rfl) ?_
  refine va_get (D := D) (ci := 8) (v := .ref h2) (C := RX11) (T := TX11) (N := 36) hx hb hU iX11 hown hK.1 hP 0 rfl rfl 6 (by decide) (hU _ w791) (fun _ h9 => h9) rfl dX11_comes_9 ?_
  refine lv_bipush (v := 9) hx hb dX11_comes_12 (by decide) ?_
  refine lv_aload_n hx hb dX11_comes_14 rfl (lv_at hl 1 rfl) ?_
  refine va_get (D := D) (ci := 8) (v := .int 1) (C := RX11) (T := TX11) (N := 36) hx hb hU iX11 hown hK.1 hP 0 rfl rfl 1 (by decide) (hU _ w786) (fun _ h9 => h9) rfl dX11_comes_15 ?_
  refine lv_imul hx hb dX11_comes_18 (sv_i (v := 9) (by decide +kernel) ?_)
  refine lv_iload_n hx hb dX11_comes_19 rfl (lv_at hl 0 rfl) ?_
  refine lv_iadd hx hb dX11_comes_20 (sv_i (v := 14) (by decide +kernel) ?_)
  refine lv_aload_n hx hb dX11_comes_21 rfl (lv_at hl 1 rfl) ?_
  refine va_get (D := D) (ci := 8) (v := .ref h1) (C := RX11) (T := TX11) (N := 36) hx hb hU iX11 hown hK.1 hP 0 rfl rfl 10 (by decide) (hU _ w795) (fun _ h9 => h9) rfl dX11_comes_22 ?_
  refine lv_iload_n hx hb dX11_comes_25 rfl (lv_at hl 0 rfl) ?_
  refine ld_l (j := 5) (v := 0) hx hb hK hP 1 rfl (by decide +kernel) rfl dX11_comes_26 ?_
  refine lv_l2i (v := 0) hx hb dX11_comes_27 (by decide +kernel) ?_
  refine st_i (j := 14) (g := tI [(-1), 0, 0, 0, 1, 0, 0, 0, 0, 1, 0, 0, 0, (-1), 0] 0) hx hb hK hP hD hS 2 rfl (by decide +kernel) upd_tI dX11_comes_28 (fun H locs hP hD hS => ?_)
  have hP : va_P D cl0 [(h0, .inr (8, [.int 2, .int 1, .int (-1778682749), .int 0, .int 0, .int 0, .ref h2, .ref h3, .int 0, .int 0, .ref h1, .ref h4, .ref h5, .ref h6, .ref h7, .ref h8, .ref h9, .int 0, .int 0, .int 0, .ref h10, .ref h11, .ref h12, .ref h13, .int 0, .int 0, .ref h14, .ref h15, .ref h16, .ref h17, .int 0, .int 0, .ref h18, .ref h19, .ref h20, .ref h21])), (h1, .inl (k 1, 9, .inr (.inl (tL [1, 0, 0, 0, (-1), 0, 0, 0, 0] 0)))), (h2, .inl (k 0, 36, .inl (tI [(-1), 0, 0, 0, 1, 0, 0, 0, 0, 1, 0, 0, 0, (-1), 0] 0)))] H := hP
  have hD : va_D A [(h0, .inr (8, [.int 2, .int 1, .int (-1778682749), .int 0, .int 0, .int 0, .ref h2, .ref h3, .int 0, .int 0, .ref h1, .ref h4, .ref h5, .ref h6, .ref h7, .ref h8, .ref h9, .int 0, .int 0, .int 0, .ref h10, .ref h11, .ref h12, .ref h13, .int 0, .int 0, .ref h14, .ref h15, .ref h16, .ref h17, .int 0, .int 0, .ref h18, .ref h19, .ref h20, .ref h21])), (h1, .inl (k 1, 9, .inr (.inl (tL [1, 0, 0, 0, (-1), 0, 0, 0, 0] 0)))), (h2, .inl (k 0, 36, .inl (tI [(-1), 0, 0, 0, 1, 0, 0, 0, 0, 1, 0, 0, 0, (-1), 0] 0)))] := hD
  refine lv_iinc (v := 6) (lv' := [(1, .int 6), (0, .ref h0)]) hx hb dX11_comes_29 hl (k := 0) rfl (by decide) (by decide) rfl (fun ls hl => ?_)
  refine lv_goto (tgt := 2) hx hb dX11_comes_32 (by decide) ?_
  refine lv_iload_n hx hb dX11_comes_2 rfl (lv_at hl 0 rfl) ?_
  refine lv_bipush (v := 9) hx hb dX11_comes_3 (by decide) ?_
  refine lv_icmp_ge (tgt := 35) hx hb dX11_comes_5 (by decide) (fun cc => absurd cc (by decide +kernel)) (fun _ => ?_)
  refine lv_aload_n hx hb dX11_comes_8 rfl (lv_at hl 1 rfl) ?_
  refine va_get (D := D) (ci := 8) (v := .ref h2) (C := RX11) (T := TX11) (N := 36) hx hb hU iX11 hown hK.1 hP 0 rfl rfl 6 (by decide) (hU _ w791) (fun _ h9 => h9) rfl dX11_comes_9 ?_
  refine lv_bipush (v := 9) hx hb dX11_comes_12 (by decide) ?_
  refine lv_aload_n hx hb dX11_comes_14 rfl (lv_at hl 1 rfl) ?_
  refine va_get (D := D) (ci := 8) (v := .int 1) (C := RX11) (T := TX11) (N := 36) hx hb hU iX11 hown hK.1 hP 0 rfl rfl 1 (by decide) (hU _ w786) (fun _ h9 => h9) rfl dX11_comes_15 ?_
  refine lv_imul hx hb dX11_comes_18 (sv_i (v := 9) (by decide +kernel) ?_)
  refine lv_iload_n hx hb dX11_comes_19 rfl (lv_at hl 0 rfl) ?_
  refine lv_iadd hx hb dX11_comes_20 (sv_i (v := 15) (by decide +kernel) ?_)
  refine lv_aload_n hx hb dX11_comes_21 rfl (lv_at hl 1 rfl) ?_
  refine va_get (D := D) (ci := 8) (v := .ref h1) (C := RX11) (T := TX11) (N := 36) hx hb hU iX11 hown hK.1 hP 0 rfl rfl 10 (by decide) (hU _ w795) (fun _ h9 => h9) rfl dX11_comes_22 ?_
  refine lv_iload_n hx hb dX11_comes_25 rfl (lv_at hl 0 rfl) ?_
  refine ld_l (j := 6) (v := 0) hx hb hK hP 1 rfl (by decide +kernel) rfl dX11_comes_26 ?_
  refine lv_l2i (v := 0) hx hb dX11_comes_27 (by decide +kernel) ?_
  refine st_i (j := 15) (g := tI [(-1), 0, 0, 0, 1, 0, 0, 0, 0, 1, 0, 0, 0, (-1), 0, 0] 0) hx hb hK hP hD hS 2 rfl (by decide +kernel) upd_tI dX11_comes_28 (fun H locs hP hD hS => ?_)
  have hP : va_P D cl0 [(h0, .inr (8, [.int 2, .int 1, .int (-1778682749), .int 0, .int 0, .int 0, .ref h2, .ref h3, .int 0, .int 0, .ref h1, .ref h4, .ref h5, .ref h6, .ref h7, .ref h8, .ref h9, .int 0, .int 0, .int 0, .ref h10, .ref h11, .ref h12, .ref h13, .int 0, .int 0, .ref h14, .ref h15, .ref h16, .ref h17, .int 0, .int 0, .ref h18, .ref h19, .ref h20, .ref h21])), (h1, .inl (k 1, 9, .inr (.inl (tL [1, 0, 0, 0, (-1), 0, 0, 0, 0] 0)))), (h2, .inl (k 0, 36, .inl (tI [(-1), 0, 0, 0, 1, 0, 0, 0, 0, 1, 0, 0, 0, (-1), 0, 0] 0)))] H := hP
  have hD : va_D A [(h0, .inr (8, [.int 2, .int 1, .int (-1778682749), .int 0, .int 0, .int 0, .ref h2, .ref h3, .int 0, .int 0, .ref h1, .ref h4, .ref h5, .ref h6, .ref h7, .ref h8, .ref h9, .int 0, .int 0, .int 0, .ref h10, .ref h11, .ref h12, .ref h13, .int 0, .int 0, .ref h14, .ref h15, .ref h16, .ref h17, .int 0, .int 0, .ref h18, .ref h19, .ref h20, .ref h21])), (h1, .inl (k 1, 9, .inr (.inl (tL [1, 0, 0, 0, (-1), 0, 0, 0, 0] 0)))), (h2, .inl (k 0, 36, .inl (tI [(-1), 0, 0, 0, 1, 0, 0, 0, 0, 1, 0, 0, 0, (-1), 0, 0] 0)))] := hD
  refine lv_iinc (v := 7) (lv' := [(1, .int 7), (0, .ref h0)]) hx hb dX11_comes_29 hl (k := 0) rfl (by decide) (by decide) rfl (fun ls hl => ?_)
  refine lv_goto (tgt := 2) hx hb dX11_comes_32 (by decide) ?_
  refine lv_iload_n hx hb dX11_comes_2 rfl (lv_at hl 0 rfl) ?_
  refine lv_bipush (v := 9) hx hb dX11_comes_3 (by decide) ?_
  refine lv_icmp_ge (tgt := 35) hx hb dX11_comes_5 (by decide) (fun cc => absurd cc (by decide +kernel)) (fun _ => ?_)
  refine lv_aload_n hx hb dX11_comes_8 rfl (lv_at hl 1 rfl) ?_
  refine va_get (D := D) (ci := 8) (v := .ref h2) (C := RX11) (T := TX11) (N := 36) hx hb hU iX11 hown hK.1 hP 0 rfl rfl 6 (by decide) (hU _ w791) (fun _ h9 => h9) rfl dX11_comes_9 ?_
  refine lv_bipush (v := 9) hx hb dX11_comes_12 (by decide) ?_
  refine lv_aload_n hx hb dX11_comes_14 rfl (lv_at hl 1 rfl) ?_
  refine va_get (D := D) (ci := 8) (v := .int 1) (C := RX11) (T := TX11) (N := 36) hx hb hU iX11 hown hK.1 hP 0 rfl rfl 1 (by decide) (hU _ w786) (fun _ h9 => h9) rfl dX11_comes_15 ?_
  refine lv_imul hx hb dX11_comes_18 (sv_i (v := 9) (by decide +kernel) ?_)
  refine lv_iload_n hx hb dX11_comes_19 rfl (lv_at hl 0 rfl) ?_
  refine lv_iadd hx hb dX11_comes_20 (sv_i (v := 16) (by decide +kernel) ?_)
  refine lv_aload_n hx hb dX11_comes_21 rfl (lv_at hl 1 rfl) ?_
  refine va_get (D := D) (ci := 8) (v := .ref h1) (C := RX11) (T := TX11) (N := 36) hx hb hU iX11 hown hK.1 hP 0 rfl rfl 10 (by decide) (hU _ w795) (fun _ h9 => h9) rfl dX11_comes_22 ?_
  refine lv_iload_n hx hb dX11_comes_25 rfl (lv_at hl 0 rfl) ?_
  refine ld_l (j := 7) (v := 0) hx hb hK hP 1 rfl (by decide +kernel) rfl dX11_comes_26 ?_
  refine lv_l2i (v := 0) hx hb dX11_comes_27 (by decide +kernel) ?_
  refine st_i (j := 16) (g := tI [(-1), 0, 0, 0, 1, 0, 0, 0, 0, 1, 0, 0, 0, (-1), 0, 0, 0] 0) hx hb hK hP hD hS 2 rfl (by decide +kernel) upd_tI dX11_comes_28 (fun H locs hP hD hS => ?_)
  have hP : va_P D cl0 [(h0, .inr (8, [.int 2, .int 1, .int (-1778682749), .int 0, .int 0, .int 0, .ref h2, .ref h3, .int 0, .int 0, .ref h1, .ref h4, .ref h5, .ref h6, .ref h7, .ref h8, .ref h9, .int 0, .int 0, .int 0, .ref h10, .ref h11, .ref h12, .ref h13, .int 0, .int 0, .ref h14, .ref h15, .ref h16, .ref h17, .int 0, .int 0, .ref h18, .ref h19, .ref h20, .ref h21])), (h1, .inl (k 1, 9, .inr (.inl (tL [1, 0, 0, 0, (-1), 0, 0, 0, 0] 0)))), (h2, .inl (k 0, 36, .inl (tI [(-1), 0, 0, 0, 1, 0, 0, 0, 0, 1, 0, 0, 0, (-1), 0, 0, 0] 0)))] H := hP
  have hD : va_D A [(h0, .inr (8, [.int 2, .int 1, .int (-1778682749), .int 0, .int 0, .int 0, .ref h2, .ref h3, .int 0, .int 0, .ref h1, .ref h4, .ref h5, .ref h6, .ref h7, .ref h8, .ref h9, .int 0, .int 0, .int 0, .ref h10, .ref h11, .ref h12, .ref h13, .int 0, .int 0, .ref h14, .ref h15, .ref h16, .ref h17, .int 0, .int 0, .ref h18, .ref h19, .ref h20, .ref h21])), (h1, .inl (k 1, 9, .inr (.inl (tL [1, 0, 0, 0, (-1), 0, 0, 0, 0] 0)))), (h2, .inl (k 0, 36, .inl (tI [(-1), 0, 0, 0, 1, 0, 0, 0, 0, 1, 0, 0, 0, (-1), 0, 0, 0] 0)))] := hD
  refine lv_iinc (v := 8) (lv' := [(1, .int 8), (0, .ref h0)]) hx hb dX11_comes_29 hl (k := 0) rfl (by decide) (by decide) rfl (fun ls hl => ?_)
  refine lv_goto (tgt := 2) hx hb dX11_comes_32 (by decide) ?_
  refine lv_iload_n hx hb dX11_comes_2 rfl (lv_at hl 0 rfl) ?_
  refine lv_bipush (v := 9) hx hb dX11_comes_3 (by decide) ?_
  refine lv_icmp_ge (tgt := 35) hx hb dX11_comes_5 (by decide) (fun cc => absurd cc (by decide +kernel)) (fun _ => ?_)
  refine lv_aload_n hx hb dX11_comes_8 rfl (lv_at hl 1 rfl) ?_
  refine va_get (D := D) (ci := 8) (v := .ref h2) (C := RX11) (T := TX11) (N := 36) hx hb hU iX11 hown hK.1 hP 0 rfl rfl 6 (by decide) (hU _ w791) (fun _ h9 => h9) rfl dX11_comes_9 ?_
  refine lv_bipush (v := 9) hx hb dX11_comes_12 (by decide) ?_
  refine lv_aload_n hx hb dX11_comes_14 rfl (lv_at hl 1 rfl) ?_
  refine va_get (D := D) (ci := 8) (v := .int 1) (C := RX11) (T := TX11) (N := 36) hx hb hU iX11 hown hK.1 hP 0 rfl rfl 1 (by decide) (hU _ w786) (fun _ h9 => h9) rfl dX11_comes_15 ?_
  refine lv_imul hx hb dX11_comes_18 (sv_i (v := 9) (by decide +kernel) ?_)
  refine lv_iload_n hx hb dX11_comes_19 rfl (lv_at hl 0 rfl) ?_
  refine lv_iadd hx hb dX11_comes_20 (sv_i (v := 17) (by decide +kernel) ?_)
  refine lv_aload_n hx hb dX11_comes_21 rfl (lv_at hl 1 rfl) ?_
  refine va_get (D := D) (ci := 8) (v := .ref h1) (C := RX11) (T := TX11) (N := 36) hx hb hU iX11 hown hK.1 hP 0 rfl rfl 10 (by decide) (hU _ w795) (fun _ h9 => h9) rfl dX11_comes_22 ?_
  refine lv_iload_n hx hb dX11_comes_25 rfl (lv_at hl 0 rfl) ?_
  refine ld_l (j := 8) (v := 0) hx hb hK hP 1 rfl (by decide +kernel) rfl dX11_comes_26 ?_
  refine lv_l2i (v := 0) hx hb dX11_comes_27 (by decide +kernel) ?_
  refine st_i (j := 17) (g := tI [(-1), 0, 0, 0, 1, 0, 0, 0, 0, 1, 0, 0, 0, (-1), 0, 0, 0, 0] 0) hx hb hK hP hD hS 2 rfl (by decide +kernel) upd_tI dX11_comes_28 (fun H locs hP hD hS => ?_)
  have hP : va_P D cl0 [(h0, .inr (8, [.int 2, .int 1, .int (-1778682749), .int 0, .int 0, .int 0, .ref h2, .ref h3, .int 0, .int 0, .ref h1, .ref h4, .ref h5, .ref h6, .ref h7, .ref h8, .ref h9, .int 0, .int 0, .int 0, .ref h10, .ref h11, .ref h12, .ref h13, .int 0, .int 0, .ref h14, .ref h15, .ref h16, .ref h17, .int 0, .int 0, .ref h18, .ref h19, .ref h20, .ref h21])), (h1, .inl (k 1, 9, .inr (.inl (tL [1, 0, 0, 0, (-1), 0, 0, 0, 0] 0)))), (h2, .inl (k 0, 36, .inl (tI [(-1), 0, 0, 0, 1, 0, 0, 0, 0, 1, 0, 0, 0, (-1), 0, 0, 0, 0] 0)))] H := hP
  have hD : va_D A [(h0, .inr (8, [.int 2, .int 1, .int (-1778682749), .int 0, .int 0, .int 0, .ref h2, .ref h3, .int 0, .int 0, .ref h1, .ref h4, .ref h5, .ref h6, .ref h7, .ref h8, .ref h9, .int 0, .int 0, .int 0, .ref h10, .ref h11, .ref h12, .ref h13, .int 0, .int 0, .ref h14, .ref h15, .ref h16, .ref h17, .int 0, .int 0, .ref h18, .ref h19, .ref h20, .ref h21])), (h1, .inl (k 1, 9, .inr (.inl (tL [1, 0, 0, 0, (-1), 0, 0, 0, 0] 0)))), (h2, .inl (k 0, 36, .inl (tI [(-1), 0, 0, 0, 1, 0, 0, 0, 0, 1, 0, 0, 0, (-1), 0, 0, 0, 0] 0)))] := hD
  refine lv_iinc (v := 9) (lv' := [(1, .int 9), (0, .ref h0)]) hx hb dX11_comes_29 hl (k := 0) rfl (by decide) (by decide) rfl (fun ls hl => ?_)
  refine lv_goto (tgt := 2) hx hb dX11_comes_32 (by decide) ?_
  refine lv_iload_n hx hb dX11_comes_2 rfl (lv_at hl 0 rfl) ?_
  refine lv_bipush (v := 9) hx hb dX11_comes_3 (by decide) ?_
  refine lv_icmp_ge (tgt := 35) hx hb dX11_comes_5 (by decide) (fun _ => ?_) (fun cc => absurd (by decide +kernel) cc)
  refine lv_aload_n hx hb dX11_comes_35 rfl (lv_at hl 1 rfl) ?_
  refine lv_dup hx hb dX11_comes_36 rfl ?_
  refine va_get (D := D) (ci := 8) (v := .int 1) (C := RX11) (T := TX11) (N := 36) hx hb hU iX11 hown hK.1 hP 0 rfl rfl 1 (by decide) (hU _ w786) (fun _ h9 => h9) rfl dX11_comes_37 ?_
  refine lv_iconst (v := 1) hx hb dX11_comes_40 (by decide) ?_
  refine lv_iadd hx hb dX11_comes_41 (sv_i (v := 2) (by decide +kernel) ?_)
  refine va_put (D := D) (ci := 8) (v := .int 2) (ty := .int) (C := RX11) (T := TX11) (N := 36) hx hb hU iX11 tyX11 tyX11_ok nmX11 hown hK.1 hP hD hS 0 rfl rfl 1 (by decide) (hU _ w786) (fun _ h9 => h9) rfl (by decide +kernel) rfl rfl (Nat.le_of_ble_eq_true rfl) dX11_comes_42 (fun H locs hP hD hS => ?_)
  have hP : va_P D cl0 [(h0, .inr (8, [.int 2, .int 2, .int (-1778682749), .int 0, .int 0, .int 0, .ref h2, .ref h3, .int 0, .int 0, .ref h1, .ref h4, .ref h5, .ref h6, .ref h7, .ref h8, .ref h9, .int 0, .int 0, .int 0, .ref h10, .ref h11, .ref h12, .ref h13, .int 0, .int 0, .ref h14, .ref h15, .ref h16, .ref h17, .int 0, .int 0, .ref h18, .ref h19, .ref h20, .ref h21])), (h1, .inl (k 1, 9, .inr (.inl (tL [1, 0, 0, 0, (-1), 0, 0, 0, 0] 0)))), (h2, .inl (k 0, 36, .inl (tI [(-1), 0, 0, 0, 1, 0, 0, 0, 0, 1, 0, 0, 0, (-1), 0, 0, 0, 0] 0)))] H := hP
  have hD : va_D A [(h0, .inr (8, [.int 2, .int 2, .int (-1778682749), .int 0, .int 0, .int 0, .ref h2, .ref h3, .int 0, .int 0, .ref h1, .ref h4, .ref h5, .ref h6, .ref h7, .ref h8, .ref h9, .int 0, .int 0, .int 0, .ref h10, .ref h11, .ref h12, .ref h13, .int 0, .int 0, .ref h14, .ref h15, .ref h16, .ref h17, .int 0, .int 0, .ref h18, .ref h19, .ref h20, .ref h21])), (h1, .inl (k 1, 9, .inr (.inl (tL [1, 0, 0, 0, (-1), 0, 0, 0, 0] 0)))), (h2, .inl (k 0, 36, .inl (tI [(-1), 0, 0, 0, 1, 0, 0, 0, 0, 1, 0, 0, 0, (-1), 0, 0, 0, 0] 0)))] := hD
  refine lv_aload_n hx hb dX11_comes_45 rfl (lv_at hl 1 rfl) ?_
  refine lv_iconst (v := 0) hx hb dX11_comes_46 (by decide) ?_
  refine va_put (D := D) (ci := 8) (v := .int 0) (ty := .boolean) (C := RX11) (T := TX11) (N := 36) hx hb hU iX11 tyX11 tyX11_ok nmX11 hown hK.1 hP hD hS 0 rfl rfl 9 (by decide) (hU _ w794) (fun _ h9 => h9) rfl (by decide +kernel) rfl rfl (Nat.le_of_ble_eq_true rfl) dX11_comes_47 (fun H locs hP hD hS => ?_)
  have hP : va_P D cl0 [(h0, .inr (8, [.int 2, .int 2, .int (-1778682749), .int 0, .int 0, .int 0, .ref h2, .ref h3, .int 0, .int 0, .ref h1, .ref h4, .ref h5, .ref h6, .ref h7, .ref h8, .ref h9, .int 0, .int 0, .int 0, .ref h10, .ref h11, .ref h12, .ref h13, .int 0, .int 0, .ref h14, .ref h15, .ref h16, .ref h17, .int 0, .int 0, .ref h18, .ref h19, .ref h20, .ref h21])), (h1, .inl (k 1, 9, .inr (.inl (tL [1, 0, 0, 0, (-1), 0, 0, 0, 0] 0)))), (h2, .inl (k 0, 36, .inl (tI [(-1), 0, 0, 0, 1, 0, 0, 0, 0, 1, 0, 0, 0, (-1), 0, 0, 0, 0] 0)))] H := hP
  have hD : va_D A [(h0, .inr (8, [.int 2, .int 2, .int (-1778682749), .int 0, .int 0, .int 0, .ref h2, .ref h3, .int 0, .int 0, .ref h1, .ref h4, .ref h5, .ref h6, .ref h7, .ref h8, .ref h9, .int 0, .int 0, .int 0, .ref h10, .ref h11, .ref h12, .ref h13, .int 0, .int 0, .ref h14, .ref h15, .ref h16, .ref h17, .int 0, .int 0, .ref h18, .ref h19, .ref h20, .ref h21])), (h1, .inl (k 1, 9, .inr (.inl (tL [1, 0, 0, 0, (-1), 0, 0, 0, 0] 0)))), (h2, .inl (k 0, 36, .inl (tI [(-1), 0, 0, 0, 1, 0, 0, 0, 0, 1, 0, 0, 0, (-1), 0, 0, 0, 0] 0)))] := hD
  refine lv_aload_n hx hb dX11_comes_50 rfl (lv_at hl 1 rfl) ?_
  refine lv_iconst (v := 0) hx hb dX11_comes_51 (by decide) ?_
  refine va_put (D := D) (ci := 8) (v := .int 0) (ty := .int) (C := RX11) (T := TX11) (N := 36) hx hb hU iX11 tyX11 tyX11_ok nmX11 hown hK.1 hP hD hS 0 rfl rfl 30 (by decide) (hU _ w815) (fun _ h9 => h9) rfl (by decide +kernel) rfl rfl (Nat.le_of_ble_eq_true rfl) dX11_comes_52 (fun H locs hP hD hS => ?_)
  have hP : va_P D cl0 [(h0, .inr (8, [.int 2, .int 2, .int (-1778682749), .int 0, .int 0, .int 0, .ref h2, .ref h3, .int 0, .int 0, .ref h1, .ref h4, .ref h5, .ref h6, .ref h7, .ref h8, .ref h9, .int 0, .int 0, .int 0, .ref h10, .ref h11, .ref h12, .ref h13, .int 0, .int 0, .ref h14, .ref h15, .ref h16, .ref h17, .int 0, .int 0, .ref h18, .ref h19, .ref h20, .ref h21])), (h1, .inl (k 1, 9, .inr (.inl (tL [1, 0, 0, 0, (-1), 0, 0, 0, 0] 0)))), (h2, .inl (k 0, 36, .inl (tI [(-1), 0, 0, 0, 1, 0, 0, 0, 0, 1, 0, 0, 0, (-1), 0, 0, 0, 0] 0)))] H := hP
  have hD : va_D A [(h0, .inr (8, [.int 2, .int 2, .int (-1778682749), .int 0, .int 0, .int 0, .ref h2, .ref h3, .int 0, .int 0, .ref h1, .ref h4, .ref h5, .ref h6, .ref h7, .ref h8, .ref h9, .int 0, .int 0, .int 0, .ref h10, .ref h11, .ref h12, .ref h13, .int 0, .int 0, .ref h14, .ref h15, .ref h16, .ref h17, .int 0, .int 0, .ref h18, .ref h19, .ref h20, .ref h21])), (h1, .inl (k 1, 9, .inr (.inl (tL [1, 0, 0, 0, (-1), 0, 0, 0, 0] 0)))), (h2, .inl (k 0, 36, .inl (tI [(-1), 0, 0, 0, 1, 0, 0, 0, 0, 1, 0, 0, 0, (-1), 0, 0, 0, 0] 0)))] := hD
  refine lv_aload_n hx hb dX11_comes_55 rfl (lv_at hl 1 rfl) ?_
  refine va_get (D := D) (ci := 8) (v := .int 2) (C := RX11) (T := TX11) (N := 36) hx hb hU iX11 hown hK.1 hP 0 rfl rfl 1 (by decide) (hU _ w786) (fun _ h9 => h9) rfl dX11_comes_56 ?_
  refine lv_iconst (v := 1) hx hb dX11_comes_59 (by decide) ?_
  refine lv_isub hx hb dX11_comes_60 (sv_i (v := 1) (by decide +kernel) ?_)
  exact retI (v := 1) hx hb hr hlocks hS (⟨rfl, hP, hD⟩) dX11_comes_61
abbrev BX11_drawn_7 (D : va_G) (k : Nat → ClassId) (h0 h1 h2 h3 h4 h5 h6 h7 h8 h9 h10 h11 h12 h13 h14 h15 h16 h17 h18 h19 h20 h21 : Nat) (A : Nat → Prop) (r : Int32) (H : Heap) : Prop := 0 = r ∧ va_P D cl0 [(h0, .inr (8, [.int 2, .int 2, .int (-639453696), .int 0, .int 0, .int 0, .ref h1, .ref h2, .int 0, .int 0, .ref h3, .ref h4, .ref h5, .ref h6, .ref h7, .ref h8, .ref h9, .int 0, .int 0, .int 0, .ref h10, .ref h11, .ref h12, .ref h13, .int 0, .int 0, .ref h14, .ref h15, .ref h16, .ref h17, .int 0, .int 0, .ref h18, .ref h19, .ref h20, .ref h21]))] H ∧ va_D A [(h0, .inr (8, [.int 2, .int 2, .int (-639453696), .int 0, .int 0, .int 0, .ref h1, .ref h2, .int 0, .int 0, .ref h3, .ref h4, .ref h5, .ref h6, .ref h7, .ref h8, .ref h9, .int 0, .int 0, .int 0, .ref h10, .ref h11, .ref h12, .ref h13, .int 0, .int 0, .ref h14, .ref h15, .ref h16, .ref h17, .int 0, .int 0, .ref h18, .ref h19, .ref h20, .ref h21]))]
set_option maxHeartbeats 4000000 in
set_option maxRecDepth 100000 in
theorem cX11_drawn_7 (l : Launch) (D : va_G) (k : Nat → ClassId) (sz : Nat) (h0 h1 h2 h3 h4 h5 h6 h7 h8 h9 h10 h11 h12 h13 h14 h15 h16 h17 h18 h19 h20 h21 : Nat) : Met l yX11_drawn (Cond.code yX11_drawn cX11_drawn 2 (some .int) :: uw) ({ frames := 0, cells := 0, slots := 0, locals := 0 }) (pC D k sz [.ref h0, .int 2] [(h0, .inr (8, [.int 2, .int 2, .int (-1778682749), .int 0, .int 0, .int 0, .ref h1, .ref h2, .int 0, .int 0, .ref h3, .ref h4, .ref h5, .ref h6, .ref h7, .ref h8, .ref h9, .int 0, .int 0, .int 0, .ref h10, .ref h11, .ref h12, .ref h13, .int 0, .int 0, .ref h14, .ref h15, .ref h16, .ref h17, .int 0, .int 0, .ref h18, .ref h19, .ref h20, .ref h21]))]) (qI (BX11_drawn_7 D k h0 h1 h2 h3 h4 h5 h6 h7 h8 h9 h10 h11 h12 h13 h14 h15 h16 h17 h18 h19 h20 h21 (va_A [(h0, .inr (8, [.int 2, .int 2, .int (-1778682749), .int 0, .int 0, .int 0, .ref h1, .ref h2, .int 0, .int 0, .ref h3, .ref h4, .ref h5, .ref h6, .ref h7, .ref h8, .ref h9, .int 0, .int 0, .int 0, .ref h10, .ref h11, .ref h12, .ref h13, .int 0, .int 0, .ref h14, .ref h15, .ref h16, .ref h17, .int 0, .int 0, .ref h18, .ref h19, .ref h20, .ref h21]))] sz)) (va_A [(h0, .inr (8, [.int 2, .int 2, .int (-1778682749), .int 0, .int 0, .int 0, .ref h1, .ref h2, .int 0, .int 0, .ref h3, .ref h4, .ref h5, .ref h6, .ref h7, .ref h8, .ref h9, .int 0, .int 0, .int 0, .ref h10, .ref h11, .ref h12, .ref h13, .int 0, .int 0, .ref h14, .ref h15, .ref h16, .ref h17, .int 0, .int 0, .ref h18, .ref h19, .ref h20, .ref h21]))] sz)) 0 0 (va_A [(h0, .inr (8, [.int 2, .int 2, .int (-1778682749), .int 0, .int 0, .int 0, .ref h1, .ref h2, .int 0, .int 0, .ref h3, .ref h4, .ref h5, .ref h6, .ref h7, .ref h8, .ref h9, .int 0, .int 0, .int 0, .ref h10, .ref h11, .ref h12, .ref h13, .int 0, .int 0, .ref h14, .ref h15, .ref h16, .ref h17, .int 0, .int 0, .ref h18, .ref h19, .ref h20, .ref h21]))] sz) := by
  refine begin_ (Qc := fun A => qI (BX11_drawn_7 D k h0 h1 h2 h3 h4 h5 h6 h7 h8 h9 h10 h11 h12 h13 h14 h15 h16 h17 h18 h19 h20 h21 A) A) (by decide) (Nat.le_of_ble_eq_true rfl) ?_
  intro p e s m below meth c ls A hx hb hr hml hown hlocks hin hU hK hsz hP hD hS hA hl
  have hl : lv_has ls 2 [(0, .ref h0), (1, .int 2)] := hl
  clear hsz
  refine lv_aload_n hx hb dX11_drawn_0 rfl (lv_at hl 0 rfl) ?_
  refine lv_aload_n hx hb dX11_drawn_1 rfl (lv_at hl 0 rfl) ?_
  refine va_get (D := D) (ci := 8) (v := .int (-1778682749)) (C := RX11) (T := TX11) (N := 36) hx hb hU iX11 hown hK.1 hP 0 rfl rfl 2 (by decide) (hU _ w787) (fun _ h9 => h9) rfl dX11_drawn_2 ?_
  refine lv_ldcw hx hb hown (hU _ w1178) dX11_drawn_5 ?_
  refine lv_imul hx hb dX11_drawn_8 (sv_i (v := (-639466041)) (by decide +kernel) ?_)
  refine lv_sipush (v := 12345) hx hb dX11_drawn_9 (by decide) ?_
  refine lv_iadd hx hb dX11_drawn_12 (sv_i (v := (-639453696)) (by decide +kernel) ?_)
  refine va_put (D := D) (ci := 8) (v := .int (-639453696)) (ty := .int) (C := RX11) (T := TX11) (N := 36) hx hb hU iX11 tyX11 tyX11_ok nmX11 hown hK.1 hP hD hS 0 rfl rfl 2 (by decide) (hU _ w787) (fun _ h9 => h9) rfl (by decide +kernel) rfl rfl (Nat.le_of_ble_eq_true rfl) dX11_drawn_13 (fun H locs hP hD hS => ?_)
  have hP : va_P D cl0 [(h0, .inr (8, [.int 2, .int 2, .int (-639453696), .int 0, .int 0, .int 0, .ref h1, .ref h2, .int 0, .int 0, .ref h3, .ref h4, .ref h5, .ref h6, .ref h7, .ref h8, .ref h9, .int 0, .int 0, .int 0, .ref h10, .ref h11, .ref h12, .ref h13, .int 0, .int 0, .ref h14, .ref h15, .ref h16, .ref h17, .int 0, .int 0, .ref h18, .ref h19, .ref h20, .ref h21]))] H := hP
  have hD : va_D A [(h0, .inr (8, [.int 2, .int 2, .int (-639453696), .int 0, .int 0, .int 0, .ref h1, .ref h2, .int 0, .int 0, .ref h3, .ref h4, .ref h5, .ref h6, .ref h7, .ref h8, .ref h9, .int 0, .int 0, .int 0, .ref h10, .ref h11, .ref h12, .ref h13, .int 0, .int 0, .ref h14, .ref h15, .ref h16, .ref h17, .int 0, .int 0, .ref h18, .ref h19, .ref h20, .ref h21]))] := hD
  refine lv_aload_n hx hb dX11_drawn_16 rfl (lv_at hl 0 rfl) ?_
  refine va_get (D := D) (ci := 8) (v := .int (-639453696)) (C := RX11) (T := TX11) (N := 36) hx hb hU iX11 hown hK.1 hP 0 rfl rfl 2 (by decide) (hU _ w787) (fun _ h9 => h9) rfl dX11_drawn_17 ?_
  refine lv_bipush (v := 16) hx hb dX11_drawn_20 (by decide) ?_
  refine lv_iushr (v := 55778) hx hb dX11_drawn_22 (by decide +kernel) ?_
  refine lv_iload_n hx hb dX11_drawn_23 rfl (lv_at hl 1 rfl) ?_
  refine lv_irem hx hb dX11_drawn_24 (by decide +kernel) (sv_i (v := 0) (by decide +kernel) ?_)
  exact retI (v := 0) hx hb hr hlocks hS (⟨rfl, hP, hD⟩) dX11_drawn_25
abbrev BX11_drawn_8 (D : va_G) (k : Nat → ClassId) (h0 h1 h2 h3 h4 h5 h6 h7 h8 h9 h10 h11 h12 h13 h14 h15 h16 h17 h18 h19 h20 h21 : Nat) (A : Nat → Prop) (r : Int32) (H : Heap) : Prop := 1 = r ∧ va_P D cl0 [(h0, .inr (8, [.int 2, .int 2, .int (-1661227463), .int 0, .int 0, .int 0, .ref h1, .ref h2, .int 0, .int 0, .ref h3, .ref h4, .ref h5, .ref h6, .ref h7, .ref h8, .ref h9, .int 0, .int 0, .int 0, .ref h10, .ref h11, .ref h12, .ref h13, .int 0, .int 0, .ref h14, .ref h15, .ref h16, .ref h17, .int 0, .int 0, .ref h18, .ref h19, .ref h20, .ref h21]))] H ∧ va_D A [(h0, .inr (8, [.int 2, .int 2, .int (-1661227463), .int 0, .int 0, .int 0, .ref h1, .ref h2, .int 0, .int 0, .ref h3, .ref h4, .ref h5, .ref h6, .ref h7, .ref h8, .ref h9, .int 0, .int 0, .int 0, .ref h10, .ref h11, .ref h12, .ref h13, .int 0, .int 0, .ref h14, .ref h15, .ref h16, .ref h17, .int 0, .int 0, .ref h18, .ref h19, .ref h20, .ref h21]))]
set_option maxHeartbeats 4000000 in
set_option maxRecDepth 100000 in
theorem cX11_drawn_8 (l : Launch) (D : va_G) (k : Nat → ClassId) (sz : Nat) (h0 h1 h2 h3 h4 h5 h6 h7 h8 h9 h10 h11 h12 h13 h14 h15 h16 h17 h18 h19 h20 h21 : Nat) : Met l yX11_drawn (Cond.code yX11_drawn cX11_drawn 2 (some .int) :: uw) ({ frames := 0, cells := 0, slots := 0, locals := 0 }) (pC D k sz [.ref h0, .int 2] [(h0, .inr (8, [.int 2, .int 2, .int (-639453696), .int 0, .int 0, .int 0, .ref h1, .ref h2, .int 0, .int 0, .ref h3, .ref h4, .ref h5, .ref h6, .ref h7, .ref h8, .ref h9, .int 0, .int 0, .int 0, .ref h10, .ref h11, .ref h12, .ref h13, .int 0, .int 0, .ref h14, .ref h15, .ref h16, .ref h17, .int 0, .int 0, .ref h18, .ref h19, .ref h20, .ref h21]))]) (qI (BX11_drawn_8 D k h0 h1 h2 h3 h4 h5 h6 h7 h8 h9 h10 h11 h12 h13 h14 h15 h16 h17 h18 h19 h20 h21 (va_A [(h0, .inr (8, [.int 2, .int 2, .int (-639453696), .int 0, .int 0, .int 0, .ref h1, .ref h2, .int 0, .int 0, .ref h3, .ref h4, .ref h5, .ref h6, .ref h7, .ref h8, .ref h9, .int 0, .int 0, .int 0, .ref h10, .ref h11, .ref h12, .ref h13, .int 0, .int 0, .ref h14, .ref h15, .ref h16, .ref h17, .int 0, .int 0, .ref h18, .ref h19, .ref h20, .ref h21]))] sz)) (va_A [(h0, .inr (8, [.int 2, .int 2, .int (-639453696), .int 0, .int 0, .int 0, .ref h1, .ref h2, .int 0, .int 0, .ref h3, .ref h4, .ref h5, .ref h6, .ref h7, .ref h8, .ref h9, .int 0, .int 0, .int 0, .ref h10, .ref h11, .ref h12, .ref h13, .int 0, .int 0, .ref h14, .ref h15, .ref h16, .ref h17, .int 0, .int 0, .ref h18, .ref h19, .ref h20, .ref h21]))] sz)) 0 0 (va_A [(h0, .inr (8, [.int 2, .int 2, .int (-639453696), .int 0, .int 0, .int 0, .ref h1, .ref h2, .int 0, .int 0, .ref h3, .ref h4, .ref h5, .ref h6, .ref h7, .ref h8, .ref h9, .int 0, .int 0, .int 0, .ref h10, .ref h11, .ref h12, .ref h13, .int 0, .int 0, .ref h14, .ref h15, .ref h16, .ref h17, .int 0, .int 0, .ref h18, .ref h19, .ref h20, .ref h21]))] sz) := by
  refine begin_ (Qc := fun A => qI (BX11_drawn_8 D k h0 h1 h2 h3 h4 h5 h6 h7 h8 h9 h10 h11 h12 h13 h14 h15 h16 h17 h18 h19 h20 h21 A) A) (by decide) (Nat.le_of_ble_eq_true rfl) ?_
  intro p e s m below meth c ls A hx hb hr hml hown hlocks hin hU hK hsz hP hD hS hA hl
  have hl : lv_has ls 2 [(0, .ref h0), (1, .int 2)] := hl
  clear hsz
  refine lv_aload_n hx hb dX11_drawn_0 rfl (lv_at hl 0 rfl) ?_
  refine lv_aload_n hx hb dX11_drawn_1 rfl (lv_at hl 0 rfl) ?_
  refine va_get (D := D) (ci := 8) (v := .int (-639453696)) (C := RX11) (T := TX11) (N := 36) hx hb hU iX11 hown hK.1 hP 0 rfl rfl 2 (by decide) (hU _ w787) (fun _ h9 => h9) rfl dX11_drawn_2 ?_
  refine lv_ldcw hx hb hown (hU _ w1178) dX11_drawn_5 ?_
  refine lv_imul hx hb dX11_drawn_8 (sv_i (v := (-1661239808)) (by decide +kernel) ?_)
  refine lv_sipush (v := 12345) hx hb dX11_drawn_9 (by decide) ?_
  refine lv_iadd hx hb dX11_drawn_12 (sv_i (v := (-1661227463)) (by decide +kernel) ?_)
  refine va_put (D := D) (ci := 8) (v := .int (-1661227463)) (ty := .int) (C := RX11) (T := TX11) (N := 36) hx hb hU iX11 tyX11 tyX11_ok nmX11 hown hK.1 hP hD hS 0 rfl rfl 2 (by decide) (hU _ w787) (fun _ h9 => h9) rfl (by decide +kernel) rfl rfl (Nat.le_of_ble_eq_true rfl) dX11_drawn_13 (fun H locs hP hD hS => ?_)
  have hP : va_P D cl0 [(h0, .inr (8, [.int 2, .int 2, .int (-1661227463), .int 0, .int 0, .int 0, .ref h1, .ref h2, .int 0, .int 0, .ref h3, .ref h4, .ref h5, .ref h6, .ref h7, .ref h8, .ref h9, .int 0, .int 0, .int 0, .ref h10, .ref h11, .ref h12, .ref h13, .int 0, .int 0, .ref h14, .ref h15, .ref h16, .ref h17, .int 0, .int 0, .ref h18, .ref h19, .ref h20, .ref h21]))] H := hP
  have hD : va_D A [(h0, .inr (8, [.int 2, .int 2, .int (-1661227463), .int 0, .int 0, .int 0, .ref h1, .ref h2, .int 0, .int 0, .ref h3, .ref h4, .ref h5, .ref h6, .ref h7, .ref h8, .ref h9, .int 0, .int 0, .int 0, .ref h10, .ref h11, .ref h12, .ref h13, .int 0, .int 0, .ref h14, .ref h15, .ref h16, .ref h17, .int 0, .int 0, .ref h18, .ref h19, .ref h20, .ref h21]))] := hD
  refine lv_aload_n hx hb dX11_drawn_16 rfl (lv_at hl 0 rfl) ?_
  refine va_get (D := D) (ci := 8) (v := .int (-1661227463)) (C := RX11) (T := TX11) (N := 36) hx hb hU iX11 hown hK.1 hP 0 rfl rfl 2 (by decide) (hU _ w787) (fun _ h9 => h9) rfl dX11_drawn_17 ?_
  refine lv_bipush (v := 16) hx hb dX11_drawn_20 (by decide) ?_
  refine lv_iushr (v := 40187) hx hb dX11_drawn_22 (by decide +kernel) ?_
  refine lv_iload_n hx hb dX11_drawn_23 rfl (lv_at hl 1 rfl) ?_
  refine lv_irem hx hb dX11_drawn_24 (by decide +kernel) (sv_i (v := 1) (by decide +kernel) ?_)
  exact retI (v := 1) hx hb hr hlocks hS (⟨rfl, hP, hD⟩) dX11_drawn_25
abbrev BX11_drawn_9 (D : va_G) (k : Nat → ClassId) (h0 h1 h2 h3 h4 h5 h6 h7 h8 h9 h10 h11 h12 h13 h14 h15 h16 h17 h18 h19 h20 h21 : Nat) (A : Nat → Prop) (r : Int32) (H : Heap) : Prop := 0 = r ∧ va_P D cl0 [(h0, .inr (8, [.int 2, .int 2, .int (-1084965762), .int 0, .int 0, .int 0, .ref h1, .ref h2, .int 0, .int 0, .ref h3, .ref h4, .ref h5, .ref h6, .ref h7, .ref h8, .ref h9, .int 0, .int 0, .int 0, .ref h10, .ref h11, .ref h12, .ref h13, .int 0, .int 0, .ref h14, .ref h15, .ref h16, .ref h17, .int 0, .int 0, .ref h18, .ref h19, .ref h20, .ref h21]))] H ∧ va_D A [(h0, .inr (8, [.int 2, .int 2, .int (-1084965762), .int 0, .int 0, .int 0, .ref h1, .ref h2, .int 0, .int 0, .ref h3, .ref h4, .ref h5, .ref h6, .ref h7, .ref h8, .ref h9, .int 0, .int 0, .int 0, .ref h10, .ref h11, .ref h12, .ref h13, .int 0, .int 0, .ref h14, .ref h15, .ref h16, .ref h17, .int 0, .int 0, .ref h18, .ref h19, .ref h20, .ref h21]))]
set_option maxHeartbeats 4000000 in
set_option maxRecDepth 100000 in
theorem cX11_drawn_9 (l : Launch) (D : va_G) (k : Nat → ClassId) (sz : Nat) (h0 h1 h2 h3 h4 h5 h6 h7 h8 h9 h10 h11 h12 h13 h14 h15 h16 h17 h18 h19 h20 h21 : Nat) : Met l yX11_drawn (Cond.code yX11_drawn cX11_drawn 2 (some .int) :: uw) ({ frames := 0, cells := 0, slots := 0, locals := 0 }) (pC D k sz [.ref h0, .int 5] [(h0, .inr (8, [.int 2, .int 2, .int (-1661227463), .int 0, .int 0, .int 0, .ref h1, .ref h2, .int 0, .int 0, .ref h3, .ref h4, .ref h5, .ref h6, .ref h7, .ref h8, .ref h9, .int 0, .int 0, .int 0, .ref h10, .ref h11, .ref h12, .ref h13, .int 0, .int 0, .ref h14, .ref h15, .ref h16, .ref h17, .int 0, .int 0, .ref h18, .ref h19, .ref h20, .ref h21]))]) (qI (BX11_drawn_9 D k h0 h1 h2 h3 h4 h5 h6 h7 h8 h9 h10 h11 h12 h13 h14 h15 h16 h17 h18 h19 h20 h21 (va_A [(h0, .inr (8, [.int 2, .int 2, .int (-1661227463), .int 0, .int 0, .int 0, .ref h1, .ref h2, .int 0, .int 0, .ref h3, .ref h4, .ref h5, .ref h6, .ref h7, .ref h8, .ref h9, .int 0, .int 0, .int 0, .ref h10, .ref h11, .ref h12, .ref h13, .int 0, .int 0, .ref h14, .ref h15, .ref h16, .ref h17, .int 0, .int 0, .ref h18, .ref h19, .ref h20, .ref h21]))] sz)) (va_A [(h0, .inr (8, [.int 2, .int 2, .int (-1661227463), .int 0, .int 0, .int 0, .ref h1, .ref h2, .int 0, .int 0, .ref h3, .ref h4, .ref h5, .ref h6, .ref h7, .ref h8, .ref h9, .int 0, .int 0, .int 0, .ref h10, .ref h11, .ref h12, .ref h13, .int 0, .int 0, .ref h14, .ref h15, .ref h16, .ref h17, .int 0, .int 0, .ref h18, .ref h19, .ref h20, .ref h21]))] sz)) 0 0 (va_A [(h0, .inr (8, [.int 2, .int 2, .int (-1661227463), .int 0, .int 0, .int 0, .ref h1, .ref h2, .int 0, .int 0, .ref h3, .ref h4, .ref h5, .ref h6, .ref h7, .ref h8, .ref h9, .int 0, .int 0, .int 0, .ref h10, .ref h11, .ref h12, .ref h13, .int 0, .int 0, .ref h14, .ref h15, .ref h16, .ref h17, .int 0, .int 0, .ref h18, .ref h19, .ref h20, .ref h21]))] sz) := by
  refine begin_ (Qc := fun A => qI (BX11_drawn_9 D k h0 h1 h2 h3 h4 h5 h6 h7 h8 h9 h10 h11 h12 h13 h14 h15 h16 h17 h18 h19 h20 h21 A) A) (by decide) (Nat.le_of_ble_eq_true rfl) ?_
  intro p e s m below meth c ls A hx hb hr hml hown hlocks hin hU hK hsz hP hD hS hA hl
  have hl : lv_has ls 2 [(0, .ref h0), (1, .int 5)] := hl
  clear hsz
  refine lv_aload_n hx hb dX11_drawn_0 rfl (lv_at hl 0 rfl) ?_
  refine lv_aload_n hx hb dX11_drawn_1 rfl (lv_at hl 0 rfl) ?_
  refine va_get (D := D) (ci := 8) (v := .int (-1661227463)) (C := RX11) (T := TX11) (N := 36) hx hb hU iX11 hown hK.1 hP 0 rfl rfl 2 (by decide) (hU _ w787) (fun _ h9 => h9) rfl dX11_drawn_2 ?_
  refine lv_ldcw hx hb hown (hU _ w1178) dX11_drawn_5 ?_
  refine lv_imul hx hb dX11_drawn_8 (sv_i (v := (-1084978107)) (by decide +kernel) ?_)
  refine lv_sipush (v := 12345) hx hb dX11_drawn_9 (by decide) ?_
  refine lv_iadd hx hb dX11_drawn_12 (sv_i (v := (-1084965762)) (by decide +kernel) ?_)
  refine va_put (D := D) (ci := 8) (v := .int (-1084965762)) (ty := .int) (C := RX11) (T := TX11) (N := 36) hx hb hU iX11 tyX11 tyX11_ok nmX11 hown hK.1 hP hD hS 0 rfl rfl 2 (by decide) (hU _ w787) (fun _ h9 => h9) rfl (by decide +kernel) rfl rfl (Nat.le_of_ble_eq_true rfl) dX11_drawn_13 (fun H locs hP hD hS => ?_)
  have hP : va_P D cl0 [(h0, .inr (8, [.int 2, .int 2, .int (-1084965762), .int 0, .int 0, .int 0, .ref h1, .ref h2, .int 0, .int 0, .ref h3, .ref h4, .ref h5, .ref h6, .ref h7, .ref h8, .ref h9, .int 0, .int 0, .int 0, .ref h10, .ref h11, .ref h12, .ref h13, .int 0, .int 0, .ref h14, .ref h15, .ref h16, .ref h17, .int 0, .int 0, .ref h18, .ref h19, .ref h20, .ref h21]))] H := hP
  have hD : va_D A [(h0, .inr (8, [.int 2, .int 2, .int (-1084965762), .int 0, .int 0, .int 0, .ref h1, .ref h2, .int 0, .int 0, .ref h3, .ref h4, .ref h5, .ref h6, .ref h7, .ref h8, .ref h9, .int 0, .int 0, .int 0, .ref h10, .ref h11, .ref h12, .ref h13, .int 0, .int 0, .ref h14, .ref h15, .ref h16, .ref h17, .int 0, .int 0, .ref h18, .ref h19, .ref h20, .ref h21]))] := hD
  refine lv_aload_n hx hb dX11_drawn_16 rfl (lv_at hl 0 rfl) ?_
  refine va_get (D := D) (ci := 8) (v := .int (-1084965762)) (C := RX11) (T := TX11) (N := 36) hx hb hU iX11 hown hK.1 hP 0 rfl rfl 2 (by decide) (hU _ w787) (fun _ h9 => h9) rfl dX11_drawn_17 ?_
  refine lv_bipush (v := 16) hx hb dX11_drawn_20 (by decide) ?_
  refine lv_iushr (v := 48980) hx hb dX11_drawn_22 (by decide +kernel) ?_
  refine lv_iload_n hx hb dX11_drawn_23 rfl (lv_at hl 1 rfl) ?_
  refine lv_irem hx hb dX11_drawn_24 (by decide +kernel) (sv_i (v := 0) (by decide +kernel) ?_)
  exact retI (v := 0) hx hb hr hlocks hS (⟨rfl, hP, hD⟩) dX11_drawn_25
abbrev BX11_clears_3 (D : va_G) (k : Nat → ClassId) (h0 h1 : Nat) (A : Nat → Prop) (H : Heap) : Prop := va_P D cl0 [(h0, .inl (k 1, 9, .inr (.inl (tL [0, 0, 0, 0, 0, 0, 0, 0, 0] 0))))] H ∧ va_D A [(h0, .inl (k 1, 9, .inr (.inl (tL [0, 0, 0, 0, 0, 0, 0, 0, 0] 0))))]
set_option maxHeartbeats 4000000 in
set_option maxRecDepth 100000 in
theorem cX11_clears_3 (l : Launch) (D : va_G) (k : Nat → ClassId) (sz : Nat) (h0 h1 : Nat) : Met l yX11_clears (Cond.code yX11_clears cX11_clears 3 none :: uw) ({ frames := 0, cells := 0, slots := 0, locals := 0 }) (pC D k sz [.ref h1, .ref h0] [(h0, .inl (k 1, 9, .inr (.inl (tL [1, 0, 0, 0, (-1), 0, 0, 0, 0] 0))))]) (qV (BX11_clears_3 D k h0 h1 (va_A [(h0, .inl (k 1, 9, .inr (.inl (tL [1, 0, 0, 0, (-1), 0, 0, 0, 0] 0))))] sz)) (va_A [(h0, .inl (k 1, 9, .inr (.inl (tL [1, 0, 0, 0, (-1), 0, 0, 0, 0] 0))))] sz)) 0 0 (va_A [(h0, .inl (k 1, 9, .inr (.inl (tL [1, 0, 0, 0, (-1), 0, 0, 0, 0] 0))))] sz) := by
  refine begin_ (Qc := fun A => qV (BX11_clears_3 D k h0 h1 A) A) (by decide) (Nat.le_of_ble_eq_true rfl) ?_
  intro p e s m below meth c ls A hx hb hr hml hown hlocks hin hU hK hsz hP hD hS hA hl
  have hl : lv_has ls 3 [(0, .ref h1), (1, .ref h0)] := hl
  clear hsz
  refine lv_iconst (v := 0) hx hb dX11_clears_0 (by decide) ?_
  refine lv_istore_n (lv' := [(2, .int 0), (0, .ref h1), (1, .ref h0)]) hx hb dX11_clears_1 rfl hl (by decide) rfl (fun ls hl => ?_)
  refine lv_iload_n hx hb dX11_clears_2 rfl (lv_at hl 0 rfl) ?_
  refine lv_bipush (v := 9) hx hb dX11_clears_3 (by decide) ?_
  refine lv_icmp_ge (tgt := 18) hx hb dX11_clears_5 (by decide) (fun cc => absurd cc (by decide +kernel)) (fun _ => ?_)
  refine lv_aload_n hx hb dX11_clears_8 rfl (lv_at hl 2 rfl) ?_
  refine lv_iload_n hx hb dX11_clears_9 rfl (lv_at hl 0 rfl) ?_
  refine lv_lconst (v := 0) hx hb dX11_clears_10 (by decide) ?_
  refine st_l (j := 0) (g := tL [0, 0, 0, 0, (-1), 0, 0, 0, 0] 0) hx hb hK hP hD hS 0 rfl (by decide +kernel) upd_tL dX11_clears_11 (fun H locs hP hD hS => ?_)
  have hP : va_P D cl0 [(h0, .inl (k 1, 9, .inr (.inl (tL [0, 0, 0, 0, (-1), 0, 0, 0, 0] 0))))] H := hP
  have hD : va_D A [(h0, .inl (k 1, 9, .inr (.inl (tL [0, 0, 0, 0, (-1), 0, 0, 0, 0] 0))))] := hD
  refine lv_iinc (v := 1) (lv' := [(2, .int 1), (0, .ref h1), (1, .ref h0)]) hx hb dX11_clears_12 hl (k := 0) rfl (by decide) (by decide) rfl (fun ls hl => ?_)
  refine lv_goto (tgt := 2) hx hb dX11_clears_15 (by decide) ?_
  refine lv_iload_n hx hb dX11_clears_2 rfl (lv_at hl 0 rfl) ?_
  refine lv_bipush (v := 9) hx hb dX11_clears_3 (by decide) ?_
  refine lv_icmp_ge (tgt := 18) hx hb dX11_clears_5 (by decide) (fun cc => absurd cc (by decide +kernel)) (fun _ => ?_)
  refine lv_aload_n hx hb dX11_clears_8 rfl (lv_at hl 2 rfl) ?_
  refine lv_iload_n hx hb dX11_clears_9 rfl (lv_at hl 0 rfl) ?_
  refine lv_lconst (v := 0) hx hb dX11_clears_10 (by decide) ?_
  refine st_l (j := 1) (g := tL [0, 0, 0, 0, (-1), 0, 0, 0, 0] 0) hx hb hK hP hD hS 0 rfl (by decide +kernel) upd_tL dX11_clears_11 (fun H locs hP hD hS => ?_)
  have hP : va_P D cl0 [(h0, .inl (k 1, 9, .inr (.inl (tL [0, 0, 0, 0, (-1), 0, 0, 0, 0] 0))))] H := hP
  have hD : va_D A [(h0, .inl (k 1, 9, .inr (.inl (tL [0, 0, 0, 0, (-1), 0, 0, 0, 0] 0))))] := hD
  refine lv_iinc (v := 2) (lv' := [(2, .int 2), (0, .ref h1), (1, .ref h0)]) hx hb dX11_clears_12 hl (k := 0) rfl (by decide) (by decide) rfl (fun ls hl => ?_)
  refine lv_goto (tgt := 2) hx hb dX11_clears_15 (by decide) ?_
  refine lv_iload_n hx hb dX11_clears_2 rfl (lv_at hl 0 rfl) ?_
  refine lv_bipush (v := 9) hx hb dX11_clears_3 (by decide) ?_
  refine lv_icmp_ge (tgt := 18) hx hb dX11_clears_5 (by decide) (fun cc => absurd cc (by decide +kernel)) (fun _ => ?_)
  refine lv_aload_n hx hb dX11_clears_8 rfl (lv_at hl 2 rfl) ?_
  refine lv_iload_n hx hb dX11_clears_9 rfl (lv_at hl 0 rfl) ?_
  refine lv_lconst (v := 0) hx hb dX11_clears_10 (by decide) ?_
  refine st_l (j := 2) (g := tL [0, 0, 0, 0, (-1), 0, 0, 0, 0] 0) hx hb hK hP hD hS 0 rfl (by decide +kernel) upd_tL dX11_clears_11 (fun H locs hP hD hS => ?_)
  have hP : va_P D cl0 [(h0, .inl (k 1, 9, .inr (.inl (tL [0, 0, 0, 0, (-1), 0, 0, 0, 0] 0))))] H := hP
  have hD : va_D A [(h0, .inl (k 1, 9, .inr (.inl (tL [0, 0, 0, 0, (-1), 0, 0, 0, 0] 0))))] := hD
  refine lv_iinc (v := 3) (lv' := [(2, .int 3), (0, .ref h1), (1, .ref h0)]) hx hb dX11_clears_12 hl (k := 0) rfl (by decide) (by decide) rfl (fun ls hl => ?_)
  refine lv_goto (tgt := 2) hx hb dX11_clears_15 (by decide) ?_
  refine lv_iload_n hx hb dX11_clears_2 rfl (lv_at hl 0 rfl) ?_
  refine lv_bipush (v := 9) hx hb dX11_clears_3 (by decide) ?_
  refine lv_icmp_ge (tgt := 18) hx hb dX11_clears_5 (by decide) (fun cc => absurd cc (by decide +kernel)) (fun _ => ?_)
  refine lv_aload_n hx hb dX11_clears_8 rfl (lv_at hl 2 rfl) ?_
  refine lv_iload_n hx hb dX11_clears_9 rfl (lv_at hl 0 rfl) ?_
  refine lv_lconst (v := 0) hx hb dX11_clears_10 (by decide) ?_
  refine st_l (j := 3) (g := tL [0, 0, 0, 0, (-1), 0, 0, 0, 0] 0) hx hb hK hP hD hS 0 rfl (by decide +kernel) upd_tL dX11_clears_11 (fun H locs hP hD hS => ?_)
  have hP : va_P D cl0 [(h0, .inl (k 1, 9, .inr (.inl (tL [0, 0, 0, 0, (-1), 0, 0, 0, 0] 0))))] H := hP
  have hD : va_D A [(h0, .inl (k 1, 9, .inr (.inl (tL [0, 0, 0, 0, (-1), 0, 0, 0, 0] 0))))] := hD
  refine lv_iinc (v := 4) (lv' := [(2, .int 4), (0, .ref h1), (1, .ref h0)]) hx hb dX11_clears_12 hl (k := 0) rfl (by decide) (by decide) rfl (fun ls hl => ?_)
  refine lv_goto (tgt := 2) hx hb dX11_clears_15 (by decide) ?_
  refine lv_iload_n hx hb dX11_clears_2 rfl (lv_at hl 0 rfl) ?_
  refine lv_bipush (v := 9) hx hb dX11_clears_3 (by decide) ?_
  refine lv_icmp_ge (tgt := 18) hx hb dX11_clears_5 (by decide) (fun cc => absurd cc (by decide +kernel)) (fun _ => ?_)
  refine lv_aload_n hx hb dX11_clears_8 rfl (lv_at hl 2 rfl) ?_
  refine lv_iload_n hx hb dX11_clears_9 rfl (lv_at hl 0 rfl) ?_
  refine lv_lconst (v := 0) hx hb dX11_clears_10 (by decide) ?_
  refine st_l (j := 4) (g := tL [0, 0, 0, 0, 0, 0, 0, 0, 0] 0) hx hb hK hP hD hS 0 rfl (by decide +kernel) upd_tL dX11_clears_11 (fun H locs hP hD hS => ?_)
  have hP : va_P D cl0 [(h0, .inl (k 1, 9, .inr (.inl (tL [0, 0, 0, 0, 0, 0, 0, 0, 0] 0))))] H := hP
  have hD : va_D A [(h0, .inl (k 1, 9, .inr (.inl (tL [0, 0, 0, 0, 0, 0, 0, 0, 0] 0))))] := hD
  refine lv_iinc (v := 5) (lv' := [(2, .int 5), (0, .ref h1), (1, .ref h0)]) hx hb dX11_clears_12 hl (k := 0) rfl (by decide) (by decide) rfl (fun ls hl => ?_)
  refine lv_goto (tgt := 2) hx hb dX11_clears_15 (by decide) ?_
  refine lv_iload_n hx hb dX11_clears_2 rfl (lv_at hl 0 rfl) ?_
  refine lv_bipush (v := 9) hx hb dX11_clears_3 (by decide) ?_
  refine lv_icmp_ge (tgt := 18) hx hb dX11_clears_5 (by decide) (fun cc => absurd cc (by decide +kernel)) (fun _ => ?_)
  refine lv_aload_n hx hb dX11_clears_8 rfl (lv_at hl 2 rfl) ?_
  refine lv_iload_n hx hb dX11_clears_9 rfl (lv_at hl 0 rfl) ?_
  refine lv_lconst (v := 0) hx hb dX11_clears_10 (by decide) ?_
  refine st_l (j := 5) (g := tL [0, 0, 0, 0, 0, 0, 0, 0, 0] 0) hx hb hK hP hD hS 0 rfl (by decide +kernel) upd_tL dX11_clears_11 (fun H locs hP hD hS => ?_)
  have hP : va_P D cl0 [(h0, .inl (k 1, 9, .inr (.inl (tL [0, 0, 0, 0, 0, 0, 0, 0, 0] 0))))] H := hP
  have hD : va_D A [(h0, .inl (k 1, 9, .inr (.inl (tL [0, 0, 0, 0, 0, 0, 0, 0, 0] 0))))] := hD
  refine lv_iinc (v := 6) (lv' := [(2, .int 6), (0, .ref h1), (1, .ref h0)]) hx hb dX11_clears_12 hl (k := 0) rfl (by decide) (by decide) rfl (fun ls hl => ?_)
  refine lv_goto (tgt := 2) hx hb dX11_clears_15 (by decide) ?_
  refine lv_iload_n hx hb dX11_clears_2 rfl (lv_at hl 0 rfl) ?_
  refine lv_bipush (v := 9) hx hb dX11_clears_3 (by decide) ?_
  refine lv_icmp_ge (tgt := 18) hx hb dX11_clears_5 (by decide) (fun cc => absurd cc (by decide +kernel)) (fun _ => ?_)
  refine lv_aload_n hx hb dX11_clears_8 rfl (lv_at hl 2 rfl) ?_
  refine lv_iload_n hx hb dX11_clears_9 rfl (lv_at hl 0 rfl) ?_
  refine lv_lconst (v := 0) hx hb dX11_clears_10 (by decide) ?_
  refine st_l (j := 6) (g := tL [0, 0, 0, 0, 0, 0, 0, 0, 0] 0) hx hb hK hP hD hS 0 rfl (by decide +kernel) upd_tL dX11_clears_11 (fun H locs hP hD hS => ?_)
  have hP : va_P D cl0 [(h0, .inl (k 1, 9, .inr (.inl (tL [0, 0, 0, 0, 0, 0, 0, 0, 0] 0))))] H := hP
  have hD : va_D A [(h0, .inl (k 1, 9, .inr (.inl (tL [0, 0, 0, 0, 0, 0, 0, 0, 0] 0))))] := hD
  refine lv_iinc (v := 7) (lv' := [(2, .int 7), (0, .ref h1), (1, .ref h0)]) hx hb dX11_clears_12 hl (k := 0) rfl (by decide) (by decide) rfl (fun ls hl => ?_)
  refine lv_goto (tgt := 2) hx hb dX11_clears_15 (by decide) ?_
  refine lv_iload_n hx hb dX11_clears_2 rfl (lv_at hl 0 rfl) ?_
  refine lv_bipush (v := 9) hx hb dX11_clears_3 (by decide) ?_
  refine lv_icmp_ge (tgt := 18) hx hb dX11_clears_5 (by decide) (fun cc => absurd cc (by decide +kernel)) (fun _ => ?_)
  refine lv_aload_n hx hb dX11_clears_8 rfl (lv_at hl 2 rfl) ?_
  refine lv_iload_n hx hb dX11_clears_9 rfl (lv_at hl 0 rfl) ?_
  refine lv_lconst (v := 0) hx hb dX11_clears_10 (by decide) ?_
  refine st_l (j := 7) (g := tL [0, 0, 0, 0, 0, 0, 0, 0, 0] 0) hx hb hK hP hD hS 0 rfl (by decide +kernel) upd_tL dX11_clears_11 (fun H locs hP hD hS => ?_)
  have hP : va_P D cl0 [(h0, .inl (k 1, 9, .inr (.inl (tL [0, 0, 0, 0, 0, 0, 0, 0, 0] 0))))] H := hP
  have hD : va_D A [(h0, .inl (k 1, 9, .inr (.inl (tL [0, 0, 0, 0, 0, 0, 0, 0, 0] 0))))] := hD
  refine lv_iinc (v := 8) (lv' := [(2, .int 8), (0, .ref h1), (1, .ref h0)]) hx hb dX11_clears_12 hl (k := 0) rfl (by decide) (by decide) rfl (fun ls hl => ?_)
  refine lv_goto (tgt := 2) hx hb dX11_clears_15 (by decide) ?_
  refine lv_iload_n hx hb dX11_clears_2 rfl (lv_at hl 0 rfl) ?_
  refine lv_bipush (v := 9) hx hb dX11_clears_3 (by decide) ?_
  refine lv_icmp_ge (tgt := 18) hx hb dX11_clears_5 (by decide) (fun cc => absurd cc (by decide +kernel)) (fun _ => ?_)
  refine lv_aload_n hx hb dX11_clears_8 rfl (lv_at hl 2 rfl) ?_
  refine lv_iload_n hx hb dX11_clears_9 rfl (lv_at hl 0 rfl) ?_
  refine lv_lconst (v := 0) hx hb dX11_clears_10 (by decide) ?_
  refine st_l (j := 8) (g := tL [0, 0, 0, 0, 0, 0, 0, 0, 0] 0) hx hb hK hP hD hS 0 rfl (by decide +kernel) upd_tL dX11_clears_11 (fun H locs hP hD hS => ?_)
  have hP : va_P D cl0 [(h0, .inl (k 1, 9, .inr (.inl (tL [0, 0, 0, 0, 0, 0, 0, 0, 0] 0))))] H := hP
  have hD : va_D A [(h0, .inl (k 1, 9, .inr (.inl (tL [0, 0, 0, 0, 0, 0, 0, 0, 0] 0))))] := hD
  refine lv_iinc (v := 9) (lv' := [(2, .int 9), (0, .ref h1), (1, .ref h0)]) hx hb dX11_clears_12 hl (k := 0) rfl (by decide) (by decide) rfl (fun ls hl => ?_)
  refine lv_goto (tgt := 2) hx hb dX11_clears_15 (by decide) ?_
  refine lv_iload_n hx hb dX11_clears_2 rfl (lv_at hl 0 rfl) ?_
  refine lv_bipush (v := 9) hx hb dX11_clears_3 (by decide) ?_
  refine lv_icmp_ge (tgt := 18) hx hb dX11_clears_5 (by decide) (fun _ => ?_) (fun cc => absurd (by decide +kernel) cc)
  exact retV hx hb hr hlocks hS (⟨hP, hD⟩) dX11_clears_18
abbrev BX11_first_4 (D : va_G) (k : Nat → ClassId) (h0 h1 h2 h3 h4 h5 h6 h7 h8 h9 h10 h11 h12 h13 h14 h15 h16 h17 h18 h19 h20 h21 : Nat) (A : Nat → Prop) (H : Heap) : Prop := va_P D cl0 [(h1, .inr (8, [.int 2, .int 2, .int (-1084965762), .int 0, .int 0, .int 0, .ref h2, .ref h3, .int 0, .int 0, .ref h0, .ref h4, .ref h5, .ref h6, .ref h7, .ref h8, .ref h9, .int 0, .int 0, .int 0, .ref h10, .ref h11, .ref h12, .ref h13, .int 0, .int 0, .ref h14, .ref h15, .ref h16, .ref h17, .int 0, .int 0, .ref h18, .ref h19, .ref h20, .ref h21])), (h0, .inl (k 1, 9, .inr (.inl (tL [1, 0, 0, 0, 1, 0, 0, 0, 0] 0))))] H ∧ va_D A [(h1, .inr (8, [.int 2, .int 2, .int (-1084965762), .int 0, .int 0, .int 0, .ref h2, .ref h3, .int 0, .int 0, .ref h0, .ref h4, .ref h5, .ref h6, .ref h7, .ref h8, .ref h9, .int 0, .int 0, .int 0, .ref h10, .ref h11, .ref h12, .ref h13, .int 0, .int 0, .ref h14, .ref h15, .ref h16, .ref h17, .int 0, .int 0, .ref h18, .ref h19, .ref h20, .ref h21])), (h0, .inl (k 1, 9, .inr (.inl (tL [1, 0, 0, 0, 1, 0, 0, 0, 0] 0))))]
set_option maxHeartbeats 4000000 in
set_option maxRecDepth 100000 in
theorem cX11_first_4 (l : Launch) (D : va_G) (k : Nat → ClassId) (sz : Nat) (h0 h1 h2 h3 h4 h5 h6 h7 h8 h9 h10 h11 h12 h13 h14 h15 h16 h17 h18 h19 h20 h21 : Nat) : Met l yX11_first (Cond.code yX11_first cX11_first 3 none :: uw) ({ frames := 1, cells := 0, slots := 0, locals := 22 }) (pC D k sz [.ref h1, .ref h0] [(h0, .inl (k 1, 9, .inr (.inl (tL [1, 0, 0, 0, (-1), 0, 0, 0, 0] 0)))), (h1, .inr (8, [.int 2, .int 2, .int (-1084965762), .int 0, .int 0, .int 0, .ref h2, .ref h3, .int 0, .int 0, .ref h0, .ref h4, .ref h5, .ref h6, .ref h7, .ref h8, .ref h9, .int 0, .int 0, .int 0, .ref h10, .ref h11, .ref h12, .ref h13, .int 0, .int 0, .ref h14, .ref h15, .ref h16, .ref h17, .int 0, .int 0, .ref h18, .ref h19, .ref h20, .ref h21]))]) (qV (BX11_first_4 D k h0 h1 h2 h3 h4 h5 h6 h7 h8 h9 h10 h11 h12 h13 h14 h15 h16 h17 h18 h19 h20 h21 (va_A [(h0, .inl (k 1, 9, .inr (.inl (tL [1, 0, 0, 0, (-1), 0, 0, 0, 0] 0)))), (h1, .inr (8, [.int 2, .int 2, .int (-1084965762), .int 0, .int 0, .int 0, .ref h2, .ref h3, .int 0, .int 0, .ref h0, .ref h4, .ref h5, .ref h6, .ref h7, .ref h8, .ref h9, .int 0, .int 0, .int 0, .ref h10, .ref h11, .ref h12, .ref h13, .int 0, .int 0, .ref h14, .ref h15, .ref h16, .ref h17, .int 0, .int 0, .ref h18, .ref h19, .ref h20, .ref h21]))] sz)) (va_A [(h0, .inl (k 1, 9, .inr (.inl (tL [1, 0, 0, 0, (-1), 0, 0, 0, 0] 0)))), (h1, .inr (8, [.int 2, .int 2, .int (-1084965762), .int 0, .int 0, .int 0, .ref h2, .ref h3, .int 0, .int 0, .ref h0, .ref h4, .ref h5, .ref h6, .ref h7, .ref h8, .ref h9, .int 0, .int 0, .int 0, .ref h10, .ref h11, .ref h12, .ref h13, .int 0, .int 0, .ref h14, .ref h15, .ref h16, .ref h17, .int 0, .int 0, .ref h18, .ref h19, .ref h20, .ref h21]))] sz)) 0 0 (va_A [(h0, .inl (k 1, 9, .inr (.inl (tL [1, 0, 0, 0, (-1), 0, 0, 0, 0] 0)))), (h1, .inr (8, [.int 2, .int 2, .int (-1084965762), .int 0, .int 0, .int 0, .ref h2, .ref h3, .int 0, .int 0, .ref h0, .ref h4, .ref h5, .ref h6, .ref h7, .ref h8, .ref h9, .int 0, .int 0, .int 0, .ref h10, .ref h11, .ref h12, .ref h13, .int 0, .int 0, .ref h14, .ref h15, .ref h16, .ref h17, .int 0, .int 0, .ref h18, .ref h19, .ref h20, .ref h21]))] sz) := by
  refine begin_ (Qc := fun A => qV (BX11_first_4 D k h0 h1 h2 h3 h4 h5 h6 h7 h8 h9 h10 h11 h12 h13 h14 h15 h16 h17 h18 h19 h20 h21 A) A) (by decide) (Nat.le_of_ble_eq_true rfl) ?_
  intro p e s m below meth c ls A hx hb hr hml hown hlocks hin hU hK hsz hP hD hS hA hl
  have hl : lv_has ls 3 [(0, .ref h1), (1, .ref h0)] := hl
  clear hsz
  refine lv_aload_n hx hb dX11_first_0 rfl (lv_at hl 0 rfl) ?_
  refine lv_aload_n hx hb dX11_first_1 rfl (lv_at hl 1 rfl) ?_
  refine cV (rV (q0 := 1) (ci := 8) (As := [.ref h0]) (rest := []) (wc := [(h0, .inl (k 1, 9, .inr (.inl (tL [1, 0, 0, 0, (-1), 0, 0, 0, 0] 0))))]) hx hb hml hown hU hK hP hD rfl rfl [0] rfl (by decide) (cX11_clears_3 l D k _ h0 h1) w923 w920 w922 w29 w72 hdX11_clears ⟨rfl, rfl⟩ ⟨Nat.le_of_ble_eq_true rfl, Nat.le_of_ble_eq_true rfl⟩ rfl hl.1 (Nat.le_of_ble_eq_true rfl) dX11_first_2 ⟨Nat.le_of_ble_eq_true rfl, Nat.le_of_ble_eq_true rfl⟩) hP hD hS hA (wr := [(h1, .inr (8, [.int 2, .int 2, .int (-1084965762), .int 0, .int 0, .int 0, .ref h2, .ref h3, .int 0, .int 0, .ref h0, .ref h4, .ref h5, .ref h6, .ref h7, .ref h8, .ref h9, .int 0, .int 0, .int 0, .ref h10, .ref h11, .ref h12, .ref h13, .int 0, .int 0, .ref h14, .ref h15, .ref h16, .ref h17, .int 0, .int 0, .ref h18, .ref h19, .ref h20, .ref h21]))]) [0] [1] rfl rfl (by decide) (by decide) (fun H locs hB J hS => ?_)
  obtain ⟨hP1, hD1⟩ := hB
  obtain ⟨hP, hD⟩ := J _ hP1 hD1
  have hP : va_P D cl0 [(h1, .inr (8, [.int 2, .int 2, .int (-1084965762), .int 0, .int 0, .int 0, .ref h2, .ref h3, .int 0, .int 0, .ref h0, .ref h4, .ref h5, .ref h6, .ref h7, .ref h8, .ref h9, .int 0, .int 0, .int 0, .ref h10, .ref h11, .ref h12, .ref h13, .int 0, .int 0, .ref h14, .ref h15, .ref h16, .ref h17, .int 0, .int 0, .ref h18, .ref h19, .ref h20, .ref h21])), (h0, .inl (k 1, 9, .inr (.inl (tL [0, 0, 0, 0, 0, 0, 0, 0, 0] 0))))] H := hP
  have hD : va_D A [(h1, .inr (8, [.int 2, .int 2, .int (-1084965762), .int 0, .int 0, .int 0, .ref h2, .ref h3, .int 0, .int 0, .ref h0, .ref h4, .ref h5, .ref h6, .ref h7, .ref h8, .ref h9, .int 0, .int 0, .int 0, .ref h10, .ref h11, .ref h12, .ref h13, .int 0, .int 0, .ref h14, .ref h15, .ref h16, .ref h17, .int 0, .int 0, .ref h18, .ref h19, .ref h20, .ref h21])), (h0, .inl (k 1, 9, .inr (.inl (tL [0, 0, 0, 0, 0, 0, 0, 0, 0] 0))))] := hD
  refine lv_iconst (v := 0) hx hb dX11_first_5 (by decide) ?_
  refine lv_istore_n (lv' := [(2, .int 0), (0, .ref h1), (1, .ref h0)]) hx hb dX11_first_6 rfl hl (by decide) rfl (fun ls hl => ?_)
  refine lv_iload_n hx hb dX11_first_7 rfl (lv_at hl 0 rfl) ?_
  refine lv_aload_n hx hb dX11_first_8 rfl (lv_at hl 1 rfl) ?_
  refine va_get (D := D) (ci := 8) (v := .int 2) (C := RX11) (T := TX11) (N := 36) hx hb hU iX11 hown hK.1 hP 0 rfl rfl 0 (by decide) (hU _ w785) (fun _ h9 => h9) rfl dX11_first_9 ?_
  refine lv_icmp_ge (tgt := 27) hx hb dX11_first_12 (by decide) (fun cc => absurd cc (by decide +kernel)) (fun _ => ?_)
  refine lv_aload_n hx hb dX11_first_15 rfl (lv_at hl 2 rfl) ?_
  refine lv_iconst (v := 4) hx hb dX11_first_16 (by decide) ?_
  refine lv_iload_n hx hb dX11_first_17 rfl (lv_at hl 0 rfl) ?_
  refine lv_imul hx hb dX11_first_18 (sv_i (v := 0) (by decide +kernel) ?_)
  refine lv_lconst (v := 1) hx hb dX11_first_19 (by decide) ?_
  refine st_l (j := 0) (g := tL [1, 0, 0, 0, 0, 0, 0, 0, 0] 0) hx hb hK hP hD hS 1 rfl (by decide +kernel) upd_tL dX11_first_20 (fun H locs hP hD hS => ?_)
  have hP : va_P D cl0 [(h1, .inr (8, [.int 2, .int 2, .int (-1084965762), .int 0, .int 0, .int 0, .ref h2, .ref h3, .int 0, .int 0, .ref h0, .ref h4, .ref h5, .ref h6, .ref h7, .ref h8, .ref h9, .int 0, .int 0, .int 0, .ref h10, .ref h11, .ref h12, .ref h13, .int 0, .int 0, .ref h14, .ref h15, .ref h16, .ref h17, .int 0, .int 0, .ref h18, .ref h19, .ref h20, .ref h21])), (h0, .inl (k 1, 9, .inr (.inl (tL [1, 0, 0, 0, 0, 0, 0, 0, 0] 0))))] H := hP
  have hD : va_D A [(h1, .inr (8, [.int 2, .int 2, .int (-1084965762), .int 0, .int 0, .int 0, .ref h2, .ref h3, .int 0, .int 0, .ref h0, .ref h4, .ref h5, .ref h6, .ref h7, .ref h8, .ref h9, .int 0, .int 0, .int 0, .ref h10, .ref h11, .ref h12, .ref h13, .int 0, .int 0, .ref h14, .ref h15, .ref h16, .ref h17, .int 0, .int 0, .ref h18, .ref h19, .ref h20, .ref h21])), (h0, .inl (k 1, 9, .inr (.inl (tL [1, 0, 0, 0, 0, 0, 0, 0, 0] 0))))] := hD
  refine lv_iinc (v := 1) (lv' := [(2, .int 1), (0, .ref h1), (1, .ref h0)]) hx hb dX11_first_21 hl (k := 0) rfl (by decide) (by decide) rfl (fun ls hl => ?_)
  refine lv_goto (tgt := 7) hx hb dX11_first_24 (by decide) ?_
  refine lv_iload_n hx hb dX11_first_7 rfl (lv_at hl 0 rfl) ?_
  refine lv_aload_n hx hb dX11_first_8 rfl (lv_at hl 1 rfl) ?_
  refine va_get (D := D) (ci := 8) (v := .int 2) (C := RX11) (T := TX11) (N := 36) hx hb hU iX11 hown hK.1 hP 0 rfl rfl 0 (by decide) (hU _ w785) (fun _ h9 => h9) rfl dX11_first_9 ?_
  refine lv_icmp_ge (tgt := 27) hx hb dX11_first_12 (by decide) (fun cc => absurd cc (by decide +kernel)) (fun _ => ?_)
  refine lv_aload_n hx hb dX11_first_15 rfl (lv_at hl 2 rfl) ?_
  refine lv_iconst (v := 4) hx hb dX11_first_16 (by decide) ?_
  refine lv_iload_n hx hb dX11_first_17 rfl (lv_at hl 0 rfl) ?_
  refine lv_imul hx hb dX11_first_18 (sv_i (v := 4) (by decide +kernel) ?_)
  refine lv_lconst (v := 1) hx hb dX11_first_19 (by decide) ?_
  refine st_l (j := 4) (g := tL [1, 0, 0, 0, 1, 0, 0, 0, 0] 0) hx hb hK hP hD hS 1 rfl (by decide +kernel) upd_tL dX11_first_20 (fun H locs hP hD hS => ?_)
  have hP : va_P D cl0 [(h1, .inr (8, [.int 2, .int 2, .int (-1084965762), .int 0, .int 0, .int 0, .ref h2, .ref h3, .int 0, .int 0, .ref h0, .ref h4, .ref h5, .ref h6, .ref h7, .ref h8, .ref h9, .int 0, .int 0, .int 0, .ref h10, .ref h11, .ref h12, .ref h13, .int 0, .int 0, .ref h14, .ref h15, .ref h16, .ref h17, .int 0, .int 0, .ref h18, .ref h19, .ref h20, .ref h21])), (h0, .inl (k 1, 9, .inr (.inl (tL [1, 0, 0, 0, 1, 0, 0, 0, 0] 0))))] H := hP
  have hD : va_D A [(h1, .inr (8, [.int 2, .int 2, .int (-1084965762), .int 0, .int 0, .int 0, .ref h2, .ref h3, .int 0, .int 0, .ref h0, .ref h4, .ref h5, .ref h6, .ref h7, .ref h8, .ref h9, .int 0, .int 0, .int 0, .ref h10, .ref h11, .ref h12, .ref h13, .int 0, .int 0, .ref h14, .ref h15, .ref h16, .ref h17, .int 0, .int 0, .ref h18, .ref h19, .ref h20, .ref h21])), (h0, .inl (k 1, 9, .inr (.inl (tL [1, 0, 0, 0, 1, 0, 0, 0, 0] 0))))] := hD
  refine lv_iinc (v := 2) (lv' := [(2, .int 2), (0, .ref h1), (1, .ref h0)]) hx hb dX11_first_21 hl (k := 0) rfl (by decide) (by decide) rfl (fun ls hl => ?_)
  refine lv_goto (tgt := 7) hx hb dX11_first_24 (by decide) ?_
  refine lv_iload_n hx hb dX11_first_7 rfl (lv_at hl 0 rfl) ?_
  refine lv_aload_n hx hb dX11_first_8 rfl (lv_at hl 1 rfl) ?_
  refine va_get (D := D) (ci := 8) (v := .int 2) (C := RX11) (T := TX11) (N := 36) hx hb hU iX11 hown hK.1 hP 0 rfl rfl 0 (by decide) (hU _ w785) (fun _ h9 => h9) rfl dX11_first_9 ?_
  refine lv_icmp_ge (tgt := 27) hx hb dX11_first_12 (by decide) (fun _ => ?_) (fun cc => absurd (by decide +kernel) cc)
  exact retV hx hb hr hlocks hS (⟨hP, hD⟩) dX11_first_27
abbrev BX11_makesUnit_9 (D : va_G) (k : Nat → ClassId) (h0 h1 h2 h3 h4 h5 h6 h7 h8 h9 h10 h11 h12 h13 h14 h15 h16 h17 h18 h19 h20 h21 : Nat) (A : Nat → Prop) (H : Heap) : Prop := va_P D cl0 [(h0, .inr (8, [.int 2, .int 2, .int (-1084965762), .int 0, .int 0, .int 0, .ref h2, .ref h3, .int 0, .int 0, .ref h1, .ref h4, .ref h5, .ref h6, .ref h7, .ref h8, .ref h9, .int 0, .int 0, .int 0, .ref h10, .ref h11, .ref h12, .ref h13, .int 0, .int 0, .ref h14, .ref h15, .ref h16, .ref h17, .int 0, .int 0, .ref h18, .ref h19, .ref h20, .ref h21])), (h1, .inl (k 1, 9, .inr (.inl (tL [1, (-2), 0, 0, 1, 0, 0, 0, 0] 0))))] H ∧ va_D A [(h0, .inr (8, [.int 2, .int 2, .int (-1084965762), .int 0, .int 0, .int 0, .ref h2, .ref h3, .int 0, .int 0, .ref h1, .ref h4, .ref h5, .ref h6, .ref h7, .ref h8, .ref h9, .int 0, .int 0, .int 0, .ref h10, .ref h11, .ref h12, .ref h13, .int 0, .int 0, .ref h14, .ref h15, .ref h16, .ref h17, .int 0, .int 0, .ref h18, .ref h19, .ref h20, .ref h21])), (h1, .inl (k 1, 9, .inr (.inl (tL [1, (-2), 0, 0, 1, 0, 0, 0, 0] 0))))]
set_option maxHeartbeats 4000000 in
set_option maxRecDepth 100000 in
theorem cX11_makesUnit_9 (l : Launch) (D : va_G) (k : Nat → ClassId) (sz : Nat) (h0 h1 h2 h3 h4 h5 h6 h7 h8 h9 h10 h11 h12 h13 h14 h15 h16 h17 h18 h19 h20 h21 : Nat) : Met l yX11_makesUnit (Cond.code yX11_makesUnit cX11_makesUnit 4 none :: uw) ({ frames := 2, cells := 0, slots := 0, locals := 44 }) (pC D k sz [.ref h0, .int 0, .int 1, .int (-2)] [(h0, .inr (8, [.int 2, .int 2, .int (-1084965762), .int 0, .int 0, .int 0, .ref h2, .ref h3, .int 0, .int 0, .ref h1, .ref h4, .ref h5, .ref h6, .ref h7, .ref h8, .ref h9, .int 0, .int 0, .int 0, .ref h10, .ref h11, .ref h12, .ref h13, .int 0, .int 0, .ref h14, .ref h15, .ref h16, .ref h17, .int 0, .int 0, .ref h18, .ref h19, .ref h20, .ref h21])), (h1, .inl (k 1, 9, .inr (.inl (tL [1, 0, 0, 0, (-1), 0, 0, 0, 0] 0))))]) (qV (BX11_makesUnit_9 D k h0 h1 h2 h3 h4 h5 h6 h7 h8 h9 h10 h11 h12 h13 h14 h15 h16 h17 h18 h19 h20 h21 (va_A [(h0, .inr (8, [.int 2, .int 2, .int (-1084965762), .int 0, .int 0, .int 0, .ref h2, .ref h3, .int 0, .int 0, .ref h1, .ref h4, .ref h5, .ref h6, .ref h7, .ref h8, .ref h9, .int 0, .int 0, .int 0, .ref h10, .ref h11, .ref h12, .ref h13, .int 0, .int 0, .ref h14, .ref h15, .ref h16, .ref h17, .int 0, .int 0, .ref h18, .ref h19, .ref h20, .ref h21])), (h1, .inl (k 1, 9, .inr (.inl (tL [1, 0, 0, 0, (-1), 0, 0, 0, 0] 0))))] sz)) (va_A [(h0, .inr (8, [.int 2, .int 2, .int (-1084965762), .int 0, .int 0, .int 0, .ref h2, .ref h3, .int 0, .int 0, .ref h1, .ref h4, .ref h5, .ref h6, .ref h7, .ref h8, .ref h9, .int 0, .int 0, .int 0, .ref h10, .ref h11, .ref h12, .ref h13, .int 0, .int 0, .ref h14, .ref h15, .ref h16, .ref h17, .int 0, .int 0, .ref h18, .ref h19, .ref h20, .ref h21])), (h1, .inl (k 1, 9, .inr (.inl (tL [1, 0, 0, 0, (-1), 0, 0, 0, 0] 0))))] sz)) 0 0 (va_A [(h0, .inr (8, [.int 2, .int 2, .int (-1084965762), .int 0, .int 0, .int 0, .ref h2, .ref h3, .int 0, .int 0, .ref h1, .ref h4, .ref h5, .ref h6, .ref h7, .ref h8, .ref h9, .int 0, .int 0, .int 0, .ref h10, .ref h11, .ref h12, .ref h13, .int 0, .int 0, .ref h14, .ref h15, .ref h16, .ref h17, .int 0, .int 0, .ref h18, .ref h19, .ref h20, .ref h21])), (h1, .inl (k 1, 9, .inr (.inl (tL [1, 0, 0, 0, (-1), 0, 0, 0, 0] 0))))] sz) := by
  refine begin_ (Qc := fun A => qV (BX11_makesUnit_9 D k h0 h1 h2 h3 h4 h5 h6 h7 h8 h9 h10 h11 h12 h13 h14 h15 h16 h17 h18 h19 h20 h21 A) A) (by decide) (Nat.le_of_ble_eq_true rfl) ?_
  intro p e s m below meth c ls A hx hb hr hml hown hlocks hin hU hK hsz hP hD hS hA hl
  have hl : lv_has ls 4 [(0, .ref h0), (1, .int 0), (2, .int 1), (3, .int (-2))] := hl
  clear hsz
  refine lv_aload_n hx hb dX11_makesUnit_0 rfl (lv_at hl 0 rfl) ?_
  refine lv_aload_n hx hb dX11_makesUnit_1 rfl (lv_at hl 0 rfl) ?_
  refine va_get (D := D) (ci := 8) (v := .ref h1) (C := RX11) (T := TX11) (N := 36) hx hb hU iX11 hown hK.1 hP 0 rfl rfl 10 (by decide) (hU _ w795) (fun _ h9 => h9) rfl dX11_makesUnit_2 ?_
  refine cV (rV (q0 := 0) (ci := 8) (As := [.ref h1]) (rest := []) (wc := [(h1, .inl (k 1, 9, .inr (.inl (tL [1, 0, 0, 0, (-1), 0, 0, 0, 0] 0)))), (h0, .inr (8, [.int 2, .int 2, .int (-1084965762), .int 0, .int 0, .int 0, .ref h2, .ref h3, .int 0, .int 0, .ref h1, .ref h4, .ref h5, .ref h6, .ref h7, .ref h8, .ref h9, .int 0, .int 0, .int 0, .ref h10, .ref h11, .ref h12, .ref h13, .int 0, .int 0, .ref h14, .ref h15, .ref h16, .ref h17, .int 0, .int 0, .ref h18, .ref h19, .ref h20, .ref h21]))]) hx hb hml hown hU hK hP hD rfl rfl [1, 0] rfl (by decide) (cX11_first_4 l D k _ h1 h0 h2 h3 h4 h5 h6 h7 h8 h9 h10 h11 h12 h13 h14 h15 h16 h17 h18 h19 h20 h21) w919 w916 w918 w28 w72 hdX11_first ⟨rfl, rfl⟩ ⟨Nat.le_of_ble_eq_true rfl, Nat.le_of_ble_eq_true rfl⟩ rfl hl.1 (Nat.le_of_ble_eq_true rfl) dX11_makesUnit_5 ⟨Nat.le_of_ble_eq_true rfl, Nat.le_of_ble_eq_true rfl⟩) hP hD hS hA (wr := []) [1, 0] [] rfl rfl (by decide) (by decide) (fun H locs hB J hS => ?_)
  obtain ⟨hP1, hD1⟩ := hB
  obtain ⟨hP, hD⟩ := J _ hP1 hD1
  have hP : va_P D cl0 [(h0, .inr (8, [.int 2, .int 2, .int (-1084965762), .int 0, .int 0, .int 0, .ref h2, .ref h3, .int 0, .int 0, .ref h1, .ref h4, .ref h5, .ref h6, .ref h7, .ref h8, .ref h9, .int 0, .int 0, .int 0, .ref h10, .ref h11, .ref h12, .ref h13, .int 0, .int 0, .ref h14, .ref h15, .ref h16, .ref h17, .int 0, .int 0, .ref h18, .ref h19, .ref h20, .ref h21])), (h1, .inl (k 1, 9, .inr (.inl (tL [1, 0, 0, 0, 1, 0, 0, 0, 0] 0))))] H := hP
  have hD : va_D A [(h0, .inr (8, [.int 2, .int 2, .int (-1084965762), .int 0, .int 0, .int 0, .ref h2, .ref h3, .int 0, .int 0, .ref h1, .ref h4, .ref h5, .ref h6, .ref h7, .ref h8, .ref h9, .int 0, .int 0, .int 0, .ref h10, .ref h11, .ref h12, .ref h13, .int 0, .int 0, .ref h14, .ref h15, .ref h16, .ref h17, .int 0, .int 0, .ref h18, .ref h19, .ref h20, .ref h21])), (h1, .inl (k 1, 9, .inr (.inl (tL [1, 0, 0, 0, 1, 0, 0, 0, 0] 0))))] := hD
  refine lv_aload_n hx hb dX11_makesUnit_8 rfl (lv_at hl 0 rfl) ?_
  refine va_get (D := D) (ci := 8) (v := .ref h1) (C := RX11) (T := TX11) (N := 36) hx hb hU iX11 hown hK.1 hP 0 rfl rfl 10 (by decide) (hU _ w795) (fun _ h9 => h9) rfl dX11_makesUnit_9 ?_
  refine lv_iconst (v := 3) hx hb dX11_makesUnit_12 (by decide) ?_
  refine lv_iload_n hx hb dX11_makesUnit_13 rfl (lv_at hl 1 rfl) ?_
  refine lv_imul hx hb dX11_makesUnit_14 (sv_i (v := 0) (by decide +kernel) ?_)
  refine lv_iload_n hx hb dX11_makesUnit_15 rfl (lv_at hl 2 rfl) ?_
  refine lv_iadd hx hb dX11_makesUnit_16 (sv_i (v := 1) (by decide +kernel) ?_)
  refine lv_iload_n hx hb dX11_makesUnit_17 rfl (lv_at hl 3 rfl) ?_
  refine lv_i2l (v := (-2)) hx hb dX11_makesUnit_18 (by decide +kernel) ?_
  refine st_l (j := 1) (g := tL [1, (-2), 0, 0, 1, 0, 0, 0, 0] 0) hx hb hK hP hD hS 1 rfl (by decide +kernel) upd_tL dX11_makesUnit_19 (fun H locs hP hD hS => ?_)
  have hP : va_P D cl0 [(h0, .inr (8, [.int 2, .int 2, .int (-1084965762), .int 0, .int 0, .int 0, .ref h2, .ref h3, .int 0, .int 0, .ref h1, .ref h4, .ref h5, .ref h6, .ref h7, .ref h8, .ref h9, .int 0, .int 0, .int 0, .ref h10, .ref h11, .ref h12, .ref h13, .int 0, .int 0, .ref h14, .ref h15, .ref h16, .ref h17, .int 0, .int 0, .ref h18, .ref h19, .ref h20, .ref h21])), (h1, .inl (k 1, 9, .inr (.inl (tL [1, (-2), 0, 0, 1, 0, 0, 0, 0] 0))))] H := hP
  have hD : va_D A [(h0, .inr (8, [.int 2, .int 2, .int (-1084965762), .int 0, .int 0, .int 0, .ref h2, .ref h3, .int 0, .int 0, .ref h1, .ref h4, .ref h5, .ref h6, .ref h7, .ref h8, .ref h9, .int 0, .int 0, .int 0, .ref h10, .ref h11, .ref h12, .ref h13, .int 0, .int 0, .ref h14, .ref h15, .ref h16, .ref h17, .int 0, .int 0, .ref h18, .ref h19, .ref h20, .ref h21])), (h1, .inl (k 1, 9, .inr (.inl (tL [1, (-2), 0, 0, 1, 0, 0, 0, 0] 0))))] := hD
  exact retV hx hb hr hlocks hS (⟨hP, hD⟩) dX11_makesUnit_20
abbrev BX11_comes_8 (D : va_G) (k : Nat → ClassId) (h0 h1 h2 h3 h4 h5 h6 h7 h8 h9 h10 h11 h12 h13 h14 h15 h16 h17 h18 h19 h20 h21 : Nat) (A : Nat → Prop) (r : Int32) (H : Heap) : Prop := 2 = r ∧ va_P D cl0 [(h0, .inr (8, [.int 2, .int 3, .int (-1084965762), .int 0, .int 0, .int 0, .ref h2, .ref h3, .int 0, .int 0, .ref h1, .ref h4, .ref h5, .ref h6, .ref h7, .ref h8, .ref h9, .int 0, .int 0, .int 0, .ref h10, .ref h11, .ref h12, .ref h13, .int 0, .int 0, .ref h14, .ref h15, .ref h16, .ref h17, .int 0, .int 0, .ref h18, .ref h19, .ref h20, .ref h21])), (h1, .inl (k 1, 9, .inr (.inl (tL [1, (-2), 0, 0, 1, 0, 0, 0, 0] 0)))), (h2, .inl (k 0, 36, .inl (tI [(-1), 0, 0, 0, 1, 0, 0, 0, 0, 1, 0, 0, 0, (-1), 0, 0, 0, 0, 1, (-2), 0, 0, 1, 0, 0, 0, 0] 0)))] H ∧ va_D A [(h0, .inr (8, [.int 2, .int 3, .int (-1084965762), .int 0, .int 0, .int 0, .ref h2, .ref h3, .int 0, .int 0, .ref h1, .ref h4, .ref h5, .ref h6, .ref h7, .ref h8, .ref h9, .int 0, .int 0, .int 0, .ref h10, .ref h11, .ref h12, .ref h13, .int 0, .int 0, .ref h14, .ref h15, .ref h16, .ref h17, .int 0, .int 0, .ref h18, .ref h19, .ref h20, .ref h21])), (h1, .inl (k 1, 9, .inr (.inl (tL [1, (-2), 0, 0, 1, 0, 0, 0, 0] 0)))), (h2, .inl (k 0, 36, .inl (tI [(-1), 0, 0, 0, 1, 0, 0, 0, 0, 1, 0, 0, 0, (-1), 0, 0, 0, 0, 1, (-2), 0, 0, 1, 0, 0, 0, 0] 0)))]
set_option maxHeartbeats 4000000 in
set_option maxRecDepth 100000 in
theorem cX11_comes_8 (l : Launch) (D : va_G) (k : Nat → ClassId) (sz : Nat) (h0 h1 h2 h3 h4 h5 h6 h7 h8 h9 h10 h11 h12 h13 h14 h15 h16 h17 h18 h19 h20 h21 : Nat) : Met l yX11_comes (Cond.code yX11_comes cX11_comes 2 (some .int) :: uw) ({ frames := 0, cells := 0, slots := 0, locals := 0 }) (pC D k sz [.ref h0] [(h0, .inr (8, [.int 2, .int 2, .int (-1084965762), .int 0, .int 0, .int 0, .ref h2, .ref h3, .int 0, .int 0, .ref h1, .ref h4, .ref h5, .ref h6, .ref h7, .ref h8, .ref h9, .int 0, .int 0, .int 0, .ref h10, .ref h11, .ref h12, .ref h13, .int 0, .int 0, .ref h14, .ref h15, .ref h16, .ref h17, .int 0, .int 0, .ref h18, .ref h19, .ref h20, .ref h21])), (h1, .inl (k 1, 9, .inr (.inl (tL [1, (-2), 0, 0, 1, 0, 0, 0, 0] 0)))), (h2, .inl (k 0, 36, .inl (tI [(-1), 0, 0, 0, 1, 0, 0, 0, 0, 1, 0, 0, 0, (-1), 0, 0, 0, 0] 0)))]) (qI (BX11_comes_8 D k h0 h1 h2 h3 h4 h5 h6 h7 h8 h9 h10 h11 h12 h13 h14 h15 h16 h17 h18 h19 h20 h21 (va_A [(h0, .inr (8, [.int 2, .int 2, .int (-1084965762), .int 0, .int 0, .int 0, .ref h2, .ref h3, .int 0, .int 0, .ref h1, .ref h4, .ref h5, .ref h6, .ref h7, .ref h8, .ref h9, .int 0, .int 0, .int 0, .ref h10, .ref h11, .ref h12, .ref h13, .int 0, .int 0, .ref h14, .ref h15, .ref h16, .ref h17, .int 0, .int 0, .ref h18, .ref h19, .ref h20, .ref h21])), (h1, .inl (k 1, 9, .inr (.inl (tL [1, (-2), 0, 0, 1, 0, 0, 0, 0] 0)))), (h2, .inl (k 0, 36, .inl (tI [(-1), 0, 0, 0, 1, 0, 0, 0, 0, 1, 0, 0, 0, (-1), 0, 0, 0, 0] 0)))] sz)) (va_A [(h0, .inr (8, [.int 2, .int 2, .int (-1084965762), .int 0, .int 0, .int 0, .ref h2, .ref h3, .int 0, .int 0, .ref h1, .ref h4, .ref h5, .ref h6, .ref h7, .ref h8, .ref h9, .int 0, .int 0, .int 0, .ref h10, .ref h11, .ref h12, .ref h13, .int 0, .int 0, .ref h14, .ref h15, .ref h16, .ref h17, .int 0, .int 0, .ref h18, .ref h19, .ref h20, .ref h21])), (h1, .inl (k 1, 9, .inr (.inl (tL [1, (-2), 0, 0, 1, 0, 0, 0, 0] 0)))), (h2, .inl (k 0, 36, .inl (tI [(-1), 0, 0, 0, 1, 0, 0, 0, 0, 1, 0, 0, 0, (-1), 0, 0, 0, 0] 0)))] sz)) 0 0 (va_A [(h0, .inr (8, [.int 2, .int 2, .int (-1084965762), .int 0, .int 0, .int 0, .ref h2, .ref h3, .int 0, .int 0, .ref h1, .ref h4, .ref h5, .ref h6, .ref h7, .ref h8, .ref h9, .int 0, .int 0, .int 0, .ref h10, .ref h11, .ref h12, .ref h13, .int 0, .int 0, .ref h14, .ref h15, .ref h16, .ref h17, .int 0, .int 0, .ref h18, .ref h19, .ref h20, .ref h21])), (h1, .inl (k 1, 9, .inr (.inl (tL [1, (-2), 0, 0, 1, 0, 0, 0, 0] 0)))), (h2, .inl (k 0, 36, .inl (tI [(-1), 0, 0, 0, 1, 0, 0, 0, 0, 1, 0, 0, 0, (-1), 0, 0, 0, 0] 0)))] sz) := by
  refine begin_ (Qc := fun A => qI (BX11_comes_8 D k h0 h1 h2 h3 h4 h5 h6 h7 h8 h9 h10 h11 h12 h13 h14 h15 h16 h17 h18 h19 h20 h21 A) A) (by decide) (Nat.le_of_ble_eq_true rfl) ?_
  intro p e s m below meth c ls A hx hb hr hml hown hlocks hin hU hK hsz hP hD hS hA hl
  have hl : lv_has ls 2 [(0, .ref h0)] := hl
  clear hsz
  refine lv_iconst (v := 0) hx hb dX11_comes_0 (by decide) ?_
  refine lv_istore_n (lv' := [(1, .int 0), (0, .ref h0)]) hx hb dX11_comes_1 rfl hl (by decide) rfl (fun ls hl => ?_)
  refine lv_iload_n hx hb dX11_comes_2 rfl (lv_at hl 0 rfl) ?_
  refine lv_bipush (v := 9) hx hb dX11_comes_3 (by decide) ?_
  refine lv_icmp_ge (tgt := 35) hx hb dX11_comes_5 (by decide) (fun cc => absurd cc (by decide +kernel)) (fun _ => ?_)
  refine lv_aload_n hx hb dX11_comes_8 rfl (lv_at hl 1 rfl) ?_
  refine va_get (D := D) (ci := 8) (v := .ref h2) (C := RX11) (T := TX11) (N := 36) hx hb hU iX11 hown hK.1 hP 0 rfl rfl 6 (by decide) (hU _ w791) (fun _ h9 => h9) rfl dX11_comes_9 ?_
  refine lv_bipush (v := 9) hx hb dX11_comes_12 (by decide) ?_
  refine lv_aload_n hx hb dX11_comes_14 rfl (lv_at hl 1 rfl) ?_
  refine va_get (D := D) (ci := 8) (v := .int 2) (C := RX11) (T := TX11) (N := 36) hx hb hU iX11 hown hK.1 hP 0 rfl rfl 1 (by decide) (hU _ w786) (fun _ h9 => h9) rfl dX11_comes_15 ?_
  refine lv_imul hx hb dX11_comes_18 (sv_i (v := 18) (by decide +kernel) ?_)
  refine lv_iload_n hx hb dX11_comes_19 rfl (lv_at hl 0 rfl) ?_
  refine lv_iadd hx hb dX11_comes_20 (sv_i (v := 18) (by decide +kernel) ?_)
  refine lv_aload_n hx hb dX11_comes_21 rfl (lv_at hl 1 rfl) ?_
  refine va_get (D := D) (ci := 8) (v := .ref h1) (C := RX11) (T := TX11) (N := 36) hx hb hU iX11 hown hK.1 hP 0 rfl rfl 10 (by decide) (hU _ w795) (fun _ h9 => h9) rfl dX11_comes_22 ?_
  refine lv_iload_n hx hb dX11_comes_25 rfl (lv_at hl 0 rfl) ?_
  refine ld_l (j := 0) (v := 1) hx hb hK hP 1 rfl (by decide +kernel) rfl dX11_comes_26 ?_
  refine lv_l2i (v := 1) hx hb dX11_comes_27 (by decide +kernel) ?_
  refine st_i (j := 18) (g := tI [(-1), 0, 0, 0, 1, 0, 0, 0, 0, 1, 0, 0, 0, (-1), 0, 0, 0, 0, 1] 0) hx hb hK hP hD hS 2 rfl (by decide +kernel) upd_tI dX11_comes_28 (fun H locs hP hD hS => ?_)
  have hP : va_P D cl0 [(h0, .inr (8, [.int 2, .int 2, .int (-1084965762), .int 0, .int 0, .int 0, .ref h2, .ref h3, .int 0, .int 0, .ref h1, .ref h4, .ref h5, .ref h6, .ref h7, .ref h8, .ref h9, .int 0, .int 0, .int 0, .ref h10, .ref h11, .ref h12, .ref h13, .int 0, .int 0, .ref h14, .ref h15, .ref h16, .ref h17, .int 0, .int 0, .ref h18, .ref h19, .ref h20, .ref h21])), (h1, .inl (k 1, 9, .inr (.inl (tL [1, (-2), 0, 0, 1, 0, 0, 0, 0] 0)))), (h2, .inl (k 0, 36, .inl (tI [(-1), 0, 0, 0, 1, 0, 0, 0, 0, 1, 0, 0, 0, (-1), 0, 0, 0, 0, 1] 0)))] H := hP
  have hD : va_D A [(h0, .inr (8, [.int 2, .int 2, .int (-1084965762), .int 0, .int 0, .int 0, .ref h2, .ref h3, .int 0, .int 0, .ref h1, .ref h4, .ref h5, .ref h6, .ref h7, .ref h8, .ref h9, .int 0, .int 0, .int 0, .ref h10, .ref h11, .ref h12, .ref h13, .int 0, .int 0, .ref h14, .ref h15, .ref h16, .ref h17, .int 0, .int 0, .ref h18, .ref h19, .ref h20, .ref h21])), (h1, .inl (k 1, 9, .inr (.inl (tL [1, (-2), 0, 0, 1, 0, 0, 0, 0] 0)))), (h2, .inl (k 0, 36, .inl (tI [(-1), 0, 0, 0, 1, 0, 0, 0, 0, 1, 0, 0, 0, (-1), 0, 0, 0, 0, 1] 0)))] := hD
  refine lv_iinc (v := 1) (lv' := [(1, .int 1), (0, .ref h0)]) hx hb dX11_comes_29 hl (k := 0) rfl (by decide) (by decide) rfl (fun ls hl => ?_)
  refine lv_goto (tgt := 2) hx hb dX11_comes_32 (by decide) ?_
  refine lv_iload_n hx hb dX11_comes_2 rfl (lv_at hl 0 rfl) ?_
  refine lv_bipush (v := 9) hx hb dX11_comes_3 (by decide) ?_
  refine lv_icmp_ge (tgt := 35) hx hb dX11_comes_5 (by decide) (fun cc => absurd cc (by decide +kernel)) (fun _ => ?_)
  refine lv_aload_n hx hb dX11_comes_8 rfl (lv_at hl 1 rfl) ?_
  refine va_get (D := D) (ci := 8) (v := .ref h2) (C := RX11) (T := TX11) (N := 36) hx hb hU iX11 hown hK.1 hP 0 rfl rfl 6 (by decide) (hU _ w791) (fun _ h9 => h9) rfl dX11_comes_9 ?_
  refine lv_bipush (v := 9) hx hb dX11_comes_12 (by decide) ?_
  refine lv_aload_n hx hb dX11_comes_14 rfl (lv_at hl 1 rfl) ?_
  refine va_get (D := D) (ci := 8) (v := .int 2) (C := RX11) (T := TX11) (N := 36) hx hb hU iX11 hown hK.1 hP 0 rfl rfl 1 (by decide) (hU _ w786) (fun _ h9 => h9) rfl dX11_comes_15 ?_
  refine lv_imul hx hb dX11_comes_18 (sv_i (v := 18) (by decide +kernel) ?_)
  refine lv_iload_n hx hb dX11_comes_19 rfl (lv_at hl 0 rfl) ?_
  refine lv_iadd hx hb dX11_comes_20 (sv_i (v := 19) (by decide +kernel) ?_)
  refine lv_aload_n hx hb dX11_comes_21 rfl (lv_at hl 1 rfl) ?_
  refine va_get (D := D) (ci := 8) (v := .ref h1) (C := RX11) (T := TX11) (N := 36) hx hb hU iX11 hown hK.1 hP 0 rfl rfl 10 (by decide) (hU _ w795) (fun _ h9 => h9) rfl dX11_comes_22 ?_
  refine lv_iload_n hx hb dX11_comes_25 rfl (lv_at hl 0 rfl) ?_
  refine ld_l (j := 1) (v := (-2)) hx hb hK hP 1 rfl (by decide +kernel) rfl dX11_comes_26 ?_
  refine lv_l2i (v := (-2)) hx hb dX11_comes_27 (by decide +kernel) ?_
  refine st_i (j := 19) (g := tI [(-1), 0, 0, 0, 1, 0, 0, 0, 0, 1, 0, 0, 0, (-1), 0, 0, 0, 0, 1, (-2)] 0) hx hb hK hP hD hS 2 rfl (by decide +kernel) upd_tI dX11_comes_28 (fun H locs hP hD hS => ?_)
  have hP : va_P D cl0 [(h0, .inr (8, [.int 2, .int 2, .int (-1084965762), .int 0, .int 0, .int 0, .ref h2, .ref h3, .int 0, .int 0, .ref h1, .ref h4, .ref h5, .ref h6, .ref h7, .ref h8, .ref h9, .int 0, .int 0, .int 0, .ref h10, .ref h11, .ref h12, .ref h13, .int 0, .int 0, .ref h14, .ref h15, .ref h16, .ref h17, .int 0, .int 0, .ref h18, .ref h19, .ref h20, .ref h21])), (h1, .inl (k 1, 9, .inr (.inl (tL [1, (-2), 0, 0, 1, 0, 0, 0, 0] 0)))), (h2, .inl (k 0, 36, .inl (tI [(-1), 0, 0, 0, 1, 0, 0, 0, 0, 1, 0, 0, 0, (-1), 0, 0, 0, 0, 1, (-2)] 0)))] H := hP
  have hD : va_D A [(h0, .inr (8, [.int 2, .int 2, .int (-1084965762), .int 0, .int 0, .int 0, .ref h2, .ref h3, .int 0, .int 0, .ref h1, .ref h4, .ref h5, .ref h6, .ref h7, .ref h8, .ref h9, .int 0, .int 0, .int 0, .ref h10, .ref h11, .ref h12, .ref h13, .int 0, .int 0, .ref h14, .ref h15, .ref h16, .ref h17, .int 0, .int 0, .ref h18, .ref h19, .ref h20, .ref h21])), (h1, .inl (k 1, 9, .inr (.inl (tL [1, (-2), 0, 0, 1, 0, 0, 0, 0] 0)))), (h2, .inl (k 0, 36, .inl (tI [(-1), 0, 0, 0, 1, 0, 0, 0, 0, 1, 0, 0, 0, (-1), 0, 0, 0, 0, 1, (-2)] 0)))] := hD
  refine lv_iinc (v := 2) (lv' := [(1, .int 2), (0, .ref h0)]) hx hb dX11_comes_29 hl (k := 0) rfl (by decide) (by decide) rfl (fun ls hl => ?_)
  refine lv_goto (tgt := 2) hx hb dX11_comes_32 (by decide) ?_
  refine lv_iload_n hx hb dX11_comes_2 rfl (lv_at hl 0 rfl) ?_
  refine lv_bipush (v := 9) hx hb dX11_comes_3 (by decide) ?_
  refine lv_icmp_ge (tgt := 35) hx hb dX11_comes_5 (by decide) (fun cc => absurd cc (by decide +kernel)) (fun _ => ?_)
  refine lv_aload_n hx hb dX11_comes_8 rfl (lv_at hl 1 rfl) ?_
  refine va_get (D := D) (ci := 8) (v := .ref h2) (C := RX11) (T := TX11) (N := 36) hx hb hU iX11 hown hK.1 hP 0 rfl rfl 6 (by decide) (hU _ w791) (fun _ h9 => h9) rfl dX11_comes_9 ?_
  refine lv_bipush (v := 9) hx hb dX11_comes_12 (by decide) ?_
  refine lv_aload_n hx hb dX11_comes_14 rfl (lv_at hl 1 rfl) ?_
  refine va_get (D := D) (ci := 8) (v := .int 2) (C := RX11) (T := TX11) (N := 36) hx hb hU iX11 hown hK.1 hP 0 rfl rfl 1 (by decide) (hU _ w786) (fun _ h9 => h9) rfl dX11_comes_15 ?_
  refine lv_imul hx hb dX11_comes_18 (sv_i (v := 18) (by decide +kernel) ?_)
  refine lv_iload_n hx hb dX11_comes_19 rfl (lv_at hl 0 rfl) ?_
  refine lv_iadd hx hb dX11_comes_20 (sv_i (v := 20) (by decide +kernel) ?_)
  refine lv_aload_n hx hb dX11_comes_21 rfl (lv_at hl 1 rfl) ?_
  refine va_get (D := D) (ci := 8) (v := .ref h1) (C := RX11) (T := TX11) (N := 36) hx hb hU iX11 hown hK.1 hP 0 rfl rfl 10 (by decide) (hU _ w795) (fun _ h9 => h9) rfl dX11_comes_22 ?_
  refine lv_iload_n hx hb dX11_comes_25 rfl (lv_at hl 0 rfl) ?_
  refine ld_l (j := 2) (v := 0) hx hb hK hP 1 rfl (by decide +kernel) rfl dX11_comes_26 ?_
  refine lv_l2i (v := 0) hx hb dX11_comes_27 (by decide +kernel) ?_
  refine st_i (j := 20) (g := tI [(-1), 0, 0, 0, 1, 0, 0, 0, 0, 1, 0, 0, 0, (-1), 0, 0, 0, 0, 1, (-2), 0] 0) hx hb hK hP hD hS 2 rfl (by decide +kernel) upd_tI dX11_comes_28 (fun H locs hP hD hS => ?_)
  have hP : va_P D cl0 [(h0, .inr (8, [.int 2, .int 2, .int (-1084965762), .int 0, .int 0, .int 0, .ref h2, .ref h3, .int 0, .int 0, .ref h1, .ref h4, .ref h5, .ref h6, .ref h7, .ref h8, .ref h9, .int 0, .int 0, .int 0, .ref h10, .ref h11, .ref h12, .ref h13, .int 0, .int 0, .ref h14, .ref h15, .ref h16, .ref h17, .int 0, .int 0, .ref h18, .ref h19, .ref h20, .ref h21])), (h1, .inl (k 1, 9, .inr (.inl (tL [1, (-2), 0, 0, 1, 0, 0, 0, 0] 0)))), (h2, .inl (k 0, 36, .inl (tI [(-1), 0, 0, 0, 1, 0, 0, 0, 0, 1, 0, 0, 0, (-1), 0, 0, 0, 0, 1, (-2), 0] 0)))] H := hP
  have hD : va_D A [(h0, .inr (8, [.int 2, .int 2, .int (-1084965762), .int 0, .int 0, .int 0, .ref h2, .ref h3, .int 0, .int 0, .ref h1, .ref h4, .ref h5, .ref h6, .ref h7, .ref h8, .ref h9, .int 0, .int 0, .int 0, .ref h10, .ref h11, .ref h12, .ref h13, .int 0, .int 0, .ref h14, .ref h15, .ref h16, .ref h17, .int 0, .int 0, .ref h18, .ref h19, .ref h20, .ref h21])), (h1, .inl (k 1, 9, .inr (.inl (tL [1, (-2), 0, 0, 1, 0, 0, 0, 0] 0)))), (h2, .inl (k 0, 36, .inl (tI [(-1), 0, 0, 0, 1, 0, 0, 0, 0, 1, 0, 0, 0, (-1), 0, 0, 0, 0, 1, (-2), 0] 0)))] := hD
  refine lv_iinc (v := 3) (lv' := [(1, .int 3), (0, .ref h0)]) hx hb dX11_comes_29 hl (k := 0) rfl (by decide) (by decide) rfl (fun ls hl => ?_)
  refine lv_goto (tgt := 2) hx hb dX11_comes_32 (by decide) ?_
  refine lv_iload_n hx hb dX11_comes_2 rfl (lv_at hl 0 rfl) ?_
  refine lv_bipush (v := 9) hx hb dX11_comes_3 (by decide) ?_
  refine lv_icmp_ge (tgt := 35) hx hb dX11_comes_5 (by decide) (fun cc => absurd cc (by decide +kernel)) (fun _ => ?_)
  refine lv_aload_n hx hb dX11_comes_8 rfl (lv_at hl 1 rfl) ?_
  refine va_get (D := D) (ci := 8) (v := .ref h2) (C := RX11) (T := TX11) (N := 36) hx hb hU iX11 hown hK.1 hP 0 rfl rfl 6 (by decide) (hU _ w791) (fun _ h9 => h9) rfl dX11_comes_9 ?_
  refine lv_bipush (v := 9) hx hb dX11_comes_12 (by decide) ?_
  refine lv_aload_n hx hb dX11_comes_14 rfl (lv_at hl 1 rfl) ?_
  refine va_get (D := D) (ci := 8) (v := .int 2) (C := RX11) (T := TX11) (N := 36) hx hb hU iX11 hown hK.1 hP 0 rfl rfl 1 (by decide) (hU _ w786) (fun _ h9 => h9) rfl dX11_comes_15 ?_
  refine lv_imul hx hb dX11_comes_18 (sv_i (v := 18) (by decide +kernel) ?_)
  refine lv_iload_n hx hb dX11_comes_19 rfl (lv_at hl 0 rfl) ?_
  refine lv_iadd hx hb dX11_comes_20 (sv_i (v := 21) (by decide +kernel) ?_)
  refine lv_aload_n hx hb dX11_comes_21 rfl (lv_at hl 1 rfl) ?_
  refine va_get (D := D) (ci := 8) (v := .ref h1) (C := RX11) (T := TX11) (N := 36) hx hb hU iX11 hown hK.1 hP 0 rfl rfl 10 (by decide) (hU _ w795) (fun _ h9 => h9) rfl dX11_comes_22 ?_
  refine lv_iload_n hx hb dX11_comes_25 rfl (lv_at hl 0 rfl) ?_
  refine ld_l (j := 3) (v := 0) hx hb hK hP 1 rfl (by decide +kernel) rfl dX11_comes_26 ?_
  refine lv_l2i (v := 0) hx hb dX11_comes_27 (by decide +kernel) ?_
  refine st_i (j := 21) (g := tI [(-1), 0, 0, 0, 1, 0, 0, 0, 0, 1, 0, 0, 0, (-1), 0, 0, 0, 0, 1, (-2), 0, 0] 0) hx hb hK hP hD hS 2 rfl (by decide +kernel) upd_tI dX11_comes_28 (fun H locs hP hD hS => ?_)
  have hP : va_P D cl0 [(h0, .inr (8, [.int 2, .int 2, .int (-1084965762), .int 0, .int 0, .int 0, .ref h2, .ref h3, .int 0, .int 0, .ref h1, .ref h4, .ref h5, .ref h6, .ref h7, .ref h8, .ref h9, .int 0, .int 0, .int 0, .ref h10, .ref h11, .ref h12, .ref h13, .int 0, .int 0, .ref h14, .ref h15, .ref h16, .ref h17, .int 0, .int 0, .ref h18, .ref h19, .ref h20, .ref h21])), (h1, .inl (k 1, 9, .inr (.inl (tL [1, (-2), 0, 0, 1, 0, 0, 0, 0] 0)))), (h2, .inl (k 0, 36, .inl (tI [(-1), 0, 0, 0, 1, 0, 0, 0, 0, 1, 0, 0, 0, (-1), 0, 0, 0, 0, 1, (-2), 0, 0] 0)))] H := hP
  have hD : va_D A [(h0, .inr (8, [.int 2, .int 2, .int (-1084965762), .int 0, .int 0, .int 0, .ref h2, .ref h3, .int 0, .int 0, .ref h1, .ref h4, .ref h5, .ref h6, .ref h7, .ref h8, .ref h9, .int 0, .int 0, .int 0, .ref h10, .ref h11, .ref h12, .ref h13, .int 0, .int 0, .ref h14, .ref h15, .ref h16, .ref h17, .int 0, .int 0, .ref h18, .ref h19, .ref h20, .ref h21])), (h1, .inl (k 1, 9, .inr (.inl (tL [1, (-2), 0, 0, 1, 0, 0, 0, 0] 0)))), (h2, .inl (k 0, 36, .inl (tI [(-1), 0, 0, 0, 1, 0, 0, 0, 0, 1, 0, 0, 0, (-1), 0, 0, 0, 0, 1, (-2), 0, 0] 0)))] := hD
  refine lv_iinc (v := 4) (lv' := [(1, .int 4), (0, .ref h0)]) hx hb dX11_comes_29 hl (k := 0) rfl (by decide) (by decide) rfl (fun ls hl => ?_)
  refine lv_goto (tgt := 2) hx hb dX11_comes_32 (by decide) ?_
  refine lv_iload_n hx hb dX11_comes_2 rfl (lv_at hl 0 rfl) ?_
  refine lv_bipush (v := 9) hx hb dX11_comes_3 (by decide) ?_
  refine lv_icmp_ge (tgt := 35) hx hb dX11_comes_5 (by decide) (fun cc => absurd cc (by decide +kernel)) (fun _ => ?_)
  refine lv_aload_n hx hb dX11_comes_8 rfl (lv_at hl 1 rfl) ?_
  refine va_get (D := D) (ci := 8) (v := .ref h2) (C := RX11) (T := TX11) (N := 36) hx hb hU iX11 hown hK.1 hP 0 rfl rfl 6 (by decide) (hU _ w791) (fun _ h9 => h9) rfl dX11_comes_9 ?_
  refine lv_bipush (v := 9) hx hb dX11_comes_12 (by decide) ?_
  refine lv_aload_n hx hb dX11_comes_14 rfl (lv_at hl 1 rfl) ?_
  refine va_get (D := D) (ci := 8) (v := .int 2) (C := RX11) (T := TX11) (N := 36) hx hb hU iX11 hown hK.1 hP 0 rfl rfl 1 (by decide) (hU _ w786) (fun _ h9 => h9) rfl dX11_comes_15 ?_
  refine lv_imul hx hb dX11_comes_18 (sv_i (v := 18) (by decide +kernel) ?_)
  refine lv_iload_n hx hb dX11_comes_19 rfl (lv_at hl 0 rfl) ?_
  refine lv_iadd hx hb dX11_comes_20 (sv_i (v := 22) (by decide +kernel) ?_)
  refine lv_aload_n hx hb dX11_comes_21 rfl (lv_at hl 1 rfl) ?_
  refine va_get (D := D) (ci := 8) (v := .ref h1) (C := RX11) (T := TX11) (N := 36) hx hb hU iX11 hown hK.1 hP 0 rfl rfl 10 (by decide) (hU _ w795) (fun _ h9 => h9) rfl dX11_comes_22 ?_
  refine lv_iload_n hx hb dX11_comes_25 rfl (lv_at hl 0 rfl) ?_
  refine ld_l (j := 4) (v := 1) hx hb hK hP 1 rfl (by decide +kernel) rfl dX11_comes_26 ?_
  refine lv_l2i (v := 1) hx hb dX11_comes_27 (by decide +kernel) ?_
  refine st_i (j := 22) (g := tI [(-1), 0, 0, 0, 1, 0, 0, 0, 0, 1, 0, 0, 0, (-1), 0, 0, 0, 0, 1, (-2), 0, 0, 1] 0) hx hb hK hP hD hS 2 rfl (by decide +kernel) upd_tI dX11_comes_28 (fun H locs hP hD hS => ?_)
  have hP : va_P D cl0 [(h0, .inr (8, [.int 2, .int 2, .int (-1084965762), .int 0, .int 0, .int 0, .ref h2, .ref h3, .int 0, .int 0, .ref h1, .ref h4, .ref h5, .ref h6, .ref h7, .ref h8, .ref h9, .int 0, .int 0, .int 0, .ref h10, .ref h11, .ref h12, .ref h13, .int 0, .int 0, .ref h14, .ref h15, .ref h16, .ref h17, .int 0, .int 0, .ref h18, .ref h19, .ref h20, .ref h21])), (h1, .inl (k 1, 9, .inr (.inl (tL [1, (-2), 0, 0, 1, 0, 0, 0, 0] 0)))), (h2, .inl (k 0, 36, .inl (tI [(-1), 0, 0, 0, 1, 0, 0, 0, 0, 1, 0, 0, 0, (-1), 0, 0, 0, 0, 1, (-2), 0, 0, 1] 0)))] H := hP
  have hD : va_D A [(h0, .inr (8, [.int 2, .int 2, .int (-1084965762), .int 0, .int 0, .int 0, .ref h2, .ref h3, .int 0, .int 0, .ref h1, .ref h4, .ref h5, .ref h6, .ref h7, .ref h8, .ref h9, .int 0, .int 0, .int 0, .ref h10, .ref h11, .ref h12, .ref h13, .int 0, .int 0, .ref h14, .ref h15, .ref h16, .ref h17, .int 0, .int 0, .ref h18, .ref h19, .ref h20, .ref h21])), (h1, .inl (k 1, 9, .inr (.inl (tL [1, (-2), 0, 0, 1, 0, 0, 0, 0] 0)))), (h2, .inl (k 0, 36, .inl (tI [(-1), 0, 0, 0, 1, 0, 0, 0, 0, 1, 0, 0, 0, (-1), 0, 0, 0, 0, 1, (-2), 0, 0, 1] 0)))] := hD
  refine lv_iinc (v := 5) (lv' := [(1, .int 5), (0, .ref h0)]) hx hb dX11_comes_29 hl (k := 0) rfl (by decide) (by decide) rfl (fun ls hl => ?_)
  refine lv_goto (tgt := 2) hx hb dX11_comes_32 (by decide) ?_
  refine lv_iload_n hx hb dX11_comes_2 rfl (lv_at hl 0 rfl) ?_
  refine lv_bipush (v := 9) hx hb dX11_comes_3 (by decide) ?_
  refine lv_icmp_ge (tgt := 35) hx hb dX11_comes_5 (by decide) (fun cc => absurd cc (by decide +kernel)) (fun _ => ?_)
  refine lv_aload_n hx hb dX11_comes_8 rfl (lv_at hl 1 rfl) ?_
  refine va_get (D := D) (ci := 8) (v := .ref h2) (C := RX11) (T := TX11) (N := 36) hx hb hU iX11 hown hK.1 hP 0 rfl rfl 6 (by decide) (hU _ w791) (fun _ h9 => h9) rfl dX11_comes_9 ?_
  refine lv_bipush (v := 9) hx hb dX11_comes_12 (by decide) ?_
  refine lv_aload_n hx hb dX11_comes_14 rfl (lv_at hl 1 rfl) ?_
  refine va_get (D := D) (ci := 8) (v := .int 2) (C := RX11) (T := TX11) (N := 36) hx hb hU iX11 hown hK.1 hP 0 rfl rfl 1 (by decide) (hU _ w786) (fun _ h9 => h9) rfl dX11_comes_15 ?_
  refine lv_imul hx hb dX11_comes_18 (sv_i (v := 18) (by decide +kernel) ?_)
  refine lv_iload_n hx hb dX11_comes_19 rfl (lv_at hl 0 rfl) ?_
  refine lv_iadd hx hb dX11_comes_20 (sv_i (v := 23) (by decide +kernel) ?_)
  refine lv_aload_n hx hb dX11_comes_21 rfl (lv_at hl 1 rfl) ?_
  refine va_get (D := D) (ci := 8) (v := .ref h1) (C := RX11) (T := TX11) (N := 36) hx hb hU iX11 hown hK.1 hP 0 rfl rfl 10 (by decide) (hU _ w795) (fun _ h9 => h9) rfl dX11_comes_22 ?_
  refine lv_iload_n hx hb dX11_comes_25 rfl (lv_at hl 0 rfl) ?_
  refine ld_l (j := 5) (v := 0) hx hb hK hP 1 rfl (by decide +kernel) rfl dX11_comes_26 ?_
  refine lv_l2i (v := 0) hx hb dX11_comes_27 (by decide +kernel) ?_
  refine st_i (j := 23) (g := tI [(-1), 0, 0, 0, 1, 0, 0, 0, 0, 1, 0, 0, 0, (-1), 0, 0, 0, 0, 1, (-2), 0, 0, 1, 0] 0) hx hb hK hP hD hS 2 rfl (by decide +kernel) upd_tI dX11_comes_28 (fun H locs hP hD hS => ?_)
  have hP : va_P D cl0 [(h0, .inr (8, [.int 2, .int 2, .int (-1084965762), .int 0, .int 0, .int 0, .ref h2, .ref h3, .int 0, .int 0, .ref h1, .ref h4, .ref h5, .ref h6, .ref h7, .ref h8, .ref h9, .int 0, .int 0, .int 0, .ref h10, .ref h11, .ref h12, .ref h13, .int 0, .int 0, .ref h14, .ref h15, .ref h16, .ref h17, .int 0, .int 0, .ref h18, .ref h19, .ref h20, .ref h21])), (h1, .inl (k 1, 9, .inr (.inl (tL [1, (-2), 0, 0, 1, 0, 0, 0, 0] 0)))), (h2, .inl (k 0, 36, .inl (tI [(-1), 0, 0, 0, 1, 0, 0, 0, 0, 1, 0, 0, 0, (-1), 0, 0, 0, 0, 1, (-2), 0, 0, 1, 0] 0)))] H := hP
  have hD : va_D A [(h0, .inr (8, [.int 2, .int 2, .int (-1084965762), .int 0, .int 0, .int 0, .ref h2, .ref h3, .int 0, .int 0, .ref h1, .ref h4, .ref h5, .ref h6, .ref h7, .ref h8, .ref h9, .int 0, .int 0, .int 0, .ref h10, .ref h11, .ref h12, .ref h13, .int 0, .int 0, .ref h14, .ref h15, .ref h16, .ref h17, .int 0, .int 0, .ref h18, .ref h19, .ref h20, .ref h21])), (h1, .inl (k 1, 9, .inr (.inl (tL [1, (-2), 0, 0, 1, 0, 0, 0, 0] 0)))), (h2, .inl (k 0, 36, .inl (tI [(-1), 0, 0, 0, 1, 0, 0, 0, 0, 1, 0, 0, 0, (-1), 0, 0, 0, 0, 1, (-2), 0, 0, 1, 0] 0)))] := hD
  refine lv_iinc (v := 6) (lv' := [(1, .int 6), (0, .ref h0)]) hx hb dX11_comes_29 hl (k := 0) rfl (by decide) (by decide) rfl (fun ls hl => ?_)
  refine lv_goto (tgt := 2) hx hb dX11_comes_32 (by decide) ?_
  refine lv_iload_n hx hb dX11_comes_2 rfl (lv_at hl 0 rfl) ?_
  refine lv_bipush (v := 9) hx hb dX11_comes_3 (by decide) ?_
  refine lv_icmp_ge (tgt := 35) hx hb dX11_comes_5 (by decide) (fun cc => absurd cc (by decide +kernel)) (fun _ => ?_)
  refine lv_aload_n hx hb dX11_comes_8 rfl (lv_at hl 1 rfl) ?_
  refine va_get (D := D) (ci := 8) (v := .ref h2) (C := RX11) (T := TX11) (N := 36) hx hb hU iX11 hown hK.1 hP 0 rfl rfl 6 (by decide) (hU _ w791) (fun _ h9 => h9) rfl dX11_comes_9 ?_
  refine lv_bipush (v := 9) hx hb dX11_comes_12 (by decide) ?_
  refine lv_aload_n hx hb dX11_comes_14 rfl (lv_at hl 1 rfl) ?_
  refine va_get (D := D) (ci := 8) (v := .int 2) (C := RX11) (T := TX11) (N := 36) hx hb hU iX11 hown hK.1 hP 0 rfl rfl 1 (by decide) (hU _ w786) (fun _ h9 => h9) rfl dX11_comes_15 ?_
  refine lv_imul hx hb dX11_comes_18 (sv_i (v := 18) (by decide +kernel) ?_)
  refine lv_iload_n hx hb dX11_comes_19 rfl (lv_at hl 0 rfl) ?_
  refine lv_iadd hx hb dX11_comes_20 (sv_i (v := 24) (by decide +kernel) ?_)
  refine lv_aload_n hx hb dX11_comes_21 rfl (lv_at hl 1 rfl) ?_
  refine va_get (D := D) (ci := 8) (v := .ref h1) (C := RX11) (T := TX11) (N := 36) hx hb hU iX11 hown hK.1 hP 0 rfl rfl 10 (by decide) (hU _ w795) (fun _ h9 => h9) rfl dX11_comes_22 ?_
  refine lv_iload_n hx hb dX11_comes_25 rfl (lv_at hl 0 rfl) ?_
  refine ld_l (j := 6) (v := 0) hx hb hK hP 1 rfl (by decide +kernel) rfl dX11_comes_26 ?_
  refine lv_l2i (v := 0) hx hb dX11_comes_27 (by decide +kernel) ?_
  refine st_i (j := 24) (g := tI [(-1), 0, 0, 0, 1, 0, 0, 0, 0, 1, 0, 0, 0, (-1), 0, 0, 0, 0, 1, (-2), 0, 0, 1, 0, 0] 0) hx hb hK hP hD hS 2 rfl (by decide +kernel) upd_tI dX11_comes_28 (fun H locs hP hD hS => ?_)
  have hP : va_P D cl0 [(h0, .inr (8, [.int 2, .int 2, .int (-1084965762), .int 0, .int 0, .int 0, .ref h2, .ref h3, .int 0, .int 0, .ref h1, .ref h4, .ref h5, .ref h6, .ref h7, .ref h8, .ref h9, .int 0, .int 0, .int 0, .ref h10, .ref h11, .ref h12, .ref h13, .int 0, .int 0, .ref h14, .ref h15, .ref h16, .ref h17, .int 0, .int 0, .ref h18, .ref h19, .ref h20, .ref h21])), (h1, .inl (k 1, 9, .inr (.inl (tL [1, (-2), 0, 0, 1, 0, 0, 0, 0] 0)))), (h2, .inl (k 0, 36, .inl (tI [(-1), 0, 0, 0, 1, 0, 0, 0, 0, 1, 0, 0, 0, (-1), 0, 0, 0, 0, 1, (-2), 0, 0, 1, 0, 0] 0)))] H := hP
  have hD : va_D A [(h0, .inr (8, [.int 2, .int 2, .int (-1084965762), .int 0, .int 0, .int 0, .ref h2, .ref h3, .int 0, .int 0, .ref h1, .ref h4, .ref h5, .ref h6, .ref h7, .ref h8, .ref h9, .int 0, .int 0, .int 0, .ref h10, .ref h11, .ref h12, .ref h13, .int 0, .int 0, .ref h14, .ref h15, .ref h16, .ref h17, .int 0, .int 0, .ref h18, .ref h19, .ref h20, .ref h21])), (h1, .inl (k 1, 9, .inr (.inl (tL [1, (-2), 0, 0, 1, 0, 0, 0, 0] 0)))), (h2, .inl (k 0, 36, .inl (tI [(-1), 0, 0, 0, 1, 0, 0, 0, 0, 1, 0, 0, 0, (-1), 0, 0, 0, 0, 1, (-2), 0, 0, 1, 0, 0] 0)))] := hD
  refine lv_iinc (v := 7) (lv' := [(1, .int 7), (0, .ref h0)]) hx hb dX11_comes_29 hl (k := 0) rfl (by decide) (by decide) rfl (fun ls hl => ?_)
  refine lv_goto (tgt := 2) hx hb dX11_comes_32 (by decide) ?_
  refine lv_iload_n hx hb dX11_comes_2 rfl (lv_at hl 0 rfl) ?_
  refine lv_bipush (v := 9) hx hb dX11_comes_3 (by decide) ?_
  refine lv_icmp_ge (tgt := 35) hx hb dX11_comes_5 (by decide) (fun cc => absurd cc (by decide +kernel)) (fun _ => ?_)
  refine lv_aload_n hx hb dX11_comes_8 rfl (lv_at hl 1 rfl) ?_
  refine va_get (D := D) (ci := 8) (v := .ref h2) (C := RX11) (T := TX11) (N := 36) hx hb hU iX11 hown hK.1 hP 0 rfl rfl 6 (by decide) (hU _ w791) (fun _ h9 => h9) rfl dX11_comes_9 ?_
  refine lv_bipush (v := 9) hx hb dX11_comes_12 (by decide) ?_
  refine lv_aload_n hx hb dX11_comes_14 rfl (lv_at hl 1 rfl) ?_
  refine va_get (D := D) (ci := 8) (v := .int 2) (C := RX11) (T := TX11) (N := 36) hx hb hU iX11 hown hK.1 hP 0 rfl rfl 1 (by decide) (hU _ w786) (fun _ h9 => h9) rfl dX11_comes_15 ?_
  refine lv_imul hx hb dX11_comes_18 (sv_i (v := 18) (by decide +kernel) ?_)
  refine lv_iload_n hx hb dX11_comes_19 rfl (lv_at hl 0 rfl) ?_
  refine lv_iadd hx hb dX11_comes_20 (sv_i (v := 25) (by decide +kernel) ?_)
  refine lv_aload_n hx hb dX11_comes_21 rfl (lv_at hl 1 rfl) ?_
  refine va_get (D := D) (ci := 8) (v := .ref h1) (C := RX11) (T := TX11) (N := 36) hx hb hU iX11 hown hK.1 hP 0 rfl rfl 10 (by decide) (hU _ w795) (fun _ h9 => h9) rfl dX11_comes_22 ?_
  refine lv_iload_n hx hb dX11_comes_25 rfl (lv_at hl 0 rfl) ?_
  refine ld_l (j := 7) (v := 0) hx hb hK hP 1 rfl (by decide +kernel) rfl dX11_comes_26 ?_
  refine lv_l2i (v := 0) hx hb dX11_comes_27 (by decide +kernel) ?_
  refine st_i (j := 25) (g := tI [(-1), 0, 0, 0, 1, 0, 0, 0, 0, 1, 0, 0, 0, (-1), 0, 0, 0, 0, 1, (-2), 0, 0, 1, 0, 0, 0] 0) hx hb hK hP hD hS 2 rfl (by decide +kernel) upd_tI dX11_comes_28 (fun H locs hP hD hS => ?_)
  have hP : va_P D cl0 [(h0, .inr (8, [.int 2, .int 2, .int (-1084965762), .int 0, .int 0, .int 0, .ref h2, .ref h3, .int 0, .int 0, .ref h1, .ref h4, .ref h5, .ref h6, .ref h7, .ref h8, .ref h9, .int 0, .int 0, .int 0, .ref h10, .ref h11, .ref h12, .ref h13, .int 0, .int 0, .ref h14, .ref h15, .ref h16, .ref h17, .int 0, .int 0, .ref h18, .ref h19, .ref h20, .ref h21])), (h1, .inl (k 1, 9, .inr (.inl (tL [1, (-2), 0, 0, 1, 0, 0, 0, 0] 0)))), (h2, .inl (k 0, 36, .inl (tI [(-1), 0, 0, 0, 1, 0, 0, 0, 0, 1, 0, 0, 0, (-1), 0, 0, 0, 0, 1, (-2), 0, 0, 1, 0, 0, 0] 0)))] H := hP
  have hD : va_D A [(h0, .inr (8, [.int 2, .int 2, .int (-1084965762), .int 0, .int 0, .int 0, .ref h2, .ref h3, .int 0, .int 0, .ref h1, .ref h4, .ref h5, .ref h6, .ref h7, .ref h8, .ref h9, .int 0, .int 0, .int 0, .ref h10, .ref h11, .ref h12, .ref h13, .int 0, .int 0, .ref h14, .ref h15, .ref h16, .ref h17, .int 0, .int 0, .ref h18, .ref h19, .ref h20, .ref h21])), (h1, .inl (k 1, 9, .inr (.inl (tL [1, (-2), 0, 0, 1, 0, 0, 0, 0] 0)))), (h2, .inl (k 0, 36, .inl (tI [(-1), 0, 0, 0, 1, 0, 0, 0, 0, 1, 0, 0, 0, (-1), 0, 0, 0, 0, 1, (-2), 0, 0, 1, 0, 0, 0] 0)))] := hD
  refine lv_iinc (v := 8) (lv' := [(1, .int 8), (0, .ref h0)]) hx hb dX11_comes_29 hl (k := 0) rfl (by decide) (by decide) rfl (fun ls hl => ?_)
  refine lv_goto (tgt := 2) hx hb dX11_comes_32 (by decide) ?_
  refine lv_iload_n hx hb dX11_comes_2 rfl (lv_at hl 0 rfl) ?_
  refine lv_bipush (v := 9) hx hb dX11_comes_3 (by decide) ?_
  refine lv_icmp_ge (tgt := 35) hx hb dX11_comes_5 (by decide) (fun cc => absurd cc (by decide +kernel)) (fun _ => ?_)
  refine lv_aload_n hx hb dX11_comes_8 rfl (lv_at hl 1 rfl) ?_
  refine va_get (D := D) (ci := 8) (v := .ref h2) (C := RX11) (T := TX11) (N := 36) hx hb hU iX11 hown hK.1 hP 0 rfl rfl 6 (by decide) (hU _ w791) (fun _ h9 => h9) rfl dX11_comes_9 ?_
  refine lv_bipush (v := 9) hx hb dX11_comes_12 (by decide) ?_
  refine lv_aload_n hx hb dX11_comes_14 rfl (lv_at hl 1 rfl) ?_
  refine va_get (D := D) (ci := 8) (v := .int 2) (C := RX11) (T := TX11) (N := 36) hx hb hU iX11 hown hK.1 hP 0 rfl rfl 1 (by decide) (hU _ w786) (fun _ h9 => h9) rfl dX11_comes_15 ?_
  refine lv_imul hx hb dX11_comes_18 (sv_i (v := 18) (by decide +kernel) ?_)
  refine lv_iload_n hx hb dX11_comes_19 rfl (lv_at hl 0 rfl) ?_
  refine lv_iadd hx hb dX11_comes_20 (sv_i (v := 26) (by decide +kernel) ?_)
  refine lv_aload_n hx hb dX11_comes_21 rfl (lv_at hl 1 rfl) ?_
  refine va_get (D := D) (ci := 8) (v := .ref h1) (C := RX11) (T := TX11) (N := 36) hx hb hU iX11 hown hK.1 hP 0 rfl rfl 10 (by decide) (hU _ w795) (fun _ h9 => h9) rfl dX11_comes_22 ?_
  refine lv_iload_n hx hb dX11_comes_25 rfl (lv_at hl 0 rfl) ?_
  refine ld_l (j := 8) (v := 0) hx hb hK hP 1 rfl (by decide +kernel) rfl dX11_comes_26 ?_
  refine lv_l2i (v := 0) hx hb dX11_comes_27 (by decide +kernel) ?_
  refine st_i (j := 26) (g := tI [(-1), 0, 0, 0, 1, 0, 0, 0, 0, 1, 0, 0, 0, (-1), 0, 0, 0, 0, 1, (-2), 0, 0, 1, 0, 0, 0, 0] 0) hx hb hK hP hD hS 2 rfl (by decide +kernel) upd_tI dX11_comes_28 (fun H locs hP hD hS => ?_)
  have hP : va_P D cl0 [(h0, .inr (8, [.int 2, .int 2, .int (-1084965762), .int 0, .int 0, .int 0, .ref h2, .ref h3, .int 0, .int 0, .ref h1, .ref h4, .ref h5, .ref h6, .ref h7, .ref h8, .ref h9, .int 0, .int 0, .int 0, .ref h10, .ref h11, .ref h12, .ref h13, .int 0, .int 0, .ref h14, .ref h15, .ref h16, .ref h17, .int 0, .int 0, .ref h18, .ref h19, .ref h20, .ref h21])), (h1, .inl (k 1, 9, .inr (.inl (tL [1, (-2), 0, 0, 1, 0, 0, 0, 0] 0)))), (h2, .inl (k 0, 36, .inl (tI [(-1), 0, 0, 0, 1, 0, 0, 0, 0, 1, 0, 0, 0, (-1), 0, 0, 0, 0, 1, (-2), 0, 0, 1, 0, 0, 0, 0] 0)))] H := hP
  have hD : va_D A [(h0, .inr (8, [.int 2, .int 2, .int (-1084965762), .int 0, .int 0, .int 0, .ref h2, .ref h3, .int 0, .int 0, .ref h1, .ref h4, .ref h5, .ref h6, .ref h7, .ref h8, .ref h9, .int 0, .int 0, .int 0, .ref h10, .ref h11, .ref h12, .ref h13, .int 0, .int 0, .ref h14, .ref h15, .ref h16, .ref h17, .int 0, .int 0, .ref h18, .ref h19, .ref h20, .ref h21])), (h1, .inl (k 1, 9, .inr (.inl (tL [1, (-2), 0, 0, 1, 0, 0, 0, 0] 0)))), (h2, .inl (k 0, 36, .inl (tI [(-1), 0, 0, 0, 1, 0, 0, 0, 0, 1, 0, 0, 0, (-1), 0, 0, 0, 0, 1, (-2), 0, 0, 1, 0, 0, 0, 0] 0)))] := hD
  refine lv_iinc (v := 9) (lv' := [(1, .int 9), (0, .ref h0)]) hx hb dX11_comes_29 hl (k := 0) rfl (by decide) (by decide) rfl (fun ls hl => ?_)
  refine lv_goto (tgt := 2) hx hb dX11_comes_32 (by decide) ?_
  refine lv_iload_n hx hb dX11_comes_2 rfl (lv_at hl 0 rfl) ?_
  refine lv_bipush (v := 9) hx hb dX11_comes_3 (by decide) ?_
  refine lv_icmp_ge (tgt := 35) hx hb dX11_comes_5 (by decide) (fun _ => ?_) (fun cc => absurd (by decide +kernel) cc)
  refine lv_aload_n hx hb dX11_comes_35 rfl (lv_at hl 1 rfl) ?_
  refine lv_dup hx hb dX11_comes_36 rfl ?_
  refine va_get (D := D) (ci := 8) (v := .int 2) (C := RX11) (T := TX11) (N := 36) hx hb hU iX11 hown hK.1 hP 0 rfl rfl 1 (by decide) (hU _ w786) (fun _ h9 => h9) rfl dX11_comes_37 ?_
  refine lv_iconst (v := 1) hx hb dX11_comes_40 (by decide) ?_
  refine lv_iadd hx hb dX11_comes_41 (sv_i (v := 3) (by decide +kernel) ?_)
  refine va_put (D := D) (ci := 8) (v := .int 3) (ty := .int) (C := RX11) (T := TX11) (N := 36) hx hb hU iX11 tyX11 tyX11_ok nmX11 hown hK.1 hP hD hS 0 rfl rfl 1 (by decide) (hU _ w786) (fun _ h9 => h9) rfl (by decide +kernel) rfl rfl (Nat.le_of_ble_eq_true rfl) dX11_comes_42 (fun H locs hP hD hS => ?_)
  have hP : va_P D cl0 [(h0, .inr (8, [.int 2, .int 3, .int (-1084965762), .int 0, .int 0, .int 0, .ref h2, .ref h3, .int 0, .int 0, .ref h1, .ref h4, .ref h5, .ref h6, .ref h7, .ref h8, .ref h9, .int 0, .int 0, .int 0, .ref h10, .ref h11, .ref h12, .ref h13, .int 0, .int 0, .ref h14, .ref h15, .ref h16, .ref h17, .int 0, .int 0, .ref h18, .ref h19, .ref h20, .ref h21])), (h1, .inl (k 1, 9, .inr (.inl (tL [1, (-2), 0, 0, 1, 0, 0, 0, 0] 0)))), (h2, .inl (k 0, 36, .inl (tI [(-1), 0, 0, 0, 1, 0, 0, 0, 0, 1, 0, 0, 0, (-1), 0, 0, 0, 0, 1, (-2), 0, 0, 1, 0, 0, 0, 0] 0)))] H := hP
  have hD : va_D A [(h0, .inr (8, [.int 2, .int 3, .int (-1084965762), .int 0, .int 0, .int 0, .ref h2, .ref h3, .int 0, .int 0, .ref h1, .ref h4, .ref h5, .ref h6, .ref h7, .ref h8, .ref h9, .int 0, .int 0, .int 0, .ref h10, .ref h11, .ref h12, .ref h13, .int 0, .int 0, .ref h14, .ref h15, .ref h16, .ref h17, .int 0, .int 0, .ref h18, .ref h19, .ref h20, .ref h21])), (h1, .inl (k 1, 9, .inr (.inl (tL [1, (-2), 0, 0, 1, 0, 0, 0, 0] 0)))), (h2, .inl (k 0, 36, .inl (tI [(-1), 0, 0, 0, 1, 0, 0, 0, 0, 1, 0, 0, 0, (-1), 0, 0, 0, 0, 1, (-2), 0, 0, 1, 0, 0, 0, 0] 0)))] := hD
  refine lv_aload_n hx hb dX11_comes_45 rfl (lv_at hl 1 rfl) ?_
  refine lv_iconst (v := 0) hx hb dX11_comes_46 (by decide) ?_
  refine va_put (D := D) (ci := 8) (v := .int 0) (ty := .boolean) (C := RX11) (T := TX11) (N := 36) hx hb hU iX11 tyX11 tyX11_ok nmX11 hown hK.1 hP hD hS 0 rfl rfl 9 (by decide) (hU _ w794) (fun _ h9 => h9) rfl (by decide +kernel) rfl rfl (Nat.le_of_ble_eq_true rfl) dX11_comes_47 (fun H locs hP hD hS => ?_)
  have hP : va_P D cl0 [(h0, .inr (8, [.int 2, .int 3, .int (-1084965762), .int 0, .int 0, .int 0, .ref h2, .ref h3, .int 0, .int 0, .ref h1, .ref h4, .ref h5, .ref h6, .ref h7, .ref h8, .ref h9, .int 0, .int 0, .int 0, .ref h10, .ref h11, .ref h12, .ref h13, .int 0, .int 0, .ref h14, .ref h15, .ref h16, .ref h17, .int 0, .int 0, .ref h18, .ref h19, .ref h20, .ref h21])), (h1, .inl (k 1, 9, .inr (.inl (tL [1, (-2), 0, 0, 1, 0, 0, 0, 0] 0)))), (h2, .inl (k 0, 36, .inl (tI [(-1), 0, 0, 0, 1, 0, 0, 0, 0, 1, 0, 0, 0, (-1), 0, 0, 0, 0, 1, (-2), 0, 0, 1, 0, 0, 0, 0] 0)))] H := hP
  have hD : va_D A [(h0, .inr (8, [.int 2, .int 3, .int (-1084965762), .int 0, .int 0, .int 0, .ref h2, .ref h3, .int 0, .int 0, .ref h1, .ref h4, .ref h5, .ref h6, .ref h7, .ref h8, .ref h9, .int 0, .int 0, .int 0, .ref h10, .ref h11, .ref h12, .ref h13, .int 0, .int 0, .ref h14, .ref h15, .ref h16, .ref h17, .int 0, .int 0, .ref h18, .ref h19, .ref h20, .ref h21])), (h1, .inl (k 1, 9, .inr (.inl (tL [1, (-2), 0, 0, 1, 0, 0, 0, 0] 0)))), (h2, .inl (k 0, 36, .inl (tI [(-1), 0, 0, 0, 1, 0, 0, 0, 0, 1, 0, 0, 0, (-1), 0, 0, 0, 0, 1, (-2), 0, 0, 1, 0, 0, 0, 0] 0)))] := hD
  refine lv_aload_n hx hb dX11_comes_50 rfl (lv_at hl 1 rfl) ?_
  refine lv_iconst (v := 0) hx hb dX11_comes_51 (by decide) ?_
  refine va_put (D := D) (ci := 8) (v := .int 0) (ty := .int) (C := RX11) (T := TX11) (N := 36) hx hb hU iX11 tyX11 tyX11_ok nmX11 hown hK.1 hP hD hS 0 rfl rfl 30 (by decide) (hU _ w815) (fun _ h9 => h9) rfl (by decide +kernel) rfl rfl (Nat.le_of_ble_eq_true rfl) dX11_comes_52 (fun H locs hP hD hS => ?_)
  have hP : va_P D cl0 [(h0, .inr (8, [.int 2, .int 3, .int (-1084965762), .int 0, .int 0, .int 0, .ref h2, .ref h3, .int 0, .int 0, .ref h1, .ref h4, .ref h5, .ref h6, .ref h7, .ref h8, .ref h9, .int 0, .int 0, .int 0, .ref h10, .ref h11, .ref h12, .ref h13, .int 0, .int 0, .ref h14, .ref h15, .ref h16, .ref h17, .int 0, .int 0, .ref h18, .ref h19, .ref h20, .ref h21])), (h1, .inl (k 1, 9, .inr (.inl (tL [1, (-2), 0, 0, 1, 0, 0, 0, 0] 0)))), (h2, .inl (k 0, 36, .inl (tI [(-1), 0, 0, 0, 1, 0, 0, 0, 0, 1, 0, 0, 0, (-1), 0, 0, 0, 0, 1, (-2), 0, 0, 1, 0, 0, 0, 0] 0)))] H := hP
  have hD : va_D A [(h0, .inr (8, [.int 2, .int 3, .int (-1084965762), .int 0, .int 0, .int 0, .ref h2, .ref h3, .int 0, .int 0, .ref h1, .ref h4, .ref h5, .ref h6, .ref h7, .ref h8, .ref h9, .int 0, .int 0, .int 0, .ref h10, .ref h11, .ref h12, .ref h13, .int 0, .int 0, .ref h14, .ref h15, .ref h16, .ref h17, .int 0, .int 0, .ref h18, .ref h19, .ref h20, .ref h21])), (h1, .inl (k 1, 9, .inr (.inl (tL [1, (-2), 0, 0, 1, 0, 0, 0, 0] 0)))), (h2, .inl (k 0, 36, .inl (tI [(-1), 0, 0, 0, 1, 0, 0, 0, 0, 1, 0, 0, 0, (-1), 0, 0, 0, 0, 1, (-2), 0, 0, 1, 0, 0, 0, 0] 0)))] := hD
  refine lv_aload_n hx hb dX11_comes_55 rfl (lv_at hl 1 rfl) ?_
  refine va_get (D := D) (ci := 8) (v := .int 3) (C := RX11) (T := TX11) (N := 36) hx hb hU iX11 hown hK.1 hP 0 rfl rfl 1 (by decide) (hU _ w786) (fun _ h9 => h9) rfl dX11_comes_56 ?_
  refine lv_iconst (v := 1) hx hb dX11_comes_59 (by decide) ?_
  refine lv_isub hx hb dX11_comes_60 (sv_i (v := 2) (by decide +kernel) ?_)
  exact retI (v := 2) hx hb hr hlocks hS (⟨rfl, hP, hD⟩) dX11_comes_61
abbrev BX11_drawn_10 (D : va_G) (k : Nat → ClassId) (h0 h1 h2 h3 h4 h5 h6 h7 h8 h9 h10 h11 h12 h13 h14 h15 h16 h17 h18 h19 h20 h21 : Nat) (A : Nat → Prop) (r : Int32) (H : Heap) : Prop := 0 = r ∧ va_P D cl0 [(h0, .inr (8, [.int 2, .int 3, .int 267834847, .int 0, .int 0, .int 0, .ref h1, .ref h2, .int 0, .int 0, .ref h3, .ref h4, .ref h5, .ref h6, .ref h7, .ref h8, .ref h9, .int 0, .int 0, .int 0, .ref h10, .ref h11, .ref h12, .ref h13, .int 0, .int 0, .ref h14, .ref h15, .ref h16, .ref h17, .int 0, .int 0, .ref h18, .ref h19, .ref h20, .ref h21]))] H ∧ va_D A [(h0, .inr (8, [.int 2, .int 3, .int 267834847, .int 0, .int 0, .int 0, .ref h1, .ref h2, .int 0, .int 0, .ref h3, .ref h4, .ref h5, .ref h6, .ref h7, .ref h8, .ref h9, .int 0, .int 0, .int 0, .ref h10, .ref h11, .ref h12, .ref h13, .int 0, .int 0, .ref h14, .ref h15, .ref h16, .ref h17, .int 0, .int 0, .ref h18, .ref h19, .ref h20, .ref h21]))]
set_option maxHeartbeats 4000000 in
set_option maxRecDepth 100000 in
theorem cX11_drawn_10 (l : Launch) (D : va_G) (k : Nat → ClassId) (sz : Nat) (h0 h1 h2 h3 h4 h5 h6 h7 h8 h9 h10 h11 h12 h13 h14 h15 h16 h17 h18 h19 h20 h21 : Nat) : Met l yX11_drawn (Cond.code yX11_drawn cX11_drawn 2 (some .int) :: uw) ({ frames := 0, cells := 0, slots := 0, locals := 0 }) (pC D k sz [.ref h0, .int 2] [(h0, .inr (8, [.int 2, .int 3, .int (-1084965762), .int 0, .int 0, .int 0, .ref h1, .ref h2, .int 0, .int 0, .ref h3, .ref h4, .ref h5, .ref h6, .ref h7, .ref h8, .ref h9, .int 0, .int 0, .int 0, .ref h10, .ref h11, .ref h12, .ref h13, .int 0, .int 0, .ref h14, .ref h15, .ref h16, .ref h17, .int 0, .int 0, .ref h18, .ref h19, .ref h20, .ref h21]))]) (qI (BX11_drawn_10 D k h0 h1 h2 h3 h4 h5 h6 h7 h8 h9 h10 h11 h12 h13 h14 h15 h16 h17 h18 h19 h20 h21 (va_A [(h0, .inr (8, [.int 2, .int 3, .int (-1084965762), .int 0, .int 0, .int 0, .ref h1, .ref h2, .int 0, .int 0, .ref h3, .ref h4, .ref h5, .ref h6, .ref h7, .ref h8, .ref h9, .int 0, .int 0, .int 0, .ref h10, .ref h11, .ref h12, .ref h13, .int 0, .int 0, .ref h14, .ref h15, .ref h16, .ref h17, .int 0, .int 0, .ref h18, .ref h19, .ref h20, .ref h21]))] sz)) (va_A [(h0, .inr (8, [.int 2, .int 3, .int (-1084965762), .int 0, .int 0, .int 0, .ref h1, .ref h2, .int 0, .int 0, .ref h3, .ref h4, .ref h5, .ref h6, .ref h7, .ref h8, .ref h9, .int 0, .int 0, .int 0, .ref h10, .ref h11, .ref h12, .ref h13, .int 0, .int 0, .ref h14, .ref h15, .ref h16, .ref h17, .int 0, .int 0, .ref h18, .ref h19, .ref h20, .ref h21]))] sz)) 0 0 (va_A [(h0, .inr (8, [.int 2, .int 3, .int (-1084965762), .int 0, .int 0, .int 0, .ref h1, .ref h2, .int 0, .int 0, .ref h3, .ref h4, .ref h5, .ref h6, .ref h7, .ref h8, .ref h9, .int 0, .int 0, .int 0, .ref h10, .ref h11, .ref h12, .ref h13, .int 0, .int 0, .ref h14, .ref h15, .ref h16, .ref h17, .int 0, .int 0, .ref h18, .ref h19, .ref h20, .ref h21]))] sz) := by
  refine begin_ (Qc := fun A => qI (BX11_drawn_10 D k h0 h1 h2 h3 h4 h5 h6 h7 h8 h9 h10 h11 h12 h13 h14 h15 h16 h17 h18 h19 h20 h21 A) A) (by decide) (Nat.le_of_ble_eq_true rfl) ?_
  intro p e s m below meth c ls A hx hb hr hml hown hlocks hin hU hK hsz hP hD hS hA hl
  have hl : lv_has ls 2 [(0, .ref h0), (1, .int 2)] := hl
  clear hsz
  refine lv_aload_n hx hb dX11_drawn_0 rfl (lv_at hl 0 rfl) ?_
  refine lv_aload_n hx hb dX11_drawn_1 rfl (lv_at hl 0 rfl) ?_
  refine va_get (D := D) (ci := 8) (v := .int (-1084965762)) (C := RX11) (T := TX11) (N := 36) hx hb hU iX11 hown hK.1 hP 0 rfl rfl 2 (by decide) (hU _ w787) (fun _ h9 => h9) rfl dX11_drawn_2 ?_
  refine lv_ldcw hx hb hown (hU _ w1178) dX11_drawn_5 ?_
  refine lv_imul hx hb dX11_drawn_8 (sv_i (v := 267822502) (by decide +kernel) ?_)
  refine lv_sipush (v := 12345) hx hb dX11_drawn_9 (by decide) ?_
  refine lv_iadd hx hb dX11_drawn_12 (sv_i (v := 267834847) (by decide +kernel) ?_)
  refine va_put (D := D) (ci := 8) (v := .int 267834847) (ty := .int) (C := RX11) (T := TX11) (N := 36) hx hb hU iX11 tyX11 tyX11_ok nmX11 hown hK.1 hP hD hS 0 rfl rfl 2 (by decide) (hU _ w787) (fun _ h9 => h9) rfl (by decide +kernel) rfl rfl (Nat.le_of_ble_eq_true rfl) dX11_drawn_13 (fun H locs hP hD hS => ?_)
  have hP : va_P D cl0 [(h0, .inr (8, [.int 2, .int 3, .int 267834847, .int 0, .int 0, .int 0, .ref h1, .ref h2, .int 0, .int 0, .ref h3, .ref h4, .ref h5, .ref h6, .ref h7, .ref h8, .ref h9, .int 0, .int 0, .int 0, .ref h10, .ref h11, .ref h12, .ref h13, .int 0, .int 0, .ref h14, .ref h15, .ref h16, .ref h17, .int 0, .int 0, .ref h18, .ref h19, .ref h20, .ref h21]))] H := hP
  have hD : va_D A [(h0, .inr (8, [.int 2, .int 3, .int 267834847, .int 0, .int 0, .int 0, .ref h1, .ref h2, .int 0, .int 0, .ref h3, .ref h4, .ref h5, .ref h6, .ref h7, .ref h8, .ref h9, .int 0, .int 0, .int 0, .ref h10, .ref h11, .ref h12, .ref h13, .int 0, .int 0, .ref h14, .ref h15, .ref h16, .ref h17, .int 0, .int 0, .ref h18, .ref h19, .ref h20, .ref h21]))] := hD
  refine lv_aload_n hx hb dX11_drawn_16 rfl (lv_at hl 0 rfl) ?_
  refine va_get (D := D) (ci := 8) (v := .int 267834847) (C := RX11) (T := TX11) (N := 36) hx hb hU iX11 hown hK.1 hP 0 rfl rfl 2 (by decide) (hU _ w787) (fun _ h9 => h9) rfl dX11_drawn_17 ?_
  refine lv_bipush (v := 16) hx hb dX11_drawn_20 (by decide) ?_
  refine lv_iushr (v := 4086) hx hb dX11_drawn_22 (by decide +kernel) ?_
  refine lv_iload_n hx hb dX11_drawn_23 rfl (lv_at hl 1 rfl) ?_
  refine lv_irem hx hb dX11_drawn_24 (by decide +kernel) (sv_i (v := 0) (by decide +kernel) ?_)
  exact retI (v := 0) hx hb hr hlocks hS (⟨rfl, hP, hD⟩) dX11_drawn_25
abbrev BX11_drawn_11 (D : va_G) (k : Nat → ClassId) (h0 h1 h2 h3 h4 h5 h6 h7 h8 h9 h10 h11 h12 h13 h14 h15 h16 h17 h18 h19 h20 h21 : Nat) (A : Nat → Prop) (r : Int32) (H : Heap) : Prop := 1 = r ∧ va_P D cl0 [(h0, .inr (8, [.int 2, .int 3, .int 180171308, .int 0, .int 0, .int 0, .ref h1, .ref h2, .int 0, .int 0, .ref h3, .ref h4, .ref h5, .ref h6, .ref h7, .ref h8, .ref h9, .int 0, .int 0, .int 0, .ref h10, .ref h11, .ref h12, .ref h13, .int 0, .int 0, .ref h14, .ref h15, .ref h16, .ref h17, .int 0, .int 0, .ref h18, .ref h19, .ref h20, .ref h21]))] H ∧ va_D A [(h0, .inr (8, [.int 2, .int 3, .int 180171308, .int 0, .int 0, .int 0, .ref h1, .ref h2, .int 0, .int 0, .ref h3, .ref h4, .ref h5, .ref h6, .ref h7, .ref h8, .ref h9, .int 0, .int 0, .int 0, .ref h10, .ref h11, .ref h12, .ref h13, .int 0, .int 0, .ref h14, .ref h15, .ref h16, .ref h17, .int 0, .int 0, .ref h18, .ref h19, .ref h20, .ref h21]))]
set_option maxHeartbeats 4000000 in
set_option maxRecDepth 100000 in
theorem cX11_drawn_11 (l : Launch) (D : va_G) (k : Nat → ClassId) (sz : Nat) (h0 h1 h2 h3 h4 h5 h6 h7 h8 h9 h10 h11 h12 h13 h14 h15 h16 h17 h18 h19 h20 h21 : Nat) : Met l yX11_drawn (Cond.code yX11_drawn cX11_drawn 2 (some .int) :: uw) ({ frames := 0, cells := 0, slots := 0, locals := 0 }) (pC D k sz [.ref h0, .int 2] [(h0, .inr (8, [.int 2, .int 3, .int 267834847, .int 0, .int 0, .int 0, .ref h1, .ref h2, .int 0, .int 0, .ref h3, .ref h4, .ref h5, .ref h6, .ref h7, .ref h8, .ref h9, .int 0, .int 0, .int 0, .ref h10, .ref h11, .ref h12, .ref h13, .int 0, .int 0, .ref h14, .ref h15, .ref h16, .ref h17, .int 0, .int 0, .ref h18, .ref h19, .ref h20, .ref h21]))]) (qI (BX11_drawn_11 D k h0 h1 h2 h3 h4 h5 h6 h7 h8 h9 h10 h11 h12 h13 h14 h15 h16 h17 h18 h19 h20 h21 (va_A [(h0, .inr (8, [.int 2, .int 3, .int 267834847, .int 0, .int 0, .int 0, .ref h1, .ref h2, .int 0, .int 0, .ref h3, .ref h4, .ref h5, .ref h6, .ref h7, .ref h8, .ref h9, .int 0, .int 0, .int 0, .ref h10, .ref h11, .ref h12, .ref h13, .int 0, .int 0, .ref h14, .ref h15, .ref h16, .ref h17, .int 0, .int 0, .ref h18, .ref h19, .ref h20, .ref h21]))] sz)) (va_A [(h0, .inr (8, [.int 2, .int 3, .int 267834847, .int 0, .int 0, .int 0, .ref h1, .ref h2, .int 0, .int 0, .ref h3, .ref h4, .ref h5, .ref h6, .ref h7, .ref h8, .ref h9, .int 0, .int 0, .int 0, .ref h10, .ref h11, .ref h12, .ref h13, .int 0, .int 0, .ref h14, .ref h15, .ref h16, .ref h17, .int 0, .int 0, .ref h18, .ref h19, .ref h20, .ref h21]))] sz)) 0 0 (va_A [(h0, .inr (8, [.int 2, .int 3, .int 267834847, .int 0, .int 0, .int 0, .ref h1, .ref h2, .int 0, .int 0, .ref h3, .ref h4, .ref h5, .ref h6, .ref h7, .ref h8, .ref h9, .int 0, .int 0, .int 0, .ref h10, .ref h11, .ref h12, .ref h13, .int 0, .int 0, .ref h14, .ref h15, .ref h16, .ref h17, .int 0, .int 0, .ref h18, .ref h19, .ref h20, .ref h21]))] sz) := by
  refine begin_ (Qc := fun A => qI (BX11_drawn_11 D k h0 h1 h2 h3 h4 h5 h6 h7 h8 h9 h10 h11 h12 h13 h14 h15 h16 h17 h18 h19 h20 h21 A) A) (by decide) (Nat.le_of_ble_eq_true rfl) ?_
  intro p e s m below meth c ls A hx hb hr hml hown hlocks hin hU hK hsz hP hD hS hA hl
  have hl : lv_has ls 2 [(0, .ref h0), (1, .int 2)] := hl
  clear hsz
  refine lv_aload_n hx hb dX11_drawn_0 rfl (lv_at hl 0 rfl) ?_
  refine lv_aload_n hx hb dX11_drawn_1 rfl (lv_at hl 0 rfl) ?_
  refine va_get (D := D) (ci := 8) (v := .int 267834847) (C := RX11) (T := TX11) (N := 36) hx hb hU iX11 hown hK.1 hP 0 rfl rfl 2 (by decide) (hU _ w787) (fun _ h9 => h9) rfl dX11_drawn_2 ?_
  refine lv_ldcw hx hb hown (hU _ w1178) dX11_drawn_5 ?_
  refine lv_imul hx hb dX11_drawn_8 (sv_i (v := 180158963) (by decide +kernel) ?_)
  refine lv_sipush (v := 12345) hx hb dX11_drawn_9 (by decide) ?_
  refine lv_iadd hx hb dX11_drawn_12 (sv_i (v := 180171308) (by decide +kernel) ?_)
  refine va_put (D := D) (ci := 8) (v := .int 180171308) (ty := .int) (C := RX11) (T := TX11) (N := 36) hx hb hU iX11 tyX11 tyX11_ok nmX11 hown hK.1 hP hD hS 0 rfl rfl 2 (by decide) (hU _ w787) (fun _ h9 => h9) rfl (by decide +kernel) rfl rfl (Nat.le_of_ble_eq_true rfl) dX11_drawn_13 (fun H locs hP hD hS => ?_)
  have hP : va_P D cl0 [(h0, .inr (8, [.int 2, .int 3, .int 180171308, .int 0, .int 0, .int 0, .ref h1, .ref h2, .int 0, .int 0, .ref h3, .ref h4, .ref h5, .ref h6, .ref h7, .ref h8, .ref h9, .int 0, .int 0, .int 0, .ref h10, .ref h11, .ref h12, .ref h13, .int 0, .int 0, .ref h14, .ref h15, .ref h16, .ref h17, .int 0, .int 0, .ref h18, .ref h19, .ref h20, .ref h21]))] H := hP
  have hD : va_D A [(h0, .inr (8, [.int 2, .int 3, .int 180171308, .int 0, .int 0, .int 0, .ref h1, .ref h2, .int 0, .int 0, .ref h3, .ref h4, .ref h5, .ref h6, .ref h7, .ref h8, .ref h9, .int 0, .int 0, .int 0, .ref h10, .ref h11, .ref h12, .ref h13, .int 0, .int 0, .ref h14, .ref h15, .ref h16, .ref h17, .int 0, .int 0, .ref h18, .ref h19, .ref h20, .ref h21]))] := hD
  refine lv_aload_n hx hb dX11_drawn_16 rfl (lv_at hl 0 rfl) ?_
  refine va_get (D := D) (ci := 8) (v := .int 180171308) (C := RX11) (T := TX11) (N := 36) hx hb hU iX11 hown hK.1 hP 0 rfl rfl 2 (by decide) (hU _ w787) (fun _ h9 => h9) rfl dX11_drawn_17 ?_
  refine lv_bipush (v := 16) hx hb dX11_drawn_20 (by decide) ?_
  refine lv_iushr (v := 2749) hx hb dX11_drawn_22 (by decide +kernel) ?_
  refine lv_iload_n hx hb dX11_drawn_23 rfl (lv_at hl 1 rfl) ?_
  refine lv_irem hx hb dX11_drawn_24 (by decide +kernel) (sv_i (v := 1) (by decide +kernel) ?_)
  exact retI (v := 1) hx hb hr hlocks hS (⟨rfl, hP, hD⟩) dX11_drawn_25
abbrev BX11_drawn_12 (D : va_G) (k : Nat → ClassId) (h0 h1 h2 h3 h4 h5 h6 h7 h8 h9 h10 h11 h12 h13 h14 h15 h16 h17 h18 h19 h20 h21 : Nat) (A : Nat → Prop) (r : Int32) (H : Heap) : Prop := 2 = r ∧ va_P D cl0 [(h0, .inr (8, [.int 2, .int 3, .int 836760821, .int 0, .int 0, .int 0, .ref h1, .ref h2, .int 0, .int 0, .ref h3, .ref h4, .ref h5, .ref h6, .ref h7, .ref h8, .ref h9, .int 0, .int 0, .int 0, .ref h10, .ref h11, .ref h12, .ref h13, .int 0, .int 0, .ref h14, .ref h15, .ref h16, .ref h17, .int 0, .int 0, .ref h18, .ref h19, .ref h20, .ref h21]))] H ∧ va_D A [(h0, .inr (8, [.int 2, .int 3, .int 836760821, .int 0, .int 0, .int 0, .ref h1, .ref h2, .int 0, .int 0, .ref h3, .ref h4, .ref h5, .ref h6, .ref h7, .ref h8, .ref h9, .int 0, .int 0, .int 0, .ref h10, .ref h11, .ref h12, .ref h13, .int 0, .int 0, .ref h14, .ref h15, .ref h16, .ref h17, .int 0, .int 0, .ref h18, .ref h19, .ref h20, .ref h21]))]
set_option maxHeartbeats 4000000 in
set_option maxRecDepth 100000 in
theorem cX11_drawn_12 (l : Launch) (D : va_G) (k : Nat → ClassId) (sz : Nat) (h0 h1 h2 h3 h4 h5 h6 h7 h8 h9 h10 h11 h12 h13 h14 h15 h16 h17 h18 h19 h20 h21 : Nat) : Met l yX11_drawn (Cond.code yX11_drawn cX11_drawn 2 (some .int) :: uw) ({ frames := 0, cells := 0, slots := 0, locals := 0 }) (pC D k sz [.ref h0, .int 5] [(h0, .inr (8, [.int 2, .int 3, .int 180171308, .int 0, .int 0, .int 0, .ref h1, .ref h2, .int 0, .int 0, .ref h3, .ref h4, .ref h5, .ref h6, .ref h7, .ref h8, .ref h9, .int 0, .int 0, .int 0, .ref h10, .ref h11, .ref h12, .ref h13, .int 0, .int 0, .ref h14, .ref h15, .ref h16, .ref h17, .int 0, .int 0, .ref h18, .ref h19, .ref h20, .ref h21]))]) (qI (BX11_drawn_12 D k h0 h1 h2 h3 h4 h5 h6 h7 h8 h9 h10 h11 h12 h13 h14 h15 h16 h17 h18 h19 h20 h21 (va_A [(h0, .inr (8, [.int 2, .int 3, .int 180171308, .int 0, .int 0, .int 0, .ref h1, .ref h2, .int 0, .int 0, .ref h3, .ref h4, .ref h5, .ref h6, .ref h7, .ref h8, .ref h9, .int 0, .int 0, .int 0, .ref h10, .ref h11, .ref h12, .ref h13, .int 0, .int 0, .ref h14, .ref h15, .ref h16, .ref h17, .int 0, .int 0, .ref h18, .ref h19, .ref h20, .ref h21]))] sz)) (va_A [(h0, .inr (8, [.int 2, .int 3, .int 180171308, .int 0, .int 0, .int 0, .ref h1, .ref h2, .int 0, .int 0, .ref h3, .ref h4, .ref h5, .ref h6, .ref h7, .ref h8, .ref h9, .int 0, .int 0, .int 0, .ref h10, .ref h11, .ref h12, .ref h13, .int 0, .int 0, .ref h14, .ref h15, .ref h16, .ref h17, .int 0, .int 0, .ref h18, .ref h19, .ref h20, .ref h21]))] sz)) 0 0 (va_A [(h0, .inr (8, [.int 2, .int 3, .int 180171308, .int 0, .int 0, .int 0, .ref h1, .ref h2, .int 0, .int 0, .ref h3, .ref h4, .ref h5, .ref h6, .ref h7, .ref h8, .ref h9, .int 0, .int 0, .int 0, .ref h10, .ref h11, .ref h12, .ref h13, .int 0, .int 0, .ref h14, .ref h15, .ref h16, .ref h17, .int 0, .int 0, .ref h18, .ref h19, .ref h20, .ref h21]))] sz) := by
  refine begin_ (Qc := fun A => qI (BX11_drawn_12 D k h0 h1 h2 h3 h4 h5 h6 h7 h8 h9 h10 h11 h12 h13 h14 h15 h16 h17 h18 h19 h20 h21 A) A) (by decide) (Nat.le_of_ble_eq_true rfl) ?_
  intro p e s m below meth c ls A hx hb hr hml hown hlocks hin hU hK hsz hP hD hS hA hl
  have hl : lv_has ls 2 [(0, .ref h0), (1, .int 5)] := hl
  clear hsz
  refine lv_aload_n hx hb dX11_drawn_0 rfl (lv_at hl 0 rfl) ?_
  refine lv_aload_n hx hb dX11_drawn_1 rfl (lv_at hl 0 rfl) ?_
  refine va_get (D := D) (ci := 8) (v := .int 180171308) (C := RX11) (T := TX11) (N := 36) hx hb hU iX11 hown hK.1 hP 0 rfl rfl 2 (by decide) (hU _ w787) (fun _ h9 => h9) rfl dX11_drawn_2 ?_
  refine lv_ldcw hx hb hown (hU _ w1178) dX11_drawn_5 ?_
  refine lv_imul hx hb dX11_drawn_8 (sv_i (v := 836748476) (by decide +kernel) ?_)
  refine lv_sipush (v := 12345) hx hb dX11_drawn_9 (by decide) ?_
  refine lv_iadd hx hb dX11_drawn_12 (sv_i (v := 836760821) (by decide +kernel) ?_)
  refine va_put (D := D) (ci := 8) (v := .int 836760821) (ty := .int) (C := RX11) (T := TX11) (N := 36) hx hb hU iX11 tyX11 tyX11_ok nmX11 hown hK.1 hP hD hS 0 rfl rfl 2 (by decide) (hU _ w787) (fun _ h9 => h9) rfl (by decide +kernel) rfl rfl (Nat.le_of_ble_eq_true rfl) dX11_drawn_13 (fun H locs hP hD hS => ?_)
  have hP : va_P D cl0 [(h0, .inr (8, [.int 2, .int 3, .int 836760821, .int 0, .int 0, .int 0, .ref h1, .ref h2, .int 0, .int 0, .ref h3, .ref h4, .ref h5, .ref h6, .ref h7, .ref h8, .ref h9, .int 0, .int 0, .int 0, .ref h10, .ref h11, .ref h12, .ref h13, .int 0, .int 0, .ref h14, .ref h15, .ref h16, .ref h17, .int 0, .int 0, .ref h18, .ref h19, .ref h20, .ref h21]))] H := hP
  have hD : va_D A [(h0, .inr (8, [.int 2, .int 3, .int 836760821, .int 0, .int 0, .int 0, .ref h1, .ref h2, .int 0, .int 0, .ref h3, .ref h4, .ref h5, .ref h6, .ref h7, .ref h8, .ref h9, .int 0, .int 0, .int 0, .ref h10, .ref h11, .ref h12, .ref h13, .int 0, .int 0, .ref h14, .ref h15, .ref h16, .ref h17, .int 0, .int 0, .ref h18, .ref h19, .ref h20, .ref h21]))] := hD
  refine lv_aload_n hx hb dX11_drawn_16 rfl (lv_at hl 0 rfl) ?_
  refine va_get (D := D) (ci := 8) (v := .int 836760821) (C := RX11) (T := TX11) (N := 36) hx hb hU iX11 hown hK.1 hP 0 rfl rfl 2 (by decide) (hU _ w787) (fun _ h9 => h9) rfl dX11_drawn_17 ?_
  refine lv_bipush (v := 16) hx hb dX11_drawn_20 (by decide) ?_
  refine lv_iushr (v := 12767) hx hb dX11_drawn_22 (by decide +kernel) ?_
  refine lv_iload_n hx hb dX11_drawn_23 rfl (lv_at hl 1 rfl) ?_
  refine lv_irem hx hb dX11_drawn_24 (by decide +kernel) (sv_i (v := 2) (by decide +kernel) ?_)
  exact retI (v := 2) hx hb hr hlocks hS (⟨rfl, hP, hD⟩) dX11_drawn_25
abbrev BX11_clears_4 (D : va_G) (k : Nat → ClassId) (h0 h1 : Nat) (A : Nat → Prop) (H : Heap) : Prop := va_P D cl0 [(h0, .inl (k 1, 9, .inr (.inl (tL [0, 0, 0, 0, 0, 0, 0, 0, 0] 0))))] H ∧ va_D A [(h0, .inl (k 1, 9, .inr (.inl (tL [0, 0, 0, 0, 0, 0, 0, 0, 0] 0))))]
set_option maxHeartbeats 4000000 in
set_option maxRecDepth 100000 in
theorem cX11_clears_4 (l : Launch) (D : va_G) (k : Nat → ClassId) (sz : Nat) (h0 h1 : Nat) : Met l yX11_clears (Cond.code yX11_clears cX11_clears 3 none :: uw) ({ frames := 0, cells := 0, slots := 0, locals := 0 }) (pC D k sz [.ref h1, .ref h0] [(h0, .inl (k 1, 9, .inr (.inl (tL [1, (-2), 0, 0, 1, 0, 0, 0, 0] 0))))]) (qV (BX11_clears_4 D k h0 h1 (va_A [(h0, .inl (k 1, 9, .inr (.inl (tL [1, (-2), 0, 0, 1, 0, 0, 0, 0] 0))))] sz)) (va_A [(h0, .inl (k 1, 9, .inr (.inl (tL [1, (-2), 0, 0, 1, 0, 0, 0, 0] 0))))] sz)) 0 0 (va_A [(h0, .inl (k 1, 9, .inr (.inl (tL [1, (-2), 0, 0, 1, 0, 0, 0, 0] 0))))] sz) := by
  refine begin_ (Qc := fun A => qV (BX11_clears_4 D k h0 h1 A) A) (by decide) (Nat.le_of_ble_eq_true rfl) ?_
  intro p e s m below meth c ls A hx hb hr hml hown hlocks hin hU hK hsz hP hD hS hA hl
  have hl : lv_has ls 3 [(0, .ref h1), (1, .ref h0)] := hl
  clear hsz
  refine lv_iconst (v := 0) hx hb dX11_clears_0 (by decide) ?_
  refine lv_istore_n (lv' := [(2, .int 0), (0, .ref h1), (1, .ref h0)]) hx hb dX11_clears_1 rfl hl (by decide) rfl (fun ls hl => ?_)
  refine lv_iload_n hx hb dX11_clears_2 rfl (lv_at hl 0 rfl) ?_
  refine lv_bipush (v := 9) hx hb dX11_clears_3 (by decide) ?_
  refine lv_icmp_ge (tgt := 18) hx hb dX11_clears_5 (by decide) (fun cc => absurd cc (by decide +kernel)) (fun _ => ?_)
  refine lv_aload_n hx hb dX11_clears_8 rfl (lv_at hl 2 rfl) ?_
  refine lv_iload_n hx hb dX11_clears_9 rfl (lv_at hl 0 rfl) ?_
  refine lv_lconst (v := 0) hx hb dX11_clears_10 (by decide) ?_
  refine st_l (j := 0) (g := tL [0, (-2), 0, 0, 1, 0, 0, 0, 0] 0) hx hb hK hP hD hS 0 rfl (by decide +kernel) upd_tL dX11_clears_11 (fun H locs hP hD hS => ?_)
  have hP : va_P D cl0 [(h0, .inl (k 1, 9, .inr (.inl (tL [0, (-2), 0, 0, 1, 0, 0, 0, 0] 0))))] H := hP
  have hD : va_D A [(h0, .inl (k 1, 9, .inr (.inl (tL [0, (-2), 0, 0, 1, 0, 0, 0, 0] 0))))] := hD
  refine lv_iinc (v := 1) (lv' := [(2, .int 1), (0, .ref h1), (1, .ref h0)]) hx hb dX11_clears_12 hl (k := 0) rfl (by decide) (by decide) rfl (fun ls hl => ?_)
  refine lv_goto (tgt := 2) hx hb dX11_clears_15 (by decide) ?_
  refine lv_iload_n hx hb dX11_clears_2 rfl (lv_at hl 0 rfl) ?_
  refine lv_bipush (v := 9) hx hb dX11_clears_3 (by decide) ?_
  refine lv_icmp_ge (tgt := 18) hx hb dX11_clears_5 (by decide) (fun cc => absurd cc (by decide +kernel)) (fun _ => ?_)
  refine lv_aload_n hx hb dX11_clears_8 rfl (lv_at hl 2 rfl) ?_
  refine lv_iload_n hx hb dX11_clears_9 rfl (lv_at hl 0 rfl) ?_
  refine lv_lconst (v := 0) hx hb dX11_clears_10 (by decide) ?_
  refine st_l (j := 1) (g := tL [0, 0, 0, 0, 1, 0, 0, 0, 0] 0) hx hb hK hP hD hS 0 rfl (by decide +kernel) upd_tL dX11_clears_11 (fun H locs hP hD hS => ?_)
  have hP : va_P D cl0 [(h0, .inl (k 1, 9, .inr (.inl (tL [0, 0, 0, 0, 1, 0, 0, 0, 0] 0))))] H := hP
  have hD : va_D A [(h0, .inl (k 1, 9, .inr (.inl (tL [0, 0, 0, 0, 1, 0, 0, 0, 0] 0))))] := hD
  refine lv_iinc (v := 2) (lv' := [(2, .int 2), (0, .ref h1), (1, .ref h0)]) hx hb dX11_clears_12 hl (k := 0) rfl (by decide) (by decide) rfl (fun ls hl => ?_)
  refine lv_goto (tgt := 2) hx hb dX11_clears_15 (by decide) ?_
  refine lv_iload_n hx hb dX11_clears_2 rfl (lv_at hl 0 rfl) ?_
  refine lv_bipush (v := 9) hx hb dX11_clears_3 (by decide) ?_
  refine lv_icmp_ge (tgt := 18) hx hb dX11_clears_5 (by decide) (fun cc => absurd cc (by decide +kernel)) (fun _ => ?_)
  refine lv_aload_n hx hb dX11_clears_8 rfl (lv_at hl 2 rfl) ?_
  refine lv_iload_n hx hb dX11_clears_9 rfl (lv_at hl 0 rfl) ?_
  refine lv_lconst (v := 0) hx hb dX11_clears_10 (by decide) ?_
  refine st_l (j := 2) (g := tL [0, 0, 0, 0, 1, 0, 0, 0, 0] 0) hx hb hK hP hD hS 0 rfl (by decide +kernel) upd_tL dX11_clears_11 (fun H locs hP hD hS => ?_)
  have hP : va_P D cl0 [(h0, .inl (k 1, 9, .inr (.inl (tL [0, 0, 0, 0, 1, 0, 0, 0, 0] 0))))] H := hP
  have hD : va_D A [(h0, .inl (k 1, 9, .inr (.inl (tL [0, 0, 0, 0, 1, 0, 0, 0, 0] 0))))] := hD
  refine lv_iinc (v := 3) (lv' := [(2, .int 3), (0, .ref h1), (1, .ref h0)]) hx hb dX11_clears_12 hl (k := 0) rfl (by decide) (by decide) rfl (fun ls hl => ?_)
  refine lv_goto (tgt := 2) hx hb dX11_clears_15 (by decide) ?_
  refine lv_iload_n hx hb dX11_clears_2 rfl (lv_at hl 0 rfl) ?_
  refine lv_bipush (v := 9) hx hb dX11_clears_3 (by decide) ?_
  refine lv_icmp_ge (tgt := 18) hx hb dX11_clears_5 (by decide) (fun cc => absurd cc (by decide +kernel)) (fun _ => ?_)
  refine lv_aload_n hx hb dX11_clears_8 rfl (lv_at hl 2 rfl) ?_
  refine lv_iload_n hx hb dX11_clears_9 rfl (lv_at hl 0 rfl) ?_
  refine lv_lconst (v := 0) hx hb dX11_clears_10 (by decide) ?_
  refine st_l (j := 3) (g := tL [0, 0, 0, 0, 1, 0, 0, 0, 0] 0) hx hb hK hP hD hS 0 rfl (by decide +kernel) upd_tL dX11_clears_11 (fun H locs hP hD hS => ?_)
  have hP : va_P D cl0 [(h0, .inl (k 1, 9, .inr (.inl (tL [0, 0, 0, 0, 1, 0, 0, 0, 0] 0))))] H := hP
  have hD : va_D A [(h0, .inl (k 1, 9, .inr (.inl (tL [0, 0, 0, 0, 1, 0, 0, 0, 0] 0))))] := hD
  refine lv_iinc (v := 4) (lv' := [(2, .int 4), (0, .ref h1), (1, .ref h0)]) hx hb dX11_clears_12 hl (k := 0) rfl (by decide) (by decide) rfl (fun ls hl => ?_)
  refine lv_goto (tgt := 2) hx hb dX11_clears_15 (by decide) ?_
  refine lv_iload_n hx hb dX11_clears_2 rfl (lv_at hl 0 rfl) ?_
  refine lv_bipush (v := 9) hx hb dX11_clears_3 (by decide) ?_
  refine lv_icmp_ge (tgt := 18) hx hb dX11_clears_5 (by decide) (fun cc => absurd cc (by decide +kernel)) (fun _ => ?_)
  refine lv_aload_n hx hb dX11_clears_8 rfl (lv_at hl 2 rfl) ?_
  refine lv_iload_n hx hb dX11_clears_9 rfl (lv_at hl 0 rfl) ?_
  refine lv_lconst (v := 0) hx hb dX11_clears_10 (by decide) ?_
  refine st_l (j := 4) (g := tL [0, 0, 0, 0, 0, 0, 0, 0, 0] 0) hx hb hK hP hD hS 0 rfl (by decide +kernel) upd_tL dX11_clears_11 (fun H locs hP hD hS => ?_)
  have hP : va_P D cl0 [(h0, .inl (k 1, 9, .inr (.inl (tL [0, 0, 0, 0, 0, 0, 0, 0, 0] 0))))] H := hP
  have hD : va_D A [(h0, .inl (k 1, 9, .inr (.inl (tL [0, 0, 0, 0, 0, 0, 0, 0, 0] 0))))] := hD
  refine lv_iinc (v := 5) (lv' := [(2, .int 5), (0, .ref h1), (1, .ref h0)]) hx hb dX11_clears_12 hl (k := 0) rfl (by decide) (by decide) rfl (fun ls hl => ?_)
  refine lv_goto (tgt := 2) hx hb dX11_clears_15 (by decide) ?_
  refine lv_iload_n hx hb dX11_clears_2 rfl (lv_at hl 0 rfl) ?_
  refine lv_bipush (v := 9) hx hb dX11_clears_3 (by decide) ?_
  refine lv_icmp_ge (tgt := 18) hx hb dX11_clears_5 (by decide) (fun cc => absurd cc (by decide +kernel)) (fun _ => ?_)
  refine lv_aload_n hx hb dX11_clears_8 rfl (lv_at hl 2 rfl) ?_
  refine lv_iload_n hx hb dX11_clears_9 rfl (lv_at hl 0 rfl) ?_
  refine lv_lconst (v := 0) hx hb dX11_clears_10 (by decide) ?_
  refine st_l (j := 5) (g := tL [0, 0, 0, 0, 0, 0, 0, 0, 0] 0) hx hb hK hP hD hS 0 rfl (by decide +kernel) upd_tL dX11_clears_11 (fun H locs hP hD hS => ?_)
  have hP : va_P D cl0 [(h0, .inl (k 1, 9, .inr (.inl (tL [0, 0, 0, 0, 0, 0, 0, 0, 0] 0))))] H := hP
  have hD : va_D A [(h0, .inl (k 1, 9, .inr (.inl (tL [0, 0, 0, 0, 0, 0, 0, 0, 0] 0))))] := hD
  refine lv_iinc (v := 6) (lv' := [(2, .int 6), (0, .ref h1), (1, .ref h0)]) hx hb dX11_clears_12 hl (k := 0) rfl (by decide) (by decide) rfl (fun ls hl => ?_)
  refine lv_goto (tgt := 2) hx hb dX11_clears_15 (by decide) ?_
  refine lv_iload_n hx hb dX11_clears_2 rfl (lv_at hl 0 rfl) ?_
  refine lv_bipush (v := 9) hx hb dX11_clears_3 (by decide) ?_
  refine lv_icmp_ge (tgt := 18) hx hb dX11_clears_5 (by decide) (fun cc => absurd cc (by decide +kernel)) (fun _ => ?_)
  refine lv_aload_n hx hb dX11_clears_8 rfl (lv_at hl 2 rfl) ?_
  refine lv_iload_n hx hb dX11_clears_9 rfl (lv_at hl 0 rfl) ?_
  refine lv_lconst (v := 0) hx hb dX11_clears_10 (by decide) ?_
  refine st_l (j := 6) (g := tL [0, 0, 0, 0, 0, 0, 0, 0, 0] 0) hx hb hK hP hD hS 0 rfl (by decide +kernel) upd_tL dX11_clears_11 (fun H locs hP hD hS => ?_)
  have hP : va_P D cl0 [(h0, .inl (k 1, 9, .inr (.inl (tL [0, 0, 0, 0, 0, 0, 0, 0, 0] 0))))] H := hP
  have hD : va_D A [(h0, .inl (k 1, 9, .inr (.inl (tL [0, 0, 0, 0, 0, 0, 0, 0, 0] 0))))] := hD
  refine lv_iinc (v := 7) (lv' := [(2, .int 7), (0, .ref h1), (1, .ref h0)]) hx hb dX11_clears_12 hl (k := 0) rfl (by decide) (by decide) rfl (fun ls hl => ?_)
  refine lv_goto (tgt := 2) hx hb dX11_clears_15 (by decide) ?_
  refine lv_iload_n hx hb dX11_clears_2 rfl (lv_at hl 0 rfl) ?_
  refine lv_bipush (v := 9) hx hb dX11_clears_3 (by decide) ?_
  refine lv_icmp_ge (tgt := 18) hx hb dX11_clears_5 (by decide) (fun cc => absurd cc (by decide +kernel)) (fun _ => ?_)
  refine lv_aload_n hx hb dX11_clears_8 rfl (lv_at hl 2 rfl) ?_
  refine lv_iload_n hx hb dX11_clears_9 rfl (lv_at hl 0 rfl) ?_
  refine lv_lconst (v := 0) hx hb dX11_clears_10 (by decide) ?_
  refine st_l (j := 7) (g := tL [0, 0, 0, 0, 0, 0, 0, 0, 0] 0) hx hb hK hP hD hS 0 rfl (by decide +kernel) upd_tL dX11_clears_11 (fun H locs hP hD hS => ?_)
  have hP : va_P D cl0 [(h0, .inl (k 1, 9, .inr (.inl (tL [0, 0, 0, 0, 0, 0, 0, 0, 0] 0))))] H := hP
  have hD : va_D A [(h0, .inl (k 1, 9, .inr (.inl (tL [0, 0, 0, 0, 0, 0, 0, 0, 0] 0))))] := hD
  refine lv_iinc (v := 8) (lv' := [(2, .int 8), (0, .ref h1), (1, .ref h0)]) hx hb dX11_clears_12 hl (k := 0) rfl (by decide) (by decide) rfl (fun ls hl => ?_)
  refine lv_goto (tgt := 2) hx hb dX11_clears_15 (by decide) ?_
  refine lv_iload_n hx hb dX11_clears_2 rfl (lv_at hl 0 rfl) ?_
  refine lv_bipush (v := 9) hx hb dX11_clears_3 (by decide) ?_
  refine lv_icmp_ge (tgt := 18) hx hb dX11_clears_5 (by decide) (fun cc => absurd cc (by decide +kernel)) (fun _ => ?_)
  refine lv_aload_n hx hb dX11_clears_8 rfl (lv_at hl 2 rfl) ?_
  refine lv_iload_n hx hb dX11_clears_9 rfl (lv_at hl 0 rfl) ?_
  refine lv_lconst (v := 0) hx hb dX11_clears_10 (by decide) ?_
  refine st_l (j := 8) (g := tL [0, 0, 0, 0, 0, 0, 0, 0, 0] 0) hx hb hK hP hD hS 0 rfl (by decide +kernel) upd_tL dX11_clears_11 (fun H locs hP hD hS => ?_)
  have hP : va_P D cl0 [(h0, .inl (k 1, 9, .inr (.inl (tL [0, 0, 0, 0, 0, 0, 0, 0, 0] 0))))] H := hP
  have hD : va_D A [(h0, .inl (k 1, 9, .inr (.inl (tL [0, 0, 0, 0, 0, 0, 0, 0, 0] 0))))] := hD
  refine lv_iinc (v := 9) (lv' := [(2, .int 9), (0, .ref h1), (1, .ref h0)]) hx hb dX11_clears_12 hl (k := 0) rfl (by decide) (by decide) rfl (fun ls hl => ?_)
  refine lv_goto (tgt := 2) hx hb dX11_clears_15 (by decide) ?_
  refine lv_iload_n hx hb dX11_clears_2 rfl (lv_at hl 0 rfl) ?_
  refine lv_bipush (v := 9) hx hb dX11_clears_3 (by decide) ?_
  refine lv_icmp_ge (tgt := 18) hx hb dX11_clears_5 (by decide) (fun _ => ?_) (fun cc => absurd (by decide +kernel) cc)
  exact retV hx hb hr hlocks hS (⟨hP, hD⟩) dX11_clears_18
abbrev BX11_first_5 (D : va_G) (k : Nat → ClassId) (h0 h1 h2 h3 h4 h5 h6 h7 h8 h9 h10 h11 h12 h13 h14 h15 h16 h17 h18 h19 h20 h21 : Nat) (A : Nat → Prop) (H : Heap) : Prop := va_P D cl0 [(h1, .inr (8, [.int 2, .int 3, .int 836760821, .int 0, .int 0, .int 0, .ref h2, .ref h3, .int 0, .int 0, .ref h0, .ref h4, .ref h5, .ref h6, .ref h7, .ref h8, .ref h9, .int 0, .int 0, .int 0, .ref h10, .ref h11, .ref h12, .ref h13, .int 0, .int 0, .ref h14, .ref h15, .ref h16, .ref h17, .int 0, .int 0, .ref h18, .ref h19, .ref h20, .ref h21])), (h0, .inl (k 1, 9, .inr (.inl (tL [1, 0, 0, 0, 1, 0, 0, 0, 0] 0))))] H ∧ va_D A [(h1, .inr (8, [.int 2, .int 3, .int 836760821, .int 0, .int 0, .int 0, .ref h2, .ref h3, .int 0, .int 0, .ref h0, .ref h4, .ref h5, .ref h6, .ref h7, .ref h8, .ref h9, .int 0, .int 0, .int 0, .ref h10, .ref h11, .ref h12, .ref h13, .int 0, .int 0, .ref h14, .ref h15, .ref h16, .ref h17, .int 0, .int 0, .ref h18, .ref h19, .ref h20, .ref h21])), (h0, .inl (k 1, 9, .inr (.inl (tL [1, 0, 0, 0, 1, 0, 0, 0, 0] 0))))]
set_option maxHeartbeats 4000000 in
set_option maxRecDepth 100000 in
theorem cX11_first_5 (l : Launch) (D : va_G) (k : Nat → ClassId) (sz : Nat) (h0 h1 h2 h3 h4 h5 h6 h7 h8 h9 h10 h11 h12 h13 h14 h15 h16 h17 h18 h19 h20 h21 : Nat) : Met l yX11_first (Cond.code yX11_first cX11_first 3 none :: uw) ({ frames := 1, cells := 0, slots := 0, locals := 22 }) (pC D k sz [.ref h1, .ref h0] [(h0, .inl (k 1, 9, .inr (.inl (tL [1, (-2), 0, 0, 1, 0, 0, 0, 0] 0)))), (h1, .inr (8, [.int 2, .int 3, .int 836760821, .int 0, .int 0, .int 0, .ref h2, .ref h3, .int 0, .int 0, .ref h0, .ref h4, .ref h5, .ref h6, .ref h7, .ref h8, .ref h9, .int 0, .int 0, .int 0, .ref h10, .ref h11, .ref h12, .ref h13, .int 0, .int 0, .ref h14, .ref h15, .ref h16, .ref h17, .int 0, .int 0, .ref h18, .ref h19, .ref h20, .ref h21]))]) (qV (BX11_first_5 D k h0 h1 h2 h3 h4 h5 h6 h7 h8 h9 h10 h11 h12 h13 h14 h15 h16 h17 h18 h19 h20 h21 (va_A [(h0, .inl (k 1, 9, .inr (.inl (tL [1, (-2), 0, 0, 1, 0, 0, 0, 0] 0)))), (h1, .inr (8, [.int 2, .int 3, .int 836760821, .int 0, .int 0, .int 0, .ref h2, .ref h3, .int 0, .int 0, .ref h0, .ref h4, .ref h5, .ref h6, .ref h7, .ref h8, .ref h9, .int 0, .int 0, .int 0, .ref h10, .ref h11, .ref h12, .ref h13, .int 0, .int 0, .ref h14, .ref h15, .ref h16, .ref h17, .int 0, .int 0, .ref h18, .ref h19, .ref h20, .ref h21]))] sz)) (va_A [(h0, .inl (k 1, 9, .inr (.inl (tL [1, (-2), 0, 0, 1, 0, 0, 0, 0] 0)))), (h1, .inr (8, [.int 2, .int 3, .int 836760821, .int 0, .int 0, .int 0, .ref h2, .ref h3, .int 0, .int 0, .ref h0, .ref h4, .ref h5, .ref h6, .ref h7, .ref h8, .ref h9, .int 0, .int 0, .int 0, .ref h10, .ref h11, .ref h12, .ref h13, .int 0, .int 0, .ref h14, .ref h15, .ref h16, .ref h17, .int 0, .int 0, .ref h18, .ref h19, .ref h20, .ref h21]))] sz)) 0 0 (va_A [(h0, .inl (k 1, 9, .inr (.inl (tL [1, (-2), 0, 0, 1, 0, 0, 0, 0] 0)))), (h1, .inr (8, [.int 2, .int 3, .int 836760821, .int 0, .int 0, .int 0, .ref h2, .ref h3, .int 0, .int 0, .ref h0, .ref h4, .ref h5, .ref h6, .ref h7, .ref h8, .ref h9, .int 0, .int 0, .int 0, .ref h10, .ref h11, .ref h12, .ref h13, .int 0, .int 0, .ref h14, .ref h15, .ref h16, .ref h17, .int 0, .int 0, .ref h18, .ref h19, .ref h20, .ref h21]))] sz) := by
  refine begin_ (Qc := fun A => qV (BX11_first_5 D k h0 h1 h2 h3 h4 h5 h6 h7 h8 h9 h10 h11 h12 h13 h14 h15 h16 h17 h18 h19 h20 h21 A) A) (by decide) (Nat.le_of_ble_eq_true rfl) ?_
  intro p e s m below meth c ls A hx hb hr hml hown hlocks hin hU hK hsz hP hD hS hA hl
  have hl : lv_has ls 3 [(0, .ref h1), (1, .ref h0)] := hl
  clear hsz
  refine lv_aload_n hx hb dX11_first_0 rfl (lv_at hl 0 rfl) ?_
  refine lv_aload_n hx hb dX11_first_1 rfl (lv_at hl 1 rfl) ?_
  refine cV (rV (q0 := 1) (ci := 8) (As := [.ref h0]) (rest := []) (wc := [(h0, .inl (k 1, 9, .inr (.inl (tL [1, (-2), 0, 0, 1, 0, 0, 0, 0] 0))))]) hx hb hml hown hU hK hP hD rfl rfl [0] rfl (by decide) (cX11_clears_4 l D k _ h0 h1) w923 w920 w922 w29 w72 hdX11_clears ⟨rfl, rfl⟩ ⟨Nat.le_of_ble_eq_true rfl, Nat.le_of_ble_eq_true rfl⟩ rfl hl.1 (Nat.le_of_ble_eq_true rfl) dX11_first_2 ⟨Nat.le_of_ble_eq_true rfl, Nat.le_of_ble_eq_true rfl⟩) hP hD hS hA (wr := [(h1, .inr (8, [.int 2, .int 3, .int 836760821, .int 0, .int 0, .int 0, .ref h2, .ref h3, .int 0, .int 0, .ref h0, .ref h4, .ref h5, .ref h6, .ref h7, .ref h8, .ref h9, .int 0, .int 0, .int 0, .ref h10, .ref h11, .ref h12, .ref h13, .int 0, .int 0, .ref h14, .ref h15, .ref h16, .ref h17, .int 0, .int 0, .ref h18, .ref h19, .ref h20, .ref h21]))]) [0] [1] rfl rfl (by decide) (by decide) (fun H locs hB J hS => ?_)
  obtain ⟨hP1, hD1⟩ := hB
  obtain ⟨hP, hD⟩ := J _ hP1 hD1
  have hP : va_P D cl0 [(h1, .inr (8, [.int 2, .int 3, .int 836760821, .int 0, .int 0, .int 0, .ref h2, .ref h3, .int 0, .int 0, .ref h0, .ref h4, .ref h5, .ref h6, .ref h7, .ref h8, .ref h9, .int 0, .int 0, .int 0, .ref h10, .ref h11, .ref h12, .ref h13, .int 0, .int 0, .ref h14, .ref h15, .ref h16, .ref h17, .int 0, .int 0, .ref h18, .ref h19, .ref h20, .ref h21])), (h0, .inl (k 1, 9, .inr (.inl (tL [0, 0, 0, 0, 0, 0, 0, 0, 0] 0))))] H := hP
  have hD : va_D A [(h1, .inr (8, [.int 2, .int 3, .int 836760821, .int 0, .int 0, .int 0, .ref h2, .ref h3, .int 0, .int 0, .ref h0, .ref h4, .ref h5, .ref h6, .ref h7, .ref h8, .ref h9, .int 0, .int 0, .int 0, .ref h10, .ref h11, .ref h12, .ref h13, .int 0, .int 0, .ref h14, .ref h15, .ref h16, .ref h17, .int 0, .int 0, .ref h18, .ref h19, .ref h20, .ref h21])), (h0, .inl (k 1, 9, .inr (.inl (tL [0, 0, 0, 0, 0, 0, 0, 0, 0] 0))))] := hD
  refine lv_iconst (v := 0) hx hb dX11_first_5 (by decide) ?_
  refine lv_istore_n (lv' := [(2, .int 0), (0, .ref h1), (1, .ref h0)]) hx hb dX11_first_6 rfl hl (by decide) rfl (fun ls hl => ?_)
  refine lv_iload_n hx hb dX11_first_7 rfl (lv_at hl 0 rfl) ?_
  refine lv_aload_n hx hb dX11_first_8 rfl (lv_at hl 1 rfl) ?_
  refine va_get (D := D) (ci := 8) (v := .int 2) (C := RX11) (T := TX11) (N := 36) hx hb hU iX11 hown hK.1 hP 0 rfl rfl 0 (by decide) (hU _ w785) (fun _ h9 => h9) rfl dX11_first_9 ?_
  refine lv_icmp_ge (tgt := 27) hx hb dX11_first_12 (by decide) (fun cc => absurd cc (by decide +kernel)) (fun _ => ?_)
  refine lv_aload_n hx hb dX11_first_15 rfl (lv_at hl 2 rfl) ?_
  refine lv_iconst (v := 4) hx hb dX11_first_16 (by decide) ?_
  refine lv_iload_n hx hb dX11_first_17 rfl (lv_at hl 0 rfl) ?_
  refine lv_imul hx hb dX11_first_18 (sv_i (v := 0) (by decide +kernel) ?_)
  refine lv_lconst (v := 1) hx hb dX11_first_19 (by decide) ?_
  refine st_l (j := 0) (g := tL [1, 0, 0, 0, 0, 0, 0, 0, 0] 0) hx hb hK hP hD hS 1 rfl (by decide +kernel) upd_tL dX11_first_20 (fun H locs hP hD hS => ?_)
  have hP : va_P D cl0 [(h1, .inr (8, [.int 2, .int 3, .int 836760821, .int 0, .int 0, .int 0, .ref h2, .ref h3, .int 0, .int 0, .ref h0, .ref h4, .ref h5, .ref h6, .ref h7, .ref h8, .ref h9, .int 0, .int 0, .int 0, .ref h10, .ref h11, .ref h12, .ref h13, .int 0, .int 0, .ref h14, .ref h15, .ref h16, .ref h17, .int 0, .int 0, .ref h18, .ref h19, .ref h20, .ref h21])), (h0, .inl (k 1, 9, .inr (.inl (tL [1, 0, 0, 0, 0, 0, 0, 0, 0] 0))))] H := hP
  have hD : va_D A [(h1, .inr (8, [.int 2, .int 3, .int 836760821, .int 0, .int 0, .int 0, .ref h2, .ref h3, .int 0, .int 0, .ref h0, .ref h4, .ref h5, .ref h6, .ref h7, .ref h8, .ref h9, .int 0, .int 0, .int 0, .ref h10, .ref h11, .ref h12, .ref h13, .int 0, .int 0, .ref h14, .ref h15, .ref h16, .ref h17, .int 0, .int 0, .ref h18, .ref h19, .ref h20, .ref h21])), (h0, .inl (k 1, 9, .inr (.inl (tL [1, 0, 0, 0, 0, 0, 0, 0, 0] 0))))] := hD
  refine lv_iinc (v := 1) (lv' := [(2, .int 1), (0, .ref h1), (1, .ref h0)]) hx hb dX11_first_21 hl (k := 0) rfl (by decide) (by decide) rfl (fun ls hl => ?_)
  refine lv_goto (tgt := 7) hx hb dX11_first_24 (by decide) ?_
  refine lv_iload_n hx hb dX11_first_7 rfl (lv_at hl 0 rfl) ?_
  refine lv_aload_n hx hb dX11_first_8 rfl (lv_at hl 1 rfl) ?_
  refine va_get (D := D) (ci := 8) (v := .int 2) (C := RX11) (T := TX11) (N := 36) hx hb hU iX11 hown hK.1 hP 0 rfl rfl 0 (by decide) (hU _ w785) (fun _ h9 => h9) rfl dX11_first_9 ?_
  refine lv_icmp_ge (tgt := 27) hx hb dX11_first_12 (by decide) (fun cc => absurd cc (by decide +kernel)) (fun _ => ?_)
  refine lv_aload_n hx hb dX11_first_15 rfl (lv_at hl 2 rfl) ?_
  refine lv_iconst (v := 4) hx hb dX11_first_16 (by decide) ?_
  refine lv_iload_n hx hb dX11_first_17 rfl (lv_at hl 0 rfl) ?_
  refine lv_imul hx hb dX11_first_18 (sv_i (v := 4) (by decide +kernel) ?_)
  refine lv_lconst (v := 1) hx hb dX11_first_19 (by decide) ?_
  refine st_l (j := 4) (g := tL [1, 0, 0, 0, 1, 0, 0, 0, 0] 0) hx hb hK hP hD hS 1 rfl (by decide +kernel) upd_tL dX11_first_20 (fun H locs hP hD hS => ?_)
  have hP : va_P D cl0 [(h1, .inr (8, [.int 2, .int 3, .int 836760821, .int 0, .int 0, .int 0, .ref h2, .ref h3, .int 0, .int 0, .ref h0, .ref h4, .ref h5, .ref h6, .ref h7, .ref h8, .ref h9, .int 0, .int 0, .int 0, .ref h10, .ref h11, .ref h12, .ref h13, .int 0, .int 0, .ref h14, .ref h15, .ref h16, .ref h17, .int 0, .int 0, .ref h18, .ref h19, .ref h20, .ref h21])), (h0, .inl (k 1, 9, .inr (.inl (tL [1, 0, 0, 0, 1, 0, 0, 0, 0] 0))))] H := hP
  have hD : va_D A [(h1, .inr (8, [.int 2, .int 3, .int 836760821, .int 0, .int 0, .int 0, .ref h2, .ref h3, .int 0, .int 0, .ref h0, .ref h4, .ref h5, .ref h6, .ref h7, .ref h8, .ref h9, .int 0, .int 0, .int 0, .ref h10, .ref h11, .ref h12, .ref h13, .int 0, .int 0, .ref h14, .ref h15, .ref h16, .ref h17, .int 0, .int 0, .ref h18, .ref h19, .ref h20, .ref h21])), (h0, .inl (k 1, 9, .inr (.inl (tL [1, 0, 0, 0, 1, 0, 0, 0, 0] 0))))] := hD
  refine lv_iinc (v := 2) (lv' := [(2, .int 2), (0, .ref h1), (1, .ref h0)]) hx hb dX11_first_21 hl (k := 0) rfl (by decide) (by decide) rfl (fun ls hl => ?_)
  refine lv_goto (tgt := 7) hx hb dX11_first_24 (by decide) ?_
  refine lv_iload_n hx hb dX11_first_7 rfl (lv_at hl 0 rfl) ?_
  refine lv_aload_n hx hb dX11_first_8 rfl (lv_at hl 1 rfl) ?_
  refine va_get (D := D) (ci := 8) (v := .int 2) (C := RX11) (T := TX11) (N := 36) hx hb hU iX11 hown hK.1 hP 0 rfl rfl 0 (by decide) (hU _ w785) (fun _ h9 => h9) rfl dX11_first_9 ?_
  refine lv_icmp_ge (tgt := 27) hx hb dX11_first_12 (by decide) (fun _ => ?_) (fun cc => absurd (by decide +kernel) cc)
  exact retV hx hb hr hlocks hS (⟨hP, hD⟩) dX11_first_27
abbrev BX11_makesUnit_10 (D : va_G) (k : Nat → ClassId) (h0 h1 h2 h3 h4 h5 h6 h7 h8 h9 h10 h11 h12 h13 h14 h15 h16 h17 h18 h19 h20 h21 : Nat) (A : Nat → Prop) (H : Heap) : Prop := va_P D cl0 [(h0, .inr (8, [.int 2, .int 3, .int 836760821, .int 0, .int 0, .int 0, .ref h2, .ref h3, .int 0, .int 0, .ref h1, .ref h4, .ref h5, .ref h6, .ref h7, .ref h8, .ref h9, .int 0, .int 0, .int 0, .ref h10, .ref h11, .ref h12, .ref h13, .int 0, .int 0, .ref h14, .ref h15, .ref h16, .ref h17, .int 0, .int 0, .ref h18, .ref h19, .ref h20, .ref h21])), (h1, .inl (k 1, 9, .inr (.inl (tL [1, 0, 0, 0, 1, 0, 0, 0, 0] 0))))] H ∧ va_D A [(h0, .inr (8, [.int 2, .int 3, .int 836760821, .int 0, .int 0, .int 0, .ref h2, .ref h3, .int 0, .int 0, .ref h1, .ref h4, .ref h5, .ref h6, .ref h7, .ref h8, .ref h9, .int 0, .int 0, .int 0, .ref h10, .ref h11, .ref h12, .ref h13, .int 0, .int 0, .ref h14, .ref h15, .ref h16, .ref h17, .int 0, .int 0, .ref h18, .ref h19, .ref h20, .ref h21])), (h1, .inl (k 1, 9, .inr (.inl (tL [1, 0, 0, 0, 1, 0, 0, 0, 0] 0))))]
set_option maxHeartbeats 4000000 in
set_option maxRecDepth 100000 in
theorem cX11_makesUnit_10 (l : Launch) (D : va_G) (k : Nat → ClassId) (sz : Nat) (h0 h1 h2 h3 h4 h5 h6 h7 h8 h9 h10 h11 h12 h13 h14 h15 h16 h17 h18 h19 h20 h21 : Nat) : Met l yX11_makesUnit (Cond.code yX11_makesUnit cX11_makesUnit 4 none :: uw) ({ frames := 2, cells := 0, slots := 0, locals := 44 }) (pC D k sz [.ref h0, .int 0, .int 1, .int 0] [(h0, .inr (8, [.int 2, .int 3, .int 836760821, .int 0, .int 0, .int 0, .ref h2, .ref h3, .int 0, .int 0, .ref h1, .ref h4, .ref h5, .ref h6, .ref h7, .ref h8, .ref h9, .int 0, .int 0, .int 0, .ref h10, .ref h11, .ref h12, .ref h13, .int 0, .int 0, .ref h14, .ref h15, .ref h16, .ref h17, .int 0, .int 0, .ref h18, .ref h19, .ref h20, .ref h21])), (h1, .inl (k 1, 9, .inr (.inl (tL [1, (-2), 0, 0, 1, 0, 0, 0, 0] 0))))]) (qV (BX11_makesUnit_10 D k h0 h1 h2 h3 h4 h5 h6 h7 h8 h9 h10 h11 h12 h13 h14 h15 h16 h17 h18 h19 h20 h21 (va_A [(h0, .inr (8, [.int 2, .int 3, .int 836760821, .int 0, .int 0, .int 0, .ref h2, .ref h3, .int 0, .int 0, .ref h1, .ref h4, .ref h5, .ref h6, .ref h7, .ref h8, .ref h9, .int 0, .int 0, .int 0, .ref h10, .ref h11, .ref h12, .ref h13, .int 0, .int 0, .ref h14, .ref h15, .ref h16, .ref h17, .int 0, .int 0, .ref h18, .ref h19, .ref h20, .ref h21])), (h1, .inl (k 1, 9, .inr (.inl (tL [1, (-2), 0, 0, 1, 0, 0, 0, 0] 0))))] sz)) (va_A [(h0, .inr (8, [.int 2, .int 3, .int 836760821, .int 0, .int 0, .int 0, .ref h2, .ref h3, .int 0, .int 0, .ref h1, .ref h4, .ref h5, .ref h6, .ref h7, .ref h8, .ref h9, .int 0, .int 0, .int 0, .ref h10, .ref h11, .ref h12, .ref h13, .int 0, .int 0, .ref h14, .ref h15, .ref h16, .ref h17, .int 0, .int 0, .ref h18, .ref h19, .ref h20, .ref h21])), (h1, .inl (k 1, 9, .inr (.inl (tL [1, (-2), 0, 0, 1, 0, 0, 0, 0] 0))))] sz)) 0 0 (va_A [(h0, .inr (8, [.int 2, .int 3, .int 836760821, .int 0, .int 0, .int 0, .ref h2, .ref h3, .int 0, .int 0, .ref h1, .ref h4, .ref h5, .ref h6, .ref h7, .ref h8, .ref h9, .int 0, .int 0, .int 0, .ref h10, .ref h11, .ref h12, .ref h13, .int 0, .int 0, .ref h14, .ref h15, .ref h16, .ref h17, .int 0, .int 0, .ref h18, .ref h19, .ref h20, .ref h21])), (h1, .inl (k 1, 9, .inr (.inl (tL [1, (-2), 0, 0, 1, 0, 0, 0, 0] 0))))] sz) := by
  refine begin_ (Qc := fun A => qV (BX11_makesUnit_10 D k h0 h1 h2 h3 h4 h5 h6 h7 h8 h9 h10 h11 h12 h13 h14 h15 h16 h17 h18 h19 h20 h21 A) A) (by decide) (Nat.le_of_ble_eq_true rfl) ?_
  intro p e s m below meth c ls A hx hb hr hml hown hlocks hin hU hK hsz hP hD hS hA hl
  have hl : lv_has ls 4 [(0, .ref h0), (1, .int 0), (2, .int 1), (3, .int 0)] := hl
  clear hsz
  refine lv_aload_n hx hb dX11_makesUnit_0 rfl (lv_at hl 0 rfl) ?_
  refine lv_aload_n hx hb dX11_makesUnit_1 rfl (lv_at hl 0 rfl) ?_
  refine va_get (D := D) (ci := 8) (v := .ref h1) (C := RX11) (T := TX11) (N := 36) hx hb hU iX11 hown hK.1 hP 0 rfl rfl 10 (by decide) (hU _ w795) (fun _ h9 => h9) rfl dX11_makesUnit_2 ?_
  refine cV (rV (q0 := 0) (ci := 8) (As := [.ref h1]) (rest := []) (wc := [(h1, .inl (k 1, 9, .inr (.inl (tL [1, (-2), 0, 0, 1, 0, 0, 0, 0] 0)))), (h0, .inr (8, [.int 2, .int 3, .int 836760821, .int 0, .int 0, .int 0, .ref h2, .ref h3, .int 0, .int 0, .ref h1, .ref h4, .ref h5, .ref h6, .ref h7, .ref h8, .ref h9, .int 0, .int 0, .int 0, .ref h10, .ref h11, .ref h12, .ref h13, .int 0, .int 0, .ref h14, .ref h15, .ref h16, .ref h17, .int 0, .int 0, .ref h18, .ref h19, .ref h20, .ref h21]))]) hx hb hml hown hU hK hP hD rfl rfl [1, 0] rfl (by decide) (cX11_first_5 l D k _ h1 h0 h2 h3 h4 h5 h6 h7 h8 h9 h10 h11 h12 h13 h14 h15 h16 h17 h18 h19 h20 h21) w919 w916 w918 w28 w72 hdX11_first ⟨rfl, rfl⟩ ⟨Nat.le_of_ble_eq_true rfl, Nat.le_of_ble_eq_true rfl⟩ rfl hl.1 (Nat.le_of_ble_eq_true rfl) dX11_makesUnit_5 ⟨Nat.le_of_ble_eq_true rfl, Nat.le_of_ble_eq_true rfl⟩) hP hD hS hA (wr := []) [1, 0] [] rfl rfl (by decide) (by decide) (fun H locs hB J hS => ?_)
  obtain ⟨hP1, hD1⟩ := hB
  obtain ⟨hP, hD⟩ := J _ hP1 hD1
  have hP : va_P D cl0 [(h0, .inr (8, [.int 2, .int 3, .int 836760821, .int 0, .int 0, .int 0, .ref h2, .ref h3, .int 0, .int 0, .ref h1, .ref h4, .ref h5, .ref h6, .ref h7, .ref h8, .ref h9, .int 0, .int 0, .int 0, .ref h10, .ref h11, .ref h12, .ref h13, .int 0, .int 0, .ref h14, .ref h15, .ref h16, .ref h17, .int 0, .int 0, .ref h18, .ref h19, .ref h20, .ref h21])), (h1, .inl (k 1, 9, .inr (.inl (tL [1, 0, 0, 0, 1, 0, 0, 0, 0] 0))))] H := hP
  have hD : va_D A [(h0, .inr (8, [.int 2, .int 3, .int 836760821, .int 0, .int 0, .int 0, .ref h2, .ref h3, .int 0, .int 0, .ref h1, .ref h4, .ref h5, .ref h6, .ref h7, .ref h8, .ref h9, .int 0, .int 0, .int 0, .ref h10, .ref h11, .ref h12, .ref h13, .int 0, .int 0, .ref h14, .ref h15, .ref h16, .ref h17, .int 0, .int 0, .ref h18, .ref h19, .ref h20, .ref h21])), (h1, .inl (k 1, 9, .inr (.inl (tL [1, 0, 0, 0, 1, 0, 0, 0, 0] 0))))] := hD
  refine lv_aload_n hx hb dX11_makesUnit_8 rfl (lv_at hl 0 rfl) ?_
  refine va_get (D := D) (ci := 8) (v := .ref h1) (C := RX11) (T := TX11) (N := 36) hx hb hU iX11 hown hK.1 hP 0 rfl rfl 10 (by decide) (hU _ w795) (fun _ h9 => h9) rfl dX11_makesUnit_9 ?_
  refine lv_iconst (v := 3) hx hb dX11_makesUnit_12 (by decide) ?_
  refine lv_iload_n hx hb dX11_makesUnit_13 rfl (lv_at hl 1 rfl) ?_
  refine lv_imul hx hb dX11_makesUnit_14 (sv_i (v := 0) (by decide +kernel) ?_)
  refine lv_iload_n hx hb dX11_makesUnit_15 rfl (lv_at hl 2 rfl) ?_
  refine lv_iadd hx hb dX11_makesUnit_16 (sv_i (v := 1) (by decide +kernel) ?_)
  refine lv_iload_n hx hb dX11_makesUnit_17 rfl (lv_at hl 3 rfl) ?_
  refine lv_i2l (v := 0) hx hb dX11_makesUnit_18 (by decide +kernel) ?_
  refine st_l (j := 1) (g := tL [1, 0, 0, 0, 1, 0, 0, 0, 0] 0) hx hb hK hP hD hS 1 rfl (by decide +kernel) upd_tL dX11_makesUnit_19 (fun H locs hP hD hS => ?_)
  have hP : va_P D cl0 [(h0, .inr (8, [.int 2, .int 3, .int 836760821, .int 0, .int 0, .int 0, .ref h2, .ref h3, .int 0, .int 0, .ref h1, .ref h4, .ref h5, .ref h6, .ref h7, .ref h8, .ref h9, .int 0, .int 0, .int 0, .ref h10, .ref h11, .ref h12, .ref h13, .int 0, .int 0, .ref h14, .ref h15, .ref h16, .ref h17, .int 0, .int 0, .ref h18, .ref h19, .ref h20, .ref h21])), (h1, .inl (k 1, 9, .inr (.inl (tL [1, 0, 0, 0, 1, 0, 0, 0, 0] 0))))] H := hP
  have hD : va_D A [(h0, .inr (8, [.int 2, .int 3, .int 836760821, .int 0, .int 0, .int 0, .ref h2, .ref h3, .int 0, .int 0, .ref h1, .ref h4, .ref h5, .ref h6, .ref h7, .ref h8, .ref h9, .int 0, .int 0, .int 0, .ref h10, .ref h11, .ref h12, .ref h13, .int 0, .int 0, .ref h14, .ref h15, .ref h16, .ref h17, .int 0, .int 0, .ref h18, .ref h19, .ref h20, .ref h21])), (h1, .inl (k 1, 9, .inr (.inl (tL [1, 0, 0, 0, 1, 0, 0, 0, 0] 0))))] := hD
  exact retV hx hb hr hlocks hS (⟨hP, hD⟩) dX11_makesUnit_20
abbrev BX11_comes_9 (D : va_G) (k : Nat → ClassId) (h0 h1 h2 h3 h4 h5 h6 h7 h8 h9 h10 h11 h12 h13 h14 h15 h16 h17 h18 h19 h20 h21 : Nat) (A : Nat → Prop) (r : Int32) (H : Heap) : Prop := 3 = r ∧ va_P D cl0 [(h0, .inr (8, [.int 2, .int 4, .int 836760821, .int 0, .int 0, .int 0, .ref h2, .ref h3, .int 0, .int 0, .ref h1, .ref h4, .ref h5, .ref h6, .ref h7, .ref h8, .ref h9, .int 0, .int 0, .int 0, .ref h10, .ref h11, .ref h12, .ref h13, .int 0, .int 0, .ref h14, .ref h15, .ref h16, .ref h17, .int 0, .int 0, .ref h18, .ref h19, .ref h20, .ref h21])), (h1, .inl (k 1, 9, .inr (.inl (tL [1, 0, 0, 0, 1, 0, 0, 0, 0] 0)))), (h2, .inl (k 0, 36, .inl (tI [(-1), 0, 0, 0, 1, 0, 0, 0, 0, 1, 0, 0, 0, (-1), 0, 0, 0, 0, 1, (-2), 0, 0, 1, 0, 0, 0, 0, 1, 0, 0, 0, 1, 0, 0, 0, 0] 0)))] H ∧ va_D A [(h0, .inr (8, [.int 2, .int 4, .int 836760821, .int 0, .int 0, .int 0, .ref h2, .ref h3, .int 0, .int 0, .ref h1, .ref h4, .ref h5, .ref h6, .ref h7, .ref h8, .ref h9, .int 0, .int 0, .int 0, .ref h10, .ref h11, .ref h12, .ref h13, .int 0, .int 0, .ref h14, .ref h15, .ref h16, .ref h17, .int 0, .int 0, .ref h18, .ref h19, .ref h20, .ref h21])), (h1, .inl (k 1, 9, .inr (.inl (tL [1, 0, 0, 0, 1, 0, 0, 0, 0] 0)))), (h2, .inl (k 0, 36, .inl (tI [(-1), 0, 0, 0, 1, 0, 0, 0, 0, 1, 0, 0, 0, (-1), 0, 0, 0, 0, 1, (-2), 0, 0, 1, 0, 0, 0, 0, 1, 0, 0, 0, 1, 0, 0, 0, 0] 0)))]
set_option maxHeartbeats 4000000 in
set_option maxRecDepth 100000 in
theorem cX11_comes_9 (l : Launch) (D : va_G) (k : Nat → ClassId) (sz : Nat) (h0 h1 h2 h3 h4 h5 h6 h7 h8 h9 h10 h11 h12 h13 h14 h15 h16 h17 h18 h19 h20 h21 : Nat) : Met l yX11_comes (Cond.code yX11_comes cX11_comes 2 (some .int) :: uw) ({ frames := 0, cells := 0, slots := 0, locals := 0 }) (pC D k sz [.ref h0] [(h0, .inr (8, [.int 2, .int 3, .int 836760821, .int 0, .int 0, .int 0, .ref h2, .ref h3, .int 0, .int 0, .ref h1, .ref h4, .ref h5, .ref h6, .ref h7, .ref h8, .ref h9, .int 0, .int 0, .int 0, .ref h10, .ref h11, .ref h12, .ref h13, .int 0, .int 0, .ref h14, .ref h15, .ref h16, .ref h17, .int 0, .int 0, .ref h18, .ref h19, .ref h20, .ref h21])), (h1, .inl (k 1, 9, .inr (.inl (tL [1, 0, 0, 0, 1, 0, 0, 0, 0] 0)))), (h2, .inl (k 0, 36, .inl (tI [(-1), 0, 0, 0, 1, 0, 0, 0, 0, 1, 0, 0, 0, (-1), 0, 0, 0, 0, 1, (-2), 0, 0, 1, 0, 0, 0, 0] 0)))]) (qI (BX11_comes_9 D k h0 h1 h2 h3 h4 h5 h6 h7 h8 h9 h10 h11 h12 h13 h14 h15 h16 h17 h18 h19 h20 h21 (va_A [(h0, .inr (8, [.int 2, .int 3, .int 836760821, .int 0, .int 0, .int 0, .ref h2, .ref h3, .int 0, .int 0, .ref h1, .ref h4, .ref h5, .ref h6, .ref h7, .ref h8, .ref h9, .int 0, .int 0, .int 0, .ref h10, .ref h11, .ref h12, .ref h13, .int 0, .int 0, .ref h14, .ref h15, .ref h16, .ref h17, .int 0, .int 0, .ref h18, .ref h19, .ref h20, .ref h21])), (h1, .inl (k 1, 9, .inr (.inl (tL [1, 0, 0, 0, 1, 0, 0, 0, 0] 0)))), (h2, .inl (k 0, 36, .inl (tI [(-1), 0, 0, 0, 1, 0, 0, 0, 0, 1, 0, 0, 0, (-1), 0, 0, 0, 0, 1, (-2), 0, 0, 1, 0, 0, 0, 0] 0)))] sz)) (va_A [(h0, .inr (8, [.int 2, .int 3, .int 836760821, .int 0, .int 0, .int 0, .ref h2, .ref h3, .int 0, .int 0, .ref h1, .ref h4, .ref h5, .ref h6, .ref h7, .ref h8, .ref h9, .int 0, .int 0, .int 0, .ref h10, .ref h11, .ref h12, .ref h13, .int 0, .int 0, .ref h14, .ref h15, .ref h16, .ref h17, .int 0, .int 0, .ref h18, .ref h19, .ref h20, .ref h21])), (h1, .inl (k 1, 9, .inr (.inl (tL [1, 0, 0, 0, 1, 0, 0, 0, 0] 0)))), (h2, .inl (k 0, 36, .inl (tI [(-1), 0, 0, 0, 1, 0, 0, 0, 0, 1, 0, 0, 0, (-1), 0, 0, 0, 0, 1, (-2), 0, 0, 1, 0, 0, 0, 0] 0)))] sz)) 0 0 (va_A [(h0, .inr (8, [.int 2, .int 3, .int 836760821, .int 0, .int 0, .int 0, .ref h2, .ref h3, .int 0, .int 0, .ref h1, .ref h4, .ref h5, .ref h6, .ref h7, .ref h8, .ref h9, .int 0, .int 0, .int 0, .ref h10, .ref h11, .ref h12, .ref h13, .int 0, .int 0, .ref h14, .ref h15, .ref h16, .ref h17, .int 0, .int 0, .ref h18, .ref h19, .ref h20, .ref h21])), (h1, .inl (k 1, 9, .inr (.inl (tL [1, 0, 0, 0, 1, 0, 0, 0, 0] 0)))), (h2, .inl (k 0, 36, .inl (tI [(-1), 0, 0, 0, 1, 0, 0, 0, 0, 1, 0, 0, 0, (-1), 0, 0, 0, 0, 1, (-2), 0, 0, 1, 0, 0, 0, 0] 0)))] sz) := by
  refine begin_ (Qc := fun A => qI (BX11_comes_9 D k h0 h1 h2 h3 h4 h5 h6 h7 h8 h9 h10 h11 h12 h13 h14 h15 h16 h17 h18 h19 h20 h21 A) A) (by decide) (Nat.le_of_ble_eq_true rfl) ?_
  intro p e s m below meth c ls A hx hb hr hml hown hlocks hin hU hK hsz hP hD hS hA hl
  have hl : lv_has ls 2 [(0, .ref h0)] := hl
  clear hsz
  refine lv_iconst (v := 0) hx hb dX11_comes_0 (by decide) ?_
  refine lv_istore_n (lv' := [(1, .int 0), (0, .ref h0)]) hx hb dX11_comes_1 rfl hl (by decide) rfl (fun ls hl => ?_)
  refine lv_iload_n hx hb dX11_comes_2 rfl (lv_at hl 0 rfl) ?_
  refine lv_bipush (v := 9) hx hb dX11_comes_3 (by decide) ?_
  refine lv_icmp_ge (tgt := 35) hx hb dX11_comes_5 (by decide) (fun cc => absurd cc (by decide +kernel)) (fun _ => ?_)
  refine lv_aload_n hx hb dX11_comes_8 rfl (lv_at hl 1 rfl) ?_
  refine va_get (D := D) (ci := 8) (v := .ref h2) (C := RX11) (T := TX11) (N := 36) hx hb hU iX11 hown hK.1 hP 0 rfl rfl 6 (by decide) (hU _ w791) (fun _ h9 => h9) rfl dX11_comes_9 ?_
  refine lv_bipush (v := 9) hx hb dX11_comes_12 (by decide) ?_
  refine lv_aload_n hx hb dX11_comes_14 rfl (lv_at hl 1 rfl) ?_
  refine va_get (D := D) (ci := 8) (v := .int 3) (C := RX11) (T := TX11) (N := 36) hx hb hU iX11 hown hK.1 hP 0 rfl rfl 1 (by decide) (hU _ w786) (fun _ h9 => h9) rfl dX11_comes_15 ?_
  refine lv_imul hx hb dX11_comes_18 (sv_i (v := 27) (by decide +kernel) ?_)
  refine lv_iload_n hx hb dX11_comes_19 rfl (lv_at hl 0 rfl) ?_
  refine lv_iadd hx hb dX11_comes_20 (sv_i (v := 27) (by decide +kernel) ?_)
  refine lv_aload_n hx hb dX11_comes_21 rfl (lv_at hl 1 rfl) ?_
  refine va_get (D := D) (ci := 8) (v := .ref h1) (C := RX11) (T := TX11) (N := 36) hx hb hU iX11 hown hK.1 hP 0 rfl rfl 10 (by decide) (hU _ w795) (fun _ h9 => h9) rfl dX11_comes_22 ?_
  refine lv_iload_n hx hb dX11_comes_25 rfl (lv_at hl 0 rfl) ?_
  refine ld_l (j := 0) (v := 1) hx hb hK hP 1 rfl (by decide +kernel) rfl dX11_comes_26 ?_
  refine lv_l2i (v := 1) hx hb dX11_comes_27 (by decide +kernel) ?_
  refine st_i (j := 27) (g := tI [(-1), 0, 0, 0, 1, 0, 0, 0, 0, 1, 0, 0, 0, (-1), 0, 0, 0, 0, 1, (-2), 0, 0, 1, 0, 0, 0, 0, 1] 0) hx hb hK hP hD hS 2 rfl (by decide +kernel) upd_tI dX11_comes_28 (fun H locs hP hD hS => ?_)
  have hP : va_P D cl0 [(h0, .inr (8, [.int 2, .int 3, .int 836760821, .int 0, .int 0, .int 0, .ref h2, .ref h3, .int 0, .int 0, .ref h1, .ref h4, .ref h5, .ref h6, .ref h7, .ref h8, .ref h9, .int 0, .int 0, .int 0, .ref h10, .ref h11, .ref h12, .ref h13, .int 0, .int 0, .ref h14, .ref h15, .ref h16, .ref h17, .int 0, .int 0, .ref h18, .ref h19, .ref h20, .ref h21])), (h1, .inl (k 1, 9, .inr (.inl (tL [1, 0, 0, 0, 1, 0, 0, 0, 0] 0)))), (h2, .inl (k 0, 36, .inl (tI [(-1), 0, 0, 0, 1, 0, 0, 0, 0, 1, 0, 0, 0, (-1), 0, 0, 0, 0, 1, (-2), 0, 0, 1, 0, 0, 0, 0, 1] 0)))] H := hP
  have hD : va_D A [(h0, .inr (8, [.int 2, .int 3, .int 836760821, .int 0, .int 0, .int 0, .ref h2, .ref h3, .int 0, .int 0, .ref h1, .ref h4, .ref h5, .ref h6, .ref h7, .ref h8, .ref h9, .int 0, .int 0, .int 0, .ref h10, .ref h11, .ref h12, .ref h13, .int 0, .int 0, .ref h14, .ref h15, .ref h16, .ref h17, .int 0, .int 0, .ref h18, .ref h19, .ref h20, .ref h21])), (h1, .inl (k 1, 9, .inr (.inl (tL [1, 0, 0, 0, 1, 0, 0, 0, 0] 0)))), (h2, .inl (k 0, 36, .inl (tI [(-1), 0, 0, 0, 1, 0, 0, 0, 0, 1, 0, 0, 0, (-1), 0, 0, 0, 0, 1, (-2), 0, 0, 1, 0, 0, 0, 0, 1] 0)))] := hD
  refine lv_iinc (v := 1) (lv' := [(1, .int 1), (0, .ref h0)]) hx hb dX11_comes_29 hl (k := 0) rfl (by decide) (by decide) rfl (fun ls hl => ?_)
  refine lv_goto (tgt := 2) hx hb dX11_comes_32 (by decide) ?_
  refine lv_iload_n hx hb dX11_comes_2 rfl (lv_at hl 0 rfl) ?_
  refine lv_bipush (v := 9) hx hb dX11_comes_3 (by decide) ?_
  refine lv_icmp_ge (tgt := 35) hx hb dX11_comes_5 (by decide) (fun cc => absurd cc (by decide +kernel)) (fun _ => ?_)
  refine lv_aload_n hx hb dX11_comes_8 rfl (lv_at hl 1 rfl) ?_
  refine va_get (D := D) (ci := 8) (v := .ref h2) (C := RX11) (T := TX11) (N := 36) hx hb hU iX11 hown hK.1 hP 0 rfl rfl 6 (by decide) (hU _ w791) (fun _ h9 => h9) rfl dX11_comes_9 ?_
  refine lv_bipush (v := 9) hx hb dX11_comes_12 (by decide) ?_
  refine lv_aload_n hx hb dX11_comes_14 rfl (lv_at hl 1 rfl) ?_
  refine va_get (D := D) (ci := 8) (v := .int 3) (C := RX11) (T := TX11) (N := 36) hx hb hU iX11 hown hK.1 hP 0 rfl rfl 1 (by decide) (hU _ w786) (fun _ h9 => h9) rfl dX11_comes_15 ?_
  refine lv_imul hx hb dX11_comes_18 (sv_i (v := 27) (by decide +kernel) ?_)
  refine lv_iload_n hx hb dX11_comes_19 rfl (lv_at hl 0 rfl) ?_
  refine lv_iadd hx hb dX11_comes_20 (sv_i (v := 28) (by decide +kernel) ?_)
  refine lv_aload_n hx hb dX11_comes_21 rfl (lv_at hl 1 rfl) ?_
  refine va_get (D := D) (ci := 8) (v := .ref h1) (C := RX11) (T := TX11) (N := 36) hx hb hU iX11 hown hK.1 hP 0 rfl rfl 10 (by decide) (hU _ w795) (fun _ h9 => h9) rfl dX11_comes_22 ?_
  refine lv_iload_n hx hb dX11_comes_25 rfl (lv_at hl 0 rfl) ?_
  refine ld_l (j := 1) (v := 0) hx hb hK hP 1 rfl (by decide +kernel) rfl dX11_comes_26 ?_
  refine lv_l2i (v := 0) hx hb dX11_comes_27 (by decide +kernel) ?_
  refine st_i (j := 28) (g := tI [(-1), 0, 0, 0, 1, 0, 0, 0, 0, 1, 0, 0, 0, (-1), 0, 0, 0, 0, 1, (-2), 0, 0, 1, 0, 0, 0, 0, 1, 0] 0) hx hb hK hP hD hS 2 rfl (by decide +kernel) upd_tI dX11_comes_28 (fun H locs hP hD hS => ?_)
  have hP : va_P D cl0 [(h0, .inr (8, [.int 2, .int 3, .int 836760821, .int 0, .int 0, .int 0, .ref h2, .ref h3, .int 0, .int 0, .ref h1, .ref h4, .ref h5, .ref h6, .ref h7, .ref h8, .ref h9, .int 0, .int 0, .int 0, .ref h10, .ref h11, .ref h12, .ref h13, .int 0, .int 0, .ref h14, .ref h15, .ref h16, .ref h17, .int 0, .int 0, .ref h18, .ref h19, .ref h20, .ref h21])), (h1, .inl (k 1, 9, .inr (.inl (tL [1, 0, 0, 0, 1, 0, 0, 0, 0] 0)))), (h2, .inl (k 0, 36, .inl (tI [(-1), 0, 0, 0, 1, 0, 0, 0, 0, 1, 0, 0, 0, (-1), 0, 0, 0, 0, 1, (-2), 0, 0, 1, 0, 0, 0, 0, 1, 0] 0)))] H := hP
  have hD : va_D A [(h0, .inr (8, [.int 2, .int 3, .int 836760821, .int 0, .int 0, .int 0, .ref h2, .ref h3, .int 0, .int 0, .ref h1, .ref h4, .ref h5, .ref h6, .ref h7, .ref h8, .ref h9, .int 0, .int 0, .int 0, .ref h10, .ref h11, .ref h12, .ref h13, .int 0, .int 0, .ref h14, .ref h15, .ref h16, .ref h17, .int 0, .int 0, .ref h18, .ref h19, .ref h20, .ref h21])), (h1, .inl (k 1, 9, .inr (.inl (tL [1, 0, 0, 0, 1, 0, 0, 0, 0] 0)))), (h2, .inl (k 0, 36, .inl (tI [(-1), 0, 0, 0, 1, 0, 0, 0, 0, 1, 0, 0, 0, (-1), 0, 0, 0, 0, 1, (-2), 0, 0, 1, 0, 0, 0, 0, 1, 0] 0)))] := hD
  refine lv_iinc (v := 2) (lv' := [(1, .int 2), (0, .ref h0)]) hx hb dX11_comes_29 hl (k := 0) rfl (by decide) (by decide) rfl (fun ls hl => ?_)
  refine lv_goto (tgt := 2) hx hb dX11_comes_32 (by decide) ?_
  refine lv_iload_n hx hb dX11_comes_2 rfl (lv_at hl 0 rfl) ?_
  refine lv_bipush (v := 9) hx hb dX11_comes_3 (by decide) ?_
  refine lv_icmp_ge (tgt := 35) hx hb dX11_comes_5 (by decide) (fun cc => absurd cc (by decide +kernel)) (fun _ => ?_)
  refine lv_aload_n hx hb dX11_comes_8 rfl (lv_at hl 1 rfl) ?_
  refine va_get (D := D) (ci := 8) (v := .ref h2) (C := RX11) (T := TX11) (N := 36) hx hb hU iX11 hown hK.1 hP 0 rfl rfl 6 (by decide) (hU _ w791) (fun _ h9 => h9) rfl dX11_comes_9 ?_
  refine lv_bipush (v := 9) hx hb dX11_comes_12 (by decide) ?_
  refine lv_aload_n hx hb dX11_comes_14 rfl (lv_at hl 1 rfl) ?_
  refine va_get (D := D) (ci := 8) (v := .int 3) (C := RX11) (T := TX11) (N := 36) hx hb hU iX11 hown hK.1 hP 0 rfl rfl 1 (by decide) (hU _ w786) (fun _ h9 => h9) rfl dX11_comes_15 ?_
  refine lv_imul hx hb dX11_comes_18 (sv_i (v := 27) (by decide +kernel) ?_)
  refine lv_iload_n hx hb dX11_comes_19 rfl (lv_at hl 0 rfl) ?_
  refine lv_iadd hx hb dX11_comes_20 (sv_i (v := 29) (by decide +kernel) ?_)
  refine lv_aload_n hx hb dX11_comes_21 rfl (lv_at hl 1 rfl) ?_
  refine va_get (D := D) (ci := 8) (v := .ref h1) (C := RX11) (T := TX11) (N := 36) hx hb hU iX11 hown hK.1 hP 0 rfl rfl 10 (by decide) (hU _ w795) (fun _ h9 => h9) rfl dX11_comes_22 ?_
  refine lv_iload_n hx hb dX11_comes_25 rfl (lv_at hl 0 rfl) ?_
  refine ld_l (j := 2) (v := 0) hx hb hK hP 1 rfl (by decide +kernel) rfl dX11_comes_26 ?_
  refine lv_l2i (v := 0) hx hb dX11_comes_27 (by decide +kernel) ?_
  refine st_i (j := 29) (g := tI [(-1), 0, 0, 0, 1, 0, 0, 0, 0, 1, 0, 0, 0, (-1), 0, 0, 0, 0, 1, (-2), 0, 0, 1, 0, 0, 0, 0, 1, 0, 0] 0) hx hb hK hP hD hS 2 rfl (by decide +kernel) upd_tI dX11_comes_28 (fun H locs hP hD hS => ?_)
  have hP : va_P D cl0 [(h0, .inr (8, [.int 2, .int 3, .int 836760821, .int 0, .int 0, .int 0, .ref h2, .ref h3, .int 0, .int 0, .ref h1, .ref h4, .ref h5, .ref h6, .ref h7, .ref h8, .ref h9, .int 0, .int 0, .int 0, .ref h10, .ref h11, .ref h12, .ref h13, .int 0, .int 0, .ref h14, .ref h15, .ref h16, .ref h17, .int 0, .int 0, .ref h18, .ref h19, .ref h20, .ref h21])), (h1, .inl (k 1, 9, .inr (.inl (tL [1, 0, 0, 0, 1, 0, 0, 0, 0] 0)))), (h2, .inl (k 0, 36, .inl (tI [(-1), 0, 0, 0, 1, 0, 0, 0, 0, 1, 0, 0, 0, (-1), 0, 0, 0, 0, 1, (-2), 0, 0, 1, 0, 0, 0, 0, 1, 0, 0] 0)))] H := hP
  have hD : va_D A [(h0, .inr (8, [.int 2, .int 3, .int 836760821, .int 0, .int 0, .int 0, .ref h2, .ref h3, .int 0, .int 0, .ref h1, .ref h4, .ref h5, .ref h6, .ref h7, .ref h8, .ref h9, .int 0, .int 0, .int 0, .ref h10, .ref h11, .ref h12, .ref h13, .int 0, .int 0, .ref h14, .ref h15, .ref h16, .ref h17, .int 0, .int 0, .ref h18, .ref h19, .ref h20, .ref h21])), (h1, .inl (k 1, 9, .inr (.inl (tL [1, 0, 0, 0, 1, 0, 0, 0, 0] 0)))), (h2, .inl (k 0, 36, .inl (tI [(-1), 0, 0, 0, 1, 0, 0, 0, 0, 1, 0, 0, 0, (-1), 0, 0, 0, 0, 1, (-2), 0, 0, 1, 0, 0, 0, 0, 1, 0, 0] 0)))] := hD
  refine lv_iinc (v := 3) (lv' := [(1, .int 3), (0, .ref h0)]) hx hb dX11_comes_29 hl (k := 0) rfl (by decide) (by decide) rfl (fun ls hl => ?_)
  refine lv_goto (tgt := 2) hx hb dX11_comes_32 (by decide) ?_
  refine lv_iload_n hx hb dX11_comes_2 rfl (lv_at hl 0 rfl) ?_
  refine lv_bipush (v := 9) hx hb dX11_comes_3 (by decide) ?_
  refine lv_icmp_ge (tgt := 35) hx hb dX11_comes_5 (by decide) (fun cc => absurd cc (by decide +kernel)) (fun _ => ?_)
  refine lv_aload_n hx hb dX11_comes_8 rfl (lv_at hl 1 rfl) ?_
  refine va_get (D := D) (ci := 8) (v := .ref h2) (C := RX11) (T := TX11) (N := 36) hx hb hU iX11 hown hK.1 hP 0 rfl rfl 6 (by decide) (hU _ w791) (fun _ h9 => h9) rfl dX11_comes_9 ?_
  refine lv_bipush (v := 9) hx hb dX11_comes_12 (by decide) ?_
  refine lv_aload_n hx hb dX11_comes_14 rfl (lv_at hl 1 rfl) ?_
  refine va_get (D := D) (ci := 8) (v := .int 3) (C := RX11) (T := TX11) (N := 36) hx hb hU iX11 hown hK.1 hP 0 rfl rfl 1 (by decide) (hU _ w786) (fun _ h9 => h9) rfl dX11_comes_15 ?_
  refine lv_imul hx hb dX11_comes_18 (sv_i (v := 27) (by decide +kernel) ?_)
  refine lv_iload_n hx hb dX11_comes_19 rfl (lv_at hl 0 rfl) ?_
  refine lv_iadd hx hb dX11_comes_20 (sv_i (v := 30) (by decide +kernel) ?_)
  refine lv_aload_n hx hb dX11_comes_21 rfl (lv_at hl 1 rfl) ?_
  refine va_get (D := D) (ci := 8) (v := .ref h1) (C := RX11) (T := TX11) (N := 36) hx hb hU iX11 hown hK.1 hP 0 rfl rfl 10 (by decide) (hU _ w795) (fun _ h9 => h9) rfl dX11_comes_22 ?_
  refine lv_iload_n hx hb dX11_comes_25 rfl (lv_at hl 0 rfl) ?_
  refine ld_l (j := 3) (v := 0) hx hb hK hP 1 rfl (by decide +kernel) rfl dX11_comes_26 ?_
  refine lv_l2i (v := 0) hx hb dX11_comes_27 (by decide +kernel) ?_
  refine st_i (j := 30) (g := tI [(-1), 0, 0, 0, 1, 0, 0, 0, 0, 1, 0, 0, 0, (-1), 0, 0, 0, 0, 1, (-2), 0, 0, 1, 0, 0, 0, 0, 1, 0, 0, 0] 0) hx hb hK hP hD hS 2 rfl (by decide +kernel) upd_tI dX11_comes_28 (fun H locs hP hD hS => ?_)
  have hP : va_P D cl0 [(h0, .inr (8, [.int 2, .int 3, .int 836760821, .int 0, .int 0, .int 0, .ref h2, .ref h3, .int 0, .int 0, .ref h1, .ref h4, .ref h5, .ref h6, .ref h7, .ref h8, .ref h9, .int 0, .int 0, .int 0, .ref h10, .ref h11, .ref h12, .ref h13, .int 0, .int 0, .ref h14, .ref h15, .ref h16, .ref h17, .int 0, .int 0, .ref h18, .ref h19, .ref h20, .ref h21])), (h1, .inl (k 1, 9, .inr (.inl (tL [1, 0, 0, 0, 1, 0, 0, 0, 0] 0)))), (h2, .inl (k 0, 36, .inl (tI [(-1), 0, 0, 0, 1, 0, 0, 0, 0, 1, 0, 0, 0, (-1), 0, 0, 0, 0, 1, (-2), 0, 0, 1, 0, 0, 0, 0, 1, 0, 0, 0] 0)))] H := hP
  have hD : va_D A [(h0, .inr (8, [.int 2, .int 3, .int 836760821, .int 0, .int 0, .int 0, .ref h2, .ref h3, .int 0, .int 0, .ref h1, .ref h4, .ref h5, .ref h6, .ref h7, .ref h8, .ref h9, .int 0, .int 0, .int 0, .ref h10, .ref h11, .ref h12, .ref h13, .int 0, .int 0, .ref h14, .ref h15, .ref h16, .ref h17, .int 0, .int 0, .ref h18, .ref h19, .ref h20, .ref h21])), (h1, .inl (k 1, 9, .inr (.inl (tL [1, 0, 0, 0, 1, 0, 0, 0, 0] 0)))), (h2, .inl (k 0, 36, .inl (tI [(-1), 0, 0, 0, 1, 0, 0, 0, 0, 1, 0, 0, 0, (-1), 0, 0, 0, 0, 1, (-2), 0, 0, 1, 0, 0, 0, 0, 1, 0, 0, 0] 0)))] := hD
  refine lv_iinc (v := 4) (lv' := [(1, .int 4), (0, .ref h0)]) hx hb dX11_comes_29 hl (k := 0) rfl (by decide) (by decide) rfl (fun ls hl => ?_)
  refine lv_goto (tgt := 2) hx hb dX11_comes_32 (by decide) ?_
  refine lv_iload_n hx hb dX11_comes_2 rfl (lv_at hl 0 rfl) ?_
  refine lv_bipush (v := 9) hx hb dX11_comes_3 (by decide) ?_
  refine lv_icmp_ge (tgt := 35) hx hb dX11_comes_5 (by decide) (fun cc => absurd cc (by decide +kernel)) (fun _ => ?_)
  refine lv_aload_n hx hb dX11_comes_8 rfl (lv_at hl 1 rfl) ?_
  refine va_get (D := D) (ci := 8) (v := .ref h2) (C := RX11) (T := TX11) (N := 36) hx hb hU iX11 hown hK.1 hP 0 rfl rfl 6 (by decide) (hU _ w791) (fun _ h9 => h9) rfl dX11_comes_9 ?_
  refine lv_bipush (v := 9) hx hb dX11_comes_12 (by decide) ?_
  refine lv_aload_n hx hb dX11_comes_14 rfl (lv_at hl 1 rfl) ?_
  refine va_get (D := D) (ci := 8) (v := .int 3) (C := RX11) (T := TX11) (N := 36) hx hb hU iX11 hown hK.1 hP 0 rfl rfl 1 (by decide) (hU _ w786) (fun _ h9 => h9) rfl dX11_comes_15 ?_
  refine lv_imul hx hb dX11_comes_18 (sv_i (v := 27) (by decide +kernel) ?_)
  refine lv_iload_n hx hb dX11_comes_19 rfl (lv_at hl 0 rfl) ?_
  refine lv_iadd hx hb dX11_comes_20 (sv_i (v := 31) (by decide +kernel) ?_)
  refine lv_aload_n hx hb dX11_comes_21 rfl (lv_at hl 1 rfl) ?_
  refine va_get (D := D) (ci := 8) (v := .ref h1) (C := RX11) (T := TX11) (N := 36) hx hb hU iX11 hown hK.1 hP 0 rfl rfl 10 (by decide) (hU _ w795) (fun _ h9 => h9) rfl dX11_comes_22 ?_
  refine lv_iload_n hx hb dX11_comes_25 rfl (lv_at hl 0 rfl) ?_
  refine ld_l (j := 4) (v := 1) hx hb hK hP 1 rfl (by decide +kernel) rfl dX11_comes_26 ?_
  refine lv_l2i (v := 1) hx hb dX11_comes_27 (by decide +kernel) ?_
  refine st_i (j := 31) (g := tI [(-1), 0, 0, 0, 1, 0, 0, 0, 0, 1, 0, 0, 0, (-1), 0, 0, 0, 0, 1, (-2), 0, 0, 1, 0, 0, 0, 0, 1, 0, 0, 0, 1] 0) hx hb hK hP hD hS 2 rfl (by decide +kernel) upd_tI dX11_comes_28 (fun H locs hP hD hS => ?_)
  have hP : va_P D cl0 [(h0, .inr (8, [.int 2, .int 3, .int 836760821, .int 0, .int 0, .int 0, .ref h2, .ref h3, .int 0, .int 0, .ref h1, .ref h4, .ref h5, .ref h6, .ref h7, .ref h8, .ref h9, .int 0, .int 0, .int 0, .ref h10, .ref h11, .ref h12, .ref h13, .int 0, .int 0, .ref h14, .ref h15, .ref h16, .ref h17, .int 0, .int 0, .ref h18, .ref h19, .ref h20, .ref h21])), (h1, .inl (k 1, 9, .inr (.inl (tL [1, 0, 0, 0, 1, 0, 0, 0, 0] 0)))), (h2, .inl (k 0, 36, .inl (tI [(-1), 0, 0, 0, 1, 0, 0, 0, 0, 1, 0, 0, 0, (-1), 0, 0, 0, 0, 1, (-2), 0, 0, 1, 0, 0, 0, 0, 1, 0, 0, 0, 1] 0)))] H := hP
  have hD : va_D A [(h0, .inr (8, [.int 2, .int 3, .int 836760821, .int 0, .int 0, .int 0, .ref h2, .ref h3, .int 0, .int 0, .ref h1, .ref h4, .ref h5, .ref h6, .ref h7, .ref h8, .ref h9, .int 0, .int 0, .int 0, .ref h10, .ref h11, .ref h12, .ref h13, .int 0, .int 0, .ref h14, .ref h15, .ref h16, .ref h17, .int 0, .int 0, .ref h18, .ref h19, .ref h20, .ref h21])), (h1, .inl (k 1, 9, .inr (.inl (tL [1, 0, 0, 0, 1, 0, 0, 0, 0] 0)))), (h2, .inl (k 0, 36, .inl (tI [(-1), 0, 0, 0, 1, 0, 0, 0, 0, 1, 0, 0, 0, (-1), 0, 0, 0, 0, 1, (-2), 0, 0, 1, 0, 0, 0, 0, 1, 0, 0, 0, 1] 0)))] := hD
  refine lv_iinc (v := 5) (lv' := [(1, .int 5), (0, .ref h0)]) hx hb dX11_comes_29 hl (k := 0) rfl (by decide) (by decide) rfl (fun ls hl => ?_)
  refine lv_goto (tgt := 2) hx hb dX11_comes_32 (by decide) ?_
  refine lv_iload_n hx hb dX11_comes_2 rfl (lv_at hl 0 rfl) ?_
  refine lv_bipush (v := 9) hx hb dX11_comes_3 (by decide) ?_
  refine lv_icmp_ge (tgt := 35) hx hb dX11_comes_5 (by decide) (fun cc => absurd cc (by decide +kernel)) (fun _ => ?_)
  refine lv_aload_n hx hb dX11_comes_8 rfl (lv_at hl 1 rfl) ?_
  refine va_get (D := D) (ci := 8) (v := .ref h2) (C := RX11) (T := TX11) (N := 36) hx hb hU iX11 hown hK.1 hP 0 rfl rfl 6 (by decide) (hU _ w791) (fun _ h9 => h9) rfl dX11_comes_9 ?_
  refine lv_bipush (v := 9) hx hb dX11_comes_12 (by decide) ?_
  refine lv_aload_n hx hb dX11_comes_14 rfl (lv_at hl 1 rfl) ?_
  refine va_get (D := D) (ci := 8) (v := .int 3) (C := RX11) (T := TX11) (N := 36) hx hb hU iX11 hown hK.1 hP 0 rfl rfl 1 (by decide) (hU _ w786) (fun _ h9 => h9) rfl dX11_comes_15 ?_
  refine lv_imul hx hb dX11_comes_18 (sv_i (v := 27) (by decide +kernel) ?_)
  refine lv_iload_n hx hb dX11_comes_19 rfl (lv_at hl 0 rfl) ?_
  refine lv_iadd hx hb dX11_comes_20 (sv_i (v := 32) (by decide +kernel) ?_)
  refine lv_aload_n hx hb dX11_comes_21 rfl (lv_at hl 1 rfl) ?_
  refine va_get (D := D) (ci := 8) (v := .ref h1) (C := RX11) (T := TX11) (N := 36) hx hb hU iX11 hown hK.1 hP 0 rfl rfl 10 (by decide) (hU _ w795) (fun _ h9 => h9) rfl dX11_comes_22 ?_
  refine lv_iload_n hx hb dX11_comes_25 rfl (lv_at hl 0 rfl) ?_
  refine ld_l (j := 5) (v := 0) hx hb hK hP 1 rfl (by decide +kernel) rfl dX11_comes_26 ?_
  refine lv_l2i (v := 0) hx hb dX11_comes_27 (by decide +kernel) ?_
  refine st_i (j := 32) (g := tI [(-1), 0, 0, 0, 1, 0, 0, 0, 0, 1, 0, 0, 0, (-1), 0, 0, 0, 0, 1, (-2), 0, 0, 1, 0, 0, 0, 0, 1, 0, 0, 0, 1, 0] 0) hx hb hK hP hD hS 2 rfl (by decide +kernel) upd_tI dX11_comes_28 (fun H locs hP hD hS => ?_)
  have hP : va_P D cl0 [(h0, .inr (8, [.int 2, .int 3, .int 836760821, .int 0, .int 0, .int 0, .ref h2, .ref h3, .int 0, .int 0, .ref h1, .ref h4, .ref h5, .ref h6, .ref h7, .ref h8, .ref h9, .int 0, .int 0, .int 0, .ref h10, .ref h11, .ref h12, .ref h13, .int 0, .int 0, .ref h14, .ref h15, .ref h16, .ref h17, .int 0, .int 0, .ref h18, .ref h19, .ref h20, .ref h21])), (h1, .inl (k 1, 9, .inr (.inl (tL [1, 0, 0, 0, 1, 0, 0, 0, 0] 0)))), (h2, .inl (k 0, 36, .inl (tI [(-1), 0, 0, 0, 1, 0, 0, 0, 0, 1, 0, 0, 0, (-1), 0, 0, 0, 0, 1, (-2), 0, 0, 1, 0, 0, 0, 0, 1, 0, 0, 0, 1, 0] 0)))] H := hP
  have hD : va_D A [(h0, .inr (8, [.int 2, .int 3, .int 836760821, .int 0, .int 0, .int 0, .ref h2, .ref h3, .int 0, .int 0, .ref h1, .ref h4, .ref h5, .ref h6, .ref h7, .ref h8, .ref h9, .int 0, .int 0, .int 0, .ref h10, .ref h11, .ref h12, .ref h13, .int 0, .int 0, .ref h14, .ref h15, .ref h16, .ref h17, .int 0, .int 0, .ref h18, .ref h19, .ref h20, .ref h21])), (h1, .inl (k 1, 9, .inr (.inl (tL [1, 0, 0, 0, 1, 0, 0, 0, 0] 0)))), (h2, .inl (k 0, 36, .inl (tI [(-1), 0, 0, 0, 1, 0, 0, 0, 0, 1, 0, 0, 0, (-1), 0, 0, 0, 0, 1, (-2), 0, 0, 1, 0, 0, 0, 0, 1, 0, 0, 0, 1, 0] 0)))] := hD
  refine lv_iinc (v := 6) (lv' := [(1, .int 6), (0, .ref h0)]) hx hb dX11_comes_29 hl (k := 0) rfl (by decide) (by decide) rfl (fun ls hl => ?_)
  refine lv_goto (tgt := 2) hx hb dX11_comes_32 (by decide) ?_
  refine lv_iload_n hx hb dX11_comes_2 rfl (lv_at hl 0 rfl) ?_
  refine lv_bipush (v := 9) hx hb dX11_comes_3 (by decide) ?_
  refine lv_icmp_ge (tgt := 35) hx hb dX11_comes_5 (by decide) (fun cc => absurd cc (by decide +kernel)) (fun _ => ?_)
  refine lv_aload_n hx hb dX11_comes_8 rfl (lv_at hl 1 rfl) ?_
  refine va_get (D := D) (ci := 8) (v := .ref h2) (C := RX11) (T := TX11) (N := 36) hx hb hU iX11 hown hK.1 hP 0 rfl rfl 6 (by decide) (hU _ w791) (fun _ h9 => h9) rfl dX11_comes_9 ?_
  refine lv_bipush (v := 9) hx hb dX11_comes_12 (by decide) ?_
  refine lv_aload_n hx hb dX11_comes_14 rfl (lv_at hl 1 rfl) ?_
  refine va_get (D := D) (ci := 8) (v := .int 3) (C := RX11) (T := TX11) (N := 36) hx hb hU iX11 hown hK.1 hP 0 rfl rfl 1 (by decide) (hU _ w786) (fun _ h9 => h9) rfl dX11_comes_15 ?_
  refine lv_imul hx hb dX11_comes_18 (sv_i (v := 27) (by decide +kernel) ?_)
  refine lv_iload_n hx hb dX11_comes_19 rfl (lv_at hl 0 rfl) ?_
  refine lv_iadd hx hb dX11_comes_20 (sv_i (v := 33) (by decide +kernel) ?_)
  refine lv_aload_n hx hb dX11_comes_21 rfl (lv_at hl 1 rfl) ?_
  refine va_get (D := D) (ci := 8) (v := .ref h1) (C := RX11) (T := TX11) (N := 36) hx hb hU iX11 hown hK.1 hP 0 rfl rfl 10 (by decide) (hU _ w795) (fun _ h9 => h9) rfl dX11_comes_22 ?_
  refine lv_iload_n hx hb dX11_comes_25 rfl (lv_at hl 0 rfl) ?_
  refine ld_l (j := 6) (v := 0) hx hb hK hP 1 rfl (by decide +kernel) rfl dX11_comes_26 ?_
  refine lv_l2i (v := 0) hx hb dX11_comes_27 (by decide +kernel) ?_
  refine st_i (j := 33) (g := tI [(-1), 0, 0, 0, 1, 0, 0, 0, 0, 1, 0, 0, 0, (-1), 0, 0, 0, 0, 1, (-2), 0, 0, 1, 0, 0, 0, 0, 1, 0, 0, 0, 1, 0, 0] 0) hx hb hK hP hD hS 2 rfl (by decide +kernel) upd_tI dX11_comes_28 (fun H locs hP hD hS => ?_)
  have hP : va_P D cl0 [(h0, .inr (8, [.int 2, .int 3, .int 836760821, .int 0, .int 0, .int 0, .ref h2, .ref h3, .int 0, .int 0, .ref h1, .ref h4, .ref h5, .ref h6, .ref h7, .ref h8, .ref h9, .int 0, .int 0, .int 0, .ref h10, .ref h11, .ref h12, .ref h13, .int 0, .int 0, .ref h14, .ref h15, .ref h16, .ref h17, .int 0, .int 0, .ref h18, .ref h19, .ref h20, .ref h21])), (h1, .inl (k 1, 9, .inr (.inl (tL [1, 0, 0, 0, 1, 0, 0, 0, 0] 0)))), (h2, .inl (k 0, 36, .inl (tI [(-1), 0, 0, 0, 1, 0, 0, 0, 0, 1, 0, 0, 0, (-1), 0, 0, 0, 0, 1, (-2), 0, 0, 1, 0, 0, 0, 0, 1, 0, 0, 0, 1, 0, 0] 0)))] H := hP
  have hD : va_D A [(h0, .inr (8, [.int 2, .int 3, .int 836760821, .int 0, .int 0, .int 0, .ref h2, .ref h3, .int 0, .int 0, .ref h1, .ref h4, .ref h5, .ref h6, .ref h7, .ref h8, .ref h9, .int 0, .int 0, .int 0, .ref h10, .ref h11, .ref h12, .ref h13, .int 0, .int 0, .ref h14, .ref h15, .ref h16, .ref h17, .int 0, .int 0, .ref h18, .ref h19, .ref h20, .ref h21])), (h1, .inl (k 1, 9, .inr (.inl (tL [1, 0, 0, 0, 1, 0, 0, 0, 0] 0)))), (h2, .inl (k 0, 36, .inl (tI [(-1), 0, 0, 0, 1, 0, 0, 0, 0, 1, 0, 0, 0, (-1), 0, 0, 0, 0, 1, (-2), 0, 0, 1, 0, 0, 0, 0, 1, 0, 0, 0, 1, 0, 0] 0)))] := hD
  refine lv_iinc (v := 7) (lv' := [(1, .int 7), (0, .ref h0)]) hx hb dX11_comes_29 hl (k := 0) rfl (by decide) (by decide) rfl (fun ls hl => ?_)
  refine lv_goto (tgt := 2) hx hb dX11_comes_32 (by decide) ?_
  refine lv_iload_n hx hb dX11_comes_2 rfl (lv_at hl 0 rfl) ?_
  refine lv_bipush (v := 9) hx hb dX11_comes_3 (by decide) ?_
  refine lv_icmp_ge (tgt := 35) hx hb dX11_comes_5 (by decide) (fun cc => absurd cc (by decide +kernel)) (fun _ => ?_)
  refine lv_aload_n hx hb dX11_comes_8 rfl (lv_at hl 1 rfl) ?_
  refine va_get (D := D) (ci := 8) (v := .ref h2) (C := RX11) (T := TX11) (N := 36) hx hb hU iX11 hown hK.1 hP 0 rfl rfl 6 (by decide) (hU _ w791) (fun _ h9 => h9) rfl dX11_comes_9 ?_
  refine lv_bipush (v := 9) hx hb dX11_comes_12 (by decide) ?_
  refine lv_aload_n hx hb dX11_comes_14 rfl (lv_at hl 1 rfl) ?_
  refine va_get (D := D) (ci := 8) (v := .int 3) (C := RX11) (T := TX11) (N := 36) hx hb hU iX11 hown hK.1 hP 0 rfl rfl 1 (by decide) (hU _ w786) (fun _ h9 => h9) rfl dX11_comes_15 ?_
  refine lv_imul hx hb dX11_comes_18 (sv_i (v := 27) (by decide +kernel) ?_)
  refine lv_iload_n hx hb dX11_comes_19 rfl (lv_at hl 0 rfl) ?_
  refine lv_iadd hx hb dX11_comes_20 (sv_i (v := 34) (by decide +kernel) ?_)
  refine lv_aload_n hx hb dX11_comes_21 rfl (lv_at hl 1 rfl) ?_
  refine va_get (D := D) (ci := 8) (v := .ref h1) (C := RX11) (T := TX11) (N := 36) hx hb hU iX11 hown hK.1 hP 0 rfl rfl 10 (by decide) (hU _ w795) (fun _ h9 => h9) rfl dX11_comes_22 ?_
  refine lv_iload_n hx hb dX11_comes_25 rfl (lv_at hl 0 rfl) ?_
  refine ld_l (j := 7) (v := 0) hx hb hK hP 1 rfl (by decide +kernel) rfl dX11_comes_26 ?_
  refine lv_l2i (v := 0) hx hb dX11_comes_27 (by decide +kernel) ?_
  refine st_i (j := 34) (g := tI [(-1), 0, 0, 0, 1, 0, 0, 0, 0, 1, 0, 0, 0, (-1), 0, 0, 0, 0, 1, (-2), 0, 0, 1, 0, 0, 0, 0, 1, 0, 0, 0, 1, 0, 0, 0] 0) hx hb hK hP hD hS 2 rfl (by decide +kernel) upd_tI dX11_comes_28 (fun H locs hP hD hS => ?_)
  have hP : va_P D cl0 [(h0, .inr (8, [.int 2, .int 3, .int 836760821, .int 0, .int 0, .int 0, .ref h2, .ref h3, .int 0, .int 0, .ref h1, .ref h4, .ref h5, .ref h6, .ref h7, .ref h8, .ref h9, .int 0, .int 0, .int 0, .ref h10, .ref h11, .ref h12, .ref h13, .int 0, .int 0, .ref h14, .ref h15, .ref h16, .ref h17, .int 0, .int 0, .ref h18, .ref h19, .ref h20, .ref h21])), (h1, .inl (k 1, 9, .inr (.inl (tL [1, 0, 0, 0, 1, 0, 0, 0, 0] 0)))), (h2, .inl (k 0, 36, .inl (tI [(-1), 0, 0, 0, 1, 0, 0, 0, 0, 1, 0, 0, 0, (-1), 0, 0, 0, 0, 1, (-2), 0, 0, 1, 0, 0, 0, 0, 1, 0, 0, 0, 1, 0, 0, 0] 0)))] H := hP
  have hD : va_D A [(h0, .inr (8, [.int 2, .int 3, .int 836760821, .int 0, .int 0, .int 0, .ref h2, .ref h3, .int 0, .int 0, .ref h1, .ref h4, .ref h5, .ref h6, .ref h7, .ref h8, .ref h9, .int 0, .int 0, .int 0, .ref h10, .ref h11, .ref h12, .ref h13, .int 0, .int 0, .ref h14, .ref h15, .ref h16, .ref h17, .int 0, .int 0, .ref h18, .ref h19, .ref h20, .ref h21])), (h1, .inl (k 1, 9, .inr (.inl (tL [1, 0, 0, 0, 1, 0, 0, 0, 0] 0)))), (h2, .inl (k 0, 36, .inl (tI [(-1), 0, 0, 0, 1, 0, 0, 0, 0, 1, 0, 0, 0, (-1), 0, 0, 0, 0, 1, (-2), 0, 0, 1, 0, 0, 0, 0, 1, 0, 0, 0, 1, 0, 0, 0] 0)))] := hD
  refine lv_iinc (v := 8) (lv' := [(1, .int 8), (0, .ref h0)]) hx hb dX11_comes_29 hl (k := 0) rfl (by decide) (by decide) rfl (fun ls hl => ?_)
  refine lv_goto (tgt := 2) hx hb dX11_comes_32 (by decide) ?_
  refine lv_iload_n hx hb dX11_comes_2 rfl (lv_at hl 0 rfl) ?_
  refine lv_bipush (v := 9) hx hb dX11_comes_3 (by decide) ?_
  refine lv_icmp_ge (tgt := 35) hx hb dX11_comes_5 (by decide) (fun cc => absurd cc (by decide +kernel)) (fun _ => ?_)
  refine lv_aload_n hx hb dX11_comes_8 rfl (lv_at hl 1 rfl) ?_
  refine va_get (D := D) (ci := 8) (v := .ref h2) (C := RX11) (T := TX11) (N := 36) hx hb hU iX11 hown hK.1 hP 0 rfl rfl 6 (by decide) (hU _ w791) (fun _ h9 => h9) rfl dX11_comes_9 ?_
  refine lv_bipush (v := 9) hx hb dX11_comes_12 (by decide) ?_
  refine lv_aload_n hx hb dX11_comes_14 rfl (lv_at hl 1 rfl) ?_
  refine va_get (D := D) (ci := 8) (v := .int 3) (C := RX11) (T := TX11) (N := 36) hx hb hU iX11 hown hK.1 hP 0 rfl rfl 1 (by decide) (hU _ w786) (fun _ h9 => h9) rfl dX11_comes_15 ?_
  refine lv_imul hx hb dX11_comes_18 (sv_i (v := 27) (by decide +kernel) ?_)
  refine lv_iload_n hx hb dX11_comes_19 rfl (lv_at hl 0 rfl) ?_
  refine lv_iadd hx hb dX11_comes_20 (sv_i (v := 35) (by decide +kernel) ?_)
  refine lv_aload_n hx hb dX11_comes_21 rfl (lv_at hl 1 rfl) ?_
  refine va_get (D := D) (ci := 8) (v := .ref h1) (C := RX11) (T := TX11) (N := 36) hx hb hU iX11 hown hK.1 hP 0 rfl rfl 10 (by decide) (hU _ w795) (fun _ h9 => h9) rfl dX11_comes_22 ?_
  refine lv_iload_n hx hb dX11_comes_25 rfl (lv_at hl 0 rfl) ?_
  refine ld_l (j := 8) (v := 0) hx hb hK hP 1 rfl (by decide +kernel) rfl dX11_comes_26 ?_
  refine lv_l2i (v := 0) hx hb dX11_comes_27 (by decide +kernel) ?_
  refine st_i (j := 35) (g := tI [(-1), 0, 0, 0, 1, 0, 0, 0, 0, 1, 0, 0, 0, (-1), 0, 0, 0, 0, 1, (-2), 0, 0, 1, 0, 0, 0, 0, 1, 0, 0, 0, 1, 0, 0, 0, 0] 0) hx hb hK hP hD hS 2 rfl (by decide +kernel) upd_tI dX11_comes_28 (fun H locs hP hD hS => ?_)
  have hP : va_P D cl0 [(h0, .inr (8, [.int 2, .int 3, .int 836760821, .int 0, .int 0, .int 0, .ref h2, .ref h3, .int 0, .int 0, .ref h1, .ref h4, .ref h5, .ref h6, .ref h7, .ref h8, .ref h9, .int 0, .int 0, .int 0, .ref h10, .ref h11, .ref h12, .ref h13, .int 0, .int 0, .ref h14, .ref h15, .ref h16, .ref h17, .int 0, .int 0, .ref h18, .ref h19, .ref h20, .ref h21])), (h1, .inl (k 1, 9, .inr (.inl (tL [1, 0, 0, 0, 1, 0, 0, 0, 0] 0)))), (h2, .inl (k 0, 36, .inl (tI [(-1), 0, 0, 0, 1, 0, 0, 0, 0, 1, 0, 0, 0, (-1), 0, 0, 0, 0, 1, (-2), 0, 0, 1, 0, 0, 0, 0, 1, 0, 0, 0, 1, 0, 0, 0, 0] 0)))] H := hP
  have hD : va_D A [(h0, .inr (8, [.int 2, .int 3, .int 836760821, .int 0, .int 0, .int 0, .ref h2, .ref h3, .int 0, .int 0, .ref h1, .ref h4, .ref h5, .ref h6, .ref h7, .ref h8, .ref h9, .int 0, .int 0, .int 0, .ref h10, .ref h11, .ref h12, .ref h13, .int 0, .int 0, .ref h14, .ref h15, .ref h16, .ref h17, .int 0, .int 0, .ref h18, .ref h19, .ref h20, .ref h21])), (h1, .inl (k 1, 9, .inr (.inl (tL [1, 0, 0, 0, 1, 0, 0, 0, 0] 0)))), (h2, .inl (k 0, 36, .inl (tI [(-1), 0, 0, 0, 1, 0, 0, 0, 0, 1, 0, 0, 0, (-1), 0, 0, 0, 0, 1, (-2), 0, 0, 1, 0, 0, 0, 0, 1, 0, 0, 0, 1, 0, 0, 0, 0] 0)))] := hD
  refine lv_iinc (v := 9) (lv' := [(1, .int 9), (0, .ref h0)]) hx hb dX11_comes_29 hl (k := 0) rfl (by decide) (by decide) rfl (fun ls hl => ?_)
  refine lv_goto (tgt := 2) hx hb dX11_comes_32 (by decide) ?_
  refine lv_iload_n hx hb dX11_comes_2 rfl (lv_at hl 0 rfl) ?_
  refine lv_bipush (v := 9) hx hb dX11_comes_3 (by decide) ?_
  refine lv_icmp_ge (tgt := 35) hx hb dX11_comes_5 (by decide) (fun _ => ?_) (fun cc => absurd (by decide +kernel) cc)
  refine lv_aload_n hx hb dX11_comes_35 rfl (lv_at hl 1 rfl) ?_
  refine lv_dup hx hb dX11_comes_36 rfl ?_
  refine va_get (D := D) (ci := 8) (v := .int 3) (C := RX11) (T := TX11) (N := 36) hx hb hU iX11 hown hK.1 hP 0 rfl rfl 1 (by decide) (hU _ w786) (fun _ h9 => h9) rfl dX11_comes_37 ?_
  refine lv_iconst (v := 1) hx hb dX11_comes_40 (by decide) ?_
  refine lv_iadd hx hb dX11_comes_41 (sv_i (v := 4) (by decide +kernel) ?_)
  refine va_put (D := D) (ci := 8) (v := .int 4) (ty := .int) (C := RX11) (T := TX11) (N := 36) hx hb hU iX11 tyX11 tyX11_ok nmX11 hown hK.1 hP hD hS 0 rfl rfl 1 (by decide) (hU _ w786) (fun _ h9 => h9) rfl (by decide +kernel) rfl rfl (Nat.le_of_ble_eq_true rfl) dX11_comes_42 (fun H locs hP hD hS => ?_)
  have hP : va_P D cl0 [(h0, .inr (8, [.int 2, .int 4, .int 836760821, .int 0, .int 0, .int 0, .ref h2, .ref h3, .int 0, .int 0, .ref h1, .ref h4, .ref h5, .ref h6, .ref h7, .ref h8, .ref h9, .int 0, .int 0, .int 0, .ref h10, .ref h11, .ref h12, .ref h13, .int 0, .int 0, .ref h14, .ref h15, .ref h16, .ref h17, .int 0, .int 0, .ref h18, .ref h19, .ref h20, .ref h21])), (h1, .inl (k 1, 9, .inr (.inl (tL [1, 0, 0, 0, 1, 0, 0, 0, 0] 0)))), (h2, .inl (k 0, 36, .inl (tI [(-1), 0, 0, 0, 1, 0, 0, 0, 0, 1, 0, 0, 0, (-1), 0, 0, 0, 0, 1, (-2), 0, 0, 1, 0, 0, 0, 0, 1, 0, 0, 0, 1, 0, 0, 0, 0] 0)))] H := hP
  have hD : va_D A [(h0, .inr (8, [.int 2, .int 4, .int 836760821, .int 0, .int 0, .int 0, .ref h2, .ref h3, .int 0, .int 0, .ref h1, .ref h4, .ref h5, .ref h6, .ref h7, .ref h8, .ref h9, .int 0, .int 0, .int 0, .ref h10, .ref h11, .ref h12, .ref h13, .int 0, .int 0, .ref h14, .ref h15, .ref h16, .ref h17, .int 0, .int 0, .ref h18, .ref h19, .ref h20, .ref h21])), (h1, .inl (k 1, 9, .inr (.inl (tL [1, 0, 0, 0, 1, 0, 0, 0, 0] 0)))), (h2, .inl (k 0, 36, .inl (tI [(-1), 0, 0, 0, 1, 0, 0, 0, 0, 1, 0, 0, 0, (-1), 0, 0, 0, 0, 1, (-2), 0, 0, 1, 0, 0, 0, 0, 1, 0, 0, 0, 1, 0, 0, 0, 0] 0)))] := hD
  refine lv_aload_n hx hb dX11_comes_45 rfl (lv_at hl 1 rfl) ?_
  refine lv_iconst (v := 0) hx hb dX11_comes_46 (by decide) ?_
  refine va_put (D := D) (ci := 8) (v := .int 0) (ty := .boolean) (C := RX11) (T := TX11) (N := 36) hx hb hU iX11 tyX11 tyX11_ok nmX11 hown hK.1 hP hD hS 0 rfl rfl 9 (by decide) (hU _ w794) (fun _ h9 => h9) rfl (by decide +kernel) rfl rfl (Nat.le_of_ble_eq_true rfl) dX11_comes_47 (fun H locs hP hD hS => ?_)
  have hP : va_P D cl0 [(h0, .inr (8, [.int 2, .int 4, .int 836760821, .int 0, .int 0, .int 0, .ref h2, .ref h3, .int 0, .int 0, .ref h1, .ref h4, .ref h5, .ref h6, .ref h7, .ref h8, .ref h9, .int 0, .int 0, .int 0, .ref h10, .ref h11, .ref h12, .ref h13, .int 0, .int 0, .ref h14, .ref h15, .ref h16, .ref h17, .int 0, .int 0, .ref h18, .ref h19, .ref h20, .ref h21])), (h1, .inl (k 1, 9, .inr (.inl (tL [1, 0, 0, 0, 1, 0, 0, 0, 0] 0)))), (h2, .inl (k 0, 36, .inl (tI [(-1), 0, 0, 0, 1, 0, 0, 0, 0, 1, 0, 0, 0, (-1), 0, 0, 0, 0, 1, (-2), 0, 0, 1, 0, 0, 0, 0, 1, 0, 0, 0, 1, 0, 0, 0, 0] 0)))] H := hP
  have hD : va_D A [(h0, .inr (8, [.int 2, .int 4, .int 836760821, .int 0, .int 0, .int 0, .ref h2, .ref h3, .int 0, .int 0, .ref h1, .ref h4, .ref h5, .ref h6, .ref h7, .ref h8, .ref h9, .int 0, .int 0, .int 0, .ref h10, .ref h11, .ref h12, .ref h13, .int 0, .int 0, .ref h14, .ref h15, .ref h16, .ref h17, .int 0, .int 0, .ref h18, .ref h19, .ref h20, .ref h21])), (h1, .inl (k 1, 9, .inr (.inl (tL [1, 0, 0, 0, 1, 0, 0, 0, 0] 0)))), (h2, .inl (k 0, 36, .inl (tI [(-1), 0, 0, 0, 1, 0, 0, 0, 0, 1, 0, 0, 0, (-1), 0, 0, 0, 0, 1, (-2), 0, 0, 1, 0, 0, 0, 0, 1, 0, 0, 0, 1, 0, 0, 0, 0] 0)))] := hD
  refine lv_aload_n hx hb dX11_comes_50 rfl (lv_at hl 1 rfl) ?_
  refine lv_iconst (v := 0) hx hb dX11_comes_51 (by decide) ?_
  refine va_put (D := D) (ci := 8) (v := .int 0) (ty := .int) (C := RX11) (T := TX11) (N := 36) hx hb hU iX11 tyX11 tyX11_ok nmX11 hown hK.1 hP hD hS 0 rfl rfl 30 (by decide) (hU _ w815) (fun _ h9 => h9) rfl (by decide +kernel) rfl rfl (Nat.le_of_ble_eq_true rfl) dX11_comes_52 (fun H locs hP hD hS => ?_)
  have hP : va_P D cl0 [(h0, .inr (8, [.int 2, .int 4, .int 836760821, .int 0, .int 0, .int 0, .ref h2, .ref h3, .int 0, .int 0, .ref h1, .ref h4, .ref h5, .ref h6, .ref h7, .ref h8, .ref h9, .int 0, .int 0, .int 0, .ref h10, .ref h11, .ref h12, .ref h13, .int 0, .int 0, .ref h14, .ref h15, .ref h16, .ref h17, .int 0, .int 0, .ref h18, .ref h19, .ref h20, .ref h21])), (h1, .inl (k 1, 9, .inr (.inl (tL [1, 0, 0, 0, 1, 0, 0, 0, 0] 0)))), (h2, .inl (k 0, 36, .inl (tI [(-1), 0, 0, 0, 1, 0, 0, 0, 0, 1, 0, 0, 0, (-1), 0, 0, 0, 0, 1, (-2), 0, 0, 1, 0, 0, 0, 0, 1, 0, 0, 0, 1, 0, 0, 0, 0] 0)))] H := hP
  have hD : va_D A [(h0, .inr (8, [.int 2, .int 4, .int 836760821, .int 0, .int 0, .int 0, .ref h2, .ref h3, .int 0, .int 0, .ref h1, .ref h4, .ref h5, .ref h6, .ref h7, .ref h8, .ref h9, .int 0, .int 0, .int 0, .ref h10, .ref h11, .ref h12, .ref h13, .int 0, .int 0, .ref h14, .ref h15, .ref h16, .ref h17, .int 0, .int 0, .ref h18, .ref h19, .ref h20, .ref h21])), (h1, .inl (k 1, 9, .inr (.inl (tL [1, 0, 0, 0, 1, 0, 0, 0, 0] 0)))), (h2, .inl (k 0, 36, .inl (tI [(-1), 0, 0, 0, 1, 0, 0, 0, 0, 1, 0, 0, 0, (-1), 0, 0, 0, 0, 1, (-2), 0, 0, 1, 0, 0, 0, 0, 1, 0, 0, 0, 1, 0, 0, 0, 0] 0)))] := hD
  refine lv_aload_n hx hb dX11_comes_55 rfl (lv_at hl 1 rfl) ?_
  refine va_get (D := D) (ci := 8) (v := .int 4) (C := RX11) (T := TX11) (N := 36) hx hb hU iX11 hown hK.1 hP 0 rfl rfl 1 (by decide) (hU _ w786) (fun _ h9 => h9) rfl dX11_comes_56 ?_
  refine lv_iconst (v := 1) hx hb dX11_comes_59 (by decide) ?_
  refine lv_isub hx hb dX11_comes_60 (sv_i (v := 3) (by decide +kernel) ?_)
  exact retI (v := 3) hx hb hr hlocks hS (⟨rfl, hP, hD⟩) dX11_comes_61
abbrev BX11_lot_1 (D : va_G) (k : Nat → ClassId) (a0 a1 a3 a2 a4 a5 a6 a7 a8 a9 a10 a11 a12 a13 a14 a15 a16 a17 a18 a19 a20 a21 : Nat) (x0 : Int32) (A : Nat → Prop) (r : Int32) (H : Heap) : Prop := r = F_lot x0
set_option maxHeartbeats 4000000 in
set_option maxRecDepth 100000 in
theorem cX11_lot_1 (l : Launch) (D : va_G) (k : Nat → ClassId) (sz : Nat) (a0 a1 a3 a2 a4 a5 a6 a7 a8 a9 a10 a11 a12 a13 a14 a15 a16 a17 a18 a19 a20 a21 : Nat) (x0 : Int32) : Met l yX11_lot (Cond.code yX11_lot cX11_lot 7 (some .int) :: uw) ({ frames := 3, cells := 0, slots := 0, locals := 67 }) (pC D k sz [.ref a0, .int x0] [(a0, .inr (8, [.int 2, .int 0, .int 1, .int 0, .int 0, .int 0, .ref a1, .ref a2, .int 0, .int 0, .ref a3, .ref a4, .ref a5, .ref a6, .ref a7, .ref a8, .ref a9, .int 0, .int 0, .int 0, .ref a10, .ref a11, .ref a12, .ref a13, .int 0, .int 0, .ref a14, .ref a15, .ref a16, .ref a17, .int 0, .int 0, .ref a18, .ref a19, .ref a20, .ref a21])), (a1, .inl (k 0, 36, .inl (tI [] 0))), (a3, .inl (k 1, 9, .inr (.inl (tL [] 0))))]) (qI (BX11_lot_1 D k a0 a1 a3 a2 a4 a5 a6 a7 a8 a9 a10 a11 a12 a13 a14 a15 a16 a17 a18 a19 a20 a21 x0 (va_A [(a0, .inr (8, [.int 2, .int 0, .int 1, .int 0, .int 0, .int 0, .ref a1, .ref a2, .int 0, .int 0, .ref a3, .ref a4, .ref a5, .ref a6, .ref a7, .ref a8, .ref a9, .int 0, .int 0, .int 0, .ref a10, .ref a11, .ref a12, .ref a13, .int 0, .int 0, .ref a14, .ref a15, .ref a16, .ref a17, .int 0, .int 0, .ref a18, .ref a19, .ref a20, .ref a21])), (a1, .inl (k 0, 36, .inl (tI [] 0))), (a3, .inl (k 1, 9, .inr (.inl (tL [] 0))))] sz)) (va_A [(a0, .inr (8, [.int 2, .int 0, .int 1, .int 0, .int 0, .int 0, .ref a1, .ref a2, .int 0, .int 0, .ref a3, .ref a4, .ref a5, .ref a6, .ref a7, .ref a8, .ref a9, .int 0, .int 0, .int 0, .ref a10, .ref a11, .ref a12, .ref a13, .int 0, .int 0, .ref a14, .ref a15, .ref a16, .ref a17, .int 0, .int 0, .ref a18, .ref a19, .ref a20, .ref a21])), (a1, .inl (k 0, 36, .inl (tI [] 0))), (a3, .inl (k 1, 9, .inr (.inl (tL [] 0))))] sz)) 0 0 (va_A [(a0, .inr (8, [.int 2, .int 0, .int 1, .int 0, .int 0, .int 0, .ref a1, .ref a2, .int 0, .int 0, .ref a3, .ref a4, .ref a5, .ref a6, .ref a7, .ref a8, .ref a9, .int 0, .int 0, .int 0, .ref a10, .ref a11, .ref a12, .ref a13, .int 0, .int 0, .ref a14, .ref a15, .ref a16, .ref a17, .int 0, .int 0, .ref a18, .ref a19, .ref a20, .ref a21])), (a1, .inl (k 0, 36, .inl (tI [] 0))), (a3, .inl (k 1, 9, .inr (.inl (tL [] 0))))] sz) := by
  refine begin_ (Qc := fun A => qI (BX11_lot_1 D k a0 a1 a3 a2 a4 a5 a6 a7 a8 a9 a10 a11 a12 a13 a14 a15 a16 a17 a18 a19 a20 a21 x0 A) A) (by decide) (Nat.le_of_ble_eq_true rfl) ?_
  intro p e s m below meth c ls A hx hb hr hml hown hlocks hin hU hK hsz hP hD hS hA hl
  have hl : lv_has ls 7 [(0, .ref a0), (1, .int x0)] := hl
  clear hsz
  refine lv_iload_n hx hb dX11_lot_0 rfl (lv_at hl 1 rfl) ?_
  refine lv_i2l (v := x0.toInt64) hx hb dX11_lot_1 rfl ?_
  refine lv_lconst (v := 1) hx hb dX11_lot_2 (by decide) ?_
  refine lv_ldc2 hx hb hown (hU _ w1173) dX11_lot_3 ?_
  refine cI (rS (As := [.long x0.toInt64, .long 1, .long 4]) (rest := []) (wc := []) hx hb hml hown hU hK hP hD [] rfl (by decide) (cX11_in_9 l D k _ (x0.toInt64)) w901 w899 w900 w72 hdX11_in ⟨rfl, rfl⟩ ⟨Nat.le_of_ble_eq_true rfl, Nat.le_of_ble_eq_true rfl⟩ rfl hl.1 (Nat.le_of_ble_eq_true rfl) dX11_lot_6 ⟨Nat.le_of_ble_eq_true rfl, Nat.le_of_ble_eq_true rfl⟩) hP hD hS hA (wr := [(a0, .inr (8, [.int 2, .int 0, .int 1, .int 0, .int 0, .int 0, .ref a1, .ref a2, .int 0, .int 0, .ref a3, .ref a4, .ref a5, .ref a6, .ref a7, .ref a8, .ref a9, .int 0, .int 0, .int 0, .ref a10, .ref a11, .ref a12, .ref a13, .int 0, .int 0, .ref a14, .ref a15, .ref a16, .ref a17, .int 0, .int 0, .ref a18, .ref a19, .ref a20, .ref a21])), (a1, .inl (k 0, 36, .inl (tI [] 0))), (a3, .inl (k 1, 9, .inr (.inl (tL [] 0))))]) [] [0, 1, 2] rfl rfl (by decide) (by decide) (fun r1 H locs hB J hS => ?_)
  rcases hB with ⟨c_2, rfl, hP1, hD1⟩ | ⟨c_3, c_4, rfl, hP1, hD1⟩ | ⟨c_5, c_6, rfl, hP1, hD1⟩
  · skip
    obtain ⟨hP, hD⟩ := J _ hP1 hD1
    have hP : va_P D cl0 [(a0, .inr (8, [.int 2, .int 0, .int 1, .int 0, .int 0, .int 0, .ref a1, .ref a2, .int 0, .int 0, .ref a3, .ref a4, .ref a5, .ref a6, .ref a7, .ref a8, .ref a9, .int 0, .int 0, .int 0, .ref a10, .ref a11, .ref a12, .ref a13, .int 0, .int 0, .ref a14, .ref a15, .ref a16, .ref a17, .int 0, .int 0, .ref a18, .ref a19, .ref a20, .ref a21])), (a1, .inl (k 0, 36, .inl (tI [] 0))), (a3, .inl (k 1, 9, .inr (.inl (tL [] 0))))] H := hP
    have hD : va_D A [(a0, .inr (8, [.int 2, .int 0, .int 1, .int 0, .int 0, .int 0, .ref a1, .ref a2, .int 0, .int 0, .ref a3, .ref a4, .ref a5, .ref a6, .ref a7, .ref a8, .ref a9, .int 0, .int 0, .int 0, .ref a10, .ref a11, .ref a12, .ref a13, .int 0, .int 0, .ref a14, .ref a15, .ref a16, .ref a17, .int 0, .int 0, .ref a18, .ref a19, .ref a20, .ref a21])), (a1, .inl (k 0, 36, .inl (tI [] 0))), (a3, .inl (k 1, 9, .inr (.inl (tL [] 0))))] := hD
    refine lv_if_ne (tgt := 14) hx hb dX11_lot_9 (by decide) (fun cc => absurd (by decide +kernel) cc) (fun _ => ?_)
    refine lv_iconst (v := (-1)) hx hb dX11_lot_12 (by decide) ?_
    exact retI (v := (-1)) hx hb hr hlocks hS (show ((-1) : Int32) = F_lot x0 by first | decide +kernel | (have f0 := dv_lt (x := x0.toInt) (y := 1) c_2 (wd x0) (by decide +kernel); unfold F_lot; (repeat (first | rw [if_pos (by omega)] | rw [if_neg (by omega)])))) dX11_lot_13
  · skip
    obtain ⟨hP, hD⟩ := J _ hP1 hD1
    have hP : va_P D cl0 [(a0, .inr (8, [.int 2, .int 0, .int 1, .int 0, .int 0, .int 0, .ref a1, .ref a2, .int 0, .int 0, .ref a3, .ref a4, .ref a5, .ref a6, .ref a7, .ref a8, .ref a9, .int 0, .int 0, .int 0, .ref a10, .ref a11, .ref a12, .ref a13, .int 0, .int 0, .ref a14, .ref a15, .ref a16, .ref a17, .int 0, .int 0, .ref a18, .ref a19, .ref a20, .ref a21])), (a1, .inl (k 0, 36, .inl (tI [] 0))), (a3, .inl (k 1, 9, .inr (.inl (tL [] 0))))] H := hP
    have hD : va_D A [(a0, .inr (8, [.int 2, .int 0, .int 1, .int 0, .int 0, .int 0, .ref a1, .ref a2, .int 0, .int 0, .ref a3, .ref a4, .ref a5, .ref a6, .ref a7, .ref a8, .ref a9, .int 0, .int 0, .int 0, .ref a10, .ref a11, .ref a12, .ref a13, .int 0, .int 0, .ref a14, .ref a15, .ref a16, .ref a17, .int 0, .int 0, .ref a18, .ref a19, .ref a20, .ref a21])), (a1, .inl (k 0, 36, .inl (tI [] 0))), (a3, .inl (k 1, 9, .inr (.inl (tL [] 0))))] := hD
    refine lv_if_ne (tgt := 14) hx hb dX11_lot_9 (by decide) (fun cc => absurd (by decide +kernel) cc) (fun _ => ?_)
    refine lv_iconst (v := (-1)) hx hb dX11_lot_12 (by decide) ?_
    exact retI (v := (-1)) hx hb hr hlocks hS (show ((-1) : Int32) = F_lot x0 by first | decide +kernel | (have f0 := dv_nlt (x := x0.toInt) (y := 1) c_3 (wd x0) (by decide +kernel); have f1 := dv_lt (x := 4) (y := x0.toInt) c_4 (by decide +kernel) (wd x0); unfold F_lot; (repeat (first | rw [if_pos (by omega)] | rw [if_neg (by omega)])))) dX11_lot_13
  · skip
    obtain ⟨hP, hD⟩ := J _ hP1 hD1
    have hP : va_P D cl0 [(a0, .inr (8, [.int 2, .int 0, .int 1, .int 0, .int 0, .int 0, .ref a1, .ref a2, .int 0, .int 0, .ref a3, .ref a4, .ref a5, .ref a6, .ref a7, .ref a8, .ref a9, .int 0, .int 0, .int 0, .ref a10, .ref a11, .ref a12, .ref a13, .int 0, .int 0, .ref a14, .ref a15, .ref a16, .ref a17, .int 0, .int 0, .ref a18, .ref a19, .ref a20, .ref a21])), (a1, .inl (k 0, 36, .inl (tI [] 0))), (a3, .inl (k 1, 9, .inr (.inl (tL [] 0))))] H := hP
    have hD : va_D A [(a0, .inr (8, [.int 2, .int 0, .int 1, .int 0, .int 0, .int 0, .ref a1, .ref a2, .int 0, .int 0, .ref a3, .ref a4, .ref a5, .ref a6, .ref a7, .ref a8, .ref a9, .int 0, .int 0, .int 0, .ref a10, .ref a11, .ref a12, .ref a13, .int 0, .int 0, .ref a14, .ref a15, .ref a16, .ref a17, .int 0, .int 0, .ref a18, .ref a19, .ref a20, .ref a21])), (a1, .inl (k 0, 36, .inl (tI [] 0))), (a3, .inl (k 1, 9, .inr (.inl (tL [] 0))))] := hD
    refine lv_if_ne (tgt := 14) hx hb dX11_lot_9 (by decide) (fun _ => ?_) (fun cc => absurd cc (by decide +kernel))
    refine lv_iconst (v := 0) hx hb dX11_lot_14 (by decide) ?_
    refine lv_istore_n (lv' := [(2, .int 0), (0, .ref a0), (1, .int x0)]) hx hb dX11_lot_15 rfl hl (by decide) rfl (fun ls hl => ?_)
    refine lv_iload_n hx hb dX11_lot_16 rfl (lv_at hl 0 rfl) ?_
    refine lv_iload_n hx hb dX11_lot_17 rfl (lv_at hl 2 rfl) ?_
    have hsp : x0.toInt = 1 ∨ x0.toInt = 2 ∨ x0.toInt = 3 ∨ x0.toInt = 4 := by
      have f0 := dv_nlt (x := x0.toInt) (y := 1) c_5 (wd x0) (by decide +kernel)
      have f1 := dv_nlt (x := 4) (y := x0.toInt) c_6 (by decide +kernel) (wd x0)
      omega
    rcases hsp with hsp | hsp | hsp | hsp
    · skip
      obtain rfl : x0 = 1 := eq32 hsp (by decide +kernel)
      refine lv_icmp_ge (tgt := 98) hx hb dX11_lot_18 (by decide) (fun cc => absurd cc (by decide +kernel)) (fun _ => ?_)
      refine lv_aload_n hx hb dX11_lot_21 rfl (lv_at hl 1 rfl) ?_
      refine va_get (D := D) (ci := 8) (v := .int 0) (C := RX11) (T := TX11) (N := 36) hx hb hU iX11 hown hK.1 hP 0 rfl rfl 1 (by decide) (hU _ w786) (fun _ h9 => h9) rfl dX11_lot_22 ?_
      refine lv_iconst (v := 4) hx hb dX11_lot_25 (by decide) ?_
      refine lv_icmp_ge (tgt := 98) hx hb dX11_lot_26 (by decide) (fun cc => absurd cc (by decide +kernel)) (fun _ => ?_)
      refine lv_aload_n hx hb dX11_lot_29 rfl (lv_at hl 1 rfl) ?_
      refine lv_aload_n hx hb dX11_lot_30 rfl (lv_at hl 1 rfl) ?_
      refine va_get (D := D) (ci := 8) (v := .int 2) (C := RX11) (T := TX11) (N := 36) hx hb hU iX11 hown hK.1 hP 0 rfl rfl 0 (by decide) (hU _ w785) (fun _ h9 => h9) rfl dX11_lot_31 ?_
      refine cI (rV (q0 := 0) (ci := 8) (As := [.int 2]) (rest := []) (wc := [(a0, .inr (8, [.int 2, .int 0, .int 1, .int 0, .int 0, .int 0, .ref a1, .ref a2, .int 0, .int 0, .ref a3, .ref a4, .ref a5, .ref a6, .ref a7, .ref a8, .ref a9, .int 0, .int 0, .int 0, .ref a10, .ref a11, .ref a12, .ref a13, .int 0, .int 0, .ref a14, .ref a15, .ref a16, .ref a17, .int 0, .int 0, .ref a18, .ref a19, .ref a20, .ref a21]))]) hx hb hml hown hU hK hP hD rfl rfl [0] rfl (by decide) (cX11_drawn_1 l D k _ a0 a1 a2 a3 a4 a5 a6 a7 a8 a9 a10 a11 a12 a13 a14 a15 a16 a17 a18 a19 a20 a21) w1177 w1174 w1176 w60 w72 hdX11_drawn ⟨rfl, rfl⟩ ⟨Nat.le_of_ble_eq_true rfl, Nat.le_of_ble_eq_true rfl⟩ rfl hl.1 (Nat.le_of_ble_eq_true rfl) dX11_lot_34 ⟨Nat.le_of_ble_eq_true rfl, Nat.le_of_ble_eq_true rfl⟩) hP hD hS hA (wr := [(a1, .inl (k 0, 36, .inl (tI [] 0))), (a3, .inl (k 1, 9, .inr (.inl (tL [] 0))))]) [0] [1, 2] rfl rfl (by decide) (by decide) (fun r7 H locs hB J hS => ?_)
      obtain ⟨rfl, hP1, hD1⟩ := hB
      obtain ⟨hP, hD⟩ := J _ hP1 hD1
      have hP : va_P D cl0 [(a1, .inl (k 0, 36, .inl (tI [] 0))), (a3, .inl (k 1, 9, .inr (.inl (tL [] 0)))), (a0, .inr (8, [.int 2, .int 0, .int 1103527590, .int 0, .int 0, .int 0, .ref a1, .ref a2, .int 0, .int 0, .ref a3, .ref a4, .ref a5, .ref a6, .ref a7, .ref a8, .ref a9, .int 0, .int 0, .int 0, .ref a10, .ref a11, .ref a12, .ref a13, .int 0, .int 0, .ref a14, .ref a15, .ref a16, .ref a17, .int 0, .int 0, .ref a18, .ref a19, .ref a20, .ref a21]))] H := hP
      have hD : va_D A [(a1, .inl (k 0, 36, .inl (tI [] 0))), (a3, .inl (k 1, 9, .inr (.inl (tL [] 0)))), (a0, .inr (8, [.int 2, .int 0, .int 1103527590, .int 0, .int 0, .int 0, .ref a1, .ref a2, .int 0, .int 0, .ref a3, .ref a4, .ref a5, .ref a6, .ref a7, .ref a8, .ref a9, .int 0, .int 0, .int 0, .ref a10, .ref a11, .ref a12, .ref a13, .int 0, .int 0, .ref a14, .ref a15, .ref a16, .ref a17, .int 0, .int 0, .ref a18, .ref a19, .ref a20, .ref a21]))] := hD
      refine lv_istore_n (lv' := [(3, .int 0), (2, .int 0), (0, .ref a0), (1, .int 1)]) hx hb dX11_lot_37 rfl hl (by decide) rfl (fun ls hl => ?_)
      refine lv_aload_n hx hb dX11_lot_38 rfl (lv_at hl 2 rfl) ?_
      refine lv_aload_n hx hb dX11_lot_39 rfl (lv_at hl 2 rfl) ?_
      refine va_get (D := D) (ci := 8) (v := .int 2) (C := RX11) (T := TX11) (N := 36) hx hb hU iX11 hown hK.1 hP 2 rfl rfl 0 (by decide) (hU _ w785) (fun _ h9 => h9) rfl dX11_lot_40 ?_
      refine cI (rV (q0 := 2) (ci := 8) (As := [.int 2]) (rest := []) (wc := [(a0, .inr (8, [.int 2, .int 0, .int 1103527590, .int 0, .int 0, .int 0, .ref a1, .ref a2, .int 0, .int 0, .ref a3, .ref a4, .ref a5, .ref a6, .ref a7, .ref a8, .ref a9, .int 0, .int 0, .int 0, .ref a10, .ref a11, .ref a12, .ref a13, .int 0, .int 0, .ref a14, .ref a15, .ref a16, .ref a17, .int 0, .int 0, .ref a18, .ref a19, .ref a20, .ref a21]))]) hx hb hml hown hU hK hP hD rfl rfl [2] rfl (by decide) (cX11_drawn_2 l D k _ a0 a1 a2 a3 a4 a5 a6 a7 a8 a9 a10 a11 a12 a13 a14 a15 a16 a17 a18 a19 a20 a21) w1177 w1174 w1176 w60 w72 hdX11_drawn ⟨rfl, rfl⟩ ⟨Nat.le_of_ble_eq_true rfl, Nat.le_of_ble_eq_true rfl⟩ rfl hl.1 (Nat.le_of_ble_eq_true rfl) dX11_lot_43 ⟨Nat.le_of_ble_eq_true rfl, Nat.le_of_ble_eq_true rfl⟩) hP hD hS hA (wr := [(a1, .inl (k 0, 36, .inl (tI [] 0))), (a3, .inl (k 1, 9, .inr (.inl (tL [] 0))))]) [2] [0, 1] rfl rfl (by decide) (by decide) (fun r8 H locs hB J hS => ?_)
      obtain ⟨rfl, hP1, hD1⟩ := hB
      obtain ⟨hP, hD⟩ := J _ hP1 hD1
      have hP : va_P D cl0 [(a1, .inl (k 0, 36, .inl (tI [] 0))), (a3, .inl (k 1, 9, .inr (.inl (tL [] 0)))), (a0, .inr (8, [.int 2, .int 0, .int (-1770082073), .int 0, .int 0, .int 0, .ref a1, .ref a2, .int 0, .int 0, .ref a3, .ref a4, .ref a5, .ref a6, .ref a7, .ref a8, .ref a9, .int 0, .int 0, .int 0, .ref a10, .ref a11, .ref a12, .ref a13, .int 0, .int 0, .ref a14, .ref a15, .ref a16, .ref a17, .int 0, .int 0, .ref a18, .ref a19, .ref a20, .ref a21]))] H := hP
      have hD : va_D A [(a1, .inl (k 0, 36, .inl (tI [] 0))), (a3, .inl (k 1, 9, .inr (.inl (tL [] 0)))), (a0, .inr (8, [.int 2, .int 0, .int (-1770082073), .int 0, .int 0, .int 0, .ref a1, .ref a2, .int 0, .int 0, .ref a3, .ref a4, .ref a5, .ref a6, .ref a7, .ref a8, .ref a9, .int 0, .int 0, .int 0, .ref a10, .ref a11, .ref a12, .ref a13, .int 0, .int 0, .ref a14, .ref a15, .ref a16, .ref a17, .int 0, .int 0, .ref a18, .ref a19, .ref a20, .ref a21]))] := hD
      refine lv_istore (lv' := [(4, .int 0), (3, .int 0), (2, .int 0), (0, .ref a0), (1, .int 1)]) hx hb dX11_lot_46 hl (by decide) rfl (fun ls hl => ?_)
      refine lv_aload_n hx hb dX11_lot_48 rfl (lv_at hl 3 rfl) ?_
      refine lv_iconst (v := 5) hx hb dX11_lot_49 (by decide) ?_
      refine cI (rV (q0 := 2) (ci := 8) (As := [.int 5]) (rest := []) (wc := [(a0, .inr (8, [.int 2, .int 0, .int (-1770082073), .int 0, .int 0, .int 0, .ref a1, .ref a2, .int 0, .int 0, .ref a3, .ref a4, .ref a5, .ref a6, .ref a7, .ref a8, .ref a9, .int 0, .int 0, .int 0, .ref a10, .ref a11, .ref a12, .ref a13, .int 0, .int 0, .ref a14, .ref a15, .ref a16, .ref a17, .int 0, .int 0, .ref a18, .ref a19, .ref a20, .ref a21]))]) hx hb hml hown hU hK hP hD rfl rfl [2] rfl (by decide) (cX11_drawn_3 l D k _ a0 a1 a2 a3 a4 a5 a6 a7 a8 a9 a10 a11 a12 a13 a14 a15 a16 a17 a18 a19 a20 a21) w1177 w1174 w1176 w60 w72 hdX11_drawn ⟨rfl, rfl⟩ ⟨Nat.le_of_ble_eq_true rfl, Nat.le_of_ble_eq_true rfl⟩ rfl hl.1 (Nat.le_of_ble_eq_true rfl) dX11_lot_50 ⟨Nat.le_of_ble_eq_true rfl, Nat.le_of_ble_eq_true rfl⟩) hP hD hS hA (wr := [(a1, .inl (k 0, 36, .inl (tI [] 0))), (a3, .inl (k 1, 9, .inr (.inl (tL [] 0))))]) [2] [0, 1] rfl rfl (by decide) (by decide) (fun r9 H locs hB J hS => ?_)
      obtain ⟨rfl, hP1, hD1⟩ := hB
      obtain ⟨hP, hD⟩ := J _ hP1 hD1
      have hP : va_P D cl0 [(a1, .inl (k 0, 36, .inl (tI [] 0))), (a3, .inl (k 1, 9, .inr (.inl (tL [] 0)))), (a0, .inr (8, [.int 2, .int 0, .int 662824084, .int 0, .int 0, .int 0, .ref a1, .ref a2, .int 0, .int 0, .ref a3, .ref a4, .ref a5, .ref a6, .ref a7, .ref a8, .ref a9, .int 0, .int 0, .int 0, .ref a10, .ref a11, .ref a12, .ref a13, .int 0, .int 0, .ref a14, .ref a15, .ref a16, .ref a17, .int 0, .int 0, .ref a18, .ref a19, .ref a20, .ref a21]))] H := hP
      have hD : va_D A [(a1, .inl (k 0, 36, .inl (tI [] 0))), (a3, .inl (k 1, 9, .inr (.inl (tL [] 0)))), (a0, .inr (8, [.int 2, .int 0, .int 662824084, .int 0, .int 0, .int 0, .ref a1, .ref a2, .int 0, .int 0, .ref a3, .ref a4, .ref a5, .ref a6, .ref a7, .ref a8, .ref a9, .int 0, .int 0, .int 0, .ref a10, .ref a11, .ref a12, .ref a13, .int 0, .int 0, .ref a14, .ref a15, .ref a16, .ref a17, .int 0, .int 0, .ref a18, .ref a19, .ref a20, .ref a21]))] := hD
      refine lv_iconst (v := 2) hx hb dX11_lot_53 (by decide) ?_
      refine lv_isub hx hb dX11_lot_54 (sv_i (v := 1) (by decide +kernel) ?_)
      refine lv_istore (lv' := [(5, .int 1), (4, .int 0), (3, .int 0), (2, .int 0), (0, .ref a0), (1, .int 1)]) hx hb dX11_lot_55 hl (by decide) rfl (fun ls hl => ?_)
      refine lv_aload_n hx hb dX11_lot_57 rfl (lv_at hl 4 rfl) ?_
      refine lv_iload_n hx hb dX11_lot_58 rfl (lv_at hl 2 rfl) ?_
      refine lv_iload hx hb dX11_lot_59 (lv_at hl 1 rfl) ?_
      refine lv_iload_n hx hb dX11_lot_61 rfl (lv_at hl 2 rfl) ?_
      refine lv_iload hx hb dX11_lot_62 (lv_at hl 1 rfl) ?_
      refine lv_icmp_ne (tgt := 71) hx hb dX11_lot_64 (by decide) (fun cc => absurd (by decide +kernel) cc) (fun _ => ?_)
      refine lv_iconst (v := (-1)) hx hb dX11_lot_67 (by decide) ?_
      refine lv_goto (tgt := 73) hx hb dX11_lot_68 (by decide) ?_
      refine cV (rV (q0 := 2) (ci := 8) (As := [.int 0, .int 0, .int (-1)]) (rest := []) (wc := [(a0, .inr (8, [.int 2, .int 0, .int 662824084, .int 0, .int 0, .int 0, .ref a1, .ref a2, .int 0, .int 0, .ref a3, .ref a4, .ref a5, .ref a6, .ref a7, .ref a8, .ref a9, .int 0, .int 0, .int 0, .ref a10, .ref a11, .ref a12, .ref a13, .int 0, .int 0, .ref a14, .ref a15, .ref a16, .ref a17, .int 0, .int 0, .ref a18, .ref a19, .ref a20, .ref a21])), (a3, .inl (k 1, 9, .inr (.inl (tL [] 0))))]) hx hb hml hown hU hK hP hD rfl rfl [2, 1] rfl (by decide) (cX11_makesUnit_7 l D k _ a0 a3 a1 a2 a4 a5 a6 a7 a8 a9 a10 a11 a12 a13 a14 a15 a16 a17 a18 a19 a20 a21) w915 w912 w914 w27 w72 hdX11_makesUnit ⟨rfl, rfl⟩ ⟨Nat.le_of_ble_eq_true rfl, Nat.le_of_ble_eq_true rfl⟩ rfl hl.1 (Nat.le_of_ble_eq_true rfl) dX11_lot_73 ⟨Nat.le_of_ble_eq_true rfl, Nat.le_of_ble_eq_true rfl⟩) hP hD hS hA (wr := [(a1, .inl (k 0, 36, .inl (tI [] 0)))]) [2, 1] [0] rfl rfl (by decide) (by decide) (fun H locs hB J hS => ?_)
      obtain ⟨hP1, hD1⟩ := hB
      obtain ⟨hP, hD⟩ := J _ hP1 hD1
      have hP : va_P D cl0 [(a1, .inl (k 0, 36, .inl (tI [] 0))), (a0, .inr (8, [.int 2, .int 0, .int 662824084, .int 0, .int 0, .int 0, .ref a1, .ref a2, .int 0, .int 0, .ref a3, .ref a4, .ref a5, .ref a6, .ref a7, .ref a8, .ref a9, .int 0, .int 0, .int 0, .ref a10, .ref a11, .ref a12, .ref a13, .int 0, .int 0, .ref a14, .ref a15, .ref a16, .ref a17, .int 0, .int 0, .ref a18, .ref a19, .ref a20, .ref a21])), (a3, .inl (k 1, 9, .inr (.inl (tL [(-1), 0, 0, 0, 1, 0, 0, 0, 0] 0))))] H := hP
      have hD : va_D A [(a1, .inl (k 0, 36, .inl (tI [] 0))), (a0, .inr (8, [.int 2, .int 0, .int 662824084, .int 0, .int 0, .int 0, .ref a1, .ref a2, .int 0, .int 0, .ref a3, .ref a4, .ref a5, .ref a6, .ref a7, .ref a8, .ref a9, .int 0, .int 0, .int 0, .ref a10, .ref a11, .ref a12, .ref a13, .int 0, .int 0, .ref a14, .ref a15, .ref a16, .ref a17, .int 0, .int 0, .ref a18, .ref a19, .ref a20, .ref a21])), (a3, .inl (k 1, 9, .inr (.inl (tL [(-1), 0, 0, 0, 1, 0, 0, 0, 0] 0))))] := hD
      refine lv_aload_n hx hb dX11_lot_76 rfl (lv_at hl 4 rfl) ?_
      refine cI (rV (q0 := 1) (ci := 8) (As := []) (rest := []) (wc := [(a0, .inr (8, [.int 2, .int 0, .int 662824084, .int 0, .int 0, .int 0, .ref a1, .ref a2, .int 0, .int 0, .ref a3, .ref a4, .ref a5, .ref a6, .ref a7, .ref a8, .ref a9, .int 0, .int 0, .int 0, .ref a10, .ref a11, .ref a12, .ref a13, .int 0, .int 0, .ref a14, .ref a15, .ref a16, .ref a17, .int 0, .int 0, .ref a18, .ref a19, .ref a20, .ref a21])), (a3, .inl (k 1, 9, .inr (.inl (tL [(-1), 0, 0, 0, 1, 0, 0, 0, 0] 0)))), (a1, .inl (k 0, 36, .inl (tI [] 0)))]) hx hb hml hown hU hK hP hD rfl rfl [1, 2, 0] rfl (by decide) (cX11_comes_6 l D k _ a0 a3 a1 a2 a4 a5 a6 a7 a8 a9 a10 a11 a12 a13 a14 a15 a16 a17 a18 a19 a20 a21) w927 w924 w926 w30 w72 hdX11_comes ⟨rfl, rfl⟩ ⟨Nat.le_of_ble_eq_true rfl, Nat.le_of_ble_eq_true rfl⟩ rfl hl.1 (Nat.le_of_ble_eq_true rfl) dX11_lot_77 ⟨Nat.le_of_ble_eq_true rfl, Nat.le_of_ble_eq_true rfl⟩) hP hD hS hA (wr := []) [1, 2, 0] [] rfl rfl (by decide) (by decide) (fun r11 H locs hB J hS => ?_)
      obtain ⟨rfl, hP1, hD1⟩ := hB
      obtain ⟨hP, hD⟩ := J _ hP1 hD1
      have hP : va_P D cl0 [(a0, .inr (8, [.int 2, .int 1, .int 662824084, .int 0, .int 0, .int 0, .ref a1, .ref a2, .int 0, .int 0, .ref a3, .ref a4, .ref a5, .ref a6, .ref a7, .ref a8, .ref a9, .int 0, .int 0, .int 0, .ref a10, .ref a11, .ref a12, .ref a13, .int 0, .int 0, .ref a14, .ref a15, .ref a16, .ref a17, .int 0, .int 0, .ref a18, .ref a19, .ref a20, .ref a21])), (a3, .inl (k 1, 9, .inr (.inl (tL [(-1), 0, 0, 0, 1, 0, 0, 0, 0] 0)))), (a1, .inl (k 0, 36, .inl (tI [(-1), 0, 0, 0, 1, 0, 0, 0, 0] 0)))] H := hP
      have hD : va_D A [(a0, .inr (8, [.int 2, .int 1, .int 662824084, .int 0, .int 0, .int 0, .ref a1, .ref a2, .int 0, .int 0, .ref a3, .ref a4, .ref a5, .ref a6, .ref a7, .ref a8, .ref a9, .int 0, .int 0, .int 0, .ref a10, .ref a11, .ref a12, .ref a13, .int 0, .int 0, .ref a14, .ref a15, .ref a16, .ref a17, .int 0, .int 0, .ref a18, .ref a19, .ref a20, .ref a21])), (a3, .inl (k 1, 9, .inr (.inl (tL [(-1), 0, 0, 0, 1, 0, 0, 0, 0] 0)))), (a1, .inl (k 0, 36, .inl (tI [(-1), 0, 0, 0, 1, 0, 0, 0, 0] 0)))] := hD
      refine lv_istore (lv' := [(6, .int 0), (5, .int 1), (4, .int 0), (3, .int 0), (2, .int 0), (0, .ref a0), (1, .int 1)]) hx hb dX11_lot_80 hl (by decide) rfl (fun ls hl => ?_)
      refine lv_iload_n hx hb dX11_lot_82 rfl (lv_at hl 4 rfl) ?_
      refine lv_iload hx hb dX11_lot_83 (lv_at hl 0 rfl) ?_
      refine lv_if_lt (tgt := 92) hx hb dX11_lot_85 (by decide) (fun cc => absurd cc (by decide +kernel)) (fun _ => ?_)
      refine lv_iconst (v := 1) hx hb dX11_lot_88 (by decide) ?_
      refine lv_goto (tgt := 93) hx hb dX11_lot_89 (by decide) ?_
      refine lv_iadd hx hb dX11_lot_93 (sv_i (v := 1) (by decide +kernel) ?_)
      refine lv_istore_n (lv' := [(2, .int 1), (6, .int 0), (5, .int 1), (4, .int 0), (3, .int 0), (0, .ref a0), (1, .int 1)]) hx hb dX11_lot_94 rfl hl (by decide) rfl (fun ls hl => ?_)
      refine lv_goto (tgt := 16) hx hb dX11_lot_95 (by decide) ?_
      refine lv_iload_n hx hb dX11_lot_16 rfl (lv_at hl 0 rfl) ?_
      refine lv_iload_n hx hb dX11_lot_17 rfl (lv_at hl 6 rfl) ?_
      refine lv_icmp_ge (tgt := 98) hx hb dX11_lot_18 (by decide) (fun _ => ?_) (fun cc => absurd (by decide +kernel) cc)
      refine lv_iload_n hx hb dX11_lot_98 rfl (lv_at hl 0 rfl) ?_
      exact retI (v := 1) hx hb hr hlocks hS (show (1 : Int32) = F_lot 1 by first | decide +kernel | (have g_1 : (1 : Int32).toInt = 1 := (by decide +kernel); unfold F_lot; (repeat (first | rw [if_pos (by omega)] | rw [if_neg (by omega)])))) dX11_lot_99
    · skip
      obtain rfl : x0 = 2 := eq32 hsp (by decide +kernel)
      refine lv_icmp_ge (tgt := 98) hx hb dX11_lot_18 (by decide) (fun cc => absurd cc (by decide +kernel)) (fun _ => ?_)
      refine lv_aload_n hx hb dX11_lot_21 rfl (lv_at hl 1 rfl) ?_
      refine va_get (D := D) (ci := 8) (v := .int 0) (C := RX11) (T := TX11) (N := 36) hx hb hU iX11 hown hK.1 hP 0 rfl rfl 1 (by decide) (hU _ w786) (fun _ h9 => h9) rfl dX11_lot_22 ?_
      refine lv_iconst (v := 4) hx hb dX11_lot_25 (by decide) ?_
      refine lv_icmp_ge (tgt := 98) hx hb dX11_lot_26 (by decide) (fun cc => absurd cc (by decide +kernel)) (fun _ => ?_)
      refine lv_aload_n hx hb dX11_lot_29 rfl (lv_at hl 1 rfl) ?_
      refine lv_aload_n hx hb dX11_lot_30 rfl (lv_at hl 1 rfl) ?_
      refine va_get (D := D) (ci := 8) (v := .int 2) (C := RX11) (T := TX11) (N := 36) hx hb hU iX11 hown hK.1 hP 0 rfl rfl 0 (by decide) (hU _ w785) (fun _ h9 => h9) rfl dX11_lot_31 ?_
      refine cI (rV (q0 := 0) (ci := 8) (As := [.int 2]) (rest := []) (wc := [(a0, .inr (8, [.int 2, .int 0, .int 1, .int 0, .int 0, .int 0, .ref a1, .ref a2, .int 0, .int 0, .ref a3, .ref a4, .ref a5, .ref a6, .ref a7, .ref a8, .ref a9, .int 0, .int 0, .int 0, .ref a10, .ref a11, .ref a12, .ref a13, .int 0, .int 0, .ref a14, .ref a15, .ref a16, .ref a17, .int 0, .int 0, .ref a18, .ref a19, .ref a20, .ref a21]))]) hx hb hml hown hU hK hP hD rfl rfl [0] rfl (by decide) (cX11_drawn_1 l D k _ a0 a1 a2 a3 a4 a5 a6 a7 a8 a9 a10 a11 a12 a13 a14 a15 a16 a17 a18 a19 a20 a21) w1177 w1174 w1176 w60 w72 hdX11_drawn ⟨rfl, rfl⟩ ⟨Nat.le_of_ble_eq_true rfl, Nat.le_of_ble_eq_true rfl⟩ rfl hl.1 (Nat.le_of_ble_eq_true rfl) dX11_lot_34 ⟨Nat.le_of_ble_eq_true rfl, Nat.le_of_ble_eq_true rfl⟩) hP hD hS hA (wr := [(a1, .inl (k 0, 36, .inl (tI [] 0))), (a3, .inl (k 1, 9, .inr (.inl (tL [] 0))))]) [0] [1, 2] rfl rfl (by decide) (by decide) (fun r12 H locs hB J hS => ?_)
      obtain ⟨rfl, hP1, hD1⟩ := hB
      obtain ⟨hP, hD⟩ := J _ hP1 hD1
      have hP : va_P D cl0 [(a1, .inl (k 0, 36, .inl (tI [] 0))), (a3, .inl (k 1, 9, .inr (.inl (tL [] 0)))), (a0, .inr (8, [.int 2, .int 0, .int 1103527590, .int 0, .int 0, .int 0, .ref a1, .ref a2, .int 0, .int 0, .ref a3, .ref a4, .ref a5, .ref a6, .ref a7, .ref a8, .ref a9, .int 0, .int 0, .int 0, .ref a10, .ref a11, .ref a12, .ref a13, .int 0, .int 0, .ref a14, .ref a15, .ref a16, .ref a17, .int 0, .int 0, .ref a18, .ref a19, .ref a20, .ref a21]))] H := hP
      have hD : va_D A [(a1, .inl (k 0, 36, .inl (tI [] 0))), (a3, .inl (k 1, 9, .inr (.inl (tL [] 0)))), (a0, .inr (8, [.int 2, .int 0, .int 1103527590, .int 0, .int 0, .int 0, .ref a1, .ref a2, .int 0, .int 0, .ref a3, .ref a4, .ref a5, .ref a6, .ref a7, .ref a8, .ref a9, .int 0, .int 0, .int 0, .ref a10, .ref a11, .ref a12, .ref a13, .int 0, .int 0, .ref a14, .ref a15, .ref a16, .ref a17, .int 0, .int 0, .ref a18, .ref a19, .ref a20, .ref a21]))] := hD
      refine lv_istore_n (lv' := [(3, .int 0), (2, .int 0), (0, .ref a0), (1, .int 2)]) hx hb dX11_lot_37 rfl hl (by decide) rfl (fun ls hl => ?_)
      refine lv_aload_n hx hb dX11_lot_38 rfl (lv_at hl 2 rfl) ?_
      refine lv_aload_n hx hb dX11_lot_39 rfl (lv_at hl 2 rfl) ?_
      refine va_get (D := D) (ci := 8) (v := .int 2) (C := RX11) (T := TX11) (N := 36) hx hb hU iX11 hown hK.1 hP 2 rfl rfl 0 (by decide) (hU _ w785) (fun _ h9 => h9) rfl dX11_lot_40 ?_
      refine cI (rV (q0 := 2) (ci := 8) (As := [.int 2]) (rest := []) (wc := [(a0, .inr (8, [.int 2, .int 0, .int 1103527590, .int 0, .int 0, .int 0, .ref a1, .ref a2, .int 0, .int 0, .ref a3, .ref a4, .ref a5, .ref a6, .ref a7, .ref a8, .ref a9, .int 0, .int 0, .int 0, .ref a10, .ref a11, .ref a12, .ref a13, .int 0, .int 0, .ref a14, .ref a15, .ref a16, .ref a17, .int 0, .int 0, .ref a18, .ref a19, .ref a20, .ref a21]))]) hx hb hml hown hU hK hP hD rfl rfl [2] rfl (by decide) (cX11_drawn_2 l D k _ a0 a1 a2 a3 a4 a5 a6 a7 a8 a9 a10 a11 a12 a13 a14 a15 a16 a17 a18 a19 a20 a21) w1177 w1174 w1176 w60 w72 hdX11_drawn ⟨rfl, rfl⟩ ⟨Nat.le_of_ble_eq_true rfl, Nat.le_of_ble_eq_true rfl⟩ rfl hl.1 (Nat.le_of_ble_eq_true rfl) dX11_lot_43 ⟨Nat.le_of_ble_eq_true rfl, Nat.le_of_ble_eq_true rfl⟩) hP hD hS hA (wr := [(a1, .inl (k 0, 36, .inl (tI [] 0))), (a3, .inl (k 1, 9, .inr (.inl (tL [] 0))))]) [2] [0, 1] rfl rfl (by decide) (by decide) (fun r13 H locs hB J hS => ?_)
      obtain ⟨rfl, hP1, hD1⟩ := hB
      obtain ⟨hP, hD⟩ := J _ hP1 hD1
      have hP : va_P D cl0 [(a1, .inl (k 0, 36, .inl (tI [] 0))), (a3, .inl (k 1, 9, .inr (.inl (tL [] 0)))), (a0, .inr (8, [.int 2, .int 0, .int (-1770082073), .int 0, .int 0, .int 0, .ref a1, .ref a2, .int 0, .int 0, .ref a3, .ref a4, .ref a5, .ref a6, .ref a7, .ref a8, .ref a9, .int 0, .int 0, .int 0, .ref a10, .ref a11, .ref a12, .ref a13, .int 0, .int 0, .ref a14, .ref a15, .ref a16, .ref a17, .int 0, .int 0, .ref a18, .ref a19, .ref a20, .ref a21]))] H := hP
      have hD : va_D A [(a1, .inl (k 0, 36, .inl (tI [] 0))), (a3, .inl (k 1, 9, .inr (.inl (tL [] 0)))), (a0, .inr (8, [.int 2, .int 0, .int (-1770082073), .int 0, .int 0, .int 0, .ref a1, .ref a2, .int 0, .int 0, .ref a3, .ref a4, .ref a5, .ref a6, .ref a7, .ref a8, .ref a9, .int 0, .int 0, .int 0, .ref a10, .ref a11, .ref a12, .ref a13, .int 0, .int 0, .ref a14, .ref a15, .ref a16, .ref a17, .int 0, .int 0, .ref a18, .ref a19, .ref a20, .ref a21]))] := hD
      refine lv_istore (lv' := [(4, .int 0), (3, .int 0), (2, .int 0), (0, .ref a0), (1, .int 2)]) hx hb dX11_lot_46 hl (by decide) rfl (fun ls hl => ?_)
      refine lv_aload_n hx hb dX11_lot_48 rfl (lv_at hl 3 rfl) ?_
      refine lv_iconst (v := 5) hx hb dX11_lot_49 (by decide) ?_
      refine cI (rV (q0 := 2) (ci := 8) (As := [.int 5]) (rest := []) (wc := [(a0, .inr (8, [.int 2, .int 0, .int (-1770082073), .int 0, .int 0, .int 0, .ref a1, .ref a2, .int 0, .int 0, .ref a3, .ref a4, .ref a5, .ref a6, .ref a7, .ref a8, .ref a9, .int 0, .int 0, .int 0, .ref a10, .ref a11, .ref a12, .ref a13, .int 0, .int 0, .ref a14, .ref a15, .ref a16, .ref a17, .int 0, .int 0, .ref a18, .ref a19, .ref a20, .ref a21]))]) hx hb hml hown hU hK hP hD rfl rfl [2] rfl (by decide) (cX11_drawn_3 l D k _ a0 a1 a2 a3 a4 a5 a6 a7 a8 a9 a10 a11 a12 a13 a14 a15 a16 a17 a18 a19 a20 a21) w1177 w1174 w1176 w60 w72 hdX11_drawn ⟨rfl, rfl⟩ ⟨Nat.le_of_ble_eq_true rfl, Nat.le_of_ble_eq_true rfl⟩ rfl hl.1 (Nat.le_of_ble_eq_true rfl) dX11_lot_50 ⟨Nat.le_of_ble_eq_true rfl, Nat.le_of_ble_eq_true rfl⟩) hP hD hS hA (wr := [(a1, .inl (k 0, 36, .inl (tI [] 0))), (a3, .inl (k 1, 9, .inr (.inl (tL [] 0))))]) [2] [0, 1] rfl rfl (by decide) (by decide) (fun r14 H locs hB J hS => ?_)
      obtain ⟨rfl, hP1, hD1⟩ := hB
      obtain ⟨hP, hD⟩ := J _ hP1 hD1
      have hP : va_P D cl0 [(a1, .inl (k 0, 36, .inl (tI [] 0))), (a3, .inl (k 1, 9, .inr (.inl (tL [] 0)))), (a0, .inr (8, [.int 2, .int 0, .int 662824084, .int 0, .int 0, .int 0, .ref a1, .ref a2, .int 0, .int 0, .ref a3, .ref a4, .ref a5, .ref a6, .ref a7, .ref a8, .ref a9, .int 0, .int 0, .int 0, .ref a10, .ref a11, .ref a12, .ref a13, .int 0, .int 0, .ref a14, .ref a15, .ref a16, .ref a17, .int 0, .int 0, .ref a18, .ref a19, .ref a20, .ref a21]))] H := hP
      have hD : va_D A [(a1, .inl (k 0, 36, .inl (tI [] 0))), (a3, .inl (k 1, 9, .inr (.inl (tL [] 0)))), (a0, .inr (8, [.int 2, .int 0, .int 662824084, .int 0, .int 0, .int 0, .ref a1, .ref a2, .int 0, .int 0, .ref a3, .ref a4, .ref a5, .ref a6, .ref a7, .ref a8, .ref a9, .int 0, .int 0, .int 0, .ref a10, .ref a11, .ref a12, .ref a13, .int 0, .int 0, .ref a14, .ref a15, .ref a16, .ref a17, .int 0, .int 0, .ref a18, .ref a19, .ref a20, .ref a21]))] := hD
      refine lv_iconst (v := 2) hx hb dX11_lot_53 (by decide) ?_
      refine lv_isub hx hb dX11_lot_54 (sv_i (v := 1) (by decide +kernel) ?_)
      refine lv_istore (lv' := [(5, .int 1), (4, .int 0), (3, .int 0), (2, .int 0), (0, .ref a0), (1, .int 2)]) hx hb dX11_lot_55 hl (by decide) rfl (fun ls hl => ?_)
      refine lv_aload_n hx hb dX11_lot_57 rfl (lv_at hl 4 rfl) ?_
      refine lv_iload_n hx hb dX11_lot_58 rfl (lv_at hl 2 rfl) ?_
      refine lv_iload hx hb dX11_lot_59 (lv_at hl 1 rfl) ?_
      refine lv_iload_n hx hb dX11_lot_61 rfl (lv_at hl 2 rfl) ?_
      refine lv_iload hx hb dX11_lot_62 (lv_at hl 1 rfl) ?_
      refine lv_icmp_ne (tgt := 71) hx hb dX11_lot_64 (by decide) (fun cc => absurd (by decide +kernel) cc) (fun _ => ?_)
      refine lv_iconst (v := (-1)) hx hb dX11_lot_67 (by decide) ?_
      refine lv_goto (tgt := 73) hx hb dX11_lot_68 (by decide) ?_
      refine cV (rV (q0 := 2) (ci := 8) (As := [.int 0, .int 0, .int (-1)]) (rest := []) (wc := [(a0, .inr (8, [.int 2, .int 0, .int 662824084, .int 0, .int 0, .int 0, .ref a1, .ref a2, .int 0, .int 0, .ref a3, .ref a4, .ref a5, .ref a6, .ref a7, .ref a8, .ref a9, .int 0, .int 0, .int 0, .ref a10, .ref a11, .ref a12, .ref a13, .int 0, .int 0, .ref a14, .ref a15, .ref a16, .ref a17, .int 0, .int 0, .ref a18, .ref a19, .ref a20, .ref a21])), (a3, .inl (k 1, 9, .inr (.inl (tL [] 0))))]) hx hb hml hown hU hK hP hD rfl rfl [2, 1] rfl (by decide) (cX11_makesUnit_7 l D k _ a0 a3 a1 a2 a4 a5 a6 a7 a8 a9 a10 a11 a12 a13 a14 a15 a16 a17 a18 a19 a20 a21) w915 w912 w914 w27 w72 hdX11_makesUnit ⟨rfl, rfl⟩ ⟨Nat.le_of_ble_eq_true rfl, Nat.le_of_ble_eq_true rfl⟩ rfl hl.1 (Nat.le_of_ble_eq_true rfl) dX11_lot_73 ⟨Nat.le_of_ble_eq_true rfl, Nat.le_of_ble_eq_true rfl⟩) hP hD hS hA (wr := [(a1, .inl (k 0, 36, .inl (tI [] 0)))]) [2, 1] [0] rfl rfl (by decide) (by decide) (fun H locs hB J hS => ?_)
      obtain ⟨hP1, hD1⟩ := hB
      obtain ⟨hP, hD⟩ := J _ hP1 hD1
      have hP : va_P D cl0 [(a1, .inl (k 0, 36, .inl (tI [] 0))), (a0, .inr (8, [.int 2, .int 0, .int 662824084, .int 0, .int 0, .int 0, .ref a1, .ref a2, .int 0, .int 0, .ref a3, .ref a4, .ref a5, .ref a6, .ref a7, .ref a8, .ref a9, .int 0, .int 0, .int 0, .ref a10, .ref a11, .ref a12, .ref a13, .int 0, .int 0, .ref a14, .ref a15, .ref a16, .ref a17, .int 0, .int 0, .ref a18, .ref a19, .ref a20, .ref a21])), (a3, .inl (k 1, 9, .inr (.inl (tL [(-1), 0, 0, 0, 1, 0, 0, 0, 0] 0))))] H := hP
      have hD : va_D A [(a1, .inl (k 0, 36, .inl (tI [] 0))), (a0, .inr (8, [.int 2, .int 0, .int 662824084, .int 0, .int 0, .int 0, .ref a1, .ref a2, .int 0, .int 0, .ref a3, .ref a4, .ref a5, .ref a6, .ref a7, .ref a8, .ref a9, .int 0, .int 0, .int 0, .ref a10, .ref a11, .ref a12, .ref a13, .int 0, .int 0, .ref a14, .ref a15, .ref a16, .ref a17, .int 0, .int 0, .ref a18, .ref a19, .ref a20, .ref a21])), (a3, .inl (k 1, 9, .inr (.inl (tL [(-1), 0, 0, 0, 1, 0, 0, 0, 0] 0))))] := hD
      refine lv_aload_n hx hb dX11_lot_76 rfl (lv_at hl 4 rfl) ?_
      refine cI (rV (q0 := 1) (ci := 8) (As := []) (rest := []) (wc := [(a0, .inr (8, [.int 2, .int 0, .int 662824084, .int 0, .int 0, .int 0, .ref a1, .ref a2, .int 0, .int 0, .ref a3, .ref a4, .ref a5, .ref a6, .ref a7, .ref a8, .ref a9, .int 0, .int 0, .int 0, .ref a10, .ref a11, .ref a12, .ref a13, .int 0, .int 0, .ref a14, .ref a15, .ref a16, .ref a17, .int 0, .int 0, .ref a18, .ref a19, .ref a20, .ref a21])), (a3, .inl (k 1, 9, .inr (.inl (tL [(-1), 0, 0, 0, 1, 0, 0, 0, 0] 0)))), (a1, .inl (k 0, 36, .inl (tI [] 0)))]) hx hb hml hown hU hK hP hD rfl rfl [1, 2, 0] rfl (by decide) (cX11_comes_6 l D k _ a0 a3 a1 a2 a4 a5 a6 a7 a8 a9 a10 a11 a12 a13 a14 a15 a16 a17 a18 a19 a20 a21) w927 w924 w926 w30 w72 hdX11_comes ⟨rfl, rfl⟩ ⟨Nat.le_of_ble_eq_true rfl, Nat.le_of_ble_eq_true rfl⟩ rfl hl.1 (Nat.le_of_ble_eq_true rfl) dX11_lot_77 ⟨Nat.le_of_ble_eq_true rfl, Nat.le_of_ble_eq_true rfl⟩) hP hD hS hA (wr := []) [1, 2, 0] [] rfl rfl (by decide) (by decide) (fun r16 H locs hB J hS => ?_)
      obtain ⟨rfl, hP1, hD1⟩ := hB
      obtain ⟨hP, hD⟩ := J _ hP1 hD1
      have hP : va_P D cl0 [(a0, .inr (8, [.int 2, .int 1, .int 662824084, .int 0, .int 0, .int 0, .ref a1, .ref a2, .int 0, .int 0, .ref a3, .ref a4, .ref a5, .ref a6, .ref a7, .ref a8, .ref a9, .int 0, .int 0, .int 0, .ref a10, .ref a11, .ref a12, .ref a13, .int 0, .int 0, .ref a14, .ref a15, .ref a16, .ref a17, .int 0, .int 0, .ref a18, .ref a19, .ref a20, .ref a21])), (a3, .inl (k 1, 9, .inr (.inl (tL [(-1), 0, 0, 0, 1, 0, 0, 0, 0] 0)))), (a1, .inl (k 0, 36, .inl (tI [(-1), 0, 0, 0, 1, 0, 0, 0, 0] 0)))] H := hP
      have hD : va_D A [(a0, .inr (8, [.int 2, .int 1, .int 662824084, .int 0, .int 0, .int 0, .ref a1, .ref a2, .int 0, .int 0, .ref a3, .ref a4, .ref a5, .ref a6, .ref a7, .ref a8, .ref a9, .int 0, .int 0, .int 0, .ref a10, .ref a11, .ref a12, .ref a13, .int 0, .int 0, .ref a14, .ref a15, .ref a16, .ref a17, .int 0, .int 0, .ref a18, .ref a19, .ref a20, .ref a21])), (a3, .inl (k 1, 9, .inr (.inl (tL [(-1), 0, 0, 0, 1, 0, 0, 0, 0] 0)))), (a1, .inl (k 0, 36, .inl (tI [(-1), 0, 0, 0, 1, 0, 0, 0, 0] 0)))] := hD
      refine lv_istore (lv' := [(6, .int 0), (5, .int 1), (4, .int 0), (3, .int 0), (2, .int 0), (0, .ref a0), (1, .int 2)]) hx hb dX11_lot_80 hl (by decide) rfl (fun ls hl => ?_)
      refine lv_iload_n hx hb dX11_lot_82 rfl (lv_at hl 4 rfl) ?_
      refine lv_iload hx hb dX11_lot_83 (lv_at hl 0 rfl) ?_
      refine lv_if_lt (tgt := 92) hx hb dX11_lot_85 (by decide) (fun cc => absurd cc (by decide +kernel)) (fun _ => ?_)
      refine lv_iconst (v := 1) hx hb dX11_lot_88 (by decide) ?_
      refine lv_goto (tgt := 93) hx hb dX11_lot_89 (by decide) ?_
      refine lv_iadd hx hb dX11_lot_93 (sv_i (v := 1) (by decide +kernel) ?_)
      refine lv_istore_n (lv' := [(2, .int 1), (6, .int 0), (5, .int 1), (4, .int 0), (3, .int 0), (0, .ref a0), (1, .int 2)]) hx hb dX11_lot_94 rfl hl (by decide) rfl (fun ls hl => ?_)
      refine lv_goto (tgt := 16) hx hb dX11_lot_95 (by decide) ?_
      refine lv_iload_n hx hb dX11_lot_16 rfl (lv_at hl 0 rfl) ?_
      refine lv_iload_n hx hb dX11_lot_17 rfl (lv_at hl 6 rfl) ?_
      refine lv_icmp_ge (tgt := 98) hx hb dX11_lot_18 (by decide) (fun cc => absurd cc (by decide +kernel)) (fun _ => ?_)
      refine lv_aload_n hx hb dX11_lot_21 rfl (lv_at hl 5 rfl) ?_
      refine va_get (D := D) (ci := 8) (v := .int 1) (C := RX11) (T := TX11) (N := 36) hx hb hU iX11 hown hK.1 hP 0 rfl rfl 1 (by decide) (hU _ w786) (fun _ h9 => h9) rfl dX11_lot_22 ?_
      refine lv_iconst (v := 4) hx hb dX11_lot_25 (by decide) ?_
      refine lv_icmp_ge (tgt := 98) hx hb dX11_lot_26 (by decide) (fun cc => absurd cc (by decide +kernel)) (fun _ => ?_)
      refine lv_aload_n hx hb dX11_lot_29 rfl (lv_at hl 5 rfl) ?_
      refine lv_aload_n hx hb dX11_lot_30 rfl (lv_at hl 5 rfl) ?_
      refine va_get (D := D) (ci := 8) (v := .int 2) (C := RX11) (T := TX11) (N := 36) hx hb hU iX11 hown hK.1 hP 0 rfl rfl 0 (by decide) (hU _ w785) (fun _ h9 => h9) rfl dX11_lot_31 ?_
      refine cI (rV (q0 := 0) (ci := 8) (As := [.int 2]) (rest := []) (wc := [(a0, .inr (8, [.int 2, .int 1, .int 662824084, .int 0, .int 0, .int 0, .ref a1, .ref a2, .int 0, .int 0, .ref a3, .ref a4, .ref a5, .ref a6, .ref a7, .ref a8, .ref a9, .int 0, .int 0, .int 0, .ref a10, .ref a11, .ref a12, .ref a13, .int 0, .int 0, .ref a14, .ref a15, .ref a16, .ref a17, .int 0, .int 0, .ref a18, .ref a19, .ref a20, .ref a21]))]) hx hb hml hown hU hK hP hD rfl rfl [0] rfl (by decide) (cX11_drawn_4 l D k _ a0 a1 a2 a3 a4 a5 a6 a7 a8 a9 a10 a11 a12 a13 a14 a15 a16 a17 a18 a19 a20 a21) w1177 w1174 w1176 w60 w72 hdX11_drawn ⟨rfl, rfl⟩ ⟨Nat.le_of_ble_eq_true rfl, Nat.le_of_ble_eq_true rfl⟩ rfl hl.1 (Nat.le_of_ble_eq_true rfl) dX11_lot_34 ⟨Nat.le_of_ble_eq_true rfl, Nat.le_of_ble_eq_true rfl⟩) hP hD hS hA (wr := [(a3, .inl (k 1, 9, .inr (.inl (tL [(-1), 0, 0, 0, 1, 0, 0, 0, 0] 0)))), (a1, .inl (k 0, 36, .inl (tI [(-1), 0, 0, 0, 1, 0, 0, 0, 0] 0)))]) [0] [1, 2] rfl rfl (by decide) (by decide) (fun r17 H locs hB J hS => ?_)
      obtain ⟨rfl, hP1, hD1⟩ := hB
      obtain ⟨hP, hD⟩ := J _ hP1 hD1
      have hP : va_P D cl0 [(a3, .inl (k 1, 9, .inr (.inl (tL [(-1), 0, 0, 0, 1, 0, 0, 0, 0] 0)))), (a1, .inl (k 0, 36, .inl (tI [(-1), 0, 0, 0, 1, 0, 0, 0, 0] 0))), (a0, .inr (8, [.int 2, .int 1, .int (-999580867), .int 0, .int 0, .int 0, .ref a1, .ref a2, .int 0, .int 0, .ref a3, .ref a4, .ref a5, .ref a6, .ref a7, .ref a8, .ref a9, .int 0, .int 0, .int 0, .ref a10, .ref a11, .ref a12, .ref a13, .int 0, .int 0, .ref a14, .ref a15, .ref a16, .ref a17, .int 0, .int 0, .ref a18, .ref a19, .ref a20, .ref a21]))] H := hP
      have hD : va_D A [(a3, .inl (k 1, 9, .inr (.inl (tL [(-1), 0, 0, 0, 1, 0, 0, 0, 0] 0)))), (a1, .inl (k 0, 36, .inl (tI [(-1), 0, 0, 0, 1, 0, 0, 0, 0] 0))), (a0, .inr (8, [.int 2, .int 1, .int (-999580867), .int 0, .int 0, .int 0, .ref a1, .ref a2, .int 0, .int 0, .ref a3, .ref a4, .ref a5, .ref a6, .ref a7, .ref a8, .ref a9, .int 0, .int 0, .int 0, .ref a10, .ref a11, .ref a12, .ref a13, .int 0, .int 0, .ref a14, .ref a15, .ref a16, .ref a17, .int 0, .int 0, .ref a18, .ref a19, .ref a20, .ref a21]))] := hD
      refine lv_istore_n (lv' := [(3, .int 1), (2, .int 1), (6, .int 0), (5, .int 1), (4, .int 0), (0, .ref a0), (1, .int 2)]) hx hb dX11_lot_37 rfl hl (by decide) rfl (fun ls hl => ?_)
      refine lv_aload_n hx hb dX11_lot_38 rfl (lv_at hl 5 rfl) ?_
      refine lv_aload_n hx hb dX11_lot_39 rfl (lv_at hl 5 rfl) ?_
      refine va_get (D := D) (ci := 8) (v := .int 2) (C := RX11) (T := TX11) (N := 36) hx hb hU iX11 hown hK.1 hP 2 rfl rfl 0 (by decide) (hU _ w785) (fun _ h9 => h9) rfl dX11_lot_40 ?_
      refine cI (rV (q0 := 2) (ci := 8) (As := [.int 2]) (rest := []) (wc := [(a0, .inr (8, [.int 2, .int 1, .int (-999580867), .int 0, .int 0, .int 0, .ref a1, .ref a2, .int 0, .int 0, .ref a3, .ref a4, .ref a5, .ref a6, .ref a7, .ref a8, .ref a9, .int 0, .int 0, .int 0, .ref a10, .ref a11, .ref a12, .ref a13, .int 0, .int 0, .ref a14, .ref a15, .ref a16, .ref a17, .int 0, .int 0, .ref a18, .ref a19, .ref a20, .ref a21]))]) hx hb hml hown hU hK hP hD rfl rfl [2] rfl (by decide) (cX11_drawn_5 l D k _ a0 a1 a2 a3 a4 a5 a6 a7 a8 a9 a10 a11 a12 a13 a14 a15 a16 a17 a18 a19 a20 a21) w1177 w1174 w1176 w60 w72 hdX11_drawn ⟨rfl, rfl⟩ ⟨Nat.le_of_ble_eq_true rfl, Nat.le_of_ble_eq_true rfl⟩ rfl hl.1 (Nat.le_of_ble_eq_true rfl) dX11_lot_43 ⟨Nat.le_of_ble_eq_true rfl, Nat.le_of_ble_eq_true rfl⟩) hP hD hS hA (wr := [(a3, .inl (k 1, 9, .inr (.inl (tL [(-1), 0, 0, 0, 1, 0, 0, 0, 0] 0)))), (a1, .inl (k 0, 36, .inl (tI [(-1), 0, 0, 0, 1, 0, 0, 0, 0] 0)))]) [2] [0, 1] rfl rfl (by decide) (by decide) (fun r18 H locs hB J hS => ?_)
      obtain ⟨rfl, hP1, hD1⟩ := hB
      obtain ⟨hP, hD⟩ := J _ hP1 hD1
      have hP : va_P D cl0 [(a3, .inl (k 1, 9, .inr (.inl (tL [(-1), 0, 0, 0, 1, 0, 0, 0, 0] 0)))), (a1, .inl (k 0, 36, .inl (tI [(-1), 0, 0, 0, 1, 0, 0, 0, 0] 0))), (a0, .inr (8, [.int 2, .int 1, .int (-112468174), .int 0, .int 0, .int 0, .ref a1, .ref a2, .int 0, .int 0, .ref a3, .ref a4, .ref a5, .ref a6, .ref a7, .ref a8, .ref a9, .int 0, .int 0, .int 0, .ref a10, .ref a11, .ref a12, .ref a13, .int 0, .int 0, .ref a14, .ref a15, .ref a16, .ref a17, .int 0, .int 0, .ref a18, .ref a19, .ref a20, .ref a21]))] H := hP
      have hD : va_D A [(a3, .inl (k 1, 9, .inr (.inl (tL [(-1), 0, 0, 0, 1, 0, 0, 0, 0] 0)))), (a1, .inl (k 0, 36, .inl (tI [(-1), 0, 0, 0, 1, 0, 0, 0, 0] 0))), (a0, .inr (8, [.int 2, .int 1, .int (-112468174), .int 0, .int 0, .int 0, .ref a1, .ref a2, .int 0, .int 0, .ref a3, .ref a4, .ref a5, .ref a6, .ref a7, .ref a8, .ref a9, .int 0, .int 0, .int 0, .ref a10, .ref a11, .ref a12, .ref a13, .int 0, .int 0, .ref a14, .ref a15, .ref a16, .ref a17, .int 0, .int 0, .ref a18, .ref a19, .ref a20, .ref a21]))] := hD
      refine lv_istore (lv' := [(4, .int 1), (3, .int 1), (2, .int 1), (6, .int 0), (5, .int 1), (0, .ref a0), (1, .int 2)]) hx hb dX11_lot_46 hl (by decide) rfl (fun ls hl => ?_)
      refine lv_aload_n hx hb dX11_lot_48 rfl (lv_at hl 5 rfl) ?_
      refine lv_iconst (v := 5) hx hb dX11_lot_49 (by decide) ?_
      refine cI (rV (q0 := 2) (ci := 8) (As := [.int 5]) (rest := []) (wc := [(a0, .inr (8, [.int 2, .int 1, .int (-112468174), .int 0, .int 0, .int 0, .ref a1, .ref a2, .int 0, .int 0, .ref a3, .ref a4, .ref a5, .ref a6, .ref a7, .ref a8, .ref a9, .int 0, .int 0, .int 0, .ref a10, .ref a11, .ref a12, .ref a13, .int 0, .int 0, .ref a14, .ref a15, .ref a16, .ref a17, .int 0, .int 0, .ref a18, .ref a19, .ref a20, .ref a21]))]) hx hb hml hown hU hK hP hD rfl rfl [2] rfl (by decide) (cX11_drawn_6 l D k _ a0 a1 a2 a3 a4 a5 a6 a7 a8 a9 a10 a11 a12 a13 a14 a15 a16 a17 a18 a19 a20 a21) w1177 w1174 w1176 w60 w72 hdX11_drawn ⟨rfl, rfl⟩ ⟨Nat.le_of_ble_eq_true rfl, Nat.le_of_ble_eq_true rfl⟩ rfl hl.1 (Nat.le_of_ble_eq_true rfl) dX11_lot_50 ⟨Nat.le_of_ble_eq_true rfl, Nat.le_of_ble_eq_true rfl⟩) hP hD hS hA (wr := [(a3, .inl (k 1, 9, .inr (.inl (tL [(-1), 0, 0, 0, 1, 0, 0, 0, 0] 0)))), (a1, .inl (k 0, 36, .inl (tI [(-1), 0, 0, 0, 1, 0, 0, 0, 0] 0)))]) [2] [0, 1] rfl rfl (by decide) (by decide) (fun r19 H locs hB J hS => ?_)
      obtain ⟨rfl, hP1, hD1⟩ := hB
      obtain ⟨hP, hD⟩ := J _ hP1 hD1
      have hP : va_P D cl0 [(a3, .inl (k 1, 9, .inr (.inl (tL [(-1), 0, 0, 0, 1, 0, 0, 0, 0] 0)))), (a1, .inl (k 0, 36, .inl (tI [(-1), 0, 0, 0, 1, 0, 0, 0, 0] 0))), (a0, .inr (8, [.int 2, .int 1, .int (-1778682749), .int 0, .int 0, .int 0, .ref a1, .ref a2, .int 0, .int 0, .ref a3, .ref a4, .ref a5, .ref a6, .ref a7, .ref a8, .ref a9, .int 0, .int 0, .int 0, .ref a10, .ref a11, .ref a12, .ref a13, .int 0, .int 0, .ref a14, .ref a15, .ref a16, .ref a17, .int 0, .int 0, .ref a18, .ref a19, .ref a20, .ref a21]))] H := hP
      have hD : va_D A [(a3, .inl (k 1, 9, .inr (.inl (tL [(-1), 0, 0, 0, 1, 0, 0, 0, 0] 0)))), (a1, .inl (k 0, 36, .inl (tI [(-1), 0, 0, 0, 1, 0, 0, 0, 0] 0))), (a0, .inr (8, [.int 2, .int 1, .int (-1778682749), .int 0, .int 0, .int 0, .ref a1, .ref a2, .int 0, .int 0, .ref a3, .ref a4, .ref a5, .ref a6, .ref a7, .ref a8, .ref a9, .int 0, .int 0, .int 0, .ref a10, .ref a11, .ref a12, .ref a13, .int 0, .int 0, .ref a14, .ref a15, .ref a16, .ref a17, .int 0, .int 0, .ref a18, .ref a19, .ref a20, .ref a21]))] := hD
      refine lv_iconst (v := 2) hx hb dX11_lot_53 (by decide) ?_
      refine lv_isub hx hb dX11_lot_54 (sv_i (v := (-2)) (by decide +kernel) ?_)
      refine lv_istore (lv' := [(5, .int (-2)), (4, .int 1), (3, .int 1), (2, .int 1), (6, .int 0), (0, .ref a0), (1, .int 2)]) hx hb dX11_lot_55 hl (by decide) rfl (fun ls hl => ?_)
      refine lv_aload_n hx hb dX11_lot_57 rfl (lv_at hl 5 rfl) ?_
      refine lv_iload_n hx hb dX11_lot_58 rfl (lv_at hl 2 rfl) ?_
      refine lv_iload hx hb dX11_lot_59 (lv_at hl 1 rfl) ?_
      refine lv_iload_n hx hb dX11_lot_61 rfl (lv_at hl 2 rfl) ?_
      refine lv_iload hx hb dX11_lot_62 (lv_at hl 1 rfl) ?_
      refine lv_icmp_ne (tgt := 71) hx hb dX11_lot_64 (by decide) (fun cc => absurd (by decide +kernel) cc) (fun _ => ?_)
      refine lv_iconst (v := (-1)) hx hb dX11_lot_67 (by decide) ?_
      refine lv_goto (tgt := 73) hx hb dX11_lot_68 (by decide) ?_
      refine cV (rV (q0 := 2) (ci := 8) (As := [.int 1, .int 1, .int (-1)]) (rest := []) (wc := [(a0, .inr (8, [.int 2, .int 1, .int (-1778682749), .int 0, .int 0, .int 0, .ref a1, .ref a2, .int 0, .int 0, .ref a3, .ref a4, .ref a5, .ref a6, .ref a7, .ref a8, .ref a9, .int 0, .int 0, .int 0, .ref a10, .ref a11, .ref a12, .ref a13, .int 0, .int 0, .ref a14, .ref a15, .ref a16, .ref a17, .int 0, .int 0, .ref a18, .ref a19, .ref a20, .ref a21])), (a3, .inl (k 1, 9, .inr (.inl (tL [(-1), 0, 0, 0, 1, 0, 0, 0, 0] 0))))]) hx hb hml hown hU hK hP hD rfl rfl [2, 0] rfl (by decide) (cX11_makesUnit_8 l D k _ a0 a3 a1 a2 a4 a5 a6 a7 a8 a9 a10 a11 a12 a13 a14 a15 a16 a17 a18 a19 a20 a21) w915 w912 w914 w27 w72 hdX11_makesUnit ⟨rfl, rfl⟩ ⟨Nat.le_of_ble_eq_true rfl, Nat.le_of_ble_eq_true rfl⟩ rfl hl.1 (Nat.le_of_ble_eq_true rfl) dX11_lot_73 ⟨Nat.le_of_ble_eq_true rfl, Nat.le_of_ble_eq_true rfl⟩) hP hD hS hA (wr := [(a1, .inl (k 0, 36, .inl (tI [(-1), 0, 0, 0, 1, 0, 0, 0, 0] 0)))]) [2, 0] [1] rfl rfl (by decide) (by decide) (fun H locs hB J hS => ?_)
      obtain ⟨hP1, hD1⟩ := hB
      obtain ⟨hP, hD⟩ := J _ hP1 hD1
      have hP : va_P D cl0 [(a1, .inl (k 0, 36, .inl (tI [(-1), 0, 0, 0, 1, 0, 0, 0, 0] 0))), (a0, .inr (8, [.int 2, .int 1, .int (-1778682749), .int 0, .int 0, .int 0, .ref a1, .ref a2, .int 0, .int 0, .ref a3, .ref a4, .ref a5, .ref a6, .ref a7, .ref a8, .ref a9, .int 0, .int 0, .int 0, .ref a10, .ref a11, .ref a12, .ref a13, .int 0, .int 0, .ref a14, .ref a15, .ref a16, .ref a17, .int 0, .int 0, .ref a18, .ref a19, .ref a20, .ref a21])), (a3, .inl (k 1, 9, .inr (.inl (tL [1, 0, 0, 0, (-1), 0, 0, 0, 0] 0))))] H := hP
      have hD : va_D A [(a1, .inl (k 0, 36, .inl (tI [(-1), 0, 0, 0, 1, 0, 0, 0, 0] 0))), (a0, .inr (8, [.int 2, .int 1, .int (-1778682749), .int 0, .int 0, .int 0, .ref a1, .ref a2, .int 0, .int 0, .ref a3, .ref a4, .ref a5, .ref a6, .ref a7, .ref a8, .ref a9, .int 0, .int 0, .int 0, .ref a10, .ref a11, .ref a12, .ref a13, .int 0, .int 0, .ref a14, .ref a15, .ref a16, .ref a17, .int 0, .int 0, .ref a18, .ref a19, .ref a20, .ref a21])), (a3, .inl (k 1, 9, .inr (.inl (tL [1, 0, 0, 0, (-1), 0, 0, 0, 0] 0))))] := hD
      refine lv_aload_n hx hb dX11_lot_76 rfl (lv_at hl 5 rfl) ?_
      refine cI (rV (q0 := 1) (ci := 8) (As := []) (rest := []) (wc := [(a0, .inr (8, [.int 2, .int 1, .int (-1778682749), .int 0, .int 0, .int 0, .ref a1, .ref a2, .int 0, .int 0, .ref a3, .ref a4, .ref a5, .ref a6, .ref a7, .ref a8, .ref a9, .int 0, .int 0, .int 0, .ref a10, .ref a11, .ref a12, .ref a13, .int 0, .int 0, .ref a14, .ref a15, .ref a16, .ref a17, .int 0, .int 0, .ref a18, .ref a19, .ref a20, .ref a21])), (a3, .inl (k 1, 9, .inr (.inl (tL [1, 0, 0, 0, (-1), 0, 0, 0, 0] 0)))), (a1, .inl (k 0, 36, .inl (tI [(-1), 0, 0, 0, 1, 0, 0, 0, 0] 0)))]) hx hb hml hown hU hK hP hD rfl rfl [1, 2, 0] rfl (by decide) (cX11_comes_7 l D k _ a0 a3 a1 a2 a4 a5 a6 a7 a8 a9 a10 a11 a12 a13 a14 a15 a16 a17 a18 a19 a20 a21) w927 w924 w926 w30 w72 hdX11_comes ⟨rfl, rfl⟩ ⟨Nat.le_of_ble_eq_true rfl, Nat.le_of_ble_eq_true rfl⟩ rfl hl.1 (Nat.le_of_ble_eq_true rfl) dX11_lot_77 ⟨Nat.le_of_ble_eq_true rfl, Nat.le_of_ble_eq_true rfl⟩) hP hD hS hA (wr := []) [1, 2, 0] [] rfl rfl (by decide) (by decide) (fun r21 H locs hB J hS => ?_)
      obtain ⟨rfl, hP1, hD1⟩ := hB
      obtain ⟨hP, hD⟩ := J _ hP1 hD1
      have hP : va_P D cl0 [(a0, .inr (8, [.int 2, .int 2, .int (-1778682749), .int 0, .int 0, .int 0, .ref a1, .ref a2, .int 0, .int 0, .ref a3, .ref a4, .ref a5, .ref a6, .ref a7, .ref a8, .ref a9, .int 0, .int 0, .int 0, .ref a10, .ref a11, .ref a12, .ref a13, .int 0, .int 0, .ref a14, .ref a15, .ref a16, .ref a17, .int 0, .int 0, .ref a18, .ref a19, .ref a20, .ref a21])), (a3, .inl (k 1, 9, .inr (.inl (tL [1, 0, 0, 0, (-1), 0, 0, 0, 0] 0)))), (a1, .inl (k 0, 36, .inl (tI [(-1), 0, 0, 0, 1, 0, 0, 0, 0, 1, 0, 0, 0, (-1), 0, 0, 0, 0] 0)))] H := hP
      have hD : va_D A [(a0, .inr (8, [.int 2, .int 2, .int (-1778682749), .int 0, .int 0, .int 0, .ref a1, .ref a2, .int 0, .int 0, .ref a3, .ref a4, .ref a5, .ref a6, .ref a7, .ref a8, .ref a9, .int 0, .int 0, .int 0, .ref a10, .ref a11, .ref a12, .ref a13, .int 0, .int 0, .ref a14, .ref a15, .ref a16, .ref a17, .int 0, .int 0, .ref a18, .ref a19, .ref a20, .ref a21])), (a3, .inl (k 1, 9, .inr (.inl (tL [1, 0, 0, 0, (-1), 0, 0, 0, 0] 0)))), (a1, .inl (k 0, 36, .inl (tI [(-1), 0, 0, 0, 1, 0, 0, 0, 0, 1, 0, 0, 0, (-1), 0, 0, 0, 0] 0)))] := hD
      refine lv_istore (lv' := [(6, .int 1), (5, .int (-2)), (4, .int 1), (3, .int 1), (2, .int 1), (0, .ref a0), (1, .int 2)]) hx hb dX11_lot_80 hl (by decide) rfl (fun ls hl => ?_)
      refine lv_iload_n hx hb dX11_lot_82 rfl (lv_at hl 4 rfl) ?_
      refine lv_iload hx hb dX11_lot_83 (lv_at hl 0 rfl) ?_
      refine lv_if_lt (tgt := 92) hx hb dX11_lot_85 (by decide) (fun cc => absurd cc (by decide +kernel)) (fun _ => ?_)
      refine lv_iconst (v := 1) hx hb dX11_lot_88 (by decide) ?_
      refine lv_goto (tgt := 93) hx hb dX11_lot_89 (by decide) ?_
      refine lv_iadd hx hb dX11_lot_93 (sv_i (v := 2) (by decide +kernel) ?_)
      refine lv_istore_n (lv' := [(2, .int 2), (6, .int 1), (5, .int (-2)), (4, .int 1), (3, .int 1), (0, .ref a0), (1, .int 2)]) hx hb dX11_lot_94 rfl hl (by decide) rfl (fun ls hl => ?_)
      refine lv_goto (tgt := 16) hx hb dX11_lot_95 (by decide) ?_
      refine lv_iload_n hx hb dX11_lot_16 rfl (lv_at hl 0 rfl) ?_
      refine lv_iload_n hx hb dX11_lot_17 rfl (lv_at hl 6 rfl) ?_
      refine lv_icmp_ge (tgt := 98) hx hb dX11_lot_18 (by decide) (fun _ => ?_) (fun cc => absurd (by decide +kernel) cc)
      refine lv_iload_n hx hb dX11_lot_98 rfl (lv_at hl 0 rfl) ?_
      exact retI (v := 2) hx hb hr hlocks hS (show (2 : Int32) = F_lot 2 by first | decide +kernel | (have g_2 : (2 : Int32).toInt = 2 := (by decide +kernel); unfold F_lot; (repeat (first | rw [if_pos (by omega)] | rw [if_neg (by omega)])))) dX11_lot_99
    · skip
      obtain rfl : x0 = 3 := eq32 hsp (by decide +kernel)
      refine lv_icmp_ge (tgt := 98) hx hb dX11_lot_18 (by decide) (fun cc => absurd cc (by decide +kernel)) (fun _ => ?_)
      refine lv_aload_n hx hb dX11_lot_21 rfl (lv_at hl 1 rfl) ?_
      refine va_get (D := D) (ci := 8) (v := .int 0) (C := RX11) (T := TX11) (N := 36) hx hb hU iX11 hown hK.1 hP 0 rfl rfl 1 (by decide) (hU _ w786) (fun _ h9 => h9) rfl dX11_lot_22 ?_
      refine lv_iconst (v := 4) hx hb dX11_lot_25 (by decide) ?_
      refine lv_icmp_ge (tgt := 98) hx hb dX11_lot_26 (by decide) (fun cc => absurd cc (by decide +kernel)) (fun _ => ?_)
      refine lv_aload_n hx hb dX11_lot_29 rfl (lv_at hl 1 rfl) ?_
      refine lv_aload_n hx hb dX11_lot_30 rfl (lv_at hl 1 rfl) ?_
      refine va_get (D := D) (ci := 8) (v := .int 2) (C := RX11) (T := TX11) (N := 36) hx hb hU iX11 hown hK.1 hP 0 rfl rfl 0 (by decide) (hU _ w785) (fun _ h9 => h9) rfl dX11_lot_31 ?_
      refine cI (rV (q0 := 0) (ci := 8) (As := [.int 2]) (rest := []) (wc := [(a0, .inr (8, [.int 2, .int 0, .int 1, .int 0, .int 0, .int 0, .ref a1, .ref a2, .int 0, .int 0, .ref a3, .ref a4, .ref a5, .ref a6, .ref a7, .ref a8, .ref a9, .int 0, .int 0, .int 0, .ref a10, .ref a11, .ref a12, .ref a13, .int 0, .int 0, .ref a14, .ref a15, .ref a16, .ref a17, .int 0, .int 0, .ref a18, .ref a19, .ref a20, .ref a21]))]) hx hb hml hown hU hK hP hD rfl rfl [0] rfl (by decide) (cX11_drawn_1 l D k _ a0 a1 a2 a3 a4 a5 a6 a7 a8 a9 a10 a11 a12 a13 a14 a15 a16 a17 a18 a19 a20 a21) w1177 w1174 w1176 w60 w72 hdX11_drawn ⟨rfl, rfl⟩ ⟨Nat.le_of_ble_eq_true rfl, Nat.le_of_ble_eq_true rfl⟩ rfl hl.1 (Nat.le_of_ble_eq_true rfl) dX11_lot_34 ⟨Nat.le_of_ble_eq_true rfl, Nat.le_of_ble_eq_true rfl⟩) hP hD hS hA (wr := [(a1, .inl (k 0, 36, .inl (tI [] 0))), (a3, .inl (k 1, 9, .inr (.inl (tL [] 0))))]) [0] [1, 2] rfl rfl (by decide) (by decide) (fun r22 H locs hB J hS => ?_)
      obtain ⟨rfl, hP1, hD1⟩ := hB
      obtain ⟨hP, hD⟩ := J _ hP1 hD1
      have hP : va_P D cl0 [(a1, .inl (k 0, 36, .inl (tI [] 0))), (a3, .inl (k 1, 9, .inr (.inl (tL [] 0)))), (a0, .inr (8, [.int 2, .int 0, .int 1103527590, .int 0, .int 0, .int 0, .ref a1, .ref a2, .int 0, .int 0, .ref a3, .ref a4, .ref a5, .ref a6, .ref a7, .ref a8, .ref a9, .int 0, .int 0, .int 0, .ref a10, .ref a11, .ref a12, .ref a13, .int 0, .int 0, .ref a14, .ref a15, .ref a16, .ref a17, .int 0, .int 0, .ref a18, .ref a19, .ref a20, .ref a21]))] H := hP
      have hD : va_D A [(a1, .inl (k 0, 36, .inl (tI [] 0))), (a3, .inl (k 1, 9, .inr (.inl (tL [] 0)))), (a0, .inr (8, [.int 2, .int 0, .int 1103527590, .int 0, .int 0, .int 0, .ref a1, .ref a2, .int 0, .int 0, .ref a3, .ref a4, .ref a5, .ref a6, .ref a7, .ref a8, .ref a9, .int 0, .int 0, .int 0, .ref a10, .ref a11, .ref a12, .ref a13, .int 0, .int 0, .ref a14, .ref a15, .ref a16, .ref a17, .int 0, .int 0, .ref a18, .ref a19, .ref a20, .ref a21]))] := hD
      refine lv_istore_n (lv' := [(3, .int 0), (2, .int 0), (0, .ref a0), (1, .int 3)]) hx hb dX11_lot_37 rfl hl (by decide) rfl (fun ls hl => ?_)
      refine lv_aload_n hx hb dX11_lot_38 rfl (lv_at hl 2 rfl) ?_
      refine lv_aload_n hx hb dX11_lot_39 rfl (lv_at hl 2 rfl) ?_
      refine va_get (D := D) (ci := 8) (v := .int 2) (C := RX11) (T := TX11) (N := 36) hx hb hU iX11 hown hK.1 hP 2 rfl rfl 0 (by decide) (hU _ w785) (fun _ h9 => h9) rfl dX11_lot_40 ?_
      refine cI (rV (q0 := 2) (ci := 8) (As := [.int 2]) (rest := []) (wc := [(a0, .inr (8, [.int 2, .int 0, .int 1103527590, .int 0, .int 0, .int 0, .ref a1, .ref a2, .int 0, .int 0, .ref a3, .ref a4, .ref a5, .ref a6, .ref a7, .ref a8, .ref a9, .int 0, .int 0, .int 0, .ref a10, .ref a11, .ref a12, .ref a13, .int 0, .int 0, .ref a14, .ref a15, .ref a16, .ref a17, .int 0, .int 0, .ref a18, .ref a19, .ref a20, .ref a21]))]) hx hb hml hown hU hK hP hD rfl rfl [2] rfl (by decide) (cX11_drawn_2 l D k _ a0 a1 a2 a3 a4 a5 a6 a7 a8 a9 a10 a11 a12 a13 a14 a15 a16 a17 a18 a19 a20 a21) w1177 w1174 w1176 w60 w72 hdX11_drawn ⟨rfl, rfl⟩ ⟨Nat.le_of_ble_eq_true rfl, Nat.le_of_ble_eq_true rfl⟩ rfl hl.1 (Nat.le_of_ble_eq_true rfl) dX11_lot_43 ⟨Nat.le_of_ble_eq_true rfl, Nat.le_of_ble_eq_true rfl⟩) hP hD hS hA (wr := [(a1, .inl (k 0, 36, .inl (tI [] 0))), (a3, .inl (k 1, 9, .inr (.inl (tL [] 0))))]) [2] [0, 1] rfl rfl (by decide) (by decide) (fun r23 H locs hB J hS => ?_)
      obtain ⟨rfl, hP1, hD1⟩ := hB
      obtain ⟨hP, hD⟩ := J _ hP1 hD1
      have hP : va_P D cl0 [(a1, .inl (k 0, 36, .inl (tI [] 0))), (a3, .inl (k 1, 9, .inr (.inl (tL [] 0)))), (a0, .inr (8, [.int 2, .int 0, .int (-1770082073), .int 0, .int 0, .int 0, .ref a1, .ref a2, .int 0, .int 0, .ref a3, .ref a4, .ref a5, .ref a6, .ref a7, .ref a8, .ref a9, .int 0, .int 0, .int 0, .ref a10, .ref a11, .ref a12, .ref a13, .int 0, .int 0, .ref a14, .ref a15, .ref a16, .ref a17, .int 0, .int 0, .ref a18, .ref a19, .ref a20, .ref a21]))] H := hP
      have hD : va_D A [(a1, .inl (k 0, 36, .inl (tI [] 0))), (a3, .inl (k 1, 9, .inr (.inl (tL [] 0)))), (a0, .inr (8, [.int 2, .int 0, .int (-1770082073), .int 0, .int 0, .int 0, .ref a1, .ref a2, .int 0, .int 0, .ref a3, .ref a4, .ref a5, .ref a6, .ref a7, .ref a8, .ref a9, .int 0, .int 0, .int 0, .ref a10, .ref a11, .ref a12, .ref a13, .int 0, .int 0, .ref a14, .ref a15, .ref a16, .ref a17, .int 0, .int 0, .ref a18, .ref a19, .ref a20, .ref a21]))] := hD
      refine lv_istore (lv' := [(4, .int 0), (3, .int 0), (2, .int 0), (0, .ref a0), (1, .int 3)]) hx hb dX11_lot_46 hl (by decide) rfl (fun ls hl => ?_)
      refine lv_aload_n hx hb dX11_lot_48 rfl (lv_at hl 3 rfl) ?_
      refine lv_iconst (v := 5) hx hb dX11_lot_49 (by decide) ?_
      refine cI (rV (q0 := 2) (ci := 8) (As := [.int 5]) (rest := []) (wc := [(a0, .inr (8, [.int 2, .int 0, .int (-1770082073), .int 0, .int 0, .int 0, .ref a1, .ref a2, .int 0, .int 0, .ref a3, .ref a4, .ref a5, .ref a6, .ref a7, .ref a8, .ref a9, .int 0, .int 0, .int 0, .ref a10, .ref a11, .ref a12, .ref a13, .int 0, .int 0, .ref a14, .ref a15, .ref a16, .ref a17, .int 0, .int 0, .ref a18, .ref a19, .ref a20, .ref a21]))]) hx hb hml hown hU hK hP hD rfl rfl [2] rfl (by decide) (cX11_drawn_3 l D k _ a0 a1 a2 a3 a4 a5 a6 a7 a8 a9 a10 a11 a12 a13 a14 a15 a16 a17 a18 a19 a20 a21) w1177 w1174 w1176 w60 w72 hdX11_drawn ⟨rfl, rfl⟩ ⟨Nat.le_of_ble_eq_true rfl, Nat.le_of_ble_eq_true rfl⟩ rfl hl.1 (Nat.le_of_ble_eq_true rfl) dX11_lot_50 ⟨Nat.le_of_ble_eq_true rfl, Nat.le_of_ble_eq_true rfl⟩) hP hD hS hA (wr := [(a1, .inl (k 0, 36, .inl (tI [] 0))), (a3, .inl (k 1, 9, .inr (.inl (tL [] 0))))]) [2] [0, 1] rfl rfl (by decide) (by decide) (fun r24 H locs hB J hS => ?_)
      obtain ⟨rfl, hP1, hD1⟩ := hB
      obtain ⟨hP, hD⟩ := J _ hP1 hD1
      have hP : va_P D cl0 [(a1, .inl (k 0, 36, .inl (tI [] 0))), (a3, .inl (k 1, 9, .inr (.inl (tL [] 0)))), (a0, .inr (8, [.int 2, .int 0, .int 662824084, .int 0, .int 0, .int 0, .ref a1, .ref a2, .int 0, .int 0, .ref a3, .ref a4, .ref a5, .ref a6, .ref a7, .ref a8, .ref a9, .int 0, .int 0, .int 0, .ref a10, .ref a11, .ref a12, .ref a13, .int 0, .int 0, .ref a14, .ref a15, .ref a16, .ref a17, .int 0, .int 0, .ref a18, .ref a19, .ref a20, .ref a21]))] H := hP
      have hD : va_D A [(a1, .inl (k 0, 36, .inl (tI [] 0))), (a3, .inl (k 1, 9, .inr (.inl (tL [] 0)))), (a0, .inr (8, [.int 2, .int 0, .int 662824084, .int 0, .int 0, .int 0, .ref a1, .ref a2, .int 0, .int 0, .ref a3, .ref a4, .ref a5, .ref a6, .ref a7, .ref a8, .ref a9, .int 0, .int 0, .int 0, .ref a10, .ref a11, .ref a12, .ref a13, .int 0, .int 0, .ref a14, .ref a15, .ref a16, .ref a17, .int 0, .int 0, .ref a18, .ref a19, .ref a20, .ref a21]))] := hD
      refine lv_iconst (v := 2) hx hb dX11_lot_53 (by decide) ?_
      refine lv_isub hx hb dX11_lot_54 (sv_i (v := 1) (by decide +kernel) ?_)
      refine lv_istore (lv' := [(5, .int 1), (4, .int 0), (3, .int 0), (2, .int 0), (0, .ref a0), (1, .int 3)]) hx hb dX11_lot_55 hl (by decide) rfl (fun ls hl => ?_)
      refine lv_aload_n hx hb dX11_lot_57 rfl (lv_at hl 4 rfl) ?_
      refine lv_iload_n hx hb dX11_lot_58 rfl (lv_at hl 2 rfl) ?_
      refine lv_iload hx hb dX11_lot_59 (lv_at hl 1 rfl) ?_
      refine lv_iload_n hx hb dX11_lot_61 rfl (lv_at hl 2 rfl) ?_
      refine lv_iload hx hb dX11_lot_62 (lv_at hl 1 rfl) ?_
      refine lv_icmp_ne (tgt := 71) hx hb dX11_lot_64 (by decide) (fun cc => absurd (by decide +kernel) cc) (fun _ => ?_)
      refine lv_iconst (v := (-1)) hx hb dX11_lot_67 (by decide) ?_
      refine lv_goto (tgt := 73) hx hb dX11_lot_68 (by decide) ?_
      refine cV (rV (q0 := 2) (ci := 8) (As := [.int 0, .int 0, .int (-1)]) (rest := []) (wc := [(a0, .inr (8, [.int 2, .int 0, .int 662824084, .int 0, .int 0, .int 0, .ref a1, .ref a2, .int 0, .int 0, .ref a3, .ref a4, .ref a5, .ref a6, .ref a7, .ref a8, .ref a9, .int 0, .int 0, .int 0, .ref a10, .ref a11, .ref a12, .ref a13, .int 0, .int 0, .ref a14, .ref a15, .ref a16, .ref a17, .int 0, .int 0, .ref a18, .ref a19, .ref a20, .ref a21])), (a3, .inl (k 1, 9, .inr (.inl (tL [] 0))))]) hx hb hml hown hU hK hP hD rfl rfl [2, 1] rfl (by decide) (cX11_makesUnit_7 l D k _ a0 a3 a1 a2 a4 a5 a6 a7 a8 a9 a10 a11 a12 a13 a14 a15 a16 a17 a18 a19 a20 a21) w915 w912 w914 w27 w72 hdX11_makesUnit ⟨rfl, rfl⟩ ⟨Nat.le_of_ble_eq_true rfl, Nat.le_of_ble_eq_true rfl⟩ rfl hl.1 (Nat.le_of_ble_eq_true rfl) dX11_lot_73 ⟨Nat.le_of_ble_eq_true rfl, Nat.le_of_ble_eq_true rfl⟩) hP hD hS hA (wr := [(a1, .inl (k 0, 36, .inl (tI [] 0)))]) [2, 1] [0] rfl rfl (by decide) (by decide) (fun H locs hB J hS => ?_)
      obtain ⟨hP1, hD1⟩ := hB
      obtain ⟨hP, hD⟩ := J _ hP1 hD1
      have hP : va_P D cl0 [(a1, .inl (k 0, 36, .inl (tI [] 0))), (a0, .inr (8, [.int 2, .int 0, .int 662824084, .int 0, .int 0, .int 0, .ref a1, .ref a2, .int 0, .int 0, .ref a3, .ref a4, .ref a5, .ref a6, .ref a7, .ref a8, .ref a9, .int 0, .int 0, .int 0, .ref a10, .ref a11, .ref a12, .ref a13, .int 0, .int 0, .ref a14, .ref a15, .ref a16, .ref a17, .int 0, .int 0, .ref a18, .ref a19, .ref a20, .ref a21])), (a3, .inl (k 1, 9, .inr (.inl (tL [(-1), 0, 0, 0, 1, 0, 0, 0, 0] 0))))] H := hP
      have hD : va_D A [(a1, .inl (k 0, 36, .inl (tI [] 0))), (a0, .inr (8, [.int 2, .int 0, .int 662824084, .int 0, .int 0, .int 0, .ref a1, .ref a2, .int 0, .int 0, .ref a3, .ref a4, .ref a5, .ref a6, .ref a7, .ref a8, .ref a9, .int 0, .int 0, .int 0, .ref a10, .ref a11, .ref a12, .ref a13, .int 0, .int 0, .ref a14, .ref a15, .ref a16, .ref a17, .int 0, .int 0, .ref a18, .ref a19, .ref a20, .ref a21])), (a3, .inl (k 1, 9, .inr (.inl (tL [(-1), 0, 0, 0, 1, 0, 0, 0, 0] 0))))] := hD
      refine lv_aload_n hx hb dX11_lot_76 rfl (lv_at hl 4 rfl) ?_
      refine cI (rV (q0 := 1) (ci := 8) (As := []) (rest := []) (wc := [(a0, .inr (8, [.int 2, .int 0, .int 662824084, .int 0, .int 0, .int 0, .ref a1, .ref a2, .int 0, .int 0, .ref a3, .ref a4, .ref a5, .ref a6, .ref a7, .ref a8, .ref a9, .int 0, .int 0, .int 0, .ref a10, .ref a11, .ref a12, .ref a13, .int 0, .int 0, .ref a14, .ref a15, .ref a16, .ref a17, .int 0, .int 0, .ref a18, .ref a19, .ref a20, .ref a21])), (a3, .inl (k 1, 9, .inr (.inl (tL [(-1), 0, 0, 0, 1, 0, 0, 0, 0] 0)))), (a1, .inl (k 0, 36, .inl (tI [] 0)))]) hx hb hml hown hU hK hP hD rfl rfl [1, 2, 0] rfl (by decide) (cX11_comes_6 l D k _ a0 a3 a1 a2 a4 a5 a6 a7 a8 a9 a10 a11 a12 a13 a14 a15 a16 a17 a18 a19 a20 a21) w927 w924 w926 w30 w72 hdX11_comes ⟨rfl, rfl⟩ ⟨Nat.le_of_ble_eq_true rfl, Nat.le_of_ble_eq_true rfl⟩ rfl hl.1 (Nat.le_of_ble_eq_true rfl) dX11_lot_77 ⟨Nat.le_of_ble_eq_true rfl, Nat.le_of_ble_eq_true rfl⟩) hP hD hS hA (wr := []) [1, 2, 0] [] rfl rfl (by decide) (by decide) (fun r26 H locs hB J hS => ?_)
      obtain ⟨rfl, hP1, hD1⟩ := hB
      obtain ⟨hP, hD⟩ := J _ hP1 hD1
      have hP : va_P D cl0 [(a0, .inr (8, [.int 2, .int 1, .int 662824084, .int 0, .int 0, .int 0, .ref a1, .ref a2, .int 0, .int 0, .ref a3, .ref a4, .ref a5, .ref a6, .ref a7, .ref a8, .ref a9, .int 0, .int 0, .int 0, .ref a10, .ref a11, .ref a12, .ref a13, .int 0, .int 0, .ref a14, .ref a15, .ref a16, .ref a17, .int 0, .int 0, .ref a18, .ref a19, .ref a20, .ref a21])), (a3, .inl (k 1, 9, .inr (.inl (tL [(-1), 0, 0, 0, 1, 0, 0, 0, 0] 0)))), (a1, .inl (k 0, 36, .inl (tI [(-1), 0, 0, 0, 1, 0, 0, 0, 0] 0)))] H := hP
      have hD : va_D A [(a0, .inr (8, [.int 2, .int 1, .int 662824084, .int 0, .int 0, .int 0, .ref a1, .ref a2, .int 0, .int 0, .ref a3, .ref a4, .ref a5, .ref a6, .ref a7, .ref a8, .ref a9, .int 0, .int 0, .int 0, .ref a10, .ref a11, .ref a12, .ref a13, .int 0, .int 0, .ref a14, .ref a15, .ref a16, .ref a17, .int 0, .int 0, .ref a18, .ref a19, .ref a20, .ref a21])), (a3, .inl (k 1, 9, .inr (.inl (tL [(-1), 0, 0, 0, 1, 0, 0, 0, 0] 0)))), (a1, .inl (k 0, 36, .inl (tI [(-1), 0, 0, 0, 1, 0, 0, 0, 0] 0)))] := hD
      refine lv_istore (lv' := [(6, .int 0), (5, .int 1), (4, .int 0), (3, .int 0), (2, .int 0), (0, .ref a0), (1, .int 3)]) hx hb dX11_lot_80 hl (by decide) rfl (fun ls hl => ?_)
      refine lv_iload_n hx hb dX11_lot_82 rfl (lv_at hl 4 rfl) ?_
      refine lv_iload hx hb dX11_lot_83 (lv_at hl 0 rfl) ?_
      refine lv_if_lt (tgt := 92) hx hb dX11_lot_85 (by decide) (fun cc => absurd cc (by decide +kernel)) (fun _ => ?_)
      refine lv_iconst (v := 1) hx hb dX11_lot_88 (by decide) ?_
      refine lv_goto (tgt := 93) hx hb dX11_lot_89 (by decide) ?_
      refine lv_iadd hx hb dX11_lot_93 (sv_i (v := 1) (by decide +kernel) ?_)
      refine lv_istore_n (lv' := [(2, .int 1), (6, .int 0), (5, .int 1), (4, .int 0), (3, .int 0), (0, .ref a0), (1, .int 3)]) hx hb dX11_lot_94 rfl hl (by decide) rfl (fun ls hl => ?_)
      refine lv_goto (tgt := 16) hx hb dX11_lot_95 (by decide) ?_
      refine lv_iload_n hx hb dX11_lot_16 rfl (lv_at hl 0 rfl) ?_
      refine lv_iload_n hx hb dX11_lot_17 rfl (lv_at hl 6 rfl) ?_
      refine lv_icmp_ge (tgt := 98) hx hb dX11_lot_18 (by decide) (fun cc => absurd cc (by decide +kernel)) (fun _ => ?_)
      refine lv_aload_n hx hb dX11_lot_21 rfl (lv_at hl 5 rfl) ?_
      refine va_get (D := D) (ci := 8) (v := .int 1) (C := RX11) (T := TX11) (N := 36) hx hb hU iX11 hown hK.1 hP 0 rfl rfl 1 (by decide) (hU _ w786) (fun _ h9 => h9) rfl dX11_lot_22 ?_
      refine lv_iconst (v := 4) hx hb dX11_lot_25 (by decide) ?_
      refine lv_icmp_ge (tgt := 98) hx hb dX11_lot_26 (by decide) (fun cc => absurd cc (by decide +kernel)) (fun _ => ?_)
      refine lv_aload_n hx hb dX11_lot_29 rfl (lv_at hl 5 rfl) ?_
      refine lv_aload_n hx hb dX11_lot_30 rfl (lv_at hl 5 rfl) ?_
      refine va_get (D := D) (ci := 8) (v := .int 2) (C := RX11) (T := TX11) (N := 36) hx hb hU iX11 hown hK.1 hP 0 rfl rfl 0 (by decide) (hU _ w785) (fun _ h9 => h9) rfl dX11_lot_31 ?_
      refine cI (rV (q0 := 0) (ci := 8) (As := [.int 2]) (rest := []) (wc := [(a0, .inr (8, [.int 2, .int 1, .int 662824084, .int 0, .int 0, .int 0, .ref a1, .ref a2, .int 0, .int 0, .ref a3, .ref a4, .ref a5, .ref a6, .ref a7, .ref a8, .ref a9, .int 0, .int 0, .int 0, .ref a10, .ref a11, .ref a12, .ref a13, .int 0, .int 0, .ref a14, .ref a15, .ref a16, .ref a17, .int 0, .int 0, .ref a18, .ref a19, .ref a20, .ref a21]))]) hx hb hml hown hU hK hP hD rfl rfl [0] rfl (by decide) (cX11_drawn_4 l D k _ a0 a1 a2 a3 a4 a5 a6 a7 a8 a9 a10 a11 a12 a13 a14 a15 a16 a17 a18 a19 a20 a21) w1177 w1174 w1176 w60 w72 hdX11_drawn ⟨rfl, rfl⟩ ⟨Nat.le_of_ble_eq_true rfl, Nat.le_of_ble_eq_true rfl⟩ rfl hl.1 (Nat.le_of_ble_eq_true rfl) dX11_lot_34 ⟨Nat.le_of_ble_eq_true rfl, Nat.le_of_ble_eq_true rfl⟩) hP hD hS hA (wr := [(a3, .inl (k 1, 9, .inr (.inl (tL [(-1), 0, 0, 0, 1, 0, 0, 0, 0] 0)))), (a1, .inl (k 0, 36, .inl (tI [(-1), 0, 0, 0, 1, 0, 0, 0, 0] 0)))]) [0] [1, 2] rfl rfl (by decide) (by decide) (fun r27 H locs hB J hS => ?_)
      obtain ⟨rfl, hP1, hD1⟩ := hB
      obtain ⟨hP, hD⟩ := J _ hP1 hD1
      have hP : va_P D cl0 [(a3, .inl (k 1, 9, .inr (.inl (tL [(-1), 0, 0, 0, 1, 0, 0, 0, 0] 0)))), (a1, .inl (k 0, 36, .inl (tI [(-1), 0, 0, 0, 1, 0, 0, 0, 0] 0))), (a0, .inr (8, [.int 2, .int 1, .int (-999580867), .int 0, .int 0, .int 0, .ref a1, .ref a2, .int 0, .int 0, .ref a3, .ref a4, .ref a5, .ref a6, .ref a7, .ref a8, .ref a9, .int 0, .int 0, .int 0, .ref a10, .ref a11, .ref a12, .ref a13, .int 0, .int 0, .ref a14, .ref a15, .ref a16, .ref a17, .int 0, .int 0, .ref a18, .ref a19, .ref a20, .ref a21]))] H := hP
      have hD : va_D A [(a3, .inl (k 1, 9, .inr (.inl (tL [(-1), 0, 0, 0, 1, 0, 0, 0, 0] 0)))), (a1, .inl (k 0, 36, .inl (tI [(-1), 0, 0, 0, 1, 0, 0, 0, 0] 0))), (a0, .inr (8, [.int 2, .int 1, .int (-999580867), .int 0, .int 0, .int 0, .ref a1, .ref a2, .int 0, .int 0, .ref a3, .ref a4, .ref a5, .ref a6, .ref a7, .ref a8, .ref a9, .int 0, .int 0, .int 0, .ref a10, .ref a11, .ref a12, .ref a13, .int 0, .int 0, .ref a14, .ref a15, .ref a16, .ref a17, .int 0, .int 0, .ref a18, .ref a19, .ref a20, .ref a21]))] := hD
      refine lv_istore_n (lv' := [(3, .int 1), (2, .int 1), (6, .int 0), (5, .int 1), (4, .int 0), (0, .ref a0), (1, .int 3)]) hx hb dX11_lot_37 rfl hl (by decide) rfl (fun ls hl => ?_)
      refine lv_aload_n hx hb dX11_lot_38 rfl (lv_at hl 5 rfl) ?_
      refine lv_aload_n hx hb dX11_lot_39 rfl (lv_at hl 5 rfl) ?_
      refine va_get (D := D) (ci := 8) (v := .int 2) (C := RX11) (T := TX11) (N := 36) hx hb hU iX11 hown hK.1 hP 2 rfl rfl 0 (by decide) (hU _ w785) (fun _ h9 => h9) rfl dX11_lot_40 ?_
      refine cI (rV (q0 := 2) (ci := 8) (As := [.int 2]) (rest := []) (wc := [(a0, .inr (8, [.int 2, .int 1, .int (-999580867), .int 0, .int 0, .int 0, .ref a1, .ref a2, .int 0, .int 0, .ref a3, .ref a4, .ref a5, .ref a6, .ref a7, .ref a8, .ref a9, .int 0, .int 0, .int 0, .ref a10, .ref a11, .ref a12, .ref a13, .int 0, .int 0, .ref a14, .ref a15, .ref a16, .ref a17, .int 0, .int 0, .ref a18, .ref a19, .ref a20, .ref a21]))]) hx hb hml hown hU hK hP hD rfl rfl [2] rfl (by decide) (cX11_drawn_5 l D k _ a0 a1 a2 a3 a4 a5 a6 a7 a8 a9 a10 a11 a12 a13 a14 a15 a16 a17 a18 a19 a20 a21) w1177 w1174 w1176 w60 w72 hdX11_drawn ⟨rfl, rfl⟩ ⟨Nat.le_of_ble_eq_true rfl, Nat.le_of_ble_eq_true rfl⟩ rfl hl.1 (Nat.le_of_ble_eq_true rfl) dX11_lot_43 ⟨Nat.le_of_ble_eq_true rfl, Nat.le_of_ble_eq_true rfl⟩) hP hD hS hA (wr := [(a3, .inl (k 1, 9, .inr (.inl (tL [(-1), 0, 0, 0, 1, 0, 0, 0, 0] 0)))), (a1, .inl (k 0, 36, .inl (tI [(-1), 0, 0, 0, 1, 0, 0, 0, 0] 0)))]) [2] [0, 1] rfl rfl (by decide) (by decide) (fun r28 H locs hB J hS => ?_)
      obtain ⟨rfl, hP1, hD1⟩ := hB
      obtain ⟨hP, hD⟩ := J _ hP1 hD1
      have hP : va_P D cl0 [(a3, .inl (k 1, 9, .inr (.inl (tL [(-1), 0, 0, 0, 1, 0, 0, 0, 0] 0)))), (a1, .inl (k 0, 36, .inl (tI [(-1), 0, 0, 0, 1, 0, 0, 0, 0] 0))), (a0, .inr (8, [.int 2, .int 1, .int (-112468174), .int 0, .int 0, .int 0, .ref a1, .ref a2, .int 0, .int 0, .ref a3, .ref a4, .ref a5, .ref a6, .ref a7, .ref a8, .ref a9, .int 0, .int 0, .int 0, .ref a10, .ref a11, .ref a12, .ref a13, .int 0, .int 0, .ref a14, .ref a15, .ref a16, .ref a17, .int 0, .int 0, .ref a18, .ref a19, .ref a20, .ref a21]))] H := hP
      have hD : va_D A [(a3, .inl (k 1, 9, .inr (.inl (tL [(-1), 0, 0, 0, 1, 0, 0, 0, 0] 0)))), (a1, .inl (k 0, 36, .inl (tI [(-1), 0, 0, 0, 1, 0, 0, 0, 0] 0))), (a0, .inr (8, [.int 2, .int 1, .int (-112468174), .int 0, .int 0, .int 0, .ref a1, .ref a2, .int 0, .int 0, .ref a3, .ref a4, .ref a5, .ref a6, .ref a7, .ref a8, .ref a9, .int 0, .int 0, .int 0, .ref a10, .ref a11, .ref a12, .ref a13, .int 0, .int 0, .ref a14, .ref a15, .ref a16, .ref a17, .int 0, .int 0, .ref a18, .ref a19, .ref a20, .ref a21]))] := hD
      refine lv_istore (lv' := [(4, .int 1), (3, .int 1), (2, .int 1), (6, .int 0), (5, .int 1), (0, .ref a0), (1, .int 3)]) hx hb dX11_lot_46 hl (by decide) rfl (fun ls hl => ?_)
      refine lv_aload_n hx hb dX11_lot_48 rfl (lv_at hl 5 rfl) ?_
      refine lv_iconst (v := 5) hx hb dX11_lot_49 (by decide) ?_
      refine cI (rV (q0 := 2) (ci := 8) (As := [.int 5]) (rest := []) (wc := [(a0, .inr (8, [.int 2, .int 1, .int (-112468174), .int 0, .int 0, .int 0, .ref a1, .ref a2, .int 0, .int 0, .ref a3, .ref a4, .ref a5, .ref a6, .ref a7, .ref a8, .ref a9, .int 0, .int 0, .int 0, .ref a10, .ref a11, .ref a12, .ref a13, .int 0, .int 0, .ref a14, .ref a15, .ref a16, .ref a17, .int 0, .int 0, .ref a18, .ref a19, .ref a20, .ref a21]))]) hx hb hml hown hU hK hP hD rfl rfl [2] rfl (by decide) (cX11_drawn_6 l D k _ a0 a1 a2 a3 a4 a5 a6 a7 a8 a9 a10 a11 a12 a13 a14 a15 a16 a17 a18 a19 a20 a21) w1177 w1174 w1176 w60 w72 hdX11_drawn ⟨rfl, rfl⟩ ⟨Nat.le_of_ble_eq_true rfl, Nat.le_of_ble_eq_true rfl⟩ rfl hl.1 (Nat.le_of_ble_eq_true rfl) dX11_lot_50 ⟨Nat.le_of_ble_eq_true rfl, Nat.le_of_ble_eq_true rfl⟩) hP hD hS hA (wr := [(a3, .inl (k 1, 9, .inr (.inl (tL [(-1), 0, 0, 0, 1, 0, 0, 0, 0] 0)))), (a1, .inl (k 0, 36, .inl (tI [(-1), 0, 0, 0, 1, 0, 0, 0, 0] 0)))]) [2] [0, 1] rfl rfl (by decide) (by decide) (fun r29 H locs hB J hS => ?_)
      obtain ⟨rfl, hP1, hD1⟩ := hB
      obtain ⟨hP, hD⟩ := J _ hP1 hD1
      have hP : va_P D cl0 [(a3, .inl (k 1, 9, .inr (.inl (tL [(-1), 0, 0, 0, 1, 0, 0, 0, 0] 0)))), (a1, .inl (k 0, 36, .inl (tI [(-1), 0, 0, 0, 1, 0, 0, 0, 0] 0))), (a0, .inr (8, [.int 2, .int 1, .int (-1778682749), .int 0, .int 0, .int 0, .ref a1, .ref a2, .int 0, .int 0, .ref a3, .ref a4, .ref a5, .ref a6, .ref a7, .ref a8, .ref a9, .int 0, .int 0, .int 0, .ref a10, .ref a11, .ref a12, .ref a13, .int 0, .int 0, .ref a14, .ref a15, .ref a16, .ref a17, .int 0, .int 0, .ref a18, .ref a19, .ref a20, .ref a21]))] H := hP
      have hD : va_D A [(a3, .inl (k 1, 9, .inr (.inl (tL [(-1), 0, 0, 0, 1, 0, 0, 0, 0] 0)))), (a1, .inl (k 0, 36, .inl (tI [(-1), 0, 0, 0, 1, 0, 0, 0, 0] 0))), (a0, .inr (8, [.int 2, .int 1, .int (-1778682749), .int 0, .int 0, .int 0, .ref a1, .ref a2, .int 0, .int 0, .ref a3, .ref a4, .ref a5, .ref a6, .ref a7, .ref a8, .ref a9, .int 0, .int 0, .int 0, .ref a10, .ref a11, .ref a12, .ref a13, .int 0, .int 0, .ref a14, .ref a15, .ref a16, .ref a17, .int 0, .int 0, .ref a18, .ref a19, .ref a20, .ref a21]))] := hD
      refine lv_iconst (v := 2) hx hb dX11_lot_53 (by decide) ?_
      refine lv_isub hx hb dX11_lot_54 (sv_i (v := (-2)) (by decide +kernel) ?_)
      refine lv_istore (lv' := [(5, .int (-2)), (4, .int 1), (3, .int 1), (2, .int 1), (6, .int 0), (0, .ref a0), (1, .int 3)]) hx hb dX11_lot_55 hl (by decide) rfl (fun ls hl => ?_)
      refine lv_aload_n hx hb dX11_lot_57 rfl (lv_at hl 5 rfl) ?_
      refine lv_iload_n hx hb dX11_lot_58 rfl (lv_at hl 2 rfl) ?_
      refine lv_iload hx hb dX11_lot_59 (lv_at hl 1 rfl) ?_
      refine lv_iload_n hx hb dX11_lot_61 rfl (lv_at hl 2 rfl) ?_
      refine lv_iload hx hb dX11_lot_62 (lv_at hl 1 rfl) ?_
      refine lv_icmp_ne (tgt := 71) hx hb dX11_lot_64 (by decide) (fun cc => absurd (by decide +kernel) cc) (fun _ => ?_)
      refine lv_iconst (v := (-1)) hx hb dX11_lot_67 (by decide) ?_
      refine lv_goto (tgt := 73) hx hb dX11_lot_68 (by decide) ?_
      refine cV (rV (q0 := 2) (ci := 8) (As := [.int 1, .int 1, .int (-1)]) (rest := []) (wc := [(a0, .inr (8, [.int 2, .int 1, .int (-1778682749), .int 0, .int 0, .int 0, .ref a1, .ref a2, .int 0, .int 0, .ref a3, .ref a4, .ref a5, .ref a6, .ref a7, .ref a8, .ref a9, .int 0, .int 0, .int 0, .ref a10, .ref a11, .ref a12, .ref a13, .int 0, .int 0, .ref a14, .ref a15, .ref a16, .ref a17, .int 0, .int 0, .ref a18, .ref a19, .ref a20, .ref a21])), (a3, .inl (k 1, 9, .inr (.inl (tL [(-1), 0, 0, 0, 1, 0, 0, 0, 0] 0))))]) hx hb hml hown hU hK hP hD rfl rfl [2, 0] rfl (by decide) (cX11_makesUnit_8 l D k _ a0 a3 a1 a2 a4 a5 a6 a7 a8 a9 a10 a11 a12 a13 a14 a15 a16 a17 a18 a19 a20 a21) w915 w912 w914 w27 w72 hdX11_makesUnit ⟨rfl, rfl⟩ ⟨Nat.le_of_ble_eq_true rfl, Nat.le_of_ble_eq_true rfl⟩ rfl hl.1 (Nat.le_of_ble_eq_true rfl) dX11_lot_73 ⟨Nat.le_of_ble_eq_true rfl, Nat.le_of_ble_eq_true rfl⟩) hP hD hS hA (wr := [(a1, .inl (k 0, 36, .inl (tI [(-1), 0, 0, 0, 1, 0, 0, 0, 0] 0)))]) [2, 0] [1] rfl rfl (by decide) (by decide) (fun H locs hB J hS => ?_)
      obtain ⟨hP1, hD1⟩ := hB
      obtain ⟨hP, hD⟩ := J _ hP1 hD1
      have hP : va_P D cl0 [(a1, .inl (k 0, 36, .inl (tI [(-1), 0, 0, 0, 1, 0, 0, 0, 0] 0))), (a0, .inr (8, [.int 2, .int 1, .int (-1778682749), .int 0, .int 0, .int 0, .ref a1, .ref a2, .int 0, .int 0, .ref a3, .ref a4, .ref a5, .ref a6, .ref a7, .ref a8, .ref a9, .int 0, .int 0, .int 0, .ref a10, .ref a11, .ref a12, .ref a13, .int 0, .int 0, .ref a14, .ref a15, .ref a16, .ref a17, .int 0, .int 0, .ref a18, .ref a19, .ref a20, .ref a21])), (a3, .inl (k 1, 9, .inr (.inl (tL [1, 0, 0, 0, (-1), 0, 0, 0, 0] 0))))] H := hP
      have hD : va_D A [(a1, .inl (k 0, 36, .inl (tI [(-1), 0, 0, 0, 1, 0, 0, 0, 0] 0))), (a0, .inr (8, [.int 2, .int 1, .int (-1778682749), .int 0, .int 0, .int 0, .ref a1, .ref a2, .int 0, .int 0, .ref a3, .ref a4, .ref a5, .ref a6, .ref a7, .ref a8, .ref a9, .int 0, .int 0, .int 0, .ref a10, .ref a11, .ref a12, .ref a13, .int 0, .int 0, .ref a14, .ref a15, .ref a16, .ref a17, .int 0, .int 0, .ref a18, .ref a19, .ref a20, .ref a21])), (a3, .inl (k 1, 9, .inr (.inl (tL [1, 0, 0, 0, (-1), 0, 0, 0, 0] 0))))] := hD
      refine lv_aload_n hx hb dX11_lot_76 rfl (lv_at hl 5 rfl) ?_
      refine cI (rV (q0 := 1) (ci := 8) (As := []) (rest := []) (wc := [(a0, .inr (8, [.int 2, .int 1, .int (-1778682749), .int 0, .int 0, .int 0, .ref a1, .ref a2, .int 0, .int 0, .ref a3, .ref a4, .ref a5, .ref a6, .ref a7, .ref a8, .ref a9, .int 0, .int 0, .int 0, .ref a10, .ref a11, .ref a12, .ref a13, .int 0, .int 0, .ref a14, .ref a15, .ref a16, .ref a17, .int 0, .int 0, .ref a18, .ref a19, .ref a20, .ref a21])), (a3, .inl (k 1, 9, .inr (.inl (tL [1, 0, 0, 0, (-1), 0, 0, 0, 0] 0)))), (a1, .inl (k 0, 36, .inl (tI [(-1), 0, 0, 0, 1, 0, 0, 0, 0] 0)))]) hx hb hml hown hU hK hP hD rfl rfl [1, 2, 0] rfl (by decide) (cX11_comes_7 l D k _ a0 a3 a1 a2 a4 a5 a6 a7 a8 a9 a10 a11 a12 a13 a14 a15 a16 a17 a18 a19 a20 a21) w927 w924 w926 w30 w72 hdX11_comes ⟨rfl, rfl⟩ ⟨Nat.le_of_ble_eq_true rfl, Nat.le_of_ble_eq_true rfl⟩ rfl hl.1 (Nat.le_of_ble_eq_true rfl) dX11_lot_77 ⟨Nat.le_of_ble_eq_true rfl, Nat.le_of_ble_eq_true rfl⟩) hP hD hS hA (wr := []) [1, 2, 0] [] rfl rfl (by decide) (by decide) (fun r31 H locs hB J hS => ?_)
      obtain ⟨rfl, hP1, hD1⟩ := hB
      obtain ⟨hP, hD⟩ := J _ hP1 hD1
      have hP : va_P D cl0 [(a0, .inr (8, [.int 2, .int 2, .int (-1778682749), .int 0, .int 0, .int 0, .ref a1, .ref a2, .int 0, .int 0, .ref a3, .ref a4, .ref a5, .ref a6, .ref a7, .ref a8, .ref a9, .int 0, .int 0, .int 0, .ref a10, .ref a11, .ref a12, .ref a13, .int 0, .int 0, .ref a14, .ref a15, .ref a16, .ref a17, .int 0, .int 0, .ref a18, .ref a19, .ref a20, .ref a21])), (a3, .inl (k 1, 9, .inr (.inl (tL [1, 0, 0, 0, (-1), 0, 0, 0, 0] 0)))), (a1, .inl (k 0, 36, .inl (tI [(-1), 0, 0, 0, 1, 0, 0, 0, 0, 1, 0, 0, 0, (-1), 0, 0, 0, 0] 0)))] H := hP
      have hD : va_D A [(a0, .inr (8, [.int 2, .int 2, .int (-1778682749), .int 0, .int 0, .int 0, .ref a1, .ref a2, .int 0, .int 0, .ref a3, .ref a4, .ref a5, .ref a6, .ref a7, .ref a8, .ref a9, .int 0, .int 0, .int 0, .ref a10, .ref a11, .ref a12, .ref a13, .int 0, .int 0, .ref a14, .ref a15, .ref a16, .ref a17, .int 0, .int 0, .ref a18, .ref a19, .ref a20, .ref a21])), (a3, .inl (k 1, 9, .inr (.inl (tL [1, 0, 0, 0, (-1), 0, 0, 0, 0] 0)))), (a1, .inl (k 0, 36, .inl (tI [(-1), 0, 0, 0, 1, 0, 0, 0, 0, 1, 0, 0, 0, (-1), 0, 0, 0, 0] 0)))] := hD
      refine lv_istore (lv' := [(6, .int 1), (5, .int (-2)), (4, .int 1), (3, .int 1), (2, .int 1), (0, .ref a0), (1, .int 3)]) hx hb dX11_lot_80 hl (by decide) rfl (fun ls hl => ?_)
      refine lv_iload_n hx hb dX11_lot_82 rfl (lv_at hl 4 rfl) ?_
      refine lv_iload hx hb dX11_lot_83 (lv_at hl 0 rfl) ?_
      refine lv_if_lt (tgt := 92) hx hb dX11_lot_85 (by decide) (fun cc => absurd cc (by decide +kernel)) (fun _ => ?_)
      refine lv_iconst (v := 1) hx hb dX11_lot_88 (by decide) ?_
      refine lv_goto (tgt := 93) hx hb dX11_lot_89 (by decide) ?_
      refine lv_iadd hx hb dX11_lot_93 (sv_i (v := 2) (by decide +kernel) ?_)
      refine lv_istore_n (lv' := [(2, .int 2), (6, .int 1), (5, .int (-2)), (4, .int 1), (3, .int 1), (0, .ref a0), (1, .int 3)]) hx hb dX11_lot_94 rfl hl (by decide) rfl (fun ls hl => ?_)
      refine lv_goto (tgt := 16) hx hb dX11_lot_95 (by decide) ?_
      refine lv_iload_n hx hb dX11_lot_16 rfl (lv_at hl 0 rfl) ?_
      refine lv_iload_n hx hb dX11_lot_17 rfl (lv_at hl 6 rfl) ?_
      refine lv_icmp_ge (tgt := 98) hx hb dX11_lot_18 (by decide) (fun cc => absurd cc (by decide +kernel)) (fun _ => ?_)
      refine lv_aload_n hx hb dX11_lot_21 rfl (lv_at hl 5 rfl) ?_
      refine va_get (D := D) (ci := 8) (v := .int 2) (C := RX11) (T := TX11) (N := 36) hx hb hU iX11 hown hK.1 hP 0 rfl rfl 1 (by decide) (hU _ w786) (fun _ h9 => h9) rfl dX11_lot_22 ?_
      refine lv_iconst (v := 4) hx hb dX11_lot_25 (by decide) ?_
      refine lv_icmp_ge (tgt := 98) hx hb dX11_lot_26 (by decide) (fun cc => absurd cc (by decide +kernel)) (fun _ => ?_)
      refine lv_aload_n hx hb dX11_lot_29 rfl (lv_at hl 5 rfl) ?_
      refine lv_aload_n hx hb dX11_lot_30 rfl (lv_at hl 5 rfl) ?_
      refine va_get (D := D) (ci := 8) (v := .int 2) (C := RX11) (T := TX11) (N := 36) hx hb hU iX11 hown hK.1 hP 0 rfl rfl 0 (by decide) (hU _ w785) (fun _ h9 => h9) rfl dX11_lot_31 ?_
      refine cI (rV (q0 := 0) (ci := 8) (As := [.int 2]) (rest := []) (wc := [(a0, .inr (8, [.int 2, .int 2, .int (-1778682749), .int 0, .int 0, .int 0, .ref a1, .ref a2, .int 0, .int 0, .ref a3, .ref a4, .ref a5, .ref a6, .ref a7, .ref a8, .ref a9, .int 0, .int 0, .int 0, .ref a10, .ref a11, .ref a12, .ref a13, .int 0, .int 0, .ref a14, .ref a15, .ref a16, .ref a17, .int 0, .int 0, .ref a18, .ref a19, .ref a20, .ref a21]))]) hx hb hml hown hU hK hP hD rfl rfl [0] rfl (by decide) (cX11_drawn_7 l D k _ a0 a1 a2 a3 a4 a5 a6 a7 a8 a9 a10 a11 a12 a13 a14 a15 a16 a17 a18 a19 a20 a21) w1177 w1174 w1176 w60 w72 hdX11_drawn ⟨rfl, rfl⟩ ⟨Nat.le_of_ble_eq_true rfl, Nat.le_of_ble_eq_true rfl⟩ rfl hl.1 (Nat.le_of_ble_eq_true rfl) dX11_lot_34 ⟨Nat.le_of_ble_eq_true rfl, Nat.le_of_ble_eq_true rfl⟩) hP hD hS hA (wr := [(a3, .inl (k 1, 9, .inr (.inl (tL [1, 0, 0, 0, (-1), 0, 0, 0, 0] 0)))), (a1, .inl (k 0, 36, .inl (tI [(-1), 0, 0, 0, 1, 0, 0, 0, 0, 1, 0, 0, 0, (-1), 0, 0, 0, 0] 0)))]) [0] [1, 2] rfl rfl (by decide) (by decide) (fun r32 H locs hB J hS => ?_)
      obtain ⟨rfl, hP1, hD1⟩ := hB
      obtain ⟨hP, hD⟩ := J _ hP1 hD1
      have hP : va_P D cl0 [(a3, .inl (k 1, 9, .inr (.inl (tL [1, 0, 0, 0, (-1), 0, 0, 0, 0] 0)))), (a1, .inl (k 0, 36, .inl (tI [(-1), 0, 0, 0, 1, 0, 0, 0, 0, 1, 0, 0, 0, (-1), 0, 0, 0, 0] 0))), (a0, .inr (8, [.int 2, .int 2, .int (-639453696), .int 0, .int 0, .int 0, .ref a1, .ref a2, .int 0, .int 0, .ref a3, .ref a4, .ref a5, .ref a6, .ref a7, .ref a8, .ref a9, .int 0, .int 0, .int 0, .ref a10, .ref a11, .ref a12, .ref a13, .int 0, .int 0, .ref a14, .ref a15, .ref a16, .ref a17, .int 0, .int 0, .ref a18, .ref a19, .ref a20, .ref a21]))] H := hP
      have hD : va_D A [(a3, .inl (k 1, 9, .inr (.inl (tL [1, 0, 0, 0, (-1), 0, 0, 0, 0] 0)))), (a1, .inl (k 0, 36, .inl (tI [(-1), 0, 0, 0, 1, 0, 0, 0, 0, 1, 0, 0, 0, (-1), 0, 0, 0, 0] 0))), (a0, .inr (8, [.int 2, .int 2, .int (-639453696), .int 0, .int 0, .int 0, .ref a1, .ref a2, .int 0, .int 0, .ref a3, .ref a4, .ref a5, .ref a6, .ref a7, .ref a8, .ref a9, .int 0, .int 0, .int 0, .ref a10, .ref a11, .ref a12, .ref a13, .int 0, .int 0, .ref a14, .ref a15, .ref a16, .ref a17, .int 0, .int 0, .ref a18, .ref a19, .ref a20, .ref a21]))] := hD
      refine lv_istore_n (lv' := [(3, .int 0), (2, .int 2), (6, .int 1), (5, .int (-2)), (4, .int 1), (0, .ref a0), (1, .int 3)]) hx hb dX11_lot_37 rfl hl (by decide) rfl (fun ls hl => ?_)
      refine lv_aload_n hx hb dX11_lot_38 rfl (lv_at hl 5 rfl) ?_
      refine lv_aload_n hx hb dX11_lot_39 rfl (lv_at hl 5 rfl) ?_
      refine va_get (D := D) (ci := 8) (v := .int 2) (C := RX11) (T := TX11) (N := 36) hx hb hU iX11 hown hK.1 hP 2 rfl rfl 0 (by decide) (hU _ w785) (fun _ h9 => h9) rfl dX11_lot_40 ?_
      refine cI (rV (q0 := 2) (ci := 8) (As := [.int 2]) (rest := []) (wc := [(a0, .inr (8, [.int 2, .int 2, .int (-639453696), .int 0, .int 0, .int 0, .ref a1, .ref a2, .int 0, .int 0, .ref a3, .ref a4, .ref a5, .ref a6, .ref a7, .ref a8, .ref a9, .int 0, .int 0, .int 0, .ref a10, .ref a11, .ref a12, .ref a13, .int 0, .int 0, .ref a14, .ref a15, .ref a16, .ref a17, .int 0, .int 0, .ref a18, .ref a19, .ref a20, .ref a21]))]) hx hb hml hown hU hK hP hD rfl rfl [2] rfl (by decide) (cX11_drawn_8 l D k _ a0 a1 a2 a3 a4 a5 a6 a7 a8 a9 a10 a11 a12 a13 a14 a15 a16 a17 a18 a19 a20 a21) w1177 w1174 w1176 w60 w72 hdX11_drawn ⟨rfl, rfl⟩ ⟨Nat.le_of_ble_eq_true rfl, Nat.le_of_ble_eq_true rfl⟩ rfl hl.1 (Nat.le_of_ble_eq_true rfl) dX11_lot_43 ⟨Nat.le_of_ble_eq_true rfl, Nat.le_of_ble_eq_true rfl⟩) hP hD hS hA (wr := [(a3, .inl (k 1, 9, .inr (.inl (tL [1, 0, 0, 0, (-1), 0, 0, 0, 0] 0)))), (a1, .inl (k 0, 36, .inl (tI [(-1), 0, 0, 0, 1, 0, 0, 0, 0, 1, 0, 0, 0, (-1), 0, 0, 0, 0] 0)))]) [2] [0, 1] rfl rfl (by decide) (by decide) (fun r33 H locs hB J hS => ?_)
      obtain ⟨rfl, hP1, hD1⟩ := hB
      obtain ⟨hP, hD⟩ := J _ hP1 hD1
      have hP : va_P D cl0 [(a3, .inl (k 1, 9, .inr (.inl (tL [1, 0, 0, 0, (-1), 0, 0, 0, 0] 0)))), (a1, .inl (k 0, 36, .inl (tI [(-1), 0, 0, 0, 1, 0, 0, 0, 0, 1, 0, 0, 0, (-1), 0, 0, 0, 0] 0))), (a0, .inr (8, [.int 2, .int 2, .int (-1661227463), .int 0, .int 0, .int 0, .ref a1, .ref a2, .int 0, .int 0, .ref a3, .ref a4, .ref a5, .ref a6, .ref a7, .ref a8, .ref a9, .int 0, .int 0, .int 0, .ref a10, .ref a11, .ref a12, .ref a13, .int 0, .int 0, .ref a14, .ref a15, .ref a16, .ref a17, .int 0, .int 0, .ref a18, .ref a19, .ref a20, .ref a21]))] H := hP
      have hD : va_D A [(a3, .inl (k 1, 9, .inr (.inl (tL [1, 0, 0, 0, (-1), 0, 0, 0, 0] 0)))), (a1, .inl (k 0, 36, .inl (tI [(-1), 0, 0, 0, 1, 0, 0, 0, 0, 1, 0, 0, 0, (-1), 0, 0, 0, 0] 0))), (a0, .inr (8, [.int 2, .int 2, .int (-1661227463), .int 0, .int 0, .int 0, .ref a1, .ref a2, .int 0, .int 0, .ref a3, .ref a4, .ref a5, .ref a6, .ref a7, .ref a8, .ref a9, .int 0, .int 0, .int 0, .ref a10, .ref a11, .ref a12, .ref a13, .int 0, .int 0, .ref a14, .ref a15, .ref a16, .ref a17, .int 0, .int 0, .ref a18, .ref a19, .ref a20, .ref a21]))] := hD
      refine lv_istore (lv' := [(4, .int 1), (3, .int 0), (2, .int 2), (6, .int 1), (5, .int (-2)), (0, .ref a0), (1, .int 3)]) hx hb dX11_lot_46 hl (by decide) rfl (fun ls hl => ?_)
      refine lv_aload_n hx hb dX11_lot_48 rfl (lv_at hl 5 rfl) ?_
      refine lv_iconst (v := 5) hx hb dX11_lot_49 (by decide) ?_
      refine cI (rV (q0 := 2) (ci := 8) (As := [.int 5]) (rest := []) (wc := [(a0, .inr (8, [.int 2, .int 2, .int (-1661227463), .int 0, .int 0, .int 0, .ref a1, .ref a2, .int 0, .int 0, .ref a3, .ref a4, .ref a5, .ref a6, .ref a7, .ref a8, .ref a9, .int 0, .int 0, .int 0, .ref a10, .ref a11, .ref a12, .ref a13, .int 0, .int 0, .ref a14, .ref a15, .ref a16, .ref a17, .int 0, .int 0, .ref a18, .ref a19, .ref a20, .ref a21]))]) hx hb hml hown hU hK hP hD rfl rfl [2] rfl (by decide) (cX11_drawn_9 l D k _ a0 a1 a2 a3 a4 a5 a6 a7 a8 a9 a10 a11 a12 a13 a14 a15 a16 a17 a18 a19 a20 a21) w1177 w1174 w1176 w60 w72 hdX11_drawn ⟨rfl, rfl⟩ ⟨Nat.le_of_ble_eq_true rfl, Nat.le_of_ble_eq_true rfl⟩ rfl hl.1 (Nat.le_of_ble_eq_true rfl) dX11_lot_50 ⟨Nat.le_of_ble_eq_true rfl, Nat.le_of_ble_eq_true rfl⟩) hP hD hS hA (wr := [(a3, .inl (k 1, 9, .inr (.inl (tL [1, 0, 0, 0, (-1), 0, 0, 0, 0] 0)))), (a1, .inl (k 0, 36, .inl (tI [(-1), 0, 0, 0, 1, 0, 0, 0, 0, 1, 0, 0, 0, (-1), 0, 0, 0, 0] 0)))]) [2] [0, 1] rfl rfl (by decide) (by decide) (fun r34 H locs hB J hS => ?_)
      obtain ⟨rfl, hP1, hD1⟩ := hB
      obtain ⟨hP, hD⟩ := J _ hP1 hD1
      have hP : va_P D cl0 [(a3, .inl (k 1, 9, .inr (.inl (tL [1, 0, 0, 0, (-1), 0, 0, 0, 0] 0)))), (a1, .inl (k 0, 36, .inl (tI [(-1), 0, 0, 0, 1, 0, 0, 0, 0, 1, 0, 0, 0, (-1), 0, 0, 0, 0] 0))), (a0, .inr (8, [.int 2, .int 2, .int (-1084965762), .int 0, .int 0, .int 0, .ref a1, .ref a2, .int 0, .int 0, .ref a3, .ref a4, .ref a5, .ref a6, .ref a7, .ref a8, .ref a9, .int 0, .int 0, .int 0, .ref a10, .ref a11, .ref a12, .ref a13, .int 0, .int 0, .ref a14, .ref a15, .ref a16, .ref a17, .int 0, .int 0, .ref a18, .ref a19, .ref a20, .ref a21]))] H := hP
      have hD : va_D A [(a3, .inl (k 1, 9, .inr (.inl (tL [1, 0, 0, 0, (-1), 0, 0, 0, 0] 0)))), (a1, .inl (k 0, 36, .inl (tI [(-1), 0, 0, 0, 1, 0, 0, 0, 0, 1, 0, 0, 0, (-1), 0, 0, 0, 0] 0))), (a0, .inr (8, [.int 2, .int 2, .int (-1084965762), .int 0, .int 0, .int 0, .ref a1, .ref a2, .int 0, .int 0, .ref a3, .ref a4, .ref a5, .ref a6, .ref a7, .ref a8, .ref a9, .int 0, .int 0, .int 0, .ref a10, .ref a11, .ref a12, .ref a13, .int 0, .int 0, .ref a14, .ref a15, .ref a16, .ref a17, .int 0, .int 0, .ref a18, .ref a19, .ref a20, .ref a21]))] := hD
      refine lv_iconst (v := 2) hx hb dX11_lot_53 (by decide) ?_
      refine lv_isub hx hb dX11_lot_54 (sv_i (v := (-2)) (by decide +kernel) ?_)
      refine lv_istore (lv' := [(5, .int (-2)), (4, .int 1), (3, .int 0), (2, .int 2), (6, .int 1), (0, .ref a0), (1, .int 3)]) hx hb dX11_lot_55 hl (by decide) rfl (fun ls hl => ?_)
      refine lv_aload_n hx hb dX11_lot_57 rfl (lv_at hl 5 rfl) ?_
      refine lv_iload_n hx hb dX11_lot_58 rfl (lv_at hl 2 rfl) ?_
      refine lv_iload hx hb dX11_lot_59 (lv_at hl 1 rfl) ?_
      refine lv_iload_n hx hb dX11_lot_61 rfl (lv_at hl 2 rfl) ?_
      refine lv_iload hx hb dX11_lot_62 (lv_at hl 1 rfl) ?_
      refine lv_icmp_ne (tgt := 71) hx hb dX11_lot_64 (by decide) (fun _ => ?_) (fun cc => absurd cc (by decide +kernel))
      refine lv_iload hx hb dX11_lot_71 (lv_at hl 0 rfl) ?_
      refine cV (rV (q0 := 2) (ci := 8) (As := [.int 0, .int 1, .int (-2)]) (rest := []) (wc := [(a0, .inr (8, [.int 2, .int 2, .int (-1084965762), .int 0, .int 0, .int 0, .ref a1, .ref a2, .int 0, .int 0, .ref a3, .ref a4, .ref a5, .ref a6, .ref a7, .ref a8, .ref a9, .int 0, .int 0, .int 0, .ref a10, .ref a11, .ref a12, .ref a13, .int 0, .int 0, .ref a14, .ref a15, .ref a16, .ref a17, .int 0, .int 0, .ref a18, .ref a19, .ref a20, .ref a21])), (a3, .inl (k 1, 9, .inr (.inl (tL [1, 0, 0, 0, (-1), 0, 0, 0, 0] 0))))]) hx hb hml hown hU hK hP hD rfl rfl [2, 0] rfl (by decide) (cX11_makesUnit_9 l D k _ a0 a3 a1 a2 a4 a5 a6 a7 a8 a9 a10 a11 a12 a13 a14 a15 a16 a17 a18 a19 a20 a21) w915 w912 w914 w27 w72 hdX11_makesUnit ⟨rfl, rfl⟩ ⟨Nat.le_of_ble_eq_true rfl, Nat.le_of_ble_eq_true rfl⟩ rfl hl.1 (Nat.le_of_ble_eq_true rfl) dX11_lot_73 ⟨Nat.le_of_ble_eq_true rfl, Nat.le_of_ble_eq_true rfl⟩) hP hD hS hA (wr := [(a1, .inl (k 0, 36, .inl (tI [(-1), 0, 0, 0, 1, 0, 0, 0, 0, 1, 0, 0, 0, (-1), 0, 0, 0, 0] 0)))]) [2, 0] [1] rfl rfl (by decide) (by decide) (fun H locs hB J hS => ?_)
      obtain ⟨hP1, hD1⟩ := hB
      obtain ⟨hP, hD⟩ := J _ hP1 hD1
      have hP : va_P D cl0 [(a1, .inl (k 0, 36, .inl (tI [(-1), 0, 0, 0, 1, 0, 0, 0, 0, 1, 0, 0, 0, (-1), 0, 0, 0, 0] 0))), (a0, .inr (8, [.int 2, .int 2, .int (-1084965762), .int 0, .int 0, .int 0, .ref a1, .ref a2, .int 0, .int 0, .ref a3, .ref a4, .ref a5, .ref a6, .ref a7, .ref a8, .ref a9, .int 0, .int 0, .int 0, .ref a10, .ref a11, .ref a12, .ref a13, .int 0, .int 0, .ref a14, .ref a15, .ref a16, .ref a17, .int 0, .int 0, .ref a18, .ref a19, .ref a20, .ref a21])), (a3, .inl (k 1, 9, .inr (.inl (tL [1, (-2), 0, 0, 1, 0, 0, 0, 0] 0))))] H := hP
      have hD : va_D A [(a1, .inl (k 0, 36, .inl (tI [(-1), 0, 0, 0, 1, 0, 0, 0, 0, 1, 0, 0, 0, (-1), 0, 0, 0, 0] 0))), (a0, .inr (8, [.int 2, .int 2, .int (-1084965762), .int 0, .int 0, .int 0, .ref a1, .ref a2, .int 0, .int 0, .ref a3, .ref a4, .ref a5, .ref a6, .ref a7, .ref a8, .ref a9, .int 0, .int 0, .int 0, .ref a10, .ref a11, .ref a12, .ref a13, .int 0, .int 0, .ref a14, .ref a15, .ref a16, .ref a17, .int 0, .int 0, .ref a18, .ref a19, .ref a20, .ref a21])), (a3, .inl (k 1, 9, .inr (.inl (tL [1, (-2), 0, 0, 1, 0, 0, 0, 0] 0))))] := hD
      refine lv_aload_n hx hb dX11_lot_76 rfl (lv_at hl 5 rfl) ?_
      refine cI (rV (q0 := 1) (ci := 8) (As := []) (rest := []) (wc := [(a0, .inr (8, [.int 2, .int 2, .int (-1084965762), .int 0, .int 0, .int 0, .ref a1, .ref a2, .int 0, .int 0, .ref a3, .ref a4, .ref a5, .ref a6, .ref a7, .ref a8, .ref a9, .int 0, .int 0, .int 0, .ref a10, .ref a11, .ref a12, .ref a13, .int 0, .int 0, .ref a14, .ref a15, .ref a16, .ref a17, .int 0, .int 0, .ref a18, .ref a19, .ref a20, .ref a21])), (a3, .inl (k 1, 9, .inr (.inl (tL [1, (-2), 0, 0, 1, 0, 0, 0, 0] 0)))), (a1, .inl (k 0, 36, .inl (tI [(-1), 0, 0, 0, 1, 0, 0, 0, 0, 1, 0, 0, 0, (-1), 0, 0, 0, 0] 0)))]) hx hb hml hown hU hK hP hD rfl rfl [1, 2, 0] rfl (by decide) (cX11_comes_8 l D k _ a0 a3 a1 a2 a4 a5 a6 a7 a8 a9 a10 a11 a12 a13 a14 a15 a16 a17 a18 a19 a20 a21) w927 w924 w926 w30 w72 hdX11_comes ⟨rfl, rfl⟩ ⟨Nat.le_of_ble_eq_true rfl, Nat.le_of_ble_eq_true rfl⟩ rfl hl.1 (Nat.le_of_ble_eq_true rfl) dX11_lot_77 ⟨Nat.le_of_ble_eq_true rfl, Nat.le_of_ble_eq_true rfl⟩) hP hD hS hA (wr := []) [1, 2, 0] [] rfl rfl (by decide) (by decide) (fun r36 H locs hB J hS => ?_)
      obtain ⟨rfl, hP1, hD1⟩ := hB
      obtain ⟨hP, hD⟩ := J _ hP1 hD1
      have hP : va_P D cl0 [(a0, .inr (8, [.int 2, .int 3, .int (-1084965762), .int 0, .int 0, .int 0, .ref a1, .ref a2, .int 0, .int 0, .ref a3, .ref a4, .ref a5, .ref a6, .ref a7, .ref a8, .ref a9, .int 0, .int 0, .int 0, .ref a10, .ref a11, .ref a12, .ref a13, .int 0, .int 0, .ref a14, .ref a15, .ref a16, .ref a17, .int 0, .int 0, .ref a18, .ref a19, .ref a20, .ref a21])), (a3, .inl (k 1, 9, .inr (.inl (tL [1, (-2), 0, 0, 1, 0, 0, 0, 0] 0)))), (a1, .inl (k 0, 36, .inl (tI [(-1), 0, 0, 0, 1, 0, 0, 0, 0, 1, 0, 0, 0, (-1), 0, 0, 0, 0, 1, (-2), 0, 0, 1, 0, 0, 0, 0] 0)))] H := hP
      have hD : va_D A [(a0, .inr (8, [.int 2, .int 3, .int (-1084965762), .int 0, .int 0, .int 0, .ref a1, .ref a2, .int 0, .int 0, .ref a3, .ref a4, .ref a5, .ref a6, .ref a7, .ref a8, .ref a9, .int 0, .int 0, .int 0, .ref a10, .ref a11, .ref a12, .ref a13, .int 0, .int 0, .ref a14, .ref a15, .ref a16, .ref a17, .int 0, .int 0, .ref a18, .ref a19, .ref a20, .ref a21])), (a3, .inl (k 1, 9, .inr (.inl (tL [1, (-2), 0, 0, 1, 0, 0, 0, 0] 0)))), (a1, .inl (k 0, 36, .inl (tI [(-1), 0, 0, 0, 1, 0, 0, 0, 0, 1, 0, 0, 0, (-1), 0, 0, 0, 0, 1, (-2), 0, 0, 1, 0, 0, 0, 0] 0)))] := hD
      refine lv_istore (lv' := [(6, .int 2), (5, .int (-2)), (4, .int 1), (3, .int 0), (2, .int 2), (0, .ref a0), (1, .int 3)]) hx hb dX11_lot_80 hl (by decide) rfl (fun ls hl => ?_)
      refine lv_iload_n hx hb dX11_lot_82 rfl (lv_at hl 4 rfl) ?_
      refine lv_iload hx hb dX11_lot_83 (lv_at hl 0 rfl) ?_
      refine lv_if_lt (tgt := 92) hx hb dX11_lot_85 (by decide) (fun cc => absurd cc (by decide +kernel)) (fun _ => ?_)
      refine lv_iconst (v := 1) hx hb dX11_lot_88 (by decide) ?_
      refine lv_goto (tgt := 93) hx hb dX11_lot_89 (by decide) ?_
      refine lv_iadd hx hb dX11_lot_93 (sv_i (v := 3) (by decide +kernel) ?_)
      refine lv_istore_n (lv' := [(2, .int 3), (6, .int 2), (5, .int (-2)), (4, .int 1), (3, .int 0), (0, .ref a0), (1, .int 3)]) hx hb dX11_lot_94 rfl hl (by decide) rfl (fun ls hl => ?_)
      refine lv_goto (tgt := 16) hx hb dX11_lot_95 (by decide) ?_
      refine lv_iload_n hx hb dX11_lot_16 rfl (lv_at hl 0 rfl) ?_
      refine lv_iload_n hx hb dX11_lot_17 rfl (lv_at hl 6 rfl) ?_
      refine lv_icmp_ge (tgt := 98) hx hb dX11_lot_18 (by decide) (fun _ => ?_) (fun cc => absurd (by decide +kernel) cc)
      refine lv_iload_n hx hb dX11_lot_98 rfl (lv_at hl 0 rfl) ?_
      exact retI (v := 3) hx hb hr hlocks hS (show (3 : Int32) = F_lot 3 by first | decide +kernel | (have g_3 : (3 : Int32).toInt = 3 := (by decide +kernel); unfold F_lot; (repeat (first | rw [if_pos (by omega)] | rw [if_neg (by omega)])))) dX11_lot_99
    · skip
      obtain rfl : x0 = 4 := eq32 hsp (by decide +kernel)
      refine lv_icmp_ge (tgt := 98) hx hb dX11_lot_18 (by decide) (fun cc => absurd cc (by decide +kernel)) (fun _ => ?_)
      refine lv_aload_n hx hb dX11_lot_21 rfl (lv_at hl 1 rfl) ?_
      refine va_get (D := D) (ci := 8) (v := .int 0) (C := RX11) (T := TX11) (N := 36) hx hb hU iX11 hown hK.1 hP 0 rfl rfl 1 (by decide) (hU _ w786) (fun _ h9 => h9) rfl dX11_lot_22 ?_
      refine lv_iconst (v := 4) hx hb dX11_lot_25 (by decide) ?_
      refine lv_icmp_ge (tgt := 98) hx hb dX11_lot_26 (by decide) (fun cc => absurd cc (by decide +kernel)) (fun _ => ?_)
      refine lv_aload_n hx hb dX11_lot_29 rfl (lv_at hl 1 rfl) ?_
      refine lv_aload_n hx hb dX11_lot_30 rfl (lv_at hl 1 rfl) ?_
      refine va_get (D := D) (ci := 8) (v := .int 2) (C := RX11) (T := TX11) (N := 36) hx hb hU iX11 hown hK.1 hP 0 rfl rfl 0 (by decide) (hU _ w785) (fun _ h9 => h9) rfl dX11_lot_31 ?_
      refine cI (rV (q0 := 0) (ci := 8) (As := [.int 2]) (rest := []) (wc := [(a0, .inr (8, [.int 2, .int 0, .int 1, .int 0, .int 0, .int 0, .ref a1, .ref a2, .int 0, .int 0, .ref a3, .ref a4, .ref a5, .ref a6, .ref a7, .ref a8, .ref a9, .int 0, .int 0, .int 0, .ref a10, .ref a11, .ref a12, .ref a13, .int 0, .int 0, .ref a14, .ref a15, .ref a16, .ref a17, .int 0, .int 0, .ref a18, .ref a19, .ref a20, .ref a21]))]) hx hb hml hown hU hK hP hD rfl rfl [0] rfl (by decide) (cX11_drawn_1 l D k _ a0 a1 a2 a3 a4 a5 a6 a7 a8 a9 a10 a11 a12 a13 a14 a15 a16 a17 a18 a19 a20 a21) w1177 w1174 w1176 w60 w72 hdX11_drawn ⟨rfl, rfl⟩ ⟨Nat.le_of_ble_eq_true rfl, Nat.le_of_ble_eq_true rfl⟩ rfl hl.1 (Nat.le_of_ble_eq_true rfl) dX11_lot_34 ⟨Nat.le_of_ble_eq_true rfl, Nat.le_of_ble_eq_true rfl⟩) hP hD hS hA (wr := [(a1, .inl (k 0, 36, .inl (tI [] 0))), (a3, .inl (k 1, 9, .inr (.inl (tL [] 0))))]) [0] [1, 2] rfl rfl (by decide) (by decide) (fun r37 H locs hB J hS => ?_)
      obtain ⟨rfl, hP1, hD1⟩ := hB
      obtain ⟨hP, hD⟩ := J _ hP1 hD1
      have hP : va_P D cl0 [(a1, .inl (k 0, 36, .inl (tI [] 0))), (a3, .inl (k 1, 9, .inr (.inl (tL [] 0)))), (a0, .inr (8, [.int 2, .int 0, .int 1103527590, .int 0, .int 0, .int 0, .ref a1, .ref a2, .int 0, .int 0, .ref a3, .ref a4, .ref a5, .ref a6, .ref a7, .ref a8, .ref a9, .int 0, .int 0, .int 0, .ref a10, .ref a11, .ref a12, .ref a13, .int 0, .int 0, .ref a14, .ref a15, .ref a16, .ref a17, .int 0, .int 0, .ref a18, .ref a19, .ref a20, .ref a21]))] H := hP
      have hD : va_D A [(a1, .inl (k 0, 36, .inl (tI [] 0))), (a3, .inl (k 1, 9, .inr (.inl (tL [] 0)))), (a0, .inr (8, [.int 2, .int 0, .int 1103527590, .int 0, .int 0, .int 0, .ref a1, .ref a2, .int 0, .int 0, .ref a3, .ref a4, .ref a5, .ref a6, .ref a7, .ref a8, .ref a9, .int 0, .int 0, .int 0, .ref a10, .ref a11, .ref a12, .ref a13, .int 0, .int 0, .ref a14, .ref a15, .ref a16, .ref a17, .int 0, .int 0, .ref a18, .ref a19, .ref a20, .ref a21]))] := hD
      refine lv_istore_n (lv' := [(3, .int 0), (2, .int 0), (0, .ref a0), (1, .int 4)]) hx hb dX11_lot_37 rfl hl (by decide) rfl (fun ls hl => ?_)
      refine lv_aload_n hx hb dX11_lot_38 rfl (lv_at hl 2 rfl) ?_
      refine lv_aload_n hx hb dX11_lot_39 rfl (lv_at hl 2 rfl) ?_
      refine va_get (D := D) (ci := 8) (v := .int 2) (C := RX11) (T := TX11) (N := 36) hx hb hU iX11 hown hK.1 hP 2 rfl rfl 0 (by decide) (hU _ w785) (fun _ h9 => h9) rfl dX11_lot_40 ?_
      refine cI (rV (q0 := 2) (ci := 8) (As := [.int 2]) (rest := []) (wc := [(a0, .inr (8, [.int 2, .int 0, .int 1103527590, .int 0, .int 0, .int 0, .ref a1, .ref a2, .int 0, .int 0, .ref a3, .ref a4, .ref a5, .ref a6, .ref a7, .ref a8, .ref a9, .int 0, .int 0, .int 0, .ref a10, .ref a11, .ref a12, .ref a13, .int 0, .int 0, .ref a14, .ref a15, .ref a16, .ref a17, .int 0, .int 0, .ref a18, .ref a19, .ref a20, .ref a21]))]) hx hb hml hown hU hK hP hD rfl rfl [2] rfl (by decide) (cX11_drawn_2 l D k _ a0 a1 a2 a3 a4 a5 a6 a7 a8 a9 a10 a11 a12 a13 a14 a15 a16 a17 a18 a19 a20 a21) w1177 w1174 w1176 w60 w72 hdX11_drawn ⟨rfl, rfl⟩ ⟨Nat.le_of_ble_eq_true rfl, Nat.le_of_ble_eq_true rfl⟩ rfl hl.1 (Nat.le_of_ble_eq_true rfl) dX11_lot_43 ⟨Nat.le_of_ble_eq_true rfl, Nat.le_of_ble_eq_true rfl⟩) hP hD hS hA (wr := [(a1, .inl (k 0, 36, .inl (tI [] 0))), (a3, .inl (k 1, 9, .inr (.inl (tL [] 0))))]) [2] [0, 1] rfl rfl (by decide) (by decide) (fun r38 H locs hB J hS => ?_)
      obtain ⟨rfl, hP1, hD1⟩ := hB
      obtain ⟨hP, hD⟩ := J _ hP1 hD1
      have hP : va_P D cl0 [(a1, .inl (k 0, 36, .inl (tI [] 0))), (a3, .inl (k 1, 9, .inr (.inl (tL [] 0)))), (a0, .inr (8, [.int 2, .int 0, .int (-1770082073), .int 0, .int 0, .int 0, .ref a1, .ref a2, .int 0, .int 0, .ref a3, .ref a4, .ref a5, .ref a6, .ref a7, .ref a8, .ref a9, .int 0, .int 0, .int 0, .ref a10, .ref a11, .ref a12, .ref a13, .int 0, .int 0, .ref a14, .ref a15, .ref a16, .ref a17, .int 0, .int 0, .ref a18, .ref a19, .ref a20, .ref a21]))] H := hP
      have hD : va_D A [(a1, .inl (k 0, 36, .inl (tI [] 0))), (a3, .inl (k 1, 9, .inr (.inl (tL [] 0)))), (a0, .inr (8, [.int 2, .int 0, .int (-1770082073), .int 0, .int 0, .int 0, .ref a1, .ref a2, .int 0, .int 0, .ref a3, .ref a4, .ref a5, .ref a6, .ref a7, .ref a8, .ref a9, .int 0, .int 0, .int 0, .ref a10, .ref a11, .ref a12, .ref a13, .int 0, .int 0, .ref a14, .ref a15, .ref a16, .ref a17, .int 0, .int 0, .ref a18, .ref a19, .ref a20, .ref a21]))] := hD
      refine lv_istore (lv' := [(4, .int 0), (3, .int 0), (2, .int 0), (0, .ref a0), (1, .int 4)]) hx hb dX11_lot_46 hl (by decide) rfl (fun ls hl => ?_)
      refine lv_aload_n hx hb dX11_lot_48 rfl (lv_at hl 3 rfl) ?_
      refine lv_iconst (v := 5) hx hb dX11_lot_49 (by decide) ?_
      refine cI (rV (q0 := 2) (ci := 8) (As := [.int 5]) (rest := []) (wc := [(a0, .inr (8, [.int 2, .int 0, .int (-1770082073), .int 0, .int 0, .int 0, .ref a1, .ref a2, .int 0, .int 0, .ref a3, .ref a4, .ref a5, .ref a6, .ref a7, .ref a8, .ref a9, .int 0, .int 0, .int 0, .ref a10, .ref a11, .ref a12, .ref a13, .int 0, .int 0, .ref a14, .ref a15, .ref a16, .ref a17, .int 0, .int 0, .ref a18, .ref a19, .ref a20, .ref a21]))]) hx hb hml hown hU hK hP hD rfl rfl [2] rfl (by decide) (cX11_drawn_3 l D k _ a0 a1 a2 a3 a4 a5 a6 a7 a8 a9 a10 a11 a12 a13 a14 a15 a16 a17 a18 a19 a20 a21) w1177 w1174 w1176 w60 w72 hdX11_drawn ⟨rfl, rfl⟩ ⟨Nat.le_of_ble_eq_true rfl, Nat.le_of_ble_eq_true rfl⟩ rfl hl.1 (Nat.le_of_ble_eq_true rfl) dX11_lot_50 ⟨Nat.le_of_ble_eq_true rfl, Nat.le_of_ble_eq_true rfl⟩) hP hD hS hA (wr := [(a1, .inl (k 0, 36, .inl (tI [] 0))), (a3, .inl (k 1, 9, .inr (.inl (tL [] 0))))]) [2] [0, 1] rfl rfl (by decide) (by decide) (fun r39 H locs hB J hS => ?_)
      obtain ⟨rfl, hP1, hD1⟩ := hB
      obtain ⟨hP, hD⟩ := J _ hP1 hD1
      have hP : va_P D cl0 [(a1, .inl (k 0, 36, .inl (tI [] 0))), (a3, .inl (k 1, 9, .inr (.inl (tL [] 0)))), (a0, .inr (8, [.int 2, .int 0, .int 662824084, .int 0, .int 0, .int 0, .ref a1, .ref a2, .int 0, .int 0, .ref a3, .ref a4, .ref a5, .ref a6, .ref a7, .ref a8, .ref a9, .int 0, .int 0, .int 0, .ref a10, .ref a11, .ref a12, .ref a13, .int 0, .int 0, .ref a14, .ref a15, .ref a16, .ref a17, .int 0, .int 0, .ref a18, .ref a19, .ref a20, .ref a21]))] H := hP
      have hD : va_D A [(a1, .inl (k 0, 36, .inl (tI [] 0))), (a3, .inl (k 1, 9, .inr (.inl (tL [] 0)))), (a0, .inr (8, [.int 2, .int 0, .int 662824084, .int 0, .int 0, .int 0, .ref a1, .ref a2, .int 0, .int 0, .ref a3, .ref a4, .ref a5, .ref a6, .ref a7, .ref a8, .ref a9, .int 0, .int 0, .int 0, .ref a10, .ref a11, .ref a12, .ref a13, .int 0, .int 0, .ref a14, .ref a15, .ref a16, .ref a17, .int 0, .int 0, .ref a18, .ref a19, .ref a20, .ref a21]))] := hD
      refine lv_iconst (v := 2) hx hb dX11_lot_53 (by decide) ?_
      refine lv_isub hx hb dX11_lot_54 (sv_i (v := 1) (by decide +kernel) ?_)
      refine lv_istore (lv' := [(5, .int 1), (4, .int 0), (3, .int 0), (2, .int 0), (0, .ref a0), (1, .int 4)]) hx hb dX11_lot_55 hl (by decide) rfl (fun ls hl => ?_)
      refine lv_aload_n hx hb dX11_lot_57 rfl (lv_at hl 4 rfl) ?_
      refine lv_iload_n hx hb dX11_lot_58 rfl (lv_at hl 2 rfl) ?_
      refine lv_iload hx hb dX11_lot_59 (lv_at hl 1 rfl) ?_
      refine lv_iload_n hx hb dX11_lot_61 rfl (lv_at hl 2 rfl) ?_
      refine lv_iload hx hb dX11_lot_62 (lv_at hl 1 rfl) ?_
      refine lv_icmp_ne (tgt := 71) hx hb dX11_lot_64 (by decide) (fun cc => absurd (by decide +kernel) cc) (fun _ => ?_)
      refine lv_iconst (v := (-1)) hx hb dX11_lot_67 (by decide) ?_
      refine lv_goto (tgt := 73) hx hb dX11_lot_68 (by decide) ?_
      refine cV (rV (q0 := 2) (ci := 8) (As := [.int 0, .int 0, .int (-1)]) (rest := []) (wc := [(a0, .inr (8, [.int 2, .int 0, .int 662824084, .int 0, .int 0, .int 0, .ref a1, .ref a2, .int 0, .int 0, .ref a3, .ref a4, .ref a5, .ref a6, .ref a7, .ref a8, .ref a9, .int 0, .int 0, .int 0, .ref a10, .ref a11, .ref a12, .ref a13, .int 0, .int 0, .ref a14, .ref a15, .ref a16, .ref a17, .int 0, .int 0, .ref a18, .ref a19, .ref a20, .ref a21])), (a3, .inl (k 1, 9, .inr (.inl (tL [] 0))))]) hx hb hml hown hU hK hP hD rfl rfl [2, 1] rfl (by decide) (cX11_makesUnit_7 l D k _ a0 a3 a1 a2 a4 a5 a6 a7 a8 a9 a10 a11 a12 a13 a14 a15 a16 a17 a18 a19 a20 a21) w915 w912 w914 w27 w72 hdX11_makesUnit ⟨rfl, rfl⟩ ⟨Nat.le_of_ble_eq_true rfl, Nat.le_of_ble_eq_true rfl⟩ rfl hl.1 (Nat.le_of_ble_eq_true rfl) dX11_lot_73 ⟨Nat.le_of_ble_eq_true rfl, Nat.le_of_ble_eq_true rfl⟩) hP hD hS hA (wr := [(a1, .inl (k 0, 36, .inl (tI [] 0)))]) [2, 1] [0] rfl rfl (by decide) (by decide) (fun H locs hB J hS => ?_)
      obtain ⟨hP1, hD1⟩ := hB
      obtain ⟨hP, hD⟩ := J _ hP1 hD1
      have hP : va_P D cl0 [(a1, .inl (k 0, 36, .inl (tI [] 0))), (a0, .inr (8, [.int 2, .int 0, .int 662824084, .int 0, .int 0, .int 0, .ref a1, .ref a2, .int 0, .int 0, .ref a3, .ref a4, .ref a5, .ref a6, .ref a7, .ref a8, .ref a9, .int 0, .int 0, .int 0, .ref a10, .ref a11, .ref a12, .ref a13, .int 0, .int 0, .ref a14, .ref a15, .ref a16, .ref a17, .int 0, .int 0, .ref a18, .ref a19, .ref a20, .ref a21])), (a3, .inl (k 1, 9, .inr (.inl (tL [(-1), 0, 0, 0, 1, 0, 0, 0, 0] 0))))] H := hP
      have hD : va_D A [(a1, .inl (k 0, 36, .inl (tI [] 0))), (a0, .inr (8, [.int 2, .int 0, .int 662824084, .int 0, .int 0, .int 0, .ref a1, .ref a2, .int 0, .int 0, .ref a3, .ref a4, .ref a5, .ref a6, .ref a7, .ref a8, .ref a9, .int 0, .int 0, .int 0, .ref a10, .ref a11, .ref a12, .ref a13, .int 0, .int 0, .ref a14, .ref a15, .ref a16, .ref a17, .int 0, .int 0, .ref a18, .ref a19, .ref a20, .ref a21])), (a3, .inl (k 1, 9, .inr (.inl (tL [(-1), 0, 0, 0, 1, 0, 0, 0, 0] 0))))] := hD
      refine lv_aload_n hx hb dX11_lot_76 rfl (lv_at hl 4 rfl) ?_
      refine cI (rV (q0 := 1) (ci := 8) (As := []) (rest := []) (wc := [(a0, .inr (8, [.int 2, .int 0, .int 662824084, .int 0, .int 0, .int 0, .ref a1, .ref a2, .int 0, .int 0, .ref a3, .ref a4, .ref a5, .ref a6, .ref a7, .ref a8, .ref a9, .int 0, .int 0, .int 0, .ref a10, .ref a11, .ref a12, .ref a13, .int 0, .int 0, .ref a14, .ref a15, .ref a16, .ref a17, .int 0, .int 0, .ref a18, .ref a19, .ref a20, .ref a21])), (a3, .inl (k 1, 9, .inr (.inl (tL [(-1), 0, 0, 0, 1, 0, 0, 0, 0] 0)))), (a1, .inl (k 0, 36, .inl (tI [] 0)))]) hx hb hml hown hU hK hP hD rfl rfl [1, 2, 0] rfl (by decide) (cX11_comes_6 l D k _ a0 a3 a1 a2 a4 a5 a6 a7 a8 a9 a10 a11 a12 a13 a14 a15 a16 a17 a18 a19 a20 a21) w927 w924 w926 w30 w72 hdX11_comes ⟨rfl, rfl⟩ ⟨Nat.le_of_ble_eq_true rfl, Nat.le_of_ble_eq_true rfl⟩ rfl hl.1 (Nat.le_of_ble_eq_true rfl) dX11_lot_77 ⟨Nat.le_of_ble_eq_true rfl, Nat.le_of_ble_eq_true rfl⟩) hP hD hS hA (wr := []) [1, 2, 0] [] rfl rfl (by decide) (by decide) (fun r41 H locs hB J hS => ?_)
      obtain ⟨rfl, hP1, hD1⟩ := hB
      obtain ⟨hP, hD⟩ := J _ hP1 hD1
      have hP : va_P D cl0 [(a0, .inr (8, [.int 2, .int 1, .int 662824084, .int 0, .int 0, .int 0, .ref a1, .ref a2, .int 0, .int 0, .ref a3, .ref a4, .ref a5, .ref a6, .ref a7, .ref a8, .ref a9, .int 0, .int 0, .int 0, .ref a10, .ref a11, .ref a12, .ref a13, .int 0, .int 0, .ref a14, .ref a15, .ref a16, .ref a17, .int 0, .int 0, .ref a18, .ref a19, .ref a20, .ref a21])), (a3, .inl (k 1, 9, .inr (.inl (tL [(-1), 0, 0, 0, 1, 0, 0, 0, 0] 0)))), (a1, .inl (k 0, 36, .inl (tI [(-1), 0, 0, 0, 1, 0, 0, 0, 0] 0)))] H := hP
      have hD : va_D A [(a0, .inr (8, [.int 2, .int 1, .int 662824084, .int 0, .int 0, .int 0, .ref a1, .ref a2, .int 0, .int 0, .ref a3, .ref a4, .ref a5, .ref a6, .ref a7, .ref a8, .ref a9, .int 0, .int 0, .int 0, .ref a10, .ref a11, .ref a12, .ref a13, .int 0, .int 0, .ref a14, .ref a15, .ref a16, .ref a17, .int 0, .int 0, .ref a18, .ref a19, .ref a20, .ref a21])), (a3, .inl (k 1, 9, .inr (.inl (tL [(-1), 0, 0, 0, 1, 0, 0, 0, 0] 0)))), (a1, .inl (k 0, 36, .inl (tI [(-1), 0, 0, 0, 1, 0, 0, 0, 0] 0)))] := hD
      refine lv_istore (lv' := [(6, .int 0), (5, .int 1), (4, .int 0), (3, .int 0), (2, .int 0), (0, .ref a0), (1, .int 4)]) hx hb dX11_lot_80 hl (by decide) rfl (fun ls hl => ?_)
      refine lv_iload_n hx hb dX11_lot_82 rfl (lv_at hl 4 rfl) ?_
      refine lv_iload hx hb dX11_lot_83 (lv_at hl 0 rfl) ?_
      refine lv_if_lt (tgt := 92) hx hb dX11_lot_85 (by decide) (fun cc => absurd cc (by decide +kernel)) (fun _ => ?_)
      refine lv_iconst (v := 1) hx hb dX11_lot_88 (by decide) ?_
      refine lv_goto (tgt := 93) hx hb dX11_lot_89 (by decide) ?_
      refine lv_iadd hx hb dX11_lot_93 (sv_i (v := 1) (by decide +kernel) ?_)
      refine lv_istore_n (lv' := [(2, .int 1), (6, .int 0), (5, .int 1), (4, .int 0), (3, .int 0), (0, .ref a0), (1, .int 4)]) hx hb dX11_lot_94 rfl hl (by decide) rfl (fun ls hl => ?_)
      refine lv_goto (tgt := 16) hx hb dX11_lot_95 (by decide) ?_
      refine lv_iload_n hx hb dX11_lot_16 rfl (lv_at hl 0 rfl) ?_
      refine lv_iload_n hx hb dX11_lot_17 rfl (lv_at hl 6 rfl) ?_
      refine lv_icmp_ge (tgt := 98) hx hb dX11_lot_18 (by decide) (fun cc => absurd cc (by decide +kernel)) (fun _ => ?_)
      refine lv_aload_n hx hb dX11_lot_21 rfl (lv_at hl 5 rfl) ?_
      refine va_get (D := D) (ci := 8) (v := .int 1) (C := RX11) (T := TX11) (N := 36) hx hb hU iX11 hown hK.1 hP 0 rfl rfl 1 (by decide) (hU _ w786) (fun _ h9 => h9) rfl dX11_lot_22 ?_
      refine lv_iconst (v := 4) hx hb dX11_lot_25 (by decide) ?_
      refine lv_icmp_ge (tgt := 98) hx hb dX11_lot_26 (by decide) (fun cc => absurd cc (by decide +kernel)) (fun _ => ?_)
      refine lv_aload_n hx hb dX11_lot_29 rfl (lv_at hl 5 rfl) ?_
      refine lv_aload_n hx hb dX11_lot_30 rfl (lv_at hl 5 rfl) ?_
      refine va_get (D := D) (ci := 8) (v := .int 2) (C := RX11) (T := TX11) (N := 36) hx hb hU iX11 hown hK.1 hP 0 rfl rfl 0 (by decide) (hU _ w785) (fun _ h9 => h9) rfl dX11_lot_31 ?_
      refine cI (rV (q0 := 0) (ci := 8) (As := [.int 2]) (rest := []) (wc := [(a0, .inr (8, [.int 2, .int 1, .int 662824084, .int 0, .int 0, .int 0, .ref a1, .ref a2, .int 0, .int 0, .ref a3, .ref a4, .ref a5, .ref a6, .ref a7, .ref a8, .ref a9, .int 0, .int 0, .int 0, .ref a10, .ref a11, .ref a12, .ref a13, .int 0, .int 0, .ref a14, .ref a15, .ref a16, .ref a17, .int 0, .int 0, .ref a18, .ref a19, .ref a20, .ref a21]))]) hx hb hml hown hU hK hP hD rfl rfl [0] rfl (by decide) (cX11_drawn_4 l D k _ a0 a1 a2 a3 a4 a5 a6 a7 a8 a9 a10 a11 a12 a13 a14 a15 a16 a17 a18 a19 a20 a21) w1177 w1174 w1176 w60 w72 hdX11_drawn ⟨rfl, rfl⟩ ⟨Nat.le_of_ble_eq_true rfl, Nat.le_of_ble_eq_true rfl⟩ rfl hl.1 (Nat.le_of_ble_eq_true rfl) dX11_lot_34 ⟨Nat.le_of_ble_eq_true rfl, Nat.le_of_ble_eq_true rfl⟩) hP hD hS hA (wr := [(a3, .inl (k 1, 9, .inr (.inl (tL [(-1), 0, 0, 0, 1, 0, 0, 0, 0] 0)))), (a1, .inl (k 0, 36, .inl (tI [(-1), 0, 0, 0, 1, 0, 0, 0, 0] 0)))]) [0] [1, 2] rfl rfl (by decide) (by decide) (fun r42 H locs hB J hS => ?_)
      obtain ⟨rfl, hP1, hD1⟩ := hB
      obtain ⟨hP, hD⟩ := J _ hP1 hD1
      have hP : va_P D cl0 [(a3, .inl (k 1, 9, .inr (.inl (tL [(-1), 0, 0, 0, 1, 0, 0, 0, 0] 0)))), (a1, .inl (k 0, 36, .inl (tI [(-1), 0, 0, 0, 1, 0, 0, 0, 0] 0))), (a0, .inr (8, [.int 2, .int 1, .int (-999580867), .int 0, .int 0, .int 0, .ref a1, .ref a2, .int 0, .int 0, .ref a3, .ref a4, .ref a5, .ref a6, .ref a7, .ref a8, .ref a9, .int 0, .int 0, .int 0, .ref a10, .ref a11, .ref a12, .ref a13, .int 0, .int 0, .ref a14, .ref a15, .ref a16, .ref a17, .int 0, .int 0, .ref a18, .ref a19, .ref a20, .ref a21]))] H := hP
      have hD : va_D A [(a3, .inl (k 1, 9, .inr (.inl (tL [(-1), 0, 0, 0, 1, 0, 0, 0, 0] 0)))), (a1, .inl (k 0, 36, .inl (tI [(-1), 0, 0, 0, 1, 0, 0, 0, 0] 0))), (a0, .inr (8, [.int 2, .int 1, .int (-999580867), .int 0, .int 0, .int 0, .ref a1, .ref a2, .int 0, .int 0, .ref a3, .ref a4, .ref a5, .ref a6, .ref a7, .ref a8, .ref a9, .int 0, .int 0, .int 0, .ref a10, .ref a11, .ref a12, .ref a13, .int 0, .int 0, .ref a14, .ref a15, .ref a16, .ref a17, .int 0, .int 0, .ref a18, .ref a19, .ref a20, .ref a21]))] := hD
      refine lv_istore_n (lv' := [(3, .int 1), (2, .int 1), (6, .int 0), (5, .int 1), (4, .int 0), (0, .ref a0), (1, .int 4)]) hx hb dX11_lot_37 rfl hl (by decide) rfl (fun ls hl => ?_)
      refine lv_aload_n hx hb dX11_lot_38 rfl (lv_at hl 5 rfl) ?_
      refine lv_aload_n hx hb dX11_lot_39 rfl (lv_at hl 5 rfl) ?_
      refine va_get (D := D) (ci := 8) (v := .int 2) (C := RX11) (T := TX11) (N := 36) hx hb hU iX11 hown hK.1 hP 2 rfl rfl 0 (by decide) (hU _ w785) (fun _ h9 => h9) rfl dX11_lot_40 ?_
      refine cI (rV (q0 := 2) (ci := 8) (As := [.int 2]) (rest := []) (wc := [(a0, .inr (8, [.int 2, .int 1, .int (-999580867), .int 0, .int 0, .int 0, .ref a1, .ref a2, .int 0, .int 0, .ref a3, .ref a4, .ref a5, .ref a6, .ref a7, .ref a8, .ref a9, .int 0, .int 0, .int 0, .ref a10, .ref a11, .ref a12, .ref a13, .int 0, .int 0, .ref a14, .ref a15, .ref a16, .ref a17, .int 0, .int 0, .ref a18, .ref a19, .ref a20, .ref a21]))]) hx hb hml hown hU hK hP hD rfl rfl [2] rfl (by decide) (cX11_drawn_5 l D k _ a0 a1 a2 a3 a4 a5 a6 a7 a8 a9 a10 a11 a12 a13 a14 a15 a16 a17 a18 a19 a20 a21) w1177 w1174 w1176 w60 w72 hdX11_drawn ⟨rfl, rfl⟩ ⟨Nat.le_of_ble_eq_true rfl, Nat.le_of_ble_eq_true rfl⟩ rfl hl.1 (Nat.le_of_ble_eq_true rfl) dX11_lot_43 ⟨Nat.le_of_ble_eq_true rfl, Nat.le_of_ble_eq_true rfl⟩) hP hD hS hA (wr := [(a3, .inl (k 1, 9, .inr (.inl (tL [(-1), 0, 0, 0, 1, 0, 0, 0, 0] 0)))), (a1, .inl (k 0, 36, .inl (tI [(-1), 0, 0, 0, 1, 0, 0, 0, 0] 0)))]) [2] [0, 1] rfl rfl (by decide) (by decide) (fun r43 H locs hB J hS => ?_)
      obtain ⟨rfl, hP1, hD1⟩ := hB
      obtain ⟨hP, hD⟩ := J _ hP1 hD1
      have hP : va_P D cl0 [(a3, .inl (k 1, 9, .inr (.inl (tL [(-1), 0, 0, 0, 1, 0, 0, 0, 0] 0)))), (a1, .inl (k 0, 36, .inl (tI [(-1), 0, 0, 0, 1, 0, 0, 0, 0] 0))), (a0, .inr (8, [.int 2, .int 1, .int (-112468174), .int 0, .int 0, .int 0, .ref a1, .ref a2, .int 0, .int 0, .ref a3, .ref a4, .ref a5, .ref a6, .ref a7, .ref a8, .ref a9, .int 0, .int 0, .int 0, .ref a10, .ref a11, .ref a12, .ref a13, .int 0, .int 0, .ref a14, .ref a15, .ref a16, .ref a17, .int 0, .int 0, .ref a18, .ref a19, .ref a20, .ref a21]))] H := hP
      have hD : va_D A [(a3, .inl (k 1, 9, .inr (.inl (tL [(-1), 0, 0, 0, 1, 0, 0, 0, 0] 0)))), (a1, .inl (k 0, 36, .inl (tI [(-1), 0, 0, 0, 1, 0, 0, 0, 0] 0))), (a0, .inr (8, [.int 2, .int 1, .int (-112468174), .int 0, .int 0, .int 0, .ref a1, .ref a2, .int 0, .int 0, .ref a3, .ref a4, .ref a5, .ref a6, .ref a7, .ref a8, .ref a9, .int 0, .int 0, .int 0, .ref a10, .ref a11, .ref a12, .ref a13, .int 0, .int 0, .ref a14, .ref a15, .ref a16, .ref a17, .int 0, .int 0, .ref a18, .ref a19, .ref a20, .ref a21]))] := hD
      refine lv_istore (lv' := [(4, .int 1), (3, .int 1), (2, .int 1), (6, .int 0), (5, .int 1), (0, .ref a0), (1, .int 4)]) hx hb dX11_lot_46 hl (by decide) rfl (fun ls hl => ?_)
      refine lv_aload_n hx hb dX11_lot_48 rfl (lv_at hl 5 rfl) ?_
      refine lv_iconst (v := 5) hx hb dX11_lot_49 (by decide) ?_
      refine cI (rV (q0 := 2) (ci := 8) (As := [.int 5]) (rest := []) (wc := [(a0, .inr (8, [.int 2, .int 1, .int (-112468174), .int 0, .int 0, .int 0, .ref a1, .ref a2, .int 0, .int 0, .ref a3, .ref a4, .ref a5, .ref a6, .ref a7, .ref a8, .ref a9, .int 0, .int 0, .int 0, .ref a10, .ref a11, .ref a12, .ref a13, .int 0, .int 0, .ref a14, .ref a15, .ref a16, .ref a17, .int 0, .int 0, .ref a18, .ref a19, .ref a20, .ref a21]))]) hx hb hml hown hU hK hP hD rfl rfl [2] rfl (by decide) (cX11_drawn_6 l D k _ a0 a1 a2 a3 a4 a5 a6 a7 a8 a9 a10 a11 a12 a13 a14 a15 a16 a17 a18 a19 a20 a21) w1177 w1174 w1176 w60 w72 hdX11_drawn ⟨rfl, rfl⟩ ⟨Nat.le_of_ble_eq_true rfl, Nat.le_of_ble_eq_true rfl⟩ rfl hl.1 (Nat.le_of_ble_eq_true rfl) dX11_lot_50 ⟨Nat.le_of_ble_eq_true rfl, Nat.le_of_ble_eq_true rfl⟩) hP hD hS hA (wr := [(a3, .inl (k 1, 9, .inr (.inl (tL [(-1), 0, 0, 0, 1, 0, 0, 0, 0] 0)))), (a1, .inl (k 0, 36, .inl (tI [(-1), 0, 0, 0, 1, 0, 0, 0, 0] 0)))]) [2] [0, 1] rfl rfl (by decide) (by decide) (fun r44 H locs hB J hS => ?_)
      obtain ⟨rfl, hP1, hD1⟩ := hB
      obtain ⟨hP, hD⟩ := J _ hP1 hD1
      have hP : va_P D cl0 [(a3, .inl (k 1, 9, .inr (.inl (tL [(-1), 0, 0, 0, 1, 0, 0, 0, 0] 0)))), (a1, .inl (k 0, 36, .inl (tI [(-1), 0, 0, 0, 1, 0, 0, 0, 0] 0))), (a0, .inr (8, [.int 2, .int 1, .int (-1778682749), .int 0, .int 0, .int 0, .ref a1, .ref a2, .int 0, .int 0, .ref a3, .ref a4, .ref a5, .ref a6, .ref a7, .ref a8, .ref a9, .int 0, .int 0, .int 0, .ref a10, .ref a11, .ref a12, .ref a13, .int 0, .int 0, .ref a14, .ref a15, .ref a16, .ref a17, .int 0, .int 0, .ref a18, .ref a19, .ref a20, .ref a21]))] H := hP
      have hD : va_D A [(a3, .inl (k 1, 9, .inr (.inl (tL [(-1), 0, 0, 0, 1, 0, 0, 0, 0] 0)))), (a1, .inl (k 0, 36, .inl (tI [(-1), 0, 0, 0, 1, 0, 0, 0, 0] 0))), (a0, .inr (8, [.int 2, .int 1, .int (-1778682749), .int 0, .int 0, .int 0, .ref a1, .ref a2, .int 0, .int 0, .ref a3, .ref a4, .ref a5, .ref a6, .ref a7, .ref a8, .ref a9, .int 0, .int 0, .int 0, .ref a10, .ref a11, .ref a12, .ref a13, .int 0, .int 0, .ref a14, .ref a15, .ref a16, .ref a17, .int 0, .int 0, .ref a18, .ref a19, .ref a20, .ref a21]))] := hD
      refine lv_iconst (v := 2) hx hb dX11_lot_53 (by decide) ?_
      refine lv_isub hx hb dX11_lot_54 (sv_i (v := (-2)) (by decide +kernel) ?_)
      refine lv_istore (lv' := [(5, .int (-2)), (4, .int 1), (3, .int 1), (2, .int 1), (6, .int 0), (0, .ref a0), (1, .int 4)]) hx hb dX11_lot_55 hl (by decide) rfl (fun ls hl => ?_)
      refine lv_aload_n hx hb dX11_lot_57 rfl (lv_at hl 5 rfl) ?_
      refine lv_iload_n hx hb dX11_lot_58 rfl (lv_at hl 2 rfl) ?_
      refine lv_iload hx hb dX11_lot_59 (lv_at hl 1 rfl) ?_
      refine lv_iload_n hx hb dX11_lot_61 rfl (lv_at hl 2 rfl) ?_
      refine lv_iload hx hb dX11_lot_62 (lv_at hl 1 rfl) ?_
      refine lv_icmp_ne (tgt := 71) hx hb dX11_lot_64 (by decide) (fun cc => absurd (by decide +kernel) cc) (fun _ => ?_)
      refine lv_iconst (v := (-1)) hx hb dX11_lot_67 (by decide) ?_
      refine lv_goto (tgt := 73) hx hb dX11_lot_68 (by decide) ?_
      refine cV (rV (q0 := 2) (ci := 8) (As := [.int 1, .int 1, .int (-1)]) (rest := []) (wc := [(a0, .inr (8, [.int 2, .int 1, .int (-1778682749), .int 0, .int 0, .int 0, .ref a1, .ref a2, .int 0, .int 0, .ref a3, .ref a4, .ref a5, .ref a6, .ref a7, .ref a8, .ref a9, .int 0, .int 0, .int 0, .ref a10, .ref a11, .ref a12, .ref a13, .int 0, .int 0, .ref a14, .ref a15, .ref a16, .ref a17, .int 0, .int 0, .ref a18, .ref a19, .ref a20, .ref a21])), (a3, .inl (k 1, 9, .inr (.inl (tL [(-1), 0, 0, 0, 1, 0, 0, 0, 0] 0))))]) hx hb hml hown hU hK hP hD rfl rfl [2, 0] rfl (by decide) (cX11_makesUnit_8 l D k _ a0 a3 a1 a2 a4 a5 a6 a7 a8 a9 a10 a11 a12 a13 a14 a15 a16 a17 a18 a19 a20 a21) w915 w912 w914 w27 w72 hdX11_makesUnit ⟨rfl, rfl⟩ ⟨Nat.le_of_ble_eq_true rfl, Nat.le_of_ble_eq_true rfl⟩ rfl hl.1 (Nat.le_of_ble_eq_true rfl) dX11_lot_73 ⟨Nat.le_of_ble_eq_true rfl, Nat.le_of_ble_eq_true rfl⟩) hP hD hS hA (wr := [(a1, .inl (k 0, 36, .inl (tI [(-1), 0, 0, 0, 1, 0, 0, 0, 0] 0)))]) [2, 0] [1] rfl rfl (by decide) (by decide) (fun H locs hB J hS => ?_)
      obtain ⟨hP1, hD1⟩ := hB
      obtain ⟨hP, hD⟩ := J _ hP1 hD1
      have hP : va_P D cl0 [(a1, .inl (k 0, 36, .inl (tI [(-1), 0, 0, 0, 1, 0, 0, 0, 0] 0))), (a0, .inr (8, [.int 2, .int 1, .int (-1778682749), .int 0, .int 0, .int 0, .ref a1, .ref a2, .int 0, .int 0, .ref a3, .ref a4, .ref a5, .ref a6, .ref a7, .ref a8, .ref a9, .int 0, .int 0, .int 0, .ref a10, .ref a11, .ref a12, .ref a13, .int 0, .int 0, .ref a14, .ref a15, .ref a16, .ref a17, .int 0, .int 0, .ref a18, .ref a19, .ref a20, .ref a21])), (a3, .inl (k 1, 9, .inr (.inl (tL [1, 0, 0, 0, (-1), 0, 0, 0, 0] 0))))] H := hP
      have hD : va_D A [(a1, .inl (k 0, 36, .inl (tI [(-1), 0, 0, 0, 1, 0, 0, 0, 0] 0))), (a0, .inr (8, [.int 2, .int 1, .int (-1778682749), .int 0, .int 0, .int 0, .ref a1, .ref a2, .int 0, .int 0, .ref a3, .ref a4, .ref a5, .ref a6, .ref a7, .ref a8, .ref a9, .int 0, .int 0, .int 0, .ref a10, .ref a11, .ref a12, .ref a13, .int 0, .int 0, .ref a14, .ref a15, .ref a16, .ref a17, .int 0, .int 0, .ref a18, .ref a19, .ref a20, .ref a21])), (a3, .inl (k 1, 9, .inr (.inl (tL [1, 0, 0, 0, (-1), 0, 0, 0, 0] 0))))] := hD
      refine lv_aload_n hx hb dX11_lot_76 rfl (lv_at hl 5 rfl) ?_
      refine cI (rV (q0 := 1) (ci := 8) (As := []) (rest := []) (wc := [(a0, .inr (8, [.int 2, .int 1, .int (-1778682749), .int 0, .int 0, .int 0, .ref a1, .ref a2, .int 0, .int 0, .ref a3, .ref a4, .ref a5, .ref a6, .ref a7, .ref a8, .ref a9, .int 0, .int 0, .int 0, .ref a10, .ref a11, .ref a12, .ref a13, .int 0, .int 0, .ref a14, .ref a15, .ref a16, .ref a17, .int 0, .int 0, .ref a18, .ref a19, .ref a20, .ref a21])), (a3, .inl (k 1, 9, .inr (.inl (tL [1, 0, 0, 0, (-1), 0, 0, 0, 0] 0)))), (a1, .inl (k 0, 36, .inl (tI [(-1), 0, 0, 0, 1, 0, 0, 0, 0] 0)))]) hx hb hml hown hU hK hP hD rfl rfl [1, 2, 0] rfl (by decide) (cX11_comes_7 l D k _ a0 a3 a1 a2 a4 a5 a6 a7 a8 a9 a10 a11 a12 a13 a14 a15 a16 a17 a18 a19 a20 a21) w927 w924 w926 w30 w72 hdX11_comes ⟨rfl, rfl⟩ ⟨Nat.le_of_ble_eq_true rfl, Nat.le_of_ble_eq_true rfl⟩ rfl hl.1 (Nat.le_of_ble_eq_true rfl) dX11_lot_77 ⟨Nat.le_of_ble_eq_true rfl, Nat.le_of_ble_eq_true rfl⟩) hP hD hS hA (wr := []) [1, 2, 0] [] rfl rfl (by decide) (by decide) (fun r46 H locs hB J hS => ?_)
      obtain ⟨rfl, hP1, hD1⟩ := hB
      obtain ⟨hP, hD⟩ := J _ hP1 hD1
      have hP : va_P D cl0 [(a0, .inr (8, [.int 2, .int 2, .int (-1778682749), .int 0, .int 0, .int 0, .ref a1, .ref a2, .int 0, .int 0, .ref a3, .ref a4, .ref a5, .ref a6, .ref a7, .ref a8, .ref a9, .int 0, .int 0, .int 0, .ref a10, .ref a11, .ref a12, .ref a13, .int 0, .int 0, .ref a14, .ref a15, .ref a16, .ref a17, .int 0, .int 0, .ref a18, .ref a19, .ref a20, .ref a21])), (a3, .inl (k 1, 9, .inr (.inl (tL [1, 0, 0, 0, (-1), 0, 0, 0, 0] 0)))), (a1, .inl (k 0, 36, .inl (tI [(-1), 0, 0, 0, 1, 0, 0, 0, 0, 1, 0, 0, 0, (-1), 0, 0, 0, 0] 0)))] H := hP
      have hD : va_D A [(a0, .inr (8, [.int 2, .int 2, .int (-1778682749), .int 0, .int 0, .int 0, .ref a1, .ref a2, .int 0, .int 0, .ref a3, .ref a4, .ref a5, .ref a6, .ref a7, .ref a8, .ref a9, .int 0, .int 0, .int 0, .ref a10, .ref a11, .ref a12, .ref a13, .int 0, .int 0, .ref a14, .ref a15, .ref a16, .ref a17, .int 0, .int 0, .ref a18, .ref a19, .ref a20, .ref a21])), (a3, .inl (k 1, 9, .inr (.inl (tL [1, 0, 0, 0, (-1), 0, 0, 0, 0] 0)))), (a1, .inl (k 0, 36, .inl (tI [(-1), 0, 0, 0, 1, 0, 0, 0, 0, 1, 0, 0, 0, (-1), 0, 0, 0, 0] 0)))] := hD
      refine lv_istore (lv' := [(6, .int 1), (5, .int (-2)), (4, .int 1), (3, .int 1), (2, .int 1), (0, .ref a0), (1, .int 4)]) hx hb dX11_lot_80 hl (by decide) rfl (fun ls hl => ?_)
      refine lv_iload_n hx hb dX11_lot_82 rfl (lv_at hl 4 rfl) ?_
      refine lv_iload hx hb dX11_lot_83 (lv_at hl 0 rfl) ?_
      refine lv_if_lt (tgt := 92) hx hb dX11_lot_85 (by decide) (fun cc => absurd cc (by decide +kernel)) (fun _ => ?_)
      refine lv_iconst (v := 1) hx hb dX11_lot_88 (by decide) ?_
      refine lv_goto (tgt := 93) hx hb dX11_lot_89 (by decide) ?_
      refine lv_iadd hx hb dX11_lot_93 (sv_i (v := 2) (by decide +kernel) ?_)
      refine lv_istore_n (lv' := [(2, .int 2), (6, .int 1), (5, .int (-2)), (4, .int 1), (3, .int 1), (0, .ref a0), (1, .int 4)]) hx hb dX11_lot_94 rfl hl (by decide) rfl (fun ls hl => ?_)
      refine lv_goto (tgt := 16) hx hb dX11_lot_95 (by decide) ?_
      refine lv_iload_n hx hb dX11_lot_16 rfl (lv_at hl 0 rfl) ?_
      refine lv_iload_n hx hb dX11_lot_17 rfl (lv_at hl 6 rfl) ?_
      refine lv_icmp_ge (tgt := 98) hx hb dX11_lot_18 (by decide) (fun cc => absurd cc (by decide +kernel)) (fun _ => ?_)
      refine lv_aload_n hx hb dX11_lot_21 rfl (lv_at hl 5 rfl) ?_
      refine va_get (D := D) (ci := 8) (v := .int 2) (C := RX11) (T := TX11) (N := 36) hx hb hU iX11 hown hK.1 hP 0 rfl rfl 1 (by decide) (hU _ w786) (fun _ h9 => h9) rfl dX11_lot_22 ?_
      refine lv_iconst (v := 4) hx hb dX11_lot_25 (by decide) ?_
      refine lv_icmp_ge (tgt := 98) hx hb dX11_lot_26 (by decide) (fun cc => absurd cc (by decide +kernel)) (fun _ => ?_)
      refine lv_aload_n hx hb dX11_lot_29 rfl (lv_at hl 5 rfl) ?_
      refine lv_aload_n hx hb dX11_lot_30 rfl (lv_at hl 5 rfl) ?_
      refine va_get (D := D) (ci := 8) (v := .int 2) (C := RX11) (T := TX11) (N := 36) hx hb hU iX11 hown hK.1 hP 0 rfl rfl 0 (by decide) (hU _ w785) (fun _ h9 => h9) rfl dX11_lot_31 ?_
      refine cI (rV (q0 := 0) (ci := 8) (As := [.int 2]) (rest := []) (wc := [(a0, .inr (8, [.int 2, .int 2, .int (-1778682749), .int 0, .int 0, .int 0, .ref a1, .ref a2, .int 0, .int 0, .ref a3, .ref a4, .ref a5, .ref a6, .ref a7, .ref a8, .ref a9, .int 0, .int 0, .int 0, .ref a10, .ref a11, .ref a12, .ref a13, .int 0, .int 0, .ref a14, .ref a15, .ref a16, .ref a17, .int 0, .int 0, .ref a18, .ref a19, .ref a20, .ref a21]))]) hx hb hml hown hU hK hP hD rfl rfl [0] rfl (by decide) (cX11_drawn_7 l D k _ a0 a1 a2 a3 a4 a5 a6 a7 a8 a9 a10 a11 a12 a13 a14 a15 a16 a17 a18 a19 a20 a21) w1177 w1174 w1176 w60 w72 hdX11_drawn ⟨rfl, rfl⟩ ⟨Nat.le_of_ble_eq_true rfl, Nat.le_of_ble_eq_true rfl⟩ rfl hl.1 (Nat.le_of_ble_eq_true rfl) dX11_lot_34 ⟨Nat.le_of_ble_eq_true rfl, Nat.le_of_ble_eq_true rfl⟩) hP hD hS hA (wr := [(a3, .inl (k 1, 9, .inr (.inl (tL [1, 0, 0, 0, (-1), 0, 0, 0, 0] 0)))), (a1, .inl (k 0, 36, .inl (tI [(-1), 0, 0, 0, 1, 0, 0, 0, 0, 1, 0, 0, 0, (-1), 0, 0, 0, 0] 0)))]) [0] [1, 2] rfl rfl (by decide) (by decide) (fun r47 H locs hB J hS => ?_)
      obtain ⟨rfl, hP1, hD1⟩ := hB
      obtain ⟨hP, hD⟩ := J _ hP1 hD1
      have hP : va_P D cl0 [(a3, .inl (k 1, 9, .inr (.inl (tL [1, 0, 0, 0, (-1), 0, 0, 0, 0] 0)))), (a1, .inl (k 0, 36, .inl (tI [(-1), 0, 0, 0, 1, 0, 0, 0, 0, 1, 0, 0, 0, (-1), 0, 0, 0, 0] 0))), (a0, .inr (8, [.int 2, .int 2, .int (-639453696), .int 0, .int 0, .int 0, .ref a1, .ref a2, .int 0, .int 0, .ref a3, .ref a4, .ref a5, .ref a6, .ref a7, .ref a8, .ref a9, .int 0, .int 0, .int 0, .ref a10, .ref a11, .ref a12, .ref a13, .int 0, .int 0, .ref a14, .ref a15, .ref a16, .ref a17, .int 0, .int 0, .ref a18, .ref a19, .ref a20, .ref a21]))] H := hP
      have hD : va_D A [(a3, .inl (k 1, 9, .inr (.inl (tL [1, 0, 0, 0, (-1), 0, 0, 0, 0] 0)))), (a1, .inl (k 0, 36, .inl (tI [(-1), 0, 0, 0, 1, 0, 0, 0, 0, 1, 0, 0, 0, (-1), 0, 0, 0, 0] 0))), (a0, .inr (8, [.int 2, .int 2, .int (-639453696), .int 0, .int 0, .int 0, .ref a1, .ref a2, .int 0, .int 0, .ref a3, .ref a4, .ref a5, .ref a6, .ref a7, .ref a8, .ref a9, .int 0, .int 0, .int 0, .ref a10, .ref a11, .ref a12, .ref a13, .int 0, .int 0, .ref a14, .ref a15, .ref a16, .ref a17, .int 0, .int 0, .ref a18, .ref a19, .ref a20, .ref a21]))] := hD
      refine lv_istore_n (lv' := [(3, .int 0), (2, .int 2), (6, .int 1), (5, .int (-2)), (4, .int 1), (0, .ref a0), (1, .int 4)]) hx hb dX11_lot_37 rfl hl (by decide) rfl (fun ls hl => ?_)
      refine lv_aload_n hx hb dX11_lot_38 rfl (lv_at hl 5 rfl) ?_
      refine lv_aload_n hx hb dX11_lot_39 rfl (lv_at hl 5 rfl) ?_
      refine va_get (D := D) (ci := 8) (v := .int 2) (C := RX11) (T := TX11) (N := 36) hx hb hU iX11 hown hK.1 hP 2 rfl rfl 0 (by decide) (hU _ w785) (fun _ h9 => h9) rfl dX11_lot_40 ?_
      refine cI (rV (q0 := 2) (ci := 8) (As := [.int 2]) (rest := []) (wc := [(a0, .inr (8, [.int 2, .int 2, .int (-639453696), .int 0, .int 0, .int 0, .ref a1, .ref a2, .int 0, .int 0, .ref a3, .ref a4, .ref a5, .ref a6, .ref a7, .ref a8, .ref a9, .int 0, .int 0, .int 0, .ref a10, .ref a11, .ref a12, .ref a13, .int 0, .int 0, .ref a14, .ref a15, .ref a16, .ref a17, .int 0, .int 0, .ref a18, .ref a19, .ref a20, .ref a21]))]) hx hb hml hown hU hK hP hD rfl rfl [2] rfl (by decide) (cX11_drawn_8 l D k _ a0 a1 a2 a3 a4 a5 a6 a7 a8 a9 a10 a11 a12 a13 a14 a15 a16 a17 a18 a19 a20 a21) w1177 w1174 w1176 w60 w72 hdX11_drawn ⟨rfl, rfl⟩ ⟨Nat.le_of_ble_eq_true rfl, Nat.le_of_ble_eq_true rfl⟩ rfl hl.1 (Nat.le_of_ble_eq_true rfl) dX11_lot_43 ⟨Nat.le_of_ble_eq_true rfl, Nat.le_of_ble_eq_true rfl⟩) hP hD hS hA (wr := [(a3, .inl (k 1, 9, .inr (.inl (tL [1, 0, 0, 0, (-1), 0, 0, 0, 0] 0)))), (a1, .inl (k 0, 36, .inl (tI [(-1), 0, 0, 0, 1, 0, 0, 0, 0, 1, 0, 0, 0, (-1), 0, 0, 0, 0] 0)))]) [2] [0, 1] rfl rfl (by decide) (by decide) (fun r48 H locs hB J hS => ?_)
      obtain ⟨rfl, hP1, hD1⟩ := hB
      obtain ⟨hP, hD⟩ := J _ hP1 hD1
      have hP : va_P D cl0 [(a3, .inl (k 1, 9, .inr (.inl (tL [1, 0, 0, 0, (-1), 0, 0, 0, 0] 0)))), (a1, .inl (k 0, 36, .inl (tI [(-1), 0, 0, 0, 1, 0, 0, 0, 0, 1, 0, 0, 0, (-1), 0, 0, 0, 0] 0))), (a0, .inr (8, [.int 2, .int 2, .int (-1661227463), .int 0, .int 0, .int 0, .ref a1, .ref a2, .int 0, .int 0, .ref a3, .ref a4, .ref a5, .ref a6, .ref a7, .ref a8, .ref a9, .int 0, .int 0, .int 0, .ref a10, .ref a11, .ref a12, .ref a13, .int 0, .int 0, .ref a14, .ref a15, .ref a16, .ref a17, .int 0, .int 0, .ref a18, .ref a19, .ref a20, .ref a21]))] H := hP
      have hD : va_D A [(a3, .inl (k 1, 9, .inr (.inl (tL [1, 0, 0, 0, (-1), 0, 0, 0, 0] 0)))), (a1, .inl (k 0, 36, .inl (tI [(-1), 0, 0, 0, 1, 0, 0, 0, 0, 1, 0, 0, 0, (-1), 0, 0, 0, 0] 0))), (a0, .inr (8, [.int 2, .int 2, .int (-1661227463), .int 0, .int 0, .int 0, .ref a1, .ref a2, .int 0, .int 0, .ref a3, .ref a4, .ref a5, .ref a6, .ref a7, .ref a8, .ref a9, .int 0, .int 0, .int 0, .ref a10, .ref a11, .ref a12, .ref a13, .int 0, .int 0, .ref a14, .ref a15, .ref a16, .ref a17, .int 0, .int 0, .ref a18, .ref a19, .ref a20, .ref a21]))] := hD
      refine lv_istore (lv' := [(4, .int 1), (3, .int 0), (2, .int 2), (6, .int 1), (5, .int (-2)), (0, .ref a0), (1, .int 4)]) hx hb dX11_lot_46 hl (by decide) rfl (fun ls hl => ?_)
      refine lv_aload_n hx hb dX11_lot_48 rfl (lv_at hl 5 rfl) ?_
      refine lv_iconst (v := 5) hx hb dX11_lot_49 (by decide) ?_
      refine cI (rV (q0 := 2) (ci := 8) (As := [.int 5]) (rest := []) (wc := [(a0, .inr (8, [.int 2, .int 2, .int (-1661227463), .int 0, .int 0, .int 0, .ref a1, .ref a2, .int 0, .int 0, .ref a3, .ref a4, .ref a5, .ref a6, .ref a7, .ref a8, .ref a9, .int 0, .int 0, .int 0, .ref a10, .ref a11, .ref a12, .ref a13, .int 0, .int 0, .ref a14, .ref a15, .ref a16, .ref a17, .int 0, .int 0, .ref a18, .ref a19, .ref a20, .ref a21]))]) hx hb hml hown hU hK hP hD rfl rfl [2] rfl (by decide) (cX11_drawn_9 l D k _ a0 a1 a2 a3 a4 a5 a6 a7 a8 a9 a10 a11 a12 a13 a14 a15 a16 a17 a18 a19 a20 a21) w1177 w1174 w1176 w60 w72 hdX11_drawn ⟨rfl, rfl⟩ ⟨Nat.le_of_ble_eq_true rfl, Nat.le_of_ble_eq_true rfl⟩ rfl hl.1 (Nat.le_of_ble_eq_true rfl) dX11_lot_50 ⟨Nat.le_of_ble_eq_true rfl, Nat.le_of_ble_eq_true rfl⟩) hP hD hS hA (wr := [(a3, .inl (k 1, 9, .inr (.inl (tL [1, 0, 0, 0, (-1), 0, 0, 0, 0] 0)))), (a1, .inl (k 0, 36, .inl (tI [(-1), 0, 0, 0, 1, 0, 0, 0, 0, 1, 0, 0, 0, (-1), 0, 0, 0, 0] 0)))]) [2] [0, 1] rfl rfl (by decide) (by decide) (fun r49 H locs hB J hS => ?_)
      obtain ⟨rfl, hP1, hD1⟩ := hB
      obtain ⟨hP, hD⟩ := J _ hP1 hD1
      have hP : va_P D cl0 [(a3, .inl (k 1, 9, .inr (.inl (tL [1, 0, 0, 0, (-1), 0, 0, 0, 0] 0)))), (a1, .inl (k 0, 36, .inl (tI [(-1), 0, 0, 0, 1, 0, 0, 0, 0, 1, 0, 0, 0, (-1), 0, 0, 0, 0] 0))), (a0, .inr (8, [.int 2, .int 2, .int (-1084965762), .int 0, .int 0, .int 0, .ref a1, .ref a2, .int 0, .int 0, .ref a3, .ref a4, .ref a5, .ref a6, .ref a7, .ref a8, .ref a9, .int 0, .int 0, .int 0, .ref a10, .ref a11, .ref a12, .ref a13, .int 0, .int 0, .ref a14, .ref a15, .ref a16, .ref a17, .int 0, .int 0, .ref a18, .ref a19, .ref a20, .ref a21]))] H := hP
      have hD : va_D A [(a3, .inl (k 1, 9, .inr (.inl (tL [1, 0, 0, 0, (-1), 0, 0, 0, 0] 0)))), (a1, .inl (k 0, 36, .inl (tI [(-1), 0, 0, 0, 1, 0, 0, 0, 0, 1, 0, 0, 0, (-1), 0, 0, 0, 0] 0))), (a0, .inr (8, [.int 2, .int 2, .int (-1084965762), .int 0, .int 0, .int 0, .ref a1, .ref a2, .int 0, .int 0, .ref a3, .ref a4, .ref a5, .ref a6, .ref a7, .ref a8, .ref a9, .int 0, .int 0, .int 0, .ref a10, .ref a11, .ref a12, .ref a13, .int 0, .int 0, .ref a14, .ref a15, .ref a16, .ref a17, .int 0, .int 0, .ref a18, .ref a19, .ref a20, .ref a21]))] := hD
      refine lv_iconst (v := 2) hx hb dX11_lot_53 (by decide) ?_
      refine lv_isub hx hb dX11_lot_54 (sv_i (v := (-2)) (by decide +kernel) ?_)
      refine lv_istore (lv' := [(5, .int (-2)), (4, .int 1), (3, .int 0), (2, .int 2), (6, .int 1), (0, .ref a0), (1, .int 4)]) hx hb dX11_lot_55 hl (by decide) rfl (fun ls hl => ?_)
      refine lv_aload_n hx hb dX11_lot_57 rfl (lv_at hl 5 rfl) ?_
      refine lv_iload_n hx hb dX11_lot_58 rfl (lv_at hl 2 rfl) ?_
      refine lv_iload hx hb dX11_lot_59 (lv_at hl 1 rfl) ?_
      refine lv_iload_n hx hb dX11_lot_61 rfl (lv_at hl 2 rfl) ?_
      refine lv_iload hx hb dX11_lot_62 (lv_at hl 1 rfl) ?_
      refine lv_icmp_ne (tgt := 71) hx hb dX11_lot_64 (by decide) (fun _ => ?_) (fun cc => absurd cc (by decide +kernel))
      refine lv_iload hx hb dX11_lot_71 (lv_at hl 0 rfl) ?_
      refine cV (rV (q0 := 2) (ci := 8) (As := [.int 0, .int 1, .int (-2)]) (rest := []) (wc := [(a0, .inr (8, [.int 2, .int 2, .int (-1084965762), .int 0, .int 0, .int 0, .ref a1, .ref a2, .int 0, .int 0, .ref a3, .ref a4, .ref a5, .ref a6, .ref a7, .ref a8, .ref a9, .int 0, .int 0, .int 0, .ref a10, .ref a11, .ref a12, .ref a13, .int 0, .int 0, .ref a14, .ref a15, .ref a16, .ref a17, .int 0, .int 0, .ref a18, .ref a19, .ref a20, .ref a21])), (a3, .inl (k 1, 9, .inr (.inl (tL [1, 0, 0, 0, (-1), 0, 0, 0, 0] 0))))]) hx hb hml hown hU hK hP hD rfl rfl [2, 0] rfl (by decide) (cX11_makesUnit_9 l D k _ a0 a3 a1 a2 a4 a5 a6 a7 a8 a9 a10 a11 a12 a13 a14 a15 a16 a17 a18 a19 a20 a21) w915 w912 w914 w27 w72 hdX11_makesUnit ⟨rfl, rfl⟩ ⟨Nat.le_of_ble_eq_true rfl, Nat.le_of_ble_eq_true rfl⟩ rfl hl.1 (Nat.le_of_ble_eq_true rfl) dX11_lot_73 ⟨Nat.le_of_ble_eq_true rfl, Nat.le_of_ble_eq_true rfl⟩) hP hD hS hA (wr := [(a1, .inl (k 0, 36, .inl (tI [(-1), 0, 0, 0, 1, 0, 0, 0, 0, 1, 0, 0, 0, (-1), 0, 0, 0, 0] 0)))]) [2, 0] [1] rfl rfl (by decide) (by decide) (fun H locs hB J hS => ?_)
      obtain ⟨hP1, hD1⟩ := hB
      obtain ⟨hP, hD⟩ := J _ hP1 hD1
      have hP : va_P D cl0 [(a1, .inl (k 0, 36, .inl (tI [(-1), 0, 0, 0, 1, 0, 0, 0, 0, 1, 0, 0, 0, (-1), 0, 0, 0, 0] 0))), (a0, .inr (8, [.int 2, .int 2, .int (-1084965762), .int 0, .int 0, .int 0, .ref a1, .ref a2, .int 0, .int 0, .ref a3, .ref a4, .ref a5, .ref a6, .ref a7, .ref a8, .ref a9, .int 0, .int 0, .int 0, .ref a10, .ref a11, .ref a12, .ref a13, .int 0, .int 0, .ref a14, .ref a15, .ref a16, .ref a17, .int 0, .int 0, .ref a18, .ref a19, .ref a20, .ref a21])), (a3, .inl (k 1, 9, .inr (.inl (tL [1, (-2), 0, 0, 1, 0, 0, 0, 0] 0))))] H := hP
      have hD : va_D A [(a1, .inl (k 0, 36, .inl (tI [(-1), 0, 0, 0, 1, 0, 0, 0, 0, 1, 0, 0, 0, (-1), 0, 0, 0, 0] 0))), (a0, .inr (8, [.int 2, .int 2, .int (-1084965762), .int 0, .int 0, .int 0, .ref a1, .ref a2, .int 0, .int 0, .ref a3, .ref a4, .ref a5, .ref a6, .ref a7, .ref a8, .ref a9, .int 0, .int 0, .int 0, .ref a10, .ref a11, .ref a12, .ref a13, .int 0, .int 0, .ref a14, .ref a15, .ref a16, .ref a17, .int 0, .int 0, .ref a18, .ref a19, .ref a20, .ref a21])), (a3, .inl (k 1, 9, .inr (.inl (tL [1, (-2), 0, 0, 1, 0, 0, 0, 0] 0))))] := hD
      refine lv_aload_n hx hb dX11_lot_76 rfl (lv_at hl 5 rfl) ?_
      refine cI (rV (q0 := 1) (ci := 8) (As := []) (rest := []) (wc := [(a0, .inr (8, [.int 2, .int 2, .int (-1084965762), .int 0, .int 0, .int 0, .ref a1, .ref a2, .int 0, .int 0, .ref a3, .ref a4, .ref a5, .ref a6, .ref a7, .ref a8, .ref a9, .int 0, .int 0, .int 0, .ref a10, .ref a11, .ref a12, .ref a13, .int 0, .int 0, .ref a14, .ref a15, .ref a16, .ref a17, .int 0, .int 0, .ref a18, .ref a19, .ref a20, .ref a21])), (a3, .inl (k 1, 9, .inr (.inl (tL [1, (-2), 0, 0, 1, 0, 0, 0, 0] 0)))), (a1, .inl (k 0, 36, .inl (tI [(-1), 0, 0, 0, 1, 0, 0, 0, 0, 1, 0, 0, 0, (-1), 0, 0, 0, 0] 0)))]) hx hb hml hown hU hK hP hD rfl rfl [1, 2, 0] rfl (by decide) (cX11_comes_8 l D k _ a0 a3 a1 a2 a4 a5 a6 a7 a8 a9 a10 a11 a12 a13 a14 a15 a16 a17 a18 a19 a20 a21) w927 w924 w926 w30 w72 hdX11_comes ⟨rfl, rfl⟩ ⟨Nat.le_of_ble_eq_true rfl, Nat.le_of_ble_eq_true rfl⟩ rfl hl.1 (Nat.le_of_ble_eq_true rfl) dX11_lot_77 ⟨Nat.le_of_ble_eq_true rfl, Nat.le_of_ble_eq_true rfl⟩) hP hD hS hA (wr := []) [1, 2, 0] [] rfl rfl (by decide) (by decide) (fun r51 H locs hB J hS => ?_)
      obtain ⟨rfl, hP1, hD1⟩ := hB
      obtain ⟨hP, hD⟩ := J _ hP1 hD1
      have hP : va_P D cl0 [(a0, .inr (8, [.int 2, .int 3, .int (-1084965762), .int 0, .int 0, .int 0, .ref a1, .ref a2, .int 0, .int 0, .ref a3, .ref a4, .ref a5, .ref a6, .ref a7, .ref a8, .ref a9, .int 0, .int 0, .int 0, .ref a10, .ref a11, .ref a12, .ref a13, .int 0, .int 0, .ref a14, .ref a15, .ref a16, .ref a17, .int 0, .int 0, .ref a18, .ref a19, .ref a20, .ref a21])), (a3, .inl (k 1, 9, .inr (.inl (tL [1, (-2), 0, 0, 1, 0, 0, 0, 0] 0)))), (a1, .inl (k 0, 36, .inl (tI [(-1), 0, 0, 0, 1, 0, 0, 0, 0, 1, 0, 0, 0, (-1), 0, 0, 0, 0, 1, (-2), 0, 0, 1, 0, 0, 0, 0] 0)))] H := hP
      have hD : va_D A [(a0, .inr (8, [.int 2, .int 3, .int (-1084965762), .int 0, .int 0, .int 0, .ref a1, .ref a2, .int 0, .int 0, .ref a3, .ref a4, .ref a5, .ref a6, .ref a7, .ref a8, .ref a9, .int 0, .int 0, .int 0, .ref a10, .ref a11, .ref a12, .ref a13, .int 0, .int 0, .ref a14, .ref a15, .ref a16, .ref a17, .int 0, .int 0, .ref a18, .ref a19, .ref a20, .ref a21])), (a3, .inl (k 1, 9, .inr (.inl (tL [1, (-2), 0, 0, 1, 0, 0, 0, 0] 0)))), (a1, .inl (k 0, 36, .inl (tI [(-1), 0, 0, 0, 1, 0, 0, 0, 0, 1, 0, 0, 0, (-1), 0, 0, 0, 0, 1, (-2), 0, 0, 1, 0, 0, 0, 0] 0)))] := hD
      refine lv_istore (lv' := [(6, .int 2), (5, .int (-2)), (4, .int 1), (3, .int 0), (2, .int 2), (0, .ref a0), (1, .int 4)]) hx hb dX11_lot_80 hl (by decide) rfl (fun ls hl => ?_)
      refine lv_iload_n hx hb dX11_lot_82 rfl (lv_at hl 4 rfl) ?_
      refine lv_iload hx hb dX11_lot_83 (lv_at hl 0 rfl) ?_
      refine lv_if_lt (tgt := 92) hx hb dX11_lot_85 (by decide) (fun cc => absurd cc (by decide +kernel)) (fun _ => ?_)
      refine lv_iconst (v := 1) hx hb dX11_lot_88 (by decide) ?_
      refine lv_goto (tgt := 93) hx hb dX11_lot_89 (by decide) ?_
      refine lv_iadd hx hb dX11_lot_93 (sv_i (v := 3) (by decide +kernel) ?_)
      refine lv_istore_n (lv' := [(2, .int 3), (6, .int 2), (5, .int (-2)), (4, .int 1), (3, .int 0), (0, .ref a0), (1, .int 4)]) hx hb dX11_lot_94 rfl hl (by decide) rfl (fun ls hl => ?_)
      refine lv_goto (tgt := 16) hx hb dX11_lot_95 (by decide) ?_
      refine lv_iload_n hx hb dX11_lot_16 rfl (lv_at hl 0 rfl) ?_
      refine lv_iload_n hx hb dX11_lot_17 rfl (lv_at hl 6 rfl) ?_
      refine lv_icmp_ge (tgt := 98) hx hb dX11_lot_18 (by decide) (fun cc => absurd cc (by decide +kernel)) (fun _ => ?_)
      refine lv_aload_n hx hb dX11_lot_21 rfl (lv_at hl 5 rfl) ?_
      refine va_get (D := D) (ci := 8) (v := .int 3) (C := RX11) (T := TX11) (N := 36) hx hb hU iX11 hown hK.1 hP 0 rfl rfl 1 (by decide) (hU _ w786) (fun _ h9 => h9) rfl dX11_lot_22 ?_
      refine lv_iconst (v := 4) hx hb dX11_lot_25 (by decide) ?_
      refine lv_icmp_ge (tgt := 98) hx hb dX11_lot_26 (by decide) (fun cc => absurd cc (by decide +kernel)) (fun _ => ?_)
      refine lv_aload_n hx hb dX11_lot_29 rfl (lv_at hl 5 rfl) ?_
      refine lv_aload_n hx hb dX11_lot_30 rfl (lv_at hl 5 rfl) ?_
      refine va_get (D := D) (ci := 8) (v := .int 2) (C := RX11) (T := TX11) (N := 36) hx hb hU iX11 hown hK.1 hP 0 rfl rfl 0 (by decide) (hU _ w785) (fun _ h9 => h9) rfl dX11_lot_31 ?_
      refine cI (rV (q0 := 0) (ci := 8) (As := [.int 2]) (rest := []) (wc := [(a0, .inr (8, [.int 2, .int 3, .int (-1084965762), .int 0, .int 0, .int 0, .ref a1, .ref a2, .int 0, .int 0, .ref a3, .ref a4, .ref a5, .ref a6, .ref a7, .ref a8, .ref a9, .int 0, .int 0, .int 0, .ref a10, .ref a11, .ref a12, .ref a13, .int 0, .int 0, .ref a14, .ref a15, .ref a16, .ref a17, .int 0, .int 0, .ref a18, .ref a19, .ref a20, .ref a21]))]) hx hb hml hown hU hK hP hD rfl rfl [0] rfl (by decide) (cX11_drawn_10 l D k _ a0 a1 a2 a3 a4 a5 a6 a7 a8 a9 a10 a11 a12 a13 a14 a15 a16 a17 a18 a19 a20 a21) w1177 w1174 w1176 w60 w72 hdX11_drawn ⟨rfl, rfl⟩ ⟨Nat.le_of_ble_eq_true rfl, Nat.le_of_ble_eq_true rfl⟩ rfl hl.1 (Nat.le_of_ble_eq_true rfl) dX11_lot_34 ⟨Nat.le_of_ble_eq_true rfl, Nat.le_of_ble_eq_true rfl⟩) hP hD hS hA (wr := [(a3, .inl (k 1, 9, .inr (.inl (tL [1, (-2), 0, 0, 1, 0, 0, 0, 0] 0)))), (a1, .inl (k 0, 36, .inl (tI [(-1), 0, 0, 0, 1, 0, 0, 0, 0, 1, 0, 0, 0, (-1), 0, 0, 0, 0, 1, (-2), 0, 0, 1, 0, 0, 0, 0] 0)))]) [0] [1, 2] rfl rfl (by decide) (by decide) (fun r52 H locs hB J hS => ?_)
      obtain ⟨rfl, hP1, hD1⟩ := hB
      obtain ⟨hP, hD⟩ := J _ hP1 hD1
      have hP : va_P D cl0 [(a3, .inl (k 1, 9, .inr (.inl (tL [1, (-2), 0, 0, 1, 0, 0, 0, 0] 0)))), (a1, .inl (k 0, 36, .inl (tI [(-1), 0, 0, 0, 1, 0, 0, 0, 0, 1, 0, 0, 0, (-1), 0, 0, 0, 0, 1, (-2), 0, 0, 1, 0, 0, 0, 0] 0))), (a0, .inr (8, [.int 2, .int 3, .int 267834847, .int 0, .int 0, .int 0, .ref a1, .ref a2, .int 0, .int 0, .ref a3, .ref a4, .ref a5, .ref a6, .ref a7, .ref a8, .ref a9, .int 0, .int 0, .int 0, .ref a10, .ref a11, .ref a12, .ref a13, .int 0, .int 0, .ref a14, .ref a15, .ref a16, .ref a17, .int 0, .int 0, .ref a18, .ref a19, .ref a20, .ref a21]))] H := hP
      have hD : va_D A [(a3, .inl (k 1, 9, .inr (.inl (tL [1, (-2), 0, 0, 1, 0, 0, 0, 0] 0)))), (a1, .inl (k 0, 36, .inl (tI [(-1), 0, 0, 0, 1, 0, 0, 0, 0, 1, 0, 0, 0, (-1), 0, 0, 0, 0, 1, (-2), 0, 0, 1, 0, 0, 0, 0] 0))), (a0, .inr (8, [.int 2, .int 3, .int 267834847, .int 0, .int 0, .int 0, .ref a1, .ref a2, .int 0, .int 0, .ref a3, .ref a4, .ref a5, .ref a6, .ref a7, .ref a8, .ref a9, .int 0, .int 0, .int 0, .ref a10, .ref a11, .ref a12, .ref a13, .int 0, .int 0, .ref a14, .ref a15, .ref a16, .ref a17, .int 0, .int 0, .ref a18, .ref a19, .ref a20, .ref a21]))] := hD
      refine lv_istore_n (lv' := [(3, .int 0), (2, .int 3), (6, .int 2), (5, .int (-2)), (4, .int 1), (0, .ref a0), (1, .int 4)]) hx hb dX11_lot_37 rfl hl (by decide) rfl (fun ls hl => ?_)
      refine lv_aload_n hx hb dX11_lot_38 rfl (lv_at hl 5 rfl) ?_
      refine lv_aload_n hx hb dX11_lot_39 rfl (lv_at hl 5 rfl) ?_
      refine va_get (D := D) (ci := 8) (v := .int 2) (C := RX11) (T := TX11) (N := 36) hx hb hU iX11 hown hK.1 hP 2 rfl rfl 0 (by decide) (hU _ w785) (fun _ h9 => h9) rfl dX11_lot_40 ?_
      refine cI (rV (q0 := 2) (ci := 8) (As := [.int 2]) (rest := []) (wc := [(a0, .inr (8, [.int 2, .int 3, .int 267834847, .int 0, .int 0, .int 0, .ref a1, .ref a2, .int 0, .int 0, .ref a3, .ref a4, .ref a5, .ref a6, .ref a7, .ref a8, .ref a9, .int 0, .int 0, .int 0, .ref a10, .ref a11, .ref a12, .ref a13, .int 0, .int 0, .ref a14, .ref a15, .ref a16, .ref a17, .int 0, .int 0, .ref a18, .ref a19, .ref a20, .ref a21]))]) hx hb hml hown hU hK hP hD rfl rfl [2] rfl (by decide) (cX11_drawn_11 l D k _ a0 a1 a2 a3 a4 a5 a6 a7 a8 a9 a10 a11 a12 a13 a14 a15 a16 a17 a18 a19 a20 a21) w1177 w1174 w1176 w60 w72 hdX11_drawn ⟨rfl, rfl⟩ ⟨Nat.le_of_ble_eq_true rfl, Nat.le_of_ble_eq_true rfl⟩ rfl hl.1 (Nat.le_of_ble_eq_true rfl) dX11_lot_43 ⟨Nat.le_of_ble_eq_true rfl, Nat.le_of_ble_eq_true rfl⟩) hP hD hS hA (wr := [(a3, .inl (k 1, 9, .inr (.inl (tL [1, (-2), 0, 0, 1, 0, 0, 0, 0] 0)))), (a1, .inl (k 0, 36, .inl (tI [(-1), 0, 0, 0, 1, 0, 0, 0, 0, 1, 0, 0, 0, (-1), 0, 0, 0, 0, 1, (-2), 0, 0, 1, 0, 0, 0, 0] 0)))]) [2] [0, 1] rfl rfl (by decide) (by decide) (fun r53 H locs hB J hS => ?_)
      obtain ⟨rfl, hP1, hD1⟩ := hB
      obtain ⟨hP, hD⟩ := J _ hP1 hD1
      have hP : va_P D cl0 [(a3, .inl (k 1, 9, .inr (.inl (tL [1, (-2), 0, 0, 1, 0, 0, 0, 0] 0)))), (a1, .inl (k 0, 36, .inl (tI [(-1), 0, 0, 0, 1, 0, 0, 0, 0, 1, 0, 0, 0, (-1), 0, 0, 0, 0, 1, (-2), 0, 0, 1, 0, 0, 0, 0] 0))), (a0, .inr (8, [.int 2, .int 3, .int 180171308, .int 0, .int 0, .int 0, .ref a1, .ref a2, .int 0, .int 0, .ref a3, .ref a4, .ref a5, .ref a6, .ref a7, .ref a8, .ref a9, .int 0, .int 0, .int 0, .ref a10, .ref a11, .ref a12, .ref a13, .int 0, .int 0, .ref a14, .ref a15, .ref a16, .ref a17, .int 0, .int 0, .ref a18, .ref a19, .ref a20, .ref a21]))] H := hP
      have hD : va_D A [(a3, .inl (k 1, 9, .inr (.inl (tL [1, (-2), 0, 0, 1, 0, 0, 0, 0] 0)))), (a1, .inl (k 0, 36, .inl (tI [(-1), 0, 0, 0, 1, 0, 0, 0, 0, 1, 0, 0, 0, (-1), 0, 0, 0, 0, 1, (-2), 0, 0, 1, 0, 0, 0, 0] 0))), (a0, .inr (8, [.int 2, .int 3, .int 180171308, .int 0, .int 0, .int 0, .ref a1, .ref a2, .int 0, .int 0, .ref a3, .ref a4, .ref a5, .ref a6, .ref a7, .ref a8, .ref a9, .int 0, .int 0, .int 0, .ref a10, .ref a11, .ref a12, .ref a13, .int 0, .int 0, .ref a14, .ref a15, .ref a16, .ref a17, .int 0, .int 0, .ref a18, .ref a19, .ref a20, .ref a21]))] := hD
      refine lv_istore (lv' := [(4, .int 1), (3, .int 0), (2, .int 3), (6, .int 2), (5, .int (-2)), (0, .ref a0), (1, .int 4)]) hx hb dX11_lot_46 hl (by decide) rfl (fun ls hl => ?_)
      refine lv_aload_n hx hb dX11_lot_48 rfl (lv_at hl 5 rfl) ?_
      refine lv_iconst (v := 5) hx hb dX11_lot_49 (by decide) ?_
      refine cI (rV (q0 := 2) (ci := 8) (As := [.int 5]) (rest := []) (wc := [(a0, .inr (8, [.int 2, .int 3, .int 180171308, .int 0, .int 0, .int 0, .ref a1, .ref a2, .int 0, .int 0, .ref a3, .ref a4, .ref a5, .ref a6, .ref a7, .ref a8, .ref a9, .int 0, .int 0, .int 0, .ref a10, .ref a11, .ref a12, .ref a13, .int 0, .int 0, .ref a14, .ref a15, .ref a16, .ref a17, .int 0, .int 0, .ref a18, .ref a19, .ref a20, .ref a21]))]) hx hb hml hown hU hK hP hD rfl rfl [2] rfl (by decide) (cX11_drawn_12 l D k _ a0 a1 a2 a3 a4 a5 a6 a7 a8 a9 a10 a11 a12 a13 a14 a15 a16 a17 a18 a19 a20 a21) w1177 w1174 w1176 w60 w72 hdX11_drawn ⟨rfl, rfl⟩ ⟨Nat.le_of_ble_eq_true rfl, Nat.le_of_ble_eq_true rfl⟩ rfl hl.1 (Nat.le_of_ble_eq_true rfl) dX11_lot_50 ⟨Nat.le_of_ble_eq_true rfl, Nat.le_of_ble_eq_true rfl⟩) hP hD hS hA (wr := [(a3, .inl (k 1, 9, .inr (.inl (tL [1, (-2), 0, 0, 1, 0, 0, 0, 0] 0)))), (a1, .inl (k 0, 36, .inl (tI [(-1), 0, 0, 0, 1, 0, 0, 0, 0, 1, 0, 0, 0, (-1), 0, 0, 0, 0, 1, (-2), 0, 0, 1, 0, 0, 0, 0] 0)))]) [2] [0, 1] rfl rfl (by decide) (by decide) (fun r54 H locs hB J hS => ?_)
      obtain ⟨rfl, hP1, hD1⟩ := hB
      obtain ⟨hP, hD⟩ := J _ hP1 hD1
      have hP : va_P D cl0 [(a3, .inl (k 1, 9, .inr (.inl (tL [1, (-2), 0, 0, 1, 0, 0, 0, 0] 0)))), (a1, .inl (k 0, 36, .inl (tI [(-1), 0, 0, 0, 1, 0, 0, 0, 0, 1, 0, 0, 0, (-1), 0, 0, 0, 0, 1, (-2), 0, 0, 1, 0, 0, 0, 0] 0))), (a0, .inr (8, [.int 2, .int 3, .int 836760821, .int 0, .int 0, .int 0, .ref a1, .ref a2, .int 0, .int 0, .ref a3, .ref a4, .ref a5, .ref a6, .ref a7, .ref a8, .ref a9, .int 0, .int 0, .int 0, .ref a10, .ref a11, .ref a12, .ref a13, .int 0, .int 0, .ref a14, .ref a15, .ref a16, .ref a17, .int 0, .int 0, .ref a18, .ref a19, .ref a20, .ref a21]))] H := hP
      have hD : va_D A [(a3, .inl (k 1, 9, .inr (.inl (tL [1, (-2), 0, 0, 1, 0, 0, 0, 0] 0)))), (a1, .inl (k 0, 36, .inl (tI [(-1), 0, 0, 0, 1, 0, 0, 0, 0, 1, 0, 0, 0, (-1), 0, 0, 0, 0, 1, (-2), 0, 0, 1, 0, 0, 0, 0] 0))), (a0, .inr (8, [.int 2, .int 3, .int 836760821, .int 0, .int 0, .int 0, .ref a1, .ref a2, .int 0, .int 0, .ref a3, .ref a4, .ref a5, .ref a6, .ref a7, .ref a8, .ref a9, .int 0, .int 0, .int 0, .ref a10, .ref a11, .ref a12, .ref a13, .int 0, .int 0, .ref a14, .ref a15, .ref a16, .ref a17, .int 0, .int 0, .ref a18, .ref a19, .ref a20, .ref a21]))] := hD
      refine lv_iconst (v := 2) hx hb dX11_lot_53 (by decide) ?_
      refine lv_isub hx hb dX11_lot_54 (sv_i (v := 0) (by decide +kernel) ?_)
      refine lv_istore (lv' := [(5, .int 0), (4, .int 1), (3, .int 0), (2, .int 3), (6, .int 2), (0, .ref a0), (1, .int 4)]) hx hb dX11_lot_55 hl (by decide) rfl (fun ls hl => ?_)
      refine lv_aload_n hx hb dX11_lot_57 rfl (lv_at hl 5 rfl) ?_
      refine lv_iload_n hx hb dX11_lot_58 rfl (lv_at hl 2 rfl) ?_
      refine lv_iload hx hb dX11_lot_59 (lv_at hl 1 rfl) ?_
      refine lv_iload_n hx hb dX11_lot_61 rfl (lv_at hl 2 rfl) ?_
      refine lv_iload hx hb dX11_lot_62 (lv_at hl 1 rfl) ?_
      refine lv_icmp_ne (tgt := 71) hx hb dX11_lot_64 (by decide) (fun _ => ?_) (fun cc => absurd cc (by decide +kernel))
      refine lv_iload hx hb dX11_lot_71 (lv_at hl 0 rfl) ?_
      refine cV (rV (q0 := 2) (ci := 8) (As := [.int 0, .int 1, .int 0]) (rest := []) (wc := [(a0, .inr (8, [.int 2, .int 3, .int 836760821, .int 0, .int 0, .int 0, .ref a1, .ref a2, .int 0, .int 0, .ref a3, .ref a4, .ref a5, .ref a6, .ref a7, .ref a8, .ref a9, .int 0, .int 0, .int 0, .ref a10, .ref a11, .ref a12, .ref a13, .int 0, .int 0, .ref a14, .ref a15, .ref a16, .ref a17, .int 0, .int 0, .ref a18, .ref a19, .ref a20, .ref a21])), (a3, .inl (k 1, 9, .inr (.inl (tL [1, (-2), 0, 0, 1, 0, 0, 0, 0] 0))))]) hx hb hml hown hU hK hP hD rfl rfl [2, 0] rfl (by decide) (cX11_makesUnit_10 l D k _ a0 a3 a1 a2 a4 a5 a6 a7 a8 a9 a10 a11 a12 a13 a14 a15 a16 a17 a18 a19 a20 a21) w915 w912 w914 w27 w72 hdX11_makesUnit ⟨rfl, rfl⟩ ⟨Nat.le_of_ble_eq_true rfl, Nat.le_of_ble_eq_true rfl⟩ rfl hl.1 (Nat.le_of_ble_eq_true rfl) dX11_lot_73 ⟨Nat.le_of_ble_eq_true rfl, Nat.le_of_ble_eq_true rfl⟩) hP hD hS hA (wr := [(a1, .inl (k 0, 36, .inl (tI [(-1), 0, 0, 0, 1, 0, 0, 0, 0, 1, 0, 0, 0, (-1), 0, 0, 0, 0, 1, (-2), 0, 0, 1, 0, 0, 0, 0] 0)))]) [2, 0] [1] rfl rfl (by decide) (by decide) (fun H locs hB J hS => ?_)
      obtain ⟨hP1, hD1⟩ := hB
      obtain ⟨hP, hD⟩ := J _ hP1 hD1
      have hP : va_P D cl0 [(a1, .inl (k 0, 36, .inl (tI [(-1), 0, 0, 0, 1, 0, 0, 0, 0, 1, 0, 0, 0, (-1), 0, 0, 0, 0, 1, (-2), 0, 0, 1, 0, 0, 0, 0] 0))), (a0, .inr (8, [.int 2, .int 3, .int 836760821, .int 0, .int 0, .int 0, .ref a1, .ref a2, .int 0, .int 0, .ref a3, .ref a4, .ref a5, .ref a6, .ref a7, .ref a8, .ref a9, .int 0, .int 0, .int 0, .ref a10, .ref a11, .ref a12, .ref a13, .int 0, .int 0, .ref a14, .ref a15, .ref a16, .ref a17, .int 0, .int 0, .ref a18, .ref a19, .ref a20, .ref a21])), (a3, .inl (k 1, 9, .inr (.inl (tL [1, 0, 0, 0, 1, 0, 0, 0, 0] 0))))] H := hP
      have hD : va_D A [(a1, .inl (k 0, 36, .inl (tI [(-1), 0, 0, 0, 1, 0, 0, 0, 0, 1, 0, 0, 0, (-1), 0, 0, 0, 0, 1, (-2), 0, 0, 1, 0, 0, 0, 0] 0))), (a0, .inr (8, [.int 2, .int 3, .int 836760821, .int 0, .int 0, .int 0, .ref a1, .ref a2, .int 0, .int 0, .ref a3, .ref a4, .ref a5, .ref a6, .ref a7, .ref a8, .ref a9, .int 0, .int 0, .int 0, .ref a10, .ref a11, .ref a12, .ref a13, .int 0, .int 0, .ref a14, .ref a15, .ref a16, .ref a17, .int 0, .int 0, .ref a18, .ref a19, .ref a20, .ref a21])), (a3, .inl (k 1, 9, .inr (.inl (tL [1, 0, 0, 0, 1, 0, 0, 0, 0] 0))))] := hD
      refine lv_aload_n hx hb dX11_lot_76 rfl (lv_at hl 5 rfl) ?_
      refine cI (rV (q0 := 1) (ci := 8) (As := []) (rest := []) (wc := [(a0, .inr (8, [.int 2, .int 3, .int 836760821, .int 0, .int 0, .int 0, .ref a1, .ref a2, .int 0, .int 0, .ref a3, .ref a4, .ref a5, .ref a6, .ref a7, .ref a8, .ref a9, .int 0, .int 0, .int 0, .ref a10, .ref a11, .ref a12, .ref a13, .int 0, .int 0, .ref a14, .ref a15, .ref a16, .ref a17, .int 0, .int 0, .ref a18, .ref a19, .ref a20, .ref a21])), (a3, .inl (k 1, 9, .inr (.inl (tL [1, 0, 0, 0, 1, 0, 0, 0, 0] 0)))), (a1, .inl (k 0, 36, .inl (tI [(-1), 0, 0, 0, 1, 0, 0, 0, 0, 1, 0, 0, 0, (-1), 0, 0, 0, 0, 1, (-2), 0, 0, 1, 0, 0, 0, 0] 0)))]) hx hb hml hown hU hK hP hD rfl rfl [1, 2, 0] rfl (by decide) (cX11_comes_9 l D k _ a0 a3 a1 a2 a4 a5 a6 a7 a8 a9 a10 a11 a12 a13 a14 a15 a16 a17 a18 a19 a20 a21) w927 w924 w926 w30 w72 hdX11_comes ⟨rfl, rfl⟩ ⟨Nat.le_of_ble_eq_true rfl, Nat.le_of_ble_eq_true rfl⟩ rfl hl.1 (Nat.le_of_ble_eq_true rfl) dX11_lot_77 ⟨Nat.le_of_ble_eq_true rfl, Nat.le_of_ble_eq_true rfl⟩) hP hD hS hA (wr := []) [1, 2, 0] [] rfl rfl (by decide) (by decide) (fun r56 H locs hB J hS => ?_)
      obtain ⟨rfl, hP1, hD1⟩ := hB
      obtain ⟨hP, hD⟩ := J _ hP1 hD1
      have hP : va_P D cl0 [(a0, .inr (8, [.int 2, .int 4, .int 836760821, .int 0, .int 0, .int 0, .ref a1, .ref a2, .int 0, .int 0, .ref a3, .ref a4, .ref a5, .ref a6, .ref a7, .ref a8, .ref a9, .int 0, .int 0, .int 0, .ref a10, .ref a11, .ref a12, .ref a13, .int 0, .int 0, .ref a14, .ref a15, .ref a16, .ref a17, .int 0, .int 0, .ref a18, .ref a19, .ref a20, .ref a21])), (a3, .inl (k 1, 9, .inr (.inl (tL [1, 0, 0, 0, 1, 0, 0, 0, 0] 0)))), (a1, .inl (k 0, 36, .inl (tI [(-1), 0, 0, 0, 1, 0, 0, 0, 0, 1, 0, 0, 0, (-1), 0, 0, 0, 0, 1, (-2), 0, 0, 1, 0, 0, 0, 0, 1, 0, 0, 0, 1, 0, 0, 0, 0] 0)))] H := hP
      have hD : va_D A [(a0, .inr (8, [.int 2, .int 4, .int 836760821, .int 0, .int 0, .int 0, .ref a1, .ref a2, .int 0, .int 0, .ref a3, .ref a4, .ref a5, .ref a6, .ref a7, .ref a8, .ref a9, .int 0, .int 0, .int 0, .ref a10, .ref a11, .ref a12, .ref a13, .int 0, .int 0, .ref a14, .ref a15, .ref a16, .ref a17, .int 0, .int 0, .ref a18, .ref a19, .ref a20, .ref a21])), (a3, .inl (k 1, 9, .inr (.inl (tL [1, 0, 0, 0, 1, 0, 0, 0, 0] 0)))), (a1, .inl (k 0, 36, .inl (tI [(-1), 0, 0, 0, 1, 0, 0, 0, 0, 1, 0, 0, 0, (-1), 0, 0, 0, 0, 1, (-2), 0, 0, 1, 0, 0, 0, 0, 1, 0, 0, 0, 1, 0, 0, 0, 0] 0)))] := hD
      refine lv_istore (lv' := [(6, .int 3), (5, .int 0), (4, .int 1), (3, .int 0), (2, .int 3), (0, .ref a0), (1, .int 4)]) hx hb dX11_lot_80 hl (by decide) rfl (fun ls hl => ?_)
      refine lv_iload_n hx hb dX11_lot_82 rfl (lv_at hl 4 rfl) ?_
      refine lv_iload hx hb dX11_lot_83 (lv_at hl 0 rfl) ?_
      refine lv_if_lt (tgt := 92) hx hb dX11_lot_85 (by decide) (fun cc => absurd cc (by decide +kernel)) (fun _ => ?_)
      refine lv_iconst (v := 1) hx hb dX11_lot_88 (by decide) ?_
      refine lv_goto (tgt := 93) hx hb dX11_lot_89 (by decide) ?_
      refine lv_iadd hx hb dX11_lot_93 (sv_i (v := 4) (by decide +kernel) ?_)
      refine lv_istore_n (lv' := [(2, .int 4), (6, .int 3), (5, .int 0), (4, .int 1), (3, .int 0), (0, .ref a0), (1, .int 4)]) hx hb dX11_lot_94 rfl hl (by decide) rfl (fun ls hl => ?_)
      refine lv_goto (tgt := 16) hx hb dX11_lot_95 (by decide) ?_
      refine lv_iload_n hx hb dX11_lot_16 rfl (lv_at hl 0 rfl) ?_
      refine lv_iload_n hx hb dX11_lot_17 rfl (lv_at hl 6 rfl) ?_
      refine lv_icmp_ge (tgt := 98) hx hb dX11_lot_18 (by decide) (fun _ => ?_) (fun cc => absurd (by decide +kernel) cc)
      refine lv_iload_n hx hb dX11_lot_98 rfl (lv_at hl 0 rfl) ?_
      exact retI (v := 4) hx hb hr hlocks hS (show (4 : Int32) = F_lot 4 by first | decide +kernel | (have g_4 : (4 : Int32).toInt = 4 := (by decide +kernel); unfold F_lot; (repeat (first | rw [if_pos (by omega)] | rw [if_neg (by omega)])))) dX11_lot_99
