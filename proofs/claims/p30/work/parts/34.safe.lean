abbrev Rm_cX11_cut_e8fb2 : Room := { frames := 0, cells := 0, slots := 0, locals := 0 }
abbrev B_cX11_cut_e8fb2 (D : va_G) (k : Nat → ClassId) (x0 : Int32) (x1 : Int64) (A : Nat → Prop) (r : Int64) (H : Heap) : Prop := TP D A [] H
set_option maxHeartbeats 4000000 in
set_option maxRecDepth 100000 in
theorem cX11_cut_e8fb2 (l : Launch) (D : va_G) (k : Nat → ClassId) (sz : Nat) (x0 : Int32) (x1 : Int64) (b_x0 : 0 ≤ x0.toInt ∧ x0.toInt ≤ 2) : Met l yX11_cut (Cond.code yX11_cut cX11_cut 3 (some .long) :: uw) Rm_cX11_cut_e8fb2 (pT D k sz [.int x0, .long x1] []) (qL (B_cX11_cut_e8fb2 D k x0 x1 (zA [] sz)) (zA [] sz)) 0 0 (zA [] sz) := by
  refine tz_begin (as := []) (Qc := fun A => qL (B_cX11_cut_e8fb2 D k x0 x1 A) A) (by decide +kernel) rfl (Nat.le_of_ble_eq_true rfl) ?_
  intro p e s m args below meth c ls A Q hx hb hr hml hown hlocks hin hU hK hT hS hA hl hQ
  have hl : lv_has ls 3 [(0, .int x0), (1, .long x1)] := hl
  have hT : TP D A [] s.heap := hT
  refine lv_iload_n hx hb dX11_cut_0 rfl (lv_at hl 0 rfl) ?_
  refine lv_if_ne (tgt := 10) hx hb dX11_cut_1 (by decide) (fun c_1 => ?_) (fun c_1 => ?_)
  · skip
    have c_1 := ni_ne c_1 rfl li_0
    refine lv_iload_n hx hb dX11_cut_10 rfl (lv_at hl 0 rfl) ?_
    refine lv_iconst (v := 2) hx hb dX11_cut_11 (by decide) ?_
    refine lv_icmp_ne (tgt := 22) hx hb dX11_cut_12 (by decide) (fun c_2 => ?_) (fun c_2 => ?_)
    · skip
      have c_2 := ni_ne c_2 rfl li_2
      refine lv_lload_n hx hb dX11_cut_22 rfl (lv_at hl 1 rfl) ?_
      exact tz_retL (B := B_cX11_cut_e8fb2 D k x0 x1) (v := x1) hQ hx hb hr hlocks hS (Nat.le_of_ble_eq_true rfl) (Nat.le_of_ble_eq_true rfl) dX11_cut_23 (hT)
    · skip
      have c_2 := ni_eq c_2 rfl li_2
      refine lv_lload_n hx hb dX11_cut_15 rfl (lv_at hl 1 rfl) ?_
      refine lv_l2i hx hb dX11_cut_16 rfl (lv_topi (fun v3 _ => ?_))
      refine lv_i2s hx hb dX11_cut_17 rfl (lv_topi (fun v4 _ => ?_))
      obtain ⟨v5, e_v5⟩ : ∃ x : Int64, v4.toInt64 = x := ⟨_, rfl⟩
      refine lv_i2l (v := v5) hx hb dX11_cut_18 e_v5 ?_
      have e_v5 := ai_i2l e_v5 rfl
      refine lv_goto (tgt := 23) hx hb dX11_cut_19 (by decide) ?_
      exact tz_retL (B := B_cX11_cut_e8fb2 D k x0 x1) (v := v5) hQ hx hb hr hlocks hS (Nat.le_of_ble_eq_true rfl) (Nat.le_of_ble_eq_true rfl) dX11_cut_23 (hT)
  · skip
    have c_1 := ni_eq c_1 rfl li_0
    refine lv_lload_n hx hb dX11_cut_4 rfl (lv_at hl 1 rfl) ?_
    refine lv_l2i hx hb dX11_cut_5 rfl (lv_topi (fun v6 _ => ?_))
    obtain ⟨v7, e_v7⟩ : ∃ x : Int64, v6.toInt64 = x := ⟨_, rfl⟩
    refine lv_i2l (v := v7) hx hb dX11_cut_6 e_v7 ?_
    have e_v7 := ai_i2l e_v7 rfl
    refine lv_goto (tgt := 23) hx hb dX11_cut_7 (by decide) ?_
    exact tz_retL (B := B_cX11_cut_e8fb2 D k x0 x1) (v := v7) hQ hx hb hr hlocks hS (Nat.le_of_ble_eq_true rfl) (Nat.le_of_ble_eq_true rfl) dX11_cut_23 (hT)
abbrev Rm_cX11_put_a6099 : Room := { frames := 2, cells := 0, slots := 0, locals := 45 }
abbrev B_cX11_put_a6099 (D : va_G) (k : Nat → ClassId) (h0 h18 h19 h20 h1 h2 h3 h4 h5 h6 h7 h8 h9 h10 h11 h12 h13 h14 h15 h16 h17 h21 : Nat) (x1 : Int32) (x2 : Int32) (x3 : Int64) (h0f0 : Int32) (h0f1 : Int32) (h0f2 : Int32) (h0f3 : Int32) (h0f4 : Int32) (h0f5 : Int32) (h0f8 : Int32) (h0f9 : Int32) (h0f17 : Int32) (h0f18 : Int32) (h0f19 : Int32) (h0f24 : Int32) (h0f25 : Int32) (h0f30 : Int32) (h0f31 : Int32) (h18f0 : Int32) (h18f1 : Int32) (h18f2 : Int32) (h18f3 : Int32) (h19f0 : Int32) (h19f1 : Int32) (h19f2 : Int32) (h19f3 : Int32) (A : Nat → Prop) (r : Int32) (H : Heap) : Prop := ((-12) ≤ r.toInt ∧ r.toInt ≤ 1) ∧ (r.toInt = FPi x1.toInt x2.toInt (h18f0.toInt) (h18f1.toInt) (h18f2.toInt) (h18f3.toInt) (h19f0.toInt) (h19f1.toInt) (h19f2.toInt) (h19f3.toInt)) ∧ TP D A [(h0, ob 8 [.int h0f0, .int h0f1, .int h0f2, .int h0f3, .int h0f4, .int h0f5, .ref h1, .ref h2, .int h0f8, .int h0f9, .ref h3, .ref h4, .ref h5, .ref h6, .ref h7, .ref h8, .ref h9, .int h0f17, .int h0f18, .int h0f19, .ref h10, .ref h11, .ref h12, .ref h13, .int h0f24, .int h0f25, .ref h14, .ref h15, .ref h16, .ref h17, .int h0f30, .int h0f31, .ref h18, .ref h19, .ref h20, .ref h21]), (h18, aI (k 0) 4 (x4 h18f0 h18f1 h18f2 h18f3)), (h19, aI (k 0) 4 (x4 h19f0 h19f1 h19f2 h19f3)), (h20, aJ (k 1) 160 anJ)] H
set_option maxHeartbeats 4000000 in
set_option maxRecDepth 100000 in
theorem cX11_put_a6099 (l : Launch) (D : va_G) (k : Nat → ClassId) (sz : Nat) (h0 h18 h19 h20 h1 h2 h3 h4 h5 h6 h7 h8 h9 h10 h11 h12 h13 h14 h15 h16 h17 h21 : Nat) (x1 : Int32) (x2 : Int32) (x3 : Int64) (h0f0 : Int32) (h0f1 : Int32) (h0f2 : Int32) (h0f3 : Int32) (h0f4 : Int32) (h0f5 : Int32) (h0f8 : Int32) (h0f9 : Int32) (h0f17 : Int32) (h0f18 : Int32) (h0f19 : Int32) (h0f24 : Int32) (h0f25 : Int32) (h0f30 : Int32) (h0f31 : Int32) (h18f0 : Int32) (h18f1 : Int32) (h18f2 : Int32) (h18f3 : Int32) (h19f0 : Int32) (h19f1 : Int32) (h19f2 : Int32) (h19f3 : Int32) (b_h0f0 : 1 ≤ h0f0.toInt ∧ h0f0.toInt ≤ 3) (b_h0f1 : 0 ≤ h0f1.toInt ∧ h0f1.toInt ≤ 4) (b_h0f3 : 0 ≤ h0f3.toInt ∧ h0f3.toInt ≤ 3) (b_h0f4 : 0 ≤ h0f4.toInt ∧ h0f4.toInt ≤ 4) (b_h0f8 : 0 ≤ h0f8.toInt ∧ h0f8.toInt ≤ 1) (b_h0f9 : 0 ≤ h0f9.toInt ∧ h0f9.toInt ≤ 1) (b_h0f17 : 0 ≤ h0f17.toInt ∧ h0f17.toInt ≤ 120) (b_h0f18 : 0 ≤ h0f18.toInt ∧ h0f18.toInt ≤ 120) (b_h0f19 : 0 ≤ h0f19.toInt ∧ h0f19.toInt ≤ 4) (b_h0f24 : 0 ≤ h0f24.toInt ∧ h0f24.toInt ≤ 100) (b_h0f25 : 0 ≤ h0f25.toInt ∧ h0f25.toInt ≤ 1) (b_h0f30 : 0 ≤ h0f30.toInt ∧ h0f30.toInt ≤ 60) (b_h0f31 : 0 ≤ h0f31.toInt ∧ h0f31.toInt ≤ 1) (b_h18f0 : (-1) ≤ h18f0.toInt ∧ h18f0.toInt ≤ 2) (b_h18f1 : (-1) ≤ h18f1.toInt ∧ h18f1.toInt ≤ 2) (b_h18f2 : (-1) ≤ h18f2.toInt ∧ h18f2.toInt ≤ 2) (b_h18f3 : (-1) ≤ h18f3.toInt ∧ h18f3.toInt ≤ 2) (b_h19f0 : 0 ≤ h19f0.toInt ∧ h19f0.toInt ≤ 40) (b_h19f1 : 0 ≤ h19f1.toInt ∧ h19f1.toInt ≤ 40) (b_h19f2 : 0 ≤ h19f2.toInt ∧ h19f2.toInt ≤ 40) (b_h19f3 : 0 ≤ h19f3.toInt ∧ h19f3.toInt ≤ 40) (i_0 : h0f8.toInt ≤ h0f3.toInt) (i_1 : h0f9.toInt ≤ h0f24.toInt) : Met l yX11_put (Cond.code yX11_put cX11_put 5 (some .int) :: uw) Rm_cX11_put_a6099 (pT D k sz [.ref h0, .int x1, .int x2, .long x3] [(h0, ob 8 [.int h0f0, .int h0f1, .int h0f2, .int h0f3, .int h0f4, .int h0f5, .ref h1, .ref h2, .int h0f8, .int h0f9, .ref h3, .ref h4, .ref h5, .ref h6, .ref h7, .ref h8, .ref h9, .int h0f17, .int h0f18, .int h0f19, .ref h10, .ref h11, .ref h12, .ref h13, .int h0f24, .int h0f25, .ref h14, .ref h15, .ref h16, .ref h17, .int h0f30, .int h0f31, .ref h18, .ref h19, .ref h20, .ref h21]), (h18, aI (k 0) 4 (x4 h18f0 h18f1 h18f2 h18f3)), (h19, aI (k 0) 4 (x4 h19f0 h19f1 h19f2 h19f3)), (h20, aJ (k 1) 160 anJ)]) (qI (B_cX11_put_a6099 D k h0 h18 h19 h20 h1 h2 h3 h4 h5 h6 h7 h8 h9 h10 h11 h12 h13 h14 h15 h16 h17 h21 x1 x2 x3 h0f0 h0f1 h0f2 h0f3 h0f4 h0f5 h0f8 h0f9 h0f17 h0f18 h0f19 h0f24 h0f25 h0f30 h0f31 h18f0 h18f1 h18f2 h18f3 h19f0 h19f1 h19f2 h19f3 (zA [h0, h18, h19, h20] sz)) (zA [h0, h18, h19, h20] sz)) 0 0 (zA [h0, h18, h19, h20] sz) := by
  refine tz_begin (as := [h0, h18, h19, h20]) (Qc := fun A => qI (B_cX11_put_a6099 D k h0 h18 h19 h20 h1 h2 h3 h4 h5 h6 h7 h8 h9 h10 h11 h12 h13 h14 h15 h16 h17 h21 x1 x2 x3 h0f0 h0f1 h0f2 h0f3 h0f4 h0f5 h0f8 h0f9 h0f17 h0f18 h0f19 h0f24 h0f25 h0f30 h0f31 h18f0 h18f1 h18f2 h18f3 h19f0 h19f1 h19f2 h19f3 A) A) (by decide +kernel) rfl (Nat.le_of_ble_eq_true rfl) ?_
  intro p e s m args below meth c ls A Q hx hb hr hml hown hlocks hin hU hK hT hS hA hl hQ
  have hl : lv_has ls 5 [(0, .ref h0), (1, .int x1), (2, .int x2), (3, .long x3)] := hl
  have hT : TP D A [(h0, ob 8 [.int h0f0, .int h0f1, .int h0f2, .int h0f3, .int h0f4, .int h0f5, .ref h1, .ref h2, .int h0f8, .int h0f9, .ref h3, .ref h4, .ref h5, .ref h6, .ref h7, .ref h8, .ref h9, .int h0f17, .int h0f18, .int h0f19, .ref h10, .ref h11, .ref h12, .ref h13, .int h0f24, .int h0f25, .ref h14, .ref h15, .ref h16, .ref h17, .int h0f30, .int h0f31, .ref h18, .ref h19, .ref h20, .ref h21]), (h18, aI (k 0) 4 (x4 h18f0 h18f1 h18f2 h18f3)), (h19, aI (k 0) 4 (x4 h19f0 h19f1 h19f2 h19f3)), (h20, aJ (k 1) 160 anJ)] s.heap := hT
  refine lv_iload_n hx hb dX11_put_0 rfl (lv_at hl 1 rfl) ?_
  refine tcI (Tc := []) (Tr := [(h0, ob 8 [.int h0f0, .int h0f1, .int h0f2, .int h0f3, .int h0f4, .int h0f5, .ref h1, .ref h2, .int h0f8, .int h0f9, .ref h3, .ref h4, .ref h5, .ref h6, .ref h7, .ref h8, .ref h9, .int h0f17, .int h0f18, .int h0f19, .ref h10, .ref h11, .ref h12, .ref h13, .int h0f24, .int h0f25, .ref h14, .ref h15, .ref h16, .ref h17, .int h0f30, .int h0f31, .ref h18, .ref h19, .ref h20, .ref h21]), (h18, aI (k 0) 4 (x4 h18f0 h18f1 h18f2 h18f3)), (h19, aI (k 0) 4 (x4 h19f0 h19f1 h19f2 h19f3)), (h20, aJ (k 1) 160 anJ)]) (as := []) (zcS (As := [.int x1]) (rest := []) (Tc := []) hx hb hml hown hU hK hT [] rfl (by decide) (cX11_isSheet_ea237 l D k _ x1) w1101 w1099 w1100 w72 hdX11_isSheet ⟨rfl, rfl⟩ ⟨Nat.le_of_ble_eq_true rfl, Nat.le_of_ble_eq_true rfl⟩ rfl hl.1 (Nat.le_of_ble_eq_true rfl) dX11_put_1 ⟨Nat.le_of_ble_eq_true rfl, Nat.le_of_ble_eq_true rfl⟩) hT hS hA [] [0, 1, 2, 3] rfl rfl rfl (by decide) (by decide) (fun r1 H locs hB J hS => ?_)
  rcases hB with ⟨c_2, rfl, hT1⟩ | ⟨c_3, c_4, rfl, hT1⟩ | ⟨c_5, c_6, rfl, hT1⟩
  · skip
    have hT := J _ hT1
    have hT : TP D A [(h0, ob 8 [.int h0f0, .int h0f1, .int h0f2, .int h0f3, .int h0f4, .int h0f5, .ref h1, .ref h2, .int h0f8, .int h0f9, .ref h3, .ref h4, .ref h5, .ref h6, .ref h7, .ref h8, .ref h9, .int h0f17, .int h0f18, .int h0f19, .ref h10, .ref h11, .ref h12, .ref h13, .int h0f24, .int h0f25, .ref h14, .ref h15, .ref h16, .ref h17, .int h0f30, .int h0f31, .ref h18, .ref h19, .ref h20, .ref h21]), (h18, aI (k 0) 4 (x4 h18f0 h18f1 h18f2 h18f3)), (h19, aI (k 0) 4 (x4 h19f0 h19f1 h19f2 h19f3)), (h20, aJ (k 1) 160 anJ)] _ := hT
    refine lv_if_ne (tgt := 9) hx hb dX11_put_4 (by decide) (fun cc => absurd (by decide +kernel) cc) (fun _ => ?_)
    refine lv_iconst (v := (-1)) hx hb dX11_put_7 (by decide) ?_
    exact tz_retI (B := B_cX11_put_a6099 D k h0 h18 h19 h20 h1 h2 h3 h4 h5 h6 h7 h8 h9 h10 h11 h12 h13 h14 h15 h16 h17 h21 x1 x2 x3 h0f0 h0f1 h0f2 h0f3 h0f4 h0f5 h0f8 h0f9 h0f17 h0f18 h0f19 h0f24 h0f25 h0f30 h0f31 h18f0 h18f1 h18f2 h18f3 h19f0 h19f1 h19f2 h19f3) (v := (-1)) hQ hx hb hr hlocks hS (Nat.le_of_ble_eq_true rfl) (Nat.le_of_ble_eq_true rfl) dX11_put_8 (⟨(by have := li_m1; omega), (by have := li_m1; simp only [FPi, Frow]; (repeat' split) <;> omega), hT⟩)
  · skip
    have hT := J _ hT1
    have hT : TP D A [(h0, ob 8 [.int h0f0, .int h0f1, .int h0f2, .int h0f3, .int h0f4, .int h0f5, .ref h1, .ref h2, .int h0f8, .int h0f9, .ref h3, .ref h4, .ref h5, .ref h6, .ref h7, .ref h8, .ref h9, .int h0f17, .int h0f18, .int h0f19, .ref h10, .ref h11, .ref h12, .ref h13, .int h0f24, .int h0f25, .ref h14, .ref h15, .ref h16, .ref h17, .int h0f30, .int h0f31, .ref h18, .ref h19, .ref h20, .ref h21]), (h18, aI (k 0) 4 (x4 h18f0 h18f1 h18f2 h18f3)), (h19, aI (k 0) 4 (x4 h19f0 h19f1 h19f2 h19f3)), (h20, aJ (k 1) 160 anJ)] _ := hT
    refine lv_if_ne (tgt := 9) hx hb dX11_put_4 (by decide) (fun cc => absurd (by decide +kernel) cc) (fun _ => ?_)
    refine lv_iconst (v := (-1)) hx hb dX11_put_7 (by decide) ?_
    exact tz_retI (B := B_cX11_put_a6099 D k h0 h18 h19 h20 h1 h2 h3 h4 h5 h6 h7 h8 h9 h10 h11 h12 h13 h14 h15 h16 h17 h21 x1 x2 x3 h0f0 h0f1 h0f2 h0f3 h0f4 h0f5 h0f8 h0f9 h0f17 h0f18 h0f19 h0f24 h0f25 h0f30 h0f31 h18f0 h18f1 h18f2 h18f3 h19f0 h19f1 h19f2 h19f3) (v := (-1)) hQ hx hb hr hlocks hS (Nat.le_of_ble_eq_true rfl) (Nat.le_of_ble_eq_true rfl) dX11_put_8 (⟨(by have := li_m1; omega), (by have := li_m1; simp only [FPi, Frow]; (repeat' split) <;> omega), hT⟩)
  · skip
    have hT := J _ hT1
    have hT : TP D A [(h0, ob 8 [.int h0f0, .int h0f1, .int h0f2, .int h0f3, .int h0f4, .int h0f5, .ref h1, .ref h2, .int h0f8, .int h0f9, .ref h3, .ref h4, .ref h5, .ref h6, .ref h7, .ref h8, .ref h9, .int h0f17, .int h0f18, .int h0f19, .ref h10, .ref h11, .ref h12, .ref h13, .int h0f24, .int h0f25, .ref h14, .ref h15, .ref h16, .ref h17, .int h0f30, .int h0f31, .ref h18, .ref h19, .ref h20, .ref h21]), (h18, aI (k 0) 4 (x4 h18f0 h18f1 h18f2 h18f3)), (h19, aI (k 0) 4 (x4 h19f0 h19f1 h19f2 h19f3)), (h20, aJ (k 1) 160 anJ)] _ := hT
    refine lv_if_ne (tgt := 9) hx hb dX11_put_4 (by decide) (fun _ => ?_) (fun cc => absurd cc (by decide +kernel))
    refine lv_aload_n hx hb dX11_put_9 rfl (lv_at hl 0 rfl) ?_
    refine tz_get (ci := 8) (v := .ref h18) (C := RX11) (F := TX11) (N := 36) hx hb hU iX11 hown hK hT 0 rfl rfl 32 (by decide) w817 (fun _ h9 => h9) rfl dX11_put_10 ?_
    refine lv_iload_n hx hb dX11_put_13 rfl (lv_at hl 1 rfl) ?_
    rcases (show x1.toInt = 0 ∨ x1.toInt = 1 ∨ x1.toInt = 2 ∨ x1.toInt = 3 by omega) with hq7 | hq7 | hq7 | hq7
    · skip
      refine tz_iald hx hb hK hT 1 rfl (by omega) dX11_put_14 (fun v8 e_v8 => ?_)
      have e_v8 := x4_g0 e_v8 hq7
      subst e_v8
      refine lv_if_ge (tgt := 21) hx hb dX11_put_15 (by decide) (fun c_9 => ?_) (fun c_9 => ?_)
      · skip
        have c_9 := ni_le c_9 li_0 rfl
        refine lv_iload_n hx hb dX11_put_21 rfl (lv_at hl 2 rfl) ?_
        obtain ⟨v10, e_v10⟩ : ∃ x : Int64, x2.toInt64 = x := ⟨_, rfl⟩
        refine lv_i2l (v := v10) hx hb dX11_put_22 e_v10 ?_
        have e_v10 := ai_i2l e_v10 rfl
        refine lv_lconst (v := 0) hx hb dX11_put_23 (by decide) ?_
        refine lv_aload_n hx hb dX11_put_24 rfl (lv_at hl 0 rfl) ?_
        refine tz_get (ci := 8) (v := .ref h19) (C := RX11) (F := TX11) (N := 36) hx hb hU iX11 hown hK hT 0 rfl rfl 33 (by decide) w818 (fun _ h9 => h9) rfl dX11_put_25 ?_
        refine lv_iload_n hx hb dX11_put_28 rfl (lv_at hl 1 rfl) ?_
        refine tz_iald hx hb hK hT 2 rfl (by omega) dX11_put_29 (fun v11 e_v11 => ?_)
        have e_v11 := x4_g0 e_v11 hq7
        subst e_v11
        refine lv_iconst (v := 1) hx hb dX11_put_30 (by decide) ?_
        refine lv_isub hx hb dX11_put_31 (lv_topi (fun v12 e_v12 => ?_))
        have e_v12 := ai_sub e_v12 rfl li_1 (by omega)
        obtain ⟨v13, e_v13⟩ : ∃ x : Int64, v12.toInt64 = x := ⟨_, rfl⟩
        refine lv_i2l (v := v13) hx hb dX11_put_32 e_v13 ?_
        have e_v13 := ai_i2l e_v13 rfl
        have q_q15 := ll_0
        refine tcI (Tc := []) (Tr := [(h0, ob 8 [.int h0f0, .int h0f1, .int h0f2, .int h0f3, .int h0f4, .int h0f5, .ref h1, .ref h2, .int h0f8, .int h0f9, .ref h3, .ref h4, .ref h5, .ref h6, .ref h7, .ref h8, .ref h9, .int h0f17, .int h0f18, .int h0f19, .ref h10, .ref h11, .ref h12, .ref h13, .int h0f24, .int h0f25, .ref h14, .ref h15, .ref h16, .ref h17, .int h0f30, .int h0f31, .ref h18, .ref h19, .ref h20, .ref h21]), (h18, aI (k 0) 4 (x4 h18f0 h18f1 h18f2 h18f3)), (h19, aI (k 0) 4 (x4 h19f0 h19f1 h19f2 h19f3)), (h20, aJ (k 1) 160 anJ)]) (as := []) (zcS (As := [.long v10, .long 0, .long v13]) (rest := []) (Tc := []) hx hb hml hown hU hK hT [] rfl (by decide) (cX11_in_182ae l D k _ v10 (0) v13 (by have := ll_0; omega) (by omega)) w901 w899 w900 w72 hdX11_in ⟨rfl, rfl⟩ ⟨Nat.le_of_ble_eq_true rfl, Nat.le_of_ble_eq_true rfl⟩ rfl hl.1 (Nat.le_of_ble_eq_true rfl) dX11_put_33 ⟨Nat.le_of_ble_eq_true rfl, Nat.le_of_ble_eq_true rfl⟩) hT hS hA [] [0, 1, 2, 3] rfl rfl rfl (by decide) (by decide) (fun r14 H locs hB J hS => ?_)
        rcases hB with ⟨c_16, rfl, hT1⟩ | ⟨c_17, c_18, rfl, hT1⟩ | ⟨c_19, c_20, rfl, hT1⟩
        · skip
          have hT := J _ hT1
          have hT : TP D A [(h0, ob 8 [.int h0f0, .int h0f1, .int h0f2, .int h0f3, .int h0f4, .int h0f5, .ref h1, .ref h2, .int h0f8, .int h0f9, .ref h3, .ref h4, .ref h5, .ref h6, .ref h7, .ref h8, .ref h9, .int h0f17, .int h0f18, .int h0f19, .ref h10, .ref h11, .ref h12, .ref h13, .int h0f24, .int h0f25, .ref h14, .ref h15, .ref h16, .ref h17, .int h0f30, .int h0f31, .ref h18, .ref h19, .ref h20, .ref h21]), (h18, aI (k 0) 4 (x4 h18f0 h18f1 h18f2 h18f3)), (h19, aI (k 0) 4 (x4 h19f0 h19f1 h19f2 h19f3)), (h20, aJ (k 1) 160 anJ)] _ := hT
          refine lv_if_ne (tgt := 42) hx hb dX11_put_36 (by decide) (fun cc => absurd (by decide +kernel) cc) (fun _ => ?_)
          refine lv_bipush (v := (-12)) hx hb dX11_put_39 (by decide) ?_
          exact tz_retI (B := B_cX11_put_a6099 D k h0 h18 h19 h20 h1 h2 h3 h4 h5 h6 h7 h8 h9 h10 h11 h12 h13 h14 h15 h16 h17 h21 x1 x2 x3 h0f0 h0f1 h0f2 h0f3 h0f4 h0f5 h0f8 h0f9 h0f17 h0f18 h0f19 h0f24 h0f25 h0f30 h0f31 h18f0 h18f1 h18f2 h18f3 h19f0 h19f1 h19f2 h19f3) (v := (-12)) hQ hx hb hr hlocks hS (Nat.le_of_ble_eq_true rfl) (Nat.le_of_ble_eq_true rfl) dX11_put_41 (⟨(by have := li_m12; omega), (by have := li_m12; simp only [FPi, Frow]; (repeat' split) <;> omega), hT⟩)
        · skip
          have hT := J _ hT1
          have hT : TP D A [(h0, ob 8 [.int h0f0, .int h0f1, .int h0f2, .int h0f3, .int h0f4, .int h0f5, .ref h1, .ref h2, .int h0f8, .int h0f9, .ref h3, .ref h4, .ref h5, .ref h6, .ref h7, .ref h8, .ref h9, .int h0f17, .int h0f18, .int h0f19, .ref h10, .ref h11, .ref h12, .ref h13, .int h0f24, .int h0f25, .ref h14, .ref h15, .ref h16, .ref h17, .int h0f30, .int h0f31, .ref h18, .ref h19, .ref h20, .ref h21]), (h18, aI (k 0) 4 (x4 h18f0 h18f1 h18f2 h18f3)), (h19, aI (k 0) 4 (x4 h19f0 h19f1 h19f2 h19f3)), (h20, aJ (k 1) 160 anJ)] _ := hT
          refine lv_if_ne (tgt := 42) hx hb dX11_put_36 (by decide) (fun cc => absurd (by decide +kernel) cc) (fun _ => ?_)
          refine lv_bipush (v := (-12)) hx hb dX11_put_39 (by decide) ?_
          exact tz_retI (B := B_cX11_put_a6099 D k h0 h18 h19 h20 h1 h2 h3 h4 h5 h6 h7 h8 h9 h10 h11 h12 h13 h14 h15 h16 h17 h21 x1 x2 x3 h0f0 h0f1 h0f2 h0f3 h0f4 h0f5 h0f8 h0f9 h0f17 h0f18 h0f19 h0f24 h0f25 h0f30 h0f31 h18f0 h18f1 h18f2 h18f3 h19f0 h19f1 h19f2 h19f3) (v := (-12)) hQ hx hb hr hlocks hS (Nat.le_of_ble_eq_true rfl) (Nat.le_of_ble_eq_true rfl) dX11_put_41 (⟨(by have := li_m12; omega), (by have := li_m12; simp only [FPi, Frow]; (repeat' split) <;> omega), hT⟩)
        · skip
          have hT := J _ hT1
          have hT : TP D A [(h0, ob 8 [.int h0f0, .int h0f1, .int h0f2, .int h0f3, .int h0f4, .int h0f5, .ref h1, .ref h2, .int h0f8, .int h0f9, .ref h3, .ref h4, .ref h5, .ref h6, .ref h7, .ref h8, .ref h9, .int h0f17, .int h0f18, .int h0f19, .ref h10, .ref h11, .ref h12, .ref h13, .int h0f24, .int h0f25, .ref h14, .ref h15, .ref h16, .ref h17, .int h0f30, .int h0f31, .ref h18, .ref h19, .ref h20, .ref h21]), (h18, aI (k 0) 4 (x4 h18f0 h18f1 h18f2 h18f3)), (h19, aI (k 0) 4 (x4 h19f0 h19f1 h19f2 h19f3)), (h20, aJ (k 1) 160 anJ)] _ := hT
          refine lv_if_ne (tgt := 42) hx hb dX11_put_36 (by decide) (fun _ => ?_) (fun cc => absurd cc (by decide +kernel))
          refine lv_aload_n hx hb dX11_put_42 rfl (lv_at hl 0 rfl) ?_
          refine tz_get (ci := 8) (v := .ref h20) (C := RX11) (F := TX11) (N := 36) hx hb hU iX11 hown hK hT 0 rfl rfl 34 (by decide) w819 (fun _ h9 => h9) rfl dX11_put_43 ?_
          refine lv_bipush (v := 40) hx hb dX11_put_46 (by decide) ?_
          refine lv_iload_n hx hb dX11_put_48 rfl (lv_at hl 1 rfl) ?_
          refine lv_imul hx hb dX11_put_49 (lv_topi (fun v21 e_v21 => ?_))
          have e_v21 := ai_mul e_v21 li_40 hq7 (by omega)
          refine lv_iload_n hx hb dX11_put_50 rfl (lv_at hl 2 rfl) ?_
          have hq22 : v21.toInt = 0 := by omega
          refine lv_iadd hx hb dX11_put_51 (lv_topi (fun v23 e_v23 => ?_))
          have e_v23 := ai_add e_v23 hq22 rfl (by omega)
          refine lv_aload_n hx hb dX11_put_52 rfl (lv_at hl 0 rfl) ?_
          refine tz_get (ci := 8) (v := .ref h18) (C := RX11) (F := TX11) (N := 36) hx hb hU iX11 hown hK hT 0 rfl rfl 32 (by decide) w817 (fun _ h9 => h9) rfl dX11_put_53 ?_
          refine lv_iload_n hx hb dX11_put_56 rfl (lv_at hl 1 rfl) ?_
          refine tz_iald hx hb hK hT 1 rfl (by omega) dX11_put_57 (fun v24 e_v24 => ?_)
          have e_v24 := x4_g0 e_v24 hq7
          subst e_v24
          refine lv_lload_n hx hb dX11_put_58 rfl (lv_at hl 3 rfl) ?_
          refine tcL (Tc := []) (Tr := [(h0, ob 8 [.int h0f0, .int h0f1, .int h0f2, .int h0f3, .int h0f4, .int h0f5, .ref h1, .ref h2, .int h0f8, .int h0f9, .ref h3, .ref h4, .ref h5, .ref h6, .ref h7, .ref h8, .ref h9, .int h0f17, .int h0f18, .int h0f19, .ref h10, .ref h11, .ref h12, .ref h13, .int h0f24, .int h0f25, .ref h14, .ref h15, .ref h16, .ref h17, .int h0f30, .int h0f31, .ref h18, .ref h19, .ref h20, .ref h21]), (h18, aI (k 0) 4 (x4 h18f0 h18f1 h18f2 h18f3)), (h19, aI (k 0) 4 (x4 h19f0 h19f1 h19f2 h19f3)), (h20, aJ (k 1) 160 anJ)]) (as := []) (zcS (As := [.int h18f0, .long x3]) (rest := [.int v23, .ref h20]) (Tc := []) hx hb hml hown hU hK hT [] rfl (by decide) (cX11_cut_e8fb2 l D k _ h18f0 x3 (by omega)) w1189 w1187 w1188 w72 hdX11_cut ⟨rfl, rfl⟩ ⟨Nat.le_of_ble_eq_true rfl, Nat.le_of_ble_eq_true rfl⟩ rfl hl.1 (Nat.le_of_ble_eq_true rfl) dX11_put_59 ⟨Nat.le_of_ble_eq_true rfl, Nat.le_of_ble_eq_true rfl⟩) hT hS hA [] [0, 1, 2, 3] rfl rfl rfl (by decide) (by decide) (fun r25 H locs hB J hS => ?_)
          have hT1 := hB
          have hT := J _ hT1
          have hT : TP D A [(h0, ob 8 [.int h0f0, .int h0f1, .int h0f2, .int h0f3, .int h0f4, .int h0f5, .ref h1, .ref h2, .int h0f8, .int h0f9, .ref h3, .ref h4, .ref h5, .ref h6, .ref h7, .ref h8, .ref h9, .int h0f17, .int h0f18, .int h0f19, .ref h10, .ref h11, .ref h12, .ref h13, .int h0f24, .int h0f25, .ref h14, .ref h15, .ref h16, .ref h17, .int h0f30, .int h0f31, .ref h18, .ref h19, .ref h20, .ref h21]), (h18, aI (k 0) 4 (x4 h18f0 h18f1 h18f2 h18f3)), (h19, aI (k 0) 4 (x4 h19f0 h19f1 h19f2 h19f3)), (h20, aJ (k 1) 160 anJ)] _ := hT
          refine tz_last hx hb hK hT hS 3 rfl (by omega) (fun _ _ => trivial) dX11_put_62 (fun H locs hT hS => ?_)
          refine lv_iconst (v := 1) hx hb dX11_put_63 (by decide) ?_
          exact tz_retI (B := B_cX11_put_a6099 D k h0 h18 h19 h20 h1 h2 h3 h4 h5 h6 h7 h8 h9 h10 h11 h12 h13 h14 h15 h16 h17 h21 x1 x2 x3 h0f0 h0f1 h0f2 h0f3 h0f4 h0f5 h0f8 h0f9 h0f17 h0f18 h0f19 h0f24 h0f25 h0f30 h0f31 h18f0 h18f1 h18f2 h18f3 h19f0 h19f1 h19f2 h19f3) (v := 1) hQ hx hb hr hlocks hS (Nat.le_of_ble_eq_true rfl) (Nat.le_of_ble_eq_true rfl) dX11_put_64 (⟨(by have := li_1; omega), (by have := li_1; simp only [FPi, Frow]; (repeat' split) <;> omega), hT⟩)
      · skip
        have c_9 := ni_nle c_9 li_0 rfl
        refine lv_bipush (v := (-11)) hx hb dX11_put_18 (by decide) ?_
        exact tz_retI (B := B_cX11_put_a6099 D k h0 h18 h19 h20 h1 h2 h3 h4 h5 h6 h7 h8 h9 h10 h11 h12 h13 h14 h15 h16 h17 h21 x1 x2 x3 h0f0 h0f1 h0f2 h0f3 h0f4 h0f5 h0f8 h0f9 h0f17 h0f18 h0f19 h0f24 h0f25 h0f30 h0f31 h18f0 h18f1 h18f2 h18f3 h19f0 h19f1 h19f2 h19f3) (v := (-11)) hQ hx hb hr hlocks hS (Nat.le_of_ble_eq_true rfl) (Nat.le_of_ble_eq_true rfl) dX11_put_20 (⟨(by have := li_m11; omega), (by have := li_m11; simp only [FPi, Frow]; (repeat' split) <;> omega), hT⟩)
    · skip
      refine tz_iald hx hb hK hT 1 rfl (by omega) dX11_put_14 (fun v26 e_v26 => ?_)
      have e_v26 := x4_g1 e_v26 hq7
      subst e_v26
      refine lv_if_ge (tgt := 21) hx hb dX11_put_15 (by decide) (fun c_27 => ?_) (fun c_27 => ?_)
      · skip
        have c_27 := ni_le c_27 li_0 rfl
        refine lv_iload_n hx hb dX11_put_21 rfl (lv_at hl 2 rfl) ?_
        obtain ⟨v28, e_v28⟩ : ∃ x : Int64, x2.toInt64 = x := ⟨_, rfl⟩
        refine lv_i2l (v := v28) hx hb dX11_put_22 e_v28 ?_
        have e_v28 := ai_i2l e_v28 rfl
        refine lv_lconst (v := 0) hx hb dX11_put_23 (by decide) ?_
        refine lv_aload_n hx hb dX11_put_24 rfl (lv_at hl 0 rfl) ?_
        refine tz_get (ci := 8) (v := .ref h19) (C := RX11) (F := TX11) (N := 36) hx hb hU iX11 hown hK hT 0 rfl rfl 33 (by decide) w818 (fun _ h9 => h9) rfl dX11_put_25 ?_
        refine lv_iload_n hx hb dX11_put_28 rfl (lv_at hl 1 rfl) ?_
        refine tz_iald hx hb hK hT 2 rfl (by omega) dX11_put_29 (fun v29 e_v29 => ?_)
        have e_v29 := x4_g1 e_v29 hq7
        subst e_v29
        refine lv_iconst (v := 1) hx hb dX11_put_30 (by decide) ?_
        refine lv_isub hx hb dX11_put_31 (lv_topi (fun v30 e_v30 => ?_))
        have e_v30 := ai_sub e_v30 rfl li_1 (by omega)
        obtain ⟨v31, e_v31⟩ : ∃ x : Int64, v30.toInt64 = x := ⟨_, rfl⟩
        refine lv_i2l (v := v31) hx hb dX11_put_32 e_v31 ?_
        have e_v31 := ai_i2l e_v31 rfl
        have q_q33 := ll_0
        refine tcI (Tc := []) (Tr := [(h0, ob 8 [.int h0f0, .int h0f1, .int h0f2, .int h0f3, .int h0f4, .int h0f5, .ref h1, .ref h2, .int h0f8, .int h0f9, .ref h3, .ref h4, .ref h5, .ref h6, .ref h7, .ref h8, .ref h9, .int h0f17, .int h0f18, .int h0f19, .ref h10, .ref h11, .ref h12, .ref h13, .int h0f24, .int h0f25, .ref h14, .ref h15, .ref h16, .ref h17, .int h0f30, .int h0f31, .ref h18, .ref h19, .ref h20, .ref h21]), (h18, aI (k 0) 4 (x4 h18f0 h18f1 h18f2 h18f3)), (h19, aI (k 0) 4 (x4 h19f0 h19f1 h19f2 h19f3)), (h20, aJ (k 1) 160 anJ)]) (as := []) (zcS (As := [.long v28, .long 0, .long v31]) (rest := []) (Tc := []) hx hb hml hown hU hK hT [] rfl (by decide) (cX11_in_182ae l D k _ v28 (0) v31 (by have := ll_0; omega) (by omega)) w901 w899 w900 w72 hdX11_in ⟨rfl, rfl⟩ ⟨Nat.le_of_ble_eq_true rfl, Nat.le_of_ble_eq_true rfl⟩ rfl hl.1 (Nat.le_of_ble_eq_true rfl) dX11_put_33 ⟨Nat.le_of_ble_eq_true rfl, Nat.le_of_ble_eq_true rfl⟩) hT hS hA [] [0, 1, 2, 3] rfl rfl rfl (by decide) (by decide) (fun r32 H locs hB J hS => ?_)
        rcases hB with ⟨c_34, rfl, hT1⟩ | ⟨c_35, c_36, rfl, hT1⟩ | ⟨c_37, c_38, rfl, hT1⟩
        · skip
          have hT := J _ hT1
          have hT : TP D A [(h0, ob 8 [.int h0f0, .int h0f1, .int h0f2, .int h0f3, .int h0f4, .int h0f5, .ref h1, .ref h2, .int h0f8, .int h0f9, .ref h3, .ref h4, .ref h5, .ref h6, .ref h7, .ref h8, .ref h9, .int h0f17, .int h0f18, .int h0f19, .ref h10, .ref h11, .ref h12, .ref h13, .int h0f24, .int h0f25, .ref h14, .ref h15, .ref h16, .ref h17, .int h0f30, .int h0f31, .ref h18, .ref h19, .ref h20, .ref h21]), (h18, aI (k 0) 4 (x4 h18f0 h18f1 h18f2 h18f3)), (h19, aI (k 0) 4 (x4 h19f0 h19f1 h19f2 h19f3)), (h20, aJ (k 1) 160 anJ)] _ := hT
          refine lv_if_ne (tgt := 42) hx hb dX11_put_36 (by decide) (fun cc => absurd (by decide +kernel) cc) (fun _ => ?_)
          refine lv_bipush (v := (-12)) hx hb dX11_put_39 (by decide) ?_
          exact tz_retI (B := B_cX11_put_a6099 D k h0 h18 h19 h20 h1 h2 h3 h4 h5 h6 h7 h8 h9 h10 h11 h12 h13 h14 h15 h16 h17 h21 x1 x2 x3 h0f0 h0f1 h0f2 h0f3 h0f4 h0f5 h0f8 h0f9 h0f17 h0f18 h0f19 h0f24 h0f25 h0f30 h0f31 h18f0 h18f1 h18f2 h18f3 h19f0 h19f1 h19f2 h19f3) (v := (-12)) hQ hx hb hr hlocks hS (Nat.le_of_ble_eq_true rfl) (Nat.le_of_ble_eq_true rfl) dX11_put_41 (⟨(by have := li_m12; omega), (by have := li_m12; simp only [FPi, Frow]; (repeat' split) <;> omega), hT⟩)
        · skip
          have hT := J _ hT1
          have hT : TP D A [(h0, ob 8 [.int h0f0, .int h0f1, .int h0f2, .int h0f3, .int h0f4, .int h0f5, .ref h1, .ref h2, .int h0f8, .int h0f9, .ref h3, .ref h4, .ref h5, .ref h6, .ref h7, .ref h8, .ref h9, .int h0f17, .int h0f18, .int h0f19, .ref h10, .ref h11, .ref h12, .ref h13, .int h0f24, .int h0f25, .ref h14, .ref h15, .ref h16, .ref h17, .int h0f30, .int h0f31, .ref h18, .ref h19, .ref h20, .ref h21]), (h18, aI (k 0) 4 (x4 h18f0 h18f1 h18f2 h18f3)), (h19, aI (k 0) 4 (x4 h19f0 h19f1 h19f2 h19f3)), (h20, aJ (k 1) 160 anJ)] _ := hT
          refine lv_if_ne (tgt := 42) hx hb dX11_put_36 (by decide) (fun cc => absurd (by decide +kernel) cc) (fun _ => ?_)
          refine lv_bipush (v := (-12)) hx hb dX11_put_39 (by decide) ?_
          exact tz_retI (B := B_cX11_put_a6099 D k h0 h18 h19 h20 h1 h2 h3 h4 h5 h6 h7 h8 h9 h10 h11 h12 h13 h14 h15 h16 h17 h21 x1 x2 x3 h0f0 h0f1 h0f2 h0f3 h0f4 h0f5 h0f8 h0f9 h0f17 h0f18 h0f19 h0f24 h0f25 h0f30 h0f31 h18f0 h18f1 h18f2 h18f3 h19f0 h19f1 h19f2 h19f3) (v := (-12)) hQ hx hb hr hlocks hS (Nat.le_of_ble_eq_true rfl) (Nat.le_of_ble_eq_true rfl) dX11_put_41 (⟨(by have := li_m12; omega), (by have := li_m12; simp only [FPi, Frow]; (repeat' split) <;> omega), hT⟩)
        · skip
          have hT := J _ hT1
          have hT : TP D A [(h0, ob 8 [.int h0f0, .int h0f1, .int h0f2, .int h0f3, .int h0f4, .int h0f5, .ref h1, .ref h2, .int h0f8, .int h0f9, .ref h3, .ref h4, .ref h5, .ref h6, .ref h7, .ref h8, .ref h9, .int h0f17, .int h0f18, .int h0f19, .ref h10, .ref h11, .ref h12, .ref h13, .int h0f24, .int h0f25, .ref h14, .ref h15, .ref h16, .ref h17, .int h0f30, .int h0f31, .ref h18, .ref h19, .ref h20, .ref h21]), (h18, aI (k 0) 4 (x4 h18f0 h18f1 h18f2 h18f3)), (h19, aI (k 0) 4 (x4 h19f0 h19f1 h19f2 h19f3)), (h20, aJ (k 1) 160 anJ)] _ := hT
          refine lv_if_ne (tgt := 42) hx hb dX11_put_36 (by decide) (fun _ => ?_) (fun cc => absurd cc (by decide +kernel))
          refine lv_aload_n hx hb dX11_put_42 rfl (lv_at hl 0 rfl) ?_
          refine tz_get (ci := 8) (v := .ref h20) (C := RX11) (F := TX11) (N := 36) hx hb hU iX11 hown hK hT 0 rfl rfl 34 (by decide) w819 (fun _ h9 => h9) rfl dX11_put_43 ?_
          refine lv_bipush (v := 40) hx hb dX11_put_46 (by decide) ?_
          refine lv_iload_n hx hb dX11_put_48 rfl (lv_at hl 1 rfl) ?_
          refine lv_imul hx hb dX11_put_49 (lv_topi (fun v39 e_v39 => ?_))
          have e_v39 := ai_mul e_v39 li_40 hq7 (by omega)
          refine lv_iload_n hx hb dX11_put_50 rfl (lv_at hl 2 rfl) ?_
          have hq40 : v39.toInt = 40 := by omega
          refine lv_iadd hx hb dX11_put_51 (lv_topi (fun v41 e_v41 => ?_))
          have e_v41 := ai_add e_v41 hq40 rfl (by omega)
          refine lv_aload_n hx hb dX11_put_52 rfl (lv_at hl 0 rfl) ?_
          refine tz_get (ci := 8) (v := .ref h18) (C := RX11) (F := TX11) (N := 36) hx hb hU iX11 hown hK hT 0 rfl rfl 32 (by decide) w817 (fun _ h9 => h9) rfl dX11_put_53 ?_
          refine lv_iload_n hx hb dX11_put_56 rfl (lv_at hl 1 rfl) ?_
          refine tz_iald hx hb hK hT 1 rfl (by omega) dX11_put_57 (fun v42 e_v42 => ?_)
          have e_v42 := x4_g1 e_v42 hq7
          subst e_v42
          refine lv_lload_n hx hb dX11_put_58 rfl (lv_at hl 3 rfl) ?_
          refine tcL (Tc := []) (Tr := [(h0, ob 8 [.int h0f0, .int h0f1, .int h0f2, .int h0f3, .int h0f4, .int h0f5, .ref h1, .ref h2, .int h0f8, .int h0f9, .ref h3, .ref h4, .ref h5, .ref h6, .ref h7, .ref h8, .ref h9, .int h0f17, .int h0f18, .int h0f19, .ref h10, .ref h11, .ref h12, .ref h13, .int h0f24, .int h0f25, .ref h14, .ref h15, .ref h16, .ref h17, .int h0f30, .int h0f31, .ref h18, .ref h19, .ref h20, .ref h21]), (h18, aI (k 0) 4 (x4 h18f0 h18f1 h18f2 h18f3)), (h19, aI (k 0) 4 (x4 h19f0 h19f1 h19f2 h19f3)), (h20, aJ (k 1) 160 anJ)]) (as := []) (zcS (As := [.int h18f1, .long x3]) (rest := [.int v41, .ref h20]) (Tc := []) hx hb hml hown hU hK hT [] rfl (by decide) (cX11_cut_e8fb2 l D k _ h18f1 x3 (by omega)) w1189 w1187 w1188 w72 hdX11_cut ⟨rfl, rfl⟩ ⟨Nat.le_of_ble_eq_true rfl, Nat.le_of_ble_eq_true rfl⟩ rfl hl.1 (Nat.le_of_ble_eq_true rfl) dX11_put_59 ⟨Nat.le_of_ble_eq_true rfl, Nat.le_of_ble_eq_true rfl⟩) hT hS hA [] [0, 1, 2, 3] rfl rfl rfl (by decide) (by decide) (fun r43 H locs hB J hS => ?_)
          have hT1 := hB
          have hT := J _ hT1
          have hT : TP D A [(h0, ob 8 [.int h0f0, .int h0f1, .int h0f2, .int h0f3, .int h0f4, .int h0f5, .ref h1, .ref h2, .int h0f8, .int h0f9, .ref h3, .ref h4, .ref h5, .ref h6, .ref h7, .ref h8, .ref h9, .int h0f17, .int h0f18, .int h0f19, .ref h10, .ref h11, .ref h12, .ref h13, .int h0f24, .int h0f25, .ref h14, .ref h15, .ref h16, .ref h17, .int h0f30, .int h0f31, .ref h18, .ref h19, .ref h20, .ref h21]), (h18, aI (k 0) 4 (x4 h18f0 h18f1 h18f2 h18f3)), (h19, aI (k 0) 4 (x4 h19f0 h19f1 h19f2 h19f3)), (h20, aJ (k 1) 160 anJ)] _ := hT
          refine tz_last hx hb hK hT hS 3 rfl (by omega) (fun _ _ => trivial) dX11_put_62 (fun H locs hT hS => ?_)
          refine lv_iconst (v := 1) hx hb dX11_put_63 (by decide) ?_
          exact tz_retI (B := B_cX11_put_a6099 D k h0 h18 h19 h20 h1 h2 h3 h4 h5 h6 h7 h8 h9 h10 h11 h12 h13 h14 h15 h16 h17 h21 x1 x2 x3 h0f0 h0f1 h0f2 h0f3 h0f4 h0f5 h0f8 h0f9 h0f17 h0f18 h0f19 h0f24 h0f25 h0f30 h0f31 h18f0 h18f1 h18f2 h18f3 h19f0 h19f1 h19f2 h19f3) (v := 1) hQ hx hb hr hlocks hS (Nat.le_of_ble_eq_true rfl) (Nat.le_of_ble_eq_true rfl) dX11_put_64 (⟨(by have := li_1; omega), (by have := li_1; simp only [FPi, Frow]; (repeat' split) <;> omega), hT⟩)
      · skip
        have c_27 := ni_nle c_27 li_0 rfl
        refine lv_bipush (v := (-11)) hx hb dX11_put_18 (by decide) ?_
        exact tz_retI (B := B_cX11_put_a6099 D k h0 h18 h19 h20 h1 h2 h3 h4 h5 h6 h7 h8 h9 h10 h11 h12 h13 h14 h15 h16 h17 h21 x1 x2 x3 h0f0 h0f1 h0f2 h0f3 h0f4 h0f5 h0f8 h0f9 h0f17 h0f18 h0f19 h0f24 h0f25 h0f30 h0f31 h18f0 h18f1 h18f2 h18f3 h19f0 h19f1 h19f2 h19f3) (v := (-11)) hQ hx hb hr hlocks hS (Nat.le_of_ble_eq_true rfl) (Nat.le_of_ble_eq_true rfl) dX11_put_20 (⟨(by have := li_m11; omega), (by have := li_m11; simp only [FPi, Frow]; (repeat' split) <;> omega), hT⟩)
    · skip
      refine tz_iald hx hb hK hT 1 rfl (by omega) dX11_put_14 (fun v44 e_v44 => ?_)
      have e_v44 := x4_g2 e_v44 hq7
      subst e_v44
      refine lv_if_ge (tgt := 21) hx hb dX11_put_15 (by decide) (fun c_45 => ?_) (fun c_45 => ?_)
      · skip
        have c_45 := ni_le c_45 li_0 rfl
        refine lv_iload_n hx hb dX11_put_21 rfl (lv_at hl 2 rfl) ?_
        obtain ⟨v46, e_v46⟩ : ∃ x : Int64, x2.toInt64 = x := ⟨_, rfl⟩
        refine lv_i2l (v := v46) hx hb dX11_put_22 e_v46 ?_
        have e_v46 := ai_i2l e_v46 rfl
        refine lv_lconst (v := 0) hx hb dX11_put_23 (by decide) ?_
        refine lv_aload_n hx hb dX11_put_24 rfl (lv_at hl 0 rfl) ?_
        refine tz_get (ci := 8) (v := .ref h19) (C := RX11) (F := TX11) (N := 36) hx hb hU iX11 hown hK hT 0 rfl rfl 33 (by decide) w818 (fun _ h9 => h9) rfl dX11_put_25 ?_
        refine lv_iload_n hx hb dX11_put_28 rfl (lv_at hl 1 rfl) ?_
        refine tz_iald hx hb hK hT 2 rfl (by omega) dX11_put_29 (fun v47 e_v47 => ?_)
        have e_v47 := x4_g2 e_v47 hq7
        subst e_v47
        refine lv_iconst (v := 1) hx hb dX11_put_30 (by decide) ?_
        refine lv_isub hx hb dX11_put_31 (lv_topi (fun v48 e_v48 => ?_))
        have e_v48 := ai_sub e_v48 rfl li_1 (by omega)
        obtain ⟨v49, e_v49⟩ : ∃ x : Int64, v48.toInt64 = x := ⟨_, rfl⟩
        refine lv_i2l (v := v49) hx hb dX11_put_32 e_v49 ?_
        have e_v49 := ai_i2l e_v49 rfl
        have q_q51 := ll_0
        refine tcI (Tc := []) (Tr := [(h0, ob 8 [.int h0f0, .int h0f1, .int h0f2, .int h0f3, .int h0f4, .int h0f5, .ref h1, .ref h2, .int h0f8, .int h0f9, .ref h3, .ref h4, .ref h5, .ref h6, .ref h7, .ref h8, .ref h9, .int h0f17, .int h0f18, .int h0f19, .ref h10, .ref h11, .ref h12, .ref h13, .int h0f24, .int h0f25, .ref h14, .ref h15, .ref h16, .ref h17, .int h0f30, .int h0f31, .ref h18, .ref h19, .ref h20, .ref h21]), (h18, aI (k 0) 4 (x4 h18f0 h18f1 h18f2 h18f3)), (h19, aI (k 0) 4 (x4 h19f0 h19f1 h19f2 h19f3)), (h20, aJ (k 1) 160 anJ)]) (as := []) (zcS (As := [.long v46, .long 0, .long v49]) (rest := []) (Tc := []) hx hb hml hown hU hK hT [] rfl (by decide) (cX11_in_182ae l D k _ v46 (0) v49 (by have := ll_0; omega) (by omega)) w901 w899 w900 w72 hdX11_in ⟨rfl, rfl⟩ ⟨Nat.le_of_ble_eq_true rfl, Nat.le_of_ble_eq_true rfl⟩ rfl hl.1 (Nat.le_of_ble_eq_true rfl) dX11_put_33 ⟨Nat.le_of_ble_eq_true rfl, Nat.le_of_ble_eq_true rfl⟩) hT hS hA [] [0, 1, 2, 3] rfl rfl rfl (by decide) (by decide) (fun r50 H locs hB J hS => ?_)
        rcases hB with ⟨c_52, rfl, hT1⟩ | ⟨c_53, c_54, rfl, hT1⟩ | ⟨c_55, c_56, rfl, hT1⟩
        · skip
          have hT := J _ hT1
          have hT : TP D A [(h0, ob 8 [.int h0f0, .int h0f1, .int h0f2, .int h0f3, .int h0f4, .int h0f5, .ref h1, .ref h2, .int h0f8, .int h0f9, .ref h3, .ref h4, .ref h5, .ref h6, .ref h7, .ref h8, .ref h9, .int h0f17, .int h0f18, .int h0f19, .ref h10, .ref h11, .ref h12, .ref h13, .int h0f24, .int h0f25, .ref h14, .ref h15, .ref h16, .ref h17, .int h0f30, .int h0f31, .ref h18, .ref h19, .ref h20, .ref h21]), (h18, aI (k 0) 4 (x4 h18f0 h18f1 h18f2 h18f3)), (h19, aI (k 0) 4 (x4 h19f0 h19f1 h19f2 h19f3)), (h20, aJ (k 1) 160 anJ)] _ := hT
          refine lv_if_ne (tgt := 42) hx hb dX11_put_36 (by decide) (fun cc => absurd (by decide +kernel) cc) (fun _ => ?_)
          refine lv_bipush (v := (-12)) hx hb dX11_put_39 (by decide) ?_
          exact tz_retI (B := B_cX11_put_a6099 D k h0 h18 h19 h20 h1 h2 h3 h4 h5 h6 h7 h8 h9 h10 h11 h12 h13 h14 h15 h16 h17 h21 x1 x2 x3 h0f0 h0f1 h0f2 h0f3 h0f4 h0f5 h0f8 h0f9 h0f17 h0f18 h0f19 h0f24 h0f25 h0f30 h0f31 h18f0 h18f1 h18f2 h18f3 h19f0 h19f1 h19f2 h19f3) (v := (-12)) hQ hx hb hr hlocks hS (Nat.le_of_ble_eq_true rfl) (Nat.le_of_ble_eq_true rfl) dX11_put_41 (⟨(by have := li_m12; omega), (by have := li_m12; simp only [FPi, Frow]; (repeat' split) <;> omega), hT⟩)
        · skip
          have hT := J _ hT1
          have hT : TP D A [(h0, ob 8 [.int h0f0, .int h0f1, .int h0f2, .int h0f3, .int h0f4, .int h0f5, .ref h1, .ref h2, .int h0f8, .int h0f9, .ref h3, .ref h4, .ref h5, .ref h6, .ref h7, .ref h8, .ref h9, .int h0f17, .int h0f18, .int h0f19, .ref h10, .ref h11, .ref h12, .ref h13, .int h0f24, .int h0f25, .ref h14, .ref h15, .ref h16, .ref h17, .int h0f30, .int h0f31, .ref h18, .ref h19, .ref h20, .ref h21]), (h18, aI (k 0) 4 (x4 h18f0 h18f1 h18f2 h18f3)), (h19, aI (k 0) 4 (x4 h19f0 h19f1 h19f2 h19f3)), (h20, aJ (k 1) 160 anJ)] _ := hT
          refine lv_if_ne (tgt := 42) hx hb dX11_put_36 (by decide) (fun cc => absurd (by decide +kernel) cc) (fun _ => ?_)
          refine lv_bipush (v := (-12)) hx hb dX11_put_39 (by decide) ?_
          exact tz_retI (B := B_cX11_put_a6099 D k h0 h18 h19 h20 h1 h2 h3 h4 h5 h6 h7 h8 h9 h10 h11 h12 h13 h14 h15 h16 h17 h21 x1 x2 x3 h0f0 h0f1 h0f2 h0f3 h0f4 h0f5 h0f8 h0f9 h0f17 h0f18 h0f19 h0f24 h0f25 h0f30 h0f31 h18f0 h18f1 h18f2 h18f3 h19f0 h19f1 h19f2 h19f3) (v := (-12)) hQ hx hb hr hlocks hS (Nat.le_of_ble_eq_true rfl) (Nat.le_of_ble_eq_true rfl) dX11_put_41 (⟨(by have := li_m12; omega), (by have := li_m12; simp only [FPi, Frow]; (repeat' split) <;> omega), hT⟩)
        · skip
          have hT := J _ hT1
          have hT : TP D A [(h0, ob 8 [.int h0f0, .int h0f1, .int h0f2, .int h0f3, .int h0f4, .int h0f5, .ref h1, .ref h2, .int h0f8, .int h0f9, .ref h3, .ref h4, .ref h5, .ref h6, .ref h7, .ref h8, .ref h9, .int h0f17, .int h0f18, .int h0f19, .ref h10, .ref h11, .ref h12, .ref h13, .int h0f24, .int h0f25, .ref h14, .ref h15, .ref h16, .ref h17, .int h0f30, .int h0f31, .ref h18, .ref h19, .ref h20, .ref h21]), (h18, aI (k 0) 4 (x4 h18f0 h18f1 h18f2 h18f3)), (h19, aI (k 0) 4 (x4 h19f0 h19f1 h19f2 h19f3)), (h20, aJ (k 1) 160 anJ)] _ := hT
          refine lv_if_ne (tgt := 42) hx hb dX11_put_36 (by decide) (fun _ => ?_) (fun cc => absurd cc (by decide +kernel))
          refine lv_aload_n hx hb dX11_put_42 rfl (lv_at hl 0 rfl) ?_
          refine tz_get (ci := 8) (v := .ref h20) (C := RX11) (F := TX11) (N := 36) hx hb hU iX11 hown hK hT 0 rfl rfl 34 (by decide) w819 (fun _ h9 => h9) rfl dX11_put_43 ?_
          refine lv_bipush (v := 40) hx hb dX11_put_46 (by decide) ?_
          refine lv_iload_n hx hb dX11_put_48 rfl (lv_at hl 1 rfl) ?_
          refine lv_imul hx hb dX11_put_49 (lv_topi (fun v57 e_v57 => ?_))
          have e_v57 := ai_mul e_v57 li_40 hq7 (by omega)
          refine lv_iload_n hx hb dX11_put_50 rfl (lv_at hl 2 rfl) ?_
          have hq58 : v57.toInt = 80 := by omega
          refine lv_iadd hx hb dX11_put_51 (lv_topi (fun v59 e_v59 => ?_))
          have e_v59 := ai_add e_v59 hq58 rfl (by omega)
          refine lv_aload_n hx hb dX11_put_52 rfl (lv_at hl 0 rfl) ?_
          refine tz_get (ci := 8) (v := .ref h18) (C := RX11) (F := TX11) (N := 36) hx hb hU iX11 hown hK hT 0 rfl rfl 32 (by decide) w817 (fun _ h9 => h9) rfl dX11_put_53 ?_
          refine lv_iload_n hx hb dX11_put_56 rfl (lv_at hl 1 rfl) ?_
          refine tz_iald hx hb hK hT 1 rfl (by omega) dX11_put_57 (fun v60 e_v60 => ?_)
          have e_v60 := x4_g2 e_v60 hq7
          subst e_v60
          refine lv_lload_n hx hb dX11_put_58 rfl (lv_at hl 3 rfl) ?_
          refine tcL (Tc := []) (Tr := [(h0, ob 8 [.int h0f0, .int h0f1, .int h0f2, .int h0f3, .int h0f4, .int h0f5, .ref h1, .ref h2, .int h0f8, .int h0f9, .ref h3, .ref h4, .ref h5, .ref h6, .ref h7, .ref h8, .ref h9, .int h0f17, .int h0f18, .int h0f19, .ref h10, .ref h11, .ref h12, .ref h13, .int h0f24, .int h0f25, .ref h14, .ref h15, .ref h16, .ref h17, .int h0f30, .int h0f31, .ref h18, .ref h19, .ref h20, .ref h21]), (h18, aI (k 0) 4 (x4 h18f0 h18f1 h18f2 h18f3)), (h19, aI (k 0) 4 (x4 h19f0 h19f1 h19f2 h19f3)), (h20, aJ (k 1) 160 anJ)]) (as := []) (zcS (As := [.int h18f2, .long x3]) (rest := [.int v59, .ref h20]) (Tc := []) hx hb hml hown hU hK hT [] rfl (by decide) (cX11_cut_e8fb2 l D k _ h18f2 x3 (by omega)) w1189 w1187 w1188 w72 hdX11_cut ⟨rfl, rfl⟩ ⟨Nat.le_of_ble_eq_true rfl, Nat.le_of_ble_eq_true rfl⟩ rfl hl.1 (Nat.le_of_ble_eq_true rfl) dX11_put_59 ⟨Nat.le_of_ble_eq_true rfl, Nat.le_of_ble_eq_true rfl⟩) hT hS hA [] [0, 1, 2, 3] rfl rfl rfl (by decide) (by decide) (fun r61 H locs hB J hS => ?_)
          have hT1 := hB
          have hT := J _ hT1
          have hT : TP D A [(h0, ob 8 [.int h0f0, .int h0f1, .int h0f2, .int h0f3, .int h0f4, .int h0f5, .ref h1, .ref h2, .int h0f8, .int h0f9, .ref h3, .ref h4, .ref h5, .ref h6, .ref h7, .ref h8, .ref h9, .int h0f17, .int h0f18, .int h0f19, .ref h10, .ref h11, .ref h12, .ref h13, .int h0f24, .int h0f25, .ref h14, .ref h15, .ref h16, .ref h17, .int h0f30, .int h0f31, .ref h18, .ref h19, .ref h20, .ref h21]), (h18, aI (k 0) 4 (x4 h18f0 h18f1 h18f2 h18f3)), (h19, aI (k 0) 4 (x4 h19f0 h19f1 h19f2 h19f3)), (h20, aJ (k 1) 160 anJ)] _ := hT
          refine tz_last hx hb hK hT hS 3 rfl (by omega) (fun _ _ => trivial) dX11_put_62 (fun H locs hT hS => ?_)
          refine lv_iconst (v := 1) hx hb dX11_put_63 (by decide) ?_
          exact tz_retI (B := B_cX11_put_a6099 D k h0 h18 h19 h20 h1 h2 h3 h4 h5 h6 h7 h8 h9 h10 h11 h12 h13 h14 h15 h16 h17 h21 x1 x2 x3 h0f0 h0f1 h0f2 h0f3 h0f4 h0f5 h0f8 h0f9 h0f17 h0f18 h0f19 h0f24 h0f25 h0f30 h0f31 h18f0 h18f1 h18f2 h18f3 h19f0 h19f1 h19f2 h19f3) (v := 1) hQ hx hb hr hlocks hS (Nat.le_of_ble_eq_true rfl) (Nat.le_of_ble_eq_true rfl) dX11_put_64 (⟨(by have := li_1; omega), (by have := li_1; simp only [FPi, Frow]; (repeat' split) <;> omega), hT⟩)
      · skip
        have c_45 := ni_nle c_45 li_0 rfl
        refine lv_bipush (v := (-11)) hx hb dX11_put_18 (by decide) ?_
        exact tz_retI (B := B_cX11_put_a6099 D k h0 h18 h19 h20 h1 h2 h3 h4 h5 h6 h7 h8 h9 h10 h11 h12 h13 h14 h15 h16 h17 h21 x1 x2 x3 h0f0 h0f1 h0f2 h0f3 h0f4 h0f5 h0f8 h0f9 h0f17 h0f18 h0f19 h0f24 h0f25 h0f30 h0f31 h18f0 h18f1 h18f2 h18f3 h19f0 h19f1 h19f2 h19f3) (v := (-11)) hQ hx hb hr hlocks hS (Nat.le_of_ble_eq_true rfl) (Nat.le_of_ble_eq_true rfl) dX11_put_20 (⟨(by have := li_m11; omega), (by have := li_m11; simp only [FPi, Frow]; (repeat' split) <;> omega), hT⟩)
    · skip
      refine tz_iald hx hb hK hT 1 rfl (by omega) dX11_put_14 (fun v62 e_v62 => ?_)
      have e_v62 := x4_g3 e_v62 hq7
      subst e_v62
      refine lv_if_ge (tgt := 21) hx hb dX11_put_15 (by decide) (fun c_63 => ?_) (fun c_63 => ?_)
      · skip
        have c_63 := ni_le c_63 li_0 rfl
        refine lv_iload_n hx hb dX11_put_21 rfl (lv_at hl 2 rfl) ?_
        obtain ⟨v64, e_v64⟩ : ∃ x : Int64, x2.toInt64 = x := ⟨_, rfl⟩
        refine lv_i2l (v := v64) hx hb dX11_put_22 e_v64 ?_
        have e_v64 := ai_i2l e_v64 rfl
        refine lv_lconst (v := 0) hx hb dX11_put_23 (by decide) ?_
        refine lv_aload_n hx hb dX11_put_24 rfl (lv_at hl 0 rfl) ?_
        refine tz_get (ci := 8) (v := .ref h19) (C := RX11) (F := TX11) (N := 36) hx hb hU iX11 hown hK hT 0 rfl rfl 33 (by decide) w818 (fun _ h9 => h9) rfl dX11_put_25 ?_
        refine lv_iload_n hx hb dX11_put_28 rfl (lv_at hl 1 rfl) ?_
        refine tz_iald hx hb hK hT 2 rfl (by omega) dX11_put_29 (fun v65 e_v65 => ?_)
        have e_v65 := x4_g3 e_v65 hq7
        subst e_v65
        refine lv_iconst (v := 1) hx hb dX11_put_30 (by decide) ?_
        refine lv_isub hx hb dX11_put_31 (lv_topi (fun v66 e_v66 => ?_))
        have e_v66 := ai_sub e_v66 rfl li_1 (by omega)
        obtain ⟨v67, e_v67⟩ : ∃ x : Int64, v66.toInt64 = x := ⟨_, rfl⟩
        refine lv_i2l (v := v67) hx hb dX11_put_32 e_v67 ?_
        have e_v67 := ai_i2l e_v67 rfl
        have q_q69 := ll_0
        refine tcI (Tc := []) (Tr := [(h0, ob 8 [.int h0f0, .int h0f1, .int h0f2, .int h0f3, .int h0f4, .int h0f5, .ref h1, .ref h2, .int h0f8, .int h0f9, .ref h3, .ref h4, .ref h5, .ref h6, .ref h7, .ref h8, .ref h9, .int h0f17, .int h0f18, .int h0f19, .ref h10, .ref h11, .ref h12, .ref h13, .int h0f24, .int h0f25, .ref h14, .ref h15, .ref h16, .ref h17, .int h0f30, .int h0f31, .ref h18, .ref h19, .ref h20, .ref h21]), (h18, aI (k 0) 4 (x4 h18f0 h18f1 h18f2 h18f3)), (h19, aI (k 0) 4 (x4 h19f0 h19f1 h19f2 h19f3)), (h20, aJ (k 1) 160 anJ)]) (as := []) (zcS (As := [.long v64, .long 0, .long v67]) (rest := []) (Tc := []) hx hb hml hown hU hK hT [] rfl (by decide) (cX11_in_182ae l D k _ v64 (0) v67 (by have := ll_0; omega) (by omega)) w901 w899 w900 w72 hdX11_in ⟨rfl, rfl⟩ ⟨Nat.le_of_ble_eq_true rfl, Nat.le_of_ble_eq_true rfl⟩ rfl hl.1 (Nat.le_of_ble_eq_true rfl) dX11_put_33 ⟨Nat.le_of_ble_eq_true rfl, Nat.le_of_ble_eq_true rfl⟩) hT hS hA [] [0, 1, 2, 3] rfl rfl rfl (by decide) (by decide) (fun r68 H locs hB J hS => ?_)
        rcases hB with ⟨c_70, rfl, hT1⟩ | ⟨c_71, c_72, rfl, hT1⟩ | ⟨c_73, c_74, rfl, hT1⟩
        · skip
          have hT := J _ hT1
          have hT : TP D A [(h0, ob 8 [.int h0f0, .int h0f1, .int h0f2, .int h0f3, .int h0f4, .int h0f5, .ref h1, .ref h2, .int h0f8, .int h0f9, .ref h3, .ref h4, .ref h5, .ref h6, .ref h7, .ref h8, .ref h9, .int h0f17, .int h0f18, .int h0f19, .ref h10, .ref h11, .ref h12, .ref h13, .int h0f24, .int h0f25, .ref h14, .ref h15, .ref h16, .ref h17, .int h0f30, .int h0f31, .ref h18, .ref h19, .ref h20, .ref h21]), (h18, aI (k 0) 4 (x4 h18f0 h18f1 h18f2 h18f3)), (h19, aI (k 0) 4 (x4 h19f0 h19f1 h19f2 h19f3)), (h20, aJ (k 1) 160 anJ)] _ := hT
          refine lv_if_ne (tgt := 42) hx hb dX11_put_36 (by decide) (fun cc => absurd (by decide +kernel) cc) (fun _ => ?_)
          refine lv_bipush (v := (-12)) hx hb dX11_put_39 (by decide) ?_
          exact tz_retI (B := B_cX11_put_a6099 D k h0 h18 h19 h20 h1 h2 h3 h4 h5 h6 h7 h8 h9 h10 h11 h12 h13 h14 h15 h16 h17 h21 x1 x2 x3 h0f0 h0f1 h0f2 h0f3 h0f4 h0f5 h0f8 h0f9 h0f17 h0f18 h0f19 h0f24 h0f25 h0f30 h0f31 h18f0 h18f1 h18f2 h18f3 h19f0 h19f1 h19f2 h19f3) (v := (-12)) hQ hx hb hr hlocks hS (Nat.le_of_ble_eq_true rfl) (Nat.le_of_ble_eq_true rfl) dX11_put_41 (⟨(by have := li_m12; omega), (by have := li_m12; simp only [FPi, Frow]; (repeat' split) <;> omega), hT⟩)
        · skip
          have hT := J _ hT1
          have hT : TP D A [(h0, ob 8 [.int h0f0, .int h0f1, .int h0f2, .int h0f3, .int h0f4, .int h0f5, .ref h1, .ref h2, .int h0f8, .int h0f9, .ref h3, .ref h4, .ref h5, .ref h6, .ref h7, .ref h8, .ref h9, .int h0f17, .int h0f18, .int h0f19, .ref h10, .ref h11, .ref h12, .ref h13, .int h0f24, .int h0f25, .ref h14, .ref h15, .ref h16, .ref h17, .int h0f30, .int h0f31, .ref h18, .ref h19, .ref h20, .ref h21]), (h18, aI (k 0) 4 (x4 h18f0 h18f1 h18f2 h18f3)), (h19, aI (k 0) 4 (x4 h19f0 h19f1 h19f2 h19f3)), (h20, aJ (k 1) 160 anJ)] _ := hT
          refine lv_if_ne (tgt := 42) hx hb dX11_put_36 (by decide) (fun cc => absurd (by decide +kernel) cc) (fun _ => ?_)
          refine lv_bipush (v := (-12)) hx hb dX11_put_39 (by decide) ?_
          exact tz_retI (B := B_cX11_put_a6099 D k h0 h18 h19 h20 h1 h2 h3 h4 h5 h6 h7 h8 h9 h10 h11 h12 h13 h14 h15 h16 h17 h21 x1 x2 x3 h0f0 h0f1 h0f2 h0f3 h0f4 h0f5 h0f8 h0f9 h0f17 h0f18 h0f19 h0f24 h0f25 h0f30 h0f31 h18f0 h18f1 h18f2 h18f3 h19f0 h19f1 h19f2 h19f3) (v := (-12)) hQ hx hb hr hlocks hS (Nat.le_of_ble_eq_true rfl) (Nat.le_of_ble_eq_true rfl) dX11_put_41 (⟨(by have := li_m12; omega), (by have := li_m12; simp only [FPi, Frow]; (repeat' split) <;> omega), hT⟩)
        · skip
          have hT := J _ hT1
          have hT : TP D A [(h0, ob 8 [.int h0f0, .int h0f1, .int h0f2, .int h0f3, .int h0f4, .int h0f5, .ref h1, .ref h2, .int h0f8, .int h0f9, .ref h3, .ref h4, .ref h5, .ref h6, .ref h7, .ref h8, .ref h9, .int h0f17, .int h0f18, .int h0f19, .ref h10, .ref h11, .ref h12, .ref h13, .int h0f24, .int h0f25, .ref h14, .ref h15, .ref h16, .ref h17, .int h0f30, .int h0f31, .ref h18, .ref h19, .ref h20, .ref h21]), (h18, aI (k 0) 4 (x4 h18f0 h18f1 h18f2 h18f3)), (h19, aI (k 0) 4 (x4 h19f0 h19f1 h19f2 h19f3)), (h20, aJ (k 1) 160 anJ)] _ := hT
          refine lv_if_ne (tgt := 42) hx hb dX11_put_36 (by decide) (fun _ => ?_) (fun cc => absurd cc (by decide +kernel))
          refine lv_aload_n hx hb dX11_put_42 rfl (lv_at hl 0 rfl) ?_
          refine tz_get (ci := 8) (v := .ref h20) (C := RX11) (F := TX11) (N := 36) hx hb hU iX11 hown hK hT 0 rfl rfl 34 (by decide) w819 (fun _ h9 => h9) rfl dX11_put_43 ?_
          refine lv_bipush (v := 40) hx hb dX11_put_46 (by decide) ?_
          refine lv_iload_n hx hb dX11_put_48 rfl (lv_at hl 1 rfl) ?_
          refine lv_imul hx hb dX11_put_49 (lv_topi (fun v75 e_v75 => ?_))
          have e_v75 := ai_mul e_v75 li_40 hq7 (by omega)
          refine lv_iload_n hx hb dX11_put_50 rfl (lv_at hl 2 rfl) ?_
          have hq76 : v75.toInt = 120 := by omega
          refine lv_iadd hx hb dX11_put_51 (lv_topi (fun v77 e_v77 => ?_))
          have e_v77 := ai_add e_v77 hq76 rfl (by omega)
          refine lv_aload_n hx hb dX11_put_52 rfl (lv_at hl 0 rfl) ?_
          refine tz_get (ci := 8) (v := .ref h18) (C := RX11) (F := TX11) (N := 36) hx hb hU iX11 hown hK hT 0 rfl rfl 32 (by decide) w817 (fun _ h9 => h9) rfl dX11_put_53 ?_
          refine lv_iload_n hx hb dX11_put_56 rfl (lv_at hl 1 rfl) ?_
          refine tz_iald hx hb hK hT 1 rfl (by omega) dX11_put_57 (fun v78 e_v78 => ?_)
          have e_v78 := x4_g3 e_v78 hq7
          subst e_v78
          refine lv_lload_n hx hb dX11_put_58 rfl (lv_at hl 3 rfl) ?_
          refine tcL (Tc := []) (Tr := [(h0, ob 8 [.int h0f0, .int h0f1, .int h0f2, .int h0f3, .int h0f4, .int h0f5, .ref h1, .ref h2, .int h0f8, .int h0f9, .ref h3, .ref h4, .ref h5, .ref h6, .ref h7, .ref h8, .ref h9, .int h0f17, .int h0f18, .int h0f19, .ref h10, .ref h11, .ref h12, .ref h13, .int h0f24, .int h0f25, .ref h14, .ref h15, .ref h16, .ref h17, .int h0f30, .int h0f31, .ref h18, .ref h19, .ref h20, .ref h21]), (h18, aI (k 0) 4 (x4 h18f0 h18f1 h18f2 h18f3)), (h19, aI (k 0) 4 (x4 h19f0 h19f1 h19f2 h19f3)), (h20, aJ (k 1) 160 anJ)]) (as := []) (zcS (As := [.int h18f3, .long x3]) (rest := [.int v77, .ref h20]) (Tc := []) hx hb hml hown hU hK hT [] rfl (by decide) (cX11_cut_e8fb2 l D k _ h18f3 x3 (by omega)) w1189 w1187 w1188 w72 hdX11_cut ⟨rfl, rfl⟩ ⟨Nat.le_of_ble_eq_true rfl, Nat.le_of_ble_eq_true rfl⟩ rfl hl.1 (Nat.le_of_ble_eq_true rfl) dX11_put_59 ⟨Nat.le_of_ble_eq_true rfl, Nat.le_of_ble_eq_true rfl⟩) hT hS hA [] [0, 1, 2, 3] rfl rfl rfl (by decide) (by decide) (fun r79 H locs hB J hS => ?_)
          have hT1 := hB
          have hT := J _ hT1
          have hT : TP D A [(h0, ob 8 [.int h0f0, .int h0f1, .int h0f2, .int h0f3, .int h0f4, .int h0f5, .ref h1, .ref h2, .int h0f8, .int h0f9, .ref h3, .ref h4, .ref h5, .ref h6, .ref h7, .ref h8, .ref h9, .int h0f17, .int h0f18, .int h0f19, .ref h10, .ref h11, .ref h12, .ref h13, .int h0f24, .int h0f25, .ref h14, .ref h15, .ref h16, .ref h17, .int h0f30, .int h0f31, .ref h18, .ref h19, .ref h20, .ref h21]), (h18, aI (k 0) 4 (x4 h18f0 h18f1 h18f2 h18f3)), (h19, aI (k 0) 4 (x4 h19f0 h19f1 h19f2 h19f3)), (h20, aJ (k 1) 160 anJ)] _ := hT
          refine tz_last hx hb hK hT hS 3 rfl (by omega) (fun _ _ => trivial) dX11_put_62 (fun H locs hT hS => ?_)
          refine lv_iconst (v := 1) hx hb dX11_put_63 (by decide) ?_
          exact tz_retI (B := B_cX11_put_a6099 D k h0 h18 h19 h20 h1 h2 h3 h4 h5 h6 h7 h8 h9 h10 h11 h12 h13 h14 h15 h16 h17 h21 x1 x2 x3 h0f0 h0f1 h0f2 h0f3 h0f4 h0f5 h0f8 h0f9 h0f17 h0f18 h0f19 h0f24 h0f25 h0f30 h0f31 h18f0 h18f1 h18f2 h18f3 h19f0 h19f1 h19f2 h19f3) (v := 1) hQ hx hb hr hlocks hS (Nat.le_of_ble_eq_true rfl) (Nat.le_of_ble_eq_true rfl) dX11_put_64 (⟨(by have := li_1; omega), (by have := li_1; simp only [FPi, Frow]; (repeat' split) <;> omega), hT⟩)
      · skip
        have c_63 := ni_nle c_63 li_0 rfl
        refine lv_bipush (v := (-11)) hx hb dX11_put_18 (by decide) ?_
        exact tz_retI (B := B_cX11_put_a6099 D k h0 h18 h19 h20 h1 h2 h3 h4 h5 h6 h7 h8 h9 h10 h11 h12 h13 h14 h15 h16 h17 h21 x1 x2 x3 h0f0 h0f1 h0f2 h0f3 h0f4 h0f5 h0f8 h0f9 h0f17 h0f18 h0f19 h0f24 h0f25 h0f30 h0f31 h18f0 h18f1 h18f2 h18f3 h19f0 h19f1 h19f2 h19f3) (v := (-11)) hQ hx hb hr hlocks hS (Nat.le_of_ble_eq_true rfl) (Nat.le_of_ble_eq_true rfl) dX11_put_20 (⟨(by have := li_m11; omega), (by have := li_m11; simp only [FPi, Frow]; (repeat' split) <;> omega), hT⟩)
abbrev Rm_cX10_isSort_a679b : Room := { frames := 0, cells := 0, slots := 0, locals := 0 }
abbrev B_cX10_isSort_a679b (D : va_G) (k : Nat → ClassId) (x0 : Int32) (A : Nat → Prop) (r : Int32) (H : Heap) : Prop := (0 = r ∧ TP D A [] H) ∨ (0 ≤ x0.toInt ∧ x0.toInt ≤ 2 ∧ 1 = r ∧ TP D A [] H)
set_option maxHeartbeats 4000000 in
set_option maxRecDepth 100000 in
theorem cX10_isSort_a679b (l : Launch) (D : va_G) (k : Nat → ClassId) (sz : Nat) (x0 : Int32) : Met l yX10_isSort (Cond.code yX10_isSort cX10_isSort 1 (some .boolean) :: uw) Rm_cX10_isSort_a679b (pT D k sz [.int x0] []) (qI (B_cX10_isSort_a679b D k x0 (zA [] sz)) (zA [] sz)) 0 0 (zA [] sz) := by
  refine tz_begin (as := []) (Qc := fun A => qI (B_cX10_isSort_a679b D k x0 A) A) (by decide +kernel) rfl (Nat.le_of_ble_eq_true rfl) ?_
  intro p e s m args below meth c ls A Q hx hb hr hml hown hlocks hin hU hK hT hS hA hl hQ
  have hl : lv_has ls 1 [(0, .int x0)] := hl
  have hT : TP D A [] s.heap := hT
  refine lv_iload_n hx hb dX10_isSort_0 rfl (lv_at hl 0 rfl) ?_
  refine lv_if_lt (tgt := 13) hx hb dX10_isSort_1 (by decide) (fun c_1 => ?_) (fun c_1 => ?_)
  · skip
    have c_1 := ni_lt c_1 rfl li_0
    refine lv_iconst (v := 0) hx hb dX10_isSort_13 (by decide) ?_
    exact tz_retZ (B := B_cX10_isSort_a679b D k x0) (v := 0) hQ hx hb hr hlocks hS (Nat.le_of_ble_eq_true rfl) (Nat.le_of_ble_eq_true rfl) dX10_isSort_14 (by have := li_0; omega) (Or.inl ⟨rfl, hT⟩)
  · skip
    have c_1 := ni_nlt c_1 rfl li_0
    refine lv_iload_n hx hb dX10_isSort_4 rfl (lv_at hl 0 rfl) ?_
    refine lv_iconst (v := 2) hx hb dX10_isSort_5 (by decide) ?_
    refine lv_icmp_gt (tgt := 13) hx hb dX10_isSort_6 (by decide) (fun c_2 => ?_) (fun c_2 => ?_)
    · skip
      have c_2 := ni_lt c_2 li_2 rfl
      refine lv_iconst (v := 0) hx hb dX10_isSort_13 (by decide) ?_
      exact tz_retZ (B := B_cX10_isSort_a679b D k x0) (v := 0) hQ hx hb hr hlocks hS (Nat.le_of_ble_eq_true rfl) (Nat.le_of_ble_eq_true rfl) dX10_isSort_14 (by have := li_0; omega) (Or.inl ⟨rfl, hT⟩)
    · skip
      have c_2 := ni_nlt c_2 li_2 rfl
      refine lv_iconst (v := 1) hx hb dX10_isSort_9 (by decide) ?_
      refine lv_goto (tgt := 14) hx hb dX10_isSort_10 (by decide) ?_
      exact tz_retZ (B := B_cX10_isSort_a679b D k x0) (v := 1) hQ hx hb hr hlocks hS (Nat.le_of_ble_eq_true rfl) (Nat.le_of_ble_eq_true rfl) dX10_isSort_14 (by have := li_1; omega) (Or.inr (⟨(by have := li_1; omega), (by have := li_1; omega), rfl, hT⟩))
abbrev Rm_cX10_item_eeb52 : Room := { frames := 1, cells := 0, slots := 0, locals := 22 }
abbrev B_cX10_item_eeb52 (D : va_G) (k : Nat → ClassId) (h0 h4 h17 h18 h19 h20 h37 h38 h39 h40 h1 h2 h3 h5 h6 h7 h8 h9 h10 h11 h12 : Nat) (x1 : Int32) (x2 : Int32) (x3 : Int32) (h0f2 : Int32) (h0f6 : Int32) (h0f8 : Int32) (h0f11 : Int32) (h17f0 : Int32) (h17f1 : Int32) (h18f0 : Int32) (h18f1 : Int32) (h19f0 : Int32) (h19f1 : Int32) (h20f0 : Int32) (h20f1 : Int32) (A : Nat → Prop) (r : Int32) (H : Heap) : Prop := TP D A [(h0, ob 7 [.ref h1, .ref h2, .int h0f2, .ref h3, .ref h4, .ref h5, .int h0f6, .ref h6, .int h0f8, .null, .ref h7, .int h0f11, .ref h8, .ref h9, .ref h10, .ref h11, .ref h12]), (h4, aQ (k 3) 4 (q4 h17 h18 h19 h20)), (h17, ob 5 [.int h17f0, .int h17f1, .ref h37]), (h18, ob 5 [.int h18f0, .int h18f1, .ref h38]), (h19, ob 5 [.int h19f0, .int h19f1, .ref h39]), (h20, ob 5 [.int h20f0, .int h20f1, .ref h40]), (h37, aJ (k 1) 40 anJ), (h38, aJ (k 1) 40 anJ), (h39, aJ (k 1) 40 anJ), (h40, aJ (k 1) 40 anJ)] H
set_option maxHeartbeats 4000000 in
set_option maxRecDepth 100000 in
theorem cX10_item_eeb52 (l : Launch) (D : va_G) (k : Nat → ClassId) (sz : Nat) (h0 h4 h17 h18 h19 h20 h37 h38 h39 h40 h1 h2 h3 h5 h6 h7 h8 h9 h10 h11 h12 : Nat) (x1 : Int32) (x2 : Int32) (x3 : Int32) (h0f2 : Int32) (h0f6 : Int32) (h0f8 : Int32) (h0f11 : Int32) (h17f0 : Int32) (h17f1 : Int32) (h18f0 : Int32) (h18f1 : Int32) (h19f0 : Int32) (h19f1 : Int32) (h20f0 : Int32) (h20f1 : Int32) (b_h0f2 : 0 ≤ h0f2.toInt ∧ h0f2.toInt ≤ 1) (b_h0f6 : 0 ≤ h0f6.toInt ∧ h0f6.toInt ≤ 1) (b_h0f8 : 0 ≤ h0f8.toInt ∧ h0f8.toInt ≤ 1) (b_h0f11 : 0 ≤ h0f11.toInt ∧ h0f11.toInt ≤ 200) (b_h17f0 : (-1) ≤ h17f0.toInt ∧ h17f0.toInt ≤ 2) (b_h17f1 : 0 ≤ h17f1.toInt ∧ h17f1.toInt ≤ 40) (b_h18f0 : (-1) ≤ h18f0.toInt ∧ h18f0.toInt ≤ 2) (b_h18f1 : 0 ≤ h18f1.toInt ∧ h18f1.toInt ≤ 40) (b_h19f0 : (-1) ≤ h19f0.toInt ∧ h19f0.toInt ≤ 2) (b_h19f1 : 0 ≤ h19f1.toInt ∧ h19f1.toInt ≤ 40) (b_h20f0 : (-1) ≤ h20f0.toInt ∧ h20f0.toInt ≤ 2) (b_h20f1 : 0 ≤ h20f1.toInt ∧ h20f1.toInt ≤ 40) : Met l yX10_item (Cond.code yX10_item cX10_item 5 (some .int) :: uw) Rm_cX10_item_eeb52 (pT D k sz [.ref h0, .int x1, .int x2, .int x3] [(h0, ob 7 [.ref h1, .ref h2, .int h0f2, .ref h3, .ref h4, .ref h5, .int h0f6, .ref h6, .int h0f8, .null, .ref h7, .int h0f11, .ref h8, .ref h9, .ref h10, .ref h11, .ref h12]), (h4, aQ (k 3) 4 (q4 h17 h18 h19 h20)), (h17, ob 5 [.int h17f0, .int h17f1, .ref h37]), (h18, ob 5 [.int h18f0, .int h18f1, .ref h38]), (h19, ob 5 [.int h19f0, .int h19f1, .ref h39]), (h20, ob 5 [.int h20f0, .int h20f1, .ref h40]), (h37, aJ (k 1) 40 anJ), (h38, aJ (k 1) 40 anJ), (h39, aJ (k 1) 40 anJ), (h40, aJ (k 1) 40 anJ)]) (qI (B_cX10_item_eeb52 D k h0 h4 h17 h18 h19 h20 h37 h38 h39 h40 h1 h2 h3 h5 h6 h7 h8 h9 h10 h11 h12 x1 x2 x3 h0f2 h0f6 h0f8 h0f11 h17f0 h17f1 h18f0 h18f1 h19f0 h19f1 h20f0 h20f1 (zA [h0, h4, h17, h18, h19, h20, h37, h38, h39, h40] sz)) (zA [h0, h4, h17, h18, h19, h20, h37, h38, h39, h40] sz)) 0 0 (zA [h0, h4, h17, h18, h19, h20, h37, h38, h39, h40] sz) := by
  refine tz_begin (as := [h0, h4, h17, h18, h19, h20, h37, h38, h39, h40]) (Qc := fun A => qI (B_cX10_item_eeb52 D k h0 h4 h17 h18 h19 h20 h37 h38 h39 h40 h1 h2 h3 h5 h6 h7 h8 h9 h10 h11 h12 x1 x2 x3 h0f2 h0f6 h0f8 h0f11 h17f0 h17f1 h18f0 h18f1 h19f0 h19f1 h20f0 h20f1 A) A) (by decide +kernel) rfl (Nat.le_of_ble_eq_true rfl) ?_
  intro p e s m args below meth c ls A Q hx hb hr hml hown hlocks hin hU hK hT hS hA hl hQ
  have hl : lv_has ls 5 [(0, .ref h0), (1, .int x1), (2, .int x2), (3, .int x3)] := hl
  have hT : TP D A [(h0, ob 7 [.ref h1, .ref h2, .int h0f2, .ref h3, .ref h4, .ref h5, .int h0f6, .ref h6, .int h0f8, .null, .ref h7, .int h0f11, .ref h8, .ref h9, .ref h10, .ref h11, .ref h12]), (h4, aQ (k 3) 4 (q4 h17 h18 h19 h20)), (h17, ob 5 [.int h17f0, .int h17f1, .ref h37]), (h18, ob 5 [.int h18f0, .int h18f1, .ref h38]), (h19, ob 5 [.int h19f0, .int h19f1, .ref h39]), (h20, ob 5 [.int h20f0, .int h20f1, .ref h40]), (h37, aJ (k 1) 40 anJ), (h38, aJ (k 1) 40 anJ), (h39, aJ (k 1) 40 anJ), (h40, aJ (k 1) 40 anJ)] s.heap := hT
  refine lv_iload_n hx hb dX10_item_0 rfl (lv_at hl 1 rfl) ?_
  refine tcI (Tc := []) (Tr := [(h0, ob 7 [.ref h1, .ref h2, .int h0f2, .ref h3, .ref h4, .ref h5, .int h0f6, .ref h6, .int h0f8, .null, .ref h7, .int h0f11, .ref h8, .ref h9, .ref h10, .ref h11, .ref h12]), (h4, aQ (k 3) 4 (q4 h17 h18 h19 h20)), (h17, ob 5 [.int h17f0, .int h17f1, .ref h37]), (h18, ob 5 [.int h18f0, .int h18f1, .ref h38]), (h19, ob 5 [.int h19f0, .int h19f1, .ref h39]), (h20, ob 5 [.int h20f0, .int h20f1, .ref h40]), (h37, aJ (k 1) 40 anJ), (h38, aJ (k 1) 40 anJ), (h39, aJ (k 1) 40 anJ), (h40, aJ (k 1) 40 anJ)]) (as := []) (zcS (As := [.int x1]) (rest := []) (Tc := []) hx hb hml hown hU hK hT [] rfl (by decide) (cX10_isSheet_f635c l D k _ x1) w640 w638 w639 w63 hdX10_isSheet ⟨rfl, rfl⟩ ⟨Nat.le_of_ble_eq_true rfl, Nat.le_of_ble_eq_true rfl⟩ rfl hl.1 (Nat.le_of_ble_eq_true rfl) dX10_item_1 ⟨Nat.le_of_ble_eq_true rfl, Nat.le_of_ble_eq_true rfl⟩) hT hS hA [] [0, 1, 2, 3, 4, 5, 6, 7, 8, 9] rfl rfl rfl (by decide) (by decide) (fun r1 H locs hB J hS => ?_)
  rcases hB with ⟨rfl, hT1⟩ | ⟨c_2, c_3, rfl, hT1⟩
  · skip
    have hT := J _ hT1
    have hT : TP D A [(h0, ob 7 [.ref h1, .ref h2, .int h0f2, .ref h3, .ref h4, .ref h5, .int h0f6, .ref h6, .int h0f8, .null, .ref h7, .int h0f11, .ref h8, .ref h9, .ref h10, .ref h11, .ref h12]), (h4, aQ (k 3) 4 (q4 h17 h18 h19 h20)), (h17, ob 5 [.int h17f0, .int h17f1, .ref h37]), (h18, ob 5 [.int h18f0, .int h18f1, .ref h38]), (h19, ob 5 [.int h19f0, .int h19f1, .ref h39]), (h20, ob 5 [.int h20f0, .int h20f1, .ref h40]), (h37, aJ (k 1) 40 anJ), (h38, aJ (k 1) 40 anJ), (h39, aJ (k 1) 40 anJ), (h40, aJ (k 1) 40 anJ)] _ := hT
    refine lv_if_eq (tgt := 14) hx hb dX10_item_4 (by decide) (fun _ => ?_) (fun cc => absurd (by decide +kernel) cc)
    refine lv_iconst (v := (-1)) hx hb dX10_item_14 (by decide) ?_
    exact tz_retI (B := B_cX10_item_eeb52 D k h0 h4 h17 h18 h19 h20 h37 h38 h39 h40 h1 h2 h3 h5 h6 h7 h8 h9 h10 h11 h12 x1 x2 x3 h0f2 h0f6 h0f8 h0f11 h17f0 h17f1 h18f0 h18f1 h19f0 h19f1 h20f0 h20f1) (v := (-1)) hQ hx hb hr hlocks hS (Nat.le_of_ble_eq_true rfl) (Nat.le_of_ble_eq_true rfl) dX10_item_15 (hT)
  · skip
    have hT := J _ hT1
    have hT : TP D A [(h0, ob 7 [.ref h1, .ref h2, .int h0f2, .ref h3, .ref h4, .ref h5, .int h0f6, .ref h6, .int h0f8, .null, .ref h7, .int h0f11, .ref h8, .ref h9, .ref h10, .ref h11, .ref h12]), (h4, aQ (k 3) 4 (q4 h17 h18 h19 h20)), (h17, ob 5 [.int h17f0, .int h17f1, .ref h37]), (h18, ob 5 [.int h18f0, .int h18f1, .ref h38]), (h19, ob 5 [.int h19f0, .int h19f1, .ref h39]), (h20, ob 5 [.int h20f0, .int h20f1, .ref h40]), (h37, aJ (k 1) 40 anJ), (h38, aJ (k 1) 40 anJ), (h39, aJ (k 1) 40 anJ), (h40, aJ (k 1) 40 anJ)] _ := hT
    refine lv_if_eq (tgt := 14) hx hb dX10_item_4 (by decide) (fun cc => absurd cc (by decide +kernel)) (fun _ => ?_)
    refine lv_iload_n hx hb dX10_item_7 rfl (lv_at hl 2 rfl) ?_
    refine tcI (Tc := []) (Tr := [(h0, ob 7 [.ref h1, .ref h2, .int h0f2, .ref h3, .ref h4, .ref h5, .int h0f6, .ref h6, .int h0f8, .null, .ref h7, .int h0f11, .ref h8, .ref h9, .ref h10, .ref h11, .ref h12]), (h4, aQ (k 3) 4 (q4 h17 h18 h19 h20)), (h17, ob 5 [.int h17f0, .int h17f1, .ref h37]), (h18, ob 5 [.int h18f0, .int h18f1, .ref h38]), (h19, ob 5 [.int h19f0, .int h19f1, .ref h39]), (h20, ob 5 [.int h20f0, .int h20f1, .ref h40]), (h37, aJ (k 1) 40 anJ), (h38, aJ (k 1) 40 anJ), (h39, aJ (k 1) 40 anJ), (h40, aJ (k 1) 40 anJ)]) (as := []) (zcS (As := [.int x2]) (rest := []) (Tc := []) hx hb hml hown hU hK hT [] rfl (by decide) (cX10_isSort_a679b l D k _ x2) w732 w730 w731 w63 hdX10_isSort ⟨rfl, rfl⟩ ⟨Nat.le_of_ble_eq_true rfl, Nat.le_of_ble_eq_true rfl⟩ rfl hl.1 (Nat.le_of_ble_eq_true rfl) dX10_item_8 ⟨Nat.le_of_ble_eq_true rfl, Nat.le_of_ble_eq_true rfl⟩) hT hS hA [] [0, 1, 2, 3, 4, 5, 6, 7, 8, 9] rfl rfl rfl (by decide) (by decide) (fun r4 H locs hB J hS => ?_)
    rcases hB with ⟨rfl, hT1⟩ | ⟨c_5, c_6, rfl, hT1⟩
    · skip
      have hT := J _ hT1
      have hT : TP D A [(h0, ob 7 [.ref h1, .ref h2, .int h0f2, .ref h3, .ref h4, .ref h5, .int h0f6, .ref h6, .int h0f8, .null, .ref h7, .int h0f11, .ref h8, .ref h9, .ref h10, .ref h11, .ref h12]), (h4, aQ (k 3) 4 (q4 h17 h18 h19 h20)), (h17, ob 5 [.int h17f0, .int h17f1, .ref h37]), (h18, ob 5 [.int h18f0, .int h18f1, .ref h38]), (h19, ob 5 [.int h19f0, .int h19f1, .ref h39]), (h20, ob 5 [.int h20f0, .int h20f1, .ref h40]), (h37, aJ (k 1) 40 anJ), (h38, aJ (k 1) 40 anJ), (h39, aJ (k 1) 40 anJ), (h40, aJ (k 1) 40 anJ)] _ := hT
      refine lv_if_ne (tgt := 16) hx hb dX10_item_11 (by decide) (fun cc => absurd (by decide +kernel) cc) (fun _ => ?_)
      refine lv_iconst (v := (-1)) hx hb dX10_item_14 (by decide) ?_
      exact tz_retI (B := B_cX10_item_eeb52 D k h0 h4 h17 h18 h19 h20 h37 h38 h39 h40 h1 h2 h3 h5 h6 h7 h8 h9 h10 h11 h12 x1 x2 x3 h0f2 h0f6 h0f8 h0f11 h17f0 h17f1 h18f0 h18f1 h19f0 h19f1 h20f0 h20f1) (v := (-1)) hQ hx hb hr hlocks hS (Nat.le_of_ble_eq_true rfl) (Nat.le_of_ble_eq_true rfl) dX10_item_15 (hT)
    · skip
      have hT := J _ hT1
      have hT : TP D A [(h0, ob 7 [.ref h1, .ref h2, .int h0f2, .ref h3, .ref h4, .ref h5, .int h0f6, .ref h6, .int h0f8, .null, .ref h7, .int h0f11, .ref h8, .ref h9, .ref h10, .ref h11, .ref h12]), (h4, aQ (k 3) 4 (q4 h17 h18 h19 h20)), (h17, ob 5 [.int h17f0, .int h17f1, .ref h37]), (h18, ob 5 [.int h18f0, .int h18f1, .ref h38]), (h19, ob 5 [.int h19f0, .int h19f1, .ref h39]), (h20, ob 5 [.int h20f0, .int h20f1, .ref h40]), (h37, aJ (k 1) 40 anJ), (h38, aJ (k 1) 40 anJ), (h39, aJ (k 1) 40 anJ), (h40, aJ (k 1) 40 anJ)] _ := hT
      refine lv_if_ne (tgt := 16) hx hb dX10_item_11 (by decide) (fun _ => ?_) (fun cc => absurd cc (by decide +kernel))
      refine lv_aload_n hx hb dX10_item_16 rfl (lv_at hl 0 rfl) ?_
      refine tz_get (ci := 7) (v := .ref h4) (C := RX10) (F := TX10) (N := 17) hx hb hU iX10 hown hK hT 0 rfl rfl 4 (by decide) w253 (fun _ h9 => h9) rfl dX10_item_17 ?_
      refine lv_iload_n hx hb dX10_item_20 rfl (lv_at hl 1 rfl) ?_
      rcases (show x1.toInt = 0 ∨ x1.toInt = 1 ∨ x1.toInt = 2 ∨ x1.toInt = 3 by omega) with hq7 | hq7 | hq7 | hq7
      · skip
        refine tz_aldq (b := h17) hx hb hK hT 1 rfl (vp_in_iff.mpr (by have := hq7; omega)) (fun f hf => by rw [cl_of hq7]; exact hf.1) dX10_item_21 ?_
        refine lv_astore (lv' := [(4, .ref h17), (0, .ref h0), (1, .int x1), (2, .int x2), (3, .int x3)]) hx hb dX10_item_22 hl (by decide) rfl (fun ls hl => ?_)
        refine lv_aload hx hb dX10_item_24 (lv_at hl 0 rfl) ?_
        refine tcI (Tc := [(h17, ob 5 [.int h17f0, .int h17f1, .ref h37])]) (Tr := [(h0, ob 7 [.ref h1, .ref h2, .int h0f2, .ref h3, .ref h4, .ref h5, .int h0f6, .ref h6, .int h0f8, .null, .ref h7, .int h0f11, .ref h8, .ref h9, .ref h10, .ref h11, .ref h12]), (h4, aQ (k 3) 4 (q4 h17 h18 h19 h20)), (h18, ob 5 [.int h18f0, .int h18f1, .ref h38]), (h19, ob 5 [.int h19f0, .int h19f1, .ref h39]), (h20, ob 5 [.int h20f0, .int h20f1, .ref h40]), (h37, aJ (k 1) 40 anJ), (h38, aJ (k 1) 40 anJ), (h39, aJ (k 1) 40 anJ), (h40, aJ (k 1) 40 anJ)]) (as := [h17]) (zcV (q0 := 2) (ci := 5) (As := []) (rest := []) (Tc := [(h17, ob 5 [.int h17f0, .int h17f1, .ref h37])]) hx hb hml hown hU hK hT rfl rfl [2] rfl (by decide) (cX6_isMissing_56a93 l D k _ h17 h37 h17f0 h17f1 (by omega) (by omega)) w644 w641 w642 w643 w71 hdX6_isMissing ⟨rfl, rfl⟩ ⟨Nat.le_of_ble_eq_true rfl, Nat.le_of_ble_eq_true rfl⟩ rfl hl.1 (Nat.le_of_ble_eq_true rfl) dX10_item_26 ⟨Nat.le_of_ble_eq_true rfl, Nat.le_of_ble_eq_true rfl⟩) hT hS hA [2] [0, 1, 3, 4, 5, 6, 7, 8, 9] rfl rfl rfl (by decide) (by decide) (fun r8 H locs hB J hS => ?_)
        rcases hB with ⟨c_9, rfl, hT1⟩ | ⟨rfl, hT1⟩
        · skip
          have hT := J _ hT1
          have hT : TP D A [(h0, ob 7 [.ref h1, .ref h2, .int h0f2, .ref h3, .ref h4, .ref h5, .int h0f6, .ref h6, .int h0f8, .null, .ref h7, .int h0f11, .ref h8, .ref h9, .ref h10, .ref h11, .ref h12]), (h4, aQ (k 3) 4 (q4 h17 h18 h19 h20)), (h18, ob 5 [.int h18f0, .int h18f1, .ref h38]), (h19, ob 5 [.int h19f0, .int h19f1, .ref h39]), (h20, ob 5 [.int h20f0, .int h20f1, .ref h40]), (h37, aJ (k 1) 40 anJ), (h38, aJ (k 1) 40 anJ), (h39, aJ (k 1) 40 anJ), (h40, aJ (k 1) 40 anJ), (h17, ob 5 [.int h17f0, .int h17f1, .ref h37])] _ := hT
          refine lv_if_eq (tgt := 35) hx hb dX10_item_29 (by decide) (fun _ => ?_) (fun cc => absurd (by decide +kernel) cc)
          refine lv_aload hx hb dX10_item_35 (lv_at hl 0 rfl) ?_
          refine tz_get (ci := 5) (v := .int h17f0) (C := RX6) (F := TX6) (N := 3) hx hb hU iX6 hown hK hT 9 rfl rfl 0 (by decide) w238 (fun _ h9 => h9) rfl dX10_item_37 ?_
          refine lv_iload_n hx hb dX10_item_40 rfl (lv_at hl 3 rfl) ?_
          refine lv_icmp_eq (tgt := 47) hx hb dX10_item_41 (by decide) (fun c_10 => ?_) (fun c_10 => ?_)
          · skip
            have c_10 := ni_eq c_10 rfl rfl
            refine lv_aload hx hb dX10_item_47 (lv_at hl 0 rfl) ?_
            refine lv_iload_n hx hb dX10_item_49 rfl (lv_at hl 4 rfl) ?_
            refine lv_iconst (v := 1) hx hb dX10_item_50 (by decide) ?_
            have q_q12 := li_1
            refine tcI (Tc := [(h17, ob 5 [.int h17f0, .int h17f1, .ref h37])]) (Tr := [(h0, ob 7 [.ref h1, .ref h2, .int h0f2, .ref h3, .ref h4, .ref h5, .int h0f6, .ref h6, .int h0f8, .null, .ref h7, .int h0f11, .ref h8, .ref h9, .ref h10, .ref h11, .ref h12]), (h4, aQ (k 3) 4 (q4 h17 h18 h19 h20)), (h18, ob 5 [.int h18f0, .int h18f1, .ref h38]), (h19, ob 5 [.int h19f0, .int h19f1, .ref h39]), (h20, ob 5 [.int h20f0, .int h20f1, .ref h40]), (h37, aJ (k 1) 40 anJ), (h38, aJ (k 1) 40 anJ), (h39, aJ (k 1) 40 anJ), (h40, aJ (k 1) 40 anJ)]) (as := [h17]) (zcV (q0 := 9) (ci := 5) (As := [.int x3, .int 1]) (rest := []) (Tc := [(h17, ob 5 [.int h17f0, .int h17f1, .ref h37])]) hx hb hml hown hU hK hT rfl rfl [9] rfl (by decide) (cX6_isOutside_cc85b l D k _ h17 h37 x3 (1) h17f0 h17f1 (by omega) (by omega)) w648 w645 w646 w647 w71 hdX6_isOutside ⟨rfl, rfl⟩ ⟨Nat.le_of_ble_eq_true rfl, Nat.le_of_ble_eq_true rfl⟩ rfl hl.1 (Nat.le_of_ble_eq_true rfl) dX10_item_51 ⟨Nat.le_of_ble_eq_true rfl, Nat.le_of_ble_eq_true rfl⟩) hT hS hA [9] [0, 1, 2, 3, 4, 5, 6, 7, 8] rfl rfl rfl (by decide) (by decide) (fun r11 H locs hB J hS => ?_)
            rcases hB with ⟨rfl, hT1⟩ | ⟨c_13, c_14, c_15, rfl, hT1⟩
            · skip
              have hT := J _ hT1
              have hT : TP D A [(h0, ob 7 [.ref h1, .ref h2, .int h0f2, .ref h3, .ref h4, .ref h5, .int h0f6, .ref h6, .int h0f8, .null, .ref h7, .int h0f11, .ref h8, .ref h9, .ref h10, .ref h11, .ref h12]), (h4, aQ (k 3) 4 (q4 h17 h18 h19 h20)), (h18, ob 5 [.int h18f0, .int h18f1, .ref h38]), (h19, ob 5 [.int h19f0, .int h19f1, .ref h39]), (h20, ob 5 [.int h20f0, .int h20f1, .ref h40]), (h37, aJ (k 1) 40 anJ), (h38, aJ (k 1) 40 anJ), (h39, aJ (k 1) 40 anJ), (h40, aJ (k 1) 40 anJ), (h17, ob 5 [.int h17f0, .int h17f1, .ref h37])] _ := hT
              refine lv_if_eq (tgt := 60) hx hb dX10_item_54 (by decide) (fun cc => absurd cc (by decide +kernel)) (fun _ => ?_)
              refine lv_bipush (v := (-12)) hx hb dX10_item_57 (by decide) ?_
              exact tz_retI (B := B_cX10_item_eeb52 D k h0 h4 h17 h18 h19 h20 h37 h38 h39 h40 h1 h2 h3 h5 h6 h7 h8 h9 h10 h11 h12 x1 x2 x3 h0f2 h0f6 h0f8 h0f11 h17f0 h17f1 h18f0 h18f1 h19f0 h19f1 h20f0 h20f1) (v := (-12)) hQ hx hb hr hlocks hS (Nat.le_of_ble_eq_true rfl) (Nat.le_of_ble_eq_true rfl) dX10_item_59 ((hT.sub [0, 1, 9, 2, 3, 4, 5, 6, 7, 8] (by decide) rfl))
            · skip
              have hT := J _ hT1
              have hT : TP D A [(h0, ob 7 [.ref h1, .ref h2, .int h0f2, .ref h3, .ref h4, .ref h5, .int h0f6, .ref h6, .int h0f8, .null, .ref h7, .int h0f11, .ref h8, .ref h9, .ref h10, .ref h11, .ref h12]), (h4, aQ (k 3) 4 (q4 h17 h18 h19 h20)), (h18, ob 5 [.int h18f0, .int h18f1, .ref h38]), (h19, ob 5 [.int h19f0, .int h19f1, .ref h39]), (h20, ob 5 [.int h20f0, .int h20f1, .ref h40]), (h37, aJ (k 1) 40 anJ), (h38, aJ (k 1) 40 anJ), (h39, aJ (k 1) 40 anJ), (h40, aJ (k 1) 40 anJ), (h17, ob 5 [.int h17f0, .int h17f1, .ref h37])] _ := hT
              refine lv_if_eq (tgt := 60) hx hb dX10_item_54 (by decide) (fun _ => ?_) (fun cc => absurd (by decide +kernel) cc)
              refine lv_aload hx hb dX10_item_60 (lv_at hl 0 rfl) ?_
              refine tz_get (ci := 5) (v := .ref h37) (C := RX6) (F := TX6) (N := 3) hx hb hU iX6 hown hK hT 9 rfl rfl 2 (by decide) w241 (fun _ h9 => h9) rfl dX10_item_62 ?_
              refine lv_iload_n hx hb dX10_item_65 rfl (lv_at hl 4 rfl) ?_
              refine tz_lald hx hb hK hT 5 rfl (by omega) dX10_item_66 (fun v16 e_v16 => ?_)
              clear e_v16
              refine lv_l2i hx hb dX10_item_67 rfl (lv_topi (fun v17 _ => ?_))
              exact tz_retI (B := B_cX10_item_eeb52 D k h0 h4 h17 h18 h19 h20 h37 h38 h39 h40 h1 h2 h3 h5 h6 h7 h8 h9 h10 h11 h12 x1 x2 x3 h0f2 h0f6 h0f8 h0f11 h17f0 h17f1 h18f0 h18f1 h19f0 h19f1 h20f0 h20f1) (v := v17) hQ hx hb hr hlocks hS (Nat.le_of_ble_eq_true rfl) (Nat.le_of_ble_eq_true rfl) dX10_item_68 ((hT.sub [0, 1, 9, 2, 3, 4, 5, 6, 7, 8] (by decide) rfl))
          · skip
            have c_10 := ni_ne c_10 rfl rfl
            refine lv_bipush (v := (-13)) hx hb dX10_item_44 (by decide) ?_
            exact tz_retI (B := B_cX10_item_eeb52 D k h0 h4 h17 h18 h19 h20 h37 h38 h39 h40 h1 h2 h3 h5 h6 h7 h8 h9 h10 h11 h12 x1 x2 x3 h0f2 h0f6 h0f8 h0f11 h17f0 h17f1 h18f0 h18f1 h19f0 h19f1 h20f0 h20f1) (v := (-13)) hQ hx hb hr hlocks hS (Nat.le_of_ble_eq_true rfl) (Nat.le_of_ble_eq_true rfl) dX10_item_46 ((hT.sub [0, 1, 9, 2, 3, 4, 5, 6, 7, 8] (by decide) rfl))
        · skip
          have hT := J _ hT1
          have hT : TP D A [(h0, ob 7 [.ref h1, .ref h2, .int h0f2, .ref h3, .ref h4, .ref h5, .int h0f6, .ref h6, .int h0f8, .null, .ref h7, .int h0f11, .ref h8, .ref h9, .ref h10, .ref h11, .ref h12]), (h4, aQ (k 3) 4 (q4 h17 h18 h19 h20)), (h18, ob 5 [.int h18f0, .int h18f1, .ref h38]), (h19, ob 5 [.int h19f0, .int h19f1, .ref h39]), (h20, ob 5 [.int h20f0, .int h20f1, .ref h40]), (h37, aJ (k 1) 40 anJ), (h38, aJ (k 1) 40 anJ), (h39, aJ (k 1) 40 anJ), (h40, aJ (k 1) 40 anJ), (h17, ob 5 [.int h17f0, .int h17f1, .ref h37])] _ := hT
          refine lv_if_eq (tgt := 35) hx hb dX10_item_29 (by decide) (fun cc => absurd cc (by decide +kernel)) (fun _ => ?_)
          refine lv_bipush (v := (-11)) hx hb dX10_item_32 (by decide) ?_
          exact tz_retI (B := B_cX10_item_eeb52 D k h0 h4 h17 h18 h19 h20 h37 h38 h39 h40 h1 h2 h3 h5 h6 h7 h8 h9 h10 h11 h12 x1 x2 x3 h0f2 h0f6 h0f8 h0f11 h17f0 h17f1 h18f0 h18f1 h19f0 h19f1 h20f0 h20f1) (v := (-11)) hQ hx hb hr hlocks hS (Nat.le_of_ble_eq_true rfl) (Nat.le_of_ble_eq_true rfl) dX10_item_34 ((hT.sub [0, 1, 9, 2, 3, 4, 5, 6, 7, 8] (by decide) rfl))
      · skip
        refine tz_aldq (b := h18) hx hb hK hT 1 rfl (vp_in_iff.mpr (by have := hq7; omega)) (fun f hf => by rw [cl_of hq7]; exact hf.2.1) dX10_item_21 ?_
        refine lv_astore (lv' := [(4, .ref h18), (0, .ref h0), (1, .int x1), (2, .int x2), (3, .int x3)]) hx hb dX10_item_22 hl (by decide) rfl (fun ls hl => ?_)
        refine lv_aload hx hb dX10_item_24 (lv_at hl 0 rfl) ?_
        refine tcI (Tc := [(h18, ob 5 [.int h18f0, .int h18f1, .ref h38])]) (Tr := [(h0, ob 7 [.ref h1, .ref h2, .int h0f2, .ref h3, .ref h4, .ref h5, .int h0f6, .ref h6, .int h0f8, .null, .ref h7, .int h0f11, .ref h8, .ref h9, .ref h10, .ref h11, .ref h12]), (h4, aQ (k 3) 4 (q4 h17 h18 h19 h20)), (h17, ob 5 [.int h17f0, .int h17f1, .ref h37]), (h19, ob 5 [.int h19f0, .int h19f1, .ref h39]), (h20, ob 5 [.int h20f0, .int h20f1, .ref h40]), (h37, aJ (k 1) 40 anJ), (h38, aJ (k 1) 40 anJ), (h39, aJ (k 1) 40 anJ), (h40, aJ (k 1) 40 anJ)]) (as := [h18]) (zcV (q0 := 3) (ci := 5) (As := []) (rest := []) (Tc := [(h18, ob 5 [.int h18f0, .int h18f1, .ref h38])]) hx hb hml hown hU hK hT rfl rfl [3] rfl (by decide) (cX6_isMissing_56a93 l D k _ h18 h38 h18f0 h18f1 (by omega) (by omega)) w644 w641 w642 w643 w71 hdX6_isMissing ⟨rfl, rfl⟩ ⟨Nat.le_of_ble_eq_true rfl, Nat.le_of_ble_eq_true rfl⟩ rfl hl.1 (Nat.le_of_ble_eq_true rfl) dX10_item_26 ⟨Nat.le_of_ble_eq_true rfl, Nat.le_of_ble_eq_true rfl⟩) hT hS hA [3] [0, 1, 2, 4, 5, 6, 7, 8, 9] rfl rfl rfl (by decide) (by decide) (fun r18 H locs hB J hS => ?_)
        rcases hB with ⟨c_19, rfl, hT1⟩ | ⟨rfl, hT1⟩
        · skip
          have hT := J _ hT1
          have hT : TP D A [(h0, ob 7 [.ref h1, .ref h2, .int h0f2, .ref h3, .ref h4, .ref h5, .int h0f6, .ref h6, .int h0f8, .null, .ref h7, .int h0f11, .ref h8, .ref h9, .ref h10, .ref h11, .ref h12]), (h4, aQ (k 3) 4 (q4 h17 h18 h19 h20)), (h17, ob 5 [.int h17f0, .int h17f1, .ref h37]), (h19, ob 5 [.int h19f0, .int h19f1, .ref h39]), (h20, ob 5 [.int h20f0, .int h20f1, .ref h40]), (h37, aJ (k 1) 40 anJ), (h38, aJ (k 1) 40 anJ), (h39, aJ (k 1) 40 anJ), (h40, aJ (k 1) 40 anJ), (h18, ob 5 [.int h18f0, .int h18f1, .ref h38])] _ := hT
          refine lv_if_eq (tgt := 35) hx hb dX10_item_29 (by decide) (fun _ => ?_) (fun cc => absurd (by decide +kernel) cc)
          refine lv_aload hx hb dX10_item_35 (lv_at hl 0 rfl) ?_
          refine tz_get (ci := 5) (v := .int h18f0) (C := RX6) (F := TX6) (N := 3) hx hb hU iX6 hown hK hT 9 rfl rfl 0 (by decide) w238 (fun _ h9 => h9) rfl dX10_item_37 ?_
          refine lv_iload_n hx hb dX10_item_40 rfl (lv_at hl 3 rfl) ?_
          refine lv_icmp_eq (tgt := 47) hx hb dX10_item_41 (by decide) (fun c_20 => ?_) (fun c_20 => ?_)
          · skip
            have c_20 := ni_eq c_20 rfl rfl
            refine lv_aload hx hb dX10_item_47 (lv_at hl 0 rfl) ?_
            refine lv_iload_n hx hb dX10_item_49 rfl (lv_at hl 4 rfl) ?_
            refine lv_iconst (v := 1) hx hb dX10_item_50 (by decide) ?_
            have q_q22 := li_1
            refine tcI (Tc := [(h18, ob 5 [.int h18f0, .int h18f1, .ref h38])]) (Tr := [(h0, ob 7 [.ref h1, .ref h2, .int h0f2, .ref h3, .ref h4, .ref h5, .int h0f6, .ref h6, .int h0f8, .null, .ref h7, .int h0f11, .ref h8, .ref h9, .ref h10, .ref h11, .ref h12]), (h4, aQ (k 3) 4 (q4 h17 h18 h19 h20)), (h17, ob 5 [.int h17f0, .int h17f1, .ref h37]), (h19, ob 5 [.int h19f0, .int h19f1, .ref h39]), (h20, ob 5 [.int h20f0, .int h20f1, .ref h40]), (h37, aJ (k 1) 40 anJ), (h38, aJ (k 1) 40 anJ), (h39, aJ (k 1) 40 anJ), (h40, aJ (k 1) 40 anJ)]) (as := [h18]) (zcV (q0 := 9) (ci := 5) (As := [.int x3, .int 1]) (rest := []) (Tc := [(h18, ob 5 [.int h18f0, .int h18f1, .ref h38])]) hx hb hml hown hU hK hT rfl rfl [9] rfl (by decide) (cX6_isOutside_cc85b l D k _ h18 h38 x3 (1) h18f0 h18f1 (by omega) (by omega)) w648 w645 w646 w647 w71 hdX6_isOutside ⟨rfl, rfl⟩ ⟨Nat.le_of_ble_eq_true rfl, Nat.le_of_ble_eq_true rfl⟩ rfl hl.1 (Nat.le_of_ble_eq_true rfl) dX10_item_51 ⟨Nat.le_of_ble_eq_true rfl, Nat.le_of_ble_eq_true rfl⟩) hT hS hA [9] [0, 1, 2, 3, 4, 5, 6, 7, 8] rfl rfl rfl (by decide) (by decide) (fun r21 H locs hB J hS => ?_)
            rcases hB with ⟨rfl, hT1⟩ | ⟨c_23, c_24, c_25, rfl, hT1⟩
            · skip
              have hT := J _ hT1
              have hT : TP D A [(h0, ob 7 [.ref h1, .ref h2, .int h0f2, .ref h3, .ref h4, .ref h5, .int h0f6, .ref h6, .int h0f8, .null, .ref h7, .int h0f11, .ref h8, .ref h9, .ref h10, .ref h11, .ref h12]), (h4, aQ (k 3) 4 (q4 h17 h18 h19 h20)), (h17, ob 5 [.int h17f0, .int h17f1, .ref h37]), (h19, ob 5 [.int h19f0, .int h19f1, .ref h39]), (h20, ob 5 [.int h20f0, .int h20f1, .ref h40]), (h37, aJ (k 1) 40 anJ), (h38, aJ (k 1) 40 anJ), (h39, aJ (k 1) 40 anJ), (h40, aJ (k 1) 40 anJ), (h18, ob 5 [.int h18f0, .int h18f1, .ref h38])] _ := hT
              refine lv_if_eq (tgt := 60) hx hb dX10_item_54 (by decide) (fun cc => absurd cc (by decide +kernel)) (fun _ => ?_)
              refine lv_bipush (v := (-12)) hx hb dX10_item_57 (by decide) ?_
              exact tz_retI (B := B_cX10_item_eeb52 D k h0 h4 h17 h18 h19 h20 h37 h38 h39 h40 h1 h2 h3 h5 h6 h7 h8 h9 h10 h11 h12 x1 x2 x3 h0f2 h0f6 h0f8 h0f11 h17f0 h17f1 h18f0 h18f1 h19f0 h19f1 h20f0 h20f1) (v := (-12)) hQ hx hb hr hlocks hS (Nat.le_of_ble_eq_true rfl) (Nat.le_of_ble_eq_true rfl) dX10_item_59 ((hT.sub [0, 1, 2, 9, 3, 4, 5, 6, 7, 8] (by decide) rfl))
            · skip
              have hT := J _ hT1
              have hT : TP D A [(h0, ob 7 [.ref h1, .ref h2, .int h0f2, .ref h3, .ref h4, .ref h5, .int h0f6, .ref h6, .int h0f8, .null, .ref h7, .int h0f11, .ref h8, .ref h9, .ref h10, .ref h11, .ref h12]), (h4, aQ (k 3) 4 (q4 h17 h18 h19 h20)), (h17, ob 5 [.int h17f0, .int h17f1, .ref h37]), (h19, ob 5 [.int h19f0, .int h19f1, .ref h39]), (h20, ob 5 [.int h20f0, .int h20f1, .ref h40]), (h37, aJ (k 1) 40 anJ), (h38, aJ (k 1) 40 anJ), (h39, aJ (k 1) 40 anJ), (h40, aJ (k 1) 40 anJ), (h18, ob 5 [.int h18f0, .int h18f1, .ref h38])] _ := hT
              refine lv_if_eq (tgt := 60) hx hb dX10_item_54 (by decide) (fun _ => ?_) (fun cc => absurd (by decide +kernel) cc)
              refine lv_aload hx hb dX10_item_60 (lv_at hl 0 rfl) ?_
              refine tz_get (ci := 5) (v := .ref h38) (C := RX6) (F := TX6) (N := 3) hx hb hU iX6 hown hK hT 9 rfl rfl 2 (by decide) w241 (fun _ h9 => h9) rfl dX10_item_62 ?_
              refine lv_iload_n hx hb dX10_item_65 rfl (lv_at hl 4 rfl) ?_
              refine tz_lald hx hb hK hT 6 rfl (by omega) dX10_item_66 (fun v26 e_v26 => ?_)
              clear e_v26
              refine lv_l2i hx hb dX10_item_67 rfl (lv_topi (fun v27 _ => ?_))
              exact tz_retI (B := B_cX10_item_eeb52 D k h0 h4 h17 h18 h19 h20 h37 h38 h39 h40 h1 h2 h3 h5 h6 h7 h8 h9 h10 h11 h12 x1 x2 x3 h0f2 h0f6 h0f8 h0f11 h17f0 h17f1 h18f0 h18f1 h19f0 h19f1 h20f0 h20f1) (v := v27) hQ hx hb hr hlocks hS (Nat.le_of_ble_eq_true rfl) (Nat.le_of_ble_eq_true rfl) dX10_item_68 ((hT.sub [0, 1, 2, 9, 3, 4, 5, 6, 7, 8] (by decide) rfl))
          · skip
            have c_20 := ni_ne c_20 rfl rfl
            refine lv_bipush (v := (-13)) hx hb dX10_item_44 (by decide) ?_
            exact tz_retI (B := B_cX10_item_eeb52 D k h0 h4 h17 h18 h19 h20 h37 h38 h39 h40 h1 h2 h3 h5 h6 h7 h8 h9 h10 h11 h12 x1 x2 x3 h0f2 h0f6 h0f8 h0f11 h17f0 h17f1 h18f0 h18f1 h19f0 h19f1 h20f0 h20f1) (v := (-13)) hQ hx hb hr hlocks hS (Nat.le_of_ble_eq_true rfl) (Nat.le_of_ble_eq_true rfl) dX10_item_46 ((hT.sub [0, 1, 2, 9, 3, 4, 5, 6, 7, 8] (by decide) rfl))
        · skip
          have hT := J _ hT1
          have hT : TP D A [(h0, ob 7 [.ref h1, .ref h2, .int h0f2, .ref h3, .ref h4, .ref h5, .int h0f6, .ref h6, .int h0f8, .null, .ref h7, .int h0f11, .ref h8, .ref h9, .ref h10, .ref h11, .ref h12]), (h4, aQ (k 3) 4 (q4 h17 h18 h19 h20)), (h17, ob 5 [.int h17f0, .int h17f1, .ref h37]), (h19, ob 5 [.int h19f0, .int h19f1, .ref h39]), (h20, ob 5 [.int h20f0, .int h20f1, .ref h40]), (h37, aJ (k 1) 40 anJ), (h38, aJ (k 1) 40 anJ), (h39, aJ (k 1) 40 anJ), (h40, aJ (k 1) 40 anJ), (h18, ob 5 [.int h18f0, .int h18f1, .ref h38])] _ := hT
          refine lv_if_eq (tgt := 35) hx hb dX10_item_29 (by decide) (fun cc => absurd cc (by decide +kernel)) (fun _ => ?_)
          refine lv_bipush (v := (-11)) hx hb dX10_item_32 (by decide) ?_
          exact tz_retI (B := B_cX10_item_eeb52 D k h0 h4 h17 h18 h19 h20 h37 h38 h39 h40 h1 h2 h3 h5 h6 h7 h8 h9 h10 h11 h12 x1 x2 x3 h0f2 h0f6 h0f8 h0f11 h17f0 h17f1 h18f0 h18f1 h19f0 h19f1 h20f0 h20f1) (v := (-11)) hQ hx hb hr hlocks hS (Nat.le_of_ble_eq_true rfl) (Nat.le_of_ble_eq_true rfl) dX10_item_34 ((hT.sub [0, 1, 2, 9, 3, 4, 5, 6, 7, 8] (by decide) rfl))
      · skip
        refine tz_aldq (b := h19) hx hb hK hT 1 rfl (vp_in_iff.mpr (by have := hq7; omega)) (fun f hf => by rw [cl_of hq7]; exact hf.2.2.1) dX10_item_21 ?_
        refine lv_astore (lv' := [(4, .ref h19), (0, .ref h0), (1, .int x1), (2, .int x2), (3, .int x3)]) hx hb dX10_item_22 hl (by decide) rfl (fun ls hl => ?_)
        refine lv_aload hx hb dX10_item_24 (lv_at hl 0 rfl) ?_
        refine tcI (Tc := [(h19, ob 5 [.int h19f0, .int h19f1, .ref h39])]) (Tr := [(h0, ob 7 [.ref h1, .ref h2, .int h0f2, .ref h3, .ref h4, .ref h5, .int h0f6, .ref h6, .int h0f8, .null, .ref h7, .int h0f11, .ref h8, .ref h9, .ref h10, .ref h11, .ref h12]), (h4, aQ (k 3) 4 (q4 h17 h18 h19 h20)), (h17, ob 5 [.int h17f0, .int h17f1, .ref h37]), (h18, ob 5 [.int h18f0, .int h18f1, .ref h38]), (h20, ob 5 [.int h20f0, .int h20f1, .ref h40]), (h37, aJ (k 1) 40 anJ), (h38, aJ (k 1) 40 anJ), (h39, aJ (k 1) 40 anJ), (h40, aJ (k 1) 40 anJ)]) (as := [h19]) (zcV (q0 := 4) (ci := 5) (As := []) (rest := []) (Tc := [(h19, ob 5 [.int h19f0, .int h19f1, .ref h39])]) hx hb hml hown hU hK hT rfl rfl [4] rfl (by decide) (cX6_isMissing_56a93 l D k _ h19 h39 h19f0 h19f1 (by omega) (by omega)) w644 w641 w642 w643 w71 hdX6_isMissing ⟨rfl, rfl⟩ ⟨Nat.le_of_ble_eq_true rfl, Nat.le_of_ble_eq_true rfl⟩ rfl hl.1 (Nat.le_of_ble_eq_true rfl) dX10_item_26 ⟨Nat.le_of_ble_eq_true rfl, Nat.le_of_ble_eq_true rfl⟩) hT hS hA [4] [0, 1, 2, 3, 5, 6, 7, 8, 9] rfl rfl rfl (by decide) (by decide) (fun r28 H locs hB J hS => ?_)
        rcases hB with ⟨c_29, rfl, hT1⟩ | ⟨rfl, hT1⟩
        · skip
          have hT := J _ hT1
          have hT : TP D A [(h0, ob 7 [.ref h1, .ref h2, .int h0f2, .ref h3, .ref h4, .ref h5, .int h0f6, .ref h6, .int h0f8, .null, .ref h7, .int h0f11, .ref h8, .ref h9, .ref h10, .ref h11, .ref h12]), (h4, aQ (k 3) 4 (q4 h17 h18 h19 h20)), (h17, ob 5 [.int h17f0, .int h17f1, .ref h37]), (h18, ob 5 [.int h18f0, .int h18f1, .ref h38]), (h20, ob 5 [.int h20f0, .int h20f1, .ref h40]), (h37, aJ (k 1) 40 anJ), (h38, aJ (k 1) 40 anJ), (h39, aJ (k 1) 40 anJ), (h40, aJ (k 1) 40 anJ), (h19, ob 5 [.int h19f0, .int h19f1, .ref h39])] _ := hT
          refine lv_if_eq (tgt := 35) hx hb dX10_item_29 (by decide) (fun _ => ?_) (fun cc => absurd (by decide +kernel) cc)
          refine lv_aload hx hb dX10_item_35 (lv_at hl 0 rfl) ?_
          refine tz_get (ci := 5) (v := .int h19f0) (C := RX6) (F := TX6) (N := 3) hx hb hU iX6 hown hK hT 9 rfl rfl 0 (by decide) w238 (fun _ h9 => h9) rfl dX10_item_37 ?_
          refine lv_iload_n hx hb dX10_item_40 rfl (lv_at hl 3 rfl) ?_
          refine lv_icmp_eq (tgt := 47) hx hb dX10_item_41 (by decide) (fun c_30 => ?_) (fun c_30 => ?_)
          · skip
            have c_30 := ni_eq c_30 rfl rfl
            refine lv_aload hx hb dX10_item_47 (lv_at hl 0 rfl) ?_
            refine lv_iload_n hx hb dX10_item_49 rfl (lv_at hl 4 rfl) ?_
            refine lv_iconst (v := 1) hx hb dX10_item_50 (by decide) ?_
            have q_q32 := li_1
            refine tcI (Tc := [(h19, ob 5 [.int h19f0, .int h19f1, .ref h39])]) (Tr := [(h0, ob 7 [.ref h1, .ref h2, .int h0f2, .ref h3, .ref h4, .ref h5, .int h0f6, .ref h6, .int h0f8, .null, .ref h7, .int h0f11, .ref h8, .ref h9, .ref h10, .ref h11, .ref h12]), (h4, aQ (k 3) 4 (q4 h17 h18 h19 h20)), (h17, ob 5 [.int h17f0, .int h17f1, .ref h37]), (h18, ob 5 [.int h18f0, .int h18f1, .ref h38]), (h20, ob 5 [.int h20f0, .int h20f1, .ref h40]), (h37, aJ (k 1) 40 anJ), (h38, aJ (k 1) 40 anJ), (h39, aJ (k 1) 40 anJ), (h40, aJ (k 1) 40 anJ)]) (as := [h19]) (zcV (q0 := 9) (ci := 5) (As := [.int x3, .int 1]) (rest := []) (Tc := [(h19, ob 5 [.int h19f0, .int h19f1, .ref h39])]) hx hb hml hown hU hK hT rfl rfl [9] rfl (by decide) (cX6_isOutside_cc85b l D k _ h19 h39 x3 (1) h19f0 h19f1 (by omega) (by omega)) w648 w645 w646 w647 w71 hdX6_isOutside ⟨rfl, rfl⟩ ⟨Nat.le_of_ble_eq_true rfl, Nat.le_of_ble_eq_true rfl⟩ rfl hl.1 (Nat.le_of_ble_eq_true rfl) dX10_item_51 ⟨Nat.le_of_ble_eq_true rfl, Nat.le_of_ble_eq_true rfl⟩) hT hS hA [9] [0, 1, 2, 3, 4, 5, 6, 7, 8] rfl rfl rfl (by decide) (by decide) (fun r31 H locs hB J hS => ?_)
            rcases hB with ⟨rfl, hT1⟩ | ⟨c_33, c_34, c_35, rfl, hT1⟩
            · skip
              have hT := J _ hT1
              have hT : TP D A [(h0, ob 7 [.ref h1, .ref h2, .int h0f2, .ref h3, .ref h4, .ref h5, .int h0f6, .ref h6, .int h0f8, .null, .ref h7, .int h0f11, .ref h8, .ref h9, .ref h10, .ref h11, .ref h12]), (h4, aQ (k 3) 4 (q4 h17 h18 h19 h20)), (h17, ob 5 [.int h17f0, .int h17f1, .ref h37]), (h18, ob 5 [.int h18f0, .int h18f1, .ref h38]), (h20, ob 5 [.int h20f0, .int h20f1, .ref h40]), (h37, aJ (k 1) 40 anJ), (h38, aJ (k 1) 40 anJ), (h39, aJ (k 1) 40 anJ), (h40, aJ (k 1) 40 anJ), (h19, ob 5 [.int h19f0, .int h19f1, .ref h39])] _ := hT
              refine lv_if_eq (tgt := 60) hx hb dX10_item_54 (by decide) (fun cc => absurd cc (by decide +kernel)) (fun _ => ?_)
              refine lv_bipush (v := (-12)) hx hb dX10_item_57 (by decide) ?_
              exact tz_retI (B := B_cX10_item_eeb52 D k h0 h4 h17 h18 h19 h20 h37 h38 h39 h40 h1 h2 h3 h5 h6 h7 h8 h9 h10 h11 h12 x1 x2 x3 h0f2 h0f6 h0f8 h0f11 h17f0 h17f1 h18f0 h18f1 h19f0 h19f1 h20f0 h20f1) (v := (-12)) hQ hx hb hr hlocks hS (Nat.le_of_ble_eq_true rfl) (Nat.le_of_ble_eq_true rfl) dX10_item_59 ((hT.sub [0, 1, 2, 3, 9, 4, 5, 6, 7, 8] (by decide) rfl))
            · skip
              have hT := J _ hT1
              have hT : TP D A [(h0, ob 7 [.ref h1, .ref h2, .int h0f2, .ref h3, .ref h4, .ref h5, .int h0f6, .ref h6, .int h0f8, .null, .ref h7, .int h0f11, .ref h8, .ref h9, .ref h10, .ref h11, .ref h12]), (h4, aQ (k 3) 4 (q4 h17 h18 h19 h20)), (h17, ob 5 [.int h17f0, .int h17f1, .ref h37]), (h18, ob 5 [.int h18f0, .int h18f1, .ref h38]), (h20, ob 5 [.int h20f0, .int h20f1, .ref h40]), (h37, aJ (k 1) 40 anJ), (h38, aJ (k 1) 40 anJ), (h39, aJ (k 1) 40 anJ), (h40, aJ (k 1) 40 anJ), (h19, ob 5 [.int h19f0, .int h19f1, .ref h39])] _ := hT
              refine lv_if_eq (tgt := 60) hx hb dX10_item_54 (by decide) (fun _ => ?_) (fun cc => absurd (by decide +kernel) cc)
              refine lv_aload hx hb dX10_item_60 (lv_at hl 0 rfl) ?_
              refine tz_get (ci := 5) (v := .ref h39) (C := RX6) (F := TX6) (N := 3) hx hb hU iX6 hown hK hT 9 rfl rfl 2 (by decide) w241 (fun _ h9 => h9) rfl dX10_item_62 ?_
              refine lv_iload_n hx hb dX10_item_65 rfl (lv_at hl 4 rfl) ?_
              refine tz_lald hx hb hK hT 7 rfl (by omega) dX10_item_66 (fun v36 e_v36 => ?_)
              clear e_v36
              refine lv_l2i hx hb dX10_item_67 rfl (lv_topi (fun v37 _ => ?_))
              exact tz_retI (B := B_cX10_item_eeb52 D k h0 h4 h17 h18 h19 h20 h37 h38 h39 h40 h1 h2 h3 h5 h6 h7 h8 h9 h10 h11 h12 x1 x2 x3 h0f2 h0f6 h0f8 h0f11 h17f0 h17f1 h18f0 h18f1 h19f0 h19f1 h20f0 h20f1) (v := v37) hQ hx hb hr hlocks hS (Nat.le_of_ble_eq_true rfl) (Nat.le_of_ble_eq_true rfl) dX10_item_68 ((hT.sub [0, 1, 2, 3, 9, 4, 5, 6, 7, 8] (by decide) rfl))
          · skip
            have c_30 := ni_ne c_30 rfl rfl
            refine lv_bipush (v := (-13)) hx hb dX10_item_44 (by decide) ?_
            exact tz_retI (B := B_cX10_item_eeb52 D k h0 h4 h17 h18 h19 h20 h37 h38 h39 h40 h1 h2 h3 h5 h6 h7 h8 h9 h10 h11 h12 x1 x2 x3 h0f2 h0f6 h0f8 h0f11 h17f0 h17f1 h18f0 h18f1 h19f0 h19f1 h20f0 h20f1) (v := (-13)) hQ hx hb hr hlocks hS (Nat.le_of_ble_eq_true rfl) (Nat.le_of_ble_eq_true rfl) dX10_item_46 ((hT.sub [0, 1, 2, 3, 9, 4, 5, 6, 7, 8] (by decide) rfl))
        · skip
          have hT := J _ hT1
          have hT : TP D A [(h0, ob 7 [.ref h1, .ref h2, .int h0f2, .ref h3, .ref h4, .ref h5, .int h0f6, .ref h6, .int h0f8, .null, .ref h7, .int h0f11, .ref h8, .ref h9, .ref h10, .ref h11, .ref h12]), (h4, aQ (k 3) 4 (q4 h17 h18 h19 h20)), (h17, ob 5 [.int h17f0, .int h17f1, .ref h37]), (h18, ob 5 [.int h18f0, .int h18f1, .ref h38]), (h20, ob 5 [.int h20f0, .int h20f1, .ref h40]), (h37, aJ (k 1) 40 anJ), (h38, aJ (k 1) 40 anJ), (h39, aJ (k 1) 40 anJ), (h40, aJ (k 1) 40 anJ), (h19, ob 5 [.int h19f0, .int h19f1, .ref h39])] _ := hT
          refine lv_if_eq (tgt := 35) hx hb dX10_item_29 (by decide) (fun cc => absurd cc (by decide +kernel)) (fun _ => ?_)
          refine lv_bipush (v := (-11)) hx hb dX10_item_32 (by decide) ?_
          exact tz_retI (B := B_cX10_item_eeb52 D k h0 h4 h17 h18 h19 h20 h37 h38 h39 h40 h1 h2 h3 h5 h6 h7 h8 h9 h10 h11 h12 x1 x2 x3 h0f2 h0f6 h0f8 h0f11 h17f0 h17f1 h18f0 h18f1 h19f0 h19f1 h20f0 h20f1) (v := (-11)) hQ hx hb hr hlocks hS (Nat.le_of_ble_eq_true rfl) (Nat.le_of_ble_eq_true rfl) dX10_item_34 ((hT.sub [0, 1, 2, 3, 9, 4, 5, 6, 7, 8] (by decide) rfl))
      · skip
        refine tz_aldq (b := h20) hx hb hK hT 1 rfl (vp_in_iff.mpr (by have := hq7; omega)) (fun f hf => by rw [cl_of hq7]; exact hf.2.2.2) dX10_item_21 ?_
        refine lv_astore (lv' := [(4, .ref h20), (0, .ref h0), (1, .int x1), (2, .int x2), (3, .int x3)]) hx hb dX10_item_22 hl (by decide) rfl (fun ls hl => ?_)
        refine lv_aload hx hb dX10_item_24 (lv_at hl 0 rfl) ?_
        refine tcI (Tc := [(h20, ob 5 [.int h20f0, .int h20f1, .ref h40])]) (Tr := [(h0, ob 7 [.ref h1, .ref h2, .int h0f2, .ref h3, .ref h4, .ref h5, .int h0f6, .ref h6, .int h0f8, .null, .ref h7, .int h0f11, .ref h8, .ref h9, .ref h10, .ref h11, .ref h12]), (h4, aQ (k 3) 4 (q4 h17 h18 h19 h20)), (h17, ob 5 [.int h17f0, .int h17f1, .ref h37]), (h18, ob 5 [.int h18f0, .int h18f1, .ref h38]), (h19, ob 5 [.int h19f0, .int h19f1, .ref h39]), (h37, aJ (k 1) 40 anJ), (h38, aJ (k 1) 40 anJ), (h39, aJ (k 1) 40 anJ), (h40, aJ (k 1) 40 anJ)]) (as := [h20]) (zcV (q0 := 5) (ci := 5) (As := []) (rest := []) (Tc := [(h20, ob 5 [.int h20f0, .int h20f1, .ref h40])]) hx hb hml hown hU hK hT rfl rfl [5] rfl (by decide) (cX6_isMissing_56a93 l D k _ h20 h40 h20f0 h20f1 (by omega) (by omega)) w644 w641 w642 w643 w71 hdX6_isMissing ⟨rfl, rfl⟩ ⟨Nat.le_of_ble_eq_true rfl, Nat.le_of_ble_eq_true rfl⟩ rfl hl.1 (Nat.le_of_ble_eq_true rfl) dX10_item_26 ⟨Nat.le_of_ble_eq_true rfl, Nat.le_of_ble_eq_true rfl⟩) hT hS hA [5] [0, 1, 2, 3, 4, 6, 7, 8, 9] rfl rfl rfl (by decide) (by decide) (fun r38 H locs hB J hS => ?_)
        rcases hB with ⟨c_39, rfl, hT1⟩ | ⟨rfl, hT1⟩
        · skip
          have hT := J _ hT1
          have hT : TP D A [(h0, ob 7 [.ref h1, .ref h2, .int h0f2, .ref h3, .ref h4, .ref h5, .int h0f6, .ref h6, .int h0f8, .null, .ref h7, .int h0f11, .ref h8, .ref h9, .ref h10, .ref h11, .ref h12]), (h4, aQ (k 3) 4 (q4 h17 h18 h19 h20)), (h17, ob 5 [.int h17f0, .int h17f1, .ref h37]), (h18, ob 5 [.int h18f0, .int h18f1, .ref h38]), (h19, ob 5 [.int h19f0, .int h19f1, .ref h39]), (h37, aJ (k 1) 40 anJ), (h38, aJ (k 1) 40 anJ), (h39, aJ (k 1) 40 anJ), (h40, aJ (k 1) 40 anJ), (h20, ob 5 [.int h20f0, .int h20f1, .ref h40])] _ := hT
          refine lv_if_eq (tgt := 35) hx hb dX10_item_29 (by decide) (fun _ => ?_) (fun cc => absurd (by decide +kernel) cc)
          refine lv_aload hx hb dX10_item_35 (lv_at hl 0 rfl) ?_
          refine tz_get (ci := 5) (v := .int h20f0) (C := RX6) (F := TX6) (N := 3) hx hb hU iX6 hown hK hT 9 rfl rfl 0 (by decide) w238 (fun _ h9 => h9) rfl dX10_item_37 ?_
          refine lv_iload_n hx hb dX10_item_40 rfl (lv_at hl 3 rfl) ?_
          refine lv_icmp_eq (tgt := 47) hx hb dX10_item_41 (by decide) (fun c_40 => ?_) (fun c_40 => ?_)
          · skip
            have c_40 := ni_eq c_40 rfl rfl
            refine lv_aload hx hb dX10_item_47 (lv_at hl 0 rfl) ?_
            refine lv_iload_n hx hb dX10_item_49 rfl (lv_at hl 4 rfl) ?_
            refine lv_iconst (v := 1) hx hb dX10_item_50 (by decide) ?_
            have q_q42 := li_1
            refine tcI (Tc := [(h20, ob 5 [.int h20f0, .int h20f1, .ref h40])]) (Tr := [(h0, ob 7 [.ref h1, .ref h2, .int h0f2, .ref h3, .ref h4, .ref h5, .int h0f6, .ref h6, .int h0f8, .null, .ref h7, .int h0f11, .ref h8, .ref h9, .ref h10, .ref h11, .ref h12]), (h4, aQ (k 3) 4 (q4 h17 h18 h19 h20)), (h17, ob 5 [.int h17f0, .int h17f1, .ref h37]), (h18, ob 5 [.int h18f0, .int h18f1, .ref h38]), (h19, ob 5 [.int h19f0, .int h19f1, .ref h39]), (h37, aJ (k 1) 40 anJ), (h38, aJ (k 1) 40 anJ), (h39, aJ (k 1) 40 anJ), (h40, aJ (k 1) 40 anJ)]) (as := [h20]) (zcV (q0 := 9) (ci := 5) (As := [.int x3, .int 1]) (rest := []) (Tc := [(h20, ob 5 [.int h20f0, .int h20f1, .ref h40])]) hx hb hml hown hU hK hT rfl rfl [9] rfl (by decide) (cX6_isOutside_cc85b l D k _ h20 h40 x3 (1) h20f0 h20f1 (by omega) (by omega)) w648 w645 w646 w647 w71 hdX6_isOutside ⟨rfl, rfl⟩ ⟨Nat.le_of_ble_eq_true rfl, Nat.le_of_ble_eq_true rfl⟩ rfl hl.1 (Nat.le_of_ble_eq_true rfl) dX10_item_51 ⟨Nat.le_of_ble_eq_true rfl, Nat.le_of_ble_eq_true rfl⟩) hT hS hA [9] [0, 1, 2, 3, 4, 5, 6, 7, 8] rfl rfl rfl (by decide) (by decide) (fun r41 H locs hB J hS => ?_)
            rcases hB with ⟨rfl, hT1⟩ | ⟨c_43, c_44, c_45, rfl, hT1⟩
            · skip
              have hT := J _ hT1
              have hT : TP D A [(h0, ob 7 [.ref h1, .ref h2, .int h0f2, .ref h3, .ref h4, .ref h5, .int h0f6, .ref h6, .int h0f8, .null, .ref h7, .int h0f11, .ref h8, .ref h9, .ref h10, .ref h11, .ref h12]), (h4, aQ (k 3) 4 (q4 h17 h18 h19 h20)), (h17, ob 5 [.int h17f0, .int h17f1, .ref h37]), (h18, ob 5 [.int h18f0, .int h18f1, .ref h38]), (h19, ob 5 [.int h19f0, .int h19f1, .ref h39]), (h37, aJ (k 1) 40 anJ), (h38, aJ (k 1) 40 anJ), (h39, aJ (k 1) 40 anJ), (h40, aJ (k 1) 40 anJ), (h20, ob 5 [.int h20f0, .int h20f1, .ref h40])] _ := hT
              refine lv_if_eq (tgt := 60) hx hb dX10_item_54 (by decide) (fun cc => absurd cc (by decide +kernel)) (fun _ => ?_)
              refine lv_bipush (v := (-12)) hx hb dX10_item_57 (by decide) ?_
              exact tz_retI (B := B_cX10_item_eeb52 D k h0 h4 h17 h18 h19 h20 h37 h38 h39 h40 h1 h2 h3 h5 h6 h7 h8 h9 h10 h11 h12 x1 x2 x3 h0f2 h0f6 h0f8 h0f11 h17f0 h17f1 h18f0 h18f1 h19f0 h19f1 h20f0 h20f1) (v := (-12)) hQ hx hb hr hlocks hS (Nat.le_of_ble_eq_true rfl) (Nat.le_of_ble_eq_true rfl) dX10_item_59 ((hT.sub [0, 1, 2, 3, 4, 9, 5, 6, 7, 8] (by decide) rfl))
            · skip
              have hT := J _ hT1
              have hT : TP D A [(h0, ob 7 [.ref h1, .ref h2, .int h0f2, .ref h3, .ref h4, .ref h5, .int h0f6, .ref h6, .int h0f8, .null, .ref h7, .int h0f11, .ref h8, .ref h9, .ref h10, .ref h11, .ref h12]), (h4, aQ (k 3) 4 (q4 h17 h18 h19 h20)), (h17, ob 5 [.int h17f0, .int h17f1, .ref h37]), (h18, ob 5 [.int h18f0, .int h18f1, .ref h38]), (h19, ob 5 [.int h19f0, .int h19f1, .ref h39]), (h37, aJ (k 1) 40 anJ), (h38, aJ (k 1) 40 anJ), (h39, aJ (k 1) 40 anJ), (h40, aJ (k 1) 40 anJ), (h20, ob 5 [.int h20f0, .int h20f1, .ref h40])] _ := hT
              refine lv_if_eq (tgt := 60) hx hb dX10_item_54 (by decide) (fun _ => ?_) (fun cc => absurd (by decide +kernel) cc)
              refine lv_aload hx hb dX10_item_60 (lv_at hl 0 rfl) ?_
              refine tz_get (ci := 5) (v := .ref h40) (C := RX6) (F := TX6) (N := 3) hx hb hU iX6 hown hK hT 9 rfl rfl 2 (by decide) w241 (fun _ h9 => h9) rfl dX10_item_62 ?_
              refine lv_iload_n hx hb dX10_item_65 rfl (lv_at hl 4 rfl) ?_
              refine tz_lald hx hb hK hT 8 rfl (by omega) dX10_item_66 (fun v46 e_v46 => ?_)
              clear e_v46
              refine lv_l2i hx hb dX10_item_67 rfl (lv_topi (fun v47 _ => ?_))
              exact tz_retI (B := B_cX10_item_eeb52 D k h0 h4 h17 h18 h19 h20 h37 h38 h39 h40 h1 h2 h3 h5 h6 h7 h8 h9 h10 h11 h12 x1 x2 x3 h0f2 h0f6 h0f8 h0f11 h17f0 h17f1 h18f0 h18f1 h19f0 h19f1 h20f0 h20f1) (v := v47) hQ hx hb hr hlocks hS (Nat.le_of_ble_eq_true rfl) (Nat.le_of_ble_eq_true rfl) dX10_item_68 ((hT.sub [0, 1, 2, 3, 4, 9, 5, 6, 7, 8] (by decide) rfl))
          · skip
            have c_40 := ni_ne c_40 rfl rfl
            refine lv_bipush (v := (-13)) hx hb dX10_item_44 (by decide) ?_
            exact tz_retI (B := B_cX10_item_eeb52 D k h0 h4 h17 h18 h19 h20 h37 h38 h39 h40 h1 h2 h3 h5 h6 h7 h8 h9 h10 h11 h12 x1 x2 x3 h0f2 h0f6 h0f8 h0f11 h17f0 h17f1 h18f0 h18f1 h19f0 h19f1 h20f0 h20f1) (v := (-13)) hQ hx hb hr hlocks hS (Nat.le_of_ble_eq_true rfl) (Nat.le_of_ble_eq_true rfl) dX10_item_46 ((hT.sub [0, 1, 2, 3, 4, 9, 5, 6, 7, 8] (by decide) rfl))
        · skip
          have hT := J _ hT1
          have hT : TP D A [(h0, ob 7 [.ref h1, .ref h2, .int h0f2, .ref h3, .ref h4, .ref h5, .int h0f6, .ref h6, .int h0f8, .null, .ref h7, .int h0f11, .ref h8, .ref h9, .ref h10, .ref h11, .ref h12]), (h4, aQ (k 3) 4 (q4 h17 h18 h19 h20)), (h17, ob 5 [.int h17f0, .int h17f1, .ref h37]), (h18, ob 5 [.int h18f0, .int h18f1, .ref h38]), (h19, ob 5 [.int h19f0, .int h19f1, .ref h39]), (h37, aJ (k 1) 40 anJ), (h38, aJ (k 1) 40 anJ), (h39, aJ (k 1) 40 anJ), (h40, aJ (k 1) 40 anJ), (h20, ob 5 [.int h20f0, .int h20f1, .ref h40])] _ := hT
          refine lv_if_eq (tgt := 35) hx hb dX10_item_29 (by decide) (fun cc => absurd cc (by decide +kernel)) (fun _ => ?_)
          refine lv_bipush (v := (-11)) hx hb dX10_item_32 (by decide) ?_
          exact tz_retI (B := B_cX10_item_eeb52 D k h0 h4 h17 h18 h19 h20 h37 h38 h39 h40 h1 h2 h3 h5 h6 h7 h8 h9 h10 h11 h12 x1 x2 x3 h0f2 h0f6 h0f8 h0f11 h17f0 h17f1 h18f0 h18f1 h19f0 h19f1 h20f0 h20f1) (v := (-11)) hQ hx hb hr hlocks hS (Nat.le_of_ble_eq_true rfl) (Nat.le_of_ble_eq_true rfl) dX10_item_34 ((hT.sub [0, 1, 2, 3, 4, 9, 5, 6, 7, 8] (by decide) rfl))
abbrev Rm_cX10_item_a1675 : Room := { frames := 1, cells := 0, slots := 0, locals := 22 }
abbrev B_cX10_item_a1675 (D : va_G) (k : Nat → ClassId) (h0 h4 h18 h19 h20 h21 h46 h47 h48 h49 h1 h2 h3 h5 h6 h7 h8 h9 h10 h11 h12 h13 : Nat) (x1 : Int32) (x2 : Int32) (x3 : Int32) (h0f2 : Int32) (h0f6 : Int32) (h0f8 : Int32) (h0f11 : Int32) (h18f0 : Int32) (h18f1 : Int32) (h19f0 : Int32) (h19f1 : Int32) (h20f0 : Int32) (h20f1 : Int32) (h21f0 : Int32) (h21f1 : Int32) (A : Nat → Prop) (r : Int32) (H : Heap) : Prop := TP D A [(h0, ob 7 [.ref h1, .ref h2, .int h0f2, .ref h3, .ref h4, .ref h5, .int h0f6, .ref h6, .int h0f8, .ref h7, .ref h8, .int h0f11, .ref h9, .ref h10, .ref h11, .ref h12, .ref h13]), (h4, aQ (k 3) 4 (q4 h18 h19 h20 h21)), (h18, ob 5 [.int h18f0, .int h18f1, .ref h46]), (h19, ob 5 [.int h19f0, .int h19f1, .ref h47]), (h20, ob 5 [.int h20f0, .int h20f1, .ref h48]), (h21, ob 5 [.int h21f0, .int h21f1, .ref h49]), (h46, aJ (k 1) 40 anJ), (h47, aJ (k 1) 40 anJ), (h48, aJ (k 1) 40 anJ), (h49, aJ (k 1) 40 anJ)] H
set_option maxHeartbeats 4000000 in
set_option maxRecDepth 100000 in
theorem cX10_item_a1675 (l : Launch) (D : va_G) (k : Nat → ClassId) (sz : Nat) (h0 h4 h18 h19 h20 h21 h46 h47 h48 h49 h1 h2 h3 h5 h6 h7 h8 h9 h10 h11 h12 h13 : Nat) (x1 : Int32) (x2 : Int32) (x3 : Int32) (h0f2 : Int32) (h0f6 : Int32) (h0f8 : Int32) (h0f11 : Int32) (h18f0 : Int32) (h18f1 : Int32) (h19f0 : Int32) (h19f1 : Int32) (h20f0 : Int32) (h20f1 : Int32) (h21f0 : Int32) (h21f1 : Int32) (b_h0f2 : 0 ≤ h0f2.toInt ∧ h0f2.toInt ≤ 1) (b_h0f6 : 0 ≤ h0f6.toInt ∧ h0f6.toInt ≤ 1) (b_h0f8 : 0 ≤ h0f8.toInt ∧ h0f8.toInt ≤ 1) (b_h0f11 : 0 ≤ h0f11.toInt ∧ h0f11.toInt ≤ 200) (b_h18f0 : (-1) ≤ h18f0.toInt ∧ h18f0.toInt ≤ 2) (b_h18f1 : 0 ≤ h18f1.toInt ∧ h18f1.toInt ≤ 40) (b_h19f0 : (-1) ≤ h19f0.toInt ∧ h19f0.toInt ≤ 2) (b_h19f1 : 0 ≤ h19f1.toInt ∧ h19f1.toInt ≤ 40) (b_h20f0 : (-1) ≤ h20f0.toInt ∧ h20f0.toInt ≤ 2) (b_h20f1 : 0 ≤ h20f1.toInt ∧ h20f1.toInt ≤ 40) (b_h21f0 : (-1) ≤ h21f0.toInt ∧ h21f0.toInt ≤ 2) (b_h21f1 : 0 ≤ h21f1.toInt ∧ h21f1.toInt ≤ 40) : Met l yX10_item (Cond.code yX10_item cX10_item 5 (some .int) :: uw) Rm_cX10_item_a1675 (pT D k sz [.ref h0, .int x1, .int x2, .int x3] [(h0, ob 7 [.ref h1, .ref h2, .int h0f2, .ref h3, .ref h4, .ref h5, .int h0f6, .ref h6, .int h0f8, .ref h7, .ref h8, .int h0f11, .ref h9, .ref h10, .ref h11, .ref h12, .ref h13]), (h4, aQ (k 3) 4 (q4 h18 h19 h20 h21)), (h18, ob 5 [.int h18f0, .int h18f1, .ref h46]), (h19, ob 5 [.int h19f0, .int h19f1, .ref h47]), (h20, ob 5 [.int h20f0, .int h20f1, .ref h48]), (h21, ob 5 [.int h21f0, .int h21f1, .ref h49]), (h46, aJ (k 1) 40 anJ), (h47, aJ (k 1) 40 anJ), (h48, aJ (k 1) 40 anJ), (h49, aJ (k 1) 40 anJ)]) (qI (B_cX10_item_a1675 D k h0 h4 h18 h19 h20 h21 h46 h47 h48 h49 h1 h2 h3 h5 h6 h7 h8 h9 h10 h11 h12 h13 x1 x2 x3 h0f2 h0f6 h0f8 h0f11 h18f0 h18f1 h19f0 h19f1 h20f0 h20f1 h21f0 h21f1 (zA [h0, h4, h18, h19, h20, h21, h46, h47, h48, h49] sz)) (zA [h0, h4, h18, h19, h20, h21, h46, h47, h48, h49] sz)) 0 0 (zA [h0, h4, h18, h19, h20, h21, h46, h47, h48, h49] sz) := by
  refine tz_begin (as := [h0, h4, h18, h19, h20, h21, h46, h47, h48, h49]) (Qc := fun A => qI (B_cX10_item_a1675 D k h0 h4 h18 h19 h20 h21 h46 h47 h48 h49 h1 h2 h3 h5 h6 h7 h8 h9 h10 h11 h12 h13 x1 x2 x3 h0f2 h0f6 h0f8 h0f11 h18f0 h18f1 h19f0 h19f1 h20f0 h20f1 h21f0 h21f1 A) A) (by decide +kernel) rfl (Nat.le_of_ble_eq_true rfl) ?_
  intro p e s m args below meth c ls A Q hx hb hr hml hown hlocks hin hU hK hT hS hA hl hQ
  have hl : lv_has ls 5 [(0, .ref h0), (1, .int x1), (2, .int x2), (3, .int x3)] := hl
  have hT : TP D A [(h0, ob 7 [.ref h1, .ref h2, .int h0f2, .ref h3, .ref h4, .ref h5, .int h0f6, .ref h6, .int h0f8, .ref h7, .ref h8, .int h0f11, .ref h9, .ref h10, .ref h11, .ref h12, .ref h13]), (h4, aQ (k 3) 4 (q4 h18 h19 h20 h21)), (h18, ob 5 [.int h18f0, .int h18f1, .ref h46]), (h19, ob 5 [.int h19f0, .int h19f1, .ref h47]), (h20, ob 5 [.int h20f0, .int h20f1, .ref h48]), (h21, ob 5 [.int h21f0, .int h21f1, .ref h49]), (h46, aJ (k 1) 40 anJ), (h47, aJ (k 1) 40 anJ), (h48, aJ (k 1) 40 anJ), (h49, aJ (k 1) 40 anJ)] s.heap := hT
  refine lv_iload_n hx hb dX10_item_0 rfl (lv_at hl 1 rfl) ?_
  refine tcI (Tc := []) (Tr := [(h0, ob 7 [.ref h1, .ref h2, .int h0f2, .ref h3, .ref h4, .ref h5, .int h0f6, .ref h6, .int h0f8, .ref h7, .ref h8, .int h0f11, .ref h9, .ref h10, .ref h11, .ref h12, .ref h13]), (h4, aQ (k 3) 4 (q4 h18 h19 h20 h21)), (h18, ob 5 [.int h18f0, .int h18f1, .ref h46]), (h19, ob 5 [.int h19f0, .int h19f1, .ref h47]), (h20, ob 5 [.int h20f0, .int h20f1, .ref h48]), (h21, ob 5 [.int h21f0, .int h21f1, .ref h49]), (h46, aJ (k 1) 40 anJ), (h47, aJ (k 1) 40 anJ), (h48, aJ (k 1) 40 anJ), (h49, aJ (k 1) 40 anJ)]) (as := []) (zcS (As := [.int x1]) (rest := []) (Tc := []) hx hb hml hown hU hK hT [] rfl (by decide) (cX10_isSheet_f635c l D k _ x1) w640 w638 w639 w63 hdX10_isSheet ⟨rfl, rfl⟩ ⟨Nat.le_of_ble_eq_true rfl, Nat.le_of_ble_eq_true rfl⟩ rfl hl.1 (Nat.le_of_ble_eq_true rfl) dX10_item_1 ⟨Nat.le_of_ble_eq_true rfl, Nat.le_of_ble_eq_true rfl⟩) hT hS hA [] [0, 1, 2, 3, 4, 5, 6, 7, 8, 9] rfl rfl rfl (by decide) (by decide) (fun r1 H locs hB J hS => ?_)
  rcases hB with ⟨rfl, hT1⟩ | ⟨c_2, c_3, rfl, hT1⟩
  · skip
    have hT := J _ hT1
    have hT : TP D A [(h0, ob 7 [.ref h1, .ref h2, .int h0f2, .ref h3, .ref h4, .ref h5, .int h0f6, .ref h6, .int h0f8, .ref h7, .ref h8, .int h0f11, .ref h9, .ref h10, .ref h11, .ref h12, .ref h13]), (h4, aQ (k 3) 4 (q4 h18 h19 h20 h21)), (h18, ob 5 [.int h18f0, .int h18f1, .ref h46]), (h19, ob 5 [.int h19f0, .int h19f1, .ref h47]), (h20, ob 5 [.int h20f0, .int h20f1, .ref h48]), (h21, ob 5 [.int h21f0, .int h21f1, .ref h49]), (h46, aJ (k 1) 40 anJ), (h47, aJ (k 1) 40 anJ), (h48, aJ (k 1) 40 anJ), (h49, aJ (k 1) 40 anJ)] _ := hT
    refine lv_if_eq (tgt := 14) hx hb dX10_item_4 (by decide) (fun _ => ?_) (fun cc => absurd (by decide +kernel) cc)
    refine lv_iconst (v := (-1)) hx hb dX10_item_14 (by decide) ?_
    exact tz_retI (B := B_cX10_item_a1675 D k h0 h4 h18 h19 h20 h21 h46 h47 h48 h49 h1 h2 h3 h5 h6 h7 h8 h9 h10 h11 h12 h13 x1 x2 x3 h0f2 h0f6 h0f8 h0f11 h18f0 h18f1 h19f0 h19f1 h20f0 h20f1 h21f0 h21f1) (v := (-1)) hQ hx hb hr hlocks hS (Nat.le_of_ble_eq_true rfl) (Nat.le_of_ble_eq_true rfl) dX10_item_15 (hT)
  · skip
    have hT := J _ hT1
    have hT : TP D A [(h0, ob 7 [.ref h1, .ref h2, .int h0f2, .ref h3, .ref h4, .ref h5, .int h0f6, .ref h6, .int h0f8, .ref h7, .ref h8, .int h0f11, .ref h9, .ref h10, .ref h11, .ref h12, .ref h13]), (h4, aQ (k 3) 4 (q4 h18 h19 h20 h21)), (h18, ob 5 [.int h18f0, .int h18f1, .ref h46]), (h19, ob 5 [.int h19f0, .int h19f1, .ref h47]), (h20, ob 5 [.int h20f0, .int h20f1, .ref h48]), (h21, ob 5 [.int h21f0, .int h21f1, .ref h49]), (h46, aJ (k 1) 40 anJ), (h47, aJ (k 1) 40 anJ), (h48, aJ (k 1) 40 anJ), (h49, aJ (k 1) 40 anJ)] _ := hT
    refine lv_if_eq (tgt := 14) hx hb dX10_item_4 (by decide) (fun cc => absurd cc (by decide +kernel)) (fun _ => ?_)
    refine lv_iload_n hx hb dX10_item_7 rfl (lv_at hl 2 rfl) ?_
    refine tcI (Tc := []) (Tr := [(h0, ob 7 [.ref h1, .ref h2, .int h0f2, .ref h3, .ref h4, .ref h5, .int h0f6, .ref h6, .int h0f8, .ref h7, .ref h8, .int h0f11, .ref h9, .ref h10, .ref h11, .ref h12, .ref h13]), (h4, aQ (k 3) 4 (q4 h18 h19 h20 h21)), (h18, ob 5 [.int h18f0, .int h18f1, .ref h46]), (h19, ob 5 [.int h19f0, .int h19f1, .ref h47]), (h20, ob 5 [.int h20f0, .int h20f1, .ref h48]), (h21, ob 5 [.int h21f0, .int h21f1, .ref h49]), (h46, aJ (k 1) 40 anJ), (h47, aJ (k 1) 40 anJ), (h48, aJ (k 1) 40 anJ), (h49, aJ (k 1) 40 anJ)]) (as := []) (zcS (As := [.int x2]) (rest := []) (Tc := []) hx hb hml hown hU hK hT [] rfl (by decide) (cX10_isSort_a679b l D k _ x2) w732 w730 w731 w63 hdX10_isSort ⟨rfl, rfl⟩ ⟨Nat.le_of_ble_eq_true rfl, Nat.le_of_ble_eq_true rfl⟩ rfl hl.1 (Nat.le_of_ble_eq_true rfl) dX10_item_8 ⟨Nat.le_of_ble_eq_true rfl, Nat.le_of_ble_eq_true rfl⟩) hT hS hA [] [0, 1, 2, 3, 4, 5, 6, 7, 8, 9] rfl rfl rfl (by decide) (by decide) (fun r4 H locs hB J hS => ?_)
    rcases hB with ⟨rfl, hT1⟩ | ⟨c_5, c_6, rfl, hT1⟩
    · skip
      have hT := J _ hT1
      have hT : TP D A [(h0, ob 7 [.ref h1, .ref h2, .int h0f2, .ref h3, .ref h4, .ref h5, .int h0f6, .ref h6, .int h0f8, .ref h7, .ref h8, .int h0f11, .ref h9, .ref h10, .ref h11, .ref h12, .ref h13]), (h4, aQ (k 3) 4 (q4 h18 h19 h20 h21)), (h18, ob 5 [.int h18f0, .int h18f1, .ref h46]), (h19, ob 5 [.int h19f0, .int h19f1, .ref h47]), (h20, ob 5 [.int h20f0, .int h20f1, .ref h48]), (h21, ob 5 [.int h21f0, .int h21f1, .ref h49]), (h46, aJ (k 1) 40 anJ), (h47, aJ (k 1) 40 anJ), (h48, aJ (k 1) 40 anJ), (h49, aJ (k 1) 40 anJ)] _ := hT
      refine lv_if_ne (tgt := 16) hx hb dX10_item_11 (by decide) (fun cc => absurd (by decide +kernel) cc) (fun _ => ?_)
      refine lv_iconst (v := (-1)) hx hb dX10_item_14 (by decide) ?_
      exact tz_retI (B := B_cX10_item_a1675 D k h0 h4 h18 h19 h20 h21 h46 h47 h48 h49 h1 h2 h3 h5 h6 h7 h8 h9 h10 h11 h12 h13 x1 x2 x3 h0f2 h0f6 h0f8 h0f11 h18f0 h18f1 h19f0 h19f1 h20f0 h20f1 h21f0 h21f1) (v := (-1)) hQ hx hb hr hlocks hS (Nat.le_of_ble_eq_true rfl) (Nat.le_of_ble_eq_true rfl) dX10_item_15 (hT)
    · skip
      have hT := J _ hT1
      have hT : TP D A [(h0, ob 7 [.ref h1, .ref h2, .int h0f2, .ref h3, .ref h4, .ref h5, .int h0f6, .ref h6, .int h0f8, .ref h7, .ref h8, .int h0f11, .ref h9, .ref h10, .ref h11, .ref h12, .ref h13]), (h4, aQ (k 3) 4 (q4 h18 h19 h20 h21)), (h18, ob 5 [.int h18f0, .int h18f1, .ref h46]), (h19, ob 5 [.int h19f0, .int h19f1, .ref h47]), (h20, ob 5 [.int h20f0, .int h20f1, .ref h48]), (h21, ob 5 [.int h21f0, .int h21f1, .ref h49]), (h46, aJ (k 1) 40 anJ), (h47, aJ (k 1) 40 anJ), (h48, aJ (k 1) 40 anJ), (h49, aJ (k 1) 40 anJ)] _ := hT
      refine lv_if_ne (tgt := 16) hx hb dX10_item_11 (by decide) (fun _ => ?_) (fun cc => absurd cc (by decide +kernel))
      refine lv_aload_n hx hb dX10_item_16 rfl (lv_at hl 0 rfl) ?_
      refine tz_get (ci := 7) (v := .ref h4) (C := RX10) (F := TX10) (N := 17) hx hb hU iX10 hown hK hT 0 rfl rfl 4 (by decide) w253 (fun _ h9 => h9) rfl dX10_item_17 ?_
      refine lv_iload_n hx hb dX10_item_20 rfl (lv_at hl 1 rfl) ?_
      rcases (show x1.toInt = 0 ∨ x1.toInt = 1 ∨ x1.toInt = 2 ∨ x1.toInt = 3 by omega) with hq7 | hq7 | hq7 | hq7
      · skip
        refine tz_aldq (b := h18) hx hb hK hT 1 rfl (vp_in_iff.mpr (by have := hq7; omega)) (fun f hf => by rw [cl_of hq7]; exact hf.1) dX10_item_21 ?_
        refine lv_astore (lv' := [(4, .ref h18), (0, .ref h0), (1, .int x1), (2, .int x2), (3, .int x3)]) hx hb dX10_item_22 hl (by decide) rfl (fun ls hl => ?_)
        refine lv_aload hx hb dX10_item_24 (lv_at hl 0 rfl) ?_
        refine tcI (Tc := [(h18, ob 5 [.int h18f0, .int h18f1, .ref h46])]) (Tr := [(h0, ob 7 [.ref h1, .ref h2, .int h0f2, .ref h3, .ref h4, .ref h5, .int h0f6, .ref h6, .int h0f8, .ref h7, .ref h8, .int h0f11, .ref h9, .ref h10, .ref h11, .ref h12, .ref h13]), (h4, aQ (k 3) 4 (q4 h18 h19 h20 h21)), (h19, ob 5 [.int h19f0, .int h19f1, .ref h47]), (h20, ob 5 [.int h20f0, .int h20f1, .ref h48]), (h21, ob 5 [.int h21f0, .int h21f1, .ref h49]), (h46, aJ (k 1) 40 anJ), (h47, aJ (k 1) 40 anJ), (h48, aJ (k 1) 40 anJ), (h49, aJ (k 1) 40 anJ)]) (as := [h18]) (zcV (q0 := 2) (ci := 5) (As := []) (rest := []) (Tc := [(h18, ob 5 [.int h18f0, .int h18f1, .ref h46])]) hx hb hml hown hU hK hT rfl rfl [2] rfl (by decide) (cX6_isMissing_56a93 l D k _ h18 h46 h18f0 h18f1 (by omega) (by omega)) w644 w641 w642 w643 w71 hdX6_isMissing ⟨rfl, rfl⟩ ⟨Nat.le_of_ble_eq_true rfl, Nat.le_of_ble_eq_true rfl⟩ rfl hl.1 (Nat.le_of_ble_eq_true rfl) dX10_item_26 ⟨Nat.le_of_ble_eq_true rfl, Nat.le_of_ble_eq_true rfl⟩) hT hS hA [2] [0, 1, 3, 4, 5, 6, 7, 8, 9] rfl rfl rfl (by decide) (by decide) (fun r8 H locs hB J hS => ?_)
        rcases hB with ⟨c_9, rfl, hT1⟩ | ⟨rfl, hT1⟩
        · skip
          have hT := J _ hT1
          have hT : TP D A [(h0, ob 7 [.ref h1, .ref h2, .int h0f2, .ref h3, .ref h4, .ref h5, .int h0f6, .ref h6, .int h0f8, .ref h7, .ref h8, .int h0f11, .ref h9, .ref h10, .ref h11, .ref h12, .ref h13]), (h4, aQ (k 3) 4 (q4 h18 h19 h20 h21)), (h19, ob 5 [.int h19f0, .int h19f1, .ref h47]), (h20, ob 5 [.int h20f0, .int h20f1, .ref h48]), (h21, ob 5 [.int h21f0, .int h21f1, .ref h49]), (h46, aJ (k 1) 40 anJ), (h47, aJ (k 1) 40 anJ), (h48, aJ (k 1) 40 anJ), (h49, aJ (k 1) 40 anJ), (h18, ob 5 [.int h18f0, .int h18f1, .ref h46])] _ := hT
          refine lv_if_eq (tgt := 35) hx hb dX10_item_29 (by decide) (fun _ => ?_) (fun cc => absurd (by decide +kernel) cc)
          refine lv_aload hx hb dX10_item_35 (lv_at hl 0 rfl) ?_
          refine tz_get (ci := 5) (v := .int h18f0) (C := RX6) (F := TX6) (N := 3) hx hb hU iX6 hown hK hT 9 rfl rfl 0 (by decide) w238 (fun _ h9 => h9) rfl dX10_item_37 ?_
          refine lv_iload_n hx hb dX10_item_40 rfl (lv_at hl 3 rfl) ?_
          refine lv_icmp_eq (tgt := 47) hx hb dX10_item_41 (by decide) (fun c_10 => ?_) (fun c_10 => ?_)
          · skip
            have c_10 := ni_eq c_10 rfl rfl
            refine lv_aload hx hb dX10_item_47 (lv_at hl 0 rfl) ?_
            refine lv_iload_n hx hb dX10_item_49 rfl (lv_at hl 4 rfl) ?_
            refine lv_iconst (v := 1) hx hb dX10_item_50 (by decide) ?_
            have q_q12 := li_1
            refine tcI (Tc := [(h18, ob 5 [.int h18f0, .int h18f1, .ref h46])]) (Tr := [(h0, ob 7 [.ref h1, .ref h2, .int h0f2, .ref h3, .ref h4, .ref h5, .int h0f6, .ref h6, .int h0f8, .ref h7, .ref h8, .int h0f11, .ref h9, .ref h10, .ref h11, .ref h12, .ref h13]), (h4, aQ (k 3) 4 (q4 h18 h19 h20 h21)), (h19, ob 5 [.int h19f0, .int h19f1, .ref h47]), (h20, ob 5 [.int h20f0, .int h20f1, .ref h48]), (h21, ob 5 [.int h21f0, .int h21f1, .ref h49]), (h46, aJ (k 1) 40 anJ), (h47, aJ (k 1) 40 anJ), (h48, aJ (k 1) 40 anJ), (h49, aJ (k 1) 40 anJ)]) (as := [h18]) (zcV (q0 := 9) (ci := 5) (As := [.int x3, .int 1]) (rest := []) (Tc := [(h18, ob 5 [.int h18f0, .int h18f1, .ref h46])]) hx hb hml hown hU hK hT rfl rfl [9] rfl (by decide) (cX6_isOutside_cc85b l D k _ h18 h46 x3 (1) h18f0 h18f1 (by omega) (by omega)) w648 w645 w646 w647 w71 hdX6_isOutside ⟨rfl, rfl⟩ ⟨Nat.le_of_ble_eq_true rfl, Nat.le_of_ble_eq_true rfl⟩ rfl hl.1 (Nat.le_of_ble_eq_true rfl) dX10_item_51 ⟨Nat.le_of_ble_eq_true rfl, Nat.le_of_ble_eq_true rfl⟩) hT hS hA [9] [0, 1, 2, 3, 4, 5, 6, 7, 8] rfl rfl rfl (by decide) (by decide) (fun r11 H locs hB J hS => ?_)
            rcases hB with ⟨rfl, hT1⟩ | ⟨c_13, c_14, c_15, rfl, hT1⟩
            · skip
              have hT := J _ hT1
              have hT : TP D A [(h0, ob 7 [.ref h1, .ref h2, .int h0f2, .ref h3, .ref h4, .ref h5, .int h0f6, .ref h6, .int h0f8, .ref h7, .ref h8, .int h0f11, .ref h9, .ref h10, .ref h11, .ref h12, .ref h13]), (h4, aQ (k 3) 4 (q4 h18 h19 h20 h21)), (h19, ob 5 [.int h19f0, .int h19f1, .ref h47]), (h20, ob 5 [.int h20f0, .int h20f1, .ref h48]), (h21, ob 5 [.int h21f0, .int h21f1, .ref h49]), (h46, aJ (k 1) 40 anJ), (h47, aJ (k 1) 40 anJ), (h48, aJ (k 1) 40 anJ), (h49, aJ (k 1) 40 anJ), (h18, ob 5 [.int h18f0, .int h18f1, .ref h46])] _ := hT
              refine lv_if_eq (tgt := 60) hx hb dX10_item_54 (by decide) (fun cc => absurd cc (by decide +kernel)) (fun _ => ?_)
              refine lv_bipush (v := (-12)) hx hb dX10_item_57 (by decide) ?_
              exact tz_retI (B := B_cX10_item_a1675 D k h0 h4 h18 h19 h20 h21 h46 h47 h48 h49 h1 h2 h3 h5 h6 h7 h8 h9 h10 h11 h12 h13 x1 x2 x3 h0f2 h0f6 h0f8 h0f11 h18f0 h18f1 h19f0 h19f1 h20f0 h20f1 h21f0 h21f1) (v := (-12)) hQ hx hb hr hlocks hS (Nat.le_of_ble_eq_true rfl) (Nat.le_of_ble_eq_true rfl) dX10_item_59 ((hT.sub [0, 1, 9, 2, 3, 4, 5, 6, 7, 8] (by decide) rfl))
            · skip
              have hT := J _ hT1
              have hT : TP D A [(h0, ob 7 [.ref h1, .ref h2, .int h0f2, .ref h3, .ref h4, .ref h5, .int h0f6, .ref h6, .int h0f8, .ref h7, .ref h8, .int h0f11, .ref h9, .ref h10, .ref h11, .ref h12, .ref h13]), (h4, aQ (k 3) 4 (q4 h18 h19 h20 h21)), (h19, ob 5 [.int h19f0, .int h19f1, .ref h47]), (h20, ob 5 [.int h20f0, .int h20f1, .ref h48]), (h21, ob 5 [.int h21f0, .int h21f1, .ref h49]), (h46, aJ (k 1) 40 anJ), (h47, aJ (k 1) 40 anJ), (h48, aJ (k 1) 40 anJ), (h49, aJ (k 1) 40 anJ), (h18, ob 5 [.int h18f0, .int h18f1, .ref h46])] _ := hT
              refine lv_if_eq (tgt := 60) hx hb dX10_item_54 (by decide) (fun _ => ?_) (fun cc => absurd (by decide +kernel) cc)
              refine lv_aload hx hb dX10_item_60 (lv_at hl 0 rfl) ?_
              refine tz_get (ci := 5) (v := .ref h46) (C := RX6) (F := TX6) (N := 3) hx hb hU iX6 hown hK hT 9 rfl rfl 2 (by decide) w241 (fun _ h9 => h9) rfl dX10_item_62 ?_
              refine lv_iload_n hx hb dX10_item_65 rfl (lv_at hl 4 rfl) ?_
              refine tz_lald hx hb hK hT 5 rfl (by omega) dX10_item_66 (fun v16 e_v16 => ?_)
              clear e_v16
              refine lv_l2i hx hb dX10_item_67 rfl (lv_topi (fun v17 _ => ?_))
              exact tz_retI (B := B_cX10_item_a1675 D k h0 h4 h18 h19 h20 h21 h46 h47 h48 h49 h1 h2 h3 h5 h6 h7 h8 h9 h10 h11 h12 h13 x1 x2 x3 h0f2 h0f6 h0f8 h0f11 h18f0 h18f1 h19f0 h19f1 h20f0 h20f1 h21f0 h21f1) (v := v17) hQ hx hb hr hlocks hS (Nat.le_of_ble_eq_true rfl) (Nat.le_of_ble_eq_true rfl) dX10_item_68 ((hT.sub [0, 1, 9, 2, 3, 4, 5, 6, 7, 8] (by decide) rfl))
          · skip
            have c_10 := ni_ne c_10 rfl rfl
            refine lv_bipush (v := (-13)) hx hb dX10_item_44 (by decide) ?_
            exact tz_retI (B := B_cX10_item_a1675 D k h0 h4 h18 h19 h20 h21 h46 h47 h48 h49 h1 h2 h3 h5 h6 h7 h8 h9 h10 h11 h12 h13 x1 x2 x3 h0f2 h0f6 h0f8 h0f11 h18f0 h18f1 h19f0 h19f1 h20f0 h20f1 h21f0 h21f1) (v := (-13)) hQ hx hb hr hlocks hS (Nat.le_of_ble_eq_true rfl) (Nat.le_of_ble_eq_true rfl) dX10_item_46 ((hT.sub [0, 1, 9, 2, 3, 4, 5, 6, 7, 8] (by decide) rfl))
        · skip
          have hT := J _ hT1
          have hT : TP D A [(h0, ob 7 [.ref h1, .ref h2, .int h0f2, .ref h3, .ref h4, .ref h5, .int h0f6, .ref h6, .int h0f8, .ref h7, .ref h8, .int h0f11, .ref h9, .ref h10, .ref h11, .ref h12, .ref h13]), (h4, aQ (k 3) 4 (q4 h18 h19 h20 h21)), (h19, ob 5 [.int h19f0, .int h19f1, .ref h47]), (h20, ob 5 [.int h20f0, .int h20f1, .ref h48]), (h21, ob 5 [.int h21f0, .int h21f1, .ref h49]), (h46, aJ (k 1) 40 anJ), (h47, aJ (k 1) 40 anJ), (h48, aJ (k 1) 40 anJ), (h49, aJ (k 1) 40 anJ), (h18, ob 5 [.int h18f0, .int h18f1, .ref h46])] _ := hT
          refine lv_if_eq (tgt := 35) hx hb dX10_item_29 (by decide) (fun cc => absurd cc (by decide +kernel)) (fun _ => ?_)
          refine lv_bipush (v := (-11)) hx hb dX10_item_32 (by decide) ?_
          exact tz_retI (B := B_cX10_item_a1675 D k h0 h4 h18 h19 h20 h21 h46 h47 h48 h49 h1 h2 h3 h5 h6 h7 h8 h9 h10 h11 h12 h13 x1 x2 x3 h0f2 h0f6 h0f8 h0f11 h18f0 h18f1 h19f0 h19f1 h20f0 h20f1 h21f0 h21f1) (v := (-11)) hQ hx hb hr hlocks hS (Nat.le_of_ble_eq_true rfl) (Nat.le_of_ble_eq_true rfl) dX10_item_34 ((hT.sub [0, 1, 9, 2, 3, 4, 5, 6, 7, 8] (by decide) rfl))
      · skip
        refine tz_aldq (b := h19) hx hb hK hT 1 rfl (vp_in_iff.mpr (by have := hq7; omega)) (fun f hf => by rw [cl_of hq7]; exact hf.2.1) dX10_item_21 ?_
        refine lv_astore (lv' := [(4, .ref h19), (0, .ref h0), (1, .int x1), (2, .int x2), (3, .int x3)]) hx hb dX10_item_22 hl (by decide) rfl (fun ls hl => ?_)
        refine lv_aload hx hb dX10_item_24 (lv_at hl 0 rfl) ?_
        refine tcI (Tc := [(h19, ob 5 [.int h19f0, .int h19f1, .ref h47])]) (Tr := [(h0, ob 7 [.ref h1, .ref h2, .int h0f2, .ref h3, .ref h4, .ref h5, .int h0f6, .ref h6, .int h0f8, .ref h7, .ref h8, .int h0f11, .ref h9, .ref h10, .ref h11, .ref h12, .ref h13]), (h4, aQ (k 3) 4 (q4 h18 h19 h20 h21)), (h18, ob 5 [.int h18f0, .int h18f1, .ref h46]), (h20, ob 5 [.int h20f0, .int h20f1, .ref h48]), (h21, ob 5 [.int h21f0, .int h21f1, .ref h49]), (h46, aJ (k 1) 40 anJ), (h47, aJ (k 1) 40 anJ), (h48, aJ (k 1) 40 anJ), (h49, aJ (k 1) 40 anJ)]) (as := [h19]) (zcV (q0 := 3) (ci := 5) (As := []) (rest := []) (Tc := [(h19, ob 5 [.int h19f0, .int h19f1, .ref h47])]) hx hb hml hown hU hK hT rfl rfl [3] rfl (by decide) (cX6_isMissing_56a93 l D k _ h19 h47 h19f0 h19f1 (by omega) (by omega)) w644 w641 w642 w643 w71 hdX6_isMissing ⟨rfl, rfl⟩ ⟨Nat.le_of_ble_eq_true rfl, Nat.le_of_ble_eq_true rfl⟩ rfl hl.1 (Nat.le_of_ble_eq_true rfl) dX10_item_26 ⟨Nat.le_of_ble_eq_true rfl, Nat.le_of_ble_eq_true rfl⟩) hT hS hA [3] [0, 1, 2, 4, 5, 6, 7, 8, 9] rfl rfl rfl (by decide) (by decide) (fun r18 H locs hB J hS => ?_)
        rcases hB with ⟨c_19, rfl, hT1⟩ | ⟨rfl, hT1⟩
        · skip
          have hT := J _ hT1
          have hT : TP D A [(h0, ob 7 [.ref h1, .ref h2, .int h0f2, .ref h3, .ref h4, .ref h5, .int h0f6, .ref h6, .int h0f8, .ref h7, .ref h8, .int h0f11, .ref h9, .ref h10, .ref h11, .ref h12, .ref h13]), (h4, aQ (k 3) 4 (q4 h18 h19 h20 h21)), (h18, ob 5 [.int h18f0, .int h18f1, .ref h46]), (h20, ob 5 [.int h20f0, .int h20f1, .ref h48]), (h21, ob 5 [.int h21f0, .int h21f1, .ref h49]), (h46, aJ (k 1) 40 anJ), (h47, aJ (k 1) 40 anJ), (h48, aJ (k 1) 40 anJ), (h49, aJ (k 1) 40 anJ), (h19, ob 5 [.int h19f0, .int h19f1, .ref h47])] _ := hT
          refine lv_if_eq (tgt := 35) hx hb dX10_item_29 (by decide) (fun _ => ?_) (fun cc => absurd (by decide +kernel) cc)
          refine lv_aload hx hb dX10_item_35 (lv_at hl 0 rfl) ?_
          refine tz_get (ci := 5) (v := .int h19f0) (C := RX6) (F := TX6) (N := 3) hx hb hU iX6 hown hK hT 9 rfl rfl 0 (by decide) w238 (fun _ h9 => h9) rfl dX10_item_37 ?_
          refine lv_iload_n hx hb dX10_item_40 rfl (lv_at hl 3 rfl) ?_
          refine lv_icmp_eq (tgt := 47) hx hb dX10_item_41 (by decide) (fun c_20 => ?_) (fun c_20 => ?_)
          · skip
            have c_20 := ni_eq c_20 rfl rfl
            refine lv_aload hx hb dX10_item_47 (lv_at hl 0 rfl) ?_
            refine lv_iload_n hx hb dX10_item_49 rfl (lv_at hl 4 rfl) ?_
            refine lv_iconst (v := 1) hx hb dX10_item_50 (by decide) ?_
            have q_q22 := li_1
            refine tcI (Tc := [(h19, ob 5 [.int h19f0, .int h19f1, .ref h47])]) (Tr := [(h0, ob 7 [.ref h1, .ref h2, .int h0f2, .ref h3, .ref h4, .ref h5, .int h0f6, .ref h6, .int h0f8, .ref h7, .ref h8, .int h0f11, .ref h9, .ref h10, .ref h11, .ref h12, .ref h13]), (h4, aQ (k 3) 4 (q4 h18 h19 h20 h21)), (h18, ob 5 [.int h18f0, .int h18f1, .ref h46]), (h20, ob 5 [.int h20f0, .int h20f1, .ref h48]), (h21, ob 5 [.int h21f0, .int h21f1, .ref h49]), (h46, aJ (k 1) 40 anJ), (h47, aJ (k 1) 40 anJ), (h48, aJ (k 1) 40 anJ), (h49, aJ (k 1) 40 anJ)]) (as := [h19]) (zcV (q0 := 9) (ci := 5) (As := [.int x3, .int 1]) (rest := []) (Tc := [(h19, ob 5 [.int h19f0, .int h19f1, .ref h47])]) hx hb hml hown hU hK hT rfl rfl [9] rfl (by decide) (cX6_isOutside_cc85b l D k _ h19 h47 x3 (1) h19f0 h19f1 (by omega) (by omega)) w648 w645 w646 w647 w71 hdX6_isOutside ⟨rfl, rfl⟩ ⟨Nat.le_of_ble_eq_true rfl, Nat.le_of_ble_eq_true rfl⟩ rfl hl.1 (Nat.le_of_ble_eq_true rfl) dX10_item_51 ⟨Nat.le_of_ble_eq_true rfl, Nat.le_of_ble_eq_true rfl⟩) hT hS hA [9] [0, 1, 2, 3, 4, 5, 6, 7, 8] rfl rfl rfl (by decide) (by decide) (fun r21 H locs hB J hS => ?_)
            rcases hB with ⟨rfl, hT1⟩ | ⟨c_23, c_24, c_25, rfl, hT1⟩
            · skip
              have hT := J _ hT1
              have hT : TP D A [(h0, ob 7 [.ref h1, .ref h2, .int h0f2, .ref h3, .ref h4, .ref h5, .int h0f6, .ref h6, .int h0f8, .ref h7, .ref h8, .int h0f11, .ref h9, .ref h10, .ref h11, .ref h12, .ref h13]), (h4, aQ (k 3) 4 (q4 h18 h19 h20 h21)), (h18, ob 5 [.int h18f0, .int h18f1, .ref h46]), (h20, ob 5 [.int h20f0, .int h20f1, .ref h48]), (h21, ob 5 [.int h21f0, .int h21f1, .ref h49]), (h46, aJ (k 1) 40 anJ), (h47, aJ (k 1) 40 anJ), (h48, aJ (k 1) 40 anJ), (h49, aJ (k 1) 40 anJ), (h19, ob 5 [.int h19f0, .int h19f1, .ref h47])] _ := hT
              refine lv_if_eq (tgt := 60) hx hb dX10_item_54 (by decide) (fun cc => absurd cc (by decide +kernel)) (fun _ => ?_)
              refine lv_bipush (v := (-12)) hx hb dX10_item_57 (by decide) ?_
              exact tz_retI (B := B_cX10_item_a1675 D k h0 h4 h18 h19 h20 h21 h46 h47 h48 h49 h1 h2 h3 h5 h6 h7 h8 h9 h10 h11 h12 h13 x1 x2 x3 h0f2 h0f6 h0f8 h0f11 h18f0 h18f1 h19f0 h19f1 h20f0 h20f1 h21f0 h21f1) (v := (-12)) hQ hx hb hr hlocks hS (Nat.le_of_ble_eq_true rfl) (Nat.le_of_ble_eq_true rfl) dX10_item_59 ((hT.sub [0, 1, 2, 9, 3, 4, 5, 6, 7, 8] (by decide) rfl))
            · skip
              have hT := J _ hT1
              have hT : TP D A [(h0, ob 7 [.ref h1, .ref h2, .int h0f2, .ref h3, .ref h4, .ref h5, .int h0f6, .ref h6, .int h0f8, .ref h7, .ref h8, .int h0f11, .ref h9, .ref h10, .ref h11, .ref h12, .ref h13]), (h4, aQ (k 3) 4 (q4 h18 h19 h20 h21)), (h18, ob 5 [.int h18f0, .int h18f1, .ref h46]), (h20, ob 5 [.int h20f0, .int h20f1, .ref h48]), (h21, ob 5 [.int h21f0, .int h21f1, .ref h49]), (h46, aJ (k 1) 40 anJ), (h47, aJ (k 1) 40 anJ), (h48, aJ (k 1) 40 anJ), (h49, aJ (k 1) 40 anJ), (h19, ob 5 [.int h19f0, .int h19f1, .ref h47])] _ := hT
              refine lv_if_eq (tgt := 60) hx hb dX10_item_54 (by decide) (fun _ => ?_) (fun cc => absurd (by decide +kernel) cc)
              refine lv_aload hx hb dX10_item_60 (lv_at hl 0 rfl) ?_
              refine tz_get (ci := 5) (v := .ref h47) (C := RX6) (F := TX6) (N := 3) hx hb hU iX6 hown hK hT 9 rfl rfl 2 (by decide) w241 (fun _ h9 => h9) rfl dX10_item_62 ?_
              refine lv_iload_n hx hb dX10_item_65 rfl (lv_at hl 4 rfl) ?_
              refine tz_lald hx hb hK hT 6 rfl (by omega) dX10_item_66 (fun v26 e_v26 => ?_)
              clear e_v26
              refine lv_l2i hx hb dX10_item_67 rfl (lv_topi (fun v27 _ => ?_))
              exact tz_retI (B := B_cX10_item_a1675 D k h0 h4 h18 h19 h20 h21 h46 h47 h48 h49 h1 h2 h3 h5 h6 h7 h8 h9 h10 h11 h12 h13 x1 x2 x3 h0f2 h0f6 h0f8 h0f11 h18f0 h18f1 h19f0 h19f1 h20f0 h20f1 h21f0 h21f1) (v := v27) hQ hx hb hr hlocks hS (Nat.le_of_ble_eq_true rfl) (Nat.le_of_ble_eq_true rfl) dX10_item_68 ((hT.sub [0, 1, 2, 9, 3, 4, 5, 6, 7, 8] (by decide) rfl))
          · skip
            have c_20 := ni_ne c_20 rfl rfl
            refine lv_bipush (v := (-13)) hx hb dX10_item_44 (by decide) ?_
            exact tz_retI (B := B_cX10_item_a1675 D k h0 h4 h18 h19 h20 h21 h46 h47 h48 h49 h1 h2 h3 h5 h6 h7 h8 h9 h10 h11 h12 h13 x1 x2 x3 h0f2 h0f6 h0f8 h0f11 h18f0 h18f1 h19f0 h19f1 h20f0 h20f1 h21f0 h21f1) (v := (-13)) hQ hx hb hr hlocks hS (Nat.le_of_ble_eq_true rfl) (Nat.le_of_ble_eq_true rfl) dX10_item_46 ((hT.sub [0, 1, 2, 9, 3, 4, 5, 6, 7, 8] (by decide) rfl))
        · skip
          have hT := J _ hT1
          have hT : TP D A [(h0, ob 7 [.ref h1, .ref h2, .int h0f2, .ref h3, .ref h4, .ref h5, .int h0f6, .ref h6, .int h0f8, .ref h7, .ref h8, .int h0f11, .ref h9, .ref h10, .ref h11, .ref h12, .ref h13]), (h4, aQ (k 3) 4 (q4 h18 h19 h20 h21)), (h18, ob 5 [.int h18f0, .int h18f1, .ref h46]), (h20, ob 5 [.int h20f0, .int h20f1, .ref h48]), (h21, ob 5 [.int h21f0, .int h21f1, .ref h49]), (h46, aJ (k 1) 40 anJ), (h47, aJ (k 1) 40 anJ), (h48, aJ (k 1) 40 anJ), (h49, aJ (k 1) 40 anJ), (h19, ob 5 [.int h19f0, .int h19f1, .ref h47])] _ := hT
          refine lv_if_eq (tgt := 35) hx hb dX10_item_29 (by decide) (fun cc => absurd cc (by decide +kernel)) (fun _ => ?_)
          refine lv_bipush (v := (-11)) hx hb dX10_item_32 (by decide) ?_
          exact tz_retI (B := B_cX10_item_a1675 D k h0 h4 h18 h19 h20 h21 h46 h47 h48 h49 h1 h2 h3 h5 h6 h7 h8 h9 h10 h11 h12 h13 x1 x2 x3 h0f2 h0f6 h0f8 h0f11 h18f0 h18f1 h19f0 h19f1 h20f0 h20f1 h21f0 h21f1) (v := (-11)) hQ hx hb hr hlocks hS (Nat.le_of_ble_eq_true rfl) (Nat.le_of_ble_eq_true rfl) dX10_item_34 ((hT.sub [0, 1, 2, 9, 3, 4, 5, 6, 7, 8] (by decide) rfl))
      · skip
        refine tz_aldq (b := h20) hx hb hK hT 1 rfl (vp_in_iff.mpr (by have := hq7; omega)) (fun f hf => by rw [cl_of hq7]; exact hf.2.2.1) dX10_item_21 ?_
        refine lv_astore (lv' := [(4, .ref h20), (0, .ref h0), (1, .int x1), (2, .int x2), (3, .int x3)]) hx hb dX10_item_22 hl (by decide) rfl (fun ls hl => ?_)
        refine lv_aload hx hb dX10_item_24 (lv_at hl 0 rfl) ?_
        refine tcI (Tc := [(h20, ob 5 [.int h20f0, .int h20f1, .ref h48])]) (Tr := [(h0, ob 7 [.ref h1, .ref h2, .int h0f2, .ref h3, .ref h4, .ref h5, .int h0f6, .ref h6, .int h0f8, .ref h7, .ref h8, .int h0f11, .ref h9, .ref h10, .ref h11, .ref h12, .ref h13]), (h4, aQ (k 3) 4 (q4 h18 h19 h20 h21)), (h18, ob 5 [.int h18f0, .int h18f1, .ref h46]), (h19, ob 5 [.int h19f0, .int h19f1, .ref h47]), (h21, ob 5 [.int h21f0, .int h21f1, .ref h49]), (h46, aJ (k 1) 40 anJ), (h47, aJ (k 1) 40 anJ), (h48, aJ (k 1) 40 anJ), (h49, aJ (k 1) 40 anJ)]) (as := [h20]) (zcV (q0 := 4) (ci := 5) (As := []) (rest := []) (Tc := [(h20, ob 5 [.int h20f0, .int h20f1, .ref h48])]) hx hb hml hown hU hK hT rfl rfl [4] rfl (by decide) (cX6_isMissing_56a93 l D k _ h20 h48 h20f0 h20f1 (by omega) (by omega)) w644 w641 w642 w643 w71 hdX6_isMissing ⟨rfl, rfl⟩ ⟨Nat.le_of_ble_eq_true rfl, Nat.le_of_ble_eq_true rfl⟩ rfl hl.1 (Nat.le_of_ble_eq_true rfl) dX10_item_26 ⟨Nat.le_of_ble_eq_true rfl, Nat.le_of_ble_eq_true rfl⟩) hT hS hA [4] [0, 1, 2, 3, 5, 6, 7, 8, 9] rfl rfl rfl (by decide) (by decide) (fun r28 H locs hB J hS => ?_)
        rcases hB with ⟨c_29, rfl, hT1⟩ | ⟨rfl, hT1⟩
        · skip
          have hT := J _ hT1
          have hT : TP D A [(h0, ob 7 [.ref h1, .ref h2, .int h0f2, .ref h3, .ref h4, .ref h5, .int h0f6, .ref h6, .int h0f8, .ref h7, .ref h8, .int h0f11, .ref h9, .ref h10, .ref h11, .ref h12, .ref h13]), (h4, aQ (k 3) 4 (q4 h18 h19 h20 h21)), (h18, ob 5 [.int h18f0, .int h18f1, .ref h46]), (h19, ob 5 [.int h19f0, .int h19f1, .ref h47]), (h21, ob 5 [.int h21f0, .int h21f1, .ref h49]), (h46, aJ (k 1) 40 anJ), (h47, aJ (k 1) 40 anJ), (h48, aJ (k 1) 40 anJ), (h49, aJ (k 1) 40 anJ), (h20, ob 5 [.int h20f0, .int h20f1, .ref h48])] _ := hT
          refine lv_if_eq (tgt := 35) hx hb dX10_item_29 (by decide) (fun _ => ?_) (fun cc => absurd (by decide +kernel) cc)
          refine lv_aload hx hb dX10_item_35 (lv_at hl 0 rfl) ?_
          refine tz_get (ci := 5) (v := .int h20f0) (C := RX6) (F := TX6) (N := 3) hx hb hU iX6 hown hK hT 9 rfl rfl 0 (by decide) w238 (fun _ h9 => h9) rfl dX10_item_37 ?_
          refine lv_iload_n hx hb dX10_item_40 rfl (lv_at hl 3 rfl) ?_
          refine lv_icmp_eq (tgt := 47) hx hb dX10_item_41 (by decide) (fun c_30 => ?_) (fun c_30 => ?_)
          · skip
            have c_30 := ni_eq c_30 rfl rfl
            refine lv_aload hx hb dX10_item_47 (lv_at hl 0 rfl) ?_
            refine lv_iload_n hx hb dX10_item_49 rfl (lv_at hl 4 rfl) ?_
            refine lv_iconst (v := 1) hx hb dX10_item_50 (by decide) ?_
            have q_q32 := li_1
            refine tcI (Tc := [(h20, ob 5 [.int h20f0, .int h20f1, .ref h48])]) (Tr := [(h0, ob 7 [.ref h1, .ref h2, .int h0f2, .ref h3, .ref h4, .ref h5, .int h0f6, .ref h6, .int h0f8, .ref h7, .ref h8, .int h0f11, .ref h9, .ref h10, .ref h11, .ref h12, .ref h13]), (h4, aQ (k 3) 4 (q4 h18 h19 h20 h21)), (h18, ob 5 [.int h18f0, .int h18f1, .ref h46]), (h19, ob 5 [.int h19f0, .int h19f1, .ref h47]), (h21, ob 5 [.int h21f0, .int h21f1, .ref h49]), (h46, aJ (k 1) 40 anJ), (h47, aJ (k 1) 40 anJ), (h48, aJ (k 1) 40 anJ), (h49, aJ (k 1) 40 anJ)]) (as := [h20]) (zcV (q0 := 9) (ci := 5) (As := [.int x3, .int 1]) (rest := []) (Tc := [(h20, ob 5 [.int h20f0, .int h20f1, .ref h48])]) hx hb hml hown hU hK hT rfl rfl [9] rfl (by decide) (cX6_isOutside_cc85b l D k _ h20 h48 x3 (1) h20f0 h20f1 (by omega) (by omega)) w648 w645 w646 w647 w71 hdX6_isOutside ⟨rfl, rfl⟩ ⟨Nat.le_of_ble_eq_true rfl, Nat.le_of_ble_eq_true rfl⟩ rfl hl.1 (Nat.le_of_ble_eq_true rfl) dX10_item_51 ⟨Nat.le_of_ble_eq_true rfl, Nat.le_of_ble_eq_true rfl⟩) hT hS hA [9] [0, 1, 2, 3, 4, 5, 6, 7, 8] rfl rfl rfl (by decide) (by decide) (fun r31 H locs hB J hS => ?_)
            rcases hB with ⟨rfl, hT1⟩ | ⟨c_33, c_34, c_35, rfl, hT1⟩
            · skip
              have hT := J _ hT1
              have hT : TP D A [(h0, ob 7 [.ref h1, .ref h2, .int h0f2, .ref h3, .ref h4, .ref h5, .int h0f6, .ref h6, .int h0f8, .ref h7, .ref h8, .int h0f11, .ref h9, .ref h10, .ref h11, .ref h12, .ref h13]), (h4, aQ (k 3) 4 (q4 h18 h19 h20 h21)), (h18, ob 5 [.int h18f0, .int h18f1, .ref h46]), (h19, ob 5 [.int h19f0, .int h19f1, .ref h47]), (h21, ob 5 [.int h21f0, .int h21f1, .ref h49]), (h46, aJ (k 1) 40 anJ), (h47, aJ (k 1) 40 anJ), (h48, aJ (k 1) 40 anJ), (h49, aJ (k 1) 40 anJ), (h20, ob 5 [.int h20f0, .int h20f1, .ref h48])] _ := hT
              refine lv_if_eq (tgt := 60) hx hb dX10_item_54 (by decide) (fun cc => absurd cc (by decide +kernel)) (fun _ => ?_)
              refine lv_bipush (v := (-12)) hx hb dX10_item_57 (by decide) ?_
              exact tz_retI (B := B_cX10_item_a1675 D k h0 h4 h18 h19 h20 h21 h46 h47 h48 h49 h1 h2 h3 h5 h6 h7 h8 h9 h10 h11 h12 h13 x1 x2 x3 h0f2 h0f6 h0f8 h0f11 h18f0 h18f1 h19f0 h19f1 h20f0 h20f1 h21f0 h21f1) (v := (-12)) hQ hx hb hr hlocks hS (Nat.le_of_ble_eq_true rfl) (Nat.le_of_ble_eq_true rfl) dX10_item_59 ((hT.sub [0, 1, 2, 3, 9, 4, 5, 6, 7, 8] (by decide) rfl))
            · skip
              have hT := J _ hT1
              have hT : TP D A [(h0, ob 7 [.ref h1, .ref h2, .int h0f2, .ref h3, .ref h4, .ref h5, .int h0f6, .ref h6, .int h0f8, .ref h7, .ref h8, .int h0f11, .ref h9, .ref h10, .ref h11, .ref h12, .ref h13]), (h4, aQ (k 3) 4 (q4 h18 h19 h20 h21)), (h18, ob 5 [.int h18f0, .int h18f1, .ref h46]), (h19, ob 5 [.int h19f0, .int h19f1, .ref h47]), (h21, ob 5 [.int h21f0, .int h21f1, .ref h49]), (h46, aJ (k 1) 40 anJ), (h47, aJ (k 1) 40 anJ), (h48, aJ (k 1) 40 anJ), (h49, aJ (k 1) 40 anJ), (h20, ob 5 [.int h20f0, .int h20f1, .ref h48])] _ := hT
              refine lv_if_eq (tgt := 60) hx hb dX10_item_54 (by decide) (fun _ => ?_) (fun cc => absurd (by decide +kernel) cc)
              refine lv_aload hx hb dX10_item_60 (lv_at hl 0 rfl) ?_
              refine tz_get (ci := 5) (v := .ref h48) (C := RX6) (F := TX6) (N := 3) hx hb hU iX6 hown hK hT 9 rfl rfl 2 (by decide) w241 (fun _ h9 => h9) rfl dX10_item_62 ?_
              refine lv_iload_n hx hb dX10_item_65 rfl (lv_at hl 4 rfl) ?_
              refine tz_lald hx hb hK hT 7 rfl (by omega) dX10_item_66 (fun v36 e_v36 => ?_)
              clear e_v36
              refine lv_l2i hx hb dX10_item_67 rfl (lv_topi (fun v37 _ => ?_))
              exact tz_retI (B := B_cX10_item_a1675 D k h0 h4 h18 h19 h20 h21 h46 h47 h48 h49 h1 h2 h3 h5 h6 h7 h8 h9 h10 h11 h12 h13 x1 x2 x3 h0f2 h0f6 h0f8 h0f11 h18f0 h18f1 h19f0 h19f1 h20f0 h20f1 h21f0 h21f1) (v := v37) hQ hx hb hr hlocks hS (Nat.le_of_ble_eq_true rfl) (Nat.le_of_ble_eq_true rfl) dX10_item_68 ((hT.sub [0, 1, 2, 3, 9, 4, 5, 6, 7, 8] (by decide) rfl))
          · skip
            have c_30 := ni_ne c_30 rfl rfl
            refine lv_bipush (v := (-13)) hx hb dX10_item_44 (by decide) ?_
            exact tz_retI (B := B_cX10_item_a1675 D k h0 h4 h18 h19 h20 h21 h46 h47 h48 h49 h1 h2 h3 h5 h6 h7 h8 h9 h10 h11 h12 h13 x1 x2 x3 h0f2 h0f6 h0f8 h0f11 h18f0 h18f1 h19f0 h19f1 h20f0 h20f1 h21f0 h21f1) (v := (-13)) hQ hx hb hr hlocks hS (Nat.le_of_ble_eq_true rfl) (Nat.le_of_ble_eq_true rfl) dX10_item_46 ((hT.sub [0, 1, 2, 3, 9, 4, 5, 6, 7, 8] (by decide) rfl))
        · skip
          have hT := J _ hT1
          have hT : TP D A [(h0, ob 7 [.ref h1, .ref h2, .int h0f2, .ref h3, .ref h4, .ref h5, .int h0f6, .ref h6, .int h0f8, .ref h7, .ref h8, .int h0f11, .ref h9, .ref h10, .ref h11, .ref h12, .ref h13]), (h4, aQ (k 3) 4 (q4 h18 h19 h20 h21)), (h18, ob 5 [.int h18f0, .int h18f1, .ref h46]), (h19, ob 5 [.int h19f0, .int h19f1, .ref h47]), (h21, ob 5 [.int h21f0, .int h21f1, .ref h49]), (h46, aJ (k 1) 40 anJ), (h47, aJ (k 1) 40 anJ), (h48, aJ (k 1) 40 anJ), (h49, aJ (k 1) 40 anJ), (h20, ob 5 [.int h20f0, .int h20f1, .ref h48])] _ := hT
          refine lv_if_eq (tgt := 35) hx hb dX10_item_29 (by decide) (fun cc => absurd cc (by decide +kernel)) (fun _ => ?_)
          refine lv_bipush (v := (-11)) hx hb dX10_item_32 (by decide) ?_
          exact tz_retI (B := B_cX10_item_a1675 D k h0 h4 h18 h19 h20 h21 h46 h47 h48 h49 h1 h2 h3 h5 h6 h7 h8 h9 h10 h11 h12 h13 x1 x2 x3 h0f2 h0f6 h0f8 h0f11 h18f0 h18f1 h19f0 h19f1 h20f0 h20f1 h21f0 h21f1) (v := (-11)) hQ hx hb hr hlocks hS (Nat.le_of_ble_eq_true rfl) (Nat.le_of_ble_eq_true rfl) dX10_item_34 ((hT.sub [0, 1, 2, 3, 9, 4, 5, 6, 7, 8] (by decide) rfl))
      · skip
        refine tz_aldq (b := h21) hx hb hK hT 1 rfl (vp_in_iff.mpr (by have := hq7; omega)) (fun f hf => by rw [cl_of hq7]; exact hf.2.2.2) dX10_item_21 ?_
        refine lv_astore (lv' := [(4, .ref h21), (0, .ref h0), (1, .int x1), (2, .int x2), (3, .int x3)]) hx hb dX10_item_22 hl (by decide) rfl (fun ls hl => ?_)
        refine lv_aload hx hb dX10_item_24 (lv_at hl 0 rfl) ?_
        refine tcI (Tc := [(h21, ob 5 [.int h21f0, .int h21f1, .ref h49])]) (Tr := [(h0, ob 7 [.ref h1, .ref h2, .int h0f2, .ref h3, .ref h4, .ref h5, .int h0f6, .ref h6, .int h0f8, .ref h7, .ref h8, .int h0f11, .ref h9, .ref h10, .ref h11, .ref h12, .ref h13]), (h4, aQ (k 3) 4 (q4 h18 h19 h20 h21)), (h18, ob 5 [.int h18f0, .int h18f1, .ref h46]), (h19, ob 5 [.int h19f0, .int h19f1, .ref h47]), (h20, ob 5 [.int h20f0, .int h20f1, .ref h48]), (h46, aJ (k 1) 40 anJ), (h47, aJ (k 1) 40 anJ), (h48, aJ (k 1) 40 anJ), (h49, aJ (k 1) 40 anJ)]) (as := [h21]) (zcV (q0 := 5) (ci := 5) (As := []) (rest := []) (Tc := [(h21, ob 5 [.int h21f0, .int h21f1, .ref h49])]) hx hb hml hown hU hK hT rfl rfl [5] rfl (by decide) (cX6_isMissing_56a93 l D k _ h21 h49 h21f0 h21f1 (by omega) (by omega)) w644 w641 w642 w643 w71 hdX6_isMissing ⟨rfl, rfl⟩ ⟨Nat.le_of_ble_eq_true rfl, Nat.le_of_ble_eq_true rfl⟩ rfl hl.1 (Nat.le_of_ble_eq_true rfl) dX10_item_26 ⟨Nat.le_of_ble_eq_true rfl, Nat.le_of_ble_eq_true rfl⟩) hT hS hA [5] [0, 1, 2, 3, 4, 6, 7, 8, 9] rfl rfl rfl (by decide) (by decide) (fun r38 H locs hB J hS => ?_)
        rcases hB with ⟨c_39, rfl, hT1⟩ | ⟨rfl, hT1⟩
        · skip
          have hT := J _ hT1
          have hT : TP D A [(h0, ob 7 [.ref h1, .ref h2, .int h0f2, .ref h3, .ref h4, .ref h5, .int h0f6, .ref h6, .int h0f8, .ref h7, .ref h8, .int h0f11, .ref h9, .ref h10, .ref h11, .ref h12, .ref h13]), (h4, aQ (k 3) 4 (q4 h18 h19 h20 h21)), (h18, ob 5 [.int h18f0, .int h18f1, .ref h46]), (h19, ob 5 [.int h19f0, .int h19f1, .ref h47]), (h20, ob 5 [.int h20f0, .int h20f1, .ref h48]), (h46, aJ (k 1) 40 anJ), (h47, aJ (k 1) 40 anJ), (h48, aJ (k 1) 40 anJ), (h49, aJ (k 1) 40 anJ), (h21, ob 5 [.int h21f0, .int h21f1, .ref h49])] _ := hT
          refine lv_if_eq (tgt := 35) hx hb dX10_item_29 (by decide) (fun _ => ?_) (fun cc => absurd (by decide +kernel) cc)
          refine lv_aload hx hb dX10_item_35 (lv_at hl 0 rfl) ?_
          refine tz_get (ci := 5) (v := .int h21f0) (C := RX6) (F := TX6) (N := 3) hx hb hU iX6 hown hK hT 9 rfl rfl 0 (by decide) w238 (fun _ h9 => h9) rfl dX10_item_37 ?_
          refine lv_iload_n hx hb dX10_item_40 rfl (lv_at hl 3 rfl) ?_
          refine lv_icmp_eq (tgt := 47) hx hb dX10_item_41 (by decide) (fun c_40 => ?_) (fun c_40 => ?_)
          · skip
            have c_40 := ni_eq c_40 rfl rfl
            refine lv_aload hx hb dX10_item_47 (lv_at hl 0 rfl) ?_
            refine lv_iload_n hx hb dX10_item_49 rfl (lv_at hl 4 rfl) ?_
            refine lv_iconst (v := 1) hx hb dX10_item_50 (by decide) ?_
            have q_q42 := li_1
            refine tcI (Tc := [(h21, ob 5 [.int h21f0, .int h21f1, .ref h49])]) (Tr := [(h0, ob 7 [.ref h1, .ref h2, .int h0f2, .ref h3, .ref h4, .ref h5, .int h0f6, .ref h6, .int h0f8, .ref h7, .ref h8, .int h0f11, .ref h9, .ref h10, .ref h11, .ref h12, .ref h13]), (h4, aQ (k 3) 4 (q4 h18 h19 h20 h21)), (h18, ob 5 [.int h18f0, .int h18f1, .ref h46]), (h19, ob 5 [.int h19f0, .int h19f1, .ref h47]), (h20, ob 5 [.int h20f0, .int h20f1, .ref h48]), (h46, aJ (k 1) 40 anJ), (h47, aJ (k 1) 40 anJ), (h48, aJ (k 1) 40 anJ), (h49, aJ (k 1) 40 anJ)]) (as := [h21]) (zcV (q0 := 9) (ci := 5) (As := [.int x3, .int 1]) (rest := []) (Tc := [(h21, ob 5 [.int h21f0, .int h21f1, .ref h49])]) hx hb hml hown hU hK hT rfl rfl [9] rfl (by decide) (cX6_isOutside_cc85b l D k _ h21 h49 x3 (1) h21f0 h21f1 (by omega) (by omega)) w648 w645 w646 w647 w71 hdX6_isOutside ⟨rfl, rfl⟩ ⟨Nat.le_of_ble_eq_true rfl, Nat.le_of_ble_eq_true rfl⟩ rfl hl.1 (Nat.le_of_ble_eq_true rfl) dX10_item_51 ⟨Nat.le_of_ble_eq_true rfl, Nat.le_of_ble_eq_true rfl⟩) hT hS hA [9] [0, 1, 2, 3, 4, 5, 6, 7, 8] rfl rfl rfl (by decide) (by decide) (fun r41 H locs hB J hS => ?_)
            rcases hB with ⟨rfl, hT1⟩ | ⟨c_43, c_44, c_45, rfl, hT1⟩
            · skip
              have hT := J _ hT1
              have hT : TP D A [(h0, ob 7 [.ref h1, .ref h2, .int h0f2, .ref h3, .ref h4, .ref h5, .int h0f6, .ref h6, .int h0f8, .ref h7, .ref h8, .int h0f11, .ref h9, .ref h10, .ref h11, .ref h12, .ref h13]), (h4, aQ (k 3) 4 (q4 h18 h19 h20 h21)), (h18, ob 5 [.int h18f0, .int h18f1, .ref h46]), (h19, ob 5 [.int h19f0, .int h19f1, .ref h47]), (h20, ob 5 [.int h20f0, .int h20f1, .ref h48]), (h46, aJ (k 1) 40 anJ), (h47, aJ (k 1) 40 anJ), (h48, aJ (k 1) 40 anJ), (h49, aJ (k 1) 40 anJ), (h21, ob 5 [.int h21f0, .int h21f1, .ref h49])] _ := hT
              refine lv_if_eq (tgt := 60) hx hb dX10_item_54 (by decide) (fun cc => absurd cc (by decide +kernel)) (fun _ => ?_)
              refine lv_bipush (v := (-12)) hx hb dX10_item_57 (by decide) ?_
              exact tz_retI (B := B_cX10_item_a1675 D k h0 h4 h18 h19 h20 h21 h46 h47 h48 h49 h1 h2 h3 h5 h6 h7 h8 h9 h10 h11 h12 h13 x1 x2 x3 h0f2 h0f6 h0f8 h0f11 h18f0 h18f1 h19f0 h19f1 h20f0 h20f1 h21f0 h21f1) (v := (-12)) hQ hx hb hr hlocks hS (Nat.le_of_ble_eq_true rfl) (Nat.le_of_ble_eq_true rfl) dX10_item_59 ((hT.sub [0, 1, 2, 3, 4, 9, 5, 6, 7, 8] (by decide) rfl))
            · skip
              have hT := J _ hT1
              have hT : TP D A [(h0, ob 7 [.ref h1, .ref h2, .int h0f2, .ref h3, .ref h4, .ref h5, .int h0f6, .ref h6, .int h0f8, .ref h7, .ref h8, .int h0f11, .ref h9, .ref h10, .ref h11, .ref h12, .ref h13]), (h4, aQ (k 3) 4 (q4 h18 h19 h20 h21)), (h18, ob 5 [.int h18f0, .int h18f1, .ref h46]), (h19, ob 5 [.int h19f0, .int h19f1, .ref h47]), (h20, ob 5 [.int h20f0, .int h20f1, .ref h48]), (h46, aJ (k 1) 40 anJ), (h47, aJ (k 1) 40 anJ), (h48, aJ (k 1) 40 anJ), (h49, aJ (k 1) 40 anJ), (h21, ob 5 [.int h21f0, .int h21f1, .ref h49])] _ := hT
              refine lv_if_eq (tgt := 60) hx hb dX10_item_54 (by decide) (fun _ => ?_) (fun cc => absurd (by decide +kernel) cc)
              refine lv_aload hx hb dX10_item_60 (lv_at hl 0 rfl) ?_
              refine tz_get (ci := 5) (v := .ref h49) (C := RX6) (F := TX6) (N := 3) hx hb hU iX6 hown hK hT 9 rfl rfl 2 (by decide) w241 (fun _ h9 => h9) rfl dX10_item_62 ?_
              refine lv_iload_n hx hb dX10_item_65 rfl (lv_at hl 4 rfl) ?_
              refine tz_lald hx hb hK hT 8 rfl (by omega) dX10_item_66 (fun v46 e_v46 => ?_)
              clear e_v46
              refine lv_l2i hx hb dX10_item_67 rfl (lv_topi (fun v47 _ => ?_))
              exact tz_retI (B := B_cX10_item_a1675 D k h0 h4 h18 h19 h20 h21 h46 h47 h48 h49 h1 h2 h3 h5 h6 h7 h8 h9 h10 h11 h12 h13 x1 x2 x3 h0f2 h0f6 h0f8 h0f11 h18f0 h18f1 h19f0 h19f1 h20f0 h20f1 h21f0 h21f1) (v := v47) hQ hx hb hr hlocks hS (Nat.le_of_ble_eq_true rfl) (Nat.le_of_ble_eq_true rfl) dX10_item_68 ((hT.sub [0, 1, 2, 3, 4, 9, 5, 6, 7, 8] (by decide) rfl))
          · skip
            have c_40 := ni_ne c_40 rfl rfl
            refine lv_bipush (v := (-13)) hx hb dX10_item_44 (by decide) ?_
            exact tz_retI (B := B_cX10_item_a1675 D k h0 h4 h18 h19 h20 h21 h46 h47 h48 h49 h1 h2 h3 h5 h6 h7 h8 h9 h10 h11 h12 h13 x1 x2 x3 h0f2 h0f6 h0f8 h0f11 h18f0 h18f1 h19f0 h19f1 h20f0 h20f1 h21f0 h21f1) (v := (-13)) hQ hx hb hr hlocks hS (Nat.le_of_ble_eq_true rfl) (Nat.le_of_ble_eq_true rfl) dX10_item_46 ((hT.sub [0, 1, 2, 3, 4, 9, 5, 6, 7, 8] (by decide) rfl))
        · skip
          have hT := J _ hT1
          have hT : TP D A [(h0, ob 7 [.ref h1, .ref h2, .int h0f2, .ref h3, .ref h4, .ref h5, .int h0f6, .ref h6, .int h0f8, .ref h7, .ref h8, .int h0f11, .ref h9, .ref h10, .ref h11, .ref h12, .ref h13]), (h4, aQ (k 3) 4 (q4 h18 h19 h20 h21)), (h18, ob 5 [.int h18f0, .int h18f1, .ref h46]), (h19, ob 5 [.int h19f0, .int h19f1, .ref h47]), (h20, ob 5 [.int h20f0, .int h20f1, .ref h48]), (h46, aJ (k 1) 40 anJ), (h47, aJ (k 1) 40 anJ), (h48, aJ (k 1) 40 anJ), (h49, aJ (k 1) 40 anJ), (h21, ob 5 [.int h21f0, .int h21f1, .ref h49])] _ := hT
          refine lv_if_eq (tgt := 35) hx hb dX10_item_29 (by decide) (fun cc => absurd cc (by decide +kernel)) (fun _ => ?_)
          refine lv_bipush (v := (-11)) hx hb dX10_item_32 (by decide) ?_
          exact tz_retI (B := B_cX10_item_a1675 D k h0 h4 h18 h19 h20 h21 h46 h47 h48 h49 h1 h2 h3 h5 h6 h7 h8 h9 h10 h11 h12 h13 x1 x2 x3 h0f2 h0f6 h0f8 h0f11 h18f0 h18f1 h19f0 h19f1 h20f0 h20f1 h21f0 h21f1) (v := (-11)) hQ hx hb hr hlocks hS (Nat.le_of_ble_eq_true rfl) (Nat.le_of_ble_eq_true rfl) dX10_item_34 ((hT.sub [0, 1, 2, 3, 4, 9, 5, 6, 7, 8] (by decide) rfl))
abbrev Rm_cX11_item_f13e8 : Room := { frames := 2, cells := 0, slots := 0, locals := 45 }
abbrev B_cX11_item_f13e8 (D : va_G) (k : Nat → ClassId) (h0 h18 h19 h20 h1 h2 h3 h4 h5 h6 h7 h8 h9 h10 h11 h12 h13 h14 h15 h16 h17 h21 : Nat) (x1 : Int32) (x2 : Int32) (x3 : Int32) (h0f0 : Int32) (h0f1 : Int32) (h0f2 : Int32) (h0f3 : Int32) (h0f4 : Int32) (h0f5 : Int32) (h0f8 : Int32) (h0f9 : Int32) (h0f17 : Int32) (h0f18 : Int32) (h0f19 : Int32) (h0f24 : Int32) (h0f25 : Int32) (h0f30 : Int32) (h0f31 : Int32) (h18f0 : Int32) (h18f1 : Int32) (h18f2 : Int32) (h18f3 : Int32) (h19f0 : Int32) (h19f1 : Int32) (h19f2 : Int32) (h19f3 : Int32) (A : Nat → Prop) (r : Int32) (H : Heap) : Prop := TP D A [(h0, ob 8 [.int h0f0, .int h0f1, .int h0f2, .int h0f3, .int h0f4, .int h0f5, .ref h1, .ref h2, .int h0f8, .int h0f9, .ref h3, .ref h4, .ref h5, .ref h6, .ref h7, .ref h8, .ref h9, .int h0f17, .int h0f18, .int h0f19, .ref h10, .ref h11, .ref h12, .ref h13, .int h0f24, .int h0f25, .ref h14, .ref h15, .ref h16, .ref h17, .int h0f30, .int h0f31, .ref h18, .ref h19, .ref h20, .ref h21]), (h18, aI (k 0) 4 (x4 h18f0 h18f1 h18f2 h18f3)), (h19, aI (k 0) 4 (x4 h19f0 h19f1 h19f2 h19f3)), (h20, aJ (k 1) 160 anJ)] H
set_option maxHeartbeats 4000000 in
set_option maxRecDepth 100000 in
theorem cX11_item_f13e8 (l : Launch) (D : va_G) (k : Nat → ClassId) (sz : Nat) (h0 h18 h19 h20 h1 h2 h3 h4 h5 h6 h7 h8 h9 h10 h11 h12 h13 h14 h15 h16 h17 h21 : Nat) (x1 : Int32) (x2 : Int32) (x3 : Int32) (h0f0 : Int32) (h0f1 : Int32) (h0f2 : Int32) (h0f3 : Int32) (h0f4 : Int32) (h0f5 : Int32) (h0f8 : Int32) (h0f9 : Int32) (h0f17 : Int32) (h0f18 : Int32) (h0f19 : Int32) (h0f24 : Int32) (h0f25 : Int32) (h0f30 : Int32) (h0f31 : Int32) (h18f0 : Int32) (h18f1 : Int32) (h18f2 : Int32) (h18f3 : Int32) (h19f0 : Int32) (h19f1 : Int32) (h19f2 : Int32) (h19f3 : Int32) (b_h0f0 : 1 ≤ h0f0.toInt ∧ h0f0.toInt ≤ 3) (b_h0f1 : 0 ≤ h0f1.toInt ∧ h0f1.toInt ≤ 4) (b_h0f3 : 0 ≤ h0f3.toInt ∧ h0f3.toInt ≤ 3) (b_h0f4 : 0 ≤ h0f4.toInt ∧ h0f4.toInt ≤ 4) (b_h0f8 : 0 ≤ h0f8.toInt ∧ h0f8.toInt ≤ 1) (b_h0f9 : 0 ≤ h0f9.toInt ∧ h0f9.toInt ≤ 1) (b_h0f17 : 0 ≤ h0f17.toInt ∧ h0f17.toInt ≤ 120) (b_h0f18 : 0 ≤ h0f18.toInt ∧ h0f18.toInt ≤ 120) (b_h0f19 : 0 ≤ h0f19.toInt ∧ h0f19.toInt ≤ 4) (b_h0f24 : 0 ≤ h0f24.toInt ∧ h0f24.toInt ≤ 100) (b_h0f25 : 0 ≤ h0f25.toInt ∧ h0f25.toInt ≤ 1) (b_h0f30 : 0 ≤ h0f30.toInt ∧ h0f30.toInt ≤ 60) (b_h0f31 : 0 ≤ h0f31.toInt ∧ h0f31.toInt ≤ 1) (b_h18f0 : (-1) ≤ h18f0.toInt ∧ h18f0.toInt ≤ 2) (b_h18f1 : (-1) ≤ h18f1.toInt ∧ h18f1.toInt ≤ 2) (b_h18f2 : (-1) ≤ h18f2.toInt ∧ h18f2.toInt ≤ 2) (b_h18f3 : (-1) ≤ h18f3.toInt ∧ h18f3.toInt ≤ 2) (b_h19f0 : 0 ≤ h19f0.toInt ∧ h19f0.toInt ≤ 40) (b_h19f1 : 0 ≤ h19f1.toInt ∧ h19f1.toInt ≤ 40) (b_h19f2 : 0 ≤ h19f2.toInt ∧ h19f2.toInt ≤ 40) (b_h19f3 : 0 ≤ h19f3.toInt ∧ h19f3.toInt ≤ 40) (i_0 : h0f8.toInt ≤ h0f3.toInt) (i_1 : h0f9.toInt ≤ h0f24.toInt) : Met l yX11_item (Cond.code yX11_item cX11_item 4 (some .int) :: uw) Rm_cX11_item_f13e8 (pT D k sz [.ref h0, .int x1, .int x2, .int x3] [(h0, ob 8 [.int h0f0, .int h0f1, .int h0f2, .int h0f3, .int h0f4, .int h0f5, .ref h1, .ref h2, .int h0f8, .int h0f9, .ref h3, .ref h4, .ref h5, .ref h6, .ref h7, .ref h8, .ref h9, .int h0f17, .int h0f18, .int h0f19, .ref h10, .ref h11, .ref h12, .ref h13, .int h0f24, .int h0f25, .ref h14, .ref h15, .ref h16, .ref h17, .int h0f30, .int h0f31, .ref h18, .ref h19, .ref h20, .ref h21]), (h18, aI (k 0) 4 (x4 h18f0 h18f1 h18f2 h18f3)), (h19, aI (k 0) 4 (x4 h19f0 h19f1 h19f2 h19f3)), (h20, aJ (k 1) 160 anJ)]) (qI (B_cX11_item_f13e8 D k h0 h18 h19 h20 h1 h2 h3 h4 h5 h6 h7 h8 h9 h10 h11 h12 h13 h14 h15 h16 h17 h21 x1 x2 x3 h0f0 h0f1 h0f2 h0f3 h0f4 h0f5 h0f8 h0f9 h0f17 h0f18 h0f19 h0f24 h0f25 h0f30 h0f31 h18f0 h18f1 h18f2 h18f3 h19f0 h19f1 h19f2 h19f3 (zA [h0, h18, h19, h20] sz)) (zA [h0, h18, h19, h20] sz)) 0 0 (zA [h0, h18, h19, h20] sz) := by
  refine tz_begin (as := [h0, h18, h19, h20]) (Qc := fun A => qI (B_cX11_item_f13e8 D k h0 h18 h19 h20 h1 h2 h3 h4 h5 h6 h7 h8 h9 h10 h11 h12 h13 h14 h15 h16 h17 h21 x1 x2 x3 h0f0 h0f1 h0f2 h0f3 h0f4 h0f5 h0f8 h0f9 h0f17 h0f18 h0f19 h0f24 h0f25 h0f30 h0f31 h18f0 h18f1 h18f2 h18f3 h19f0 h19f1 h19f2 h19f3 A) A) (by decide +kernel) rfl (Nat.le_of_ble_eq_true rfl) ?_
  intro p e s m args below meth c ls A Q hx hb hr hml hown hlocks hin hU hK hT hS hA hl hQ
  have hl : lv_has ls 4 [(0, .ref h0), (1, .int x1), (2, .int x2), (3, .int x3)] := hl
  have hT : TP D A [(h0, ob 8 [.int h0f0, .int h0f1, .int h0f2, .int h0f3, .int h0f4, .int h0f5, .ref h1, .ref h2, .int h0f8, .int h0f9, .ref h3, .ref h4, .ref h5, .ref h6, .ref h7, .ref h8, .ref h9, .int h0f17, .int h0f18, .int h0f19, .ref h10, .ref h11, .ref h12, .ref h13, .int h0f24, .int h0f25, .ref h14, .ref h15, .ref h16, .ref h17, .int h0f30, .int h0f31, .ref h18, .ref h19, .ref h20, .ref h21]), (h18, aI (k 0) 4 (x4 h18f0 h18f1 h18f2 h18f3)), (h19, aI (k 0) 4 (x4 h19f0 h19f1 h19f2 h19f3)), (h20, aJ (k 1) 160 anJ)] s.heap := hT
  refine lv_iload_n hx hb dX11_item_0 rfl (lv_at hl 1 rfl) ?_
  refine tcI (Tc := []) (Tr := [(h0, ob 8 [.int h0f0, .int h0f1, .int h0f2, .int h0f3, .int h0f4, .int h0f5, .ref h1, .ref h2, .int h0f8, .int h0f9, .ref h3, .ref h4, .ref h5, .ref h6, .ref h7, .ref h8, .ref h9, .int h0f17, .int h0f18, .int h0f19, .ref h10, .ref h11, .ref h12, .ref h13, .int h0f24, .int h0f25, .ref h14, .ref h15, .ref h16, .ref h17, .int h0f30, .int h0f31, .ref h18, .ref h19, .ref h20, .ref h21]), (h18, aI (k 0) 4 (x4 h18f0 h18f1 h18f2 h18f3)), (h19, aI (k 0) 4 (x4 h19f0 h19f1 h19f2 h19f3)), (h20, aJ (k 1) 160 anJ)]) (as := []) (zcS (As := [.int x1]) (rest := []) (Tc := []) hx hb hml hown hU hK hT [] rfl (by decide) (cX11_isSheet_2c130 l D k _ x1) w1101 w1099 w1100 w72 hdX11_isSheet ⟨rfl, rfl⟩ ⟨Nat.le_of_ble_eq_true rfl, Nat.le_of_ble_eq_true rfl⟩ rfl hl.1 (Nat.le_of_ble_eq_true rfl) dX11_item_1 ⟨Nat.le_of_ble_eq_true rfl, Nat.le_of_ble_eq_true rfl⟩) hT hS hA [] [0, 1, 2, 3] rfl rfl rfl (by decide) (by decide) (fun r1 H locs hB J hS => ?_)
  rcases hB with ⟨rfl, hT1⟩ | ⟨c_2, c_3, rfl, hT1⟩
  · skip
    have hT := J _ hT1
    have hT : TP D A [(h0, ob 8 [.int h0f0, .int h0f1, .int h0f2, .int h0f3, .int h0f4, .int h0f5, .ref h1, .ref h2, .int h0f8, .int h0f9, .ref h3, .ref h4, .ref h5, .ref h6, .ref h7, .ref h8, .ref h9, .int h0f17, .int h0f18, .int h0f19, .ref h10, .ref h11, .ref h12, .ref h13, .int h0f24, .int h0f25, .ref h14, .ref h15, .ref h16, .ref h17, .int h0f30, .int h0f31, .ref h18, .ref h19, .ref h20, .ref h21]), (h18, aI (k 0) 4 (x4 h18f0 h18f1 h18f2 h18f3)), (h19, aI (k 0) 4 (x4 h19f0 h19f1 h19f2 h19f3)), (h20, aJ (k 1) 160 anJ)] _ := hT
    refine lv_if_eq (tgt := 19) hx hb dX11_item_4 (by decide) (fun _ => ?_) (fun cc => absurd (by decide +kernel) cc)
    refine lv_iconst (v := (-1)) hx hb dX11_item_19 (by decide) ?_
    exact tz_retI (B := B_cX11_item_f13e8 D k h0 h18 h19 h20 h1 h2 h3 h4 h5 h6 h7 h8 h9 h10 h11 h12 h13 h14 h15 h16 h17 h21 x1 x2 x3 h0f0 h0f1 h0f2 h0f3 h0f4 h0f5 h0f8 h0f9 h0f17 h0f18 h0f19 h0f24 h0f25 h0f30 h0f31 h18f0 h18f1 h18f2 h18f3 h19f0 h19f1 h19f2 h19f3) (v := (-1)) hQ hx hb hr hlocks hS (Nat.le_of_ble_eq_true rfl) (Nat.le_of_ble_eq_true rfl) dX11_item_20 (hT)
  · skip
    have hT := J _ hT1
    have hT : TP D A [(h0, ob 8 [.int h0f0, .int h0f1, .int h0f2, .int h0f3, .int h0f4, .int h0f5, .ref h1, .ref h2, .int h0f8, .int h0f9, .ref h3, .ref h4, .ref h5, .ref h6, .ref h7, .ref h8, .ref h9, .int h0f17, .int h0f18, .int h0f19, .ref h10, .ref h11, .ref h12, .ref h13, .int h0f24, .int h0f25, .ref h14, .ref h15, .ref h16, .ref h17, .int h0f30, .int h0f31, .ref h18, .ref h19, .ref h20, .ref h21]), (h18, aI (k 0) 4 (x4 h18f0 h18f1 h18f2 h18f3)), (h19, aI (k 0) 4 (x4 h19f0 h19f1 h19f2 h19f3)), (h20, aJ (k 1) 160 anJ)] _ := hT
    refine lv_if_eq (tgt := 19) hx hb dX11_item_4 (by decide) (fun cc => absurd cc (by decide +kernel)) (fun _ => ?_)
    refine lv_iload_n hx hb dX11_item_7 rfl (lv_at hl 2 rfl) ?_
    obtain ⟨v4, e_v4⟩ : ∃ x : Int64, x2.toInt64 = x := ⟨_, rfl⟩
    refine lv_i2l (v := v4) hx hb dX11_item_8 e_v4 ?_
    have e_v4 := ai_i2l e_v4 rfl
    refine lv_lconst (v := 0) hx hb dX11_item_9 (by decide) ?_
    refine lv_ldc2 hx hb hown (hU _ w1156) dX11_item_10 ?_
    have q_q6 := ll_0
    have q_q7 := ll_2
    refine tcI (Tc := []) (Tr := [(h0, ob 8 [.int h0f0, .int h0f1, .int h0f2, .int h0f3, .int h0f4, .int h0f5, .ref h1, .ref h2, .int h0f8, .int h0f9, .ref h3, .ref h4, .ref h5, .ref h6, .ref h7, .ref h8, .ref h9, .int h0f17, .int h0f18, .int h0f19, .ref h10, .ref h11, .ref h12, .ref h13, .int h0f24, .int h0f25, .ref h14, .ref h15, .ref h16, .ref h17, .int h0f30, .int h0f31, .ref h18, .ref h19, .ref h20, .ref h21]), (h18, aI (k 0) 4 (x4 h18f0 h18f1 h18f2 h18f3)), (h19, aI (k 0) 4 (x4 h19f0 h19f1 h19f2 h19f3)), (h20, aJ (k 1) 160 anJ)]) (as := []) (zcS (As := [.long v4, .long 0, .long 2]) (rest := []) (Tc := []) hx hb hml hown hU hK hT [] rfl (by decide) (cX11_in_ca3b9 l D k _ v4 (0) (2) (by have := ll_0; omega) (by have := ll_2; omega)) w901 w899 w900 w72 hdX11_in ⟨rfl, rfl⟩ ⟨Nat.le_of_ble_eq_true rfl, Nat.le_of_ble_eq_true rfl⟩ rfl hl.1 (Nat.le_of_ble_eq_true rfl) dX11_item_13 ⟨Nat.le_of_ble_eq_true rfl, Nat.le_of_ble_eq_true rfl⟩) hT hS hA [] [0, 1, 2, 3] rfl rfl rfl (by decide) (by decide) (fun r5 H locs hB J hS => ?_)
    rcases hB with ⟨rfl, hT1⟩ | ⟨c_8, c_9, rfl, hT1⟩
    · skip
      have hT := J _ hT1
      have hT : TP D A [(h0, ob 8 [.int h0f0, .int h0f1, .int h0f2, .int h0f3, .int h0f4, .int h0f5, .ref h1, .ref h2, .int h0f8, .int h0f9, .ref h3, .ref h4, .ref h5, .ref h6, .ref h7, .ref h8, .ref h9, .int h0f17, .int h0f18, .int h0f19, .ref h10, .ref h11, .ref h12, .ref h13, .int h0f24, .int h0f25, .ref h14, .ref h15, .ref h16, .ref h17, .int h0f30, .int h0f31, .ref h18, .ref h19, .ref h20, .ref h21]), (h18, aI (k 0) 4 (x4 h18f0 h18f1 h18f2 h18f3)), (h19, aI (k 0) 4 (x4 h19f0 h19f1 h19f2 h19f3)), (h20, aJ (k 1) 160 anJ)] _ := hT
      refine lv_if_ne (tgt := 21) hx hb dX11_item_16 (by decide) (fun cc => absurd (by decide +kernel) cc) (fun _ => ?_)
      refine lv_iconst (v := (-1)) hx hb dX11_item_19 (by decide) ?_
      exact tz_retI (B := B_cX11_item_f13e8 D k h0 h18 h19 h20 h1 h2 h3 h4 h5 h6 h7 h8 h9 h10 h11 h12 h13 h14 h15 h16 h17 h21 x1 x2 x3 h0f0 h0f1 h0f2 h0f3 h0f4 h0f5 h0f8 h0f9 h0f17 h0f18 h0f19 h0f24 h0f25 h0f30 h0f31 h18f0 h18f1 h18f2 h18f3 h19f0 h19f1 h19f2 h19f3) (v := (-1)) hQ hx hb hr hlocks hS (Nat.le_of_ble_eq_true rfl) (Nat.le_of_ble_eq_true rfl) dX11_item_20 (hT)
    · skip
      have hT := J _ hT1
      have hT : TP D A [(h0, ob 8 [.int h0f0, .int h0f1, .int h0f2, .int h0f3, .int h0f4, .int h0f5, .ref h1, .ref h2, .int h0f8, .int h0f9, .ref h3, .ref h4, .ref h5, .ref h6, .ref h7, .ref h8, .ref h9, .int h0f17, .int h0f18, .int h0f19, .ref h10, .ref h11, .ref h12, .ref h13, .int h0f24, .int h0f25, .ref h14, .ref h15, .ref h16, .ref h17, .int h0f30, .int h0f31, .ref h18, .ref h19, .ref h20, .ref h21]), (h18, aI (k 0) 4 (x4 h18f0 h18f1 h18f2 h18f3)), (h19, aI (k 0) 4 (x4 h19f0 h19f1 h19f2 h19f3)), (h20, aJ (k 1) 160 anJ)] _ := hT
      refine lv_if_ne (tgt := 21) hx hb dX11_item_16 (by decide) (fun _ => ?_) (fun cc => absurd cc (by decide +kernel))
      refine lv_aload_n hx hb dX11_item_21 rfl (lv_at hl 0 rfl) ?_
      refine tz_get (ci := 8) (v := .ref h18) (C := RX11) (F := TX11) (N := 36) hx hb hU iX11 hown hK hT 0 rfl rfl 32 (by decide) w817 (fun _ h9 => h9) rfl dX11_item_22 ?_
      refine lv_iload_n hx hb dX11_item_25 rfl (lv_at hl 1 rfl) ?_
      refine tz_iald hx hb hK hT 1 rfl (by omega) dX11_item_26 (fun v10 e_v10 => ?_)
      have e_v10 := x4_rg (lo := (-1)) (hi := 2) e_v10 (by omega) (by omega)
      refine lv_iload_n hx hb dX11_item_27 rfl (lv_at hl 2 rfl) ?_
      refine lv_icmp_eq (tgt := 48) hx hb dX11_item_28 (by decide) (fun c_11 => ?_) (fun c_11 => ?_)
      · skip
        have c_11 := ni_eq c_11 rfl rfl
        refine lv_iload_n hx hb dX11_item_48 rfl (lv_at hl 3 rfl) ?_
        obtain ⟨v12, e_v12⟩ : ∃ x : Int64, x3.toInt64 = x := ⟨_, rfl⟩
        refine lv_i2l (v := v12) hx hb dX11_item_49 e_v12 ?_
        have e_v12 := ai_i2l e_v12 rfl
        refine lv_lconst (v := 0) hx hb dX11_item_50 (by decide) ?_
        refine lv_aload_n hx hb dX11_item_51 rfl (lv_at hl 0 rfl) ?_
        refine tz_get (ci := 8) (v := .ref h19) (C := RX11) (F := TX11) (N := 36) hx hb hU iX11 hown hK hT 0 rfl rfl 33 (by decide) w818 (fun _ h9 => h9) rfl dX11_item_52 ?_
        refine lv_iload_n hx hb dX11_item_55 rfl (lv_at hl 1 rfl) ?_
        refine tz_iald hx hb hK hT 2 rfl (by omega) dX11_item_56 (fun v13 e_v13 => ?_)
        have e_v13 := x4_rg (lo := 0) (hi := 40) e_v13 (by omega) (by omega)
        refine lv_iconst (v := 1) hx hb dX11_item_57 (by decide) ?_
        refine lv_isub hx hb dX11_item_58 (lv_topi (fun v14 e_v14 => ?_))
        have e_v14 := ai_sub e_v14 rfl li_1 (by omega)
        obtain ⟨v15, e_v15⟩ : ∃ x : Int64, v14.toInt64 = x := ⟨_, rfl⟩
        refine lv_i2l (v := v15) hx hb dX11_item_59 e_v15 ?_
        have e_v15 := ai_i2l e_v15 rfl
        have q_q17 := ll_0
        refine tcI (Tc := []) (Tr := [(h0, ob 8 [.int h0f0, .int h0f1, .int h0f2, .int h0f3, .int h0f4, .int h0f5, .ref h1, .ref h2, .int h0f8, .int h0f9, .ref h3, .ref h4, .ref h5, .ref h6, .ref h7, .ref h8, .ref h9, .int h0f17, .int h0f18, .int h0f19, .ref h10, .ref h11, .ref h12, .ref h13, .int h0f24, .int h0f25, .ref h14, .ref h15, .ref h16, .ref h17, .int h0f30, .int h0f31, .ref h18, .ref h19, .ref h20, .ref h21]), (h18, aI (k 0) 4 (x4 h18f0 h18f1 h18f2 h18f3)), (h19, aI (k 0) 4 (x4 h19f0 h19f1 h19f2 h19f3)), (h20, aJ (k 1) 160 anJ)]) (as := []) (zcS (As := [.long v12, .long 0, .long v15]) (rest := []) (Tc := []) hx hb hml hown hU hK hT [] rfl (by decide) (cX11_in_ca3b9 l D k _ v12 (0) v15 (by have := ll_0; omega) (by omega)) w901 w899 w900 w72 hdX11_in ⟨rfl, rfl⟩ ⟨Nat.le_of_ble_eq_true rfl, Nat.le_of_ble_eq_true rfl⟩ rfl hl.1 (Nat.le_of_ble_eq_true rfl) dX11_item_60 ⟨Nat.le_of_ble_eq_true rfl, Nat.le_of_ble_eq_true rfl⟩) hT hS hA [] [0, 1, 2, 3] rfl rfl rfl (by decide) (by decide) (fun r16 H locs hB J hS => ?_)
        rcases hB with ⟨rfl, hT1⟩ | ⟨c_18, c_19, rfl, hT1⟩
        · skip
          have hT := J _ hT1
          have hT : TP D A [(h0, ob 8 [.int h0f0, .int h0f1, .int h0f2, .int h0f3, .int h0f4, .int h0f5, .ref h1, .ref h2, .int h0f8, .int h0f9, .ref h3, .ref h4, .ref h5, .ref h6, .ref h7, .ref h8, .ref h9, .int h0f17, .int h0f18, .int h0f19, .ref h10, .ref h11, .ref h12, .ref h13, .int h0f24, .int h0f25, .ref h14, .ref h15, .ref h16, .ref h17, .int h0f30, .int h0f31, .ref h18, .ref h19, .ref h20, .ref h21]), (h18, aI (k 0) 4 (x4 h18f0 h18f1 h18f2 h18f3)), (h19, aI (k 0) 4 (x4 h19f0 h19f1 h19f2 h19f3)), (h20, aJ (k 1) 160 anJ)] _ := hT
          refine lv_if_eq (tgt := 81) hx hb dX11_item_63 (by decide) (fun _ => ?_) (fun cc => absurd (by decide +kernel) cc)
          refine lv_bipush (v := (-12)) hx hb dX11_item_81 (by decide) ?_
          exact tz_retI (B := B_cX11_item_f13e8 D k h0 h18 h19 h20 h1 h2 h3 h4 h5 h6 h7 h8 h9 h10 h11 h12 h13 h14 h15 h16 h17 h21 x1 x2 x3 h0f0 h0f1 h0f2 h0f3 h0f4 h0f5 h0f8 h0f9 h0f17 h0f18 h0f19 h0f24 h0f25 h0f30 h0f31 h18f0 h18f1 h18f2 h18f3 h19f0 h19f1 h19f2 h19f3) (v := (-12)) hQ hx hb hr hlocks hS (Nat.le_of_ble_eq_true rfl) (Nat.le_of_ble_eq_true rfl) dX11_item_83 (hT)
        · skip
          have hT := J _ hT1
          have hT : TP D A [(h0, ob 8 [.int h0f0, .int h0f1, .int h0f2, .int h0f3, .int h0f4, .int h0f5, .ref h1, .ref h2, .int h0f8, .int h0f9, .ref h3, .ref h4, .ref h5, .ref h6, .ref h7, .ref h8, .ref h9, .int h0f17, .int h0f18, .int h0f19, .ref h10, .ref h11, .ref h12, .ref h13, .int h0f24, .int h0f25, .ref h14, .ref h15, .ref h16, .ref h17, .int h0f30, .int h0f31, .ref h18, .ref h19, .ref h20, .ref h21]), (h18, aI (k 0) 4 (x4 h18f0 h18f1 h18f2 h18f3)), (h19, aI (k 0) 4 (x4 h19f0 h19f1 h19f2 h19f3)), (h20, aJ (k 1) 160 anJ)] _ := hT
          refine lv_if_eq (tgt := 81) hx hb dX11_item_63 (by decide) (fun cc => absurd cc (by decide +kernel)) (fun _ => ?_)
          refine lv_aload_n hx hb dX11_item_66 rfl (lv_at hl 0 rfl) ?_
          refine tz_get (ci := 8) (v := .ref h20) (C := RX11) (F := TX11) (N := 36) hx hb hU iX11 hown hK hT 0 rfl rfl 34 (by decide) w819 (fun _ h9 => h9) rfl dX11_item_67 ?_
          refine lv_bipush (v := 40) hx hb dX11_item_70 (by decide) ?_
          refine lv_iload_n hx hb dX11_item_72 rfl (lv_at hl 1 rfl) ?_
          refine lv_imul hx hb dX11_item_73 (lv_topi (fun v20 e_v20 => ?_))
          have e_v20 := ai_mul e_v20 li_40 rfl (by omega)
          refine lv_iload_n hx hb dX11_item_74 rfl (lv_at hl 3 rfl) ?_
          refine lv_iadd hx hb dX11_item_75 (lv_topi (fun v21 e_v21 => ?_))
          have e_v21 := ai_add e_v21 rfl rfl (by omega)
          refine tz_lald hx hb hK hT 3 rfl (by omega) dX11_item_76 (fun v22 e_v22 => ?_)
          clear e_v22
          refine lv_l2i hx hb dX11_item_77 rfl (lv_topi (fun v23 _ => ?_))
          refine lv_goto (tgt := 83) hx hb dX11_item_78 (by decide) ?_
          exact tz_retI (B := B_cX11_item_f13e8 D k h0 h18 h19 h20 h1 h2 h3 h4 h5 h6 h7 h8 h9 h10 h11 h12 h13 h14 h15 h16 h17 h21 x1 x2 x3 h0f0 h0f1 h0f2 h0f3 h0f4 h0f5 h0f8 h0f9 h0f17 h0f18 h0f19 h0f24 h0f25 h0f30 h0f31 h18f0 h18f1 h18f2 h18f3 h19f0 h19f1 h19f2 h19f3) (v := v23) hQ hx hb hr hlocks hS (Nat.le_of_ble_eq_true rfl) (Nat.le_of_ble_eq_true rfl) dX11_item_83 (hT)
      · skip
        have c_11 := ni_ne c_11 rfl rfl
        refine lv_aload_n hx hb dX11_item_31 rfl (lv_at hl 0 rfl) ?_
        refine tz_get (ci := 8) (v := .ref h18) (C := RX11) (F := TX11) (N := 36) hx hb hU iX11 hown hK hT 0 rfl rfl 32 (by decide) w817 (fun _ h9 => h9) rfl dX11_item_32 ?_
        refine lv_iload_n hx hb dX11_item_35 rfl (lv_at hl 1 rfl) ?_
        refine tz_iald hx hb hK hT 1 rfl (by omega) dX11_item_36 (fun v24 e_v24 => ?_)
        have e_v24 := x4_rg (lo := (-1)) (hi := 2) e_v24 (by omega) (by omega)
        refine lv_if_ge (tgt := 45) hx hb dX11_item_37 (by decide) (fun c_25 => ?_) (fun c_25 => ?_)
        · skip
          have c_25 := ni_le c_25 li_0 rfl
          refine lv_bipush (v := (-13)) hx hb dX11_item_45 (by decide) ?_
          exact tz_retI (B := B_cX11_item_f13e8 D k h0 h18 h19 h20 h1 h2 h3 h4 h5 h6 h7 h8 h9 h10 h11 h12 h13 h14 h15 h16 h17 h21 x1 x2 x3 h0f0 h0f1 h0f2 h0f3 h0f4 h0f5 h0f8 h0f9 h0f17 h0f18 h0f19 h0f24 h0f25 h0f30 h0f31 h18f0 h18f1 h18f2 h18f3 h19f0 h19f1 h19f2 h19f3) (v := (-13)) hQ hx hb hr hlocks hS (Nat.le_of_ble_eq_true rfl) (Nat.le_of_ble_eq_true rfl) dX11_item_47 (hT)
        · skip
          have c_25 := ni_nle c_25 li_0 rfl
          refine lv_bipush (v := (-11)) hx hb dX11_item_40 (by decide) ?_
          refine lv_goto (tgt := 47) hx hb dX11_item_42 (by decide) ?_
          exact tz_retI (B := B_cX11_item_f13e8 D k h0 h18 h19 h20 h1 h2 h3 h4 h5 h6 h7 h8 h9 h10 h11 h12 h13 h14 h15 h16 h17 h21 x1 x2 x3 h0f0 h0f1 h0f2 h0f3 h0f4 h0f5 h0f8 h0f9 h0f17 h0f18 h0f19 h0f24 h0f25 h0f30 h0f31 h18f0 h18f1 h18f2 h18f3 h19f0 h19f1 h19f2 h19f3) (v := (-11)) hQ hx hb hr hlocks hS (Nat.le_of_ble_eq_true rfl) (Nat.le_of_ble_eq_true rfl) dX11_item_47 (hT)
abbrev Rm_cX10_copy_694ba : Room := { frames := 1, cells := 0, slots := 0, locals := 26 }
abbrev B_cX10_copy_694ba (D : va_G) (k : Nat → ClassId) (h0 h4 h17 h18 h19 h20 h37 h38 h39 h40 h1 h2 h3 h5 h6 h7 h8 h9 h10 h11 h12 : Nat) (x1 : Int32) (x2 : Int32) (x3 : Int32) (x4 : Int32) (x5 : Int32) (h0f2 : Int32) (h0f6 : Int32) (h0f8 : Int32) (h0f11 : Int32) (h17f0 : Int32) (h17f1 : Int32) (h18f0 : Int32) (h18f1 : Int32) (h19f0 : Int32) (h19f1 : Int32) (h20f0 : Int32) (h20f1 : Int32) (A : Nat → Prop) (r : Int32) (H : Heap) : Prop := ((-13) ≤ r.toInt ∧ r.toInt ≤ 40) ∧ TP D A [(h0, ob 7 [.ref h1, .ref h2, .int h0f2, .ref h3, .ref h4, .ref h5, .int h0f6, .ref h6, .int h0f8, .null, .ref h7, .int h0f11, .ref h8, .ref h9, .ref h10, .ref h11, .ref h12]), (h4, aQ (k 3) 4 (q4 h17 h18 h19 h20)), (h17, ob 5 [.int h17f0, .int h17f1, .ref h37]), (h18, ob 5 [.int h18f0, .int h18f1, .ref h38]), (h19, ob 5 [.int h19f0, .int h19f1, .ref h39]), (h20, ob 5 [.int h20f0, .int h20f1, .ref h40]), (h37, aJ (k 1) 40 anJ), (h38, aJ (k 1) 40 anJ), (h39, aJ (k 1) 40 anJ), (h40, aJ (k 1) 40 anJ)] H
set_option maxHeartbeats 4000000 in
set_option maxRecDepth 100000 in
theorem cX10_copy_694ba (l : Launch) (D : va_G) (k : Nat → ClassId) (sz : Nat) (h0 h4 h17 h18 h19 h20 h37 h38 h39 h40 h1 h2 h3 h5 h6 h7 h8 h9 h10 h11 h12 : Nat) (x1 : Int32) (x2 : Int32) (x3 : Int32) (x4 : Int32) (x5 : Int32) (h0f2 : Int32) (h0f6 : Int32) (h0f8 : Int32) (h0f11 : Int32) (h17f0 : Int32) (h17f1 : Int32) (h18f0 : Int32) (h18f1 : Int32) (h19f0 : Int32) (h19f1 : Int32) (h20f0 : Int32) (h20f1 : Int32) (b_h0f2 : 0 ≤ h0f2.toInt ∧ h0f2.toInt ≤ 1) (b_h0f6 : 0 ≤ h0f6.toInt ∧ h0f6.toInt ≤ 1) (b_h0f8 : 0 ≤ h0f8.toInt ∧ h0f8.toInt ≤ 1) (b_h0f11 : 0 ≤ h0f11.toInt ∧ h0f11.toInt ≤ 200) (b_h17f0 : (-1) ≤ h17f0.toInt ∧ h17f0.toInt ≤ 2) (b_h17f1 : 0 ≤ h17f1.toInt ∧ h17f1.toInt ≤ 40) (b_h18f0 : (-1) ≤ h18f0.toInt ∧ h18f0.toInt ≤ 2) (b_h18f1 : 0 ≤ h18f1.toInt ∧ h18f1.toInt ≤ 40) (b_h19f0 : (-1) ≤ h19f0.toInt ∧ h19f0.toInt ≤ 2) (b_h19f1 : 0 ≤ h19f1.toInt ∧ h19f1.toInt ≤ 40) (b_h20f0 : (-1) ≤ h20f0.toInt ∧ h20f0.toInt ≤ 2) (b_h20f1 : 0 ≤ h20f1.toInt ∧ h20f1.toInt ≤ 40) : Met l yX10_copy (Cond.code yX10_copy cX10_copy 8 (some .int) :: uw) Rm_cX10_copy_694ba (pT D k sz [.ref h0, .int x1, .int x2, .int x3, .int x4, .int x5] [(h0, ob 7 [.ref h1, .ref h2, .int h0f2, .ref h3, .ref h4, .ref h5, .int h0f6, .ref h6, .int h0f8, .null, .ref h7, .int h0f11, .ref h8, .ref h9, .ref h10, .ref h11, .ref h12]), (h4, aQ (k 3) 4 (q4 h17 h18 h19 h20)), (h17, ob 5 [.int h17f0, .int h17f1, .ref h37]), (h18, ob 5 [.int h18f0, .int h18f1, .ref h38]), (h19, ob 5 [.int h19f0, .int h19f1, .ref h39]), (h20, ob 5 [.int h20f0, .int h20f1, .ref h40]), (h37, aJ (k 1) 40 anJ), (h38, aJ (k 1) 40 anJ), (h39, aJ (k 1) 40 anJ), (h40, aJ (k 1) 40 anJ)]) (qI (B_cX10_copy_694ba D k h0 h4 h17 h18 h19 h20 h37 h38 h39 h40 h1 h2 h3 h5 h6 h7 h8 h9 h10 h11 h12 x1 x2 x3 x4 x5 h0f2 h0f6 h0f8 h0f11 h17f0 h17f1 h18f0 h18f1 h19f0 h19f1 h20f0 h20f1 (zA [h0, h4, h17, h18, h19, h20, h37, h38, h39, h40] sz)) (zA [h0, h4, h17, h18, h19, h20, h37, h38, h39, h40] sz)) 0 0 (zA [h0, h4, h17, h18, h19, h20, h37, h38, h39, h40] sz) := by
  refine tz_begin (as := [h0, h4, h17, h18, h19, h20, h37, h38, h39, h40]) (Qc := fun A => qI (B_cX10_copy_694ba D k h0 h4 h17 h18 h19 h20 h37 h38 h39 h40 h1 h2 h3 h5 h6 h7 h8 h9 h10 h11 h12 x1 x2 x3 x4 x5 h0f2 h0f6 h0f8 h0f11 h17f0 h17f1 h18f0 h18f1 h19f0 h19f1 h20f0 h20f1 A) A) (by decide +kernel) rfl (Nat.le_of_ble_eq_true rfl) ?_
  intro p e s m args below meth c ls A Q hx hb hr hml hown hlocks hin hU hK hT hS hA hl hQ
  have hl : lv_has ls 8 [(0, .ref h0), (1, .int x1), (2, .int x2), (3, .int x3), (4, .int x4), (5, .int x5)] := hl
  have hT : TP D A [(h0, ob 7 [.ref h1, .ref h2, .int h0f2, .ref h3, .ref h4, .ref h5, .int h0f6, .ref h6, .int h0f8, .null, .ref h7, .int h0f11, .ref h8, .ref h9, .ref h10, .ref h11, .ref h12]), (h4, aQ (k 3) 4 (q4 h17 h18 h19 h20)), (h17, ob 5 [.int h17f0, .int h17f1, .ref h37]), (h18, ob 5 [.int h18f0, .int h18f1, .ref h38]), (h19, ob 5 [.int h19f0, .int h19f1, .ref h39]), (h20, ob 5 [.int h20f0, .int h20f1, .ref h40]), (h37, aJ (k 1) 40 anJ), (h38, aJ (k 1) 40 anJ), (h39, aJ (k 1) 40 anJ), (h40, aJ (k 1) 40 anJ)] s.heap := hT
  refine lv_iload_n hx hb dX10_copy_0 rfl (lv_at hl 1 rfl) ?_
  refine tcI (Tc := []) (Tr := [(h0, ob 7 [.ref h1, .ref h2, .int h0f2, .ref h3, .ref h4, .ref h5, .int h0f6, .ref h6, .int h0f8, .null, .ref h7, .int h0f11, .ref h8, .ref h9, .ref h10, .ref h11, .ref h12]), (h4, aQ (k 3) 4 (q4 h17 h18 h19 h20)), (h17, ob 5 [.int h17f0, .int h17f1, .ref h37]), (h18, ob 5 [.int h18f0, .int h18f1, .ref h38]), (h19, ob 5 [.int h19f0, .int h19f1, .ref h39]), (h20, ob 5 [.int h20f0, .int h20f1, .ref h40]), (h37, aJ (k 1) 40 anJ), (h38, aJ (k 1) 40 anJ), (h39, aJ (k 1) 40 anJ), (h40, aJ (k 1) 40 anJ)]) (as := []) (zcS (As := [.int x1]) (rest := []) (Tc := []) hx hb hml hown hU hK hT [] rfl (by decide) (cX10_isSheet_f635c l D k _ x1) w640 w638 w639 w63 hdX10_isSheet ⟨rfl, rfl⟩ ⟨Nat.le_of_ble_eq_true rfl, Nat.le_of_ble_eq_true rfl⟩ rfl hl.1 (Nat.le_of_ble_eq_true rfl) dX10_copy_1 ⟨Nat.le_of_ble_eq_true rfl, Nat.le_of_ble_eq_true rfl⟩) hT hS hA [] [0, 1, 2, 3, 4, 5, 6, 7, 8, 9] rfl rfl rfl (by decide) (by decide) (fun r1 H locs hB J hS => ?_)
  rcases hB with ⟨rfl, hT1⟩ | ⟨c_2, c_3, rfl, hT1⟩
  · skip
    have hT := J _ hT1
    have hT : TP D A [(h0, ob 7 [.ref h1, .ref h2, .int h0f2, .ref h3, .ref h4, .ref h5, .int h0f6, .ref h6, .int h0f8, .null, .ref h7, .int h0f11, .ref h8, .ref h9, .ref h10, .ref h11, .ref h12]), (h4, aQ (k 3) 4 (q4 h17 h18 h19 h20)), (h17, ob 5 [.int h17f0, .int h17f1, .ref h37]), (h18, ob 5 [.int h18f0, .int h18f1, .ref h38]), (h19, ob 5 [.int h19f0, .int h19f1, .ref h39]), (h20, ob 5 [.int h20f0, .int h20f1, .ref h40]), (h37, aJ (k 1) 40 anJ), (h38, aJ (k 1) 40 anJ), (h39, aJ (k 1) 40 anJ), (h40, aJ (k 1) 40 anJ)] _ := hT
    refine lv_if_eq (tgt := 14) hx hb dX10_copy_4 (by decide) (fun _ => ?_) (fun cc => absurd (by decide +kernel) cc)
    refine lv_iconst (v := (-1)) hx hb dX10_copy_14 (by decide) ?_
    exact tz_retI (B := B_cX10_copy_694ba D k h0 h4 h17 h18 h19 h20 h37 h38 h39 h40 h1 h2 h3 h5 h6 h7 h8 h9 h10 h11 h12 x1 x2 x3 x4 x5 h0f2 h0f6 h0f8 h0f11 h17f0 h17f1 h18f0 h18f1 h19f0 h19f1 h20f0 h20f1) (v := (-1)) hQ hx hb hr hlocks hS (Nat.le_of_ble_eq_true rfl) (Nat.le_of_ble_eq_true rfl) dX10_copy_15 (⟨(by have := li_m1; omega), hT⟩)
  · skip
    have hT := J _ hT1
    have hT : TP D A [(h0, ob 7 [.ref h1, .ref h2, .int h0f2, .ref h3, .ref h4, .ref h5, .int h0f6, .ref h6, .int h0f8, .null, .ref h7, .int h0f11, .ref h8, .ref h9, .ref h10, .ref h11, .ref h12]), (h4, aQ (k 3) 4 (q4 h17 h18 h19 h20)), (h17, ob 5 [.int h17f0, .int h17f1, .ref h37]), (h18, ob 5 [.int h18f0, .int h18f1, .ref h38]), (h19, ob 5 [.int h19f0, .int h19f1, .ref h39]), (h20, ob 5 [.int h20f0, .int h20f1, .ref h40]), (h37, aJ (k 1) 40 anJ), (h38, aJ (k 1) 40 anJ), (h39, aJ (k 1) 40 anJ), (h40, aJ (k 1) 40 anJ)] _ := hT
    refine lv_if_eq (tgt := 14) hx hb dX10_copy_4 (by decide) (fun cc => absurd cc (by decide +kernel)) (fun _ => ?_)
    refine lv_iload_n hx hb dX10_copy_7 rfl (lv_at hl 3 rfl) ?_
    refine tcI (Tc := []) (Tr := [(h0, ob 7 [.ref h1, .ref h2, .int h0f2, .ref h3, .ref h4, .ref h5, .int h0f6, .ref h6, .int h0f8, .null, .ref h7, .int h0f11, .ref h8, .ref h9, .ref h10, .ref h11, .ref h12]), (h4, aQ (k 3) 4 (q4 h17 h18 h19 h20)), (h17, ob 5 [.int h17f0, .int h17f1, .ref h37]), (h18, ob 5 [.int h18f0, .int h18f1, .ref h38]), (h19, ob 5 [.int h19f0, .int h19f1, .ref h39]), (h20, ob 5 [.int h20f0, .int h20f1, .ref h40]), (h37, aJ (k 1) 40 anJ), (h38, aJ (k 1) 40 anJ), (h39, aJ (k 1) 40 anJ), (h40, aJ (k 1) 40 anJ)]) (as := []) (zcS (As := [.int x3]) (rest := []) (Tc := []) hx hb hml hown hU hK hT [] rfl (by decide) (cX10_isSheet_f635c l D k _ x3) w640 w638 w639 w63 hdX10_isSheet ⟨rfl, rfl⟩ ⟨Nat.le_of_ble_eq_true rfl, Nat.le_of_ble_eq_true rfl⟩ rfl hl.1 (Nat.le_of_ble_eq_true rfl) dX10_copy_8 ⟨Nat.le_of_ble_eq_true rfl, Nat.le_of_ble_eq_true rfl⟩) hT hS hA [] [0, 1, 2, 3, 4, 5, 6, 7, 8, 9] rfl rfl rfl (by decide) (by decide) (fun r4 H locs hB J hS => ?_)
    rcases hB with ⟨rfl, hT1⟩ | ⟨c_5, c_6, rfl, hT1⟩
    · skip
      have hT := J _ hT1
      have hT : TP D A [(h0, ob 7 [.ref h1, .ref h2, .int h0f2, .ref h3, .ref h4, .ref h5, .int h0f6, .ref h6, .int h0f8, .null, .ref h7, .int h0f11, .ref h8, .ref h9, .ref h10, .ref h11, .ref h12]), (h4, aQ (k 3) 4 (q4 h17 h18 h19 h20)), (h17, ob 5 [.int h17f0, .int h17f1, .ref h37]), (h18, ob 5 [.int h18f0, .int h18f1, .ref h38]), (h19, ob 5 [.int h19f0, .int h19f1, .ref h39]), (h20, ob 5 [.int h20f0, .int h20f1, .ref h40]), (h37, aJ (k 1) 40 anJ), (h38, aJ (k 1) 40 anJ), (h39, aJ (k 1) 40 anJ), (h40, aJ (k 1) 40 anJ)] _ := hT
      refine lv_if_ne (tgt := 16) hx hb dX10_copy_11 (by decide) (fun cc => absurd (by decide +kernel) cc) (fun _ => ?_)
      refine lv_iconst (v := (-1)) hx hb dX10_copy_14 (by decide) ?_
      exact tz_retI (B := B_cX10_copy_694ba D k h0 h4 h17 h18 h19 h20 h37 h38 h39 h40 h1 h2 h3 h5 h6 h7 h8 h9 h10 h11 h12 x1 x2 x3 x4 x5 h0f2 h0f6 h0f8 h0f11 h17f0 h17f1 h18f0 h18f1 h19f0 h19f1 h20f0 h20f1) (v := (-1)) hQ hx hb hr hlocks hS (Nat.le_of_ble_eq_true rfl) (Nat.le_of_ble_eq_true rfl) dX10_copy_15 (⟨(by have := li_m1; omega), hT⟩)
    · skip
      have hT := J _ hT1
      have hT : TP D A [(h0, ob 7 [.ref h1, .ref h2, .int h0f2, .ref h3, .ref h4, .ref h5, .int h0f6, .ref h6, .int h0f8, .null, .ref h7, .int h0f11, .ref h8, .ref h9, .ref h10, .ref h11, .ref h12]), (h4, aQ (k 3) 4 (q4 h17 h18 h19 h20)), (h17, ob 5 [.int h17f0, .int h17f1, .ref h37]), (h18, ob 5 [.int h18f0, .int h18f1, .ref h38]), (h19, ob 5 [.int h19f0, .int h19f1, .ref h39]), (h20, ob 5 [.int h20f0, .int h20f1, .ref h40]), (h37, aJ (k 1) 40 anJ), (h38, aJ (k 1) 40 anJ), (h39, aJ (k 1) 40 anJ), (h40, aJ (k 1) 40 anJ)] _ := hT
      refine lv_if_ne (tgt := 16) hx hb dX10_copy_11 (by decide) (fun _ => ?_) (fun cc => absurd cc (by decide +kernel))
      refine lv_aload_n hx hb dX10_copy_16 rfl (lv_at hl 0 rfl) ?_
      refine tz_get (ci := 7) (v := .ref h4) (C := RX10) (F := TX10) (N := 17) hx hb hU iX10 hown hK hT 0 rfl rfl 4 (by decide) w253 (fun _ h9 => h9) rfl dX10_copy_17 ?_
      refine lv_iload_n hx hb dX10_copy_20 rfl (lv_at hl 1 rfl) ?_
      rcases (show x1.toInt = 0 ∨ x1.toInt = 1 ∨ x1.toInt = 2 ∨ x1.toInt = 3 by omega) with hq7 | hq7 | hq7 | hq7
      · skip
        refine tz_aldq (b := h17) hx hb hK hT 1 rfl (vp_in_iff.mpr (by have := hq7; omega)) (fun f hf => by rw [cl_of hq7]; exact hf.1) dX10_copy_21 ?_
        refine lv_astore (lv' := [(6, .ref h17), (0, .ref h0), (1, .int x1), (2, .int x2), (3, .int x3), (4, .int x4), (5, .int x5)]) hx hb dX10_copy_22 hl (by decide) rfl (fun ls hl => ?_)
        refine lv_aload_n hx hb dX10_copy_24 rfl (lv_at hl 1 rfl) ?_
        refine tz_get (ci := 7) (v := .ref h4) (C := RX10) (F := TX10) (N := 17) hx hb hU iX10 hown hK hT 0 rfl rfl 4 (by decide) w253 (fun _ h9 => h9) rfl dX10_copy_25 ?_
        refine lv_iload_n hx hb dX10_copy_28 rfl (lv_at hl 4 rfl) ?_
        rcases (show x3.toInt = 0 ∨ x3.toInt = 1 ∨ x3.toInt = 2 ∨ x3.toInt = 3 by omega) with hq8 | hq8 | hq8 | hq8
        · skip
          refine tz_aldq (b := h17) hx hb hK hT 1 rfl (vp_in_iff.mpr (by have := hq8; omega)) (fun f hf => by rw [cl_of hq8]; exact hf.1) dX10_copy_29 ?_
          refine lv_astore (lv' := [(7, .ref h17), (6, .ref h17), (0, .ref h0), (1, .int x1), (2, .int x2), (3, .int x3), (4, .int x4), (5, .int x5)]) hx hb dX10_copy_30 hl (by decide) rfl (fun ls hl => ?_)
          refine lv_aload hx hb dX10_copy_32 (lv_at hl 1 rfl) ?_
          refine tcI (Tc := [(h17, ob 5 [.int h17f0, .int h17f1, .ref h37])]) (Tr := [(h0, ob 7 [.ref h1, .ref h2, .int h0f2, .ref h3, .ref h4, .ref h5, .int h0f6, .ref h6, .int h0f8, .null, .ref h7, .int h0f11, .ref h8, .ref h9, .ref h10, .ref h11, .ref h12]), (h4, aQ (k 3) 4 (q4 h17 h18 h19 h20)), (h18, ob 5 [.int h18f0, .int h18f1, .ref h38]), (h19, ob 5 [.int h19f0, .int h19f1, .ref h39]), (h20, ob 5 [.int h20f0, .int h20f1, .ref h40]), (h37, aJ (k 1) 40 anJ), (h38, aJ (k 1) 40 anJ), (h39, aJ (k 1) 40 anJ), (h40, aJ (k 1) 40 anJ)]) (as := [h17]) (zcV (q0 := 2) (ci := 5) (As := []) (rest := []) (Tc := [(h17, ob 5 [.int h17f0, .int h17f1, .ref h37])]) hx hb hml hown hU hK hT rfl rfl [2] rfl (by decide) (cX6_isMissing_56a93 l D k _ h17 h37 h17f0 h17f1 (by omega) (by omega)) w644 w641 w642 w643 w71 hdX6_isMissing ⟨rfl, rfl⟩ ⟨Nat.le_of_ble_eq_true rfl, Nat.le_of_ble_eq_true rfl⟩ rfl hl.1 (Nat.le_of_ble_eq_true rfl) dX10_copy_34 ⟨Nat.le_of_ble_eq_true rfl, Nat.le_of_ble_eq_true rfl⟩) hT hS hA [2] [0, 1, 3, 4, 5, 6, 7, 8, 9] rfl rfl rfl (by decide) (by decide) (fun r9 H locs hB J hS => ?_)
          rcases hB with ⟨c_10, rfl, hT1⟩ | ⟨rfl, hT1⟩
          · skip
            have hT := J _ hT1
            have hT : TP D A [(h0, ob 7 [.ref h1, .ref h2, .int h0f2, .ref h3, .ref h4, .ref h5, .int h0f6, .ref h6, .int h0f8, .null, .ref h7, .int h0f11, .ref h8, .ref h9, .ref h10, .ref h11, .ref h12]), (h4, aQ (k 3) 4 (q4 h17 h18 h19 h20)), (h18, ob 5 [.int h18f0, .int h18f1, .ref h38]), (h19, ob 5 [.int h19f0, .int h19f1, .ref h39]), (h20, ob 5 [.int h20f0, .int h20f1, .ref h40]), (h37, aJ (k 1) 40 anJ), (h38, aJ (k 1) 40 anJ), (h39, aJ (k 1) 40 anJ), (h40, aJ (k 1) 40 anJ), (h17, ob 5 [.int h17f0, .int h17f1, .ref h37])] _ := hT
            refine lv_if_ne (tgt := 48) hx hb dX10_copy_37 (by decide) (fun cc => absurd (by decide +kernel) cc) (fun _ => ?_)
            refine lv_aload hx hb dX10_copy_40 (lv_at hl 0 rfl) ?_
            refine tcI (Tc := [(h17, ob 5 [.int h17f0, .int h17f1, .ref h37])]) (Tr := [(h0, ob 7 [.ref h1, .ref h2, .int h0f2, .ref h3, .ref h4, .ref h5, .int h0f6, .ref h6, .int h0f8, .null, .ref h7, .int h0f11, .ref h8, .ref h9, .ref h10, .ref h11, .ref h12]), (h4, aQ (k 3) 4 (q4 h17 h18 h19 h20)), (h18, ob 5 [.int h18f0, .int h18f1, .ref h38]), (h19, ob 5 [.int h19f0, .int h19f1, .ref h39]), (h20, ob 5 [.int h20f0, .int h20f1, .ref h40]), (h37, aJ (k 1) 40 anJ), (h38, aJ (k 1) 40 anJ), (h39, aJ (k 1) 40 anJ), (h40, aJ (k 1) 40 anJ)]) (as := [h17]) (zcV (q0 := 9) (ci := 5) (As := []) (rest := []) (Tc := [(h17, ob 5 [.int h17f0, .int h17f1, .ref h37])]) hx hb hml hown hU hK hT rfl rfl [9] rfl (by decide) (cX6_isMissing_56a93 l D k _ h17 h37 h17f0 h17f1 (by omega) (by omega)) w644 w641 w642 w643 w71 hdX6_isMissing ⟨rfl, rfl⟩ ⟨Nat.le_of_ble_eq_true rfl, Nat.le_of_ble_eq_true rfl⟩ rfl hl.1 (Nat.le_of_ble_eq_true rfl) dX10_copy_42 ⟨Nat.le_of_ble_eq_true rfl, Nat.le_of_ble_eq_true rfl⟩) hT hS hA [9] [0, 1, 2, 3, 4, 5, 6, 7, 8] rfl rfl rfl (by decide) (by decide) (fun r11 H locs hB J hS => ?_)
            rcases hB with ⟨c_12, rfl, hT1⟩ | ⟨rfl, hT1⟩
            · skip
              have hT := J _ hT1
              have hT : TP D A [(h0, ob 7 [.ref h1, .ref h2, .int h0f2, .ref h3, .ref h4, .ref h5, .int h0f6, .ref h6, .int h0f8, .null, .ref h7, .int h0f11, .ref h8, .ref h9, .ref h10, .ref h11, .ref h12]), (h4, aQ (k 3) 4 (q4 h17 h18 h19 h20)), (h18, ob 5 [.int h18f0, .int h18f1, .ref h38]), (h19, ob 5 [.int h19f0, .int h19f1, .ref h39]), (h20, ob 5 [.int h20f0, .int h20f1, .ref h40]), (h37, aJ (k 1) 40 anJ), (h38, aJ (k 1) 40 anJ), (h39, aJ (k 1) 40 anJ), (h40, aJ (k 1) 40 anJ), (h17, ob 5 [.int h17f0, .int h17f1, .ref h37])] _ := hT
              refine lv_if_eq (tgt := 51) hx hb dX10_copy_45 (by decide) (fun _ => ?_) (fun cc => absurd (by decide +kernel) cc)
              refine lv_aload hx hb dX10_copy_51 (lv_at hl 1 rfl) ?_
              refine tz_get (ci := 5) (v := .int h17f0) (C := RX6) (F := TX6) (N := 3) hx hb hU iX6 hown hK hT 9 rfl rfl 0 (by decide) w238 (fun _ h9 => h9) rfl dX10_copy_53 ?_
              refine lv_aload hx hb dX10_copy_56 (lv_at hl 0 rfl) ?_
              refine tz_get (ci := 5) (v := .int h17f0) (C := RX6) (F := TX6) (N := 3) hx hb hU iX6 hown hK hT 9 rfl rfl 0 (by decide) w238 (fun _ h9 => h9) rfl dX10_copy_58 ?_
              refine lv_icmp_eq (tgt := 67) hx hb dX10_copy_61 (by decide) (fun c_13 => ?_) (fun c_13 => ?_)
              · skip
                have c_13 := ni_eq c_13 rfl rfl
                refine lv_aload hx hb dX10_copy_67 (lv_at hl 1 rfl) ?_
                refine lv_iload_n hx hb dX10_copy_69 rfl (lv_at hl 4 rfl) ?_
                refine lv_iload hx hb dX10_copy_70 (lv_at hl 7 rfl) ?_
                refine tcI (Tc := [(h17, ob 5 [.int h17f0, .int h17f1, .ref h37])]) (Tr := [(h0, ob 7 [.ref h1, .ref h2, .int h0f2, .ref h3, .ref h4, .ref h5, .int h0f6, .ref h6, .int h0f8, .null, .ref h7, .int h0f11, .ref h8, .ref h9, .ref h10, .ref h11, .ref h12]), (h4, aQ (k 3) 4 (q4 h17 h18 h19 h20)), (h18, ob 5 [.int h18f0, .int h18f1, .ref h38]), (h19, ob 5 [.int h19f0, .int h19f1, .ref h39]), (h20, ob 5 [.int h20f0, .int h20f1, .ref h40]), (h37, aJ (k 1) 40 anJ), (h38, aJ (k 1) 40 anJ), (h39, aJ (k 1) 40 anJ), (h40, aJ (k 1) 40 anJ)]) (as := [h17]) (zcV (q0 := 9) (ci := 5) (As := [.int x2, .int x5]) (rest := []) (Tc := [(h17, ob 5 [.int h17f0, .int h17f1, .ref h37])]) hx hb hml hown hU hK hT rfl rfl [9] rfl (by decide) (cX6_isOutside_cc85b l D k _ h17 h37 x2 x5 h17f0 h17f1 (by omega) (by omega)) w648 w645 w646 w647 w71 hdX6_isOutside ⟨rfl, rfl⟩ ⟨Nat.le_of_ble_eq_true rfl, Nat.le_of_ble_eq_true rfl⟩ rfl hl.1 (Nat.le_of_ble_eq_true rfl) dX10_copy_72 ⟨Nat.le_of_ble_eq_true rfl, Nat.le_of_ble_eq_true rfl⟩) hT hS hA [9] [0, 1, 2, 3, 4, 5, 6, 7, 8] rfl rfl rfl (by decide) (by decide) (fun r14 H locs hB J hS => ?_)
                rcases hB with ⟨rfl, hT1⟩ | ⟨c_15, c_16, c_17, rfl, hT1⟩
                · skip
                  have hT := J _ hT1
                  have hT : TP D A [(h0, ob 7 [.ref h1, .ref h2, .int h0f2, .ref h3, .ref h4, .ref h5, .int h0f6, .ref h6, .int h0f8, .null, .ref h7, .int h0f11, .ref h8, .ref h9, .ref h10, .ref h11, .ref h12]), (h4, aQ (k 3) 4 (q4 h17 h18 h19 h20)), (h18, ob 5 [.int h18f0, .int h18f1, .ref h38]), (h19, ob 5 [.int h19f0, .int h19f1, .ref h39]), (h20, ob 5 [.int h20f0, .int h20f1, .ref h40]), (h37, aJ (k 1) 40 anJ), (h38, aJ (k 1) 40 anJ), (h39, aJ (k 1) 40 anJ), (h40, aJ (k 1) 40 anJ), (h17, ob 5 [.int h17f0, .int h17f1, .ref h37])] _ := hT
                  refine lv_if_ne (tgt := 90) hx hb dX10_copy_75 (by decide) (fun _ => ?_) (fun cc => absurd cc (by decide +kernel))
                  refine lv_bipush (v := (-12)) hx hb dX10_copy_90 (by decide) ?_
                  exact tz_retI (B := B_cX10_copy_694ba D k h0 h4 h17 h18 h19 h20 h37 h38 h39 h40 h1 h2 h3 h5 h6 h7 h8 h9 h10 h11 h12 x1 x2 x3 x4 x5 h0f2 h0f6 h0f8 h0f11 h17f0 h17f1 h18f0 h18f1 h19f0 h19f1 h20f0 h20f1) (v := (-12)) hQ hx hb hr hlocks hS (Nat.le_of_ble_eq_true rfl) (Nat.le_of_ble_eq_true rfl) dX10_copy_92 (⟨(by have := li_m12; omega), (hT.sub [0, 1, 9, 2, 3, 4, 5, 6, 7, 8] (by decide) rfl)⟩)
                · skip
                  have hT := J _ hT1
                  have hT : TP D A [(h0, ob 7 [.ref h1, .ref h2, .int h0f2, .ref h3, .ref h4, .ref h5, .int h0f6, .ref h6, .int h0f8, .null, .ref h7, .int h0f11, .ref h8, .ref h9, .ref h10, .ref h11, .ref h12]), (h4, aQ (k 3) 4 (q4 h17 h18 h19 h20)), (h18, ob 5 [.int h18f0, .int h18f1, .ref h38]), (h19, ob 5 [.int h19f0, .int h19f1, .ref h39]), (h20, ob 5 [.int h20f0, .int h20f1, .ref h40]), (h37, aJ (k 1) 40 anJ), (h38, aJ (k 1) 40 anJ), (h39, aJ (k 1) 40 anJ), (h40, aJ (k 1) 40 anJ), (h17, ob 5 [.int h17f0, .int h17f1, .ref h37])] _ := hT
                  refine lv_if_ne (tgt := 90) hx hb dX10_copy_75 (by decide) (fun cc => absurd (by decide +kernel) cc) (fun _ => ?_)
                  refine lv_aload hx hb dX10_copy_78 (lv_at hl 0 rfl) ?_
                  refine lv_iload hx hb dX10_copy_80 (lv_at hl 6 rfl) ?_
                  refine lv_iload hx hb dX10_copy_82 (lv_at hl 7 rfl) ?_
                  refine tcI (Tc := [(h17, ob 5 [.int h17f0, .int h17f1, .ref h37])]) (Tr := [(h0, ob 7 [.ref h1, .ref h2, .int h0f2, .ref h3, .ref h4, .ref h5, .int h0f6, .ref h6, .int h0f8, .null, .ref h7, .int h0f11, .ref h8, .ref h9, .ref h10, .ref h11, .ref h12]), (h4, aQ (k 3) 4 (q4 h17 h18 h19 h20)), (h18, ob 5 [.int h18f0, .int h18f1, .ref h38]), (h19, ob 5 [.int h19f0, .int h19f1, .ref h39]), (h20, ob 5 [.int h20f0, .int h20f1, .ref h40]), (h37, aJ (k 1) 40 anJ), (h38, aJ (k 1) 40 anJ), (h39, aJ (k 1) 40 anJ), (h40, aJ (k 1) 40 anJ)]) (as := [h17]) (zcV (q0 := 9) (ci := 5) (As := [.int x4, .int x5]) (rest := []) (Tc := [(h17, ob 5 [.int h17f0, .int h17f1, .ref h37])]) hx hb hml hown hU hK hT rfl rfl [9] rfl (by decide) (cX6_isOutside_cc85b l D k _ h17 h37 x4 x5 h17f0 h17f1 (by omega) (by omega)) w648 w645 w646 w647 w71 hdX6_isOutside ⟨rfl, rfl⟩ ⟨Nat.le_of_ble_eq_true rfl, Nat.le_of_ble_eq_true rfl⟩ rfl hl.1 (Nat.le_of_ble_eq_true rfl) dX10_copy_84 ⟨Nat.le_of_ble_eq_true rfl, Nat.le_of_ble_eq_true rfl⟩) hT hS hA [9] [0, 1, 2, 3, 4, 5, 6, 7, 8] rfl rfl rfl (by decide) (by decide) (fun r18 H locs hB J hS => ?_)
                  rcases hB with ⟨rfl, hT1⟩ | ⟨c_19, c_20, c_21, rfl, hT1⟩
                  · skip
                    have hT := J _ hT1
                    have hT : TP D A [(h0, ob 7 [.ref h1, .ref h2, .int h0f2, .ref h3, .ref h4, .ref h5, .int h0f6, .ref h6, .int h0f8, .null, .ref h7, .int h0f11, .ref h8, .ref h9, .ref h10, .ref h11, .ref h12]), (h4, aQ (k 3) 4 (q4 h17 h18 h19 h20)), (h18, ob 5 [.int h18f0, .int h18f1, .ref h38]), (h19, ob 5 [.int h19f0, .int h19f1, .ref h39]), (h20, ob 5 [.int h20f0, .int h20f1, .ref h40]), (h37, aJ (k 1) 40 anJ), (h38, aJ (k 1) 40 anJ), (h39, aJ (k 1) 40 anJ), (h40, aJ (k 1) 40 anJ), (h17, ob 5 [.int h17f0, .int h17f1, .ref h37])] _ := hT
                    refine lv_if_eq (tgt := 93) hx hb dX10_copy_87 (by decide) (fun cc => absurd cc (by decide +kernel)) (fun _ => ?_)
                    refine lv_bipush (v := (-12)) hx hb dX10_copy_90 (by decide) ?_
                    exact tz_retI (B := B_cX10_copy_694ba D k h0 h4 h17 h18 h19 h20 h37 h38 h39 h40 h1 h2 h3 h5 h6 h7 h8 h9 h10 h11 h12 x1 x2 x3 x4 x5 h0f2 h0f6 h0f8 h0f11 h17f0 h17f1 h18f0 h18f1 h19f0 h19f1 h20f0 h20f1) (v := (-12)) hQ hx hb hr hlocks hS (Nat.le_of_ble_eq_true rfl) (Nat.le_of_ble_eq_true rfl) dX10_copy_92 (⟨(by have := li_m12; omega), (hT.sub [0, 1, 9, 2, 3, 4, 5, 6, 7, 8] (by decide) rfl)⟩)
                  · skip
                    have hT := J _ hT1
                    have hT : TP D A [(h0, ob 7 [.ref h1, .ref h2, .int h0f2, .ref h3, .ref h4, .ref h5, .int h0f6, .ref h6, .int h0f8, .null, .ref h7, .int h0f11, .ref h8, .ref h9, .ref h10, .ref h11, .ref h12]), (h4, aQ (k 3) 4 (q4 h17 h18 h19 h20)), (h18, ob 5 [.int h18f0, .int h18f1, .ref h38]), (h19, ob 5 [.int h19f0, .int h19f1, .ref h39]), (h20, ob 5 [.int h20f0, .int h20f1, .ref h40]), (h37, aJ (k 1) 40 anJ), (h38, aJ (k 1) 40 anJ), (h39, aJ (k 1) 40 anJ), (h40, aJ (k 1) 40 anJ), (h17, ob 5 [.int h17f0, .int h17f1, .ref h37])] _ := hT
                    refine lv_if_eq (tgt := 93) hx hb dX10_copy_87 (by decide) (fun _ => ?_) (fun cc => absurd (by decide +kernel) cc)
                    refine lv_aload hx hb dX10_copy_93 (lv_at hl 1 rfl) ?_
                    refine tz_get (ci := 5) (v := .ref h37) (C := RX6) (F := TX6) (N := 3) hx hb hU iX6 hown hK hT 9 rfl rfl 2 (by decide) w241 (fun _ h9 => h9) rfl dX10_copy_95 ?_
                    refine lv_iload_n hx hb dX10_copy_98 rfl (lv_at hl 4 rfl) ?_
                    refine lv_aload hx hb dX10_copy_99 (lv_at hl 0 rfl) ?_
                    refine tz_get (ci := 5) (v := .ref h37) (C := RX6) (F := TX6) (N := 3) hx hb hU iX6 hown hK hT 9 rfl rfl 2 (by decide) w241 (fun _ h9 => h9) rfl dX10_copy_101 ?_
                    refine lv_iload hx hb dX10_copy_104 (lv_at hl 6 rfl) ?_
                    refine lv_iload hx hb dX10_copy_106 (lv_at hl 7 rfl) ?_
                    refine tz_copyl hx hb (by rw [hml]; exact hl.1.symm) hown hU w410 w348 w347 w75 hK hT hS 5 5 rfl rfl (by omega) (fun _ _ _ _ => trivial) (Nat.le_of_ble_eq_true rfl) (Nat.le_of_ble_eq_true rfl) dX10_copy_108 (fun H locs hT hS => ?_)
                    refine lv_iload hx hb dX10_copy_111 (lv_at hl 7 rfl) ?_
                    exact tz_retI (B := B_cX10_copy_694ba D k h0 h4 h17 h18 h19 h20 h37 h38 h39 h40 h1 h2 h3 h5 h6 h7 h8 h9 h10 h11 h12 x1 x2 x3 x4 x5 h0f2 h0f6 h0f8 h0f11 h17f0 h17f1 h18f0 h18f1 h19f0 h19f1 h20f0 h20f1) (v := x5) hQ hx hb hr hlocks hS (Nat.le_of_ble_eq_true rfl) (Nat.le_of_ble_eq_true rfl) dX10_copy_113 (⟨(by omega), (hT.sub [0, 1, 9, 2, 3, 4, 5, 6, 7, 8] (by decide) rfl)⟩)
              · skip
                have c_13 := ni_ne c_13 rfl rfl
                exfalso; omega
            · skip
              have hT := J _ hT1
              have hT : TP D A [(h0, ob 7 [.ref h1, .ref h2, .int h0f2, .ref h3, .ref h4, .ref h5, .int h0f6, .ref h6, .int h0f8, .null, .ref h7, .int h0f11, .ref h8, .ref h9, .ref h10, .ref h11, .ref h12]), (h4, aQ (k 3) 4 (q4 h17 h18 h19 h20)), (h18, ob 5 [.int h18f0, .int h18f1, .ref h38]), (h19, ob 5 [.int h19f0, .int h19f1, .ref h39]), (h20, ob 5 [.int h20f0, .int h20f1, .ref h40]), (h37, aJ (k 1) 40 anJ), (h38, aJ (k 1) 40 anJ), (h39, aJ (k 1) 40 anJ), (h40, aJ (k 1) 40 anJ), (h17, ob 5 [.int h17f0, .int h17f1, .ref h37])] _ := hT
              refine lv_if_eq (tgt := 51) hx hb dX10_copy_45 (by decide) (fun cc => absurd cc (by decide +kernel)) (fun _ => ?_)
              refine lv_bipush (v := (-11)) hx hb dX10_copy_48 (by decide) ?_
              exact tz_retI (B := B_cX10_copy_694ba D k h0 h4 h17 h18 h19 h20 h37 h38 h39 h40 h1 h2 h3 h5 h6 h7 h8 h9 h10 h11 h12 x1 x2 x3 x4 x5 h0f2 h0f6 h0f8 h0f11 h17f0 h17f1 h18f0 h18f1 h19f0 h19f1 h20f0 h20f1) (v := (-11)) hQ hx hb hr hlocks hS (Nat.le_of_ble_eq_true rfl) (Nat.le_of_ble_eq_true rfl) dX10_copy_50 (⟨(by have := li_m11; omega), (hT.sub [0, 1, 9, 2, 3, 4, 5, 6, 7, 8] (by decide) rfl)⟩)
          · skip
            have hT := J _ hT1
            have hT : TP D A [(h0, ob 7 [.ref h1, .ref h2, .int h0f2, .ref h3, .ref h4, .ref h5, .int h0f6, .ref h6, .int h0f8, .null, .ref h7, .int h0f11, .ref h8, .ref h9, .ref h10, .ref h11, .ref h12]), (h4, aQ (k 3) 4 (q4 h17 h18 h19 h20)), (h18, ob 5 [.int h18f0, .int h18f1, .ref h38]), (h19, ob 5 [.int h19f0, .int h19f1, .ref h39]), (h20, ob 5 [.int h20f0, .int h20f1, .ref h40]), (h37, aJ (k 1) 40 anJ), (h38, aJ (k 1) 40 anJ), (h39, aJ (k 1) 40 anJ), (h40, aJ (k 1) 40 anJ), (h17, ob 5 [.int h17f0, .int h17f1, .ref h37])] _ := hT
            refine lv_if_ne (tgt := 48) hx hb dX10_copy_37 (by decide) (fun _ => ?_) (fun cc => absurd cc (by decide +kernel))
            refine lv_bipush (v := (-11)) hx hb dX10_copy_48 (by decide) ?_
            exact tz_retI (B := B_cX10_copy_694ba D k h0 h4 h17 h18 h19 h20 h37 h38 h39 h40 h1 h2 h3 h5 h6 h7 h8 h9 h10 h11 h12 x1 x2 x3 x4 x5 h0f2 h0f6 h0f8 h0f11 h17f0 h17f1 h18f0 h18f1 h19f0 h19f1 h20f0 h20f1) (v := (-11)) hQ hx hb hr hlocks hS (Nat.le_of_ble_eq_true rfl) (Nat.le_of_ble_eq_true rfl) dX10_copy_50 (⟨(by have := li_m11; omega), (hT.sub [0, 1, 9, 2, 3, 4, 5, 6, 7, 8] (by decide) rfl)⟩)
        · skip
          refine tz_aldq (b := h18) hx hb hK hT 1 rfl (vp_in_iff.mpr (by have := hq8; omega)) (fun f hf => by rw [cl_of hq8]; exact hf.2.1) dX10_copy_29 ?_
          refine lv_astore (lv' := [(7, .ref h18), (6, .ref h17), (0, .ref h0), (1, .int x1), (2, .int x2), (3, .int x3), (4, .int x4), (5, .int x5)]) hx hb dX10_copy_30 hl (by decide) rfl (fun ls hl => ?_)
          refine lv_aload hx hb dX10_copy_32 (lv_at hl 1 rfl) ?_
          refine tcI (Tc := [(h17, ob 5 [.int h17f0, .int h17f1, .ref h37])]) (Tr := [(h0, ob 7 [.ref h1, .ref h2, .int h0f2, .ref h3, .ref h4, .ref h5, .int h0f6, .ref h6, .int h0f8, .null, .ref h7, .int h0f11, .ref h8, .ref h9, .ref h10, .ref h11, .ref h12]), (h4, aQ (k 3) 4 (q4 h17 h18 h19 h20)), (h18, ob 5 [.int h18f0, .int h18f1, .ref h38]), (h19, ob 5 [.int h19f0, .int h19f1, .ref h39]), (h20, ob 5 [.int h20f0, .int h20f1, .ref h40]), (h37, aJ (k 1) 40 anJ), (h38, aJ (k 1) 40 anJ), (h39, aJ (k 1) 40 anJ), (h40, aJ (k 1) 40 anJ)]) (as := [h17]) (zcV (q0 := 2) (ci := 5) (As := []) (rest := []) (Tc := [(h17, ob 5 [.int h17f0, .int h17f1, .ref h37])]) hx hb hml hown hU hK hT rfl rfl [2] rfl (by decide) (cX6_isMissing_56a93 l D k _ h17 h37 h17f0 h17f1 (by omega) (by omega)) w644 w641 w642 w643 w71 hdX6_isMissing ⟨rfl, rfl⟩ ⟨Nat.le_of_ble_eq_true rfl, Nat.le_of_ble_eq_true rfl⟩ rfl hl.1 (Nat.le_of_ble_eq_true rfl) dX10_copy_34 ⟨Nat.le_of_ble_eq_true rfl, Nat.le_of_ble_eq_true rfl⟩) hT hS hA [2] [0, 1, 3, 4, 5, 6, 7, 8, 9] rfl rfl rfl (by decide) (by decide) (fun r22 H locs hB J hS => ?_)
          rcases hB with ⟨c_23, rfl, hT1⟩ | ⟨rfl, hT1⟩
          · skip
            have hT := J _ hT1
            have hT : TP D A [(h0, ob 7 [.ref h1, .ref h2, .int h0f2, .ref h3, .ref h4, .ref h5, .int h0f6, .ref h6, .int h0f8, .null, .ref h7, .int h0f11, .ref h8, .ref h9, .ref h10, .ref h11, .ref h12]), (h4, aQ (k 3) 4 (q4 h17 h18 h19 h20)), (h18, ob 5 [.int h18f0, .int h18f1, .ref h38]), (h19, ob 5 [.int h19f0, .int h19f1, .ref h39]), (h20, ob 5 [.int h20f0, .int h20f1, .ref h40]), (h37, aJ (k 1) 40 anJ), (h38, aJ (k 1) 40 anJ), (h39, aJ (k 1) 40 anJ), (h40, aJ (k 1) 40 anJ), (h17, ob 5 [.int h17f0, .int h17f1, .ref h37])] _ := hT
            refine lv_if_ne (tgt := 48) hx hb dX10_copy_37 (by decide) (fun cc => absurd (by decide +kernel) cc) (fun _ => ?_)
            refine lv_aload hx hb dX10_copy_40 (lv_at hl 0 rfl) ?_
            refine tcI (Tc := [(h18, ob 5 [.int h18f0, .int h18f1, .ref h38])]) (Tr := [(h0, ob 7 [.ref h1, .ref h2, .int h0f2, .ref h3, .ref h4, .ref h5, .int h0f6, .ref h6, .int h0f8, .null, .ref h7, .int h0f11, .ref h8, .ref h9, .ref h10, .ref h11, .ref h12]), (h4, aQ (k 3) 4 (q4 h17 h18 h19 h20)), (h19, ob 5 [.int h19f0, .int h19f1, .ref h39]), (h20, ob 5 [.int h20f0, .int h20f1, .ref h40]), (h37, aJ (k 1) 40 anJ), (h38, aJ (k 1) 40 anJ), (h39, aJ (k 1) 40 anJ), (h40, aJ (k 1) 40 anJ), (h17, ob 5 [.int h17f0, .int h17f1, .ref h37])]) (as := [h18]) (zcV (q0 := 2) (ci := 5) (As := []) (rest := []) (Tc := [(h18, ob 5 [.int h18f0, .int h18f1, .ref h38])]) hx hb hml hown hU hK hT rfl rfl [2] rfl (by decide) (cX6_isMissing_56a93 l D k _ h18 h38 h18f0 h18f1 (by omega) (by omega)) w644 w641 w642 w643 w71 hdX6_isMissing ⟨rfl, rfl⟩ ⟨Nat.le_of_ble_eq_true rfl, Nat.le_of_ble_eq_true rfl⟩ rfl hl.1 (Nat.le_of_ble_eq_true rfl) dX10_copy_42 ⟨Nat.le_of_ble_eq_true rfl, Nat.le_of_ble_eq_true rfl⟩) hT hS hA [2] [0, 1, 3, 4, 5, 6, 7, 8, 9] rfl rfl rfl (by decide) (by decide) (fun r24 H locs hB J hS => ?_)
            rcases hB with ⟨c_25, rfl, hT1⟩ | ⟨rfl, hT1⟩
            · skip
              have hT := J _ hT1
              have hT : TP D A [(h0, ob 7 [.ref h1, .ref h2, .int h0f2, .ref h3, .ref h4, .ref h5, .int h0f6, .ref h6, .int h0f8, .null, .ref h7, .int h0f11, .ref h8, .ref h9, .ref h10, .ref h11, .ref h12]), (h4, aQ (k 3) 4 (q4 h17 h18 h19 h20)), (h19, ob 5 [.int h19f0, .int h19f1, .ref h39]), (h20, ob 5 [.int h20f0, .int h20f1, .ref h40]), (h37, aJ (k 1) 40 anJ), (h38, aJ (k 1) 40 anJ), (h39, aJ (k 1) 40 anJ), (h40, aJ (k 1) 40 anJ), (h17, ob 5 [.int h17f0, .int h17f1, .ref h37]), (h18, ob 5 [.int h18f0, .int h18f1, .ref h38])] _ := hT
              refine lv_if_eq (tgt := 51) hx hb dX10_copy_45 (by decide) (fun _ => ?_) (fun cc => absurd (by decide +kernel) cc)
              refine lv_aload hx hb dX10_copy_51 (lv_at hl 1 rfl) ?_
              refine tz_get (ci := 5) (v := .int h17f0) (C := RX6) (F := TX6) (N := 3) hx hb hU iX6 hown hK hT 8 rfl rfl 0 (by decide) w238 (fun _ h9 => h9) rfl dX10_copy_53 ?_
              refine lv_aload hx hb dX10_copy_56 (lv_at hl 0 rfl) ?_
              refine tz_get (ci := 5) (v := .int h18f0) (C := RX6) (F := TX6) (N := 3) hx hb hU iX6 hown hK hT 9 rfl rfl 0 (by decide) w238 (fun _ h9 => h9) rfl dX10_copy_58 ?_
              refine lv_icmp_eq (tgt := 67) hx hb dX10_copy_61 (by decide) (fun c_26 => ?_) (fun c_26 => ?_)
              · skip
                have c_26 := ni_eq c_26 rfl rfl
                refine lv_aload hx hb dX10_copy_67 (lv_at hl 1 rfl) ?_
                refine lv_iload_n hx hb dX10_copy_69 rfl (lv_at hl 4 rfl) ?_
                refine lv_iload hx hb dX10_copy_70 (lv_at hl 7 rfl) ?_
                refine tcI (Tc := [(h17, ob 5 [.int h17f0, .int h17f1, .ref h37])]) (Tr := [(h0, ob 7 [.ref h1, .ref h2, .int h0f2, .ref h3, .ref h4, .ref h5, .int h0f6, .ref h6, .int h0f8, .null, .ref h7, .int h0f11, .ref h8, .ref h9, .ref h10, .ref h11, .ref h12]), (h4, aQ (k 3) 4 (q4 h17 h18 h19 h20)), (h19, ob 5 [.int h19f0, .int h19f1, .ref h39]), (h20, ob 5 [.int h20f0, .int h20f1, .ref h40]), (h37, aJ (k 1) 40 anJ), (h38, aJ (k 1) 40 anJ), (h39, aJ (k 1) 40 anJ), (h40, aJ (k 1) 40 anJ), (h18, ob 5 [.int h18f0, .int h18f1, .ref h38])]) (as := [h17]) (zcV (q0 := 8) (ci := 5) (As := [.int x2, .int x5]) (rest := []) (Tc := [(h17, ob 5 [.int h17f0, .int h17f1, .ref h37])]) hx hb hml hown hU hK hT rfl rfl [8] rfl (by decide) (cX6_isOutside_cc85b l D k _ h17 h37 x2 x5 h17f0 h17f1 (by omega) (by omega)) w648 w645 w646 w647 w71 hdX6_isOutside ⟨rfl, rfl⟩ ⟨Nat.le_of_ble_eq_true rfl, Nat.le_of_ble_eq_true rfl⟩ rfl hl.1 (Nat.le_of_ble_eq_true rfl) dX10_copy_72 ⟨Nat.le_of_ble_eq_true rfl, Nat.le_of_ble_eq_true rfl⟩) hT hS hA [8] [0, 1, 2, 3, 4, 5, 6, 7, 9] rfl rfl rfl (by decide) (by decide) (fun r27 H locs hB J hS => ?_)
                rcases hB with ⟨rfl, hT1⟩ | ⟨c_28, c_29, c_30, rfl, hT1⟩
                · skip
                  have hT := J _ hT1
                  have hT : TP D A [(h0, ob 7 [.ref h1, .ref h2, .int h0f2, .ref h3, .ref h4, .ref h5, .int h0f6, .ref h6, .int h0f8, .null, .ref h7, .int h0f11, .ref h8, .ref h9, .ref h10, .ref h11, .ref h12]), (h4, aQ (k 3) 4 (q4 h17 h18 h19 h20)), (h19, ob 5 [.int h19f0, .int h19f1, .ref h39]), (h20, ob 5 [.int h20f0, .int h20f1, .ref h40]), (h37, aJ (k 1) 40 anJ), (h38, aJ (k 1) 40 anJ), (h39, aJ (k 1) 40 anJ), (h40, aJ (k 1) 40 anJ), (h18, ob 5 [.int h18f0, .int h18f1, .ref h38]), (h17, ob 5 [.int h17f0, .int h17f1, .ref h37])] _ := hT
                  refine lv_if_ne (tgt := 90) hx hb dX10_copy_75 (by decide) (fun _ => ?_) (fun cc => absurd cc (by decide +kernel))
                  refine lv_bipush (v := (-12)) hx hb dX10_copy_90 (by decide) ?_
                  exact tz_retI (B := B_cX10_copy_694ba D k h0 h4 h17 h18 h19 h20 h37 h38 h39 h40 h1 h2 h3 h5 h6 h7 h8 h9 h10 h11 h12 x1 x2 x3 x4 x5 h0f2 h0f6 h0f8 h0f11 h17f0 h17f1 h18f0 h18f1 h19f0 h19f1 h20f0 h20f1) (v := (-12)) hQ hx hb hr hlocks hS (Nat.le_of_ble_eq_true rfl) (Nat.le_of_ble_eq_true rfl) dX10_copy_92 (⟨(by have := li_m12; omega), (hT.sub [0, 1, 9, 8, 2, 3, 4, 5, 6, 7] (by decide) rfl)⟩)
                · skip
                  have hT := J _ hT1
                  have hT : TP D A [(h0, ob 7 [.ref h1, .ref h2, .int h0f2, .ref h3, .ref h4, .ref h5, .int h0f6, .ref h6, .int h0f8, .null, .ref h7, .int h0f11, .ref h8, .ref h9, .ref h10, .ref h11, .ref h12]), (h4, aQ (k 3) 4 (q4 h17 h18 h19 h20)), (h19, ob 5 [.int h19f0, .int h19f1, .ref h39]), (h20, ob 5 [.int h20f0, .int h20f1, .ref h40]), (h37, aJ (k 1) 40 anJ), (h38, aJ (k 1) 40 anJ), (h39, aJ (k 1) 40 anJ), (h40, aJ (k 1) 40 anJ), (h18, ob 5 [.int h18f0, .int h18f1, .ref h38]), (h17, ob 5 [.int h17f0, .int h17f1, .ref h37])] _ := hT
                  refine lv_if_ne (tgt := 90) hx hb dX10_copy_75 (by decide) (fun cc => absurd (by decide +kernel) cc) (fun _ => ?_)
                  refine lv_aload hx hb dX10_copy_78 (lv_at hl 0 rfl) ?_
                  refine lv_iload hx hb dX10_copy_80 (lv_at hl 6 rfl) ?_
                  refine lv_iload hx hb dX10_copy_82 (lv_at hl 7 rfl) ?_
                  refine tcI (Tc := [(h18, ob 5 [.int h18f0, .int h18f1, .ref h38])]) (Tr := [(h0, ob 7 [.ref h1, .ref h2, .int h0f2, .ref h3, .ref h4, .ref h5, .int h0f6, .ref h6, .int h0f8, .null, .ref h7, .int h0f11, .ref h8, .ref h9, .ref h10, .ref h11, .ref h12]), (h4, aQ (k 3) 4 (q4 h17 h18 h19 h20)), (h19, ob 5 [.int h19f0, .int h19f1, .ref h39]), (h20, ob 5 [.int h20f0, .int h20f1, .ref h40]), (h37, aJ (k 1) 40 anJ), (h38, aJ (k 1) 40 anJ), (h39, aJ (k 1) 40 anJ), (h40, aJ (k 1) 40 anJ), (h17, ob 5 [.int h17f0, .int h17f1, .ref h37])]) (as := [h18]) (zcV (q0 := 8) (ci := 5) (As := [.int x4, .int x5]) (rest := []) (Tc := [(h18, ob 5 [.int h18f0, .int h18f1, .ref h38])]) hx hb hml hown hU hK hT rfl rfl [8] rfl (by decide) (cX6_isOutside_cc85b l D k _ h18 h38 x4 x5 h18f0 h18f1 (by omega) (by omega)) w648 w645 w646 w647 w71 hdX6_isOutside ⟨rfl, rfl⟩ ⟨Nat.le_of_ble_eq_true rfl, Nat.le_of_ble_eq_true rfl⟩ rfl hl.1 (Nat.le_of_ble_eq_true rfl) dX10_copy_84 ⟨Nat.le_of_ble_eq_true rfl, Nat.le_of_ble_eq_true rfl⟩) hT hS hA [8] [0, 1, 2, 3, 4, 5, 6, 7, 9] rfl rfl rfl (by decide) (by decide) (fun r31 H locs hB J hS => ?_)
                  rcases hB with ⟨rfl, hT1⟩ | ⟨c_32, c_33, c_34, rfl, hT1⟩
                  · skip
                    have hT := J _ hT1
                    have hT : TP D A [(h0, ob 7 [.ref h1, .ref h2, .int h0f2, .ref h3, .ref h4, .ref h5, .int h0f6, .ref h6, .int h0f8, .null, .ref h7, .int h0f11, .ref h8, .ref h9, .ref h10, .ref h11, .ref h12]), (h4, aQ (k 3) 4 (q4 h17 h18 h19 h20)), (h19, ob 5 [.int h19f0, .int h19f1, .ref h39]), (h20, ob 5 [.int h20f0, .int h20f1, .ref h40]), (h37, aJ (k 1) 40 anJ), (h38, aJ (k 1) 40 anJ), (h39, aJ (k 1) 40 anJ), (h40, aJ (k 1) 40 anJ), (h17, ob 5 [.int h17f0, .int h17f1, .ref h37]), (h18, ob 5 [.int h18f0, .int h18f1, .ref h38])] _ := hT
                    refine lv_if_eq (tgt := 93) hx hb dX10_copy_87 (by decide) (fun cc => absurd cc (by decide +kernel)) (fun _ => ?_)
                    refine lv_bipush (v := (-12)) hx hb dX10_copy_90 (by decide) ?_
                    exact tz_retI (B := B_cX10_copy_694ba D k h0 h4 h17 h18 h19 h20 h37 h38 h39 h40 h1 h2 h3 h5 h6 h7 h8 h9 h10 h11 h12 x1 x2 x3 x4 x5 h0f2 h0f6 h0f8 h0f11 h17f0 h17f1 h18f0 h18f1 h19f0 h19f1 h20f0 h20f1) (v := (-12)) hQ hx hb hr hlocks hS (Nat.le_of_ble_eq_true rfl) (Nat.le_of_ble_eq_true rfl) dX10_copy_92 (⟨(by have := li_m12; omega), (hT.sub [0, 1, 8, 9, 2, 3, 4, 5, 6, 7] (by decide) rfl)⟩)
                  · skip
                    have hT := J _ hT1
                    have hT : TP D A [(h0, ob 7 [.ref h1, .ref h2, .int h0f2, .ref h3, .ref h4, .ref h5, .int h0f6, .ref h6, .int h0f8, .null, .ref h7, .int h0f11, .ref h8, .ref h9, .ref h10, .ref h11, .ref h12]), (h4, aQ (k 3) 4 (q4 h17 h18 h19 h20)), (h19, ob 5 [.int h19f0, .int h19f1, .ref h39]), (h20, ob 5 [.int h20f0, .int h20f1, .ref h40]), (h37, aJ (k 1) 40 anJ), (h38, aJ (k 1) 40 anJ), (h39, aJ (k 1) 40 anJ), (h40, aJ (k 1) 40 anJ), (h17, ob 5 [.int h17f0, .int h17f1, .ref h37]), (h18, ob 5 [.int h18f0, .int h18f1, .ref h38])] _ := hT
                    refine lv_if_eq (tgt := 93) hx hb dX10_copy_87 (by decide) (fun _ => ?_) (fun cc => absurd (by decide +kernel) cc)
                    refine lv_aload hx hb dX10_copy_93 (lv_at hl 1 rfl) ?_
                    refine tz_get (ci := 5) (v := .ref h37) (C := RX6) (F := TX6) (N := 3) hx hb hU iX6 hown hK hT 8 rfl rfl 2 (by decide) w241 (fun _ h9 => h9) rfl dX10_copy_95 ?_
                    refine lv_iload_n hx hb dX10_copy_98 rfl (lv_at hl 4 rfl) ?_
                    refine lv_aload hx hb dX10_copy_99 (lv_at hl 0 rfl) ?_
                    refine tz_get (ci := 5) (v := .ref h38) (C := RX6) (F := TX6) (N := 3) hx hb hU iX6 hown hK hT 9 rfl rfl 2 (by decide) w241 (fun _ h9 => h9) rfl dX10_copy_101 ?_
                    refine lv_iload hx hb dX10_copy_104 (lv_at hl 6 rfl) ?_
                    refine lv_iload hx hb dX10_copy_106 (lv_at hl 7 rfl) ?_
                    refine tz_copyl hx hb (by rw [hml]; exact hl.1.symm) hown hU w410 w348 w347 w75 hK hT hS 4 5 rfl rfl (by omega) (fun _ _ _ _ => trivial) (Nat.le_of_ble_eq_true rfl) (Nat.le_of_ble_eq_true rfl) dX10_copy_108 (fun H locs hT hS => ?_)
                    refine lv_iload hx hb dX10_copy_111 (lv_at hl 7 rfl) ?_
                    exact tz_retI (B := B_cX10_copy_694ba D k h0 h4 h17 h18 h19 h20 h37 h38 h39 h40 h1 h2 h3 h5 h6 h7 h8 h9 h10 h11 h12 x1 x2 x3 x4 x5 h0f2 h0f6 h0f8 h0f11 h17f0 h17f1 h18f0 h18f1 h19f0 h19f1 h20f0 h20f1) (v := x5) hQ hx hb hr hlocks hS (Nat.le_of_ble_eq_true rfl) (Nat.le_of_ble_eq_true rfl) dX10_copy_113 (⟨(by omega), (hT.sub [0, 1, 8, 9, 2, 3, 4, 5, 6, 7] (by decide) rfl)⟩)
              · skip
                have c_26 := ni_ne c_26 rfl rfl
                refine lv_bipush (v := (-13)) hx hb dX10_copy_64 (by decide) ?_
                exact tz_retI (B := B_cX10_copy_694ba D k h0 h4 h17 h18 h19 h20 h37 h38 h39 h40 h1 h2 h3 h5 h6 h7 h8 h9 h10 h11 h12 x1 x2 x3 x4 x5 h0f2 h0f6 h0f8 h0f11 h17f0 h17f1 h18f0 h18f1 h19f0 h19f1 h20f0 h20f1) (v := (-13)) hQ hx hb hr hlocks hS (Nat.le_of_ble_eq_true rfl) (Nat.le_of_ble_eq_true rfl) dX10_copy_66 (⟨(by have := li_m13; omega), (hT.sub [0, 1, 8, 9, 2, 3, 4, 5, 6, 7] (by decide) rfl)⟩)
            · skip
              have hT := J _ hT1
              have hT : TP D A [(h0, ob 7 [.ref h1, .ref h2, .int h0f2, .ref h3, .ref h4, .ref h5, .int h0f6, .ref h6, .int h0f8, .null, .ref h7, .int h0f11, .ref h8, .ref h9, .ref h10, .ref h11, .ref h12]), (h4, aQ (k 3) 4 (q4 h17 h18 h19 h20)), (h19, ob 5 [.int h19f0, .int h19f1, .ref h39]), (h20, ob 5 [.int h20f0, .int h20f1, .ref h40]), (h37, aJ (k 1) 40 anJ), (h38, aJ (k 1) 40 anJ), (h39, aJ (k 1) 40 anJ), (h40, aJ (k 1) 40 anJ), (h17, ob 5 [.int h17f0, .int h17f1, .ref h37]), (h18, ob 5 [.int h18f0, .int h18f1, .ref h38])] _ := hT
              refine lv_if_eq (tgt := 51) hx hb dX10_copy_45 (by decide) (fun cc => absurd cc (by decide +kernel)) (fun _ => ?_)
              refine lv_bipush (v := (-11)) hx hb dX10_copy_48 (by decide) ?_
              exact tz_retI (B := B_cX10_copy_694ba D k h0 h4 h17 h18 h19 h20 h37 h38 h39 h40 h1 h2 h3 h5 h6 h7 h8 h9 h10 h11 h12 x1 x2 x3 x4 x5 h0f2 h0f6 h0f8 h0f11 h17f0 h17f1 h18f0 h18f1 h19f0 h19f1 h20f0 h20f1) (v := (-11)) hQ hx hb hr hlocks hS (Nat.le_of_ble_eq_true rfl) (Nat.le_of_ble_eq_true rfl) dX10_copy_50 (⟨(by have := li_m11; omega), (hT.sub [0, 1, 8, 9, 2, 3, 4, 5, 6, 7] (by decide) rfl)⟩)
          · skip
            have hT := J _ hT1
            have hT : TP D A [(h0, ob 7 [.ref h1, .ref h2, .int h0f2, .ref h3, .ref h4, .ref h5, .int h0f6, .ref h6, .int h0f8, .null, .ref h7, .int h0f11, .ref h8, .ref h9, .ref h10, .ref h11, .ref h12]), (h4, aQ (k 3) 4 (q4 h17 h18 h19 h20)), (h18, ob 5 [.int h18f0, .int h18f1, .ref h38]), (h19, ob 5 [.int h19f0, .int h19f1, .ref h39]), (h20, ob 5 [.int h20f0, .int h20f1, .ref h40]), (h37, aJ (k 1) 40 anJ), (h38, aJ (k 1) 40 anJ), (h39, aJ (k 1) 40 anJ), (h40, aJ (k 1) 40 anJ), (h17, ob 5 [.int h17f0, .int h17f1, .ref h37])] _ := hT
            refine lv_if_ne (tgt := 48) hx hb dX10_copy_37 (by decide) (fun _ => ?_) (fun cc => absurd cc (by decide +kernel))
            refine lv_bipush (v := (-11)) hx hb dX10_copy_48 (by decide) ?_
            exact tz_retI (B := B_cX10_copy_694ba D k h0 h4 h17 h18 h19 h20 h37 h38 h39 h40 h1 h2 h3 h5 h6 h7 h8 h9 h10 h11 h12 x1 x2 x3 x4 x5 h0f2 h0f6 h0f8 h0f11 h17f0 h17f1 h18f0 h18f1 h19f0 h19f1 h20f0 h20f1) (v := (-11)) hQ hx hb hr hlocks hS (Nat.le_of_ble_eq_true rfl) (Nat.le_of_ble_eq_true rfl) dX10_copy_50 (⟨(by have := li_m11; omega), (hT.sub [0, 1, 9, 2, 3, 4, 5, 6, 7, 8] (by decide) rfl)⟩)
        · skip
          refine tz_aldq (b := h19) hx hb hK hT 1 rfl (vp_in_iff.mpr (by have := hq8; omega)) (fun f hf => by rw [cl_of hq8]; exact hf.2.2.1) dX10_copy_29 ?_
          refine lv_astore (lv' := [(7, .ref h19), (6, .ref h17), (0, .ref h0), (1, .int x1), (2, .int x2), (3, .int x3), (4, .int x4), (5, .int x5)]) hx hb dX10_copy_30 hl (by decide) rfl (fun ls hl => ?_)
          refine lv_aload hx hb dX10_copy_32 (lv_at hl 1 rfl) ?_
          refine tcI (Tc := [(h17, ob 5 [.int h17f0, .int h17f1, .ref h37])]) (Tr := [(h0, ob 7 [.ref h1, .ref h2, .int h0f2, .ref h3, .ref h4, .ref h5, .int h0f6, .ref h6, .int h0f8, .null, .ref h7, .int h0f11, .ref h8, .ref h9, .ref h10, .ref h11, .ref h12]), (h4, aQ (k 3) 4 (q4 h17 h18 h19 h20)), (h18, ob 5 [.int h18f0, .int h18f1, .ref h38]), (h19, ob 5 [.int h19f0, .int h19f1, .ref h39]), (h20, ob 5 [.int h20f0, .int h20f1, .ref h40]), (h37, aJ (k 1) 40 anJ), (h38, aJ (k 1) 40 anJ), (h39, aJ (k 1) 40 anJ), (h40, aJ (k 1) 40 anJ)]) (as := [h17]) (zcV (q0 := 2) (ci := 5) (As := []) (rest := []) (Tc := [(h17, ob 5 [.int h17f0, .int h17f1, .ref h37])]) hx hb hml hown hU hK hT rfl rfl [2] rfl (by decide) (cX6_isMissing_56a93 l D k _ h17 h37 h17f0 h17f1 (by omega) (by omega)) w644 w641 w642 w643 w71 hdX6_isMissing ⟨rfl, rfl⟩ ⟨Nat.le_of_ble_eq_true rfl, Nat.le_of_ble_eq_true rfl⟩ rfl hl.1 (Nat.le_of_ble_eq_true rfl) dX10_copy_34 ⟨Nat.le_of_ble_eq_true rfl, Nat.le_of_ble_eq_true rfl⟩) hT hS hA [2] [0, 1, 3, 4, 5, 6, 7, 8, 9] rfl rfl rfl (by decide) (by decide) (fun r35 H locs hB J hS => ?_)
          rcases hB with ⟨c_36, rfl, hT1⟩ | ⟨rfl, hT1⟩
          · skip
            have hT := J _ hT1
            have hT : TP D A [(h0, ob 7 [.ref h1, .ref h2, .int h0f2, .ref h3, .ref h4, .ref h5, .int h0f6, .ref h6, .int h0f8, .null, .ref h7, .int h0f11, .ref h8, .ref h9, .ref h10, .ref h11, .ref h12]), (h4, aQ (k 3) 4 (q4 h17 h18 h19 h20)), (h18, ob 5 [.int h18f0, .int h18f1, .ref h38]), (h19, ob 5 [.int h19f0, .int h19f1, .ref h39]), (h20, ob 5 [.int h20f0, .int h20f1, .ref h40]), (h37, aJ (k 1) 40 anJ), (h38, aJ (k 1) 40 anJ), (h39, aJ (k 1) 40 anJ), (h40, aJ (k 1) 40 anJ), (h17, ob 5 [.int h17f0, .int h17f1, .ref h37])] _ := hT
            refine lv_if_ne (tgt := 48) hx hb dX10_copy_37 (by decide) (fun cc => absurd (by decide +kernel) cc) (fun _ => ?_)
            refine lv_aload hx hb dX10_copy_40 (lv_at hl 0 rfl) ?_
            refine tcI (Tc := [(h19, ob 5 [.int h19f0, .int h19f1, .ref h39])]) (Tr := [(h0, ob 7 [.ref h1, .ref h2, .int h0f2, .ref h3, .ref h4, .ref h5, .int h0f6, .ref h6, .int h0f8, .null, .ref h7, .int h0f11, .ref h8, .ref h9, .ref h10, .ref h11, .ref h12]), (h4, aQ (k 3) 4 (q4 h17 h18 h19 h20)), (h18, ob 5 [.int h18f0, .int h18f1, .ref h38]), (h20, ob 5 [.int h20f0, .int h20f1, .ref h40]), (h37, aJ (k 1) 40 anJ), (h38, aJ (k 1) 40 anJ), (h39, aJ (k 1) 40 anJ), (h40, aJ (k 1) 40 anJ), (h17, ob 5 [.int h17f0, .int h17f1, .ref h37])]) (as := [h19]) (zcV (q0 := 3) (ci := 5) (As := []) (rest := []) (Tc := [(h19, ob 5 [.int h19f0, .int h19f1, .ref h39])]) hx hb hml hown hU hK hT rfl rfl [3] rfl (by decide) (cX6_isMissing_56a93 l D k _ h19 h39 h19f0 h19f1 (by omega) (by omega)) w644 w641 w642 w643 w71 hdX6_isMissing ⟨rfl, rfl⟩ ⟨Nat.le_of_ble_eq_true rfl, Nat.le_of_ble_eq_true rfl⟩ rfl hl.1 (Nat.le_of_ble_eq_true rfl) dX10_copy_42 ⟨Nat.le_of_ble_eq_true rfl, Nat.le_of_ble_eq_true rfl⟩) hT hS hA [3] [0, 1, 2, 4, 5, 6, 7, 8, 9] rfl rfl rfl (by decide) (by decide) (fun r37 H locs hB J hS => ?_)
            rcases hB with ⟨c_38, rfl, hT1⟩ | ⟨rfl, hT1⟩
            · skip
              have hT := J _ hT1
              have hT : TP D A [(h0, ob 7 [.ref h1, .ref h2, .int h0f2, .ref h3, .ref h4, .ref h5, .int h0f6, .ref h6, .int h0f8, .null, .ref h7, .int h0f11, .ref h8, .ref h9, .ref h10, .ref h11, .ref h12]), (h4, aQ (k 3) 4 (q4 h17 h18 h19 h20)), (h18, ob 5 [.int h18f0, .int h18f1, .ref h38]), (h20, ob 5 [.int h20f0, .int h20f1, .ref h40]), (h37, aJ (k 1) 40 anJ), (h38, aJ (k 1) 40 anJ), (h39, aJ (k 1) 40 anJ), (h40, aJ (k 1) 40 anJ), (h17, ob 5 [.int h17f0, .int h17f1, .ref h37]), (h19, ob 5 [.int h19f0, .int h19f1, .ref h39])] _ := hT
              refine lv_if_eq (tgt := 51) hx hb dX10_copy_45 (by decide) (fun _ => ?_) (fun cc => absurd (by decide +kernel) cc)
              refine lv_aload hx hb dX10_copy_51 (lv_at hl 1 rfl) ?_
              refine tz_get (ci := 5) (v := .int h17f0) (C := RX6) (F := TX6) (N := 3) hx hb hU iX6 hown hK hT 8 rfl rfl 0 (by decide) w238 (fun _ h9 => h9) rfl dX10_copy_53 ?_
              refine lv_aload hx hb dX10_copy_56 (lv_at hl 0 rfl) ?_
              refine tz_get (ci := 5) (v := .int h19f0) (C := RX6) (F := TX6) (N := 3) hx hb hU iX6 hown hK hT 9 rfl rfl 0 (by decide) w238 (fun _ h9 => h9) rfl dX10_copy_58 ?_
              refine lv_icmp_eq (tgt := 67) hx hb dX10_copy_61 (by decide) (fun c_39 => ?_) (fun c_39 => ?_)
              · skip
                have c_39 := ni_eq c_39 rfl rfl
                refine lv_aload hx hb dX10_copy_67 (lv_at hl 1 rfl) ?_
                refine lv_iload_n hx hb dX10_copy_69 rfl (lv_at hl 4 rfl) ?_
                refine lv_iload hx hb dX10_copy_70 (lv_at hl 7 rfl) ?_
                refine tcI (Tc := [(h17, ob 5 [.int h17f0, .int h17f1, .ref h37])]) (Tr := [(h0, ob 7 [.ref h1, .ref h2, .int h0f2, .ref h3, .ref h4, .ref h5, .int h0f6, .ref h6, .int h0f8, .null, .ref h7, .int h0f11, .ref h8, .ref h9, .ref h10, .ref h11, .ref h12]), (h4, aQ (k 3) 4 (q4 h17 h18 h19 h20)), (h18, ob 5 [.int h18f0, .int h18f1, .ref h38]), (h20, ob 5 [.int h20f0, .int h20f1, .ref h40]), (h37, aJ (k 1) 40 anJ), (h38, aJ (k 1) 40 anJ), (h39, aJ (k 1) 40 anJ), (h40, aJ (k 1) 40 anJ), (h19, ob 5 [.int h19f0, .int h19f1, .ref h39])]) (as := [h17]) (zcV (q0 := 8) (ci := 5) (As := [.int x2, .int x5]) (rest := []) (Tc := [(h17, ob 5 [.int h17f0, .int h17f1, .ref h37])]) hx hb hml hown hU hK hT rfl rfl [8] rfl (by decide) (cX6_isOutside_cc85b l D k _ h17 h37 x2 x5 h17f0 h17f1 (by omega) (by omega)) w648 w645 w646 w647 w71 hdX6_isOutside ⟨rfl, rfl⟩ ⟨Nat.le_of_ble_eq_true rfl, Nat.le_of_ble_eq_true rfl⟩ rfl hl.1 (Nat.le_of_ble_eq_true rfl) dX10_copy_72 ⟨Nat.le_of_ble_eq_true rfl, Nat.le_of_ble_eq_true rfl⟩) hT hS hA [8] [0, 1, 2, 3, 4, 5, 6, 7, 9] rfl rfl rfl (by decide) (by decide) (fun r40 H locs hB J hS => ?_)
                rcases hB with ⟨rfl, hT1⟩ | ⟨c_41, c_42, c_43, rfl, hT1⟩
                · skip
                  have hT := J _ hT1
                  have hT : TP D A [(h0, ob 7 [.ref h1, .ref h2, .int h0f2, .ref h3, .ref h4, .ref h5, .int h0f6, .ref h6, .int h0f8, .null, .ref h7, .int h0f11, .ref h8, .ref h9, .ref h10, .ref h11, .ref h12]), (h4, aQ (k 3) 4 (q4 h17 h18 h19 h20)), (h18, ob 5 [.int h18f0, .int h18f1, .ref h38]), (h20, ob 5 [.int h20f0, .int h20f1, .ref h40]), (h37, aJ (k 1) 40 anJ), (h38, aJ (k 1) 40 anJ), (h39, aJ (k 1) 40 anJ), (h40, aJ (k 1) 40 anJ), (h19, ob 5 [.int h19f0, .int h19f1, .ref h39]), (h17, ob 5 [.int h17f0, .int h17f1, .ref h37])] _ := hT
                  refine lv_if_ne (tgt := 90) hx hb dX10_copy_75 (by decide) (fun _ => ?_) (fun cc => absurd cc (by decide +kernel))
                  refine lv_bipush (v := (-12)) hx hb dX10_copy_90 (by decide) ?_
                  exact tz_retI (B := B_cX10_copy_694ba D k h0 h4 h17 h18 h19 h20 h37 h38 h39 h40 h1 h2 h3 h5 h6 h7 h8 h9 h10 h11 h12 x1 x2 x3 x4 x5 h0f2 h0f6 h0f8 h0f11 h17f0 h17f1 h18f0 h18f1 h19f0 h19f1 h20f0 h20f1) (v := (-12)) hQ hx hb hr hlocks hS (Nat.le_of_ble_eq_true rfl) (Nat.le_of_ble_eq_true rfl) dX10_copy_92 (⟨(by have := li_m12; omega), (hT.sub [0, 1, 9, 2, 8, 3, 4, 5, 6, 7] (by decide) rfl)⟩)
                · skip
                  have hT := J _ hT1
                  have hT : TP D A [(h0, ob 7 [.ref h1, .ref h2, .int h0f2, .ref h3, .ref h4, .ref h5, .int h0f6, .ref h6, .int h0f8, .null, .ref h7, .int h0f11, .ref h8, .ref h9, .ref h10, .ref h11, .ref h12]), (h4, aQ (k 3) 4 (q4 h17 h18 h19 h20)), (h18, ob 5 [.int h18f0, .int h18f1, .ref h38]), (h20, ob 5 [.int h20f0, .int h20f1, .ref h40]), (h37, aJ (k 1) 40 anJ), (h38, aJ (k 1) 40 anJ), (h39, aJ (k 1) 40 anJ), (h40, aJ (k 1) 40 anJ), (h19, ob 5 [.int h19f0, .int h19f1, .ref h39]), (h17, ob 5 [.int h17f0, .int h17f1, .ref h37])] _ := hT
                  refine lv_if_ne (tgt := 90) hx hb dX10_copy_75 (by decide) (fun cc => absurd (by decide +kernel) cc) (fun _ => ?_)
                  refine lv_aload hx hb dX10_copy_78 (lv_at hl 0 rfl) ?_
                  refine lv_iload hx hb dX10_copy_80 (lv_at hl 6 rfl) ?_
                  refine lv_iload hx hb dX10_copy_82 (lv_at hl 7 rfl) ?_
                  refine tcI (Tc := [(h19, ob 5 [.int h19f0, .int h19f1, .ref h39])]) (Tr := [(h0, ob 7 [.ref h1, .ref h2, .int h0f2, .ref h3, .ref h4, .ref h5, .int h0f6, .ref h6, .int h0f8, .null, .ref h7, .int h0f11, .ref h8, .ref h9, .ref h10, .ref h11, .ref h12]), (h4, aQ (k 3) 4 (q4 h17 h18 h19 h20)), (h18, ob 5 [.int h18f0, .int h18f1, .ref h38]), (h20, ob 5 [.int h20f0, .int h20f1, .ref h40]), (h37, aJ (k 1) 40 anJ), (h38, aJ (k 1) 40 anJ), (h39, aJ (k 1) 40 anJ), (h40, aJ (k 1) 40 anJ), (h17, ob 5 [.int h17f0, .int h17f1, .ref h37])]) (as := [h19]) (zcV (q0 := 8) (ci := 5) (As := [.int x4, .int x5]) (rest := []) (Tc := [(h19, ob 5 [.int h19f0, .int h19f1, .ref h39])]) hx hb hml hown hU hK hT rfl rfl [8] rfl (by decide) (cX6_isOutside_cc85b l D k _ h19 h39 x4 x5 h19f0 h19f1 (by omega) (by omega)) w648 w645 w646 w647 w71 hdX6_isOutside ⟨rfl, rfl⟩ ⟨Nat.le_of_ble_eq_true rfl, Nat.le_of_ble_eq_true rfl⟩ rfl hl.1 (Nat.le_of_ble_eq_true rfl) dX10_copy_84 ⟨Nat.le_of_ble_eq_true rfl, Nat.le_of_ble_eq_true rfl⟩) hT hS hA [8] [0, 1, 2, 3, 4, 5, 6, 7, 9] rfl rfl rfl (by decide) (by decide) (fun r44 H locs hB J hS => ?_)
                  rcases hB with ⟨rfl, hT1⟩ | ⟨c_45, c_46, c_47, rfl, hT1⟩
                  · skip
                    have hT := J _ hT1
                    have hT : TP D A [(h0, ob 7 [.ref h1, .ref h2, .int h0f2, .ref h3, .ref h4, .ref h5, .int h0f6, .ref h6, .int h0f8, .null, .ref h7, .int h0f11, .ref h8, .ref h9, .ref h10, .ref h11, .ref h12]), (h4, aQ (k 3) 4 (q4 h17 h18 h19 h20)), (h18, ob 5 [.int h18f0, .int h18f1, .ref h38]), (h20, ob 5 [.int h20f0, .int h20f1, .ref h40]), (h37, aJ (k 1) 40 anJ), (h38, aJ (k 1) 40 anJ), (h39, aJ (k 1) 40 anJ), (h40, aJ (k 1) 40 anJ), (h17, ob 5 [.int h17f0, .int h17f1, .ref h37]), (h19, ob 5 [.int h19f0, .int h19f1, .ref h39])] _ := hT
                    refine lv_if_eq (tgt := 93) hx hb dX10_copy_87 (by decide) (fun cc => absurd cc (by decide +kernel)) (fun _ => ?_)
                    refine lv_bipush (v := (-12)) hx hb dX10_copy_90 (by decide) ?_
                    exact tz_retI (B := B_cX10_copy_694ba D k h0 h4 h17 h18 h19 h20 h37 h38 h39 h40 h1 h2 h3 h5 h6 h7 h8 h9 h10 h11 h12 x1 x2 x3 x4 x5 h0f2 h0f6 h0f8 h0f11 h17f0 h17f1 h18f0 h18f1 h19f0 h19f1 h20f0 h20f1) (v := (-12)) hQ hx hb hr hlocks hS (Nat.le_of_ble_eq_true rfl) (Nat.le_of_ble_eq_true rfl) dX10_copy_92 (⟨(by have := li_m12; omega), (hT.sub [0, 1, 8, 2, 9, 3, 4, 5, 6, 7] (by decide) rfl)⟩)
                  · skip
                    have hT := J _ hT1
                    have hT : TP D A [(h0, ob 7 [.ref h1, .ref h2, .int h0f2, .ref h3, .ref h4, .ref h5, .int h0f6, .ref h6, .int h0f8, .null, .ref h7, .int h0f11, .ref h8, .ref h9, .ref h10, .ref h11, .ref h12]), (h4, aQ (k 3) 4 (q4 h17 h18 h19 h20)), (h18, ob 5 [.int h18f0, .int h18f1, .ref h38]), (h20, ob 5 [.int h20f0, .int h20f1, .ref h40]), (h37, aJ (k 1) 40 anJ), (h38, aJ (k 1) 40 anJ), (h39, aJ (k 1) 40 anJ), (h40, aJ (k 1) 40 anJ), (h17, ob 5 [.int h17f0, .int h17f1, .ref h37]), (h19, ob 5 [.int h19f0, .int h19f1, .ref h39])] _ := hT
                    refine lv_if_eq (tgt := 93) hx hb dX10_copy_87 (by decide) (fun _ => ?_) (fun cc => absurd (by decide +kernel) cc)
                    refine lv_aload hx hb dX10_copy_93 (lv_at hl 1 rfl) ?_
                    refine tz_get (ci := 5) (v := .ref h37) (C := RX6) (F := TX6) (N := 3) hx hb hU iX6 hown hK hT 8 rfl rfl 2 (by decide) w241 (fun _ h9 => h9) rfl dX10_copy_95 ?_
                    refine lv_iload_n hx hb dX10_copy_98 rfl (lv_at hl 4 rfl) ?_
                    refine lv_aload hx hb dX10_copy_99 (lv_at hl 0 rfl) ?_
                    refine tz_get (ci := 5) (v := .ref h39) (C := RX6) (F := TX6) (N := 3) hx hb hU iX6 hown hK hT 9 rfl rfl 2 (by decide) w241 (fun _ h9 => h9) rfl dX10_copy_101 ?_
                    refine lv_iload hx hb dX10_copy_104 (lv_at hl 6 rfl) ?_
                    refine lv_iload hx hb dX10_copy_106 (lv_at hl 7 rfl) ?_
                    refine tz_copyl hx hb (by rw [hml]; exact hl.1.symm) hown hU w410 w348 w347 w75 hK hT hS 4 6 rfl rfl (by omega) (fun _ _ _ _ => trivial) (Nat.le_of_ble_eq_true rfl) (Nat.le_of_ble_eq_true rfl) dX10_copy_108 (fun H locs hT hS => ?_)
                    refine lv_iload hx hb dX10_copy_111 (lv_at hl 7 rfl) ?_
                    exact tz_retI (B := B_cX10_copy_694ba D k h0 h4 h17 h18 h19 h20 h37 h38 h39 h40 h1 h2 h3 h5 h6 h7 h8 h9 h10 h11 h12 x1 x2 x3 x4 x5 h0f2 h0f6 h0f8 h0f11 h17f0 h17f1 h18f0 h18f1 h19f0 h19f1 h20f0 h20f1) (v := x5) hQ hx hb hr hlocks hS (Nat.le_of_ble_eq_true rfl) (Nat.le_of_ble_eq_true rfl) dX10_copy_113 (⟨(by omega), (hT.sub [0, 1, 8, 2, 9, 3, 4, 5, 6, 7] (by decide) rfl)⟩)
              · skip
                have c_39 := ni_ne c_39 rfl rfl
                refine lv_bipush (v := (-13)) hx hb dX10_copy_64 (by decide) ?_
                exact tz_retI (B := B_cX10_copy_694ba D k h0 h4 h17 h18 h19 h20 h37 h38 h39 h40 h1 h2 h3 h5 h6 h7 h8 h9 h10 h11 h12 x1 x2 x3 x4 x5 h0f2 h0f6 h0f8 h0f11 h17f0 h17f1 h18f0 h18f1 h19f0 h19f1 h20f0 h20f1) (v := (-13)) hQ hx hb hr hlocks hS (Nat.le_of_ble_eq_true rfl) (Nat.le_of_ble_eq_true rfl) dX10_copy_66 (⟨(by have := li_m13; omega), (hT.sub [0, 1, 8, 2, 9, 3, 4, 5, 6, 7] (by decide) rfl)⟩)
            · skip
              have hT := J _ hT1
              have hT : TP D A [(h0, ob 7 [.ref h1, .ref h2, .int h0f2, .ref h3, .ref h4, .ref h5, .int h0f6, .ref h6, .int h0f8, .null, .ref h7, .int h0f11, .ref h8, .ref h9, .ref h10, .ref h11, .ref h12]), (h4, aQ (k 3) 4 (q4 h17 h18 h19 h20)), (h18, ob 5 [.int h18f0, .int h18f1, .ref h38]), (h20, ob 5 [.int h20f0, .int h20f1, .ref h40]), (h37, aJ (k 1) 40 anJ), (h38, aJ (k 1) 40 anJ), (h39, aJ (k 1) 40 anJ), (h40, aJ (k 1) 40 anJ), (h17, ob 5 [.int h17f0, .int h17f1, .ref h37]), (h19, ob 5 [.int h19f0, .int h19f1, .ref h39])] _ := hT
              refine lv_if_eq (tgt := 51) hx hb dX10_copy_45 (by decide) (fun cc => absurd cc (by decide +kernel)) (fun _ => ?_)
              refine lv_bipush (v := (-11)) hx hb dX10_copy_48 (by decide) ?_
              exact tz_retI (B := B_cX10_copy_694ba D k h0 h4 h17 h18 h19 h20 h37 h38 h39 h40 h1 h2 h3 h5 h6 h7 h8 h9 h10 h11 h12 x1 x2 x3 x4 x5 h0f2 h0f6 h0f8 h0f11 h17f0 h17f1 h18f0 h18f1 h19f0 h19f1 h20f0 h20f1) (v := (-11)) hQ hx hb hr hlocks hS (Nat.le_of_ble_eq_true rfl) (Nat.le_of_ble_eq_true rfl) dX10_copy_50 (⟨(by have := li_m11; omega), (hT.sub [0, 1, 8, 2, 9, 3, 4, 5, 6, 7] (by decide) rfl)⟩)
          · skip
            have hT := J _ hT1
            have hT : TP D A [(h0, ob 7 [.ref h1, .ref h2, .int h0f2, .ref h3, .ref h4, .ref h5, .int h0f6, .ref h6, .int h0f8, .null, .ref h7, .int h0f11, .ref h8, .ref h9, .ref h10, .ref h11, .ref h12]), (h4, aQ (k 3) 4 (q4 h17 h18 h19 h20)), (h18, ob 5 [.int h18f0, .int h18f1, .ref h38]), (h19, ob 5 [.int h19f0, .int h19f1, .ref h39]), (h20, ob 5 [.int h20f0, .int h20f1, .ref h40]), (h37, aJ (k 1) 40 anJ), (h38, aJ (k 1) 40 anJ), (h39, aJ (k 1) 40 anJ), (h40, aJ (k 1) 40 anJ), (h17, ob 5 [.int h17f0, .int h17f1, .ref h37])] _ := hT
            refine lv_if_ne (tgt := 48) hx hb dX10_copy_37 (by decide) (fun _ => ?_) (fun cc => absurd cc (by decide +kernel))
            refine lv_bipush (v := (-11)) hx hb dX10_copy_48 (by decide) ?_
            exact tz_retI (B := B_cX10_copy_694ba D k h0 h4 h17 h18 h19 h20 h37 h38 h39 h40 h1 h2 h3 h5 h6 h7 h8 h9 h10 h11 h12 x1 x2 x3 x4 x5 h0f2 h0f6 h0f8 h0f11 h17f0 h17f1 h18f0 h18f1 h19f0 h19f1 h20f0 h20f1) (v := (-11)) hQ hx hb hr hlocks hS (Nat.le_of_ble_eq_true rfl) (Nat.le_of_ble_eq_true rfl) dX10_copy_50 (⟨(by have := li_m11; omega), (hT.sub [0, 1, 9, 2, 3, 4, 5, 6, 7, 8] (by decide) rfl)⟩)
        · skip
          refine tz_aldq (b := h20) hx hb hK hT 1 rfl (vp_in_iff.mpr (by have := hq8; omega)) (fun f hf => by rw [cl_of hq8]; exact hf.2.2.2) dX10_copy_29 ?_
          refine lv_astore (lv' := [(7, .ref h20), (6, .ref h17), (0, .ref h0), (1, .int x1), (2, .int x2), (3, .int x3), (4, .int x4), (5, .int x5)]) hx hb dX10_copy_30 hl (by decide) rfl (fun ls hl => ?_)
          refine lv_aload hx hb dX10_copy_32 (lv_at hl 1 rfl) ?_
          refine tcI (Tc := [(h17, ob 5 [.int h17f0, .int h17f1, .ref h37])]) (Tr := [(h0, ob 7 [.ref h1, .ref h2, .int h0f2, .ref h3, .ref h4, .ref h5, .int h0f6, .ref h6, .int h0f8, .null, .ref h7, .int h0f11, .ref h8, .ref h9, .ref h10, .ref h11, .ref h12]), (h4, aQ (k 3) 4 (q4 h17 h18 h19 h20)), (h18, ob 5 [.int h18f0, .int h18f1, .ref h38]), (h19, ob 5 [.int h19f0, .int h19f1, .ref h39]), (h20, ob 5 [.int h20f0, .int h20f1, .ref h40]), (h37, aJ (k 1) 40 anJ), (h38, aJ (k 1) 40 anJ), (h39, aJ (k 1) 40 anJ), (h40, aJ (k 1) 40 anJ)]) (as := [h17]) (zcV (q0 := 2) (ci := 5) (As := []) (rest := []) (Tc := [(h17, ob 5 [.int h17f0, .int h17f1, .ref h37])]) hx hb hml hown hU hK hT rfl rfl [2] rfl (by decide) (cX6_isMissing_56a93 l D k _ h17 h37 h17f0 h17f1 (by omega) (by omega)) w644 w641 w642 w643 w71 hdX6_isMissing ⟨rfl, rfl⟩ ⟨Nat.le_of_ble_eq_true rfl, Nat.le_of_ble_eq_true rfl⟩ rfl hl.1 (Nat.le_of_ble_eq_true rfl) dX10_copy_34 ⟨Nat.le_of_ble_eq_true rfl, Nat.le_of_ble_eq_true rfl⟩) hT hS hA [2] [0, 1, 3, 4, 5, 6, 7, 8, 9] rfl rfl rfl (by decide) (by decide) (fun r48 H locs hB J hS => ?_)
          rcases hB with ⟨c_49, rfl, hT1⟩ | ⟨rfl, hT1⟩
          · skip
            have hT := J _ hT1
            have hT : TP D A [(h0, ob 7 [.ref h1, .ref h2, .int h0f2, .ref h3, .ref h4, .ref h5, .int h0f6, .ref h6, .int h0f8, .null, .ref h7, .int h0f11, .ref h8, .ref h9, .ref h10, .ref h11, .ref h12]), (h4, aQ (k 3) 4 (q4 h17 h18 h19 h20)), (h18, ob 5 [.int h18f0, .int h18f1, .ref h38]), (h19, ob 5 [.int h19f0, .int h19f1, .ref h39]), (h20, ob 5 [.int h20f0, .int h20f1, .ref h40]), (h37, aJ (k 1) 40 anJ), (h38, aJ (k 1) 40 anJ), (h39, aJ (k 1) 40 anJ), (h40, aJ (k 1) 40 anJ), (h17, ob 5 [.int h17f0, .int h17f1, .ref h37])] _ := hT
            refine lv_if_ne (tgt := 48) hx hb dX10_copy_37 (by decide) (fun cc => absurd (by decide +kernel) cc) (fun _ => ?_)
            refine lv_aload hx hb dX10_copy_40 (lv_at hl 0 rfl) ?_
            refine tcI (Tc := [(h20, ob 5 [.int h20f0, .int h20f1, .ref h40])]) (Tr := [(h0, ob 7 [.ref h1, .ref h2, .int h0f2, .ref h3, .ref h4, .ref h5, .int h0f6, .ref h6, .int h0f8, .null, .ref h7, .int h0f11, .ref h8, .ref h9, .ref h10, .ref h11, .ref h12]), (h4, aQ (k 3) 4 (q4 h17 h18 h19 h20)), (h18, ob 5 [.int h18f0, .int h18f1, .ref h38]), (h19, ob 5 [.int h19f0, .int h19f1, .ref h39]), (h37, aJ (k 1) 40 anJ), (h38, aJ (k 1) 40 anJ), (h39, aJ (k 1) 40 anJ), (h40, aJ (k 1) 40 anJ), (h17, ob 5 [.int h17f0, .int h17f1, .ref h37])]) (as := [h20]) (zcV (q0 := 4) (ci := 5) (As := []) (rest := []) (Tc := [(h20, ob 5 [.int h20f0, .int h20f1, .ref h40])]) hx hb hml hown hU hK hT rfl rfl [4] rfl (by decide) (cX6_isMissing_56a93 l D k _ h20 h40 h20f0 h20f1 (by omega) (by omega)) w644 w641 w642 w643 w71 hdX6_isMissing ⟨rfl, rfl⟩ ⟨Nat.le_of_ble_eq_true rfl, Nat.le_of_ble_eq_true rfl⟩ rfl hl.1 (Nat.le_of_ble_eq_true rfl) dX10_copy_42 ⟨Nat.le_of_ble_eq_true rfl, Nat.le_of_ble_eq_true rfl⟩) hT hS hA [4] [0, 1, 2, 3, 5, 6, 7, 8, 9] rfl rfl rfl (by decide) (by decide) (fun r50 H locs hB J hS => ?_)
            rcases hB with ⟨c_51, rfl, hT1⟩ | ⟨rfl, hT1⟩
            · skip
              have hT := J _ hT1
              have hT : TP D A [(h0, ob 7 [.ref h1, .ref h2, .int h0f2, .ref h3, .ref h4, .ref h5, .int h0f6, .ref h6, .int h0f8, .null, .ref h7, .int h0f11, .ref h8, .ref h9, .ref h10, .ref h11, .ref h12]), (h4, aQ (k 3) 4 (q4 h17 h18 h19 h20)), (h18, ob 5 [.int h18f0, .int h18f1, .ref h38]), (h19, ob 5 [.int h19f0, .int h19f1, .ref h39]), (h37, aJ (k 1) 40 anJ), (h38, aJ (k 1) 40 anJ), (h39, aJ (k 1) 40 anJ), (h40, aJ (k 1) 40 anJ), (h17, ob 5 [.int h17f0, .int h17f1, .ref h37]), (h20, ob 5 [.int h20f0, .int h20f1, .ref h40])] _ := hT
              refine lv_if_eq (tgt := 51) hx hb dX10_copy_45 (by decide) (fun _ => ?_) (fun cc => absurd (by decide +kernel) cc)
              refine lv_aload hx hb dX10_copy_51 (lv_at hl 1 rfl) ?_
              refine tz_get (ci := 5) (v := .int h17f0) (C := RX6) (F := TX6) (N := 3) hx hb hU iX6 hown hK hT 8 rfl rfl 0 (by decide) w238 (fun _ h9 => h9) rfl dX10_copy_53 ?_
              refine lv_aload hx hb dX10_copy_56 (lv_at hl 0 rfl) ?_
              refine tz_get (ci := 5) (v := .int h20f0) (C := RX6) (F := TX6) (N := 3) hx hb hU iX6 hown hK hT 9 rfl rfl 0 (by decide) w238 (fun _ h9 => h9) rfl dX10_copy_58 ?_
              refine lv_icmp_eq (tgt := 67) hx hb dX10_copy_61 (by decide) (fun c_52 => ?_) (fun c_52 => ?_)
              · skip
                have c_52 := ni_eq c_52 rfl rfl
                refine lv_aload hx hb dX10_copy_67 (lv_at hl 1 rfl) ?_
                refine lv_iload_n hx hb dX10_copy_69 rfl (lv_at hl 4 rfl) ?_
                refine lv_iload hx hb dX10_copy_70 (lv_at hl 7 rfl) ?_
                refine tcI (Tc := [(h17, ob 5 [.int h17f0, .int h17f1, .ref h37])]) (Tr := [(h0, ob 7 [.ref h1, .ref h2, .int h0f2, .ref h3, .ref h4, .ref h5, .int h0f6, .ref h6, .int h0f8, .null, .ref h7, .int h0f11, .ref h8, .ref h9, .ref h10, .ref h11, .ref h12]), (h4, aQ (k 3) 4 (q4 h17 h18 h19 h20)), (h18, ob 5 [.int h18f0, .int h18f1, .ref h38]), (h19, ob 5 [.int h19f0, .int h19f1, .ref h39]), (h37, aJ (k 1) 40 anJ), (h38, aJ (k 1) 40 anJ), (h39, aJ (k 1) 40 anJ), (h40, aJ (k 1) 40 anJ), (h20, ob 5 [.int h20f0, .int h20f1, .ref h40])]) (as := [h17]) (zcV (q0 := 8) (ci := 5) (As := [.int x2, .int x5]) (rest := []) (Tc := [(h17, ob 5 [.int h17f0, .int h17f1, .ref h37])]) hx hb hml hown hU hK hT rfl rfl [8] rfl (by decide) (cX6_isOutside_cc85b l D k _ h17 h37 x2 x5 h17f0 h17f1 (by omega) (by omega)) w648 w645 w646 w647 w71 hdX6_isOutside ⟨rfl, rfl⟩ ⟨Nat.le_of_ble_eq_true rfl, Nat.le_of_ble_eq_true rfl⟩ rfl hl.1 (Nat.le_of_ble_eq_true rfl) dX10_copy_72 ⟨Nat.le_of_ble_eq_true rfl, Nat.le_of_ble_eq_true rfl⟩) hT hS hA [8] [0, 1, 2, 3, 4, 5, 6, 7, 9] rfl rfl rfl (by decide) (by decide) (fun r53 H locs hB J hS => ?_)
                rcases hB with ⟨rfl, hT1⟩ | ⟨c_54, c_55, c_56, rfl, hT1⟩
                · skip
                  have hT := J _ hT1
                  have hT : TP D A [(h0, ob 7 [.ref h1, .ref h2, .int h0f2, .ref h3, .ref h4, .ref h5, .int h0f6, .ref h6, .int h0f8, .null, .ref h7, .int h0f11, .ref h8, .ref h9, .ref h10, .ref h11, .ref h12]), (h4, aQ (k 3) 4 (q4 h17 h18 h19 h20)), (h18, ob 5 [.int h18f0, .int h18f1, .ref h38]), (h19, ob 5 [.int h19f0, .int h19f1, .ref h39]), (h37, aJ (k 1) 40 anJ), (h38, aJ (k 1) 40 anJ), (h39, aJ (k 1) 40 anJ), (h40, aJ (k 1) 40 anJ), (h20, ob 5 [.int h20f0, .int h20f1, .ref h40]), (h17, ob 5 [.int h17f0, .int h17f1, .ref h37])] _ := hT
                  refine lv_if_ne (tgt := 90) hx hb dX10_copy_75 (by decide) (fun _ => ?_) (fun cc => absurd cc (by decide +kernel))
                  refine lv_bipush (v := (-12)) hx hb dX10_copy_90 (by decide) ?_
                  exact tz_retI (B := B_cX10_copy_694ba D k h0 h4 h17 h18 h19 h20 h37 h38 h39 h40 h1 h2 h3 h5 h6 h7 h8 h9 h10 h11 h12 x1 x2 x3 x4 x5 h0f2 h0f6 h0f8 h0f11 h17f0 h17f1 h18f0 h18f1 h19f0 h19f1 h20f0 h20f1) (v := (-12)) hQ hx hb hr hlocks hS (Nat.le_of_ble_eq_true rfl) (Nat.le_of_ble_eq_true rfl) dX10_copy_92 (⟨(by have := li_m12; omega), (hT.sub [0, 1, 9, 2, 3, 8, 4, 5, 6, 7] (by decide) rfl)⟩)
                · skip
                  have hT := J _ hT1
                  have hT : TP D A [(h0, ob 7 [.ref h1, .ref h2, .int h0f2, .ref h3, .ref h4, .ref h5, .int h0f6, .ref h6, .int h0f8, .null, .ref h7, .int h0f11, .ref h8, .ref h9, .ref h10, .ref h11, .ref h12]), (h4, aQ (k 3) 4 (q4 h17 h18 h19 h20)), (h18, ob 5 [.int h18f0, .int h18f1, .ref h38]), (h19, ob 5 [.int h19f0, .int h19f1, .ref h39]), (h37, aJ (k 1) 40 anJ), (h38, aJ (k 1) 40 anJ), (h39, aJ (k 1) 40 anJ), (h40, aJ (k 1) 40 anJ), (h20, ob 5 [.int h20f0, .int h20f1, .ref h40]), (h17, ob 5 [.int h17f0, .int h17f1, .ref h37])] _ := hT
                  refine lv_if_ne (tgt := 90) hx hb dX10_copy_75 (by decide) (fun cc => absurd (by decide +kernel) cc) (fun _ => ?_)
                  refine lv_aload hx hb dX10_copy_78 (lv_at hl 0 rfl) ?_
                  refine lv_iload hx hb dX10_copy_80 (lv_at hl 6 rfl) ?_
                  refine lv_iload hx hb dX10_copy_82 (lv_at hl 7 rfl) ?_
                  refine tcI (Tc := [(h20, ob 5 [.int h20f0, .int h20f1, .ref h40])]) (Tr := [(h0, ob 7 [.ref h1, .ref h2, .int h0f2, .ref h3, .ref h4, .ref h5, .int h0f6, .ref h6, .int h0f8, .null, .ref h7, .int h0f11, .ref h8, .ref h9, .ref h10, .ref h11, .ref h12]), (h4, aQ (k 3) 4 (q4 h17 h18 h19 h20)), (h18, ob 5 [.int h18f0, .int h18f1, .ref h38]), (h19, ob 5 [.int h19f0, .int h19f1, .ref h39]), (h37, aJ (k 1) 40 anJ), (h38, aJ (k 1) 40 anJ), (h39, aJ (k 1) 40 anJ), (h40, aJ (k 1) 40 anJ), (h17, ob 5 [.int h17f0, .int h17f1, .ref h37])]) (as := [h20]) (zcV (q0 := 8) (ci := 5) (As := [.int x4, .int x5]) (rest := []) (Tc := [(h20, ob 5 [.int h20f0, .int h20f1, .ref h40])]) hx hb hml hown hU hK hT rfl rfl [8] rfl (by decide) (cX6_isOutside_cc85b l D k _ h20 h40 x4 x5 h20f0 h20f1 (by omega) (by omega)) w648 w645 w646 w647 w71 hdX6_isOutside ⟨rfl, rfl⟩ ⟨Nat.le_of_ble_eq_true rfl, Nat.le_of_ble_eq_true rfl⟩ rfl hl.1 (Nat.le_of_ble_eq_true rfl) dX10_copy_84 ⟨Nat.le_of_ble_eq_true rfl, Nat.le_of_ble_eq_true rfl⟩) hT hS hA [8] [0, 1, 2, 3, 4, 5, 6, 7, 9] rfl rfl rfl (by decide) (by decide) (fun r57 H locs hB J hS => ?_)
                  rcases hB with ⟨rfl, hT1⟩ | ⟨c_58, c_59, c_60, rfl, hT1⟩
                  · skip
                    have hT := J _ hT1
                    have hT : TP D A [(h0, ob 7 [.ref h1, .ref h2, .int h0f2, .ref h3, .ref h4, .ref h5, .int h0f6, .ref h6, .int h0f8, .null, .ref h7, .int h0f11, .ref h8, .ref h9, .ref h10, .ref h11, .ref h12]), (h4, aQ (k 3) 4 (q4 h17 h18 h19 h20)), (h18, ob 5 [.int h18f0, .int h18f1, .ref h38]), (h19, ob 5 [.int h19f0, .int h19f1, .ref h39]), (h37, aJ (k 1) 40 anJ), (h38, aJ (k 1) 40 anJ), (h39, aJ (k 1) 40 anJ), (h40, aJ (k 1) 40 anJ), (h17, ob 5 [.int h17f0, .int h17f1, .ref h37]), (h20, ob 5 [.int h20f0, .int h20f1, .ref h40])] _ := hT
                    refine lv_if_eq (tgt := 93) hx hb dX10_copy_87 (by decide) (fun cc => absurd cc (by decide +kernel)) (fun _ => ?_)
                    refine lv_bipush (v := (-12)) hx hb dX10_copy_90 (by decide) ?_
                    exact tz_retI (B := B_cX10_copy_694ba D k h0 h4 h17 h18 h19 h20 h37 h38 h39 h40 h1 h2 h3 h5 h6 h7 h8 h9 h10 h11 h12 x1 x2 x3 x4 x5 h0f2 h0f6 h0f8 h0f11 h17f0 h17f1 h18f0 h18f1 h19f0 h19f1 h20f0 h20f1) (v := (-12)) hQ hx hb hr hlocks hS (Nat.le_of_ble_eq_true rfl) (Nat.le_of_ble_eq_true rfl) dX10_copy_92 (⟨(by have := li_m12; omega), (hT.sub [0, 1, 8, 2, 3, 9, 4, 5, 6, 7] (by decide) rfl)⟩)
                  · skip
                    have hT := J _ hT1
                    have hT : TP D A [(h0, ob 7 [.ref h1, .ref h2, .int h0f2, .ref h3, .ref h4, .ref h5, .int h0f6, .ref h6, .int h0f8, .null, .ref h7, .int h0f11, .ref h8, .ref h9, .ref h10, .ref h11, .ref h12]), (h4, aQ (k 3) 4 (q4 h17 h18 h19 h20)), (h18, ob 5 [.int h18f0, .int h18f1, .ref h38]), (h19, ob 5 [.int h19f0, .int h19f1, .ref h39]), (h37, aJ (k 1) 40 anJ), (h38, aJ (k 1) 40 anJ), (h39, aJ (k 1) 40 anJ), (h40, aJ (k 1) 40 anJ), (h17, ob 5 [.int h17f0, .int h17f1, .ref h37]), (h20, ob 5 [.int h20f0, .int h20f1, .ref h40])] _ := hT
                    refine lv_if_eq (tgt := 93) hx hb dX10_copy_87 (by decide) (fun _ => ?_) (fun cc => absurd (by decide +kernel) cc)
                    refine lv_aload hx hb dX10_copy_93 (lv_at hl 1 rfl) ?_
                    refine tz_get (ci := 5) (v := .ref h37) (C := RX6) (F := TX6) (N := 3) hx hb hU iX6 hown hK hT 8 rfl rfl 2 (by decide) w241 (fun _ h9 => h9) rfl dX10_copy_95 ?_
                    refine lv_iload_n hx hb dX10_copy_98 rfl (lv_at hl 4 rfl) ?_
                    refine lv_aload hx hb dX10_copy_99 (lv_at hl 0 rfl) ?_
                    refine tz_get (ci := 5) (v := .ref h40) (C := RX6) (F := TX6) (N := 3) hx hb hU iX6 hown hK hT 9 rfl rfl 2 (by decide) w241 (fun _ h9 => h9) rfl dX10_copy_101 ?_
                    refine lv_iload hx hb dX10_copy_104 (lv_at hl 6 rfl) ?_
                    refine lv_iload hx hb dX10_copy_106 (lv_at hl 7 rfl) ?_
                    refine tz_copyl hx hb (by rw [hml]; exact hl.1.symm) hown hU w410 w348 w347 w75 hK hT hS 4 7 rfl rfl (by omega) (fun _ _ _ _ => trivial) (Nat.le_of_ble_eq_true rfl) (Nat.le_of_ble_eq_true rfl) dX10_copy_108 (fun H locs hT hS => ?_)
                    refine lv_iload hx hb dX10_copy_111 (lv_at hl 7 rfl) ?_
                    exact tz_retI (B := B_cX10_copy_694ba D k h0 h4 h17 h18 h19 h20 h37 h38 h39 h40 h1 h2 h3 h5 h6 h7 h8 h9 h10 h11 h12 x1 x2 x3 x4 x5 h0f2 h0f6 h0f8 h0f11 h17f0 h17f1 h18f0 h18f1 h19f0 h19f1 h20f0 h20f1) (v := x5) hQ hx hb hr hlocks hS (Nat.le_of_ble_eq_true rfl) (Nat.le_of_ble_eq_true rfl) dX10_copy_113 (⟨(by omega), (hT.sub [0, 1, 8, 2, 3, 9, 4, 5, 6, 7] (by decide) rfl)⟩)
              · skip
                have c_52 := ni_ne c_52 rfl rfl
                refine lv_bipush (v := (-13)) hx hb dX10_copy_64 (by decide) ?_
                exact tz_retI (B := B_cX10_copy_694ba D k h0 h4 h17 h18 h19 h20 h37 h38 h39 h40 h1 h2 h3 h5 h6 h7 h8 h9 h10 h11 h12 x1 x2 x3 x4 x5 h0f2 h0f6 h0f8 h0f11 h17f0 h17f1 h18f0 h18f1 h19f0 h19f1 h20f0 h20f1) (v := (-13)) hQ hx hb hr hlocks hS (Nat.le_of_ble_eq_true rfl) (Nat.le_of_ble_eq_true rfl) dX10_copy_66 (⟨(by have := li_m13; omega), (hT.sub [0, 1, 8, 2, 3, 9, 4, 5, 6, 7] (by decide) rfl)⟩)
            · skip
              have hT := J _ hT1
              have hT : TP D A [(h0, ob 7 [.ref h1, .ref h2, .int h0f2, .ref h3, .ref h4, .ref h5, .int h0f6, .ref h6, .int h0f8, .null, .ref h7, .int h0f11, .ref h8, .ref h9, .ref h10, .ref h11, .ref h12]), (h4, aQ (k 3) 4 (q4 h17 h18 h19 h20)), (h18, ob 5 [.int h18f0, .int h18f1, .ref h38]), (h19, ob 5 [.int h19f0, .int h19f1, .ref h39]), (h37, aJ (k 1) 40 anJ), (h38, aJ (k 1) 40 anJ), (h39, aJ (k 1) 40 anJ), (h40, aJ (k 1) 40 anJ), (h17, ob 5 [.int h17f0, .int h17f1, .ref h37]), (h20, ob 5 [.int h20f0, .int h20f1, .ref h40])] _ := hT
              refine lv_if_eq (tgt := 51) hx hb dX10_copy_45 (by decide) (fun cc => absurd cc (by decide +kernel)) (fun _ => ?_)
              refine lv_bipush (v := (-11)) hx hb dX10_copy_48 (by decide) ?_
              exact tz_retI (B := B_cX10_copy_694ba D k h0 h4 h17 h18 h19 h20 h37 h38 h39 h40 h1 h2 h3 h5 h6 h7 h8 h9 h10 h11 h12 x1 x2 x3 x4 x5 h0f2 h0f6 h0f8 h0f11 h17f0 h17f1 h18f0 h18f1 h19f0 h19f1 h20f0 h20f1) (v := (-11)) hQ hx hb hr hlocks hS (Nat.le_of_ble_eq_true rfl) (Nat.le_of_ble_eq_true rfl) dX10_copy_50 (⟨(by have := li_m11; omega), (hT.sub [0, 1, 8, 2, 3, 9, 4, 5, 6, 7] (by decide) rfl)⟩)
          · skip
            have hT := J _ hT1
            have hT : TP D A [(h0, ob 7 [.ref h1, .ref h2, .int h0f2, .ref h3, .ref h4, .ref h5, .int h0f6, .ref h6, .int h0f8, .null, .ref h7, .int h0f11, .ref h8, .ref h9, .ref h10, .ref h11, .ref h12]), (h4, aQ (k 3) 4 (q4 h17 h18 h19 h20)), (h18, ob 5 [.int h18f0, .int h18f1, .ref h38]), (h19, ob 5 [.int h19f0, .int h19f1, .ref h39]), (h20, ob 5 [.int h20f0, .int h20f1, .ref h40]), (h37, aJ (k 1) 40 anJ), (h38, aJ (k 1) 40 anJ), (h39, aJ (k 1) 40 anJ), (h40, aJ (k 1) 40 anJ), (h17, ob 5 [.int h17f0, .int h17f1, .ref h37])] _ := hT
            refine lv_if_ne (tgt := 48) hx hb dX10_copy_37 (by decide) (fun _ => ?_) (fun cc => absurd cc (by decide +kernel))
            refine lv_bipush (v := (-11)) hx hb dX10_copy_48 (by decide) ?_
            exact tz_retI (B := B_cX10_copy_694ba D k h0 h4 h17 h18 h19 h20 h37 h38 h39 h40 h1 h2 h3 h5 h6 h7 h8 h9 h10 h11 h12 x1 x2 x3 x4 x5 h0f2 h0f6 h0f8 h0f11 h17f0 h17f1 h18f0 h18f1 h19f0 h19f1 h20f0 h20f1) (v := (-11)) hQ hx hb hr hlocks hS (Nat.le_of_ble_eq_true rfl) (Nat.le_of_ble_eq_true rfl) dX10_copy_50 (⟨(by have := li_m11; omega), (hT.sub [0, 1, 9, 2, 3, 4, 5, 6, 7, 8] (by decide) rfl)⟩)
      · skip
        refine tz_aldq (b := h18) hx hb hK hT 1 rfl (vp_in_iff.mpr (by have := hq7; omega)) (fun f hf => by rw [cl_of hq7]; exact hf.2.1) dX10_copy_21 ?_
        refine lv_astore (lv' := [(6, .ref h18), (0, .ref h0), (1, .int x1), (2, .int x2), (3, .int x3), (4, .int x4), (5, .int x5)]) hx hb dX10_copy_22 hl (by decide) rfl (fun ls hl => ?_)
        refine lv_aload_n hx hb dX10_copy_24 rfl (lv_at hl 1 rfl) ?_
        refine tz_get (ci := 7) (v := .ref h4) (C := RX10) (F := TX10) (N := 17) hx hb hU iX10 hown hK hT 0 rfl rfl 4 (by decide) w253 (fun _ h9 => h9) rfl dX10_copy_25 ?_
        refine lv_iload_n hx hb dX10_copy_28 rfl (lv_at hl 4 rfl) ?_
        rcases (show x3.toInt = 0 ∨ x3.toInt = 1 ∨ x3.toInt = 2 ∨ x3.toInt = 3 by omega) with hq61 | hq61 | hq61 | hq61
        · skip
          refine tz_aldq (b := h17) hx hb hK hT 1 rfl (vp_in_iff.mpr (by have := hq61; omega)) (fun f hf => by rw [cl_of hq61]; exact hf.1) dX10_copy_29 ?_
          refine lv_astore (lv' := [(7, .ref h17), (6, .ref h18), (0, .ref h0), (1, .int x1), (2, .int x2), (3, .int x3), (4, .int x4), (5, .int x5)]) hx hb dX10_copy_30 hl (by decide) rfl (fun ls hl => ?_)
          refine lv_aload hx hb dX10_copy_32 (lv_at hl 1 rfl) ?_
          refine tcI (Tc := [(h18, ob 5 [.int h18f0, .int h18f1, .ref h38])]) (Tr := [(h0, ob 7 [.ref h1, .ref h2, .int h0f2, .ref h3, .ref h4, .ref h5, .int h0f6, .ref h6, .int h0f8, .null, .ref h7, .int h0f11, .ref h8, .ref h9, .ref h10, .ref h11, .ref h12]), (h4, aQ (k 3) 4 (q4 h17 h18 h19 h20)), (h17, ob 5 [.int h17f0, .int h17f1, .ref h37]), (h19, ob 5 [.int h19f0, .int h19f1, .ref h39]), (h20, ob 5 [.int h20f0, .int h20f1, .ref h40]), (h37, aJ (k 1) 40 anJ), (h38, aJ (k 1) 40 anJ), (h39, aJ (k 1) 40 anJ), (h40, aJ (k 1) 40 anJ)]) (as := [h18]) (zcV (q0 := 3) (ci := 5) (As := []) (rest := []) (Tc := [(h18, ob 5 [.int h18f0, .int h18f1, .ref h38])]) hx hb hml hown hU hK hT rfl rfl [3] rfl (by decide) (cX6_isMissing_56a93 l D k _ h18 h38 h18f0 h18f1 (by omega) (by omega)) w644 w641 w642 w643 w71 hdX6_isMissing ⟨rfl, rfl⟩ ⟨Nat.le_of_ble_eq_true rfl, Nat.le_of_ble_eq_true rfl⟩ rfl hl.1 (Nat.le_of_ble_eq_true rfl) dX10_copy_34 ⟨Nat.le_of_ble_eq_true rfl, Nat.le_of_ble_eq_true rfl⟩) hT hS hA [3] [0, 1, 2, 4, 5, 6, 7, 8, 9] rfl rfl rfl (by decide) (by decide) (fun r62 H locs hB J hS => ?_)
          rcases hB with ⟨c_63, rfl, hT1⟩ | ⟨rfl, hT1⟩
          · skip
            have hT := J _ hT1
            have hT : TP D A [(h0, ob 7 [.ref h1, .ref h2, .int h0f2, .ref h3, .ref h4, .ref h5, .int h0f6, .ref h6, .int h0f8, .null, .ref h7, .int h0f11, .ref h8, .ref h9, .ref h10, .ref h11, .ref h12]), (h4, aQ (k 3) 4 (q4 h17 h18 h19 h20)), (h17, ob 5 [.int h17f0, .int h17f1, .ref h37]), (h19, ob 5 [.int h19f0, .int h19f1, .ref h39]), (h20, ob 5 [.int h20f0, .int h20f1, .ref h40]), (h37, aJ (k 1) 40 anJ), (h38, aJ (k 1) 40 anJ), (h39, aJ (k 1) 40 anJ), (h40, aJ (k 1) 40 anJ), (h18, ob 5 [.int h18f0, .int h18f1, .ref h38])] _ := hT
            refine lv_if_ne (tgt := 48) hx hb dX10_copy_37 (by decide) (fun cc => absurd (by decide +kernel) cc) (fun _ => ?_)
            refine lv_aload hx hb dX10_copy_40 (lv_at hl 0 rfl) ?_
            refine tcI (Tc := [(h17, ob 5 [.int h17f0, .int h17f1, .ref h37])]) (Tr := [(h0, ob 7 [.ref h1, .ref h2, .int h0f2, .ref h3, .ref h4, .ref h5, .int h0f6, .ref h6, .int h0f8, .null, .ref h7, .int h0f11, .ref h8, .ref h9, .ref h10, .ref h11, .ref h12]), (h4, aQ (k 3) 4 (q4 h17 h18 h19 h20)), (h19, ob 5 [.int h19f0, .int h19f1, .ref h39]), (h20, ob 5 [.int h20f0, .int h20f1, .ref h40]), (h37, aJ (k 1) 40 anJ), (h38, aJ (k 1) 40 anJ), (h39, aJ (k 1) 40 anJ), (h40, aJ (k 1) 40 anJ), (h18, ob 5 [.int h18f0, .int h18f1, .ref h38])]) (as := [h17]) (zcV (q0 := 2) (ci := 5) (As := []) (rest := []) (Tc := [(h17, ob 5 [.int h17f0, .int h17f1, .ref h37])]) hx hb hml hown hU hK hT rfl rfl [2] rfl (by decide) (cX6_isMissing_56a93 l D k _ h17 h37 h17f0 h17f1 (by omega) (by omega)) w644 w641 w642 w643 w71 hdX6_isMissing ⟨rfl, rfl⟩ ⟨Nat.le_of_ble_eq_true rfl, Nat.le_of_ble_eq_true rfl⟩ rfl hl.1 (Nat.le_of_ble_eq_true rfl) dX10_copy_42 ⟨Nat.le_of_ble_eq_true rfl, Nat.le_of_ble_eq_true rfl⟩) hT hS hA [2] [0, 1, 3, 4, 5, 6, 7, 8, 9] rfl rfl rfl (by decide) (by decide) (fun r64 H locs hB J hS => ?_)
            rcases hB with ⟨c_65, rfl, hT1⟩ | ⟨rfl, hT1⟩
            · skip
              have hT := J _ hT1
              have hT : TP D A [(h0, ob 7 [.ref h1, .ref h2, .int h0f2, .ref h3, .ref h4, .ref h5, .int h0f6, .ref h6, .int h0f8, .null, .ref h7, .int h0f11, .ref h8, .ref h9, .ref h10, .ref h11, .ref h12]), (h4, aQ (k 3) 4 (q4 h17 h18 h19 h20)), (h19, ob 5 [.int h19f0, .int h19f1, .ref h39]), (h20, ob 5 [.int h20f0, .int h20f1, .ref h40]), (h37, aJ (k 1) 40 anJ), (h38, aJ (k 1) 40 anJ), (h39, aJ (k 1) 40 anJ), (h40, aJ (k 1) 40 anJ), (h18, ob 5 [.int h18f0, .int h18f1, .ref h38]), (h17, ob 5 [.int h17f0, .int h17f1, .ref h37])] _ := hT
              refine lv_if_eq (tgt := 51) hx hb dX10_copy_45 (by decide) (fun _ => ?_) (fun cc => absurd (by decide +kernel) cc)
              refine lv_aload hx hb dX10_copy_51 (lv_at hl 1 rfl) ?_
              refine tz_get (ci := 5) (v := .int h18f0) (C := RX6) (F := TX6) (N := 3) hx hb hU iX6 hown hK hT 8 rfl rfl 0 (by decide) w238 (fun _ h9 => h9) rfl dX10_copy_53 ?_
              refine lv_aload hx hb dX10_copy_56 (lv_at hl 0 rfl) ?_
              refine tz_get (ci := 5) (v := .int h17f0) (C := RX6) (F := TX6) (N := 3) hx hb hU iX6 hown hK hT 9 rfl rfl 0 (by decide) w238 (fun _ h9 => h9) rfl dX10_copy_58 ?_
              refine lv_icmp_eq (tgt := 67) hx hb dX10_copy_61 (by decide) (fun c_66 => ?_) (fun c_66 => ?_)
              · skip
                have c_66 := ni_eq c_66 rfl rfl
                refine lv_aload hx hb dX10_copy_67 (lv_at hl 1 rfl) ?_
                refine lv_iload_n hx hb dX10_copy_69 rfl (lv_at hl 4 rfl) ?_
                refine lv_iload hx hb dX10_copy_70 (lv_at hl 7 rfl) ?_
                refine tcI (Tc := [(h18, ob 5 [.int h18f0, .int h18f1, .ref h38])]) (Tr := [(h0, ob 7 [.ref h1, .ref h2, .int h0f2, .ref h3, .ref h4, .ref h5, .int h0f6, .ref h6, .int h0f8, .null, .ref h7, .int h0f11, .ref h8, .ref h9, .ref h10, .ref h11, .ref h12]), (h4, aQ (k 3) 4 (q4 h17 h18 h19 h20)), (h19, ob 5 [.int h19f0, .int h19f1, .ref h39]), (h20, ob 5 [.int h20f0, .int h20f1, .ref h40]), (h37, aJ (k 1) 40 anJ), (h38, aJ (k 1) 40 anJ), (h39, aJ (k 1) 40 anJ), (h40, aJ (k 1) 40 anJ), (h17, ob 5 [.int h17f0, .int h17f1, .ref h37])]) (as := [h18]) (zcV (q0 := 8) (ci := 5) (As := [.int x2, .int x5]) (rest := []) (Tc := [(h18, ob 5 [.int h18f0, .int h18f1, .ref h38])]) hx hb hml hown hU hK hT rfl rfl [8] rfl (by decide) (cX6_isOutside_cc85b l D k _ h18 h38 x2 x5 h18f0 h18f1 (by omega) (by omega)) w648 w645 w646 w647 w71 hdX6_isOutside ⟨rfl, rfl⟩ ⟨Nat.le_of_ble_eq_true rfl, Nat.le_of_ble_eq_true rfl⟩ rfl hl.1 (Nat.le_of_ble_eq_true rfl) dX10_copy_72 ⟨Nat.le_of_ble_eq_true rfl, Nat.le_of_ble_eq_true rfl⟩) hT hS hA [8] [0, 1, 2, 3, 4, 5, 6, 7, 9] rfl rfl rfl (by decide) (by decide) (fun r67 H locs hB J hS => ?_)
                rcases hB with ⟨rfl, hT1⟩ | ⟨c_68, c_69, c_70, rfl, hT1⟩
                · skip
                  have hT := J _ hT1
                  have hT : TP D A [(h0, ob 7 [.ref h1, .ref h2, .int h0f2, .ref h3, .ref h4, .ref h5, .int h0f6, .ref h6, .int h0f8, .null, .ref h7, .int h0f11, .ref h8, .ref h9, .ref h10, .ref h11, .ref h12]), (h4, aQ (k 3) 4 (q4 h17 h18 h19 h20)), (h19, ob 5 [.int h19f0, .int h19f1, .ref h39]), (h20, ob 5 [.int h20f0, .int h20f1, .ref h40]), (h37, aJ (k 1) 40 anJ), (h38, aJ (k 1) 40 anJ), (h39, aJ (k 1) 40 anJ), (h40, aJ (k 1) 40 anJ), (h17, ob 5 [.int h17f0, .int h17f1, .ref h37]), (h18, ob 5 [.int h18f0, .int h18f1, .ref h38])] _ := hT
                  refine lv_if_ne (tgt := 90) hx hb dX10_copy_75 (by decide) (fun _ => ?_) (fun cc => absurd cc (by decide +kernel))
                  refine lv_bipush (v := (-12)) hx hb dX10_copy_90 (by decide) ?_
                  exact tz_retI (B := B_cX10_copy_694ba D k h0 h4 h17 h18 h19 h20 h37 h38 h39 h40 h1 h2 h3 h5 h6 h7 h8 h9 h10 h11 h12 x1 x2 x3 x4 x5 h0f2 h0f6 h0f8 h0f11 h17f0 h17f1 h18f0 h18f1 h19f0 h19f1 h20f0 h20f1) (v := (-12)) hQ hx hb hr hlocks hS (Nat.le_of_ble_eq_true rfl) (Nat.le_of_ble_eq_true rfl) dX10_copy_92 (⟨(by have := li_m12; omega), (hT.sub [0, 1, 8, 9, 2, 3, 4, 5, 6, 7] (by decide) rfl)⟩)
                · skip
                  have hT := J _ hT1
                  have hT : TP D A [(h0, ob 7 [.ref h1, .ref h2, .int h0f2, .ref h3, .ref h4, .ref h5, .int h0f6, .ref h6, .int h0f8, .null, .ref h7, .int h0f11, .ref h8, .ref h9, .ref h10, .ref h11, .ref h12]), (h4, aQ (k 3) 4 (q4 h17 h18 h19 h20)), (h19, ob 5 [.int h19f0, .int h19f1, .ref h39]), (h20, ob 5 [.int h20f0, .int h20f1, .ref h40]), (h37, aJ (k 1) 40 anJ), (h38, aJ (k 1) 40 anJ), (h39, aJ (k 1) 40 anJ), (h40, aJ (k 1) 40 anJ), (h17, ob 5 [.int h17f0, .int h17f1, .ref h37]), (h18, ob 5 [.int h18f0, .int h18f1, .ref h38])] _ := hT
                  refine lv_if_ne (tgt := 90) hx hb dX10_copy_75 (by decide) (fun cc => absurd (by decide +kernel) cc) (fun _ => ?_)
                  refine lv_aload hx hb dX10_copy_78 (lv_at hl 0 rfl) ?_
                  refine lv_iload hx hb dX10_copy_80 (lv_at hl 6 rfl) ?_
                  refine lv_iload hx hb dX10_copy_82 (lv_at hl 7 rfl) ?_
                  refine tcI (Tc := [(h17, ob 5 [.int h17f0, .int h17f1, .ref h37])]) (Tr := [(h0, ob 7 [.ref h1, .ref h2, .int h0f2, .ref h3, .ref h4, .ref h5, .int h0f6, .ref h6, .int h0f8, .null, .ref h7, .int h0f11, .ref h8, .ref h9, .ref h10, .ref h11, .ref h12]), (h4, aQ (k 3) 4 (q4 h17 h18 h19 h20)), (h19, ob 5 [.int h19f0, .int h19f1, .ref h39]), (h20, ob 5 [.int h20f0, .int h20f1, .ref h40]), (h37, aJ (k 1) 40 anJ), (h38, aJ (k 1) 40 anJ), (h39, aJ (k 1) 40 anJ), (h40, aJ (k 1) 40 anJ), (h18, ob 5 [.int h18f0, .int h18f1, .ref h38])]) (as := [h17]) (zcV (q0 := 8) (ci := 5) (As := [.int x4, .int x5]) (rest := []) (Tc := [(h17, ob 5 [.int h17f0, .int h17f1, .ref h37])]) hx hb hml hown hU hK hT rfl rfl [8] rfl (by decide) (cX6_isOutside_cc85b l D k _ h17 h37 x4 x5 h17f0 h17f1 (by omega) (by omega)) w648 w645 w646 w647 w71 hdX6_isOutside ⟨rfl, rfl⟩ ⟨Nat.le_of_ble_eq_true rfl, Nat.le_of_ble_eq_true rfl⟩ rfl hl.1 (Nat.le_of_ble_eq_true rfl) dX10_copy_84 ⟨Nat.le_of_ble_eq_true rfl, Nat.le_of_ble_eq_true rfl⟩) hT hS hA [8] [0, 1, 2, 3, 4, 5, 6, 7, 9] rfl rfl rfl (by decide) (by decide) (fun r71 H locs hB J hS => ?_)
                  rcases hB with ⟨rfl, hT1⟩ | ⟨c_72, c_73, c_74, rfl, hT1⟩
                  · skip
                    have hT := J _ hT1
                    have hT : TP D A [(h0, ob 7 [.ref h1, .ref h2, .int h0f2, .ref h3, .ref h4, .ref h5, .int h0f6, .ref h6, .int h0f8, .null, .ref h7, .int h0f11, .ref h8, .ref h9, .ref h10, .ref h11, .ref h12]), (h4, aQ (k 3) 4 (q4 h17 h18 h19 h20)), (h19, ob 5 [.int h19f0, .int h19f1, .ref h39]), (h20, ob 5 [.int h20f0, .int h20f1, .ref h40]), (h37, aJ (k 1) 40 anJ), (h38, aJ (k 1) 40 anJ), (h39, aJ (k 1) 40 anJ), (h40, aJ (k 1) 40 anJ), (h18, ob 5 [.int h18f0, .int h18f1, .ref h38]), (h17, ob 5 [.int h17f0, .int h17f1, .ref h37])] _ := hT
                    refine lv_if_eq (tgt := 93) hx hb dX10_copy_87 (by decide) (fun cc => absurd cc (by decide +kernel)) (fun _ => ?_)
                    refine lv_bipush (v := (-12)) hx hb dX10_copy_90 (by decide) ?_
                    exact tz_retI (B := B_cX10_copy_694ba D k h0 h4 h17 h18 h19 h20 h37 h38 h39 h40 h1 h2 h3 h5 h6 h7 h8 h9 h10 h11 h12 x1 x2 x3 x4 x5 h0f2 h0f6 h0f8 h0f11 h17f0 h17f1 h18f0 h18f1 h19f0 h19f1 h20f0 h20f1) (v := (-12)) hQ hx hb hr hlocks hS (Nat.le_of_ble_eq_true rfl) (Nat.le_of_ble_eq_true rfl) dX10_copy_92 (⟨(by have := li_m12; omega), (hT.sub [0, 1, 9, 8, 2, 3, 4, 5, 6, 7] (by decide) rfl)⟩)
                  · skip
                    have hT := J _ hT1
                    have hT : TP D A [(h0, ob 7 [.ref h1, .ref h2, .int h0f2, .ref h3, .ref h4, .ref h5, .int h0f6, .ref h6, .int h0f8, .null, .ref h7, .int h0f11, .ref h8, .ref h9, .ref h10, .ref h11, .ref h12]), (h4, aQ (k 3) 4 (q4 h17 h18 h19 h20)), (h19, ob 5 [.int h19f0, .int h19f1, .ref h39]), (h20, ob 5 [.int h20f0, .int h20f1, .ref h40]), (h37, aJ (k 1) 40 anJ), (h38, aJ (k 1) 40 anJ), (h39, aJ (k 1) 40 anJ), (h40, aJ (k 1) 40 anJ), (h18, ob 5 [.int h18f0, .int h18f1, .ref h38]), (h17, ob 5 [.int h17f0, .int h17f1, .ref h37])] _ := hT
                    refine lv_if_eq (tgt := 93) hx hb dX10_copy_87 (by decide) (fun _ => ?_) (fun cc => absurd (by decide +kernel) cc)
                    refine lv_aload hx hb dX10_copy_93 (lv_at hl 1 rfl) ?_
                    refine tz_get (ci := 5) (v := .ref h38) (C := RX6) (F := TX6) (N := 3) hx hb hU iX6 hown hK hT 8 rfl rfl 2 (by decide) w241 (fun _ h9 => h9) rfl dX10_copy_95 ?_
                    refine lv_iload_n hx hb dX10_copy_98 rfl (lv_at hl 4 rfl) ?_
                    refine lv_aload hx hb dX10_copy_99 (lv_at hl 0 rfl) ?_
                    refine tz_get (ci := 5) (v := .ref h37) (C := RX6) (F := TX6) (N := 3) hx hb hU iX6 hown hK hT 9 rfl rfl 2 (by decide) w241 (fun _ h9 => h9) rfl dX10_copy_101 ?_
                    refine lv_iload hx hb dX10_copy_104 (lv_at hl 6 rfl) ?_
                    refine lv_iload hx hb dX10_copy_106 (lv_at hl 7 rfl) ?_
                    refine tz_copyl hx hb (by rw [hml]; exact hl.1.symm) hown hU w410 w348 w347 w75 hK hT hS 5 4 rfl rfl (by omega) (fun _ _ _ _ => trivial) (Nat.le_of_ble_eq_true rfl) (Nat.le_of_ble_eq_true rfl) dX10_copy_108 (fun H locs hT hS => ?_)
                    refine lv_iload hx hb dX10_copy_111 (lv_at hl 7 rfl) ?_
                    exact tz_retI (B := B_cX10_copy_694ba D k h0 h4 h17 h18 h19 h20 h37 h38 h39 h40 h1 h2 h3 h5 h6 h7 h8 h9 h10 h11 h12 x1 x2 x3 x4 x5 h0f2 h0f6 h0f8 h0f11 h17f0 h17f1 h18f0 h18f1 h19f0 h19f1 h20f0 h20f1) (v := x5) hQ hx hb hr hlocks hS (Nat.le_of_ble_eq_true rfl) (Nat.le_of_ble_eq_true rfl) dX10_copy_113 (⟨(by omega), (hT.sub [0, 1, 9, 8, 2, 3, 4, 5, 6, 7] (by decide) rfl)⟩)
              · skip
                have c_66 := ni_ne c_66 rfl rfl
                refine lv_bipush (v := (-13)) hx hb dX10_copy_64 (by decide) ?_
                exact tz_retI (B := B_cX10_copy_694ba D k h0 h4 h17 h18 h19 h20 h37 h38 h39 h40 h1 h2 h3 h5 h6 h7 h8 h9 h10 h11 h12 x1 x2 x3 x4 x5 h0f2 h0f6 h0f8 h0f11 h17f0 h17f1 h18f0 h18f1 h19f0 h19f1 h20f0 h20f1) (v := (-13)) hQ hx hb hr hlocks hS (Nat.le_of_ble_eq_true rfl) (Nat.le_of_ble_eq_true rfl) dX10_copy_66 (⟨(by have := li_m13; omega), (hT.sub [0, 1, 9, 8, 2, 3, 4, 5, 6, 7] (by decide) rfl)⟩)
            · skip
              have hT := J _ hT1
              have hT : TP D A [(h0, ob 7 [.ref h1, .ref h2, .int h0f2, .ref h3, .ref h4, .ref h5, .int h0f6, .ref h6, .int h0f8, .null, .ref h7, .int h0f11, .ref h8, .ref h9, .ref h10, .ref h11, .ref h12]), (h4, aQ (k 3) 4 (q4 h17 h18 h19 h20)), (h19, ob 5 [.int h19f0, .int h19f1, .ref h39]), (h20, ob 5 [.int h20f0, .int h20f1, .ref h40]), (h37, aJ (k 1) 40 anJ), (h38, aJ (k 1) 40 anJ), (h39, aJ (k 1) 40 anJ), (h40, aJ (k 1) 40 anJ), (h18, ob 5 [.int h18f0, .int h18f1, .ref h38]), (h17, ob 5 [.int h17f0, .int h17f1, .ref h37])] _ := hT
              refine lv_if_eq (tgt := 51) hx hb dX10_copy_45 (by decide) (fun cc => absurd cc (by decide +kernel)) (fun _ => ?_)
              refine lv_bipush (v := (-11)) hx hb dX10_copy_48 (by decide) ?_
              exact tz_retI (B := B_cX10_copy_694ba D k h0 h4 h17 h18 h19 h20 h37 h38 h39 h40 h1 h2 h3 h5 h6 h7 h8 h9 h10 h11 h12 x1 x2 x3 x4 x5 h0f2 h0f6 h0f8 h0f11 h17f0 h17f1 h18f0 h18f1 h19f0 h19f1 h20f0 h20f1) (v := (-11)) hQ hx hb hr hlocks hS (Nat.le_of_ble_eq_true rfl) (Nat.le_of_ble_eq_true rfl) dX10_copy_50 (⟨(by have := li_m11; omega), (hT.sub [0, 1, 9, 8, 2, 3, 4, 5, 6, 7] (by decide) rfl)⟩)
          · skip
            have hT := J _ hT1
            have hT : TP D A [(h0, ob 7 [.ref h1, .ref h2, .int h0f2, .ref h3, .ref h4, .ref h5, .int h0f6, .ref h6, .int h0f8, .null, .ref h7, .int h0f11, .ref h8, .ref h9, .ref h10, .ref h11, .ref h12]), (h4, aQ (k 3) 4 (q4 h17 h18 h19 h20)), (h17, ob 5 [.int h17f0, .int h17f1, .ref h37]), (h19, ob 5 [.int h19f0, .int h19f1, .ref h39]), (h20, ob 5 [.int h20f0, .int h20f1, .ref h40]), (h37, aJ (k 1) 40 anJ), (h38, aJ (k 1) 40 anJ), (h39, aJ (k 1) 40 anJ), (h40, aJ (k 1) 40 anJ), (h18, ob 5 [.int h18f0, .int h18f1, .ref h38])] _ := hT
            refine lv_if_ne (tgt := 48) hx hb dX10_copy_37 (by decide) (fun _ => ?_) (fun cc => absurd cc (by decide +kernel))
            refine lv_bipush (v := (-11)) hx hb dX10_copy_48 (by decide) ?_
            exact tz_retI (B := B_cX10_copy_694ba D k h0 h4 h17 h18 h19 h20 h37 h38 h39 h40 h1 h2 h3 h5 h6 h7 h8 h9 h10 h11 h12 x1 x2 x3 x4 x5 h0f2 h0f6 h0f8 h0f11 h17f0 h17f1 h18f0 h18f1 h19f0 h19f1 h20f0 h20f1) (v := (-11)) hQ hx hb hr hlocks hS (Nat.le_of_ble_eq_true rfl) (Nat.le_of_ble_eq_true rfl) dX10_copy_50 (⟨(by have := li_m11; omega), (hT.sub [0, 1, 2, 9, 3, 4, 5, 6, 7, 8] (by decide) rfl)⟩)
        · skip
          refine tz_aldq (b := h18) hx hb hK hT 1 rfl (vp_in_iff.mpr (by have := hq61; omega)) (fun f hf => by rw [cl_of hq61]; exact hf.2.1) dX10_copy_29 ?_
          refine lv_astore (lv' := [(7, .ref h18), (6, .ref h18), (0, .ref h0), (1, .int x1), (2, .int x2), (3, .int x3), (4, .int x4), (5, .int x5)]) hx hb dX10_copy_30 hl (by decide) rfl (fun ls hl => ?_)
          refine lv_aload hx hb dX10_copy_32 (lv_at hl 1 rfl) ?_
          refine tcI (Tc := [(h18, ob 5 [.int h18f0, .int h18f1, .ref h38])]) (Tr := [(h0, ob 7 [.ref h1, .ref h2, .int h0f2, .ref h3, .ref h4, .ref h5, .int h0f6, .ref h6, .int h0f8, .null, .ref h7, .int h0f11, .ref h8, .ref h9, .ref h10, .ref h11, .ref h12]), (h4, aQ (k 3) 4 (q4 h17 h18 h19 h20)), (h17, ob 5 [.int h17f0, .int h17f1, .ref h37]), (h19, ob 5 [.int h19f0, .int h19f1, .ref h39]), (h20, ob 5 [.int h20f0, .int h20f1, .ref h40]), (h37, aJ (k 1) 40 anJ), (h38, aJ (k 1) 40 anJ), (h39, aJ (k 1) 40 anJ), (h40, aJ (k 1) 40 anJ)]) (as := [h18]) (zcV (q0 := 3) (ci := 5) (As := []) (rest := []) (Tc := [(h18, ob 5 [.int h18f0, .int h18f1, .ref h38])]) hx hb hml hown hU hK hT rfl rfl [3] rfl (by decide) (cX6_isMissing_56a93 l D k _ h18 h38 h18f0 h18f1 (by omega) (by omega)) w644 w641 w642 w643 w71 hdX6_isMissing ⟨rfl, rfl⟩ ⟨Nat.le_of_ble_eq_true rfl, Nat.le_of_ble_eq_true rfl⟩ rfl hl.1 (Nat.le_of_ble_eq_true rfl) dX10_copy_34 ⟨Nat.le_of_ble_eq_true rfl, Nat.le_of_ble_eq_true rfl⟩) hT hS hA [3] [0, 1, 2, 4, 5, 6, 7, 8, 9] rfl rfl rfl (by decide) (by decide) (fun r75 H locs hB J hS => ?_)
          rcases hB with ⟨c_76, rfl, hT1⟩ | ⟨rfl, hT1⟩
          · skip
            have hT := J _ hT1
            have hT : TP D A [(h0, ob 7 [.ref h1, .ref h2, .int h0f2, .ref h3, .ref h4, .ref h5, .int h0f6, .ref h6, .int h0f8, .null, .ref h7, .int h0f11, .ref h8, .ref h9, .ref h10, .ref h11, .ref h12]), (h4, aQ (k 3) 4 (q4 h17 h18 h19 h20)), (h17, ob 5 [.int h17f0, .int h17f1, .ref h37]), (h19, ob 5 [.int h19f0, .int h19f1, .ref h39]), (h20, ob 5 [.int h20f0, .int h20f1, .ref h40]), (h37, aJ (k 1) 40 anJ), (h38, aJ (k 1) 40 anJ), (h39, aJ (k 1) 40 anJ), (h40, aJ (k 1) 40 anJ), (h18, ob 5 [.int h18f0, .int h18f1, .ref h38])] _ := hT
            refine lv_if_ne (tgt := 48) hx hb dX10_copy_37 (by decide) (fun cc => absurd (by decide +kernel) cc) (fun _ => ?_)
            refine lv_aload hx hb dX10_copy_40 (lv_at hl 0 rfl) ?_
            refine tcI (Tc := [(h18, ob 5 [.int h18f0, .int h18f1, .ref h38])]) (Tr := [(h0, ob 7 [.ref h1, .ref h2, .int h0f2, .ref h3, .ref h4, .ref h5, .int h0f6, .ref h6, .int h0f8, .null, .ref h7, .int h0f11, .ref h8, .ref h9, .ref h10, .ref h11, .ref h12]), (h4, aQ (k 3) 4 (q4 h17 h18 h19 h20)), (h17, ob 5 [.int h17f0, .int h17f1, .ref h37]), (h19, ob 5 [.int h19f0, .int h19f1, .ref h39]), (h20, ob 5 [.int h20f0, .int h20f1, .ref h40]), (h37, aJ (k 1) 40 anJ), (h38, aJ (k 1) 40 anJ), (h39, aJ (k 1) 40 anJ), (h40, aJ (k 1) 40 anJ)]) (as := [h18]) (zcV (q0 := 9) (ci := 5) (As := []) (rest := []) (Tc := [(h18, ob 5 [.int h18f0, .int h18f1, .ref h38])]) hx hb hml hown hU hK hT rfl rfl [9] rfl (by decide) (cX6_isMissing_56a93 l D k _ h18 h38 h18f0 h18f1 (by omega) (by omega)) w644 w641 w642 w643 w71 hdX6_isMissing ⟨rfl, rfl⟩ ⟨Nat.le_of_ble_eq_true rfl, Nat.le_of_ble_eq_true rfl⟩ rfl hl.1 (Nat.le_of_ble_eq_true rfl) dX10_copy_42 ⟨Nat.le_of_ble_eq_true rfl, Nat.le_of_ble_eq_true rfl⟩) hT hS hA [9] [0, 1, 2, 3, 4, 5, 6, 7, 8] rfl rfl rfl (by decide) (by decide) (fun r77 H locs hB J hS => ?_)
            rcases hB with ⟨c_78, rfl, hT1⟩ | ⟨rfl, hT1⟩
            · skip
              have hT := J _ hT1
              have hT : TP D A [(h0, ob 7 [.ref h1, .ref h2, .int h0f2, .ref h3, .ref h4, .ref h5, .int h0f6, .ref h6, .int h0f8, .null, .ref h7, .int h0f11, .ref h8, .ref h9, .ref h10, .ref h11, .ref h12]), (h4, aQ (k 3) 4 (q4 h17 h18 h19 h20)), (h17, ob 5 [.int h17f0, .int h17f1, .ref h37]), (h19, ob 5 [.int h19f0, .int h19f1, .ref h39]), (h20, ob 5 [.int h20f0, .int h20f1, .ref h40]), (h37, aJ (k 1) 40 anJ), (h38, aJ (k 1) 40 anJ), (h39, aJ (k 1) 40 anJ), (h40, aJ (k 1) 40 anJ), (h18, ob 5 [.int h18f0, .int h18f1, .ref h38])] _ := hT
              refine lv_if_eq (tgt := 51) hx hb dX10_copy_45 (by decide) (fun _ => ?_) (fun cc => absurd (by decide +kernel) cc)
              refine lv_aload hx hb dX10_copy_51 (lv_at hl 1 rfl) ?_
              refine tz_get (ci := 5) (v := .int h18f0) (C := RX6) (F := TX6) (N := 3) hx hb hU iX6 hown hK hT 9 rfl rfl 0 (by decide) w238 (fun _ h9 => h9) rfl dX10_copy_53 ?_
              refine lv_aload hx hb dX10_copy_56 (lv_at hl 0 rfl) ?_
              refine tz_get (ci := 5) (v := .int h18f0) (C := RX6) (F := TX6) (N := 3) hx hb hU iX6 hown hK hT 9 rfl rfl 0 (by decide) w238 (fun _ h9 => h9) rfl dX10_copy_58 ?_
              refine lv_icmp_eq (tgt := 67) hx hb dX10_copy_61 (by decide) (fun c_79 => ?_) (fun c_79 => ?_)
              · skip
                have c_79 := ni_eq c_79 rfl rfl
                refine lv_aload hx hb dX10_copy_67 (lv_at hl 1 rfl) ?_
                refine lv_iload_n hx hb dX10_copy_69 rfl (lv_at hl 4 rfl) ?_
                refine lv_iload hx hb dX10_copy_70 (lv_at hl 7 rfl) ?_
                refine tcI (Tc := [(h18, ob 5 [.int h18f0, .int h18f1, .ref h38])]) (Tr := [(h0, ob 7 [.ref h1, .ref h2, .int h0f2, .ref h3, .ref h4, .ref h5, .int h0f6, .ref h6, .int h0f8, .null, .ref h7, .int h0f11, .ref h8, .ref h9, .ref h10, .ref h11, .ref h12]), (h4, aQ (k 3) 4 (q4 h17 h18 h19 h20)), (h17, ob 5 [.int h17f0, .int h17f1, .ref h37]), (h19, ob 5 [.int h19f0, .int h19f1, .ref h39]), (h20, ob 5 [.int h20f0, .int h20f1, .ref h40]), (h37, aJ (k 1) 40 anJ), (h38, aJ (k 1) 40 anJ), (h39, aJ (k 1) 40 anJ), (h40, aJ (k 1) 40 anJ)]) (as := [h18]) (zcV (q0 := 9) (ci := 5) (As := [.int x2, .int x5]) (rest := []) (Tc := [(h18, ob 5 [.int h18f0, .int h18f1, .ref h38])]) hx hb hml hown hU hK hT rfl rfl [9] rfl (by decide) (cX6_isOutside_cc85b l D k _ h18 h38 x2 x5 h18f0 h18f1 (by omega) (by omega)) w648 w645 w646 w647 w71 hdX6_isOutside ⟨rfl, rfl⟩ ⟨Nat.le_of_ble_eq_true rfl, Nat.le_of_ble_eq_true rfl⟩ rfl hl.1 (Nat.le_of_ble_eq_true rfl) dX10_copy_72 ⟨Nat.le_of_ble_eq_true rfl, Nat.le_of_ble_eq_true rfl⟩) hT hS hA [9] [0, 1, 2, 3, 4, 5, 6, 7, 8] rfl rfl rfl (by decide) (by decide) (fun r80 H locs hB J hS => ?_)
                rcases hB with ⟨rfl, hT1⟩ | ⟨c_81, c_82, c_83, rfl, hT1⟩
                · skip
                  have hT := J _ hT1
                  have hT : TP D A [(h0, ob 7 [.ref h1, .ref h2, .int h0f2, .ref h3, .ref h4, .ref h5, .int h0f6, .ref h6, .int h0f8, .null, .ref h7, .int h0f11, .ref h8, .ref h9, .ref h10, .ref h11, .ref h12]), (h4, aQ (k 3) 4 (q4 h17 h18 h19 h20)), (h17, ob 5 [.int h17f0, .int h17f1, .ref h37]), (h19, ob 5 [.int h19f0, .int h19f1, .ref h39]), (h20, ob 5 [.int h20f0, .int h20f1, .ref h40]), (h37, aJ (k 1) 40 anJ), (h38, aJ (k 1) 40 anJ), (h39, aJ (k 1) 40 anJ), (h40, aJ (k 1) 40 anJ), (h18, ob 5 [.int h18f0, .int h18f1, .ref h38])] _ := hT
                  refine lv_if_ne (tgt := 90) hx hb dX10_copy_75 (by decide) (fun _ => ?_) (fun cc => absurd cc (by decide +kernel))
                  refine lv_bipush (v := (-12)) hx hb dX10_copy_90 (by decide) ?_
                  exact tz_retI (B := B_cX10_copy_694ba D k h0 h4 h17 h18 h19 h20 h37 h38 h39 h40 h1 h2 h3 h5 h6 h7 h8 h9 h10 h11 h12 x1 x2 x3 x4 x5 h0f2 h0f6 h0f8 h0f11 h17f0 h17f1 h18f0 h18f1 h19f0 h19f1 h20f0 h20f1) (v := (-12)) hQ hx hb hr hlocks hS (Nat.le_of_ble_eq_true rfl) (Nat.le_of_ble_eq_true rfl) dX10_copy_92 (⟨(by have := li_m12; omega), (hT.sub [0, 1, 2, 9, 3, 4, 5, 6, 7, 8] (by decide) rfl)⟩)
                · skip
                  have hT := J _ hT1
                  have hT : TP D A [(h0, ob 7 [.ref h1, .ref h2, .int h0f2, .ref h3, .ref h4, .ref h5, .int h0f6, .ref h6, .int h0f8, .null, .ref h7, .int h0f11, .ref h8, .ref h9, .ref h10, .ref h11, .ref h12]), (h4, aQ (k 3) 4 (q4 h17 h18 h19 h20)), (h17, ob 5 [.int h17f0, .int h17f1, .ref h37]), (h19, ob 5 [.int h19f0, .int h19f1, .ref h39]), (h20, ob 5 [.int h20f0, .int h20f1, .ref h40]), (h37, aJ (k 1) 40 anJ), (h38, aJ (k 1) 40 anJ), (h39, aJ (k 1) 40 anJ), (h40, aJ (k 1) 40 anJ), (h18, ob 5 [.int h18f0, .int h18f1, .ref h38])] _ := hT
                  refine lv_if_ne (tgt := 90) hx hb dX10_copy_75 (by decide) (fun cc => absurd (by decide +kernel) cc) (fun _ => ?_)
                  refine lv_aload hx hb dX10_copy_78 (lv_at hl 0 rfl) ?_
                  refine lv_iload hx hb dX10_copy_80 (lv_at hl 6 rfl) ?_
                  refine lv_iload hx hb dX10_copy_82 (lv_at hl 7 rfl) ?_
                  refine tcI (Tc := [(h18, ob 5 [.int h18f0, .int h18f1, .ref h38])]) (Tr := [(h0, ob 7 [.ref h1, .ref h2, .int h0f2, .ref h3, .ref h4, .ref h5, .int h0f6, .ref h6, .int h0f8, .null, .ref h7, .int h0f11, .ref h8, .ref h9, .ref h10, .ref h11, .ref h12]), (h4, aQ (k 3) 4 (q4 h17 h18 h19 h20)), (h17, ob 5 [.int h17f0, .int h17f1, .ref h37]), (h19, ob 5 [.int h19f0, .int h19f1, .ref h39]), (h20, ob 5 [.int h20f0, .int h20f1, .ref h40]), (h37, aJ (k 1) 40 anJ), (h38, aJ (k 1) 40 anJ), (h39, aJ (k 1) 40 anJ), (h40, aJ (k 1) 40 anJ)]) (as := [h18]) (zcV (q0 := 9) (ci := 5) (As := [.int x4, .int x5]) (rest := []) (Tc := [(h18, ob 5 [.int h18f0, .int h18f1, .ref h38])]) hx hb hml hown hU hK hT rfl rfl [9] rfl (by decide) (cX6_isOutside_cc85b l D k _ h18 h38 x4 x5 h18f0 h18f1 (by omega) (by omega)) w648 w645 w646 w647 w71 hdX6_isOutside ⟨rfl, rfl⟩ ⟨Nat.le_of_ble_eq_true rfl, Nat.le_of_ble_eq_true rfl⟩ rfl hl.1 (Nat.le_of_ble_eq_true rfl) dX10_copy_84 ⟨Nat.le_of_ble_eq_true rfl, Nat.le_of_ble_eq_true rfl⟩) hT hS hA [9] [0, 1, 2, 3, 4, 5, 6, 7, 8] rfl rfl rfl (by decide) (by decide) (fun r84 H locs hB J hS => ?_)
                  rcases hB with ⟨rfl, hT1⟩ | ⟨c_85, c_86, c_87, rfl, hT1⟩
                  · skip
                    have hT := J _ hT1
                    have hT : TP D A [(h0, ob 7 [.ref h1, .ref h2, .int h0f2, .ref h3, .ref h4, .ref h5, .int h0f6, .ref h6, .int h0f8, .null, .ref h7, .int h0f11, .ref h8, .ref h9, .ref h10, .ref h11, .ref h12]), (h4, aQ (k 3) 4 (q4 h17 h18 h19 h20)), (h17, ob 5 [.int h17f0, .int h17f1, .ref h37]), (h19, ob 5 [.int h19f0, .int h19f1, .ref h39]), (h20, ob 5 [.int h20f0, .int h20f1, .ref h40]), (h37, aJ (k 1) 40 anJ), (h38, aJ (k 1) 40 anJ), (h39, aJ (k 1) 40 anJ), (h40, aJ (k 1) 40 anJ), (h18, ob 5 [.int h18f0, .int h18f1, .ref h38])] _ := hT
                    refine lv_if_eq (tgt := 93) hx hb dX10_copy_87 (by decide) (fun cc => absurd cc (by decide +kernel)) (fun _ => ?_)
                    refine lv_bipush (v := (-12)) hx hb dX10_copy_90 (by decide) ?_
                    exact tz_retI (B := B_cX10_copy_694ba D k h0 h4 h17 h18 h19 h20 h37 h38 h39 h40 h1 h2 h3 h5 h6 h7 h8 h9 h10 h11 h12 x1 x2 x3 x4 x5 h0f2 h0f6 h0f8 h0f11 h17f0 h17f1 h18f0 h18f1 h19f0 h19f1 h20f0 h20f1) (v := (-12)) hQ hx hb hr hlocks hS (Nat.le_of_ble_eq_true rfl) (Nat.le_of_ble_eq_true rfl) dX10_copy_92 (⟨(by have := li_m12; omega), (hT.sub [0, 1, 2, 9, 3, 4, 5, 6, 7, 8] (by decide) rfl)⟩)
                  · skip
                    have hT := J _ hT1
                    have hT : TP D A [(h0, ob 7 [.ref h1, .ref h2, .int h0f2, .ref h3, .ref h4, .ref h5, .int h0f6, .ref h6, .int h0f8, .null, .ref h7, .int h0f11, .ref h8, .ref h9, .ref h10, .ref h11, .ref h12]), (h4, aQ (k 3) 4 (q4 h17 h18 h19 h20)), (h17, ob 5 [.int h17f0, .int h17f1, .ref h37]), (h19, ob 5 [.int h19f0, .int h19f1, .ref h39]), (h20, ob 5 [.int h20f0, .int h20f1, .ref h40]), (h37, aJ (k 1) 40 anJ), (h38, aJ (k 1) 40 anJ), (h39, aJ (k 1) 40 anJ), (h40, aJ (k 1) 40 anJ), (h18, ob 5 [.int h18f0, .int h18f1, .ref h38])] _ := hT
                    refine lv_if_eq (tgt := 93) hx hb dX10_copy_87 (by decide) (fun _ => ?_) (fun cc => absurd (by decide +kernel) cc)
                    refine lv_aload hx hb dX10_copy_93 (lv_at hl 1 rfl) ?_
                    refine tz_get (ci := 5) (v := .ref h38) (C := RX6) (F := TX6) (N := 3) hx hb hU iX6 hown hK hT 9 rfl rfl 2 (by decide) w241 (fun _ h9 => h9) rfl dX10_copy_95 ?_
                    refine lv_iload_n hx hb dX10_copy_98 rfl (lv_at hl 4 rfl) ?_
                    refine lv_aload hx hb dX10_copy_99 (lv_at hl 0 rfl) ?_
                    refine tz_get (ci := 5) (v := .ref h38) (C := RX6) (F := TX6) (N := 3) hx hb hU iX6 hown hK hT 9 rfl rfl 2 (by decide) w241 (fun _ h9 => h9) rfl dX10_copy_101 ?_
                    refine lv_iload hx hb dX10_copy_104 (lv_at hl 6 rfl) ?_
                    refine lv_iload hx hb dX10_copy_106 (lv_at hl 7 rfl) ?_
                    refine tz_copyl hx hb (by rw [hml]; exact hl.1.symm) hown hU w410 w348 w347 w75 hK hT hS 6 6 rfl rfl (by omega) (fun _ _ _ _ => trivial) (Nat.le_of_ble_eq_true rfl) (Nat.le_of_ble_eq_true rfl) dX10_copy_108 (fun H locs hT hS => ?_)
                    refine lv_iload hx hb dX10_copy_111 (lv_at hl 7 rfl) ?_
                    exact tz_retI (B := B_cX10_copy_694ba D k h0 h4 h17 h18 h19 h20 h37 h38 h39 h40 h1 h2 h3 h5 h6 h7 h8 h9 h10 h11 h12 x1 x2 x3 x4 x5 h0f2 h0f6 h0f8 h0f11 h17f0 h17f1 h18f0 h18f1 h19f0 h19f1 h20f0 h20f1) (v := x5) hQ hx hb hr hlocks hS (Nat.le_of_ble_eq_true rfl) (Nat.le_of_ble_eq_true rfl) dX10_copy_113 (⟨(by omega), (hT.sub [0, 1, 2, 9, 3, 4, 5, 6, 7, 8] (by decide) rfl)⟩)
              · skip
                have c_79 := ni_ne c_79 rfl rfl
                exfalso; omega
            · skip
              have hT := J _ hT1
              have hT : TP D A [(h0, ob 7 [.ref h1, .ref h2, .int h0f2, .ref h3, .ref h4, .ref h5, .int h0f6, .ref h6, .int h0f8, .null, .ref h7, .int h0f11, .ref h8, .ref h9, .ref h10, .ref h11, .ref h12]), (h4, aQ (k 3) 4 (q4 h17 h18 h19 h20)), (h17, ob 5 [.int h17f0, .int h17f1, .ref h37]), (h19, ob 5 [.int h19f0, .int h19f1, .ref h39]), (h20, ob 5 [.int h20f0, .int h20f1, .ref h40]), (h37, aJ (k 1) 40 anJ), (h38, aJ (k 1) 40 anJ), (h39, aJ (k 1) 40 anJ), (h40, aJ (k 1) 40 anJ), (h18, ob 5 [.int h18f0, .int h18f1, .ref h38])] _ := hT
              refine lv_if_eq (tgt := 51) hx hb dX10_copy_45 (by decide) (fun cc => absurd cc (by decide +kernel)) (fun _ => ?_)
              refine lv_bipush (v := (-11)) hx hb dX10_copy_48 (by decide) ?_
              exact tz_retI (B := B_cX10_copy_694ba D k h0 h4 h17 h18 h19 h20 h37 h38 h39 h40 h1 h2 h3 h5 h6 h7 h8 h9 h10 h11 h12 x1 x2 x3 x4 x5 h0f2 h0f6 h0f8 h0f11 h17f0 h17f1 h18f0 h18f1 h19f0 h19f1 h20f0 h20f1) (v := (-11)) hQ hx hb hr hlocks hS (Nat.le_of_ble_eq_true rfl) (Nat.le_of_ble_eq_true rfl) dX10_copy_50 (⟨(by have := li_m11; omega), (hT.sub [0, 1, 2, 9, 3, 4, 5, 6, 7, 8] (by decide) rfl)⟩)
          · skip
            have hT := J _ hT1
            have hT : TP D A [(h0, ob 7 [.ref h1, .ref h2, .int h0f2, .ref h3, .ref h4, .ref h5, .int h0f6, .ref h6, .int h0f8, .null, .ref h7, .int h0f11, .ref h8, .ref h9, .ref h10, .ref h11, .ref h12]), (h4, aQ (k 3) 4 (q4 h17 h18 h19 h20)), (h17, ob 5 [.int h17f0, .int h17f1, .ref h37]), (h19, ob 5 [.int h19f0, .int h19f1, .ref h39]), (h20, ob 5 [.int h20f0, .int h20f1, .ref h40]), (h37, aJ (k 1) 40 anJ), (h38, aJ (k 1) 40 anJ), (h39, aJ (k 1) 40 anJ), (h40, aJ (k 1) 40 anJ), (h18, ob 5 [.int h18f0, .int h18f1, .ref h38])] _ := hT
            refine lv_if_ne (tgt := 48) hx hb dX10_copy_37 (by decide) (fun _ => ?_) (fun cc => absurd cc (by decide +kernel))
            refine lv_bipush (v := (-11)) hx hb dX10_copy_48 (by decide) ?_
            exact tz_retI (B := B_cX10_copy_694ba D k h0 h4 h17 h18 h19 h20 h37 h38 h39 h40 h1 h2 h3 h5 h6 h7 h8 h9 h10 h11 h12 x1 x2 x3 x4 x5 h0f2 h0f6 h0f8 h0f11 h17f0 h17f1 h18f0 h18f1 h19f0 h19f1 h20f0 h20f1) (v := (-11)) hQ hx hb hr hlocks hS (Nat.le_of_ble_eq_true rfl) (Nat.le_of_ble_eq_true rfl) dX10_copy_50 (⟨(by have := li_m11; omega), (hT.sub [0, 1, 2, 9, 3, 4, 5, 6, 7, 8] (by decide) rfl)⟩)
        · skip
          refine tz_aldq (b := h19) hx hb hK hT 1 rfl (vp_in_iff.mpr (by have := hq61; omega)) (fun f hf => by rw [cl_of hq61]; exact hf.2.2.1) dX10_copy_29 ?_
          refine lv_astore (lv' := [(7, .ref h19), (6, .ref h18), (0, .ref h0), (1, .int x1), (2, .int x2), (3, .int x3), (4, .int x4), (5, .int x5)]) hx hb dX10_copy_30 hl (by decide) rfl (fun ls hl => ?_)
          refine lv_aload hx hb dX10_copy_32 (lv_at hl 1 rfl) ?_
          refine tcI (Tc := [(h18, ob 5 [.int h18f0, .int h18f1, .ref h38])]) (Tr := [(h0, ob 7 [.ref h1, .ref h2, .int h0f2, .ref h3, .ref h4, .ref h5, .int h0f6, .ref h6, .int h0f8, .null, .ref h7, .int h0f11, .ref h8, .ref h9, .ref h10, .ref h11, .ref h12]), (h4, aQ (k 3) 4 (q4 h17 h18 h19 h20)), (h17, ob 5 [.int h17f0, .int h17f1, .ref h37]), (h19, ob 5 [.int h19f0, .int h19f1, .ref h39]), (h20, ob 5 [.int h20f0, .int h20f1, .ref h40]), (h37, aJ (k 1) 40 anJ), (h38, aJ (k 1) 40 anJ), (h39, aJ (k 1) 40 anJ), (h40, aJ (k 1) 40 anJ)]) (as := [h18]) (zcV (q0 := 3) (ci := 5) (As := []) (rest := []) (Tc := [(h18, ob 5 [.int h18f0, .int h18f1, .ref h38])]) hx hb hml hown hU hK hT rfl rfl [3] rfl (by decide) (cX6_isMissing_56a93 l D k _ h18 h38 h18f0 h18f1 (by omega) (by omega)) w644 w641 w642 w643 w71 hdX6_isMissing ⟨rfl, rfl⟩ ⟨Nat.le_of_ble_eq_true rfl, Nat.le_of_ble_eq_true rfl⟩ rfl hl.1 (Nat.le_of_ble_eq_true rfl) dX10_copy_34 ⟨Nat.le_of_ble_eq_true rfl, Nat.le_of_ble_eq_true rfl⟩) hT hS hA [3] [0, 1, 2, 4, 5, 6, 7, 8, 9] rfl rfl rfl (by decide) (by decide) (fun r88 H locs hB J hS => ?_)
          rcases hB with ⟨c_89, rfl, hT1⟩ | ⟨rfl, hT1⟩
          · skip
            have hT := J _ hT1
            have hT : TP D A [(h0, ob 7 [.ref h1, .ref h2, .int h0f2, .ref h3, .ref h4, .ref h5, .int h0f6, .ref h6, .int h0f8, .null, .ref h7, .int h0f11, .ref h8, .ref h9, .ref h10, .ref h11, .ref h12]), (h4, aQ (k 3) 4 (q4 h17 h18 h19 h20)), (h17, ob 5 [.int h17f0, .int h17f1, .ref h37]), (h19, ob 5 [.int h19f0, .int h19f1, .ref h39]), (h20, ob 5 [.int h20f0, .int h20f1, .ref h40]), (h37, aJ (k 1) 40 anJ), (h38, aJ (k 1) 40 anJ), (h39, aJ (k 1) 40 anJ), (h40, aJ (k 1) 40 anJ), (h18, ob 5 [.int h18f0, .int h18f1, .ref h38])] _ := hT
            refine lv_if_ne (tgt := 48) hx hb dX10_copy_37 (by decide) (fun cc => absurd (by decide +kernel) cc) (fun _ => ?_)
            refine lv_aload hx hb dX10_copy_40 (lv_at hl 0 rfl) ?_
            refine tcI (Tc := [(h19, ob 5 [.int h19f0, .int h19f1, .ref h39])]) (Tr := [(h0, ob 7 [.ref h1, .ref h2, .int h0f2, .ref h3, .ref h4, .ref h5, .int h0f6, .ref h6, .int h0f8, .null, .ref h7, .int h0f11, .ref h8, .ref h9, .ref h10, .ref h11, .ref h12]), (h4, aQ (k 3) 4 (q4 h17 h18 h19 h20)), (h17, ob 5 [.int h17f0, .int h17f1, .ref h37]), (h20, ob 5 [.int h20f0, .int h20f1, .ref h40]), (h37, aJ (k 1) 40 anJ), (h38, aJ (k 1) 40 anJ), (h39, aJ (k 1) 40 anJ), (h40, aJ (k 1) 40 anJ), (h18, ob 5 [.int h18f0, .int h18f1, .ref h38])]) (as := [h19]) (zcV (q0 := 3) (ci := 5) (As := []) (rest := []) (Tc := [(h19, ob 5 [.int h19f0, .int h19f1, .ref h39])]) hx hb hml hown hU hK hT rfl rfl [3] rfl (by decide) (cX6_isMissing_56a93 l D k _ h19 h39 h19f0 h19f1 (by omega) (by omega)) w644 w641 w642 w643 w71 hdX6_isMissing ⟨rfl, rfl⟩ ⟨Nat.le_of_ble_eq_true rfl, Nat.le_of_ble_eq_true rfl⟩ rfl hl.1 (Nat.le_of_ble_eq_true rfl) dX10_copy_42 ⟨Nat.le_of_ble_eq_true rfl, Nat.le_of_ble_eq_true rfl⟩) hT hS hA [3] [0, 1, 2, 4, 5, 6, 7, 8, 9] rfl rfl rfl (by decide) (by decide) (fun r90 H locs hB J hS => ?_)
            rcases hB with ⟨c_91, rfl, hT1⟩ | ⟨rfl, hT1⟩
            · skip
              have hT := J _ hT1
              have hT : TP D A [(h0, ob 7 [.ref h1, .ref h2, .int h0f2, .ref h3, .ref h4, .ref h5, .int h0f6, .ref h6, .int h0f8, .null, .ref h7, .int h0f11, .ref h8, .ref h9, .ref h10, .ref h11, .ref h12]), (h4, aQ (k 3) 4 (q4 h17 h18 h19 h20)), (h17, ob 5 [.int h17f0, .int h17f1, .ref h37]), (h20, ob 5 [.int h20f0, .int h20f1, .ref h40]), (h37, aJ (k 1) 40 anJ), (h38, aJ (k 1) 40 anJ), (h39, aJ (k 1) 40 anJ), (h40, aJ (k 1) 40 anJ), (h18, ob 5 [.int h18f0, .int h18f1, .ref h38]), (h19, ob 5 [.int h19f0, .int h19f1, .ref h39])] _ := hT
              refine lv_if_eq (tgt := 51) hx hb dX10_copy_45 (by decide) (fun _ => ?_) (fun cc => absurd (by decide +kernel) cc)
              refine lv_aload hx hb dX10_copy_51 (lv_at hl 1 rfl) ?_
              refine tz_get (ci := 5) (v := .int h18f0) (C := RX6) (F := TX6) (N := 3) hx hb hU iX6 hown hK hT 8 rfl rfl 0 (by decide) w238 (fun _ h9 => h9) rfl dX10_copy_53 ?_
              refine lv_aload hx hb dX10_copy_56 (lv_at hl 0 rfl) ?_
              refine tz_get (ci := 5) (v := .int h19f0) (C := RX6) (F := TX6) (N := 3) hx hb hU iX6 hown hK hT 9 rfl rfl 0 (by decide) w238 (fun _ h9 => h9) rfl dX10_copy_58 ?_
              refine lv_icmp_eq (tgt := 67) hx hb dX10_copy_61 (by decide) (fun c_92 => ?_) (fun c_92 => ?_)
              · skip
                have c_92 := ni_eq c_92 rfl rfl
                refine lv_aload hx hb dX10_copy_67 (lv_at hl 1 rfl) ?_
                refine lv_iload_n hx hb dX10_copy_69 rfl (lv_at hl 4 rfl) ?_
                refine lv_iload hx hb dX10_copy_70 (lv_at hl 7 rfl) ?_
                refine tcI (Tc := [(h18, ob 5 [.int h18f0, .int h18f1, .ref h38])]) (Tr := [(h0, ob 7 [.ref h1, .ref h2, .int h0f2, .ref h3, .ref h4, .ref h5, .int h0f6, .ref h6, .int h0f8, .null, .ref h7, .int h0f11, .ref h8, .ref h9, .ref h10, .ref h11, .ref h12]), (h4, aQ (k 3) 4 (q4 h17 h18 h19 h20)), (h17, ob 5 [.int h17f0, .int h17f1, .ref h37]), (h20, ob 5 [.int h20f0, .int h20f1, .ref h40]), (h37, aJ (k 1) 40 anJ), (h38, aJ (k 1) 40 anJ), (h39, aJ (k 1) 40 anJ), (h40, aJ (k 1) 40 anJ), (h19, ob 5 [.int h19f0, .int h19f1, .ref h39])]) (as := [h18]) (zcV (q0 := 8) (ci := 5) (As := [.int x2, .int x5]) (rest := []) (Tc := [(h18, ob 5 [.int h18f0, .int h18f1, .ref h38])]) hx hb hml hown hU hK hT rfl rfl [8] rfl (by decide) (cX6_isOutside_cc85b l D k _ h18 h38 x2 x5 h18f0 h18f1 (by omega) (by omega)) w648 w645 w646 w647 w71 hdX6_isOutside ⟨rfl, rfl⟩ ⟨Nat.le_of_ble_eq_true rfl, Nat.le_of_ble_eq_true rfl⟩ rfl hl.1 (Nat.le_of_ble_eq_true rfl) dX10_copy_72 ⟨Nat.le_of_ble_eq_true rfl, Nat.le_of_ble_eq_true rfl⟩) hT hS hA [8] [0, 1, 2, 3, 4, 5, 6, 7, 9] rfl rfl rfl (by decide) (by decide) (fun r93 H locs hB J hS => ?_)
                rcases hB with ⟨rfl, hT1⟩ | ⟨c_94, c_95, c_96, rfl, hT1⟩
                · skip
                  have hT := J _ hT1
                  have hT : TP D A [(h0, ob 7 [.ref h1, .ref h2, .int h0f2, .ref h3, .ref h4, .ref h5, .int h0f6, .ref h6, .int h0f8, .null, .ref h7, .int h0f11, .ref h8, .ref h9, .ref h10, .ref h11, .ref h12]), (h4, aQ (k 3) 4 (q4 h17 h18 h19 h20)), (h17, ob 5 [.int h17f0, .int h17f1, .ref h37]), (h20, ob 5 [.int h20f0, .int h20f1, .ref h40]), (h37, aJ (k 1) 40 anJ), (h38, aJ (k 1) 40 anJ), (h39, aJ (k 1) 40 anJ), (h40, aJ (k 1) 40 anJ), (h19, ob 5 [.int h19f0, .int h19f1, .ref h39]), (h18, ob 5 [.int h18f0, .int h18f1, .ref h38])] _ := hT
                  refine lv_if_ne (tgt := 90) hx hb dX10_copy_75 (by decide) (fun _ => ?_) (fun cc => absurd cc (by decide +kernel))
                  refine lv_bipush (v := (-12)) hx hb dX10_copy_90 (by decide) ?_
                  exact tz_retI (B := B_cX10_copy_694ba D k h0 h4 h17 h18 h19 h20 h37 h38 h39 h40 h1 h2 h3 h5 h6 h7 h8 h9 h10 h11 h12 x1 x2 x3 x4 x5 h0f2 h0f6 h0f8 h0f11 h17f0 h17f1 h18f0 h18f1 h19f0 h19f1 h20f0 h20f1) (v := (-12)) hQ hx hb hr hlocks hS (Nat.le_of_ble_eq_true rfl) (Nat.le_of_ble_eq_true rfl) dX10_copy_92 (⟨(by have := li_m12; omega), (hT.sub [0, 1, 2, 9, 8, 3, 4, 5, 6, 7] (by decide) rfl)⟩)
                · skip
                  have hT := J _ hT1
                  have hT : TP D A [(h0, ob 7 [.ref h1, .ref h2, .int h0f2, .ref h3, .ref h4, .ref h5, .int h0f6, .ref h6, .int h0f8, .null, .ref h7, .int h0f11, .ref h8, .ref h9, .ref h10, .ref h11, .ref h12]), (h4, aQ (k 3) 4 (q4 h17 h18 h19 h20)), (h17, ob 5 [.int h17f0, .int h17f1, .ref h37]), (h20, ob 5 [.int h20f0, .int h20f1, .ref h40]), (h37, aJ (k 1) 40 anJ), (h38, aJ (k 1) 40 anJ), (h39, aJ (k 1) 40 anJ), (h40, aJ (k 1) 40 anJ), (h19, ob 5 [.int h19f0, .int h19f1, .ref h39]), (h18, ob 5 [.int h18f0, .int h18f1, .ref h38])] _ := hT
                  refine lv_if_ne (tgt := 90) hx hb dX10_copy_75 (by decide) (fun cc => absurd (by decide +kernel) cc) (fun _ => ?_)
                  refine lv_aload hx hb dX10_copy_78 (lv_at hl 0 rfl) ?_
                  refine lv_iload hx hb dX10_copy_80 (lv_at hl 6 rfl) ?_
                  refine lv_iload hx hb dX10_copy_82 (lv_at hl 7 rfl) ?_
                  refine tcI (Tc := [(h19, ob 5 [.int h19f0, .int h19f1, .ref h39])]) (Tr := [(h0, ob 7 [.ref h1, .ref h2, .int h0f2, .ref h3, .ref h4, .ref h5, .int h0f6, .ref h6, .int h0f8, .null, .ref h7, .int h0f11, .ref h8, .ref h9, .ref h10, .ref h11, .ref h12]), (h4, aQ (k 3) 4 (q4 h17 h18 h19 h20)), (h17, ob 5 [.int h17f0, .int h17f1, .ref h37]), (h20, ob 5 [.int h20f0, .int h20f1, .ref h40]), (h37, aJ (k 1) 40 anJ), (h38, aJ (k 1) 40 anJ), (h39, aJ (k 1) 40 anJ), (h40, aJ (k 1) 40 anJ), (h18, ob 5 [.int h18f0, .int h18f1, .ref h38])]) (as := [h19]) (zcV (q0 := 8) (ci := 5) (As := [.int x4, .int x5]) (rest := []) (Tc := [(h19, ob 5 [.int h19f0, .int h19f1, .ref h39])]) hx hb hml hown hU hK hT rfl rfl [8] rfl (by decide) (cX6_isOutside_cc85b l D k _ h19 h39 x4 x5 h19f0 h19f1 (by omega) (by omega)) w648 w645 w646 w647 w71 hdX6_isOutside ⟨rfl, rfl⟩ ⟨Nat.le_of_ble_eq_true rfl, Nat.le_of_ble_eq_true rfl⟩ rfl hl.1 (Nat.le_of_ble_eq_true rfl) dX10_copy_84 ⟨Nat.le_of_ble_eq_true rfl, Nat.le_of_ble_eq_true rfl⟩) hT hS hA [8] [0, 1, 2, 3, 4, 5, 6, 7, 9] rfl rfl rfl (by decide) (by decide) (fun r97 H locs hB J hS => ?_)
                  rcases hB with ⟨rfl, hT1⟩ | ⟨c_98, c_99, c_100, rfl, hT1⟩
                  · skip
                    have hT := J _ hT1
                    have hT : TP D A [(h0, ob 7 [.ref h1, .ref h2, .int h0f2, .ref h3, .ref h4, .ref h5, .int h0f6, .ref h6, .int h0f8, .null, .ref h7, .int h0f11, .ref h8, .ref h9, .ref h10, .ref h11, .ref h12]), (h4, aQ (k 3) 4 (q4 h17 h18 h19 h20)), (h17, ob 5 [.int h17f0, .int h17f1, .ref h37]), (h20, ob 5 [.int h20f0, .int h20f1, .ref h40]), (h37, aJ (k 1) 40 anJ), (h38, aJ (k 1) 40 anJ), (h39, aJ (k 1) 40 anJ), (h40, aJ (k 1) 40 anJ), (h18, ob 5 [.int h18f0, .int h18f1, .ref h38]), (h19, ob 5 [.int h19f0, .int h19f1, .ref h39])] _ := hT
                    refine lv_if_eq (tgt := 93) hx hb dX10_copy_87 (by decide) (fun cc => absurd cc (by decide +kernel)) (fun _ => ?_)
                    refine lv_bipush (v := (-12)) hx hb dX10_copy_90 (by decide) ?_
                    exact tz_retI (B := B_cX10_copy_694ba D k h0 h4 h17 h18 h19 h20 h37 h38 h39 h40 h1 h2 h3 h5 h6 h7 h8 h9 h10 h11 h12 x1 x2 x3 x4 x5 h0f2 h0f6 h0f8 h0f11 h17f0 h17f1 h18f0 h18f1 h19f0 h19f1 h20f0 h20f1) (v := (-12)) hQ hx hb hr hlocks hS (Nat.le_of_ble_eq_true rfl) (Nat.le_of_ble_eq_true rfl) dX10_copy_92 (⟨(by have := li_m12; omega), (hT.sub [0, 1, 2, 8, 9, 3, 4, 5, 6, 7] (by decide) rfl)⟩)
                  · skip
                    have hT := J _ hT1
                    have hT : TP D A [(h0, ob 7 [.ref h1, .ref h2, .int h0f2, .ref h3, .ref h4, .ref h5, .int h0f6, .ref h6, .int h0f8, .null, .ref h7, .int h0f11, .ref h8, .ref h9, .ref h10, .ref h11, .ref h12]), (h4, aQ (k 3) 4 (q4 h17 h18 h19 h20)), (h17, ob 5 [.int h17f0, .int h17f1, .ref h37]), (h20, ob 5 [.int h20f0, .int h20f1, .ref h40]), (h37, aJ (k 1) 40 anJ), (h38, aJ (k 1) 40 anJ), (h39, aJ (k 1) 40 anJ), (h40, aJ (k 1) 40 anJ), (h18, ob 5 [.int h18f0, .int h18f1, .ref h38]), (h19, ob 5 [.int h19f0, .int h19f1, .ref h39])] _ := hT
                    refine lv_if_eq (tgt := 93) hx hb dX10_copy_87 (by decide) (fun _ => ?_) (fun cc => absurd (by decide +kernel) cc)
                    refine lv_aload hx hb dX10_copy_93 (lv_at hl 1 rfl) ?_
                    refine tz_get (ci := 5) (v := .ref h38) (C := RX6) (F := TX6) (N := 3) hx hb hU iX6 hown hK hT 8 rfl rfl 2 (by decide) w241 (fun _ h9 => h9) rfl dX10_copy_95 ?_
                    refine lv_iload_n hx hb dX10_copy_98 rfl (lv_at hl 4 rfl) ?_
                    refine lv_aload hx hb dX10_copy_99 (lv_at hl 0 rfl) ?_
                    refine tz_get (ci := 5) (v := .ref h39) (C := RX6) (F := TX6) (N := 3) hx hb hU iX6 hown hK hT 9 rfl rfl 2 (by decide) w241 (fun _ h9 => h9) rfl dX10_copy_101 ?_
                    refine lv_iload hx hb dX10_copy_104 (lv_at hl 6 rfl) ?_
                    refine lv_iload hx hb dX10_copy_106 (lv_at hl 7 rfl) ?_
                    refine tz_copyl hx hb (by rw [hml]; exact hl.1.symm) hown hU w410 w348 w347 w75 hK hT hS 5 6 rfl rfl (by omega) (fun _ _ _ _ => trivial) (Nat.le_of_ble_eq_true rfl) (Nat.le_of_ble_eq_true rfl) dX10_copy_108 (fun H locs hT hS => ?_)
                    refine lv_iload hx hb dX10_copy_111 (lv_at hl 7 rfl) ?_
                    exact tz_retI (B := B_cX10_copy_694ba D k h0 h4 h17 h18 h19 h20 h37 h38 h39 h40 h1 h2 h3 h5 h6 h7 h8 h9 h10 h11 h12 x1 x2 x3 x4 x5 h0f2 h0f6 h0f8 h0f11 h17f0 h17f1 h18f0 h18f1 h19f0 h19f1 h20f0 h20f1) (v := x5) hQ hx hb hr hlocks hS (Nat.le_of_ble_eq_true rfl) (Nat.le_of_ble_eq_true rfl) dX10_copy_113 (⟨(by omega), (hT.sub [0, 1, 2, 8, 9, 3, 4, 5, 6, 7] (by decide) rfl)⟩)
              · skip
                have c_92 := ni_ne c_92 rfl rfl
                refine lv_bipush (v := (-13)) hx hb dX10_copy_64 (by decide) ?_
                exact tz_retI (B := B_cX10_copy_694ba D k h0 h4 h17 h18 h19 h20 h37 h38 h39 h40 h1 h2 h3 h5 h6 h7 h8 h9 h10 h11 h12 x1 x2 x3 x4 x5 h0f2 h0f6 h0f8 h0f11 h17f0 h17f1 h18f0 h18f1 h19f0 h19f1 h20f0 h20f1) (v := (-13)) hQ hx hb hr hlocks hS (Nat.le_of_ble_eq_true rfl) (Nat.le_of_ble_eq_true rfl) dX10_copy_66 (⟨(by have := li_m13; omega), (hT.sub [0, 1, 2, 8, 9, 3, 4, 5, 6, 7] (by decide) rfl)⟩)
            · skip
              have hT := J _ hT1
              have hT : TP D A [(h0, ob 7 [.ref h1, .ref h2, .int h0f2, .ref h3, .ref h4, .ref h5, .int h0f6, .ref h6, .int h0f8, .null, .ref h7, .int h0f11, .ref h8, .ref h9, .ref h10, .ref h11, .ref h12]), (h4, aQ (k 3) 4 (q4 h17 h18 h19 h20)), (h17, ob 5 [.int h17f0, .int h17f1, .ref h37]), (h20, ob 5 [.int h20f0, .int h20f1, .ref h40]), (h37, aJ (k 1) 40 anJ), (h38, aJ (k 1) 40 anJ), (h39, aJ (k 1) 40 anJ), (h40, aJ (k 1) 40 anJ), (h18, ob 5 [.int h18f0, .int h18f1, .ref h38]), (h19, ob 5 [.int h19f0, .int h19f1, .ref h39])] _ := hT
              refine lv_if_eq (tgt := 51) hx hb dX10_copy_45 (by decide) (fun cc => absurd cc (by decide +kernel)) (fun _ => ?_)
              refine lv_bipush (v := (-11)) hx hb dX10_copy_48 (by decide) ?_
              exact tz_retI (B := B_cX10_copy_694ba D k h0 h4 h17 h18 h19 h20 h37 h38 h39 h40 h1 h2 h3 h5 h6 h7 h8 h9 h10 h11 h12 x1 x2 x3 x4 x5 h0f2 h0f6 h0f8 h0f11 h17f0 h17f1 h18f0 h18f1 h19f0 h19f1 h20f0 h20f1) (v := (-11)) hQ hx hb hr hlocks hS (Nat.le_of_ble_eq_true rfl) (Nat.le_of_ble_eq_true rfl) dX10_copy_50 (⟨(by have := li_m11; omega), (hT.sub [0, 1, 2, 8, 9, 3, 4, 5, 6, 7] (by decide) rfl)⟩)
          · skip
            have hT := J _ hT1
            have hT : TP D A [(h0, ob 7 [.ref h1, .ref h2, .int h0f2, .ref h3, .ref h4, .ref h5, .int h0f6, .ref h6, .int h0f8, .null, .ref h7, .int h0f11, .ref h8, .ref h9, .ref h10, .ref h11, .ref h12]), (h4, aQ (k 3) 4 (q4 h17 h18 h19 h20)), (h17, ob 5 [.int h17f0, .int h17f1, .ref h37]), (h19, ob 5 [.int h19f0, .int h19f1, .ref h39]), (h20, ob 5 [.int h20f0, .int h20f1, .ref h40]), (h37, aJ (k 1) 40 anJ), (h38, aJ (k 1) 40 anJ), (h39, aJ (k 1) 40 anJ), (h40, aJ (k 1) 40 anJ), (h18, ob 5 [.int h18f0, .int h18f1, .ref h38])] _ := hT
            refine lv_if_ne (tgt := 48) hx hb dX10_copy_37 (by decide) (fun _ => ?_) (fun cc => absurd cc (by decide +kernel))
            refine lv_bipush (v := (-11)) hx hb dX10_copy_48 (by decide) ?_
            exact tz_retI (B := B_cX10_copy_694ba D k h0 h4 h17 h18 h19 h20 h37 h38 h39 h40 h1 h2 h3 h5 h6 h7 h8 h9 h10 h11 h12 x1 x2 x3 x4 x5 h0f2 h0f6 h0f8 h0f11 h17f0 h17f1 h18f0 h18f1 h19f0 h19f1 h20f0 h20f1) (v := (-11)) hQ hx hb hr hlocks hS (Nat.le_of_ble_eq_true rfl) (Nat.le_of_ble_eq_true rfl) dX10_copy_50 (⟨(by have := li_m11; omega), (hT.sub [0, 1, 2, 9, 3, 4, 5, 6, 7, 8] (by decide) rfl)⟩)
        · skip
          refine tz_aldq (b := h20) hx hb hK hT 1 rfl (vp_in_iff.mpr (by have := hq61; omega)) (fun f hf => by rw [cl_of hq61]; exact hf.2.2.2) dX10_copy_29 ?_
          refine lv_astore (lv' := [(7, .ref h20), (6, .ref h18), (0, .ref h0), (1, .int x1), (2, .int x2), (3, .int x3), (4, .int x4), (5, .int x5)]) hx hb dX10_copy_30 hl (by decide) rfl (fun ls hl => ?_)
          refine lv_aload hx hb dX10_copy_32 (lv_at hl 1 rfl) ?_
          refine tcI (Tc := [(h18, ob 5 [.int h18f0, .int h18f1, .ref h38])]) (Tr := [(h0, ob 7 [.ref h1, .ref h2, .int h0f2, .ref h3, .ref h4, .ref h5, .int h0f6, .ref h6, .int h0f8, .null, .ref h7, .int h0f11, .ref h8, .ref h9, .ref h10, .ref h11, .ref h12]), (h4, aQ (k 3) 4 (q4 h17 h18 h19 h20)), (h17, ob 5 [.int h17f0, .int h17f1, .ref h37]), (h19, ob 5 [.int h19f0, .int h19f1, .ref h39]), (h20, ob 5 [.int h20f0, .int h20f1, .ref h40]), (h37, aJ (k 1) 40 anJ), (h38, aJ (k 1) 40 anJ), (h39, aJ (k 1) 40 anJ), (h40, aJ (k 1) 40 anJ)]) (as := [h18]) (zcV (q0 := 3) (ci := 5) (As := []) (rest := []) (Tc := [(h18, ob 5 [.int h18f0, .int h18f1, .ref h38])]) hx hb hml hown hU hK hT rfl rfl [3] rfl (by decide) (cX6_isMissing_56a93 l D k _ h18 h38 h18f0 h18f1 (by omega) (by omega)) w644 w641 w642 w643 w71 hdX6_isMissing ⟨rfl, rfl⟩ ⟨Nat.le_of_ble_eq_true rfl, Nat.le_of_ble_eq_true rfl⟩ rfl hl.1 (Nat.le_of_ble_eq_true rfl) dX10_copy_34 ⟨Nat.le_of_ble_eq_true rfl, Nat.le_of_ble_eq_true rfl⟩) hT hS hA [3] [0, 1, 2, 4, 5, 6, 7, 8, 9] rfl rfl rfl (by decide) (by decide) (fun r101 H locs hB J hS => ?_)
          rcases hB with ⟨c_102, rfl, hT1⟩ | ⟨rfl, hT1⟩
          · skip
            have hT := J _ hT1
            have hT : TP D A [(h0, ob 7 [.ref h1, .ref h2, .int h0f2, .ref h3, .ref h4, .ref h5, .int h0f6, .ref h6, .int h0f8, .null, .ref h7, .int h0f11, .ref h8, .ref h9, .ref h10, .ref h11, .ref h12]), (h4, aQ (k 3) 4 (q4 h17 h18 h19 h20)), (h17, ob 5 [.int h17f0, .int h17f1, .ref h37]), (h19, ob 5 [.int h19f0, .int h19f1, .ref h39]), (h20, ob 5 [.int h20f0, .int h20f1, .ref h40]), (h37, aJ (k 1) 40 anJ), (h38, aJ (k 1) 40 anJ), (h39, aJ (k 1) 40 anJ), (h40, aJ (k 1) 40 anJ), (h18, ob 5 [.int h18f0, .int h18f1, .ref h38])] _ := hT
            refine lv_if_ne (tgt := 48) hx hb dX10_copy_37 (by decide) (fun cc => absurd (by decide +kernel) cc) (fun _ => ?_)
            refine lv_aload hx hb dX10_copy_40 (lv_at hl 0 rfl) ?_
            refine tcI (Tc := [(h20, ob 5 [.int h20f0, .int h20f1, .ref h40])]) (Tr := [(h0, ob 7 [.ref h1, .ref h2, .int h0f2, .ref h3, .ref h4, .ref h5, .int h0f6, .ref h6, .int h0f8, .null, .ref h7, .int h0f11, .ref h8, .ref h9, .ref h10, .ref h11, .ref h12]), (h4, aQ (k 3) 4 (q4 h17 h18 h19 h20)), (h17, ob 5 [.int h17f0, .int h17f1, .ref h37]), (h19, ob 5 [.int h19f0, .int h19f1, .ref h39]), (h37, aJ (k 1) 40 anJ), (h38, aJ (k 1) 40 anJ), (h39, aJ (k 1) 40 anJ), (h40, aJ (k 1) 40 anJ), (h18, ob 5 [.int h18f0, .int h18f1, .ref h38])]) (as := [h20]) (zcV (q0 := 4) (ci := 5) (As := []) (rest := []) (Tc := [(h20, ob 5 [.int h20f0, .int h20f1, .ref h40])]) hx hb hml hown hU hK hT rfl rfl [4] rfl (by decide) (cX6_isMissing_56a93 l D k _ h20 h40 h20f0 h20f1 (by omega) (by omega)) w644 w641 w642 w643 w71 hdX6_isMissing ⟨rfl, rfl⟩ ⟨Nat.le_of_ble_eq_true rfl, Nat.le_of_ble_eq_true rfl⟩ rfl hl.1 (Nat.le_of_ble_eq_true rfl) dX10_copy_42 ⟨Nat.le_of_ble_eq_true rfl, Nat.le_of_ble_eq_true rfl⟩) hT hS hA [4] [0, 1, 2, 3, 5, 6, 7, 8, 9] rfl rfl rfl (by decide) (by decide) (fun r103 H locs hB J hS => ?_)
            rcases hB with ⟨c_104, rfl, hT1⟩ | ⟨rfl, hT1⟩
            · skip
              have hT := J _ hT1
              have hT : TP D A [(h0, ob 7 [.ref h1, .ref h2, .int h0f2, .ref h3, .ref h4, .ref h5, .int h0f6, .ref h6, .int h0f8, .null, .ref h7, .int h0f11, .ref h8, .ref h9, .ref h10, .ref h11, .ref h12]), (h4, aQ (k 3) 4 (q4 h17 h18 h19 h20)), (h17, ob 5 [.int h17f0, .int h17f1, .ref h37]), (h19, ob 5 [.int h19f0, .int h19f1, .ref h39]), (h37, aJ (k 1) 40 anJ), (h38, aJ (k 1) 40 anJ), (h39, aJ (k 1) 40 anJ), (h40, aJ (k 1) 40 anJ), (h18, ob 5 [.int h18f0, .int h18f1, .ref h38]), (h20, ob 5 [.int h20f0, .int h20f1, .ref h40])] _ := hT
              refine lv_if_eq (tgt := 51) hx hb dX10_copy_45 (by decide) (fun _ => ?_) (fun cc => absurd (by decide +kernel) cc)
              refine lv_aload hx hb dX10_copy_51 (lv_at hl 1 rfl) ?_
              refine tz_get (ci := 5) (v := .int h18f0) (C := RX6) (F := TX6) (N := 3) hx hb hU iX6 hown hK hT 8 rfl rfl 0 (by decide) w238 (fun _ h9 => h9) rfl dX10_copy_53 ?_
              refine lv_aload hx hb dX10_copy_56 (lv_at hl 0 rfl) ?_
              refine tz_get (ci := 5) (v := .int h20f0) (C := RX6) (F := TX6) (N := 3) hx hb hU iX6 hown hK hT 9 rfl rfl 0 (by decide) w238 (fun _ h9 => h9) rfl dX10_copy_58 ?_
              refine lv_icmp_eq (tgt := 67) hx hb dX10_copy_61 (by decide) (fun c_105 => ?_) (fun c_105 => ?_)
              · skip
                have c_105 := ni_eq c_105 rfl rfl
                refine lv_aload hx hb dX10_copy_67 (lv_at hl 1 rfl) ?_
                refine lv_iload_n hx hb dX10_copy_69 rfl (lv_at hl 4 rfl) ?_
                refine lv_iload hx hb dX10_copy_70 (lv_at hl 7 rfl) ?_
                refine tcI (Tc := [(h18, ob 5 [.int h18f0, .int h18f1, .ref h38])]) (Tr := [(h0, ob 7 [.ref h1, .ref h2, .int h0f2, .ref h3, .ref h4, .ref h5, .int h0f6, .ref h6, .int h0f8, .null, .ref h7, .int h0f11, .ref h8, .ref h9, .ref h10, .ref h11, .ref h12]), (h4, aQ (k 3) 4 (q4 h17 h18 h19 h20)), (h17, ob 5 [.int h17f0, .int h17f1, .ref h37]), (h19, ob 5 [.int h19f0, .int h19f1, .ref h39]), (h37, aJ (k 1) 40 anJ), (h38, aJ (k 1) 40 anJ), (h39, aJ (k 1) 40 anJ), (h40, aJ (k 1) 40 anJ), (h20, ob 5 [.int h20f0, .int h20f1, .ref h40])]) (as := [h18]) (zcV (q0 := 8) (ci := 5) (As := [.int x2, .int x5]) (rest := []) (Tc := [(h18, ob 5 [.int h18f0, .int h18f1, .ref h38])]) hx hb hml hown hU hK hT rfl rfl [8] rfl (by decide) (cX6_isOutside_cc85b l D k _ h18 h38 x2 x5 h18f0 h18f1 (by omega) (by omega)) w648 w645 w646 w647 w71 hdX6_isOutside ⟨rfl, rfl⟩ ⟨Nat.le_of_ble_eq_true rfl, Nat.le_of_ble_eq_true rfl⟩ rfl hl.1 (Nat.le_of_ble_eq_true rfl) dX10_copy_72 ⟨Nat.le_of_ble_eq_true rfl, Nat.le_of_ble_eq_true rfl⟩) hT hS hA [8] [0, 1, 2, 3, 4, 5, 6, 7, 9] rfl rfl rfl (by decide) (by decide) (fun r106 H locs hB J hS => ?_)
                rcases hB with ⟨rfl, hT1⟩ | ⟨c_107, c_108, c_109, rfl, hT1⟩
                · skip
                  have hT := J _ hT1
                  have hT : TP D A [(h0, ob 7 [.ref h1, .ref h2, .int h0f2, .ref h3, .ref h4, .ref h5, .int h0f6, .ref h6, .int h0f8, .null, .ref h7, .int h0f11, .ref h8, .ref h9, .ref h10, .ref h11, .ref h12]), (h4, aQ (k 3) 4 (q4 h17 h18 h19 h20)), (h17, ob 5 [.int h17f0, .int h17f1, .ref h37]), (h19, ob 5 [.int h19f0, .int h19f1, .ref h39]), (h37, aJ (k 1) 40 anJ), (h38, aJ (k 1) 40 anJ), (h39, aJ (k 1) 40 anJ), (h40, aJ (k 1) 40 anJ), (h20, ob 5 [.int h20f0, .int h20f1, .ref h40]), (h18, ob 5 [.int h18f0, .int h18f1, .ref h38])] _ := hT
                  refine lv_if_ne (tgt := 90) hx hb dX10_copy_75 (by decide) (fun _ => ?_) (fun cc => absurd cc (by decide +kernel))
                  refine lv_bipush (v := (-12)) hx hb dX10_copy_90 (by decide) ?_
                  exact tz_retI (B := B_cX10_copy_694ba D k h0 h4 h17 h18 h19 h20 h37 h38 h39 h40 h1 h2 h3 h5 h6 h7 h8 h9 h10 h11 h12 x1 x2 x3 x4 x5 h0f2 h0f6 h0f8 h0f11 h17f0 h17f1 h18f0 h18f1 h19f0 h19f1 h20f0 h20f1) (v := (-12)) hQ hx hb hr hlocks hS (Nat.le_of_ble_eq_true rfl) (Nat.le_of_ble_eq_true rfl) dX10_copy_92 (⟨(by have := li_m12; omega), (hT.sub [0, 1, 2, 9, 3, 8, 4, 5, 6, 7] (by decide) rfl)⟩)
                · skip
                  have hT := J _ hT1
                  have hT : TP D A [(h0, ob 7 [.ref h1, .ref h2, .int h0f2, .ref h3, .ref h4, .ref h5, .int h0f6, .ref h6, .int h0f8, .null, .ref h7, .int h0f11, .ref h8, .ref h9, .ref h10, .ref h11, .ref h12]), (h4, aQ (k 3) 4 (q4 h17 h18 h19 h20)), (h17, ob 5 [.int h17f0, .int h17f1, .ref h37]), (h19, ob 5 [.int h19f0, .int h19f1, .ref h39]), (h37, aJ (k 1) 40 anJ), (h38, aJ (k 1) 40 anJ), (h39, aJ (k 1) 40 anJ), (h40, aJ (k 1) 40 anJ), (h20, ob 5 [.int h20f0, .int h20f1, .ref h40]), (h18, ob 5 [.int h18f0, .int h18f1, .ref h38])] _ := hT
                  refine lv_if_ne (tgt := 90) hx hb dX10_copy_75 (by decide) (fun cc => absurd (by decide +kernel) cc) (fun _ => ?_)
                  refine lv_aload hx hb dX10_copy_78 (lv_at hl 0 rfl) ?_
                  refine lv_iload hx hb dX10_copy_80 (lv_at hl 6 rfl) ?_
                  refine lv_iload hx hb dX10_copy_82 (lv_at hl 7 rfl) ?_
                  refine tcI (Tc := [(h20, ob 5 [.int h20f0, .int h20f1, .ref h40])]) (Tr := [(h0, ob 7 [.ref h1, .ref h2, .int h0f2, .ref h3, .ref h4, .ref h5, .int h0f6, .ref h6, .int h0f8, .null, .ref h7, .int h0f11, .ref h8, .ref h9, .ref h10, .ref h11, .ref h12]), (h4, aQ (k 3) 4 (q4 h17 h18 h19 h20)), (h17, ob 5 [.int h17f0, .int h17f1, .ref h37]), (h19, ob 5 [.int h19f0, .int h19f1, .ref h39]), (h37, aJ (k 1) 40 anJ), (h38, aJ (k 1) 40 anJ), (h39, aJ (k 1) 40 anJ), (h40, aJ (k 1) 40 anJ), (h18, ob 5 [.int h18f0, .int h18f1, .ref h38])]) (as := [h20]) (zcV (q0 := 8) (ci := 5) (As := [.int x4, .int x5]) (rest := []) (Tc := [(h20, ob 5 [.int h20f0, .int h20f1, .ref h40])]) hx hb hml hown hU hK hT rfl rfl [8] rfl (by decide) (cX6_isOutside_cc85b l D k _ h20 h40 x4 x5 h20f0 h20f1 (by omega) (by omega)) w648 w645 w646 w647 w71 hdX6_isOutside ⟨rfl, rfl⟩ ⟨Nat.le_of_ble_eq_true rfl, Nat.le_of_ble_eq_true rfl⟩ rfl hl.1 (Nat.le_of_ble_eq_true rfl) dX10_copy_84 ⟨Nat.le_of_ble_eq_true rfl, Nat.le_of_ble_eq_true rfl⟩) hT hS hA [8] [0, 1, 2, 3, 4, 5, 6, 7, 9] rfl rfl rfl (by decide) (by decide) (fun r110 H locs hB J hS => ?_)
                  rcases hB with ⟨rfl, hT1⟩ | ⟨c_111, c_112, c_113, rfl, hT1⟩
                  · skip
                    have hT := J _ hT1
                    have hT : TP D A [(h0, ob 7 [.ref h1, .ref h2, .int h0f2, .ref h3, .ref h4, .ref h5, .int h0f6, .ref h6, .int h0f8, .null, .ref h7, .int h0f11, .ref h8, .ref h9, .ref h10, .ref h11, .ref h12]), (h4, aQ (k 3) 4 (q4 h17 h18 h19 h20)), (h17, ob 5 [.int h17f0, .int h17f1, .ref h37]), (h19, ob 5 [.int h19f0, .int h19f1, .ref h39]), (h37, aJ (k 1) 40 anJ), (h38, aJ (k 1) 40 anJ), (h39, aJ (k 1) 40 anJ), (h40, aJ (k 1) 40 anJ), (h18, ob 5 [.int h18f0, .int h18f1, .ref h38]), (h20, ob 5 [.int h20f0, .int h20f1, .ref h40])] _ := hT
                    refine lv_if_eq (tgt := 93) hx hb dX10_copy_87 (by decide) (fun cc => absurd cc (by decide +kernel)) (fun _ => ?_)
                    refine lv_bipush (v := (-12)) hx hb dX10_copy_90 (by decide) ?_
                    exact tz_retI (B := B_cX10_copy_694ba D k h0 h4 h17 h18 h19 h20 h37 h38 h39 h40 h1 h2 h3 h5 h6 h7 h8 h9 h10 h11 h12 x1 x2 x3 x4 x5 h0f2 h0f6 h0f8 h0f11 h17f0 h17f1 h18f0 h18f1 h19f0 h19f1 h20f0 h20f1) (v := (-12)) hQ hx hb hr hlocks hS (Nat.le_of_ble_eq_true rfl) (Nat.le_of_ble_eq_true rfl) dX10_copy_92 (⟨(by have := li_m12; omega), (hT.sub [0, 1, 2, 8, 3, 9, 4, 5, 6, 7] (by decide) rfl)⟩)
                  · skip
                    have hT := J _ hT1
                    have hT : TP D A [(h0, ob 7 [.ref h1, .ref h2, .int h0f2, .ref h3, .ref h4, .ref h5, .int h0f6, .ref h6, .int h0f8, .null, .ref h7, .int h0f11, .ref h8, .ref h9, .ref h10, .ref h11, .ref h12]), (h4, aQ (k 3) 4 (q4 h17 h18 h19 h20)), (h17, ob 5 [.int h17f0, .int h17f1, .ref h37]), (h19, ob 5 [.int h19f0, .int h19f1, .ref h39]), (h37, aJ (k 1) 40 anJ), (h38, aJ (k 1) 40 anJ), (h39, aJ (k 1) 40 anJ), (h40, aJ (k 1) 40 anJ), (h18, ob 5 [.int h18f0, .int h18f1, .ref h38]), (h20, ob 5 [.int h20f0, .int h20f1, .ref h40])] _ := hT
                    refine lv_if_eq (tgt := 93) hx hb dX10_copy_87 (by decide) (fun _ => ?_) (fun cc => absurd (by decide +kernel) cc)
                    refine lv_aload hx hb dX10_copy_93 (lv_at hl 1 rfl) ?_
                    refine tz_get (ci := 5) (v := .ref h38) (C := RX6) (F := TX6) (N := 3) hx hb hU iX6 hown hK hT 8 rfl rfl 2 (by decide) w241 (fun _ h9 => h9) rfl dX10_copy_95 ?_
                    refine lv_iload_n hx hb dX10_copy_98 rfl (lv_at hl 4 rfl) ?_
                    refine lv_aload hx hb dX10_copy_99 (lv_at hl 0 rfl) ?_
                    refine tz_get (ci := 5) (v := .ref h40) (C := RX6) (F := TX6) (N := 3) hx hb hU iX6 hown hK hT 9 rfl rfl 2 (by decide) w241 (fun _ h9 => h9) rfl dX10_copy_101 ?_
                    refine lv_iload hx hb dX10_copy_104 (lv_at hl 6 rfl) ?_
                    refine lv_iload hx hb dX10_copy_106 (lv_at hl 7 rfl) ?_
                    refine tz_copyl hx hb (by rw [hml]; exact hl.1.symm) hown hU w410 w348 w347 w75 hK hT hS 5 7 rfl rfl (by omega) (fun _ _ _ _ => trivial) (Nat.le_of_ble_eq_true rfl) (Nat.le_of_ble_eq_true rfl) dX10_copy_108 (fun H locs hT hS => ?_)
                    refine lv_iload hx hb dX10_copy_111 (lv_at hl 7 rfl) ?_
                    exact tz_retI (B := B_cX10_copy_694ba D k h0 h4 h17 h18 h19 h20 h37 h38 h39 h40 h1 h2 h3 h5 h6 h7 h8 h9 h10 h11 h12 x1 x2 x3 x4 x5 h0f2 h0f6 h0f8 h0f11 h17f0 h17f1 h18f0 h18f1 h19f0 h19f1 h20f0 h20f1) (v := x5) hQ hx hb hr hlocks hS (Nat.le_of_ble_eq_true rfl) (Nat.le_of_ble_eq_true rfl) dX10_copy_113 (⟨(by omega), (hT.sub [0, 1, 2, 8, 3, 9, 4, 5, 6, 7] (by decide) rfl)⟩)
              · skip
                have c_105 := ni_ne c_105 rfl rfl
                refine lv_bipush (v := (-13)) hx hb dX10_copy_64 (by decide) ?_
                exact tz_retI (B := B_cX10_copy_694ba D k h0 h4 h17 h18 h19 h20 h37 h38 h39 h40 h1 h2 h3 h5 h6 h7 h8 h9 h10 h11 h12 x1 x2 x3 x4 x5 h0f2 h0f6 h0f8 h0f11 h17f0 h17f1 h18f0 h18f1 h19f0 h19f1 h20f0 h20f1) (v := (-13)) hQ hx hb hr hlocks hS (Nat.le_of_ble_eq_true rfl) (Nat.le_of_ble_eq_true rfl) dX10_copy_66 (⟨(by have := li_m13; omega), (hT.sub [0, 1, 2, 8, 3, 9, 4, 5, 6, 7] (by decide) rfl)⟩)
            · skip
              have hT := J _ hT1
              have hT : TP D A [(h0, ob 7 [.ref h1, .ref h2, .int h0f2, .ref h3, .ref h4, .ref h5, .int h0f6, .ref h6, .int h0f8, .null, .ref h7, .int h0f11, .ref h8, .ref h9, .ref h10, .ref h11, .ref h12]), (h4, aQ (k 3) 4 (q4 h17 h18 h19 h20)), (h17, ob 5 [.int h17f0, .int h17f1, .ref h37]), (h19, ob 5 [.int h19f0, .int h19f1, .ref h39]), (h37, aJ (k 1) 40 anJ), (h38, aJ (k 1) 40 anJ), (h39, aJ (k 1) 40 anJ), (h40, aJ (k 1) 40 anJ), (h18, ob 5 [.int h18f0, .int h18f1, .ref h38]), (h20, ob 5 [.int h20f0, .int h20f1, .ref h40])] _ := hT
              refine lv_if_eq (tgt := 51) hx hb dX10_copy_45 (by decide) (fun cc => absurd cc (by decide +kernel)) (fun _ => ?_)
              refine lv_bipush (v := (-11)) hx hb dX10_copy_48 (by decide) ?_
              exact tz_retI (B := B_cX10_copy_694ba D k h0 h4 h17 h18 h19 h20 h37 h38 h39 h40 h1 h2 h3 h5 h6 h7 h8 h9 h10 h11 h12 x1 x2 x3 x4 x5 h0f2 h0f6 h0f8 h0f11 h17f0 h17f1 h18f0 h18f1 h19f0 h19f1 h20f0 h20f1) (v := (-11)) hQ hx hb hr hlocks hS (Nat.le_of_ble_eq_true rfl) (Nat.le_of_ble_eq_true rfl) dX10_copy_50 (⟨(by have := li_m11; omega), (hT.sub [0, 1, 2, 8, 3, 9, 4, 5, 6, 7] (by decide) rfl)⟩)
          · skip
            have hT := J _ hT1
            have hT : TP D A [(h0, ob 7 [.ref h1, .ref h2, .int h0f2, .ref h3, .ref h4, .ref h5, .int h0f6, .ref h6, .int h0f8, .null, .ref h7, .int h0f11, .ref h8, .ref h9, .ref h10, .ref h11, .ref h12]), (h4, aQ (k 3) 4 (q4 h17 h18 h19 h20)), (h17, ob 5 [.int h17f0, .int h17f1, .ref h37]), (h19, ob 5 [.int h19f0, .int h19f1, .ref h39]), (h20, ob 5 [.int h20f0, .int h20f1, .ref h40]), (h37, aJ (k 1) 40 anJ), (h38, aJ (k 1) 40 anJ), (h39, aJ (k 1) 40 anJ), (h40, aJ (k 1) 40 anJ), (h18, ob 5 [.int h18f0, .int h18f1, .ref h38])] _ := hT
            refine lv_if_ne (tgt := 48) hx hb dX10_copy_37 (by decide) (fun _ => ?_) (fun cc => absurd cc (by decide +kernel))
            refine lv_bipush (v := (-11)) hx hb dX10_copy_48 (by decide) ?_
            exact tz_retI (B := B_cX10_copy_694ba D k h0 h4 h17 h18 h19 h20 h37 h38 h39 h40 h1 h2 h3 h5 h6 h7 h8 h9 h10 h11 h12 x1 x2 x3 x4 x5 h0f2 h0f6 h0f8 h0f11 h17f0 h17f1 h18f0 h18f1 h19f0 h19f1 h20f0 h20f1) (v := (-11)) hQ hx hb hr hlocks hS (Nat.le_of_ble_eq_true rfl) (Nat.le_of_ble_eq_true rfl) dX10_copy_50 (⟨(by have := li_m11; omega), (hT.sub [0, 1, 2, 9, 3, 4, 5, 6, 7, 8] (by decide) rfl)⟩)
      · skip
        refine tz_aldq (b := h19) hx hb hK hT 1 rfl (vp_in_iff.mpr (by have := hq7; omega)) (fun f hf => by rw [cl_of hq7]; exact hf.2.2.1) dX10_copy_21 ?_
        refine lv_astore (lv' := [(6, .ref h19), (0, .ref h0), (1, .int x1), (2, .int x2), (3, .int x3), (4, .int x4), (5, .int x5)]) hx hb dX10_copy_22 hl (by decide) rfl (fun ls hl => ?_)
        refine lv_aload_n hx hb dX10_copy_24 rfl (lv_at hl 1 rfl) ?_
        refine tz_get (ci := 7) (v := .ref h4) (C := RX10) (F := TX10) (N := 17) hx hb hU iX10 hown hK hT 0 rfl rfl 4 (by decide) w253 (fun _ h9 => h9) rfl dX10_copy_25 ?_
        refine lv_iload_n hx hb dX10_copy_28 rfl (lv_at hl 4 rfl) ?_
        rcases (show x3.toInt = 0 ∨ x3.toInt = 1 ∨ x3.toInt = 2 ∨ x3.toInt = 3 by omega) with hq114 | hq114 | hq114 | hq114
        · skip
          refine tz_aldq (b := h17) hx hb hK hT 1 rfl (vp_in_iff.mpr (by have := hq114; omega)) (fun f hf => by rw [cl_of hq114]; exact hf.1) dX10_copy_29 ?_
          refine lv_astore (lv' := [(7, .ref h17), (6, .ref h19), (0, .ref h0), (1, .int x1), (2, .int x2), (3, .int x3), (4, .int x4), (5, .int x5)]) hx hb dX10_copy_30 hl (by decide) rfl (fun ls hl => ?_)
          refine lv_aload hx hb dX10_copy_32 (lv_at hl 1 rfl) ?_
          refine tcI (Tc := [(h19, ob 5 [.int h19f0, .int h19f1, .ref h39])]) (Tr := [(h0, ob 7 [.ref h1, .ref h2, .int h0f2, .ref h3, .ref h4, .ref h5, .int h0f6, .ref h6, .int h0f8, .null, .ref h7, .int h0f11, .ref h8, .ref h9, .ref h10, .ref h11, .ref h12]), (h4, aQ (k 3) 4 (q4 h17 h18 h19 h20)), (h17, ob 5 [.int h17f0, .int h17f1, .ref h37]), (h18, ob 5 [.int h18f0, .int h18f1, .ref h38]), (h20, ob 5 [.int h20f0, .int h20f1, .ref h40]), (h37, aJ (k 1) 40 anJ), (h38, aJ (k 1) 40 anJ), (h39, aJ (k 1) 40 anJ), (h40, aJ (k 1) 40 anJ)]) (as := [h19]) (zcV (q0 := 4) (ci := 5) (As := []) (rest := []) (Tc := [(h19, ob 5 [.int h19f0, .int h19f1, .ref h39])]) hx hb hml hown hU hK hT rfl rfl [4] rfl (by decide) (cX6_isMissing_56a93 l D k _ h19 h39 h19f0 h19f1 (by omega) (by omega)) w644 w641 w642 w643 w71 hdX6_isMissing ⟨rfl, rfl⟩ ⟨Nat.le_of_ble_eq_true rfl, Nat.le_of_ble_eq_true rfl⟩ rfl hl.1 (Nat.le_of_ble_eq_true rfl) dX10_copy_34 ⟨Nat.le_of_ble_eq_true rfl, Nat.le_of_ble_eq_true rfl⟩) hT hS hA [4] [0, 1, 2, 3, 5, 6, 7, 8, 9] rfl rfl rfl (by decide) (by decide) (fun r115 H locs hB J hS => ?_)
          rcases hB with ⟨c_116, rfl, hT1⟩ | ⟨rfl, hT1⟩
          · skip
            have hT := J _ hT1
            have hT : TP D A [(h0, ob 7 [.ref h1, .ref h2, .int h0f2, .ref h3, .ref h4, .ref h5, .int h0f6, .ref h6, .int h0f8, .null, .ref h7, .int h0f11, .ref h8, .ref h9, .ref h10, .ref h11, .ref h12]), (h4, aQ (k 3) 4 (q4 h17 h18 h19 h20)), (h17, ob 5 [.int h17f0, .int h17f1, .ref h37]), (h18, ob 5 [.int h18f0, .int h18f1, .ref h38]), (h20, ob 5 [.int h20f0, .int h20f1, .ref h40]), (h37, aJ (k 1) 40 anJ), (h38, aJ (k 1) 40 anJ), (h39, aJ (k 1) 40 anJ), (h40, aJ (k 1) 40 anJ), (h19, ob 5 [.int h19f0, .int h19f1, .ref h39])] _ := hT
            refine lv_if_ne (tgt := 48) hx hb dX10_copy_37 (by decide) (fun cc => absurd (by decide +kernel) cc) (fun _ => ?_)
            refine lv_aload hx hb dX10_copy_40 (lv_at hl 0 rfl) ?_
            refine tcI (Tc := [(h17, ob 5 [.int h17f0, .int h17f1, .ref h37])]) (Tr := [(h0, ob 7 [.ref h1, .ref h2, .int h0f2, .ref h3, .ref h4, .ref h5, .int h0f6, .ref h6, .int h0f8, .null, .ref h7, .int h0f11, .ref h8, .ref h9, .ref h10, .ref h11, .ref h12]), (h4, aQ (k 3) 4 (q4 h17 h18 h19 h20)), (h18, ob 5 [.int h18f0, .int h18f1, .ref h38]), (h20, ob 5 [.int h20f0, .int h20f1, .ref h40]), (h37, aJ (k 1) 40 anJ), (h38, aJ (k 1) 40 anJ), (h39, aJ (k 1) 40 anJ), (h40, aJ (k 1) 40 anJ), (h19, ob 5 [.int h19f0, .int h19f1, .ref h39])]) (as := [h17]) (zcV (q0 := 2) (ci := 5) (As := []) (rest := []) (Tc := [(h17, ob 5 [.int h17f0, .int h17f1, .ref h37])]) hx hb hml hown hU hK hT rfl rfl [2] rfl (by decide) (cX6_isMissing_56a93 l D k _ h17 h37 h17f0 h17f1 (by omega) (by omega)) w644 w641 w642 w643 w71 hdX6_isMissing ⟨rfl, rfl⟩ ⟨Nat.le_of_ble_eq_true rfl, Nat.le_of_ble_eq_true rfl⟩ rfl hl.1 (Nat.le_of_ble_eq_true rfl) dX10_copy_42 ⟨Nat.le_of_ble_eq_true rfl, Nat.le_of_ble_eq_true rfl⟩) hT hS hA [2] [0, 1, 3, 4, 5, 6, 7, 8, 9] rfl rfl rfl (by decide) (by decide) (fun r117 H locs hB J hS => ?_)
            rcases hB with ⟨c_118, rfl, hT1⟩ | ⟨rfl, hT1⟩
            · skip
              have hT := J _ hT1
              have hT : TP D A [(h0, ob 7 [.ref h1, .ref h2, .int h0f2, .ref h3, .ref h4, .ref h5, .int h0f6, .ref h6, .int h0f8, .null, .ref h7, .int h0f11, .ref h8, .ref h9, .ref h10, .ref h11, .ref h12]), (h4, aQ (k 3) 4 (q4 h17 h18 h19 h20)), (h18, ob 5 [.int h18f0, .int h18f1, .ref h38]), (h20, ob 5 [.int h20f0, .int h20f1, .ref h40]), (h37, aJ (k 1) 40 anJ), (h38, aJ (k 1) 40 anJ), (h39, aJ (k 1) 40 anJ), (h40, aJ (k 1) 40 anJ), (h19, ob 5 [.int h19f0, .int h19f1, .ref h39]), (h17, ob 5 [.int h17f0, .int h17f1, .ref h37])] _ := hT
              refine lv_if_eq (tgt := 51) hx hb dX10_copy_45 (by decide) (fun _ => ?_) (fun cc => absurd (by decide +kernel) cc)
              refine lv_aload hx hb dX10_copy_51 (lv_at hl 1 rfl) ?_
              refine tz_get (ci := 5) (v := .int h19f0) (C := RX6) (F := TX6) (N := 3) hx hb hU iX6 hown hK hT 8 rfl rfl 0 (by decide) w238 (fun _ h9 => h9) rfl dX10_copy_53 ?_
              refine lv_aload hx hb dX10_copy_56 (lv_at hl 0 rfl) ?_
              refine tz_get (ci := 5) (v := .int h17f0) (C := RX6) (F := TX6) (N := 3) hx hb hU iX6 hown hK hT 9 rfl rfl 0 (by decide) w238 (fun _ h9 => h9) rfl dX10_copy_58 ?_
              refine lv_icmp_eq (tgt := 67) hx hb dX10_copy_61 (by decide) (fun c_119 => ?_) (fun c_119 => ?_)
              · skip
                have c_119 := ni_eq c_119 rfl rfl
                refine lv_aload hx hb dX10_copy_67 (lv_at hl 1 rfl) ?_
                refine lv_iload_n hx hb dX10_copy_69 rfl (lv_at hl 4 rfl) ?_
                refine lv_iload hx hb dX10_copy_70 (lv_at hl 7 rfl) ?_
                refine tcI (Tc := [(h19, ob 5 [.int h19f0, .int h19f1, .ref h39])]) (Tr := [(h0, ob 7 [.ref h1, .ref h2, .int h0f2, .ref h3, .ref h4, .ref h5, .int h0f6, .ref h6, .int h0f8, .null, .ref h7, .int h0f11, .ref h8, .ref h9, .ref h10, .ref h11, .ref h12]), (h4, aQ (k 3) 4 (q4 h17 h18 h19 h20)), (h18, ob 5 [.int h18f0, .int h18f1, .ref h38]), (h20, ob 5 [.int h20f0, .int h20f1, .ref h40]), (h37, aJ (k 1) 40 anJ), (h38, aJ (k 1) 40 anJ), (h39, aJ (k 1) 40 anJ), (h40, aJ (k 1) 40 anJ), (h17, ob 5 [.int h17f0, .int h17f1, .ref h37])]) (as := [h19]) (zcV (q0 := 8) (ci := 5) (As := [.int x2, .int x5]) (rest := []) (Tc := [(h19, ob 5 [.int h19f0, .int h19f1, .ref h39])]) hx hb hml hown hU hK hT rfl rfl [8] rfl (by decide) (cX6_isOutside_cc85b l D k _ h19 h39 x2 x5 h19f0 h19f1 (by omega) (by omega)) w648 w645 w646 w647 w71 hdX6_isOutside ⟨rfl, rfl⟩ ⟨Nat.le_of_ble_eq_true rfl, Nat.le_of_ble_eq_true rfl⟩ rfl hl.1 (Nat.le_of_ble_eq_true rfl) dX10_copy_72 ⟨Nat.le_of_ble_eq_true rfl, Nat.le_of_ble_eq_true rfl⟩) hT hS hA [8] [0, 1, 2, 3, 4, 5, 6, 7, 9] rfl rfl rfl (by decide) (by decide) (fun r120 H locs hB J hS => ?_)
                rcases hB with ⟨rfl, hT1⟩ | ⟨c_121, c_122, c_123, rfl, hT1⟩
                · skip
                  have hT := J _ hT1
                  have hT : TP D A [(h0, ob 7 [.ref h1, .ref h2, .int h0f2, .ref h3, .ref h4, .ref h5, .int h0f6, .ref h6, .int h0f8, .null, .ref h7, .int h0f11, .ref h8, .ref h9, .ref h10, .ref h11, .ref h12]), (h4, aQ (k 3) 4 (q4 h17 h18 h19 h20)), (h18, ob 5 [.int h18f0, .int h18f1, .ref h38]), (h20, ob 5 [.int h20f0, .int h20f1, .ref h40]), (h37, aJ (k 1) 40 anJ), (h38, aJ (k 1) 40 anJ), (h39, aJ (k 1) 40 anJ), (h40, aJ (k 1) 40 anJ), (h17, ob 5 [.int h17f0, .int h17f1, .ref h37]), (h19, ob 5 [.int h19f0, .int h19f1, .ref h39])] _ := hT
                  refine lv_if_ne (tgt := 90) hx hb dX10_copy_75 (by decide) (fun _ => ?_) (fun cc => absurd cc (by decide +kernel))
                  refine lv_bipush (v := (-12)) hx hb dX10_copy_90 (by decide) ?_
                  exact tz_retI (B := B_cX10_copy_694ba D k h0 h4 h17 h18 h19 h20 h37 h38 h39 h40 h1 h2 h3 h5 h6 h7 h8 h9 h10 h11 h12 x1 x2 x3 x4 x5 h0f2 h0f6 h0f8 h0f11 h17f0 h17f1 h18f0 h18f1 h19f0 h19f1 h20f0 h20f1) (v := (-12)) hQ hx hb hr hlocks hS (Nat.le_of_ble_eq_true rfl) (Nat.le_of_ble_eq_true rfl) dX10_copy_92 (⟨(by have := li_m12; omega), (hT.sub [0, 1, 8, 2, 9, 3, 4, 5, 6, 7] (by decide) rfl)⟩)
                · skip
                  have hT := J _ hT1
                  have hT : TP D A [(h0, ob 7 [.ref h1, .ref h2, .int h0f2, .ref h3, .ref h4, .ref h5, .int h0f6, .ref h6, .int h0f8, .null, .ref h7, .int h0f11, .ref h8, .ref h9, .ref h10, .ref h11, .ref h12]), (h4, aQ (k 3) 4 (q4 h17 h18 h19 h20)), (h18, ob 5 [.int h18f0, .int h18f1, .ref h38]), (h20, ob 5 [.int h20f0, .int h20f1, .ref h40]), (h37, aJ (k 1) 40 anJ), (h38, aJ (k 1) 40 anJ), (h39, aJ (k 1) 40 anJ), (h40, aJ (k 1) 40 anJ), (h17, ob 5 [.int h17f0, .int h17f1, .ref h37]), (h19, ob 5 [.int h19f0, .int h19f1, .ref h39])] _ := hT
                  refine lv_if_ne (tgt := 90) hx hb dX10_copy_75 (by decide) (fun cc => absurd (by decide +kernel) cc) (fun _ => ?_)
                  refine lv_aload hx hb dX10_copy_78 (lv_at hl 0 rfl) ?_
                  refine lv_iload hx hb dX10_copy_80 (lv_at hl 6 rfl) ?_
                  refine lv_iload hx hb dX10_copy_82 (lv_at hl 7 rfl) ?_
                  refine tcI (Tc := [(h17, ob 5 [.int h17f0, .int h17f1, .ref h37])]) (Tr := [(h0, ob 7 [.ref h1, .ref h2, .int h0f2, .ref h3, .ref h4, .ref h5, .int h0f6, .ref h6, .int h0f8, .null, .ref h7, .int h0f11, .ref h8, .ref h9, .ref h10, .ref h11, .ref h12]), (h4, aQ (k 3) 4 (q4 h17 h18 h19 h20)), (h18, ob 5 [.int h18f0, .int h18f1, .ref h38]), (h20, ob 5 [.int h20f0, .int h20f1, .ref h40]), (h37, aJ (k 1) 40 anJ), (h38, aJ (k 1) 40 anJ), (h39, aJ (k 1) 40 anJ), (h40, aJ (k 1) 40 anJ), (h19, ob 5 [.int h19f0, .int h19f1, .ref h39])]) (as := [h17]) (zcV (q0 := 8) (ci := 5) (As := [.int x4, .int x5]) (rest := []) (Tc := [(h17, ob 5 [.int h17f0, .int h17f1, .ref h37])]) hx hb hml hown hU hK hT rfl rfl [8] rfl (by decide) (cX6_isOutside_cc85b l D k _ h17 h37 x4 x5 h17f0 h17f1 (by omega) (by omega)) w648 w645 w646 w647 w71 hdX6_isOutside ⟨rfl, rfl⟩ ⟨Nat.le_of_ble_eq_true rfl, Nat.le_of_ble_eq_true rfl⟩ rfl hl.1 (Nat.le_of_ble_eq_true rfl) dX10_copy_84 ⟨Nat.le_of_ble_eq_true rfl, Nat.le_of_ble_eq_true rfl⟩) hT hS hA [8] [0, 1, 2, 3, 4, 5, 6, 7, 9] rfl rfl rfl (by decide) (by decide) (fun r124 H locs hB J hS => ?_)
                  rcases hB with ⟨rfl, hT1⟩ | ⟨c_125, c_126, c_127, rfl, hT1⟩
                  · skip
                    have hT := J _ hT1
                    have hT : TP D A [(h0, ob 7 [.ref h1, .ref h2, .int h0f2, .ref h3, .ref h4, .ref h5, .int h0f6, .ref h6, .int h0f8, .null, .ref h7, .int h0f11, .ref h8, .ref h9, .ref h10, .ref h11, .ref h12]), (h4, aQ (k 3) 4 (q4 h17 h18 h19 h20)), (h18, ob 5 [.int h18f0, .int h18f1, .ref h38]), (h20, ob 5 [.int h20f0, .int h20f1, .ref h40]), (h37, aJ (k 1) 40 anJ), (h38, aJ (k 1) 40 anJ), (h39, aJ (k 1) 40 anJ), (h40, aJ (k 1) 40 anJ), (h19, ob 5 [.int h19f0, .int h19f1, .ref h39]), (h17, ob 5 [.int h17f0, .int h17f1, .ref h37])] _ := hT
                    refine lv_if_eq (tgt := 93) hx hb dX10_copy_87 (by decide) (fun cc => absurd cc (by decide +kernel)) (fun _ => ?_)
                    refine lv_bipush (v := (-12)) hx hb dX10_copy_90 (by decide) ?_
                    exact tz_retI (B := B_cX10_copy_694ba D k h0 h4 h17 h18 h19 h20 h37 h38 h39 h40 h1 h2 h3 h5 h6 h7 h8 h9 h10 h11 h12 x1 x2 x3 x4 x5 h0f2 h0f6 h0f8 h0f11 h17f0 h17f1 h18f0 h18f1 h19f0 h19f1 h20f0 h20f1) (v := (-12)) hQ hx hb hr hlocks hS (Nat.le_of_ble_eq_true rfl) (Nat.le_of_ble_eq_true rfl) dX10_copy_92 (⟨(by have := li_m12; omega), (hT.sub [0, 1, 9, 2, 8, 3, 4, 5, 6, 7] (by decide) rfl)⟩)
                  · skip
                    have hT := J _ hT1
                    have hT : TP D A [(h0, ob 7 [.ref h1, .ref h2, .int h0f2, .ref h3, .ref h4, .ref h5, .int h0f6, .ref h6, .int h0f8, .null, .ref h7, .int h0f11, .ref h8, .ref h9, .ref h10, .ref h11, .ref h12]), (h4, aQ (k 3) 4 (q4 h17 h18 h19 h20)), (h18, ob 5 [.int h18f0, .int h18f1, .ref h38]), (h20, ob 5 [.int h20f0, .int h20f1, .ref h40]), (h37, aJ (k 1) 40 anJ), (h38, aJ (k 1) 40 anJ), (h39, aJ (k 1) 40 anJ), (h40, aJ (k 1) 40 anJ), (h19, ob 5 [.int h19f0, .int h19f1, .ref h39]), (h17, ob 5 [.int h17f0, .int h17f1, .ref h37])] _ := hT
                    refine lv_if_eq (tgt := 93) hx hb dX10_copy_87 (by decide) (fun _ => ?_) (fun cc => absurd (by decide +kernel) cc)
                    refine lv_aload hx hb dX10_copy_93 (lv_at hl 1 rfl) ?_
                    refine tz_get (ci := 5) (v := .ref h39) (C := RX6) (F := TX6) (N := 3) hx hb hU iX6 hown hK hT 8 rfl rfl 2 (by decide) w241 (fun _ h9 => h9) rfl dX10_copy_95 ?_
                    refine lv_iload_n hx hb dX10_copy_98 rfl (lv_at hl 4 rfl) ?_
                    refine lv_aload hx hb dX10_copy_99 (lv_at hl 0 rfl) ?_
                    refine tz_get (ci := 5) (v := .ref h37) (C := RX6) (F := TX6) (N := 3) hx hb hU iX6 hown hK hT 9 rfl rfl 2 (by decide) w241 (fun _ h9 => h9) rfl dX10_copy_101 ?_
                    refine lv_iload hx hb dX10_copy_104 (lv_at hl 6 rfl) ?_
                    refine lv_iload hx hb dX10_copy_106 (lv_at hl 7 rfl) ?_
                    refine tz_copyl hx hb (by rw [hml]; exact hl.1.symm) hown hU w410 w348 w347 w75 hK hT hS 6 4 rfl rfl (by omega) (fun _ _ _ _ => trivial) (Nat.le_of_ble_eq_true rfl) (Nat.le_of_ble_eq_true rfl) dX10_copy_108 (fun H locs hT hS => ?_)
                    refine lv_iload hx hb dX10_copy_111 (lv_at hl 7 rfl) ?_
                    exact tz_retI (B := B_cX10_copy_694ba D k h0 h4 h17 h18 h19 h20 h37 h38 h39 h40 h1 h2 h3 h5 h6 h7 h8 h9 h10 h11 h12 x1 x2 x3 x4 x5 h0f2 h0f6 h0f8 h0f11 h17f0 h17f1 h18f0 h18f1 h19f0 h19f1 h20f0 h20f1) (v := x5) hQ hx hb hr hlocks hS (Nat.le_of_ble_eq_true rfl) (Nat.le_of_ble_eq_true rfl) dX10_copy_113 (⟨(by omega), (hT.sub [0, 1, 9, 2, 8, 3, 4, 5, 6, 7] (by decide) rfl)⟩)
              · skip
                have c_119 := ni_ne c_119 rfl rfl
                refine lv_bipush (v := (-13)) hx hb dX10_copy_64 (by decide) ?_
                exact tz_retI (B := B_cX10_copy_694ba D k h0 h4 h17 h18 h19 h20 h37 h38 h39 h40 h1 h2 h3 h5 h6 h7 h8 h9 h10 h11 h12 x1 x2 x3 x4 x5 h0f2 h0f6 h0f8 h0f11 h17f0 h17f1 h18f0 h18f1 h19f0 h19f1 h20f0 h20f1) (v := (-13)) hQ hx hb hr hlocks hS (Nat.le_of_ble_eq_true rfl) (Nat.le_of_ble_eq_true rfl) dX10_copy_66 (⟨(by have := li_m13; omega), (hT.sub [0, 1, 9, 2, 8, 3, 4, 5, 6, 7] (by decide) rfl)⟩)
            · skip
              have hT := J _ hT1
              have hT : TP D A [(h0, ob 7 [.ref h1, .ref h2, .int h0f2, .ref h3, .ref h4, .ref h5, .int h0f6, .ref h6, .int h0f8, .null, .ref h7, .int h0f11, .ref h8, .ref h9, .ref h10, .ref h11, .ref h12]), (h4, aQ (k 3) 4 (q4 h17 h18 h19 h20)), (h18, ob 5 [.int h18f0, .int h18f1, .ref h38]), (h20, ob 5 [.int h20f0, .int h20f1, .ref h40]), (h37, aJ (k 1) 40 anJ), (h38, aJ (k 1) 40 anJ), (h39, aJ (k 1) 40 anJ), (h40, aJ (k 1) 40 anJ), (h19, ob 5 [.int h19f0, .int h19f1, .ref h39]), (h17, ob 5 [.int h17f0, .int h17f1, .ref h37])] _ := hT
              refine lv_if_eq (tgt := 51) hx hb dX10_copy_45 (by decide) (fun cc => absurd cc (by decide +kernel)) (fun _ => ?_)
              refine lv_bipush (v := (-11)) hx hb dX10_copy_48 (by decide) ?_
              exact tz_retI (B := B_cX10_copy_694ba D k h0 h4 h17 h18 h19 h20 h37 h38 h39 h40 h1 h2 h3 h5 h6 h7 h8 h9 h10 h11 h12 x1 x2 x3 x4 x5 h0f2 h0f6 h0f8 h0f11 h17f0 h17f1 h18f0 h18f1 h19f0 h19f1 h20f0 h20f1) (v := (-11)) hQ hx hb hr hlocks hS (Nat.le_of_ble_eq_true rfl) (Nat.le_of_ble_eq_true rfl) dX10_copy_50 (⟨(by have := li_m11; omega), (hT.sub [0, 1, 9, 2, 8, 3, 4, 5, 6, 7] (by decide) rfl)⟩)
          · skip
            have hT := J _ hT1
            have hT : TP D A [(h0, ob 7 [.ref h1, .ref h2, .int h0f2, .ref h3, .ref h4, .ref h5, .int h0f6, .ref h6, .int h0f8, .null, .ref h7, .int h0f11, .ref h8, .ref h9, .ref h10, .ref h11, .ref h12]), (h4, aQ (k 3) 4 (q4 h17 h18 h19 h20)), (h17, ob 5 [.int h17f0, .int h17f1, .ref h37]), (h18, ob 5 [.int h18f0, .int h18f1, .ref h38]), (h20, ob 5 [.int h20f0, .int h20f1, .ref h40]), (h37, aJ (k 1) 40 anJ), (h38, aJ (k 1) 40 anJ), (h39, aJ (k 1) 40 anJ), (h40, aJ (k 1) 40 anJ), (h19, ob 5 [.int h19f0, .int h19f1, .ref h39])] _ := hT
            refine lv_if_ne (tgt := 48) hx hb dX10_copy_37 (by decide) (fun _ => ?_) (fun cc => absurd cc (by decide +kernel))
            refine lv_bipush (v := (-11)) hx hb dX10_copy_48 (by decide) ?_
            exact tz_retI (B := B_cX10_copy_694ba D k h0 h4 h17 h18 h19 h20 h37 h38 h39 h40 h1 h2 h3 h5 h6 h7 h8 h9 h10 h11 h12 x1 x2 x3 x4 x5 h0f2 h0f6 h0f8 h0f11 h17f0 h17f1 h18f0 h18f1 h19f0 h19f1 h20f0 h20f1) (v := (-11)) hQ hx hb hr hlocks hS (Nat.le_of_ble_eq_true rfl) (Nat.le_of_ble_eq_true rfl) dX10_copy_50 (⟨(by have := li_m11; omega), (hT.sub [0, 1, 2, 3, 9, 4, 5, 6, 7, 8] (by decide) rfl)⟩)
        · skip
          refine tz_aldq (b := h18) hx hb hK hT 1 rfl (vp_in_iff.mpr (by have := hq114; omega)) (fun f hf => by rw [cl_of hq114]; exact hf.2.1) dX10_copy_29 ?_
          refine lv_astore (lv' := [(7, .ref h18), (6, .ref h19), (0, .ref h0), (1, .int x1), (2, .int x2), (3, .int x3), (4, .int x4), (5, .int x5)]) hx hb dX10_copy_30 hl (by decide) rfl (fun ls hl => ?_)
          refine lv_aload hx hb dX10_copy_32 (lv_at hl 1 rfl) ?_
          refine tcI (Tc := [(h19, ob 5 [.int h19f0, .int h19f1, .ref h39])]) (Tr := [(h0, ob 7 [.ref h1, .ref h2, .int h0f2, .ref h3, .ref h4, .ref h5, .int h0f6, .ref h6, .int h0f8, .null, .ref h7, .int h0f11, .ref h8, .ref h9, .ref h10, .ref h11, .ref h12]), (h4, aQ (k 3) 4 (q4 h17 h18 h19 h20)), (h17, ob 5 [.int h17f0, .int h17f1, .ref h37]), (h18, ob 5 [.int h18f0, .int h18f1, .ref h38]), (h20, ob 5 [.int h20f0, .int h20f1, .ref h40]), (h37, aJ (k 1) 40 anJ), (h38, aJ (k 1) 40 anJ), (h39, aJ (k 1) 40 anJ), (h40, aJ (k 1) 40 anJ)]) (as := [h19]) (zcV (q0 := 4) (ci := 5) (As := []) (rest := []) (Tc := [(h19, ob 5 [.int h19f0, .int h19f1, .ref h39])]) hx hb hml hown hU hK hT rfl rfl [4] rfl (by decide) (cX6_isMissing_56a93 l D k _ h19 h39 h19f0 h19f1 (by omega) (by omega)) w644 w641 w642 w643 w71 hdX6_isMissing ⟨rfl, rfl⟩ ⟨Nat.le_of_ble_eq_true rfl, Nat.le_of_ble_eq_true rfl⟩ rfl hl.1 (Nat.le_of_ble_eq_true rfl) dX10_copy_34 ⟨Nat.le_of_ble_eq_true rfl, Nat.le_of_ble_eq_true rfl⟩) hT hS hA [4] [0, 1, 2, 3, 5, 6, 7, 8, 9] rfl rfl rfl (by decide) (by decide) (fun r128 H locs hB J hS => ?_)
          rcases hB with ⟨c_129, rfl, hT1⟩ | ⟨rfl, hT1⟩
          · skip
            have hT := J _ hT1
            have hT : TP D A [(h0, ob 7 [.ref h1, .ref h2, .int h0f2, .ref h3, .ref h4, .ref h5, .int h0f6, .ref h6, .int h0f8, .null, .ref h7, .int h0f11, .ref h8, .ref h9, .ref h10, .ref h11, .ref h12]), (h4, aQ (k 3) 4 (q4 h17 h18 h19 h20)), (h17, ob 5 [.int h17f0, .int h17f1, .ref h37]), (h18, ob 5 [.int h18f0, .int h18f1, .ref h38]), (h20, ob 5 [.int h20f0, .int h20f1, .ref h40]), (h37, aJ (k 1) 40 anJ), (h38, aJ (k 1) 40 anJ), (h39, aJ (k 1) 40 anJ), (h40, aJ (k 1) 40 anJ), (h19, ob 5 [.int h19f0, .int h19f1, .ref h39])] _ := hT
            refine lv_if_ne (tgt := 48) hx hb dX10_copy_37 (by decide) (fun cc => absurd (by decide +kernel) cc) (fun _ => ?_)
            refine lv_aload hx hb dX10_copy_40 (lv_at hl 0 rfl) ?_
            refine tcI (Tc := [(h18, ob 5 [.int h18f0, .int h18f1, .ref h38])]) (Tr := [(h0, ob 7 [.ref h1, .ref h2, .int h0f2, .ref h3, .ref h4, .ref h5, .int h0f6, .ref h6, .int h0f8, .null, .ref h7, .int h0f11, .ref h8, .ref h9, .ref h10, .ref h11, .ref h12]), (h4, aQ (k 3) 4 (q4 h17 h18 h19 h20)), (h17, ob 5 [.int h17f0, .int h17f1, .ref h37]), (h20, ob 5 [.int h20f0, .int h20f1, .ref h40]), (h37, aJ (k 1) 40 anJ), (h38, aJ (k 1) 40 anJ), (h39, aJ (k 1) 40 anJ), (h40, aJ (k 1) 40 anJ), (h19, ob 5 [.int h19f0, .int h19f1, .ref h39])]) (as := [h18]) (zcV (q0 := 3) (ci := 5) (As := []) (rest := []) (Tc := [(h18, ob 5 [.int h18f0, .int h18f1, .ref h38])]) hx hb hml hown hU hK hT rfl rfl [3] rfl (by decide) (cX6_isMissing_56a93 l D k _ h18 h38 h18f0 h18f1 (by omega) (by omega)) w644 w641 w642 w643 w71 hdX6_isMissing ⟨rfl, rfl⟩ ⟨Nat.le_of_ble_eq_true rfl, Nat.le_of_ble_eq_true rfl⟩ rfl hl.1 (Nat.le_of_ble_eq_true rfl) dX10_copy_42 ⟨Nat.le_of_ble_eq_true rfl, Nat.le_of_ble_eq_true rfl⟩) hT hS hA [3] [0, 1, 2, 4, 5, 6, 7, 8, 9] rfl rfl rfl (by decide) (by decide) (fun r130 H locs hB J hS => ?_)
            rcases hB with ⟨c_131, rfl, hT1⟩ | ⟨rfl, hT1⟩
            · skip
              have hT := J _ hT1
              have hT : TP D A [(h0, ob 7 [.ref h1, .ref h2, .int h0f2, .ref h3, .ref h4, .ref h5, .int h0f6, .ref h6, .int h0f8, .null, .ref h7, .int h0f11, .ref h8, .ref h9, .ref h10, .ref h11, .ref h12]), (h4, aQ (k 3) 4 (q4 h17 h18 h19 h20)), (h17, ob 5 [.int h17f0, .int h17f1, .ref h37]), (h20, ob 5 [.int h20f0, .int h20f1, .ref h40]), (h37, aJ (k 1) 40 anJ), (h38, aJ (k 1) 40 anJ), (h39, aJ (k 1) 40 anJ), (h40, aJ (k 1) 40 anJ), (h19, ob 5 [.int h19f0, .int h19f1, .ref h39]), (h18, ob 5 [.int h18f0, .int h18f1, .ref h38])] _ := hT
              refine lv_if_eq (tgt := 51) hx hb dX10_copy_45 (by decide) (fun _ => ?_) (fun cc => absurd (by decide +kernel) cc)
              refine lv_aload hx hb dX10_copy_51 (lv_at hl 1 rfl) ?_
              refine tz_get (ci := 5) (v := .int h19f0) (C := RX6) (F := TX6) (N := 3) hx hb hU iX6 hown hK hT 8 rfl rfl 0 (by decide) w238 (fun _ h9 => h9) rfl dX10_copy_53 ?_
              refine lv_aload hx hb dX10_copy_56 (lv_at hl 0 rfl) ?_
              refine tz_get (ci := 5) (v := .int h18f0) (C := RX6) (F := TX6) (N := 3) hx hb hU iX6 hown hK hT 9 rfl rfl 0 (by decide) w238 (fun _ h9 => h9) rfl dX10_copy_58 ?_
              refine lv_icmp_eq (tgt := 67) hx hb dX10_copy_61 (by decide) (fun c_132 => ?_) (fun c_132 => ?_)
              · skip
                have c_132 := ni_eq c_132 rfl rfl
                refine lv_aload hx hb dX10_copy_67 (lv_at hl 1 rfl) ?_
                refine lv_iload_n hx hb dX10_copy_69 rfl (lv_at hl 4 rfl) ?_
                refine lv_iload hx hb dX10_copy_70 (lv_at hl 7 rfl) ?_
                refine tcI (Tc := [(h19, ob 5 [.int h19f0, .int h19f1, .ref h39])]) (Tr := [(h0, ob 7 [.ref h1, .ref h2, .int h0f2, .ref h3, .ref h4, .ref h5, .int h0f6, .ref h6, .int h0f8, .null, .ref h7, .int h0f11, .ref h8, .ref h9, .ref h10, .ref h11, .ref h12]), (h4, aQ (k 3) 4 (q4 h17 h18 h19 h20)), (h17, ob 5 [.int h17f0, .int h17f1, .ref h37]), (h20, ob 5 [.int h20f0, .int h20f1, .ref h40]), (h37, aJ (k 1) 40 anJ), (h38, aJ (k 1) 40 anJ), (h39, aJ (k 1) 40 anJ), (h40, aJ (k 1) 40 anJ), (h18, ob 5 [.int h18f0, .int h18f1, .ref h38])]) (as := [h19]) (zcV (q0 := 8) (ci := 5) (As := [.int x2, .int x5]) (rest := []) (Tc := [(h19, ob 5 [.int h19f0, .int h19f1, .ref h39])]) hx hb hml hown hU hK hT rfl rfl [8] rfl (by decide) (cX6_isOutside_cc85b l D k _ h19 h39 x2 x5 h19f0 h19f1 (by omega) (by omega)) w648 w645 w646 w647 w71 hdX6_isOutside ⟨rfl, rfl⟩ ⟨Nat.le_of_ble_eq_true rfl, Nat.le_of_ble_eq_true rfl⟩ rfl hl.1 (Nat.le_of_ble_eq_true rfl) dX10_copy_72 ⟨Nat.le_of_ble_eq_true rfl, Nat.le_of_ble_eq_true rfl⟩) hT hS hA [8] [0, 1, 2, 3, 4, 5, 6, 7, 9] rfl rfl rfl (by decide) (by decide) (fun r133 H locs hB J hS => ?_)
                rcases hB with ⟨rfl, hT1⟩ | ⟨c_134, c_135, c_136, rfl, hT1⟩
                · skip
                  have hT := J _ hT1
                  have hT : TP D A [(h0, ob 7 [.ref h1, .ref h2, .int h0f2, .ref h3, .ref h4, .ref h5, .int h0f6, .ref h6, .int h0f8, .null, .ref h7, .int h0f11, .ref h8, .ref h9, .ref h10, .ref h11, .ref h12]), (h4, aQ (k 3) 4 (q4 h17 h18 h19 h20)), (h17, ob 5 [.int h17f0, .int h17f1, .ref h37]), (h20, ob 5 [.int h20f0, .int h20f1, .ref h40]), (h37, aJ (k 1) 40 anJ), (h38, aJ (k 1) 40 anJ), (h39, aJ (k 1) 40 anJ), (h40, aJ (k 1) 40 anJ), (h18, ob 5 [.int h18f0, .int h18f1, .ref h38]), (h19, ob 5 [.int h19f0, .int h19f1, .ref h39])] _ := hT
                  refine lv_if_ne (tgt := 90) hx hb dX10_copy_75 (by decide) (fun _ => ?_) (fun cc => absurd cc (by decide +kernel))
                  refine lv_bipush (v := (-12)) hx hb dX10_copy_90 (by decide) ?_
                  exact tz_retI (B := B_cX10_copy_694ba D k h0 h4 h17 h18 h19 h20 h37 h38 h39 h40 h1 h2 h3 h5 h6 h7 h8 h9 h10 h11 h12 x1 x2 x3 x4 x5 h0f2 h0f6 h0f8 h0f11 h17f0 h17f1 h18f0 h18f1 h19f0 h19f1 h20f0 h20f1) (v := (-12)) hQ hx hb hr hlocks hS (Nat.le_of_ble_eq_true rfl) (Nat.le_of_ble_eq_true rfl) dX10_copy_92 (⟨(by have := li_m12; omega), (hT.sub [0, 1, 2, 8, 9, 3, 4, 5, 6, 7] (by decide) rfl)⟩)
                · skip
                  have hT := J _ hT1
                  have hT : TP D A [(h0, ob 7 [.ref h1, .ref h2, .int h0f2, .ref h3, .ref h4, .ref h5, .int h0f6, .ref h6, .int h0f8, .null, .ref h7, .int h0f11, .ref h8, .ref h9, .ref h10, .ref h11, .ref h12]), (h4, aQ (k 3) 4 (q4 h17 h18 h19 h20)), (h17, ob 5 [.int h17f0, .int h17f1, .ref h37]), (h20, ob 5 [.int h20f0, .int h20f1, .ref h40]), (h37, aJ (k 1) 40 anJ), (h38, aJ (k 1) 40 anJ), (h39, aJ (k 1) 40 anJ), (h40, aJ (k 1) 40 anJ), (h18, ob 5 [.int h18f0, .int h18f1, .ref h38]), (h19, ob 5 [.int h19f0, .int h19f1, .ref h39])] _ := hT
                  refine lv_if_ne (tgt := 90) hx hb dX10_copy_75 (by decide) (fun cc => absurd (by decide +kernel) cc) (fun _ => ?_)
                  refine lv_aload hx hb dX10_copy_78 (lv_at hl 0 rfl) ?_
                  refine lv_iload hx hb dX10_copy_80 (lv_at hl 6 rfl) ?_
                  refine lv_iload hx hb dX10_copy_82 (lv_at hl 7 rfl) ?_
                  refine tcI (Tc := [(h18, ob 5 [.int h18f0, .int h18f1, .ref h38])]) (Tr := [(h0, ob 7 [.ref h1, .ref h2, .int h0f2, .ref h3, .ref h4, .ref h5, .int h0f6, .ref h6, .int h0f8, .null, .ref h7, .int h0f11, .ref h8, .ref h9, .ref h10, .ref h11, .ref h12]), (h4, aQ (k 3) 4 (q4 h17 h18 h19 h20)), (h17, ob 5 [.int h17f0, .int h17f1, .ref h37]), (h20, ob 5 [.int h20f0, .int h20f1, .ref h40]), (h37, aJ (k 1) 40 anJ), (h38, aJ (k 1) 40 anJ), (h39, aJ (k 1) 40 anJ), (h40, aJ (k 1) 40 anJ), (h19, ob 5 [.int h19f0, .int h19f1, .ref h39])]) (as := [h18]) (zcV (q0 := 8) (ci := 5) (As := [.int x4, .int x5]) (rest := []) (Tc := [(h18, ob 5 [.int h18f0, .int h18f1, .ref h38])]) hx hb hml hown hU hK hT rfl rfl [8] rfl (by decide) (cX6_isOutside_cc85b l D k _ h18 h38 x4 x5 h18f0 h18f1 (by omega) (by omega)) w648 w645 w646 w647 w71 hdX6_isOutside ⟨rfl, rfl⟩ ⟨Nat.le_of_ble_eq_true rfl, Nat.le_of_ble_eq_true rfl⟩ rfl hl.1 (Nat.le_of_ble_eq_true rfl) dX10_copy_84 ⟨Nat.le_of_ble_eq_true rfl, Nat.le_of_ble_eq_true rfl⟩) hT hS hA [8] [0, 1, 2, 3, 4, 5, 6, 7, 9] rfl rfl rfl (by decide) (by decide) (fun r137 H locs hB J hS => ?_)
                  rcases hB with ⟨rfl, hT1⟩ | ⟨c_138, c_139, c_140, rfl, hT1⟩
                  · skip
                    have hT := J _ hT1
                    have hT : TP D A [(h0, ob 7 [.ref h1, .ref h2, .int h0f2, .ref h3, .ref h4, .ref h5, .int h0f6, .ref h6, .int h0f8, .null, .ref h7, .int h0f11, .ref h8, .ref h9, .ref h10, .ref h11, .ref h12]), (h4, aQ (k 3) 4 (q4 h17 h18 h19 h20)), (h17, ob 5 [.int h17f0, .int h17f1, .ref h37]), (h20, ob 5 [.int h20f0, .int h20f1, .ref h40]), (h37, aJ (k 1) 40 anJ), (h38, aJ (k 1) 40 anJ), (h39, aJ (k 1) 40 anJ), (h40, aJ (k 1) 40 anJ), (h19, ob 5 [.int h19f0, .int h19f1, .ref h39]), (h18, ob 5 [.int h18f0, .int h18f1, .ref h38])] _ := hT
                    refine lv_if_eq (tgt := 93) hx hb dX10_copy_87 (by decide) (fun cc => absurd cc (by decide +kernel)) (fun _ => ?_)
                    refine lv_bipush (v := (-12)) hx hb dX10_copy_90 (by decide) ?_
                    exact tz_retI (B := B_cX10_copy_694ba D k h0 h4 h17 h18 h19 h20 h37 h38 h39 h40 h1 h2 h3 h5 h6 h7 h8 h9 h10 h11 h12 x1 x2 x3 x4 x5 h0f2 h0f6 h0f8 h0f11 h17f0 h17f1 h18f0 h18f1 h19f0 h19f1 h20f0 h20f1) (v := (-12)) hQ hx hb hr hlocks hS (Nat.le_of_ble_eq_true rfl) (Nat.le_of_ble_eq_true rfl) dX10_copy_92 (⟨(by have := li_m12; omega), (hT.sub [0, 1, 2, 9, 8, 3, 4, 5, 6, 7] (by decide) rfl)⟩)
                  · skip
                    have hT := J _ hT1
                    have hT : TP D A [(h0, ob 7 [.ref h1, .ref h2, .int h0f2, .ref h3, .ref h4, .ref h5, .int h0f6, .ref h6, .int h0f8, .null, .ref h7, .int h0f11, .ref h8, .ref h9, .ref h10, .ref h11, .ref h12]), (h4, aQ (k 3) 4 (q4 h17 h18 h19 h20)), (h17, ob 5 [.int h17f0, .int h17f1, .ref h37]), (h20, ob 5 [.int h20f0, .int h20f1, .ref h40]), (h37, aJ (k 1) 40 anJ), (h38, aJ (k 1) 40 anJ), (h39, aJ (k 1) 40 anJ), (h40, aJ (k 1) 40 anJ), (h19, ob 5 [.int h19f0, .int h19f1, .ref h39]), (h18, ob 5 [.int h18f0, .int h18f1, .ref h38])] _ := hT
                    refine lv_if_eq (tgt := 93) hx hb dX10_copy_87 (by decide) (fun _ => ?_) (fun cc => absurd (by decide +kernel) cc)
                    refine lv_aload hx hb dX10_copy_93 (lv_at hl 1 rfl) ?_
                    refine tz_get (ci := 5) (v := .ref h39) (C := RX6) (F := TX6) (N := 3) hx hb hU iX6 hown hK hT 8 rfl rfl 2 (by decide) w241 (fun _ h9 => h9) rfl dX10_copy_95 ?_
                    refine lv_iload_n hx hb dX10_copy_98 rfl (lv_at hl 4 rfl) ?_
                    refine lv_aload hx hb dX10_copy_99 (lv_at hl 0 rfl) ?_
                    refine tz_get (ci := 5) (v := .ref h38) (C := RX6) (F := TX6) (N := 3) hx hb hU iX6 hown hK hT 9 rfl rfl 2 (by decide) w241 (fun _ h9 => h9) rfl dX10_copy_101 ?_
                    refine lv_iload hx hb dX10_copy_104 (lv_at hl 6 rfl) ?_
                    refine lv_iload hx hb dX10_copy_106 (lv_at hl 7 rfl) ?_
                    refine tz_copyl hx hb (by rw [hml]; exact hl.1.symm) hown hU w410 w348 w347 w75 hK hT hS 6 5 rfl rfl (by omega) (fun _ _ _ _ => trivial) (Nat.le_of_ble_eq_true rfl) (Nat.le_of_ble_eq_true rfl) dX10_copy_108 (fun H locs hT hS => ?_)
                    refine lv_iload hx hb dX10_copy_111 (lv_at hl 7 rfl) ?_
                    exact tz_retI (B := B_cX10_copy_694ba D k h0 h4 h17 h18 h19 h20 h37 h38 h39 h40 h1 h2 h3 h5 h6 h7 h8 h9 h10 h11 h12 x1 x2 x3 x4 x5 h0f2 h0f6 h0f8 h0f11 h17f0 h17f1 h18f0 h18f1 h19f0 h19f1 h20f0 h20f1) (v := x5) hQ hx hb hr hlocks hS (Nat.le_of_ble_eq_true rfl) (Nat.le_of_ble_eq_true rfl) dX10_copy_113 (⟨(by omega), (hT.sub [0, 1, 2, 9, 8, 3, 4, 5, 6, 7] (by decide) rfl)⟩)
              · skip
                have c_132 := ni_ne c_132 rfl rfl
                refine lv_bipush (v := (-13)) hx hb dX10_copy_64 (by decide) ?_
                exact tz_retI (B := B_cX10_copy_694ba D k h0 h4 h17 h18 h19 h20 h37 h38 h39 h40 h1 h2 h3 h5 h6 h7 h8 h9 h10 h11 h12 x1 x2 x3 x4 x5 h0f2 h0f6 h0f8 h0f11 h17f0 h17f1 h18f0 h18f1 h19f0 h19f1 h20f0 h20f1) (v := (-13)) hQ hx hb hr hlocks hS (Nat.le_of_ble_eq_true rfl) (Nat.le_of_ble_eq_true rfl) dX10_copy_66 (⟨(by have := li_m13; omega), (hT.sub [0, 1, 2, 9, 8, 3, 4, 5, 6, 7] (by decide) rfl)⟩)
            · skip
              have hT := J _ hT1
              have hT : TP D A [(h0, ob 7 [.ref h1, .ref h2, .int h0f2, .ref h3, .ref h4, .ref h5, .int h0f6, .ref h6, .int h0f8, .null, .ref h7, .int h0f11, .ref h8, .ref h9, .ref h10, .ref h11, .ref h12]), (h4, aQ (k 3) 4 (q4 h17 h18 h19 h20)), (h17, ob 5 [.int h17f0, .int h17f1, .ref h37]), (h20, ob 5 [.int h20f0, .int h20f1, .ref h40]), (h37, aJ (k 1) 40 anJ), (h38, aJ (k 1) 40 anJ), (h39, aJ (k 1) 40 anJ), (h40, aJ (k 1) 40 anJ), (h19, ob 5 [.int h19f0, .int h19f1, .ref h39]), (h18, ob 5 [.int h18f0, .int h18f1, .ref h38])] _ := hT
              refine lv_if_eq (tgt := 51) hx hb dX10_copy_45 (by decide) (fun cc => absurd cc (by decide +kernel)) (fun _ => ?_)
              refine lv_bipush (v := (-11)) hx hb dX10_copy_48 (by decide) ?_
              exact tz_retI (B := B_cX10_copy_694ba D k h0 h4 h17 h18 h19 h20 h37 h38 h39 h40 h1 h2 h3 h5 h6 h7 h8 h9 h10 h11 h12 x1 x2 x3 x4 x5 h0f2 h0f6 h0f8 h0f11 h17f0 h17f1 h18f0 h18f1 h19f0 h19f1 h20f0 h20f1) (v := (-11)) hQ hx hb hr hlocks hS (Nat.le_of_ble_eq_true rfl) (Nat.le_of_ble_eq_true rfl) dX10_copy_50 (⟨(by have := li_m11; omega), (hT.sub [0, 1, 2, 9, 8, 3, 4, 5, 6, 7] (by decide) rfl)⟩)
          · skip
            have hT := J _ hT1
            have hT : TP D A [(h0, ob 7 [.ref h1, .ref h2, .int h0f2, .ref h3, .ref h4, .ref h5, .int h0f6, .ref h6, .int h0f8, .null, .ref h7, .int h0f11, .ref h8, .ref h9, .ref h10, .ref h11, .ref h12]), (h4, aQ (k 3) 4 (q4 h17 h18 h19 h20)), (h17, ob 5 [.int h17f0, .int h17f1, .ref h37]), (h18, ob 5 [.int h18f0, .int h18f1, .ref h38]), (h20, ob 5 [.int h20f0, .int h20f1, .ref h40]), (h37, aJ (k 1) 40 anJ), (h38, aJ (k 1) 40 anJ), (h39, aJ (k 1) 40 anJ), (h40, aJ (k 1) 40 anJ), (h19, ob 5 [.int h19f0, .int h19f1, .ref h39])] _ := hT
            refine lv_if_ne (tgt := 48) hx hb dX10_copy_37 (by decide) (fun _ => ?_) (fun cc => absurd cc (by decide +kernel))
            refine lv_bipush (v := (-11)) hx hb dX10_copy_48 (by decide) ?_
            exact tz_retI (B := B_cX10_copy_694ba D k h0 h4 h17 h18 h19 h20 h37 h38 h39 h40 h1 h2 h3 h5 h6 h7 h8 h9 h10 h11 h12 x1 x2 x3 x4 x5 h0f2 h0f6 h0f8 h0f11 h17f0 h17f1 h18f0 h18f1 h19f0 h19f1 h20f0 h20f1) (v := (-11)) hQ hx hb hr hlocks hS (Nat.le_of_ble_eq_true rfl) (Nat.le_of_ble_eq_true rfl) dX10_copy_50 (⟨(by have := li_m11; omega), (hT.sub [0, 1, 2, 3, 9, 4, 5, 6, 7, 8] (by decide) rfl)⟩)
        · skip
          refine tz_aldq (b := h19) hx hb hK hT 1 rfl (vp_in_iff.mpr (by have := hq114; omega)) (fun f hf => by rw [cl_of hq114]; exact hf.2.2.1) dX10_copy_29 ?_
          refine lv_astore (lv' := [(7, .ref h19), (6, .ref h19), (0, .ref h0), (1, .int x1), (2, .int x2), (3, .int x3), (4, .int x4), (5, .int x5)]) hx hb dX10_copy_30 hl (by decide) rfl (fun ls hl => ?_)
          refine lv_aload hx hb dX10_copy_32 (lv_at hl 1 rfl) ?_
          refine tcI (Tc := [(h19, ob 5 [.int h19f0, .int h19f1, .ref h39])]) (Tr := [(h0, ob 7 [.ref h1, .ref h2, .int h0f2, .ref h3, .ref h4, .ref h5, .int h0f6, .ref h6, .int h0f8, .null, .ref h7, .int h0f11, .ref h8, .ref h9, .ref h10, .ref h11, .ref h12]), (h4, aQ (k 3) 4 (q4 h17 h18 h19 h20)), (h17, ob 5 [.int h17f0, .int h17f1, .ref h37]), (h18, ob 5 [.int h18f0, .int h18f1, .ref h38]), (h20, ob 5 [.int h20f0, .int h20f1, .ref h40]), (h37, aJ (k 1) 40 anJ), (h38, aJ (k 1) 40 anJ), (h39, aJ (k 1) 40 anJ), (h40, aJ (k 1) 40 anJ)]) (as := [h19]) (zcV (q0 := 4) (ci := 5) (As := []) (rest := []) (Tc := [(h19, ob 5 [.int h19f0, .int h19f1, .ref h39])]) hx hb hml hown hU hK hT rfl rfl [4] rfl (by decide) (cX6_isMissing_56a93 l D k _ h19 h39 h19f0 h19f1 (by omega) (by omega)) w644 w641 w642 w643 w71 hdX6_isMissing ⟨rfl, rfl⟩ ⟨Nat.le_of_ble_eq_true rfl, Nat.le_of_ble_eq_true rfl⟩ rfl hl.1 (Nat.le_of_ble_eq_true rfl) dX10_copy_34 ⟨Nat.le_of_ble_eq_true rfl, Nat.le_of_ble_eq_true rfl⟩) hT hS hA [4] [0, 1, 2, 3, 5, 6, 7, 8, 9] rfl rfl rfl (by decide) (by decide) (fun r141 H locs hB J hS => ?_)
          rcases hB with ⟨c_142, rfl, hT1⟩ | ⟨rfl, hT1⟩
          · skip
            have hT := J _ hT1
            have hT : TP D A [(h0, ob 7 [.ref h1, .ref h2, .int h0f2, .ref h3, .ref h4, .ref h5, .int h0f6, .ref h6, .int h0f8, .null, .ref h7, .int h0f11, .ref h8, .ref h9, .ref h10, .ref h11, .ref h12]), (h4, aQ (k 3) 4 (q4 h17 h18 h19 h20)), (h17, ob 5 [.int h17f0, .int h17f1, .ref h37]), (h18, ob 5 [.int h18f0, .int h18f1, .ref h38]), (h20, ob 5 [.int h20f0, .int h20f1, .ref h40]), (h37, aJ (k 1) 40 anJ), (h38, aJ (k 1) 40 anJ), (h39, aJ (k 1) 40 anJ), (h40, aJ (k 1) 40 anJ), (h19, ob 5 [.int h19f0, .int h19f1, .ref h39])] _ := hT
            refine lv_if_ne (tgt := 48) hx hb dX10_copy_37 (by decide) (fun cc => absurd (by decide +kernel) cc) (fun _ => ?_)
            refine lv_aload hx hb dX10_copy_40 (lv_at hl 0 rfl) ?_
            refine tcI (Tc := [(h19, ob 5 [.int h19f0, .int h19f1, .ref h39])]) (Tr := [(h0, ob 7 [.ref h1, .ref h2, .int h0f2, .ref h3, .ref h4, .ref h5, .int h0f6, .ref h6, .int h0f8, .null, .ref h7, .int h0f11, .ref h8, .ref h9, .ref h10, .ref h11, .ref h12]), (h4, aQ (k 3) 4 (q4 h17 h18 h19 h20)), (h17, ob 5 [.int h17f0, .int h17f1, .ref h37]), (h18, ob 5 [.int h18f0, .int h18f1, .ref h38]), (h20, ob 5 [.int h20f0, .int h20f1, .ref h40]), (h37, aJ (k 1) 40 anJ), (h38, aJ (k 1) 40 anJ), (h39, aJ (k 1) 40 anJ), (h40, aJ (k 1) 40 anJ)]) (as := [h19]) (zcV (q0 := 9) (ci := 5) (As := []) (rest := []) (Tc := [(h19, ob 5 [.int h19f0, .int h19f1, .ref h39])]) hx hb hml hown hU hK hT rfl rfl [9] rfl (by decide) (cX6_isMissing_56a93 l D k _ h19 h39 h19f0 h19f1 (by omega) (by omega)) w644 w641 w642 w643 w71 hdX6_isMissing ⟨rfl, rfl⟩ ⟨Nat.le_of_ble_eq_true rfl, Nat.le_of_ble_eq_true rfl⟩ rfl hl.1 (Nat.le_of_ble_eq_true rfl) dX10_copy_42 ⟨Nat.le_of_ble_eq_true rfl, Nat.le_of_ble_eq_true rfl⟩) hT hS hA [9] [0, 1, 2, 3, 4, 5, 6, 7, 8] rfl rfl rfl (by decide) (by decide) (fun r143 H locs hB J hS => ?_)
            rcases hB with ⟨c_144, rfl, hT1⟩ | ⟨rfl, hT1⟩
            · skip
              have hT := J _ hT1
              have hT : TP D A [(h0, ob 7 [.ref h1, .ref h2, .int h0f2, .ref h3, .ref h4, .ref h5, .int h0f6, .ref h6, .int h0f8, .null, .ref h7, .int h0f11, .ref h8, .ref h9, .ref h10, .ref h11, .ref h12]), (h4, aQ (k 3) 4 (q4 h17 h18 h19 h20)), (h17, ob 5 [.int h17f0, .int h17f1, .ref h37]), (h18, ob 5 [.int h18f0, .int h18f1, .ref h38]), (h20, ob 5 [.int h20f0, .int h20f1, .ref h40]), (h37, aJ (k 1) 40 anJ), (h38, aJ (k 1) 40 anJ), (h39, aJ (k 1) 40 anJ), (h40, aJ (k 1) 40 anJ), (h19, ob 5 [.int h19f0, .int h19f1, .ref h39])] _ := hT
              refine lv_if_eq (tgt := 51) hx hb dX10_copy_45 (by decide) (fun _ => ?_) (fun cc => absurd (by decide +kernel) cc)
              refine lv_aload hx hb dX10_copy_51 (lv_at hl 1 rfl) ?_
              refine tz_get (ci := 5) (v := .int h19f0) (C := RX6) (F := TX6) (N := 3) hx hb hU iX6 hown hK hT 9 rfl rfl 0 (by decide) w238 (fun _ h9 => h9) rfl dX10_copy_53 ?_
              refine lv_aload hx hb dX10_copy_56 (lv_at hl 0 rfl) ?_
              refine tz_get (ci := 5) (v := .int h19f0) (C := RX6) (F := TX6) (N := 3) hx hb hU iX6 hown hK hT 9 rfl rfl 0 (by decide) w238 (fun _ h9 => h9) rfl dX10_copy_58 ?_
              refine lv_icmp_eq (tgt := 67) hx hb dX10_copy_61 (by decide) (fun c_145 => ?_) (fun c_145 => ?_)
              · skip
                have c_145 := ni_eq c_145 rfl rfl
                refine lv_aload hx hb dX10_copy_67 (lv_at hl 1 rfl) ?_
                refine lv_iload_n hx hb dX10_copy_69 rfl (lv_at hl 4 rfl) ?_
                refine lv_iload hx hb dX10_copy_70 (lv_at hl 7 rfl) ?_
                refine tcI (Tc := [(h19, ob 5 [.int h19f0, .int h19f1, .ref h39])]) (Tr := [(h0, ob 7 [.ref h1, .ref h2, .int h0f2, .ref h3, .ref h4, .ref h5, .int h0f6, .ref h6, .int h0f8, .null, .ref h7, .int h0f11, .ref h8, .ref h9, .ref h10, .ref h11, .ref h12]), (h4, aQ (k 3) 4 (q4 h17 h18 h19 h20)), (h17, ob 5 [.int h17f0, .int h17f1, .ref h37]), (h18, ob 5 [.int h18f0, .int h18f1, .ref h38]), (h20, ob 5 [.int h20f0, .int h20f1, .ref h40]), (h37, aJ (k 1) 40 anJ), (h38, aJ (k 1) 40 anJ), (h39, aJ (k 1) 40 anJ), (h40, aJ (k 1) 40 anJ)]) (as := [h19]) (zcV (q0 := 9) (ci := 5) (As := [.int x2, .int x5]) (rest := []) (Tc := [(h19, ob 5 [.int h19f0, .int h19f1, .ref h39])]) hx hb hml hown hU hK hT rfl rfl [9] rfl (by decide) (cX6_isOutside_cc85b l D k _ h19 h39 x2 x5 h19f0 h19f1 (by omega) (by omega)) w648 w645 w646 w647 w71 hdX6_isOutside ⟨rfl, rfl⟩ ⟨Nat.le_of_ble_eq_true rfl, Nat.le_of_ble_eq_true rfl⟩ rfl hl.1 (Nat.le_of_ble_eq_true rfl) dX10_copy_72 ⟨Nat.le_of_ble_eq_true rfl, Nat.le_of_ble_eq_true rfl⟩) hT hS hA [9] [0, 1, 2, 3, 4, 5, 6, 7, 8] rfl rfl rfl (by decide) (by decide) (fun r146 H locs hB J hS => ?_)
                rcases hB with ⟨rfl, hT1⟩ | ⟨c_147, c_148, c_149, rfl, hT1⟩
                · skip
                  have hT := J _ hT1
                  have hT : TP D A [(h0, ob 7 [.ref h1, .ref h2, .int h0f2, .ref h3, .ref h4, .ref h5, .int h0f6, .ref h6, .int h0f8, .null, .ref h7, .int h0f11, .ref h8, .ref h9, .ref h10, .ref h11, .ref h12]), (h4, aQ (k 3) 4 (q4 h17 h18 h19 h20)), (h17, ob 5 [.int h17f0, .int h17f1, .ref h37]), (h18, ob 5 [.int h18f0, .int h18f1, .ref h38]), (h20, ob 5 [.int h20f0, .int h20f1, .ref h40]), (h37, aJ (k 1) 40 anJ), (h38, aJ (k 1) 40 anJ), (h39, aJ (k 1) 40 anJ), (h40, aJ (k 1) 40 anJ), (h19, ob 5 [.int h19f0, .int h19f1, .ref h39])] _ := hT
                  refine lv_if_ne (tgt := 90) hx hb dX10_copy_75 (by decide) (fun _ => ?_) (fun cc => absurd cc (by decide +kernel))
                  refine lv_bipush (v := (-12)) hx hb dX10_copy_90 (by decide) ?_
                  exact tz_retI (B := B_cX10_copy_694ba D k h0 h4 h17 h18 h19 h20 h37 h38 h39 h40 h1 h2 h3 h5 h6 h7 h8 h9 h10 h11 h12 x1 x2 x3 x4 x5 h0f2 h0f6 h0f8 h0f11 h17f0 h17f1 h18f0 h18f1 h19f0 h19f1 h20f0 h20f1) (v := (-12)) hQ hx hb hr hlocks hS (Nat.le_of_ble_eq_true rfl) (Nat.le_of_ble_eq_true rfl) dX10_copy_92 (⟨(by have := li_m12; omega), (hT.sub [0, 1, 2, 3, 9, 4, 5, 6, 7, 8] (by decide) rfl)⟩)
                · skip
                  have hT := J _ hT1
                  have hT : TP D A [(h0, ob 7 [.ref h1, .ref h2, .int h0f2, .ref h3, .ref h4, .ref h5, .int h0f6, .ref h6, .int h0f8, .null, .ref h7, .int h0f11, .ref h8, .ref h9, .ref h10, .ref h11, .ref h12]), (h4, aQ (k 3) 4 (q4 h17 h18 h19 h20)), (h17, ob 5 [.int h17f0, .int h17f1, .ref h37]), (h18, ob 5 [.int h18f0, .int h18f1, .ref h38]), (h20, ob 5 [.int h20f0, .int h20f1, .ref h40]), (h37, aJ (k 1) 40 anJ), (h38, aJ (k 1) 40 anJ), (h39, aJ (k 1) 40 anJ), (h40, aJ (k 1) 40 anJ), (h19, ob 5 [.int h19f0, .int h19f1, .ref h39])] _ := hT
                  refine lv_if_ne (tgt := 90) hx hb dX10_copy_75 (by decide) (fun cc => absurd (by decide +kernel) cc) (fun _ => ?_)
                  refine lv_aload hx hb dX10_copy_78 (lv_at hl 0 rfl) ?_
                  refine lv_iload hx hb dX10_copy_80 (lv_at hl 6 rfl) ?_
                  refine lv_iload hx hb dX10_copy_82 (lv_at hl 7 rfl) ?_
                  refine tcI (Tc := [(h19, ob 5 [.int h19f0, .int h19f1, .ref h39])]) (Tr := [(h0, ob 7 [.ref h1, .ref h2, .int h0f2, .ref h3, .ref h4, .ref h5, .int h0f6, .ref h6, .int h0f8, .null, .ref h7, .int h0f11, .ref h8, .ref h9, .ref h10, .ref h11, .ref h12]), (h4, aQ (k 3) 4 (q4 h17 h18 h19 h20)), (h17, ob 5 [.int h17f0, .int h17f1, .ref h37]), (h18, ob 5 [.int h18f0, .int h18f1, .ref h38]), (h20, ob 5 [.int h20f0, .int h20f1, .ref h40]), (h37, aJ (k 1) 40 anJ), (h38, aJ (k 1) 40 anJ), (h39, aJ (k 1) 40 anJ), (h40, aJ (k 1) 40 anJ)]) (as := [h19]) (zcV (q0 := 9) (ci := 5) (As := [.int x4, .int x5]) (rest := []) (Tc := [(h19, ob 5 [.int h19f0, .int h19f1, .ref h39])]) hx hb hml hown hU hK hT rfl rfl [9] rfl (by decide) (cX6_isOutside_cc85b l D k _ h19 h39 x4 x5 h19f0 h19f1 (by omega) (by omega)) w648 w645 w646 w647 w71 hdX6_isOutside ⟨rfl, rfl⟩ ⟨Nat.le_of_ble_eq_true rfl, Nat.le_of_ble_eq_true rfl⟩ rfl hl.1 (Nat.le_of_ble_eq_true rfl) dX10_copy_84 ⟨Nat.le_of_ble_eq_true rfl, Nat.le_of_ble_eq_true rfl⟩) hT hS hA [9] [0, 1, 2, 3, 4, 5, 6, 7, 8] rfl rfl rfl (by decide) (by decide) (fun r150 H locs hB J hS => ?_)
                  rcases hB with ⟨rfl, hT1⟩ | ⟨c_151, c_152, c_153, rfl, hT1⟩
                  · skip
                    have hT := J _ hT1
                    have hT : TP D A [(h0, ob 7 [.ref h1, .ref h2, .int h0f2, .ref h3, .ref h4, .ref h5, .int h0f6, .ref h6, .int h0f8, .null, .ref h7, .int h0f11, .ref h8, .ref h9, .ref h10, .ref h11, .ref h12]), (h4, aQ (k 3) 4 (q4 h17 h18 h19 h20)), (h17, ob 5 [.int h17f0, .int h17f1, .ref h37]), (h18, ob 5 [.int h18f0, .int h18f1, .ref h38]), (h20, ob 5 [.int h20f0, .int h20f1, .ref h40]), (h37, aJ (k 1) 40 anJ), (h38, aJ (k 1) 40 anJ), (h39, aJ (k 1) 40 anJ), (h40, aJ (k 1) 40 anJ), (h19, ob 5 [.int h19f0, .int h19f1, .ref h39])] _ := hT
                    refine lv_if_eq (tgt := 93) hx hb dX10_copy_87 (by decide) (fun cc => absurd cc (by decide +kernel)) (fun _ => ?_)
                    refine lv_bipush (v := (-12)) hx hb dX10_copy_90 (by decide) ?_
                    exact tz_retI (B := B_cX10_copy_694ba D k h0 h4 h17 h18 h19 h20 h37 h38 h39 h40 h1 h2 h3 h5 h6 h7 h8 h9 h10 h11 h12 x1 x2 x3 x4 x5 h0f2 h0f6 h0f8 h0f11 h17f0 h17f1 h18f0 h18f1 h19f0 h19f1 h20f0 h20f1) (v := (-12)) hQ hx hb hr hlocks hS (Nat.le_of_ble_eq_true rfl) (Nat.le_of_ble_eq_true rfl) dX10_copy_92 (⟨(by have := li_m12; omega), (hT.sub [0, 1, 2, 3, 9, 4, 5, 6, 7, 8] (by decide) rfl)⟩)
                  · skip
                    have hT := J _ hT1
                    have hT : TP D A [(h0, ob 7 [.ref h1, .ref h2, .int h0f2, .ref h3, .ref h4, .ref h5, .int h0f6, .ref h6, .int h0f8, .null, .ref h7, .int h0f11, .ref h8, .ref h9, .ref h10, .ref h11, .ref h12]), (h4, aQ (k 3) 4 (q4 h17 h18 h19 h20)), (h17, ob 5 [.int h17f0, .int h17f1, .ref h37]), (h18, ob 5 [.int h18f0, .int h18f1, .ref h38]), (h20, ob 5 [.int h20f0, .int h20f1, .ref h40]), (h37, aJ (k 1) 40 anJ), (h38, aJ (k 1) 40 anJ), (h39, aJ (k 1) 40 anJ), (h40, aJ (k 1) 40 anJ), (h19, ob 5 [.int h19f0, .int h19f1, .ref h39])] _ := hT
                    refine lv_if_eq (tgt := 93) hx hb dX10_copy_87 (by decide) (fun _ => ?_) (fun cc => absurd (by decide +kernel) cc)
                    refine lv_aload hx hb dX10_copy_93 (lv_at hl 1 rfl) ?_
                    refine tz_get (ci := 5) (v := .ref h39) (C := RX6) (F := TX6) (N := 3) hx hb hU iX6 hown hK hT 9 rfl rfl 2 (by decide) w241 (fun _ h9 => h9) rfl dX10_copy_95 ?_
                    refine lv_iload_n hx hb dX10_copy_98 rfl (lv_at hl 4 rfl) ?_
                    refine lv_aload hx hb dX10_copy_99 (lv_at hl 0 rfl) ?_
                    refine tz_get (ci := 5) (v := .ref h39) (C := RX6) (F := TX6) (N := 3) hx hb hU iX6 hown hK hT 9 rfl rfl 2 (by decide) w241 (fun _ h9 => h9) rfl dX10_copy_101 ?_
                    refine lv_iload hx hb dX10_copy_104 (lv_at hl 6 rfl) ?_
                    refine lv_iload hx hb dX10_copy_106 (lv_at hl 7 rfl) ?_
                    refine tz_copyl hx hb (by rw [hml]; exact hl.1.symm) hown hU w410 w348 w347 w75 hK hT hS 7 7 rfl rfl (by omega) (fun _ _ _ _ => trivial) (Nat.le_of_ble_eq_true rfl) (Nat.le_of_ble_eq_true rfl) dX10_copy_108 (fun H locs hT hS => ?_)
                    refine lv_iload hx hb dX10_copy_111 (lv_at hl 7 rfl) ?_
                    exact tz_retI (B := B_cX10_copy_694ba D k h0 h4 h17 h18 h19 h20 h37 h38 h39 h40 h1 h2 h3 h5 h6 h7 h8 h9 h10 h11 h12 x1 x2 x3 x4 x5 h0f2 h0f6 h0f8 h0f11 h17f0 h17f1 h18f0 h18f1 h19f0 h19f1 h20f0 h20f1) (v := x5) hQ hx hb hr hlocks hS (Nat.le_of_ble_eq_true rfl) (Nat.le_of_ble_eq_true rfl) dX10_copy_113 (⟨(by omega), (hT.sub [0, 1, 2, 3, 9, 4, 5, 6, 7, 8] (by decide) rfl)⟩)
              · skip
                have c_145 := ni_ne c_145 rfl rfl
                exfalso; omega
            · skip
              have hT := J _ hT1
              have hT : TP D A [(h0, ob 7 [.ref h1, .ref h2, .int h0f2, .ref h3, .ref h4, .ref h5, .int h0f6, .ref h6, .int h0f8, .null, .ref h7, .int h0f11, .ref h8, .ref h9, .ref h10, .ref h11, .ref h12]), (h4, aQ (k 3) 4 (q4 h17 h18 h19 h20)), (h17, ob 5 [.int h17f0, .int h17f1, .ref h37]), (h18, ob 5 [.int h18f0, .int h18f1, .ref h38]), (h20, ob 5 [.int h20f0, .int h20f1, .ref h40]), (h37, aJ (k 1) 40 anJ), (h38, aJ (k 1) 40 anJ), (h39, aJ (k 1) 40 anJ), (h40, aJ (k 1) 40 anJ), (h19, ob 5 [.int h19f0, .int h19f1, .ref h39])] _ := hT
              refine lv_if_eq (tgt := 51) hx hb dX10_copy_45 (by decide) (fun cc => absurd cc (by decide +kernel)) (fun _ => ?_)
              refine lv_bipush (v := (-11)) hx hb dX10_copy_48 (by decide) ?_
              exact tz_retI (B := B_cX10_copy_694ba D k h0 h4 h17 h18 h19 h20 h37 h38 h39 h40 h1 h2 h3 h5 h6 h7 h8 h9 h10 h11 h12 x1 x2 x3 x4 x5 h0f2 h0f6 h0f8 h0f11 h17f0 h17f1 h18f0 h18f1 h19f0 h19f1 h20f0 h20f1) (v := (-11)) hQ hx hb hr hlocks hS (Nat.le_of_ble_eq_true rfl) (Nat.le_of_ble_eq_true rfl) dX10_copy_50 (⟨(by have := li_m11; omega), (hT.sub [0, 1, 2, 3, 9, 4, 5, 6, 7, 8] (by decide) rfl)⟩)
          · skip
            have hT := J _ hT1
            have hT : TP D A [(h0, ob 7 [.ref h1, .ref h2, .int h0f2, .ref h3, .ref h4, .ref h5, .int h0f6, .ref h6, .int h0f8, .null, .ref h7, .int h0f11, .ref h8, .ref h9, .ref h10, .ref h11, .ref h12]), (h4, aQ (k 3) 4 (q4 h17 h18 h19 h20)), (h17, ob 5 [.int h17f0, .int h17f1, .ref h37]), (h18, ob 5 [.int h18f0, .int h18f1, .ref h38]), (h20, ob 5 [.int h20f0, .int h20f1, .ref h40]), (h37, aJ (k 1) 40 anJ), (h38, aJ (k 1) 40 anJ), (h39, aJ (k 1) 40 anJ), (h40, aJ (k 1) 40 anJ), (h19, ob 5 [.int h19f0, .int h19f1, .ref h39])] _ := hT
            refine lv_if_ne (tgt := 48) hx hb dX10_copy_37 (by decide) (fun _ => ?_) (fun cc => absurd cc (by decide +kernel))
            refine lv_bipush (v := (-11)) hx hb dX10_copy_48 (by decide) ?_
            exact tz_retI (B := B_cX10_copy_694ba D k h0 h4 h17 h18 h19 h20 h37 h38 h39 h40 h1 h2 h3 h5 h6 h7 h8 h9 h10 h11 h12 x1 x2 x3 x4 x5 h0f2 h0f6 h0f8 h0f11 h17f0 h17f1 h18f0 h18f1 h19f0 h19f1 h20f0 h20f1) (v := (-11)) hQ hx hb hr hlocks hS (Nat.le_of_ble_eq_true rfl) (Nat.le_of_ble_eq_true rfl) dX10_copy_50 (⟨(by have := li_m11; omega), (hT.sub [0, 1, 2, 3, 9, 4, 5, 6, 7, 8] (by decide) rfl)⟩)
        · skip
          refine tz_aldq (b := h20) hx hb hK hT 1 rfl (vp_in_iff.mpr (by have := hq114; omega)) (fun f hf => by rw [cl_of hq114]; exact hf.2.2.2) dX10_copy_29 ?_
          refine lv_astore (lv' := [(7, .ref h20), (6, .ref h19), (0, .ref h0), (1, .int x1), (2, .int x2), (3, .int x3), (4, .int x4), (5, .int x5)]) hx hb dX10_copy_30 hl (by decide) rfl (fun ls hl => ?_)
          refine lv_aload hx hb dX10_copy_32 (lv_at hl 1 rfl) ?_
          refine tcI (Tc := [(h19, ob 5 [.int h19f0, .int h19f1, .ref h39])]) (Tr := [(h0, ob 7 [.ref h1, .ref h2, .int h0f2, .ref h3, .ref h4, .ref h5, .int h0f6, .ref h6, .int h0f8, .null, .ref h7, .int h0f11, .ref h8, .ref h9, .ref h10, .ref h11, .ref h12]), (h4, aQ (k 3) 4 (q4 h17 h18 h19 h20)), (h17, ob 5 [.int h17f0, .int h17f1, .ref h37]), (h18, ob 5 [.int h18f0, .int h18f1, .ref h38]), (h20, ob 5 [.int h20f0, .int h20f1, .ref h40]), (h37, aJ (k 1) 40 anJ), (h38, aJ (k 1) 40 anJ), (h39, aJ (k 1) 40 anJ), (h40, aJ (k 1) 40 anJ)]) (as := [h19]) (zcV (q0 := 4) (ci := 5) (As := []) (rest := []) (Tc := [(h19, ob 5 [.int h19f0, .int h19f1, .ref h39])]) hx hb hml hown hU hK hT rfl rfl [4] rfl (by decide) (cX6_isMissing_56a93 l D k _ h19 h39 h19f0 h19f1 (by omega) (by omega)) w644 w641 w642 w643 w71 hdX6_isMissing ⟨rfl, rfl⟩ ⟨Nat.le_of_ble_eq_true rfl, Nat.le_of_ble_eq_true rfl⟩ rfl hl.1 (Nat.le_of_ble_eq_true rfl) dX10_copy_34 ⟨Nat.le_of_ble_eq_true rfl, Nat.le_of_ble_eq_true rfl⟩) hT hS hA [4] [0, 1, 2, 3, 5, 6, 7, 8, 9] rfl rfl rfl (by decide) (by decide) (fun r154 H locs hB J hS => ?_)
          rcases hB with ⟨c_155, rfl, hT1⟩ | ⟨rfl, hT1⟩
          · skip
            have hT := J _ hT1
            have hT : TP D A [(h0, ob 7 [.ref h1, .ref h2, .int h0f2, .ref h3, .ref h4, .ref h5, .int h0f6, .ref h6, .int h0f8, .null, .ref h7, .int h0f11, .ref h8, .ref h9, .ref h10, .ref h11, .ref h12]), (h4, aQ (k 3) 4 (q4 h17 h18 h19 h20)), (h17, ob 5 [.int h17f0, .int h17f1, .ref h37]), (h18, ob 5 [.int h18f0, .int h18f1, .ref h38]), (h20, ob 5 [.int h20f0, .int h20f1, .ref h40]), (h37, aJ (k 1) 40 anJ), (h38, aJ (k 1) 40 anJ), (h39, aJ (k 1) 40 anJ), (h40, aJ (k 1) 40 anJ), (h19, ob 5 [.int h19f0, .int h19f1, .ref h39])] _ := hT
            refine lv_if_ne (tgt := 48) hx hb dX10_copy_37 (by decide) (fun cc => absurd (by decide +kernel) cc) (fun _ => ?_)
            refine lv_aload hx hb dX10_copy_40 (lv_at hl 0 rfl) ?_
            refine tcI (Tc := [(h20, ob 5 [.int h20f0, .int h20f1, .ref h40])]) (Tr := [(h0, ob 7 [.ref h1, .ref h2, .int h0f2, .ref h3, .ref h4, .ref h5, .int h0f6, .ref h6, .int h0f8, .null, .ref h7, .int h0f11, .ref h8, .ref h9, .ref h10, .ref h11, .ref h12]), (h4, aQ (k 3) 4 (q4 h17 h18 h19 h20)), (h17, ob 5 [.int h17f0, .int h17f1, .ref h37]), (h18, ob 5 [.int h18f0, .int h18f1, .ref h38]), (h37, aJ (k 1) 40 anJ), (h38, aJ (k 1) 40 anJ), (h39, aJ (k 1) 40 anJ), (h40, aJ (k 1) 40 anJ), (h19, ob 5 [.int h19f0, .int h19f1, .ref h39])]) (as := [h20]) (zcV (q0 := 4) (ci := 5) (As := []) (rest := []) (Tc := [(h20, ob 5 [.int h20f0, .int h20f1, .ref h40])]) hx hb hml hown hU hK hT rfl rfl [4] rfl (by decide) (cX6_isMissing_56a93 l D k _ h20 h40 h20f0 h20f1 (by omega) (by omega)) w644 w641 w642 w643 w71 hdX6_isMissing ⟨rfl, rfl⟩ ⟨Nat.le_of_ble_eq_true rfl, Nat.le_of_ble_eq_true rfl⟩ rfl hl.1 (Nat.le_of_ble_eq_true rfl) dX10_copy_42 ⟨Nat.le_of_ble_eq_true rfl, Nat.le_of_ble_eq_true rfl⟩) hT hS hA [4] [0, 1, 2, 3, 5, 6, 7, 8, 9] rfl rfl rfl (by decide) (by decide) (fun r156 H locs hB J hS => ?_)
            rcases hB with ⟨c_157, rfl, hT1⟩ | ⟨rfl, hT1⟩
            · skip
              have hT := J _ hT1
              have hT : TP D A [(h0, ob 7 [.ref h1, .ref h2, .int h0f2, .ref h3, .ref h4, .ref h5, .int h0f6, .ref h6, .int h0f8, .null, .ref h7, .int h0f11, .ref h8, .ref h9, .ref h10, .ref h11, .ref h12]), (h4, aQ (k 3) 4 (q4 h17 h18 h19 h20)), (h17, ob 5 [.int h17f0, .int h17f1, .ref h37]), (h18, ob 5 [.int h18f0, .int h18f1, .ref h38]), (h37, aJ (k 1) 40 anJ), (h38, aJ (k 1) 40 anJ), (h39, aJ (k 1) 40 anJ), (h40, aJ (k 1) 40 anJ), (h19, ob 5 [.int h19f0, .int h19f1, .ref h39]), (h20, ob 5 [.int h20f0, .int h20f1, .ref h40])] _ := hT
              refine lv_if_eq (tgt := 51) hx hb dX10_copy_45 (by decide) (fun _ => ?_) (fun cc => absurd (by decide +kernel) cc)
              refine lv_aload hx hb dX10_copy_51 (lv_at hl 1 rfl) ?_
              refine tz_get (ci := 5) (v := .int h19f0) (C := RX6) (F := TX6) (N := 3) hx hb hU iX6 hown hK hT 8 rfl rfl 0 (by decide) w238 (fun _ h9 => h9) rfl dX10_copy_53 ?_
              refine lv_aload hx hb dX10_copy_56 (lv_at hl 0 rfl) ?_
              refine tz_get (ci := 5) (v := .int h20f0) (C := RX6) (F := TX6) (N := 3) hx hb hU iX6 hown hK hT 9 rfl rfl 0 (by decide) w238 (fun _ h9 => h9) rfl dX10_copy_58 ?_
              refine lv_icmp_eq (tgt := 67) hx hb dX10_copy_61 (by decide) (fun c_158 => ?_) (fun c_158 => ?_)
              · skip
                have c_158 := ni_eq c_158 rfl rfl
                refine lv_aload hx hb dX10_copy_67 (lv_at hl 1 rfl) ?_
                refine lv_iload_n hx hb dX10_copy_69 rfl (lv_at hl 4 rfl) ?_
                refine lv_iload hx hb dX10_copy_70 (lv_at hl 7 rfl) ?_
                refine tcI (Tc := [(h19, ob 5 [.int h19f0, .int h19f1, .ref h39])]) (Tr := [(h0, ob 7 [.ref h1, .ref h2, .int h0f2, .ref h3, .ref h4, .ref h5, .int h0f6, .ref h6, .int h0f8, .null, .ref h7, .int h0f11, .ref h8, .ref h9, .ref h10, .ref h11, .ref h12]), (h4, aQ (k 3) 4 (q4 h17 h18 h19 h20)), (h17, ob 5 [.int h17f0, .int h17f1, .ref h37]), (h18, ob 5 [.int h18f0, .int h18f1, .ref h38]), (h37, aJ (k 1) 40 anJ), (h38, aJ (k 1) 40 anJ), (h39, aJ (k 1) 40 anJ), (h40, aJ (k 1) 40 anJ), (h20, ob 5 [.int h20f0, .int h20f1, .ref h40])]) (as := [h19]) (zcV (q0 := 8) (ci := 5) (As := [.int x2, .int x5]) (rest := []) (Tc := [(h19, ob 5 [.int h19f0, .int h19f1, .ref h39])]) hx hb hml hown hU hK hT rfl rfl [8] rfl (by decide) (cX6_isOutside_cc85b l D k _ h19 h39 x2 x5 h19f0 h19f1 (by omega) (by omega)) w648 w645 w646 w647 w71 hdX6_isOutside ⟨rfl, rfl⟩ ⟨Nat.le_of_ble_eq_true rfl, Nat.le_of_ble_eq_true rfl⟩ rfl hl.1 (Nat.le_of_ble_eq_true rfl) dX10_copy_72 ⟨Nat.le_of_ble_eq_true rfl, Nat.le_of_ble_eq_true rfl⟩) hT hS hA [8] [0, 1, 2, 3, 4, 5, 6, 7, 9] rfl rfl rfl (by decide) (by decide) (fun r159 H locs hB J hS => ?_)
                rcases hB with ⟨rfl, hT1⟩ | ⟨c_160, c_161, c_162, rfl, hT1⟩
                · skip
                  have hT := J _ hT1
                  have hT : TP D A [(h0, ob 7 [.ref h1, .ref h2, .int h0f2, .ref h3, .ref h4, .ref h5, .int h0f6, .ref h6, .int h0f8, .null, .ref h7, .int h0f11, .ref h8, .ref h9, .ref h10, .ref h11, .ref h12]), (h4, aQ (k 3) 4 (q4 h17 h18 h19 h20)), (h17, ob 5 [.int h17f0, .int h17f1, .ref h37]), (h18, ob 5 [.int h18f0, .int h18f1, .ref h38]), (h37, aJ (k 1) 40 anJ), (h38, aJ (k 1) 40 anJ), (h39, aJ (k 1) 40 anJ), (h40, aJ (k 1) 40 anJ), (h20, ob 5 [.int h20f0, .int h20f1, .ref h40]), (h19, ob 5 [.int h19f0, .int h19f1, .ref h39])] _ := hT
                  refine lv_if_ne (tgt := 90) hx hb dX10_copy_75 (by decide) (fun _ => ?_) (fun cc => absurd cc (by decide +kernel))
                  refine lv_bipush (v := (-12)) hx hb dX10_copy_90 (by decide) ?_
                  exact tz_retI (B := B_cX10_copy_694ba D k h0 h4 h17 h18 h19 h20 h37 h38 h39 h40 h1 h2 h3 h5 h6 h7 h8 h9 h10 h11 h12 x1 x2 x3 x4 x5 h0f2 h0f6 h0f8 h0f11 h17f0 h17f1 h18f0 h18f1 h19f0 h19f1 h20f0 h20f1) (v := (-12)) hQ hx hb hr hlocks hS (Nat.le_of_ble_eq_true rfl) (Nat.le_of_ble_eq_true rfl) dX10_copy_92 (⟨(by have := li_m12; omega), (hT.sub [0, 1, 2, 3, 9, 8, 4, 5, 6, 7] (by decide) rfl)⟩)
                · skip
                  have hT := J _ hT1
                  have hT : TP D A [(h0, ob 7 [.ref h1, .ref h2, .int h0f2, .ref h3, .ref h4, .ref h5, .int h0f6, .ref h6, .int h0f8, .null, .ref h7, .int h0f11, .ref h8, .ref h9, .ref h10, .ref h11, .ref h12]), (h4, aQ (k 3) 4 (q4 h17 h18 h19 h20)), (h17, ob 5 [.int h17f0, .int h17f1, .ref h37]), (h18, ob 5 [.int h18f0, .int h18f1, .ref h38]), (h37, aJ (k 1) 40 anJ), (h38, aJ (k 1) 40 anJ), (h39, aJ (k 1) 40 anJ), (h40, aJ (k 1) 40 anJ), (h20, ob 5 [.int h20f0, .int h20f1, .ref h40]), (h19, ob 5 [.int h19f0, .int h19f1, .ref h39])] _ := hT
                  refine lv_if_ne (tgt := 90) hx hb dX10_copy_75 (by decide) (fun cc => absurd (by decide +kernel) cc) (fun _ => ?_)
                  refine lv_aload hx hb dX10_copy_78 (lv_at hl 0 rfl) ?_
                  refine lv_iload hx hb dX10_copy_80 (lv_at hl 6 rfl) ?_
                  refine lv_iload hx hb dX10_copy_82 (lv_at hl 7 rfl) ?_
                  refine tcI (Tc := [(h20, ob 5 [.int h20f0, .int h20f1, .ref h40])]) (Tr := [(h0, ob 7 [.ref h1, .ref h2, .int h0f2, .ref h3, .ref h4, .ref h5, .int h0f6, .ref h6, .int h0f8, .null, .ref h7, .int h0f11, .ref h8, .ref h9, .ref h10, .ref h11, .ref h12]), (h4, aQ (k 3) 4 (q4 h17 h18 h19 h20)), (h17, ob 5 [.int h17f0, .int h17f1, .ref h37]), (h18, ob 5 [.int h18f0, .int h18f1, .ref h38]), (h37, aJ (k 1) 40 anJ), (h38, aJ (k 1) 40 anJ), (h39, aJ (k 1) 40 anJ), (h40, aJ (k 1) 40 anJ), (h19, ob 5 [.int h19f0, .int h19f1, .ref h39])]) (as := [h20]) (zcV (q0 := 8) (ci := 5) (As := [.int x4, .int x5]) (rest := []) (Tc := [(h20, ob 5 [.int h20f0, .int h20f1, .ref h40])]) hx hb hml hown hU hK hT rfl rfl [8] rfl (by decide) (cX6_isOutside_cc85b l D k _ h20 h40 x4 x5 h20f0 h20f1 (by omega) (by omega)) w648 w645 w646 w647 w71 hdX6_isOutside ⟨rfl, rfl⟩ ⟨Nat.le_of_ble_eq_true rfl, Nat.le_of_ble_eq_true rfl⟩ rfl hl.1 (Nat.le_of_ble_eq_true rfl) dX10_copy_84 ⟨Nat.le_of_ble_eq_true rfl, Nat.le_of_ble_eq_true rfl⟩) hT hS hA [8] [0, 1, 2, 3, 4, 5, 6, 7, 9] rfl rfl rfl (by decide) (by decide) (fun r163 H locs hB J hS => ?_)
                  rcases hB with ⟨rfl, hT1⟩ | ⟨c_164, c_165, c_166, rfl, hT1⟩
                  · skip
                    have hT := J _ hT1
                    have hT : TP D A [(h0, ob 7 [.ref h1, .ref h2, .int h0f2, .ref h3, .ref h4, .ref h5, .int h0f6, .ref h6, .int h0f8, .null, .ref h7, .int h0f11, .ref h8, .ref h9, .ref h10, .ref h11, .ref h12]), (h4, aQ (k 3) 4 (q4 h17 h18 h19 h20)), (h17, ob 5 [.int h17f0, .int h17f1, .ref h37]), (h18, ob 5 [.int h18f0, .int h18f1, .ref h38]), (h37, aJ (k 1) 40 anJ), (h38, aJ (k 1) 40 anJ), (h39, aJ (k 1) 40 anJ), (h40, aJ (k 1) 40 anJ), (h19, ob 5 [.int h19f0, .int h19f1, .ref h39]), (h20, ob 5 [.int h20f0, .int h20f1, .ref h40])] _ := hT
                    refine lv_if_eq (tgt := 93) hx hb dX10_copy_87 (by decide) (fun cc => absurd cc (by decide +kernel)) (fun _ => ?_)
                    refine lv_bipush (v := (-12)) hx hb dX10_copy_90 (by decide) ?_
                    exact tz_retI (B := B_cX10_copy_694ba D k h0 h4 h17 h18 h19 h20 h37 h38 h39 h40 h1 h2 h3 h5 h6 h7 h8 h9 h10 h11 h12 x1 x2 x3 x4 x5 h0f2 h0f6 h0f8 h0f11 h17f0 h17f1 h18f0 h18f1 h19f0 h19f1 h20f0 h20f1) (v := (-12)) hQ hx hb hr hlocks hS (Nat.le_of_ble_eq_true rfl) (Nat.le_of_ble_eq_true rfl) dX10_copy_92 (⟨(by have := li_m12; omega), (hT.sub [0, 1, 2, 3, 8, 9, 4, 5, 6, 7] (by decide) rfl)⟩)
                  · skip
                    have hT := J _ hT1
                    have hT : TP D A [(h0, ob 7 [.ref h1, .ref h2, .int h0f2, .ref h3, .ref h4, .ref h5, .int h0f6, .ref h6, .int h0f8, .null, .ref h7, .int h0f11, .ref h8, .ref h9, .ref h10, .ref h11, .ref h12]), (h4, aQ (k 3) 4 (q4 h17 h18 h19 h20)), (h17, ob 5 [.int h17f0, .int h17f1, .ref h37]), (h18, ob 5 [.int h18f0, .int h18f1, .ref h38]), (h37, aJ (k 1) 40 anJ), (h38, aJ (k 1) 40 anJ), (h39, aJ (k 1) 40 anJ), (h40, aJ (k 1) 40 anJ), (h19, ob 5 [.int h19f0, .int h19f1, .ref h39]), (h20, ob 5 [.int h20f0, .int h20f1, .ref h40])] _ := hT
                    refine lv_if_eq (tgt := 93) hx hb dX10_copy_87 (by decide) (fun _ => ?_) (fun cc => absurd (by decide +kernel) cc)
                    refine lv_aload hx hb dX10_copy_93 (lv_at hl 1 rfl) ?_
                    refine tz_get (ci := 5) (v := .ref h39) (C := RX6) (F := TX6) (N := 3) hx hb hU iX6 hown hK hT 8 rfl rfl 2 (by decide) w241 (fun _ h9 => h9) rfl dX10_copy_95 ?_
                    refine lv_iload_n hx hb dX10_copy_98 rfl (lv_at hl 4 rfl) ?_
                    refine lv_aload hx hb dX10_copy_99 (lv_at hl 0 rfl) ?_
                    refine tz_get (ci := 5) (v := .ref h40) (C := RX6) (F := TX6) (N := 3) hx hb hU iX6 hown hK hT 9 rfl rfl 2 (by decide) w241 (fun _ h9 => h9) rfl dX10_copy_101 ?_
                    refine lv_iload hx hb dX10_copy_104 (lv_at hl 6 rfl) ?_
                    refine lv_iload hx hb dX10_copy_106 (lv_at hl 7 rfl) ?_
                    refine tz_copyl hx hb (by rw [hml]; exact hl.1.symm) hown hU w410 w348 w347 w75 hK hT hS 6 7 rfl rfl (by omega) (fun _ _ _ _ => trivial) (Nat.le_of_ble_eq_true rfl) (Nat.le_of_ble_eq_true rfl) dX10_copy_108 (fun H locs hT hS => ?_)
                    refine lv_iload hx hb dX10_copy_111 (lv_at hl 7 rfl) ?_
                    exact tz_retI (B := B_cX10_copy_694ba D k h0 h4 h17 h18 h19 h20 h37 h38 h39 h40 h1 h2 h3 h5 h6 h7 h8 h9 h10 h11 h12 x1 x2 x3 x4 x5 h0f2 h0f6 h0f8 h0f11 h17f0 h17f1 h18f0 h18f1 h19f0 h19f1 h20f0 h20f1) (v := x5) hQ hx hb hr hlocks hS (Nat.le_of_ble_eq_true rfl) (Nat.le_of_ble_eq_true rfl) dX10_copy_113 (⟨(by omega), (hT.sub [0, 1, 2, 3, 8, 9, 4, 5, 6, 7] (by decide) rfl)⟩)
              · skip
                have c_158 := ni_ne c_158 rfl rfl
                refine lv_bipush (v := (-13)) hx hb dX10_copy_64 (by decide) ?_
                exact tz_retI (B := B_cX10_copy_694ba D k h0 h4 h17 h18 h19 h20 h37 h38 h39 h40 h1 h2 h3 h5 h6 h7 h8 h9 h10 h11 h12 x1 x2 x3 x4 x5 h0f2 h0f6 h0f8 h0f11 h17f0 h17f1 h18f0 h18f1 h19f0 h19f1 h20f0 h20f1) (v := (-13)) hQ hx hb hr hlocks hS (Nat.le_of_ble_eq_true rfl) (Nat.le_of_ble_eq_true rfl) dX10_copy_66 (⟨(by have := li_m13; omega), (hT.sub [0, 1, 2, 3, 8, 9, 4, 5, 6, 7] (by decide) rfl)⟩)
            · skip
              have hT := J _ hT1
              have hT : TP D A [(h0, ob 7 [.ref h1, .ref h2, .int h0f2, .ref h3, .ref h4, .ref h5, .int h0f6, .ref h6, .int h0f8, .null, .ref h7, .int h0f11, .ref h8, .ref h9, .ref h10, .ref h11, .ref h12]), (h4, aQ (k 3) 4 (q4 h17 h18 h19 h20)), (h17, ob 5 [.int h17f0, .int h17f1, .ref h37]), (h18, ob 5 [.int h18f0, .int h18f1, .ref h38]), (h37, aJ (k 1) 40 anJ), (h38, aJ (k 1) 40 anJ), (h39, aJ (k 1) 40 anJ), (h40, aJ (k 1) 40 anJ), (h19, ob 5 [.int h19f0, .int h19f1, .ref h39]), (h20, ob 5 [.int h20f0, .int h20f1, .ref h40])] _ := hT
              refine lv_if_eq (tgt := 51) hx hb dX10_copy_45 (by decide) (fun cc => absurd cc (by decide +kernel)) (fun _ => ?_)
              refine lv_bipush (v := (-11)) hx hb dX10_copy_48 (by decide) ?_
              exact tz_retI (B := B_cX10_copy_694ba D k h0 h4 h17 h18 h19 h20 h37 h38 h39 h40 h1 h2 h3 h5 h6 h7 h8 h9 h10 h11 h12 x1 x2 x3 x4 x5 h0f2 h0f6 h0f8 h0f11 h17f0 h17f1 h18f0 h18f1 h19f0 h19f1 h20f0 h20f1) (v := (-11)) hQ hx hb hr hlocks hS (Nat.le_of_ble_eq_true rfl) (Nat.le_of_ble_eq_true rfl) dX10_copy_50 (⟨(by have := li_m11; omega), (hT.sub [0, 1, 2, 3, 8, 9, 4, 5, 6, 7] (by decide) rfl)⟩)
          · skip
            have hT := J _ hT1
            have hT : TP D A [(h0, ob 7 [.ref h1, .ref h2, .int h0f2, .ref h3, .ref h4, .ref h5, .int h0f6, .ref h6, .int h0f8, .null, .ref h7, .int h0f11, .ref h8, .ref h9, .ref h10, .ref h11, .ref h12]), (h4, aQ (k 3) 4 (q4 h17 h18 h19 h20)), (h17, ob 5 [.int h17f0, .int h17f1, .ref h37]), (h18, ob 5 [.int h18f0, .int h18f1, .ref h38]), (h20, ob 5 [.int h20f0, .int h20f1, .ref h40]), (h37, aJ (k 1) 40 anJ), (h38, aJ (k 1) 40 anJ), (h39, aJ (k 1) 40 anJ), (h40, aJ (k 1) 40 anJ), (h19, ob 5 [.int h19f0, .int h19f1, .ref h39])] _ := hT
            refine lv_if_ne (tgt := 48) hx hb dX10_copy_37 (by decide) (fun _ => ?_) (fun cc => absurd cc (by decide +kernel))
            refine lv_bipush (v := (-11)) hx hb dX10_copy_48 (by decide) ?_
            exact tz_retI (B := B_cX10_copy_694ba D k h0 h4 h17 h18 h19 h20 h37 h38 h39 h40 h1 h2 h3 h5 h6 h7 h8 h9 h10 h11 h12 x1 x2 x3 x4 x5 h0f2 h0f6 h0f8 h0f11 h17f0 h17f1 h18f0 h18f1 h19f0 h19f1 h20f0 h20f1) (v := (-11)) hQ hx hb hr hlocks hS (Nat.le_of_ble_eq_true rfl) (Nat.le_of_ble_eq_true rfl) dX10_copy_50 (⟨(by have := li_m11; omega), (hT.sub [0, 1, 2, 3, 9, 4, 5, 6, 7, 8] (by decide) rfl)⟩)
      · skip
        refine tz_aldq (b := h20) hx hb hK hT 1 rfl (vp_in_iff.mpr (by have := hq7; omega)) (fun f hf => by rw [cl_of hq7]; exact hf.2.2.2) dX10_copy_21 ?_
        refine lv_astore (lv' := [(6, .ref h20), (0, .ref h0), (1, .int x1), (2, .int x2), (3, .int x3), (4, .int x4), (5, .int x5)]) hx hb dX10_copy_22 hl (by decide) rfl (fun ls hl => ?_)
        refine lv_aload_n hx hb dX10_copy_24 rfl (lv_at hl 1 rfl) ?_
        refine tz_get (ci := 7) (v := .ref h4) (C := RX10) (F := TX10) (N := 17) hx hb hU iX10 hown hK hT 0 rfl rfl 4 (by decide) w253 (fun _ h9 => h9) rfl dX10_copy_25 ?_
        refine lv_iload_n hx hb dX10_copy_28 rfl (lv_at hl 4 rfl) ?_
        rcases (show x3.toInt = 0 ∨ x3.toInt = 1 ∨ x3.toInt = 2 ∨ x3.toInt = 3 by omega) with hq167 | hq167 | hq167 | hq167
        · skip
          refine tz_aldq (b := h17) hx hb hK hT 1 rfl (vp_in_iff.mpr (by have := hq167; omega)) (fun f hf => by rw [cl_of hq167]; exact hf.1) dX10_copy_29 ?_
          refine lv_astore (lv' := [(7, .ref h17), (6, .ref h20), (0, .ref h0), (1, .int x1), (2, .int x2), (3, .int x3), (4, .int x4), (5, .int x5)]) hx hb dX10_copy_30 hl (by decide) rfl (fun ls hl => ?_)
          refine lv_aload hx hb dX10_copy_32 (lv_at hl 1 rfl) ?_
          refine tcI (Tc := [(h20, ob 5 [.int h20f0, .int h20f1, .ref h40])]) (Tr := [(h0, ob 7 [.ref h1, .ref h2, .int h0f2, .ref h3, .ref h4, .ref h5, .int h0f6, .ref h6, .int h0f8, .null, .ref h7, .int h0f11, .ref h8, .ref h9, .ref h10, .ref h11, .ref h12]), (h4, aQ (k 3) 4 (q4 h17 h18 h19 h20)), (h17, ob 5 [.int h17f0, .int h17f1, .ref h37]), (h18, ob 5 [.int h18f0, .int h18f1, .ref h38]), (h19, ob 5 [.int h19f0, .int h19f1, .ref h39]), (h37, aJ (k 1) 40 anJ), (h38, aJ (k 1) 40 anJ), (h39, aJ (k 1) 40 anJ), (h40, aJ (k 1) 40 anJ)]) (as := [h20]) (zcV (q0 := 5) (ci := 5) (As := []) (rest := []) (Tc := [(h20, ob 5 [.int h20f0, .int h20f1, .ref h40])]) hx hb hml hown hU hK hT rfl rfl [5] rfl (by decide) (cX6_isMissing_56a93 l D k _ h20 h40 h20f0 h20f1 (by omega) (by omega)) w644 w641 w642 w643 w71 hdX6_isMissing ⟨rfl, rfl⟩ ⟨Nat.le_of_ble_eq_true rfl, Nat.le_of_ble_eq_true rfl⟩ rfl hl.1 (Nat.le_of_ble_eq_true rfl) dX10_copy_34 ⟨Nat.le_of_ble_eq_true rfl, Nat.le_of_ble_eq_true rfl⟩) hT hS hA [5] [0, 1, 2, 3, 4, 6, 7, 8, 9] rfl rfl rfl (by decide) (by decide) (fun r168 H locs hB J hS => ?_)
          rcases hB with ⟨c_169, rfl, hT1⟩ | ⟨rfl, hT1⟩
          · skip
            have hT := J _ hT1
            have hT : TP D A [(h0, ob 7 [.ref h1, .ref h2, .int h0f2, .ref h3, .ref h4, .ref h5, .int h0f6, .ref h6, .int h0f8, .null, .ref h7, .int h0f11, .ref h8, .ref h9, .ref h10, .ref h11, .ref h12]), (h4, aQ (k 3) 4 (q4 h17 h18 h19 h20)), (h17, ob 5 [.int h17f0, .int h17f1, .ref h37]), (h18, ob 5 [.int h18f0, .int h18f1, .ref h38]), (h19, ob 5 [.int h19f0, .int h19f1, .ref h39]), (h37, aJ (k 1) 40 anJ), (h38, aJ (k 1) 40 anJ), (h39, aJ (k 1) 40 anJ), (h40, aJ (k 1) 40 anJ), (h20, ob 5 [.int h20f0, .int h20f1, .ref h40])] _ := hT
            refine lv_if_ne (tgt := 48) hx hb dX10_copy_37 (by decide) (fun cc => absurd (by decide +kernel) cc) (fun _ => ?_)
            refine lv_aload hx hb dX10_copy_40 (lv_at hl 0 rfl) ?_
            refine tcI (Tc := [(h17, ob 5 [.int h17f0, .int h17f1, .ref h37])]) (Tr := [(h0, ob 7 [.ref h1, .ref h2, .int h0f2, .ref h3, .ref h4, .ref h5, .int h0f6, .ref h6, .int h0f8, .null, .ref h7, .int h0f11, .ref h8, .ref h9, .ref h10, .ref h11, .ref h12]), (h4, aQ (k 3) 4 (q4 h17 h18 h19 h20)), (h18, ob 5 [.int h18f0, .int h18f1, .ref h38]), (h19, ob 5 [.int h19f0, .int h19f1, .ref h39]), (h37, aJ (k 1) 40 anJ), (h38, aJ (k 1) 40 anJ), (h39, aJ (k 1) 40 anJ), (h40, aJ (k 1) 40 anJ), (h20, ob 5 [.int h20f0, .int h20f1, .ref h40])]) (as := [h17]) (zcV (q0 := 2) (ci := 5) (As := []) (rest := []) (Tc := [(h17, ob 5 [.int h17f0, .int h17f1, .ref h37])]) hx hb hml hown hU hK hT rfl rfl [2] rfl (by decide) (cX6_isMissing_56a93 l D k _ h17 h37 h17f0 h17f1 (by omega) (by omega)) w644 w641 w642 w643 w71 hdX6_isMissing ⟨rfl, rfl⟩ ⟨Nat.le_of_ble_eq_true rfl, Nat.le_of_ble_eq_true rfl⟩ rfl hl.1 (Nat.le_of_ble_eq_true rfl) dX10_copy_42 ⟨Nat.le_of_ble_eq_true rfl, Nat.le_of_ble_eq_true rfl⟩) hT hS hA [2] [0, 1, 3, 4, 5, 6, 7, 8, 9] rfl rfl rfl (by decide) (by decide) (fun r170 H locs hB J hS => ?_)
            rcases hB with ⟨c_171, rfl, hT1⟩ | ⟨rfl, hT1⟩
            · skip
              have hT := J _ hT1
              have hT : TP D A [(h0, ob 7 [.ref h1, .ref h2, .int h0f2, .ref h3, .ref h4, .ref h5, .int h0f6, .ref h6, .int h0f8, .null, .ref h7, .int h0f11, .ref h8, .ref h9, .ref h10, .ref h11, .ref h12]), (h4, aQ (k 3) 4 (q4 h17 h18 h19 h20)), (h18, ob 5 [.int h18f0, .int h18f1, .ref h38]), (h19, ob 5 [.int h19f0, .int h19f1, .ref h39]), (h37, aJ (k 1) 40 anJ), (h38, aJ (k 1) 40 anJ), (h39, aJ (k 1) 40 anJ), (h40, aJ (k 1) 40 anJ), (h20, ob 5 [.int h20f0, .int h20f1, .ref h40]), (h17, ob 5 [.int h17f0, .int h17f1, .ref h37])] _ := hT
              refine lv_if_eq (tgt := 51) hx hb dX10_copy_45 (by decide) (fun _ => ?_) (fun cc => absurd (by decide +kernel) cc)
              refine lv_aload hx hb dX10_copy_51 (lv_at hl 1 rfl) ?_
              refine tz_get (ci := 5) (v := .int h20f0) (C := RX6) (F := TX6) (N := 3) hx hb hU iX6 hown hK hT 8 rfl rfl 0 (by decide) w238 (fun _ h9 => h9) rfl dX10_copy_53 ?_
              refine lv_aload hx hb dX10_copy_56 (lv_at hl 0 rfl) ?_
              refine tz_get (ci := 5) (v := .int h17f0) (C := RX6) (F := TX6) (N := 3) hx hb hU iX6 hown hK hT 9 rfl rfl 0 (by decide) w238 (fun _ h9 => h9) rfl dX10_copy_58 ?_
              refine lv_icmp_eq (tgt := 67) hx hb dX10_copy_61 (by decide) (fun c_172 => ?_) (fun c_172 => ?_)
              · skip
                have c_172 := ni_eq c_172 rfl rfl
                refine lv_aload hx hb dX10_copy_67 (lv_at hl 1 rfl) ?_
                refine lv_iload_n hx hb dX10_copy_69 rfl (lv_at hl 4 rfl) ?_
                refine lv_iload hx hb dX10_copy_70 (lv_at hl 7 rfl) ?_
                refine tcI (Tc := [(h20, ob 5 [.int h20f0, .int h20f1, .ref h40])]) (Tr := [(h0, ob 7 [.ref h1, .ref h2, .int h0f2, .ref h3, .ref h4, .ref h5, .int h0f6, .ref h6, .int h0f8, .null, .ref h7, .int h0f11, .ref h8, .ref h9, .ref h10, .ref h11, .ref h12]), (h4, aQ (k 3) 4 (q4 h17 h18 h19 h20)), (h18, ob 5 [.int h18f0, .int h18f1, .ref h38]), (h19, ob 5 [.int h19f0, .int h19f1, .ref h39]), (h37, aJ (k 1) 40 anJ), (h38, aJ (k 1) 40 anJ), (h39, aJ (k 1) 40 anJ), (h40, aJ (k 1) 40 anJ), (h17, ob 5 [.int h17f0, .int h17f1, .ref h37])]) (as := [h20]) (zcV (q0 := 8) (ci := 5) (As := [.int x2, .int x5]) (rest := []) (Tc := [(h20, ob 5 [.int h20f0, .int h20f1, .ref h40])]) hx hb hml hown hU hK hT rfl rfl [8] rfl (by decide) (cX6_isOutside_cc85b l D k _ h20 h40 x2 x5 h20f0 h20f1 (by omega) (by omega)) w648 w645 w646 w647 w71 hdX6_isOutside ⟨rfl, rfl⟩ ⟨Nat.le_of_ble_eq_true rfl, Nat.le_of_ble_eq_true rfl⟩ rfl hl.1 (Nat.le_of_ble_eq_true rfl) dX10_copy_72 ⟨Nat.le_of_ble_eq_true rfl, Nat.le_of_ble_eq_true rfl⟩) hT hS hA [8] [0, 1, 2, 3, 4, 5, 6, 7, 9] rfl rfl rfl (by decide) (by decide) (fun r173 H locs hB J hS => ?_)
                rcases hB with ⟨rfl, hT1⟩ | ⟨c_174, c_175, c_176, rfl, hT1⟩
                · skip
                  have hT := J _ hT1
                  have hT : TP D A [(h0, ob 7 [.ref h1, .ref h2, .int h0f2, .ref h3, .ref h4, .ref h5, .int h0f6, .ref h6, .int h0f8, .null, .ref h7, .int h0f11, .ref h8, .ref h9, .ref h10, .ref h11, .ref h12]), (h4, aQ (k 3) 4 (q4 h17 h18 h19 h20)), (h18, ob 5 [.int h18f0, .int h18f1, .ref h38]), (h19, ob 5 [.int h19f0, .int h19f1, .ref h39]), (h37, aJ (k 1) 40 anJ), (h38, aJ (k 1) 40 anJ), (h39, aJ (k 1) 40 anJ), (h40, aJ (k 1) 40 anJ), (h17, ob 5 [.int h17f0, .int h17f1, .ref h37]), (h20, ob 5 [.int h20f0, .int h20f1, .ref h40])] _ := hT
                  refine lv_if_ne (tgt := 90) hx hb dX10_copy_75 (by decide) (fun _ => ?_) (fun cc => absurd cc (by decide +kernel))
                  refine lv_bipush (v := (-12)) hx hb dX10_copy_90 (by decide) ?_
                  exact tz_retI (B := B_cX10_copy_694ba D k h0 h4 h17 h18 h19 h20 h37 h38 h39 h40 h1 h2 h3 h5 h6 h7 h8 h9 h10 h11 h12 x1 x2 x3 x4 x5 h0f2 h0f6 h0f8 h0f11 h17f0 h17f1 h18f0 h18f1 h19f0 h19f1 h20f0 h20f1) (v := (-12)) hQ hx hb hr hlocks hS (Nat.le_of_ble_eq_true rfl) (Nat.le_of_ble_eq_true rfl) dX10_copy_92 (⟨(by have := li_m12; omega), (hT.sub [0, 1, 8, 2, 3, 9, 4, 5, 6, 7] (by decide) rfl)⟩)
                · skip
                  have hT := J _ hT1
                  have hT : TP D A [(h0, ob 7 [.ref h1, .ref h2, .int h0f2, .ref h3, .ref h4, .ref h5, .int h0f6, .ref h6, .int h0f8, .null, .ref h7, .int h0f11, .ref h8, .ref h9, .ref h10, .ref h11, .ref h12]), (h4, aQ (k 3) 4 (q4 h17 h18 h19 h20)), (h18, ob 5 [.int h18f0, .int h18f1, .ref h38]), (h19, ob 5 [.int h19f0, .int h19f1, .ref h39]), (h37, aJ (k 1) 40 anJ), (h38, aJ (k 1) 40 anJ), (h39, aJ (k 1) 40 anJ), (h40, aJ (k 1) 40 anJ), (h17, ob 5 [.int h17f0, .int h17f1, .ref h37]), (h20, ob 5 [.int h20f0, .int h20f1, .ref h40])] _ := hT
                  refine lv_if_ne (tgt := 90) hx hb dX10_copy_75 (by decide) (fun cc => absurd (by decide +kernel) cc) (fun _ => ?_)
                  refine lv_aload hx hb dX10_copy_78 (lv_at hl 0 rfl) ?_
                  refine lv_iload hx hb dX10_copy_80 (lv_at hl 6 rfl) ?_
                  refine lv_iload hx hb dX10_copy_82 (lv_at hl 7 rfl) ?_
                  refine tcI (Tc := [(h17, ob 5 [.int h17f0, .int h17f1, .ref h37])]) (Tr := [(h0, ob 7 [.ref h1, .ref h2, .int h0f2, .ref h3, .ref h4, .ref h5, .int h0f6, .ref h6, .int h0f8, .null, .ref h7, .int h0f11, .ref h8, .ref h9, .ref h10, .ref h11, .ref h12]), (h4, aQ (k 3) 4 (q4 h17 h18 h19 h20)), (h18, ob 5 [.int h18f0, .int h18f1, .ref h38]), (h19, ob 5 [.int h19f0, .int h19f1, .ref h39]), (h37, aJ (k 1) 40 anJ), (h38, aJ (k 1) 40 anJ), (h39, aJ (k 1) 40 anJ), (h40, aJ (k 1) 40 anJ), (h20, ob 5 [.int h20f0, .int h20f1, .ref h40])]) (as := [h17]) (zcV (q0 := 8) (ci := 5) (As := [.int x4, .int x5]) (rest := []) (Tc := [(h17, ob 5 [.int h17f0, .int h17f1, .ref h37])]) hx hb hml hown hU hK hT rfl rfl [8] rfl (by decide) (cX6_isOutside_cc85b l D k _ h17 h37 x4 x5 h17f0 h17f1 (by omega) (by omega)) w648 w645 w646 w647 w71 hdX6_isOutside ⟨rfl, rfl⟩ ⟨Nat.le_of_ble_eq_true rfl, Nat.le_of_ble_eq_true rfl⟩ rfl hl.1 (Nat.le_of_ble_eq_true rfl) dX10_copy_84 ⟨Nat.le_of_ble_eq_true rfl, Nat.le_of_ble_eq_true rfl⟩) hT hS hA [8] [0, 1, 2, 3, 4, 5, 6, 7, 9] rfl rfl rfl (by decide) (by decide) (fun r177 H locs hB J hS => ?_)
                  rcases hB with ⟨rfl, hT1⟩ | ⟨c_178, c_179, c_180, rfl, hT1⟩
                  · skip
                    have hT := J _ hT1
                    have hT : TP D A [(h0, ob 7 [.ref h1, .ref h2, .int h0f2, .ref h3, .ref h4, .ref h5, .int h0f6, .ref h6, .int h0f8, .null, .ref h7, .int h0f11, .ref h8, .ref h9, .ref h10, .ref h11, .ref h12]), (h4, aQ (k 3) 4 (q4 h17 h18 h19 h20)), (h18, ob 5 [.int h18f0, .int h18f1, .ref h38]), (h19, ob 5 [.int h19f0, .int h19f1, .ref h39]), (h37, aJ (k 1) 40 anJ), (h38, aJ (k 1) 40 anJ), (h39, aJ (k 1) 40 anJ), (h40, aJ (k 1) 40 anJ), (h20, ob 5 [.int h20f0, .int h20f1, .ref h40]), (h17, ob 5 [.int h17f0, .int h17f1, .ref h37])] _ := hT
                    refine lv_if_eq (tgt := 93) hx hb dX10_copy_87 (by decide) (fun cc => absurd cc (by decide +kernel)) (fun _ => ?_)
                    refine lv_bipush (v := (-12)) hx hb dX10_copy_90 (by decide) ?_
                    exact tz_retI (B := B_cX10_copy_694ba D k h0 h4 h17 h18 h19 h20 h37 h38 h39 h40 h1 h2 h3 h5 h6 h7 h8 h9 h10 h11 h12 x1 x2 x3 x4 x5 h0f2 h0f6 h0f8 h0f11 h17f0 h17f1 h18f0 h18f1 h19f0 h19f1 h20f0 h20f1) (v := (-12)) hQ hx hb hr hlocks hS (Nat.le_of_ble_eq_true rfl) (Nat.le_of_ble_eq_true rfl) dX10_copy_92 (⟨(by have := li_m12; omega), (hT.sub [0, 1, 9, 2, 3, 8, 4, 5, 6, 7] (by decide) rfl)⟩)
                  · skip
                    have hT := J _ hT1
                    have hT : TP D A [(h0, ob 7 [.ref h1, .ref h2, .int h0f2, .ref h3, .ref h4, .ref h5, .int h0f6, .ref h6, .int h0f8, .null, .ref h7, .int h0f11, .ref h8, .ref h9, .ref h10, .ref h11, .ref h12]), (h4, aQ (k 3) 4 (q4 h17 h18 h19 h20)), (h18, ob 5 [.int h18f0, .int h18f1, .ref h38]), (h19, ob 5 [.int h19f0, .int h19f1, .ref h39]), (h37, aJ (k 1) 40 anJ), (h38, aJ (k 1) 40 anJ), (h39, aJ (k 1) 40 anJ), (h40, aJ (k 1) 40 anJ), (h20, ob 5 [.int h20f0, .int h20f1, .ref h40]), (h17, ob 5 [.int h17f0, .int h17f1, .ref h37])] _ := hT
                    refine lv_if_eq (tgt := 93) hx hb dX10_copy_87 (by decide) (fun _ => ?_) (fun cc => absurd (by decide +kernel) cc)
                    refine lv_aload hx hb dX10_copy_93 (lv_at hl 1 rfl) ?_
                    refine tz_get (ci := 5) (v := .ref h40) (C := RX6) (F := TX6) (N := 3) hx hb hU iX6 hown hK hT 8 rfl rfl 2 (by decide) w241 (fun _ h9 => h9) rfl dX10_copy_95 ?_
                    refine lv_iload_n hx hb dX10_copy_98 rfl (lv_at hl 4 rfl) ?_
                    refine lv_aload hx hb dX10_copy_99 (lv_at hl 0 rfl) ?_
                    refine tz_get (ci := 5) (v := .ref h37) (C := RX6) (F := TX6) (N := 3) hx hb hU iX6 hown hK hT 9 rfl rfl 2 (by decide) w241 (fun _ h9 => h9) rfl dX10_copy_101 ?_
                    refine lv_iload hx hb dX10_copy_104 (lv_at hl 6 rfl) ?_
                    refine lv_iload hx hb dX10_copy_106 (lv_at hl 7 rfl) ?_
                    refine tz_copyl hx hb (by rw [hml]; exact hl.1.symm) hown hU w410 w348 w347 w75 hK hT hS 7 4 rfl rfl (by omega) (fun _ _ _ _ => trivial) (Nat.le_of_ble_eq_true rfl) (Nat.le_of_ble_eq_true rfl) dX10_copy_108 (fun H locs hT hS => ?_)
                    refine lv_iload hx hb dX10_copy_111 (lv_at hl 7 rfl) ?_
                    exact tz_retI (B := B_cX10_copy_694ba D k h0 h4 h17 h18 h19 h20 h37 h38 h39 h40 h1 h2 h3 h5 h6 h7 h8 h9 h10 h11 h12 x1 x2 x3 x4 x5 h0f2 h0f6 h0f8 h0f11 h17f0 h17f1 h18f0 h18f1 h19f0 h19f1 h20f0 h20f1) (v := x5) hQ hx hb hr hlocks hS (Nat.le_of_ble_eq_true rfl) (Nat.le_of_ble_eq_true rfl) dX10_copy_113 (⟨(by omega), (hT.sub [0, 1, 9, 2, 3, 8, 4, 5, 6, 7] (by decide) rfl)⟩)
              · skip
                have c_172 := ni_ne c_172 rfl rfl
                refine lv_bipush (v := (-13)) hx hb dX10_copy_64 (by decide) ?_
                exact tz_retI (B := B_cX10_copy_694ba D k h0 h4 h17 h18 h19 h20 h37 h38 h39 h40 h1 h2 h3 h5 h6 h7 h8 h9 h10 h11 h12 x1 x2 x3 x4 x5 h0f2 h0f6 h0f8 h0f11 h17f0 h17f1 h18f0 h18f1 h19f0 h19f1 h20f0 h20f1) (v := (-13)) hQ hx hb hr hlocks hS (Nat.le_of_ble_eq_true rfl) (Nat.le_of_ble_eq_true rfl) dX10_copy_66 (⟨(by have := li_m13; omega), (hT.sub [0, 1, 9, 2, 3, 8, 4, 5, 6, 7] (by decide) rfl)⟩)
            · skip
              have hT := J _ hT1
              have hT : TP D A [(h0, ob 7 [.ref h1, .ref h2, .int h0f2, .ref h3, .ref h4, .ref h5, .int h0f6, .ref h6, .int h0f8, .null, .ref h7, .int h0f11, .ref h8, .ref h9, .ref h10, .ref h11, .ref h12]), (h4, aQ (k 3) 4 (q4 h17 h18 h19 h20)), (h18, ob 5 [.int h18f0, .int h18f1, .ref h38]), (h19, ob 5 [.int h19f0, .int h19f1, .ref h39]), (h37, aJ (k 1) 40 anJ), (h38, aJ (k 1) 40 anJ), (h39, aJ (k 1) 40 anJ), (h40, aJ (k 1) 40 anJ), (h20, ob 5 [.int h20f0, .int h20f1, .ref h40]), (h17, ob 5 [.int h17f0, .int h17f1, .ref h37])] _ := hT
              refine lv_if_eq (tgt := 51) hx hb dX10_copy_45 (by decide) (fun cc => absurd cc (by decide +kernel)) (fun _ => ?_)
              refine lv_bipush (v := (-11)) hx hb dX10_copy_48 (by decide) ?_
              exact tz_retI (B := B_cX10_copy_694ba D k h0 h4 h17 h18 h19 h20 h37 h38 h39 h40 h1 h2 h3 h5 h6 h7 h8 h9 h10 h11 h12 x1 x2 x3 x4 x5 h0f2 h0f6 h0f8 h0f11 h17f0 h17f1 h18f0 h18f1 h19f0 h19f1 h20f0 h20f1) (v := (-11)) hQ hx hb hr hlocks hS (Nat.le_of_ble_eq_true rfl) (Nat.le_of_ble_eq_true rfl) dX10_copy_50 (⟨(by have := li_m11; omega), (hT.sub [0, 1, 9, 2, 3, 8, 4, 5, 6, 7] (by decide) rfl)⟩)
          · skip
            have hT := J _ hT1
            have hT : TP D A [(h0, ob 7 [.ref h1, .ref h2, .int h0f2, .ref h3, .ref h4, .ref h5, .int h0f6, .ref h6, .int h0f8, .null, .ref h7, .int h0f11, .ref h8, .ref h9, .ref h10, .ref h11, .ref h12]), (h4, aQ (k 3) 4 (q4 h17 h18 h19 h20)), (h17, ob 5 [.int h17f0, .int h17f1, .ref h37]), (h18, ob 5 [.int h18f0, .int h18f1, .ref h38]), (h19, ob 5 [.int h19f0, .int h19f1, .ref h39]), (h37, aJ (k 1) 40 anJ), (h38, aJ (k 1) 40 anJ), (h39, aJ (k 1) 40 anJ), (h40, aJ (k 1) 40 anJ), (h20, ob 5 [.int h20f0, .int h20f1, .ref h40])] _ := hT
            refine lv_if_ne (tgt := 48) hx hb dX10_copy_37 (by decide) (fun _ => ?_) (fun cc => absurd cc (by decide +kernel))
            refine lv_bipush (v := (-11)) hx hb dX10_copy_48 (by decide) ?_
            exact tz_retI (B := B_cX10_copy_694ba D k h0 h4 h17 h18 h19 h20 h37 h38 h39 h40 h1 h2 h3 h5 h6 h7 h8 h9 h10 h11 h12 x1 x2 x3 x4 x5 h0f2 h0f6 h0f8 h0f11 h17f0 h17f1 h18f0 h18f1 h19f0 h19f1 h20f0 h20f1) (v := (-11)) hQ hx hb hr hlocks hS (Nat.le_of_ble_eq_true rfl) (Nat.le_of_ble_eq_true rfl) dX10_copy_50 (⟨(by have := li_m11; omega), (hT.sub [0, 1, 2, 3, 4, 9, 5, 6, 7, 8] (by decide) rfl)⟩)
        · skip
          refine tz_aldq (b := h18) hx hb hK hT 1 rfl (vp_in_iff.mpr (by have := hq167; omega)) (fun f hf => by rw [cl_of hq167]; exact hf.2.1) dX10_copy_29 ?_
          refine lv_astore (lv' := [(7, .ref h18), (6, .ref h20), (0, .ref h0), (1, .int x1), (2, .int x2), (3, .int x3), (4, .int x4), (5, .int x5)]) hx hb dX10_copy_30 hl (by decide) rfl (fun ls hl => ?_)
          refine lv_aload hx hb dX10_copy_32 (lv_at hl 1 rfl) ?_
          refine tcI (Tc := [(h20, ob 5 [.int h20f0, .int h20f1, .ref h40])]) (Tr := [(h0, ob 7 [.ref h1, .ref h2, .int h0f2, .ref h3, .ref h4, .ref h5, .int h0f6, .ref h6, .int h0f8, .null, .ref h7, .int h0f11, .ref h8, .ref h9, .ref h10, .ref h11, .ref h12]), (h4, aQ (k 3) 4 (q4 h17 h18 h19 h20)), (h17, ob 5 [.int h17f0, .int h17f1, .ref h37]), (h18, ob 5 [.int h18f0, .int h18f1, .ref h38]), (h19, ob 5 [.int h19f0, .int h19f1, .ref h39]), (h37, aJ (k 1) 40 anJ), (h38, aJ (k 1) 40 anJ), (h39, aJ (k 1) 40 anJ), (h40, aJ (k 1) 40 anJ)]) (as := [h20]) (zcV (q0 := 5) (ci := 5) (As := []) (rest := []) (Tc := [(h20, ob 5 [.int h20f0, .int h20f1, .ref h40])]) hx hb hml hown hU hK hT rfl rfl [5] rfl (by decide) (cX6_isMissing_56a93 l D k _ h20 h40 h20f0 h20f1 (by omega) (by omega)) w644 w641 w642 w643 w71 hdX6_isMissing ⟨rfl, rfl⟩ ⟨Nat.le_of_ble_eq_true rfl, Nat.le_of_ble_eq_true rfl⟩ rfl hl.1 (Nat.le_of_ble_eq_true rfl) dX10_copy_34 ⟨Nat.le_of_ble_eq_true rfl, Nat.le_of_ble_eq_true rfl⟩) hT hS hA [5] [0, 1, 2, 3, 4, 6, 7, 8, 9] rfl rfl rfl (by decide) (by decide) (fun r181 H locs hB J hS => ?_)
          rcases hB with ⟨c_182, rfl, hT1⟩ | ⟨rfl, hT1⟩
          · skip
            have hT := J _ hT1
            have hT : TP D A [(h0, ob 7 [.ref h1, .ref h2, .int h0f2, .ref h3, .ref h4, .ref h5, .int h0f6, .ref h6, .int h0f8, .null, .ref h7, .int h0f11, .ref h8, .ref h9, .ref h10, .ref h11, .ref h12]), (h4, aQ (k 3) 4 (q4 h17 h18 h19 h20)), (h17, ob 5 [.int h17f0, .int h17f1, .ref h37]), (h18, ob 5 [.int h18f0, .int h18f1, .ref h38]), (h19, ob 5 [.int h19f0, .int h19f1, .ref h39]), (h37, aJ (k 1) 40 anJ), (h38, aJ (k 1) 40 anJ), (h39, aJ (k 1) 40 anJ), (h40, aJ (k 1) 40 anJ), (h20, ob 5 [.int h20f0, .int h20f1, .ref h40])] _ := hT
            refine lv_if_ne (tgt := 48) hx hb dX10_copy_37 (by decide) (fun cc => absurd (by decide +kernel) cc) (fun _ => ?_)
            refine lv_aload hx hb dX10_copy_40 (lv_at hl 0 rfl) ?_
            refine tcI (Tc := [(h18, ob 5 [.int h18f0, .int h18f1, .ref h38])]) (Tr := [(h0, ob 7 [.ref h1, .ref h2, .int h0f2, .ref h3, .ref h4, .ref h5, .int h0f6, .ref h6, .int h0f8, .null, .ref h7, .int h0f11, .ref h8, .ref h9, .ref h10, .ref h11, .ref h12]), (h4, aQ (k 3) 4 (q4 h17 h18 h19 h20)), (h17, ob 5 [.int h17f0, .int h17f1, .ref h37]), (h19, ob 5 [.int h19f0, .int h19f1, .ref h39]), (h37, aJ (k 1) 40 anJ), (h38, aJ (k 1) 40 anJ), (h39, aJ (k 1) 40 anJ), (h40, aJ (k 1) 40 anJ), (h20, ob 5 [.int h20f0, .int h20f1, .ref h40])]) (as := [h18]) (zcV (q0 := 3) (ci := 5) (As := []) (rest := []) (Tc := [(h18, ob 5 [.int h18f0, .int h18f1, .ref h38])]) hx hb hml hown hU hK hT rfl rfl [3] rfl (by decide) (cX6_isMissing_56a93 l D k _ h18 h38 h18f0 h18f1 (by omega) (by omega)) w644 w641 w642 w643 w71 hdX6_isMissing ⟨rfl, rfl⟩ ⟨Nat.le_of_ble_eq_true rfl, Nat.le_of_ble_eq_true rfl⟩ rfl hl.1 (Nat.le_of_ble_eq_true rfl) dX10_copy_42 ⟨Nat.le_of_ble_eq_true rfl, Nat.le_of_ble_eq_true rfl⟩) hT hS hA [3] [0, 1, 2, 4, 5, 6, 7, 8, 9] rfl rfl rfl (by decide) (by decide) (fun r183 H locs hB J hS => ?_)
            rcases hB with ⟨c_184, rfl, hT1⟩ | ⟨rfl, hT1⟩
            · skip
              have hT := J _ hT1
              have hT : TP D A [(h0, ob 7 [.ref h1, .ref h2, .int h0f2, .ref h3, .ref h4, .ref h5, .int h0f6, .ref h6, .int h0f8, .null, .ref h7, .int h0f11, .ref h8, .ref h9, .ref h10, .ref h11, .ref h12]), (h4, aQ (k 3) 4 (q4 h17 h18 h19 h20)), (h17, ob 5 [.int h17f0, .int h17f1, .ref h37]), (h19, ob 5 [.int h19f0, .int h19f1, .ref h39]), (h37, aJ (k 1) 40 anJ), (h38, aJ (k 1) 40 anJ), (h39, aJ (k 1) 40 anJ), (h40, aJ (k 1) 40 anJ), (h20, ob 5 [.int h20f0, .int h20f1, .ref h40]), (h18, ob 5 [.int h18f0, .int h18f1, .ref h38])] _ := hT
              refine lv_if_eq (tgt := 51) hx hb dX10_copy_45 (by decide) (fun _ => ?_) (fun cc => absurd (by decide +kernel) cc)
              refine lv_aload hx hb dX10_copy_51 (lv_at hl 1 rfl) ?_
              refine tz_get (ci := 5) (v := .int h20f0) (C := RX6) (F := TX6) (N := 3) hx hb hU iX6 hown hK hT 8 rfl rfl 0 (by decide) w238 (fun _ h9 => h9) rfl dX10_copy_53 ?_
              refine lv_aload hx hb dX10_copy_56 (lv_at hl 0 rfl) ?_
              refine tz_get (ci := 5) (v := .int h18f0) (C := RX6) (F := TX6) (N := 3) hx hb hU iX6 hown hK hT 9 rfl rfl 0 (by decide) w238 (fun _ h9 => h9) rfl dX10_copy_58 ?_
              refine lv_icmp_eq (tgt := 67) hx hb dX10_copy_61 (by decide) (fun c_185 => ?_) (fun c_185 => ?_)
              · skip
                have c_185 := ni_eq c_185 rfl rfl
                refine lv_aload hx hb dX10_copy_67 (lv_at hl 1 rfl) ?_
                refine lv_iload_n hx hb dX10_copy_69 rfl (lv_at hl 4 rfl) ?_
                refine lv_iload hx hb dX10_copy_70 (lv_at hl 7 rfl) ?_
                refine tcI (Tc := [(h20, ob 5 [.int h20f0, .int h20f1, .ref h40])]) (Tr := [(h0, ob 7 [.ref h1, .ref h2, .int h0f2, .ref h3, .ref h4, .ref h5, .int h0f6, .ref h6, .int h0f8, .null, .ref h7, .int h0f11, .ref h8, .ref h9, .ref h10, .ref h11, .ref h12]), (h4, aQ (k 3) 4 (q4 h17 h18 h19 h20)), (h17, ob 5 [.int h17f0, .int h17f1, .ref h37]), (h19, ob 5 [.int h19f0, .int h19f1, .ref h39]), (h37, aJ (k 1) 40 anJ), (h38, aJ (k 1) 40 anJ), (h39, aJ (k 1) 40 anJ), (h40, aJ (k 1) 40 anJ), (h18, ob 5 [.int h18f0, .int h18f1, .ref h38])]) (as := [h20]) (zcV (q0 := 8) (ci := 5) (As := [.int x2, .int x5]) (rest := []) (Tc := [(h20, ob 5 [.int h20f0, .int h20f1, .ref h40])]) hx hb hml hown hU hK hT rfl rfl [8] rfl (by decide) (cX6_isOutside_cc85b l D k _ h20 h40 x2 x5 h20f0 h20f1 (by omega) (by omega)) w648 w645 w646 w647 w71 hdX6_isOutside ⟨rfl, rfl⟩ ⟨Nat.le_of_ble_eq_true rfl, Nat.le_of_ble_eq_true rfl⟩ rfl hl.1 (Nat.le_of_ble_eq_true rfl) dX10_copy_72 ⟨Nat.le_of_ble_eq_true rfl, Nat.le_of_ble_eq_true rfl⟩) hT hS hA [8] [0, 1, 2, 3, 4, 5, 6, 7, 9] rfl rfl rfl (by decide) (by decide) (fun r186 H locs hB J hS => ?_)
                rcases hB with ⟨rfl, hT1⟩ | ⟨c_187, c_188, c_189, rfl, hT1⟩
                · skip
                  have hT := J _ hT1
                  have hT : TP D A [(h0, ob 7 [.ref h1, .ref h2, .int h0f2, .ref h3, .ref h4, .ref h5, .int h0f6, .ref h6, .int h0f8, .null, .ref h7, .int h0f11, .ref h8, .ref h9, .ref h10, .ref h11, .ref h12]), (h4, aQ (k 3) 4 (q4 h17 h18 h19 h20)), (h17, ob 5 [.int h17f0, .int h17f1, .ref h37]), (h19, ob 5 [.int h19f0, .int h19f1, .ref h39]), (h37, aJ (k 1) 40 anJ), (h38, aJ (k 1) 40 anJ), (h39, aJ (k 1) 40 anJ), (h40, aJ (k 1) 40 anJ), (h18, ob 5 [.int h18f0, .int h18f1, .ref h38]), (h20, ob 5 [.int h20f0, .int h20f1, .ref h40])] _ := hT
                  refine lv_if_ne (tgt := 90) hx hb dX10_copy_75 (by decide) (fun _ => ?_) (fun cc => absurd cc (by decide +kernel))
                  refine lv_bipush (v := (-12)) hx hb dX10_copy_90 (by decide) ?_
                  exact tz_retI (B := B_cX10_copy_694ba D k h0 h4 h17 h18 h19 h20 h37 h38 h39 h40 h1 h2 h3 h5 h6 h7 h8 h9 h10 h11 h12 x1 x2 x3 x4 x5 h0f2 h0f6 h0f8 h0f11 h17f0 h17f1 h18f0 h18f1 h19f0 h19f1 h20f0 h20f1) (v := (-12)) hQ hx hb hr hlocks hS (Nat.le_of_ble_eq_true rfl) (Nat.le_of_ble_eq_true rfl) dX10_copy_92 (⟨(by have := li_m12; omega), (hT.sub [0, 1, 2, 8, 3, 9, 4, 5, 6, 7] (by decide) rfl)⟩)
                · skip
                  have hT := J _ hT1
                  have hT : TP D A [(h0, ob 7 [.ref h1, .ref h2, .int h0f2, .ref h3, .ref h4, .ref h5, .int h0f6, .ref h6, .int h0f8, .null, .ref h7, .int h0f11, .ref h8, .ref h9, .ref h10, .ref h11, .ref h12]), (h4, aQ (k 3) 4 (q4 h17 h18 h19 h20)), (h17, ob 5 [.int h17f0, .int h17f1, .ref h37]), (h19, ob 5 [.int h19f0, .int h19f1, .ref h39]), (h37, aJ (k 1) 40 anJ), (h38, aJ (k 1) 40 anJ), (h39, aJ (k 1) 40 anJ), (h40, aJ (k 1) 40 anJ), (h18, ob 5 [.int h18f0, .int h18f1, .ref h38]), (h20, ob 5 [.int h20f0, .int h20f1, .ref h40])] _ := hT
                  refine lv_if_ne (tgt := 90) hx hb dX10_copy_75 (by decide) (fun cc => absurd (by decide +kernel) cc) (fun _ => ?_)
                  refine lv_aload hx hb dX10_copy_78 (lv_at hl 0 rfl) ?_
                  refine lv_iload hx hb dX10_copy_80 (lv_at hl 6 rfl) ?_
                  refine lv_iload hx hb dX10_copy_82 (lv_at hl 7 rfl) ?_
                  refine tcI (Tc := [(h18, ob 5 [.int h18f0, .int h18f1, .ref h38])]) (Tr := [(h0, ob 7 [.ref h1, .ref h2, .int h0f2, .ref h3, .ref h4, .ref h5, .int h0f6, .ref h6, .int h0f8, .null, .ref h7, .int h0f11, .ref h8, .ref h9, .ref h10, .ref h11, .ref h12]), (h4, aQ (k 3) 4 (q4 h17 h18 h19 h20)), (h17, ob 5 [.int h17f0, .int h17f1, .ref h37]), (h19, ob 5 [.int h19f0, .int h19f1, .ref h39]), (h37, aJ (k 1) 40 anJ), (h38, aJ (k 1) 40 anJ), (h39, aJ (k 1) 40 anJ), (h40, aJ (k 1) 40 anJ), (h20, ob 5 [.int h20f0, .int h20f1, .ref h40])]) (as := [h18]) (zcV (q0 := 8) (ci := 5) (As := [.int x4, .int x5]) (rest := []) (Tc := [(h18, ob 5 [.int h18f0, .int h18f1, .ref h38])]) hx hb hml hown hU hK hT rfl rfl [8] rfl (by decide) (cX6_isOutside_cc85b l D k _ h18 h38 x4 x5 h18f0 h18f1 (by omega) (by omega)) w648 w645 w646 w647 w71 hdX6_isOutside ⟨rfl, rfl⟩ ⟨Nat.le_of_ble_eq_true rfl, Nat.le_of_ble_eq_true rfl⟩ rfl hl.1 (Nat.le_of_ble_eq_true rfl) dX10_copy_84 ⟨Nat.le_of_ble_eq_true rfl, Nat.le_of_ble_eq_true rfl⟩) hT hS hA [8] [0, 1, 2, 3, 4, 5, 6, 7, 9] rfl rfl rfl (by decide) (by decide) (fun r190 H locs hB J hS => ?_)
                  rcases hB with ⟨rfl, hT1⟩ | ⟨c_191, c_192, c_193, rfl, hT1⟩
                  · skip
                    have hT := J _ hT1
                    have hT : TP D A [(h0, ob 7 [.ref h1, .ref h2, .int h0f2, .ref h3, .ref h4, .ref h5, .int h0f6, .ref h6, .int h0f8, .null, .ref h7, .int h0f11, .ref h8, .ref h9, .ref h10, .ref h11, .ref h12]), (h4, aQ (k 3) 4 (q4 h17 h18 h19 h20)), (h17, ob 5 [.int h17f0, .int h17f1, .ref h37]), (h19, ob 5 [.int h19f0, .int h19f1, .ref h39]), (h37, aJ (k 1) 40 anJ), (h38, aJ (k 1) 40 anJ), (h39, aJ (k 1) 40 anJ), (h40, aJ (k 1) 40 anJ), (h20, ob 5 [.int h20f0, .int h20f1, .ref h40]), (h18, ob 5 [.int h18f0, .int h18f1, .ref h38])] _ := hT
                    refine lv_if_eq (tgt := 93) hx hb dX10_copy_87 (by decide) (fun cc => absurd cc (by decide +kernel)) (fun _ => ?_)
                    refine lv_bipush (v := (-12)) hx hb dX10_copy_90 (by decide) ?_
                    exact tz_retI (B := B_cX10_copy_694ba D k h0 h4 h17 h18 h19 h20 h37 h38 h39 h40 h1 h2 h3 h5 h6 h7 h8 h9 h10 h11 h12 x1 x2 x3 x4 x5 h0f2 h0f6 h0f8 h0f11 h17f0 h17f1 h18f0 h18f1 h19f0 h19f1 h20f0 h20f1) (v := (-12)) hQ hx hb hr hlocks hS (Nat.le_of_ble_eq_true rfl) (Nat.le_of_ble_eq_true rfl) dX10_copy_92 (⟨(by have := li_m12; omega), (hT.sub [0, 1, 2, 9, 3, 8, 4, 5, 6, 7] (by decide) rfl)⟩)
                  · skip
                    have hT := J _ hT1
                    have hT : TP D A [(h0, ob 7 [.ref h1, .ref h2, .int h0f2, .ref h3, .ref h4, .ref h5, .int h0f6, .ref h6, .int h0f8, .null, .ref h7, .int h0f11, .ref h8, .ref h9, .ref h10, .ref h11, .ref h12]), (h4, aQ (k 3) 4 (q4 h17 h18 h19 h20)), (h17, ob 5 [.int h17f0, .int h17f1, .ref h37]), (h19, ob 5 [.int h19f0, .int h19f1, .ref h39]), (h37, aJ (k 1) 40 anJ), (h38, aJ (k 1) 40 anJ), (h39, aJ (k 1) 40 anJ), (h40, aJ (k 1) 40 anJ), (h20, ob 5 [.int h20f0, .int h20f1, .ref h40]), (h18, ob 5 [.int h18f0, .int h18f1, .ref h38])] _ := hT
                    refine lv_if_eq (tgt := 93) hx hb dX10_copy_87 (by decide) (fun _ => ?_) (fun cc => absurd (by decide +kernel) cc)
                    refine lv_aload hx hb dX10_copy_93 (lv_at hl 1 rfl) ?_
                    refine tz_get (ci := 5) (v := .ref h40) (C := RX6) (F := TX6) (N := 3) hx hb hU iX6 hown hK hT 8 rfl rfl 2 (by decide) w241 (fun _ h9 => h9) rfl dX10_copy_95 ?_
                    refine lv_iload_n hx hb dX10_copy_98 rfl (lv_at hl 4 rfl) ?_
                    refine lv_aload hx hb dX10_copy_99 (lv_at hl 0 rfl) ?_
                    refine tz_get (ci := 5) (v := .ref h38) (C := RX6) (F := TX6) (N := 3) hx hb hU iX6 hown hK hT 9 rfl rfl 2 (by decide) w241 (fun _ h9 => h9) rfl dX10_copy_101 ?_
                    refine lv_iload hx hb dX10_copy_104 (lv_at hl 6 rfl) ?_
                    refine lv_iload hx hb dX10_copy_106 (lv_at hl 7 rfl) ?_
                    refine tz_copyl hx hb (by rw [hml]; exact hl.1.symm) hown hU w410 w348 w347 w75 hK hT hS 7 5 rfl rfl (by omega) (fun _ _ _ _ => trivial) (Nat.le_of_ble_eq_true rfl) (Nat.le_of_ble_eq_true rfl) dX10_copy_108 (fun H locs hT hS => ?_)
                    refine lv_iload hx hb dX10_copy_111 (lv_at hl 7 rfl) ?_
                    exact tz_retI (B := B_cX10_copy_694ba D k h0 h4 h17 h18 h19 h20 h37 h38 h39 h40 h1 h2 h3 h5 h6 h7 h8 h9 h10 h11 h12 x1 x2 x3 x4 x5 h0f2 h0f6 h0f8 h0f11 h17f0 h17f1 h18f0 h18f1 h19f0 h19f1 h20f0 h20f1) (v := x5) hQ hx hb hr hlocks hS (Nat.le_of_ble_eq_true rfl) (Nat.le_of_ble_eq_true rfl) dX10_copy_113 (⟨(by omega), (hT.sub [0, 1, 2, 9, 3, 8, 4, 5, 6, 7] (by decide) rfl)⟩)
              · skip
                have c_185 := ni_ne c_185 rfl rfl
                refine lv_bipush (v := (-13)) hx hb dX10_copy_64 (by decide) ?_
                exact tz_retI (B := B_cX10_copy_694ba D k h0 h4 h17 h18 h19 h20 h37 h38 h39 h40 h1 h2 h3 h5 h6 h7 h8 h9 h10 h11 h12 x1 x2 x3 x4 x5 h0f2 h0f6 h0f8 h0f11 h17f0 h17f1 h18f0 h18f1 h19f0 h19f1 h20f0 h20f1) (v := (-13)) hQ hx hb hr hlocks hS (Nat.le_of_ble_eq_true rfl) (Nat.le_of_ble_eq_true rfl) dX10_copy_66 (⟨(by have := li_m13; omega), (hT.sub [0, 1, 2, 9, 3, 8, 4, 5, 6, 7] (by decide) rfl)⟩)
            · skip
              have hT := J _ hT1
              have hT : TP D A [(h0, ob 7 [.ref h1, .ref h2, .int h0f2, .ref h3, .ref h4, .ref h5, .int h0f6, .ref h6, .int h0f8, .null, .ref h7, .int h0f11, .ref h8, .ref h9, .ref h10, .ref h11, .ref h12]), (h4, aQ (k 3) 4 (q4 h17 h18 h19 h20)), (h17, ob 5 [.int h17f0, .int h17f1, .ref h37]), (h19, ob 5 [.int h19f0, .int h19f1, .ref h39]), (h37, aJ (k 1) 40 anJ), (h38, aJ (k 1) 40 anJ), (h39, aJ (k 1) 40 anJ), (h40, aJ (k 1) 40 anJ), (h20, ob 5 [.int h20f0, .int h20f1, .ref h40]), (h18, ob 5 [.int h18f0, .int h18f1, .ref h38])] _ := hT
              refine lv_if_eq (tgt := 51) hx hb dX10_copy_45 (by decide) (fun cc => absurd cc (by decide +kernel)) (fun _ => ?_)
              refine lv_bipush (v := (-11)) hx hb dX10_copy_48 (by decide) ?_
              exact tz_retI (B := B_cX10_copy_694ba D k h0 h4 h17 h18 h19 h20 h37 h38 h39 h40 h1 h2 h3 h5 h6 h7 h8 h9 h10 h11 h12 x1 x2 x3 x4 x5 h0f2 h0f6 h0f8 h0f11 h17f0 h17f1 h18f0 h18f1 h19f0 h19f1 h20f0 h20f1) (v := (-11)) hQ hx hb hr hlocks hS (Nat.le_of_ble_eq_true rfl) (Nat.le_of_ble_eq_true rfl) dX10_copy_50 (⟨(by have := li_m11; omega), (hT.sub [0, 1, 2, 9, 3, 8, 4, 5, 6, 7] (by decide) rfl)⟩)
          · skip
            have hT := J _ hT1
            have hT : TP D A [(h0, ob 7 [.ref h1, .ref h2, .int h0f2, .ref h3, .ref h4, .ref h5, .int h0f6, .ref h6, .int h0f8, .null, .ref h7, .int h0f11, .ref h8, .ref h9, .ref h10, .ref h11, .ref h12]), (h4, aQ (k 3) 4 (q4 h17 h18 h19 h20)), (h17, ob 5 [.int h17f0, .int h17f1, .ref h37]), (h18, ob 5 [.int h18f0, .int h18f1, .ref h38]), (h19, ob 5 [.int h19f0, .int h19f1, .ref h39]), (h37, aJ (k 1) 40 anJ), (h38, aJ (k 1) 40 anJ), (h39, aJ (k 1) 40 anJ), (h40, aJ (k 1) 40 anJ), (h20, ob 5 [.int h20f0, .int h20f1, .ref h40])] _ := hT
            refine lv_if_ne (tgt := 48) hx hb dX10_copy_37 (by decide) (fun _ => ?_) (fun cc => absurd cc (by decide +kernel))
            refine lv_bipush (v := (-11)) hx hb dX10_copy_48 (by decide) ?_
            exact tz_retI (B := B_cX10_copy_694ba D k h0 h4 h17 h18 h19 h20 h37 h38 h39 h40 h1 h2 h3 h5 h6 h7 h8 h9 h10 h11 h12 x1 x2 x3 x4 x5 h0f2 h0f6 h0f8 h0f11 h17f0 h17f1 h18f0 h18f1 h19f0 h19f1 h20f0 h20f1) (v := (-11)) hQ hx hb hr hlocks hS (Nat.le_of_ble_eq_true rfl) (Nat.le_of_ble_eq_true rfl) dX10_copy_50 (⟨(by have := li_m11; omega), (hT.sub [0, 1, 2, 3, 4, 9, 5, 6, 7, 8] (by decide) rfl)⟩)
        · skip
          refine tz_aldq (b := h19) hx hb hK hT 1 rfl (vp_in_iff.mpr (by have := hq167; omega)) (fun f hf => by rw [cl_of hq167]; exact hf.2.2.1) dX10_copy_29 ?_
          refine lv_astore (lv' := [(7, .ref h19), (6, .ref h20), (0, .ref h0), (1, .int x1), (2, .int x2), (3, .int x3), (4, .int x4), (5, .int x5)]) hx hb dX10_copy_30 hl (by decide) rfl (fun ls hl => ?_)
          refine lv_aload hx hb dX10_copy_32 (lv_at hl 1 rfl) ?_
          refine tcI (Tc := [(h20, ob 5 [.int h20f0, .int h20f1, .ref h40])]) (Tr := [(h0, ob 7 [.ref h1, .ref h2, .int h0f2, .ref h3, .ref h4, .ref h5, .int h0f6, .ref h6, .int h0f8, .null, .ref h7, .int h0f11, .ref h8, .ref h9, .ref h10, .ref h11, .ref h12]), (h4, aQ (k 3) 4 (q4 h17 h18 h19 h20)), (h17, ob 5 [.int h17f0, .int h17f1, .ref h37]), (h18, ob 5 [.int h18f0, .int h18f1, .ref h38]), (h19, ob 5 [.int h19f0, .int h19f1, .ref h39]), (h37, aJ (k 1) 40 anJ), (h38, aJ (k 1) 40 anJ), (h39, aJ (k 1) 40 anJ), (h40, aJ (k 1) 40 anJ)]) (as := [h20]) (zcV (q0 := 5) (ci := 5) (As := []) (rest := []) (Tc := [(h20, ob 5 [.int h20f0, .int h20f1, .ref h40])]) hx hb hml hown hU hK hT rfl rfl [5] rfl (by decide) (cX6_isMissing_56a93 l D k _ h20 h40 h20f0 h20f1 (by omega) (by omega)) w644 w641 w642 w643 w71 hdX6_isMissing ⟨rfl, rfl⟩ ⟨Nat.le_of_ble_eq_true rfl, Nat.le_of_ble_eq_true rfl⟩ rfl hl.1 (Nat.le_of_ble_eq_true rfl) dX10_copy_34 ⟨Nat.le_of_ble_eq_true rfl, Nat.le_of_ble_eq_true rfl⟩) hT hS hA [5] [0, 1, 2, 3, 4, 6, 7, 8, 9] rfl rfl rfl (by decide) (by decide) (fun r194 H locs hB J hS => ?_)
          rcases hB with ⟨c_195, rfl, hT1⟩ | ⟨rfl, hT1⟩
          · skip
            have hT := J _ hT1
            have hT : TP D A [(h0, ob 7 [.ref h1, .ref h2, .int h0f2, .ref h3, .ref h4, .ref h5, .int h0f6, .ref h6, .int h0f8, .null, .ref h7, .int h0f11, .ref h8, .ref h9, .ref h10, .ref h11, .ref h12]), (h4, aQ (k 3) 4 (q4 h17 h18 h19 h20)), (h17, ob 5 [.int h17f0, .int h17f1, .ref h37]), (h18, ob 5 [.int h18f0, .int h18f1, .ref h38]), (h19, ob 5 [.int h19f0, .int h19f1, .ref h39]), (h37, aJ (k 1) 40 anJ), (h38, aJ (k 1) 40 anJ), (h39, aJ (k 1) 40 anJ), (h40, aJ (k 1) 40 anJ), (h20, ob 5 [.int h20f0, .int h20f1, .ref h40])] _ := hT
            refine lv_if_ne (tgt := 48) hx hb dX10_copy_37 (by decide) (fun cc => absurd (by decide +kernel) cc) (fun _ => ?_)
            refine lv_aload hx hb dX10_copy_40 (lv_at hl 0 rfl) ?_
            refine tcI (Tc := [(h19, ob 5 [.int h19f0, .int h19f1, .ref h39])]) (Tr := [(h0, ob 7 [.ref h1, .ref h2, .int h0f2, .ref h3, .ref h4, .ref h5, .int h0f6, .ref h6, .int h0f8, .null, .ref h7, .int h0f11, .ref h8, .ref h9, .ref h10, .ref h11, .ref h12]), (h4, aQ (k 3) 4 (q4 h17 h18 h19 h20)), (h17, ob 5 [.int h17f0, .int h17f1, .ref h37]), (h18, ob 5 [.int h18f0, .int h18f1, .ref h38]), (h37, aJ (k 1) 40 anJ), (h38, aJ (k 1) 40 anJ), (h39, aJ (k 1) 40 anJ), (h40, aJ (k 1) 40 anJ), (h20, ob 5 [.int h20f0, .int h20f1, .ref h40])]) (as := [h19]) (zcV (q0 := 4) (ci := 5) (As := []) (rest := []) (Tc := [(h19, ob 5 [.int h19f0, .int h19f1, .ref h39])]) hx hb hml hown hU hK hT rfl rfl [4] rfl (by decide) (cX6_isMissing_56a93 l D k _ h19 h39 h19f0 h19f1 (by omega) (by omega)) w644 w641 w642 w643 w71 hdX6_isMissing ⟨rfl, rfl⟩ ⟨Nat.le_of_ble_eq_true rfl, Nat.le_of_ble_eq_true rfl⟩ rfl hl.1 (Nat.le_of_ble_eq_true rfl) dX10_copy_42 ⟨Nat.le_of_ble_eq_true rfl, Nat.le_of_ble_eq_true rfl⟩) hT hS hA [4] [0, 1, 2, 3, 5, 6, 7, 8, 9] rfl rfl rfl (by decide) (by decide) (fun r196 H locs hB J hS => ?_)
            rcases hB with ⟨c_197, rfl, hT1⟩ | ⟨rfl, hT1⟩
            · skip
              have hT := J _ hT1
              have hT : TP D A [(h0, ob 7 [.ref h1, .ref h2, .int h0f2, .ref h3, .ref h4, .ref h5, .int h0f6, .ref h6, .int h0f8, .null, .ref h7, .int h0f11, .ref h8, .ref h9, .ref h10, .ref h11, .ref h12]), (h4, aQ (k 3) 4 (q4 h17 h18 h19 h20)), (h17, ob 5 [.int h17f0, .int h17f1, .ref h37]), (h18, ob 5 [.int h18f0, .int h18f1, .ref h38]), (h37, aJ (k 1) 40 anJ), (h38, aJ (k 1) 40 anJ), (h39, aJ (k 1) 40 anJ), (h40, aJ (k 1) 40 anJ), (h20, ob 5 [.int h20f0, .int h20f1, .ref h40]), (h19, ob 5 [.int h19f0, .int h19f1, .ref h39])] _ := hT
              refine lv_if_eq (tgt := 51) hx hb dX10_copy_45 (by decide) (fun _ => ?_) (fun cc => absurd (by decide +kernel) cc)
              refine lv_aload hx hb dX10_copy_51 (lv_at hl 1 rfl) ?_
              refine tz_get (ci := 5) (v := .int h20f0) (C := RX6) (F := TX6) (N := 3) hx hb hU iX6 hown hK hT 8 rfl rfl 0 (by decide) w238 (fun _ h9 => h9) rfl dX10_copy_53 ?_
              refine lv_aload hx hb dX10_copy_56 (lv_at hl 0 rfl) ?_
              refine tz_get (ci := 5) (v := .int h19f0) (C := RX6) (F := TX6) (N := 3) hx hb hU iX6 hown hK hT 9 rfl rfl 0 (by decide) w238 (fun _ h9 => h9) rfl dX10_copy_58 ?_
              refine lv_icmp_eq (tgt := 67) hx hb dX10_copy_61 (by decide) (fun c_198 => ?_) (fun c_198 => ?_)
              · skip
                have c_198 := ni_eq c_198 rfl rfl
                refine lv_aload hx hb dX10_copy_67 (lv_at hl 1 rfl) ?_
                refine lv_iload_n hx hb dX10_copy_69 rfl (lv_at hl 4 rfl) ?_
                refine lv_iload hx hb dX10_copy_70 (lv_at hl 7 rfl) ?_
                refine tcI (Tc := [(h20, ob 5 [.int h20f0, .int h20f1, .ref h40])]) (Tr := [(h0, ob 7 [.ref h1, .ref h2, .int h0f2, .ref h3, .ref h4, .ref h5, .int h0f6, .ref h6, .int h0f8, .null, .ref h7, .int h0f11, .ref h8, .ref h9, .ref h10, .ref h11, .ref h12]), (h4, aQ (k 3) 4 (q4 h17 h18 h19 h20)), (h17, ob 5 [.int h17f0, .int h17f1, .ref h37]), (h18, ob 5 [.int h18f0, .int h18f1, .ref h38]), (h37, aJ (k 1) 40 anJ), (h38, aJ (k 1) 40 anJ), (h39, aJ (k 1) 40 anJ), (h40, aJ (k 1) 40 anJ), (h19, ob 5 [.int h19f0, .int h19f1, .ref h39])]) (as := [h20]) (zcV (q0 := 8) (ci := 5) (As := [.int x2, .int x5]) (rest := []) (Tc := [(h20, ob 5 [.int h20f0, .int h20f1, .ref h40])]) hx hb hml hown hU hK hT rfl rfl [8] rfl (by decide) (cX6_isOutside_cc85b l D k _ h20 h40 x2 x5 h20f0 h20f1 (by omega) (by omega)) w648 w645 w646 w647 w71 hdX6_isOutside ⟨rfl, rfl⟩ ⟨Nat.le_of_ble_eq_true rfl, Nat.le_of_ble_eq_true rfl⟩ rfl hl.1 (Nat.le_of_ble_eq_true rfl) dX10_copy_72 ⟨Nat.le_of_ble_eq_true rfl, Nat.le_of_ble_eq_true rfl⟩) hT hS hA [8] [0, 1, 2, 3, 4, 5, 6, 7, 9] rfl rfl rfl (by decide) (by decide) (fun r199 H locs hB J hS => ?_)
                rcases hB with ⟨rfl, hT1⟩ | ⟨c_200, c_201, c_202, rfl, hT1⟩
                · skip
                  have hT := J _ hT1
                  have hT : TP D A [(h0, ob 7 [.ref h1, .ref h2, .int h0f2, .ref h3, .ref h4, .ref h5, .int h0f6, .ref h6, .int h0f8, .null, .ref h7, .int h0f11, .ref h8, .ref h9, .ref h10, .ref h11, .ref h12]), (h4, aQ (k 3) 4 (q4 h17 h18 h19 h20)), (h17, ob 5 [.int h17f0, .int h17f1, .ref h37]), (h18, ob 5 [.int h18f0, .int h18f1, .ref h38]), (h37, aJ (k 1) 40 anJ), (h38, aJ (k 1) 40 anJ), (h39, aJ (k 1) 40 anJ), (h40, aJ (k 1) 40 anJ), (h19, ob 5 [.int h19f0, .int h19f1, .ref h39]), (h20, ob 5 [.int h20f0, .int h20f1, .ref h40])] _ := hT
                  refine lv_if_ne (tgt := 90) hx hb dX10_copy_75 (by decide) (fun _ => ?_) (fun cc => absurd cc (by decide +kernel))
                  refine lv_bipush (v := (-12)) hx hb dX10_copy_90 (by decide) ?_
                  exact tz_retI (B := B_cX10_copy_694ba D k h0 h4 h17 h18 h19 h20 h37 h38 h39 h40 h1 h2 h3 h5 h6 h7 h8 h9 h10 h11 h12 x1 x2 x3 x4 x5 h0f2 h0f6 h0f8 h0f11 h17f0 h17f1 h18f0 h18f1 h19f0 h19f1 h20f0 h20f1) (v := (-12)) hQ hx hb hr hlocks hS (Nat.le_of_ble_eq_true rfl) (Nat.le_of_ble_eq_true rfl) dX10_copy_92 (⟨(by have := li_m12; omega), (hT.sub [0, 1, 2, 3, 8, 9, 4, 5, 6, 7] (by decide) rfl)⟩)
                · skip
                  have hT := J _ hT1
                  have hT : TP D A [(h0, ob 7 [.ref h1, .ref h2, .int h0f2, .ref h3, .ref h4, .ref h5, .int h0f6, .ref h6, .int h0f8, .null, .ref h7, .int h0f11, .ref h8, .ref h9, .ref h10, .ref h11, .ref h12]), (h4, aQ (k 3) 4 (q4 h17 h18 h19 h20)), (h17, ob 5 [.int h17f0, .int h17f1, .ref h37]), (h18, ob 5 [.int h18f0, .int h18f1, .ref h38]), (h37, aJ (k 1) 40 anJ), (h38, aJ (k 1) 40 anJ), (h39, aJ (k 1) 40 anJ), (h40, aJ (k 1) 40 anJ), (h19, ob 5 [.int h19f0, .int h19f1, .ref h39]), (h20, ob 5 [.int h20f0, .int h20f1, .ref h40])] _ := hT
                  refine lv_if_ne (tgt := 90) hx hb dX10_copy_75 (by decide) (fun cc => absurd (by decide +kernel) cc) (fun _ => ?_)
                  refine lv_aload hx hb dX10_copy_78 (lv_at hl 0 rfl) ?_
                  refine lv_iload hx hb dX10_copy_80 (lv_at hl 6 rfl) ?_
                  refine lv_iload hx hb dX10_copy_82 (lv_at hl 7 rfl) ?_
                  refine tcI (Tc := [(h19, ob 5 [.int h19f0, .int h19f1, .ref h39])]) (Tr := [(h0, ob 7 [.ref h1, .ref h2, .int h0f2, .ref h3, .ref h4, .ref h5, .int h0f6, .ref h6, .int h0f8, .null, .ref h7, .int h0f11, .ref h8, .ref h9, .ref h10, .ref h11, .ref h12]), (h4, aQ (k 3) 4 (q4 h17 h18 h19 h20)), (h17, ob 5 [.int h17f0, .int h17f1, .ref h37]), (h18, ob 5 [.int h18f0, .int h18f1, .ref h38]), (h37, aJ (k 1) 40 anJ), (h38, aJ (k 1) 40 anJ), (h39, aJ (k 1) 40 anJ), (h40, aJ (k 1) 40 anJ), (h20, ob 5 [.int h20f0, .int h20f1, .ref h40])]) (as := [h19]) (zcV (q0 := 8) (ci := 5) (As := [.int x4, .int x5]) (rest := []) (Tc := [(h19, ob 5 [.int h19f0, .int h19f1, .ref h39])]) hx hb hml hown hU hK hT rfl rfl [8] rfl (by decide) (cX6_isOutside_cc85b l D k _ h19 h39 x4 x5 h19f0 h19f1 (by omega) (by omega)) w648 w645 w646 w647 w71 hdX6_isOutside ⟨rfl, rfl⟩ ⟨Nat.le_of_ble_eq_true rfl, Nat.le_of_ble_eq_true rfl⟩ rfl hl.1 (Nat.le_of_ble_eq_true rfl) dX10_copy_84 ⟨Nat.le_of_ble_eq_true rfl, Nat.le_of_ble_eq_true rfl⟩) hT hS hA [8] [0, 1, 2, 3, 4, 5, 6, 7, 9] rfl rfl rfl (by decide) (by decide) (fun r203 H locs hB J hS => ?_)
                  rcases hB with ⟨rfl, hT1⟩ | ⟨c_204, c_205, c_206, rfl, hT1⟩
                  · skip
                    have hT := J _ hT1
                    have hT : TP D A [(h0, ob 7 [.ref h1, .ref h2, .int h0f2, .ref h3, .ref h4, .ref h5, .int h0f6, .ref h6, .int h0f8, .null, .ref h7, .int h0f11, .ref h8, .ref h9, .ref h10, .ref h11, .ref h12]), (h4, aQ (k 3) 4 (q4 h17 h18 h19 h20)), (h17, ob 5 [.int h17f0, .int h17f1, .ref h37]), (h18, ob 5 [.int h18f0, .int h18f1, .ref h38]), (h37, aJ (k 1) 40 anJ), (h38, aJ (k 1) 40 anJ), (h39, aJ (k 1) 40 anJ), (h40, aJ (k 1) 40 anJ), (h20, ob 5 [.int h20f0, .int h20f1, .ref h40]), (h19, ob 5 [.int h19f0, .int h19f1, .ref h39])] _ := hT
                    refine lv_if_eq (tgt := 93) hx hb dX10_copy_87 (by decide) (fun cc => absurd cc (by decide +kernel)) (fun _ => ?_)
                    refine lv_bipush (v := (-12)) hx hb dX10_copy_90 (by decide) ?_
                    exact tz_retI (B := B_cX10_copy_694ba D k h0 h4 h17 h18 h19 h20 h37 h38 h39 h40 h1 h2 h3 h5 h6 h7 h8 h9 h10 h11 h12 x1 x2 x3 x4 x5 h0f2 h0f6 h0f8 h0f11 h17f0 h17f1 h18f0 h18f1 h19f0 h19f1 h20f0 h20f1) (v := (-12)) hQ hx hb hr hlocks hS (Nat.le_of_ble_eq_true rfl) (Nat.le_of_ble_eq_true rfl) dX10_copy_92 (⟨(by have := li_m12; omega), (hT.sub [0, 1, 2, 3, 9, 8, 4, 5, 6, 7] (by decide) rfl)⟩)
                  · skip
                    have hT := J _ hT1
                    have hT : TP D A [(h0, ob 7 [.ref h1, .ref h2, .int h0f2, .ref h3, .ref h4, .ref h5, .int h0f6, .ref h6, .int h0f8, .null, .ref h7, .int h0f11, .ref h8, .ref h9, .ref h10, .ref h11, .ref h12]), (h4, aQ (k 3) 4 (q4 h17 h18 h19 h20)), (h17, ob 5 [.int h17f0, .int h17f1, .ref h37]), (h18, ob 5 [.int h18f0, .int h18f1, .ref h38]), (h37, aJ (k 1) 40 anJ), (h38, aJ (k 1) 40 anJ), (h39, aJ (k 1) 40 anJ), (h40, aJ (k 1) 40 anJ), (h20, ob 5 [.int h20f0, .int h20f1, .ref h40]), (h19, ob 5 [.int h19f0, .int h19f1, .ref h39])] _ := hT
                    refine lv_if_eq (tgt := 93) hx hb dX10_copy_87 (by decide) (fun _ => ?_) (fun cc => absurd (by decide +kernel) cc)
                    refine lv_aload hx hb dX10_copy_93 (lv_at hl 1 rfl) ?_
                    refine tz_get (ci := 5) (v := .ref h40) (C := RX6) (F := TX6) (N := 3) hx hb hU iX6 hown hK hT 8 rfl rfl 2 (by decide) w241 (fun _ h9 => h9) rfl dX10_copy_95 ?_
                    refine lv_iload_n hx hb dX10_copy_98 rfl (lv_at hl 4 rfl) ?_
                    refine lv_aload hx hb dX10_copy_99 (lv_at hl 0 rfl) ?_
                    refine tz_get (ci := 5) (v := .ref h39) (C := RX6) (F := TX6) (N := 3) hx hb hU iX6 hown hK hT 9 rfl rfl 2 (by decide) w241 (fun _ h9 => h9) rfl dX10_copy_101 ?_
                    refine lv_iload hx hb dX10_copy_104 (lv_at hl 6 rfl) ?_
                    refine lv_iload hx hb dX10_copy_106 (lv_at hl 7 rfl) ?_
                    refine tz_copyl hx hb (by rw [hml]; exact hl.1.symm) hown hU w410 w348 w347 w75 hK hT hS 7 6 rfl rfl (by omega) (fun _ _ _ _ => trivial) (Nat.le_of_ble_eq_true rfl) (Nat.le_of_ble_eq_true rfl) dX10_copy_108 (fun H locs hT hS => ?_)
                    refine lv_iload hx hb dX10_copy_111 (lv_at hl 7 rfl) ?_
                    exact tz_retI (B := B_cX10_copy_694ba D k h0 h4 h17 h18 h19 h20 h37 h38 h39 h40 h1 h2 h3 h5 h6 h7 h8 h9 h10 h11 h12 x1 x2 x3 x4 x5 h0f2 h0f6 h0f8 h0f11 h17f0 h17f1 h18f0 h18f1 h19f0 h19f1 h20f0 h20f1) (v := x5) hQ hx hb hr hlocks hS (Nat.le_of_ble_eq_true rfl) (Nat.le_of_ble_eq_true rfl) dX10_copy_113 (⟨(by omega), (hT.sub [0, 1, 2, 3, 9, 8, 4, 5, 6, 7] (by decide) rfl)⟩)
              · skip
                have c_198 := ni_ne c_198 rfl rfl
                refine lv_bipush (v := (-13)) hx hb dX10_copy_64 (by decide) ?_
                exact tz_retI (B := B_cX10_copy_694ba D k h0 h4 h17 h18 h19 h20 h37 h38 h39 h40 h1 h2 h3 h5 h6 h7 h8 h9 h10 h11 h12 x1 x2 x3 x4 x5 h0f2 h0f6 h0f8 h0f11 h17f0 h17f1 h18f0 h18f1 h19f0 h19f1 h20f0 h20f1) (v := (-13)) hQ hx hb hr hlocks hS (Nat.le_of_ble_eq_true rfl) (Nat.le_of_ble_eq_true rfl) dX10_copy_66 (⟨(by have := li_m13; omega), (hT.sub [0, 1, 2, 3, 9, 8, 4, 5, 6, 7] (by decide) rfl)⟩)
            · skip
              have hT := J _ hT1
              have hT : TP D A [(h0, ob 7 [.ref h1, .ref h2, .int h0f2, .ref h3, .ref h4, .ref h5, .int h0f6, .ref h6, .int h0f8, .null, .ref h7, .int h0f11, .ref h8, .ref h9, .ref h10, .ref h11, .ref h12]), (h4, aQ (k 3) 4 (q4 h17 h18 h19 h20)), (h17, ob 5 [.int h17f0, .int h17f1, .ref h37]), (h18, ob 5 [.int h18f0, .int h18f1, .ref h38]), (h37, aJ (k 1) 40 anJ), (h38, aJ (k 1) 40 anJ), (h39, aJ (k 1) 40 anJ), (h40, aJ (k 1) 40 anJ), (h20, ob 5 [.int h20f0, .int h20f1, .ref h40]), (h19, ob 5 [.int h19f0, .int h19f1, .ref h39])] _ := hT
              refine lv_if_eq (tgt := 51) hx hb dX10_copy_45 (by decide) (fun cc => absurd cc (by decide +kernel)) (fun _ => ?_)
              refine lv_bipush (v := (-11)) hx hb dX10_copy_48 (by decide) ?_
              exact tz_retI (B := B_cX10_copy_694ba D k h0 h4 h17 h18 h19 h20 h37 h38 h39 h40 h1 h2 h3 h5 h6 h7 h8 h9 h10 h11 h12 x1 x2 x3 x4 x5 h0f2 h0f6 h0f8 h0f11 h17f0 h17f1 h18f0 h18f1 h19f0 h19f1 h20f0 h20f1) (v := (-11)) hQ hx hb hr hlocks hS (Nat.le_of_ble_eq_true rfl) (Nat.le_of_ble_eq_true rfl) dX10_copy_50 (⟨(by have := li_m11; omega), (hT.sub [0, 1, 2, 3, 9, 8, 4, 5, 6, 7] (by decide) rfl)⟩)
          · skip
            have hT := J _ hT1
            have hT : TP D A [(h0, ob 7 [.ref h1, .ref h2, .int h0f2, .ref h3, .ref h4, .ref h5, .int h0f6, .ref h6, .int h0f8, .null, .ref h7, .int h0f11, .ref h8, .ref h9, .ref h10, .ref h11, .ref h12]), (h4, aQ (k 3) 4 (q4 h17 h18 h19 h20)), (h17, ob 5 [.int h17f0, .int h17f1, .ref h37]), (h18, ob 5 [.int h18f0, .int h18f1, .ref h38]), (h19, ob 5 [.int h19f0, .int h19f1, .ref h39]), (h37, aJ (k 1) 40 anJ), (h38, aJ (k 1) 40 anJ), (h39, aJ (k 1) 40 anJ), (h40, aJ (k 1) 40 anJ), (h20, ob 5 [.int h20f0, .int h20f1, .ref h40])] _ := hT
            refine lv_if_ne (tgt := 48) hx hb dX10_copy_37 (by decide) (fun _ => ?_) (fun cc => absurd cc (by decide +kernel))
            refine lv_bipush (v := (-11)) hx hb dX10_copy_48 (by decide) ?_
            exact tz_retI (B := B_cX10_copy_694ba D k h0 h4 h17 h18 h19 h20 h37 h38 h39 h40 h1 h2 h3 h5 h6 h7 h8 h9 h10 h11 h12 x1 x2 x3 x4 x5 h0f2 h0f6 h0f8 h0f11 h17f0 h17f1 h18f0 h18f1 h19f0 h19f1 h20f0 h20f1) (v := (-11)) hQ hx hb hr hlocks hS (Nat.le_of_ble_eq_true rfl) (Nat.le_of_ble_eq_true rfl) dX10_copy_50 (⟨(by have := li_m11; omega), (hT.sub [0, 1, 2, 3, 4, 9, 5, 6, 7, 8] (by decide) rfl)⟩)
        · skip
          refine tz_aldq (b := h20) hx hb hK hT 1 rfl (vp_in_iff.mpr (by have := hq167; omega)) (fun f hf => by rw [cl_of hq167]; exact hf.2.2.2) dX10_copy_29 ?_
          refine lv_astore (lv' := [(7, .ref h20), (6, .ref h20), (0, .ref h0), (1, .int x1), (2, .int x2), (3, .int x3), (4, .int x4), (5, .int x5)]) hx hb dX10_copy_30 hl (by decide) rfl (fun ls hl => ?_)
          refine lv_aload hx hb dX10_copy_32 (lv_at hl 1 rfl) ?_
          refine tcI (Tc := [(h20, ob 5 [.int h20f0, .int h20f1, .ref h40])]) (Tr := [(h0, ob 7 [.ref h1, .ref h2, .int h0f2, .ref h3, .ref h4, .ref h5, .int h0f6, .ref h6, .int h0f8, .null, .ref h7, .int h0f11, .ref h8, .ref h9, .ref h10, .ref h11, .ref h12]), (h4, aQ (k 3) 4 (q4 h17 h18 h19 h20)), (h17, ob 5 [.int h17f0, .int h17f1, .ref h37]), (h18, ob 5 [.int h18f0, .int h18f1, .ref h38]), (h19, ob 5 [.int h19f0, .int h19f1, .ref h39]), (h37, aJ (k 1) 40 anJ), (h38, aJ (k 1) 40 anJ), (h39, aJ (k 1) 40 anJ), (h40, aJ (k 1) 40 anJ)]) (as := [h20]) (zcV (q0 := 5) (ci := 5) (As := []) (rest := []) (Tc := [(h20, ob 5 [.int h20f0, .int h20f1, .ref h40])]) hx hb hml hown hU hK hT rfl rfl [5] rfl (by decide) (cX6_isMissing_56a93 l D k _ h20 h40 h20f0 h20f1 (by omega) (by omega)) w644 w641 w642 w643 w71 hdX6_isMissing ⟨rfl, rfl⟩ ⟨Nat.le_of_ble_eq_true rfl, Nat.le_of_ble_eq_true rfl⟩ rfl hl.1 (Nat.le_of_ble_eq_true rfl) dX10_copy_34 ⟨Nat.le_of_ble_eq_true rfl, Nat.le_of_ble_eq_true rfl⟩) hT hS hA [5] [0, 1, 2, 3, 4, 6, 7, 8, 9] rfl rfl rfl (by decide) (by decide) (fun r207 H locs hB J hS => ?_)
          rcases hB with ⟨c_208, rfl, hT1⟩ | ⟨rfl, hT1⟩
          · skip
            have hT := J _ hT1
            have hT : TP D A [(h0, ob 7 [.ref h1, .ref h2, .int h0f2, .ref h3, .ref h4, .ref h5, .int h0f6, .ref h6, .int h0f8, .null, .ref h7, .int h0f11, .ref h8, .ref h9, .ref h10, .ref h11, .ref h12]), (h4, aQ (k 3) 4 (q4 h17 h18 h19 h20)), (h17, ob 5 [.int h17f0, .int h17f1, .ref h37]), (h18, ob 5 [.int h18f0, .int h18f1, .ref h38]), (h19, ob 5 [.int h19f0, .int h19f1, .ref h39]), (h37, aJ (k 1) 40 anJ), (h38, aJ (k 1) 40 anJ), (h39, aJ (k 1) 40 anJ), (h40, aJ (k 1) 40 anJ), (h20, ob 5 [.int h20f0, .int h20f1, .ref h40])] _ := hT
            refine lv_if_ne (tgt := 48) hx hb dX10_copy_37 (by decide) (fun cc => absurd (by decide +kernel) cc) (fun _ => ?_)
            refine lv_aload hx hb dX10_copy_40 (lv_at hl 0 rfl) ?_
            refine tcI (Tc := [(h20, ob 5 [.int h20f0, .int h20f1, .ref h40])]) (Tr := [(h0, ob 7 [.ref h1, .ref h2, .int h0f2, .ref h3, .ref h4, .ref h5, .int h0f6, .ref h6, .int h0f8, .null, .ref h7, .int h0f11, .ref h8, .ref h9, .ref h10, .ref h11, .ref h12]), (h4, aQ (k 3) 4 (q4 h17 h18 h19 h20)), (h17, ob 5 [.int h17f0, .int h17f1, .ref h37]), (h18, ob 5 [.int h18f0, .int h18f1, .ref h38]), (h19, ob 5 [.int h19f0, .int h19f1, .ref h39]), (h37, aJ (k 1) 40 anJ), (h38, aJ (k 1) 40 anJ), (h39, aJ (k 1) 40 anJ), (h40, aJ (k 1) 40 anJ)]) (as := [h20]) (zcV (q0 := 9) (ci := 5) (As := []) (rest := []) (Tc := [(h20, ob 5 [.int h20f0, .int h20f1, .ref h40])]) hx hb hml hown hU hK hT rfl rfl [9] rfl (by decide) (cX6_isMissing_56a93 l D k _ h20 h40 h20f0 h20f1 (by omega) (by omega)) w644 w641 w642 w643 w71 hdX6_isMissing ⟨rfl, rfl⟩ ⟨Nat.le_of_ble_eq_true rfl, Nat.le_of_ble_eq_true rfl⟩ rfl hl.1 (Nat.le_of_ble_eq_true rfl) dX10_copy_42 ⟨Nat.le_of_ble_eq_true rfl, Nat.le_of_ble_eq_true rfl⟩) hT hS hA [9] [0, 1, 2, 3, 4, 5, 6, 7, 8] rfl rfl rfl (by decide) (by decide) (fun r209 H locs hB J hS => ?_)
            rcases hB with ⟨c_210, rfl, hT1⟩ | ⟨rfl, hT1⟩
            · skip
              have hT := J _ hT1
              have hT : TP D A [(h0, ob 7 [.ref h1, .ref h2, .int h0f2, .ref h3, .ref h4, .ref h5, .int h0f6, .ref h6, .int h0f8, .null, .ref h7, .int h0f11, .ref h8, .ref h9, .ref h10, .ref h11, .ref h12]), (h4, aQ (k 3) 4 (q4 h17 h18 h19 h20)), (h17, ob 5 [.int h17f0, .int h17f1, .ref h37]), (h18, ob 5 [.int h18f0, .int h18f1, .ref h38]), (h19, ob 5 [.int h19f0, .int h19f1, .ref h39]), (h37, aJ (k 1) 40 anJ), (h38, aJ (k 1) 40 anJ), (h39, aJ (k 1) 40 anJ), (h40, aJ (k 1) 40 anJ), (h20, ob 5 [.int h20f0, .int h20f1, .ref h40])] _ := hT
              refine lv_if_eq (tgt := 51) hx hb dX10_copy_45 (by decide) (fun _ => ?_) (fun cc => absurd (by decide +kernel) cc)
              refine lv_aload hx hb dX10_copy_51 (lv_at hl 1 rfl) ?_
              refine tz_get (ci := 5) (v := .int h20f0) (C := RX6) (F := TX6) (N := 3) hx hb hU iX6 hown hK hT 9 rfl rfl 0 (by decide) w238 (fun _ h9 => h9) rfl dX10_copy_53 ?_
              refine lv_aload hx hb dX10_copy_56 (lv_at hl 0 rfl) ?_
              refine tz_get (ci := 5) (v := .int h20f0) (C := RX6) (F := TX6) (N := 3) hx hb hU iX6 hown hK hT 9 rfl rfl 0 (by decide) w238 (fun _ h9 => h9) rfl dX10_copy_58 ?_
              refine lv_icmp_eq (tgt := 67) hx hb dX10_copy_61 (by decide) (fun c_211 => ?_) (fun c_211 => ?_)
              · skip
                have c_211 := ni_eq c_211 rfl rfl
                refine lv_aload hx hb dX10_copy_67 (lv_at hl 1 rfl) ?_
                refine lv_iload_n hx hb dX10_copy_69 rfl (lv_at hl 4 rfl) ?_
                refine lv_iload hx hb dX10_copy_70 (lv_at hl 7 rfl) ?_
                refine tcI (Tc := [(h20, ob 5 [.int h20f0, .int h20f1, .ref h40])]) (Tr := [(h0, ob 7 [.ref h1, .ref h2, .int h0f2, .ref h3, .ref h4, .ref h5, .int h0f6, .ref h6, .int h0f8, .null, .ref h7, .int h0f11, .ref h8, .ref h9, .ref h10, .ref h11, .ref h12]), (h4, aQ (k 3) 4 (q4 h17 h18 h19 h20)), (h17, ob 5 [.int h17f0, .int h17f1, .ref h37]), (h18, ob 5 [.int h18f0, .int h18f1, .ref h38]), (h19, ob 5 [.int h19f0, .int h19f1, .ref h39]), (h37, aJ (k 1) 40 anJ), (h38, aJ (k 1) 40 anJ), (h39, aJ (k 1) 40 anJ), (h40, aJ (k 1) 40 anJ)]) (as := [h20]) (zcV (q0 := 9) (ci := 5) (As := [.int x2, .int x5]) (rest := []) (Tc := [(h20, ob 5 [.int h20f0, .int h20f1, .ref h40])]) hx hb hml hown hU hK hT rfl rfl [9] rfl (by decide) (cX6_isOutside_cc85b l D k _ h20 h40 x2 x5 h20f0 h20f1 (by omega) (by omega)) w648 w645 w646 w647 w71 hdX6_isOutside ⟨rfl, rfl⟩ ⟨Nat.le_of_ble_eq_true rfl, Nat.le_of_ble_eq_true rfl⟩ rfl hl.1 (Nat.le_of_ble_eq_true rfl) dX10_copy_72 ⟨Nat.le_of_ble_eq_true rfl, Nat.le_of_ble_eq_true rfl⟩) hT hS hA [9] [0, 1, 2, 3, 4, 5, 6, 7, 8] rfl rfl rfl (by decide) (by decide) (fun r212 H locs hB J hS => ?_)
                rcases hB with ⟨rfl, hT1⟩ | ⟨c_213, c_214, c_215, rfl, hT1⟩
                · skip
                  have hT := J _ hT1
                  have hT : TP D A [(h0, ob 7 [.ref h1, .ref h2, .int h0f2, .ref h3, .ref h4, .ref h5, .int h0f6, .ref h6, .int h0f8, .null, .ref h7, .int h0f11, .ref h8, .ref h9, .ref h10, .ref h11, .ref h12]), (h4, aQ (k 3) 4 (q4 h17 h18 h19 h20)), (h17, ob 5 [.int h17f0, .int h17f1, .ref h37]), (h18, ob 5 [.int h18f0, .int h18f1, .ref h38]), (h19, ob 5 [.int h19f0, .int h19f1, .ref h39]), (h37, aJ (k 1) 40 anJ), (h38, aJ (k 1) 40 anJ), (h39, aJ (k 1) 40 anJ), (h40, aJ (k 1) 40 anJ), (h20, ob 5 [.int h20f0, .int h20f1, .ref h40])] _ := hT
                  refine lv_if_ne (tgt := 90) hx hb dX10_copy_75 (by decide) (fun _ => ?_) (fun cc => absurd cc (by decide +kernel))
                  refine lv_bipush (v := (-12)) hx hb dX10_copy_90 (by decide) ?_
                  exact tz_retI (B := B_cX10_copy_694ba D k h0 h4 h17 h18 h19 h20 h37 h38 h39 h40 h1 h2 h3 h5 h6 h7 h8 h9 h10 h11 h12 x1 x2 x3 x4 x5 h0f2 h0f6 h0f8 h0f11 h17f0 h17f1 h18f0 h18f1 h19f0 h19f1 h20f0 h20f1) (v := (-12)) hQ hx hb hr hlocks hS (Nat.le_of_ble_eq_true rfl) (Nat.le_of_ble_eq_true rfl) dX10_copy_92 (⟨(by have := li_m12; omega), (hT.sub [0, 1, 2, 3, 4, 9, 5, 6, 7, 8] (by decide) rfl)⟩)
                · skip
                  have hT := J _ hT1
                  have hT : TP D A [(h0, ob 7 [.ref h1, .ref h2, .int h0f2, .ref h3, .ref h4, .ref h5, .int h0f6, .ref h6, .int h0f8, .null, .ref h7, .int h0f11, .ref h8, .ref h9, .ref h10, .ref h11, .ref h12]), (h4, aQ (k 3) 4 (q4 h17 h18 h19 h20)), (h17, ob 5 [.int h17f0, .int h17f1, .ref h37]), (h18, ob 5 [.int h18f0, .int h18f1, .ref h38]), (h19, ob 5 [.int h19f0, .int h19f1, .ref h39]), (h37, aJ (k 1) 40 anJ), (h38, aJ (k 1) 40 anJ), (h39, aJ (k 1) 40 anJ), (h40, aJ (k 1) 40 anJ), (h20, ob 5 [.int h20f0, .int h20f1, .ref h40])] _ := hT
                  refine lv_if_ne (tgt := 90) hx hb dX10_copy_75 (by decide) (fun cc => absurd (by decide +kernel) cc) (fun _ => ?_)
                  refine lv_aload hx hb dX10_copy_78 (lv_at hl 0 rfl) ?_
                  refine lv_iload hx hb dX10_copy_80 (lv_at hl 6 rfl) ?_
                  refine lv_iload hx hb dX10_copy_82 (lv_at hl 7 rfl) ?_
                  refine tcI (Tc := [(h20, ob 5 [.int h20f0, .int h20f1, .ref h40])]) (Tr := [(h0, ob 7 [.ref h1, .ref h2, .int h0f2, .ref h3, .ref h4, .ref h5, .int h0f6, .ref h6, .int h0f8, .null, .ref h7, .int h0f11, .ref h8, .ref h9, .ref h10, .ref h11, .ref h12]), (h4, aQ (k 3) 4 (q4 h17 h18 h19 h20)), (h17, ob 5 [.int h17f0, .int h17f1, .ref h37]), (h18, ob 5 [.int h18f0, .int h18f1, .ref h38]), (h19, ob 5 [.int h19f0, .int h19f1, .ref h39]), (h37, aJ (k 1) 40 anJ), (h38, aJ (k 1) 40 anJ), (h39, aJ (k 1) 40 anJ), (h40, aJ (k 1) 40 anJ)]) (as := [h20]) (zcV (q0 := 9) (ci := 5) (As := [.int x4, .int x5]) (rest := []) (Tc := [(h20, ob 5 [.int h20f0, .int h20f1, .ref h40])]) hx hb hml hown hU hK hT rfl rfl [9] rfl (by decide) (cX6_isOutside_cc85b l D k _ h20 h40 x4 x5 h20f0 h20f1 (by omega) (by omega)) w648 w645 w646 w647 w71 hdX6_isOutside ⟨rfl, rfl⟩ ⟨Nat.le_of_ble_eq_true rfl, Nat.le_of_ble_eq_true rfl⟩ rfl hl.1 (Nat.le_of_ble_eq_true rfl) dX10_copy_84 ⟨Nat.le_of_ble_eq_true rfl, Nat.le_of_ble_eq_true rfl⟩) hT hS hA [9] [0, 1, 2, 3, 4, 5, 6, 7, 8] rfl rfl rfl (by decide) (by decide) (fun r216 H locs hB J hS => ?_)
                  rcases hB with ⟨rfl, hT1⟩ | ⟨c_217, c_218, c_219, rfl, hT1⟩
                  · skip
                    have hT := J _ hT1
                    have hT : TP D A [(h0, ob 7 [.ref h1, .ref h2, .int h0f2, .ref h3, .ref h4, .ref h5, .int h0f6, .ref h6, .int h0f8, .null, .ref h7, .int h0f11, .ref h8, .ref h9, .ref h10, .ref h11, .ref h12]), (h4, aQ (k 3) 4 (q4 h17 h18 h19 h20)), (h17, ob 5 [.int h17f0, .int h17f1, .ref h37]), (h18, ob 5 [.int h18f0, .int h18f1, .ref h38]), (h19, ob 5 [.int h19f0, .int h19f1, .ref h39]), (h37, aJ (k 1) 40 anJ), (h38, aJ (k 1) 40 anJ), (h39, aJ (k 1) 40 anJ), (h40, aJ (k 1) 40 anJ), (h20, ob 5 [.int h20f0, .int h20f1, .ref h40])] _ := hT
                    refine lv_if_eq (tgt := 93) hx hb dX10_copy_87 (by decide) (fun cc => absurd cc (by decide +kernel)) (fun _ => ?_)
                    refine lv_bipush (v := (-12)) hx hb dX10_copy_90 (by decide) ?_
                    exact tz_retI (B := B_cX10_copy_694ba D k h0 h4 h17 h18 h19 h20 h37 h38 h39 h40 h1 h2 h3 h5 h6 h7 h8 h9 h10 h11 h12 x1 x2 x3 x4 x5 h0f2 h0f6 h0f8 h0f11 h17f0 h17f1 h18f0 h18f1 h19f0 h19f1 h20f0 h20f1) (v := (-12)) hQ hx hb hr hlocks hS (Nat.le_of_ble_eq_true rfl) (Nat.le_of_ble_eq_true rfl) dX10_copy_92 (⟨(by have := li_m12; omega), (hT.sub [0, 1, 2, 3, 4, 9, 5, 6, 7, 8] (by decide) rfl)⟩)
                  · skip
                    have hT := J _ hT1
                    have hT : TP D A [(h0, ob 7 [.ref h1, .ref h2, .int h0f2, .ref h3, .ref h4, .ref h5, .int h0f6, .ref h6, .int h0f8, .null, .ref h7, .int h0f11, .ref h8, .ref h9, .ref h10, .ref h11, .ref h12]), (h4, aQ (k 3) 4 (q4 h17 h18 h19 h20)), (h17, ob 5 [.int h17f0, .int h17f1, .ref h37]), (h18, ob 5 [.int h18f0, .int h18f1, .ref h38]), (h19, ob 5 [.int h19f0, .int h19f1, .ref h39]), (h37, aJ (k 1) 40 anJ), (h38, aJ (k 1) 40 anJ), (h39, aJ (k 1) 40 anJ), (h40, aJ (k 1) 40 anJ), (h20, ob 5 [.int h20f0, .int h20f1, .ref h40])] _ := hT
                    refine lv_if_eq (tgt := 93) hx hb dX10_copy_87 (by decide) (fun _ => ?_) (fun cc => absurd (by decide +kernel) cc)
                    refine lv_aload hx hb dX10_copy_93 (lv_at hl 1 rfl) ?_
                    refine tz_get (ci := 5) (v := .ref h40) (C := RX6) (F := TX6) (N := 3) hx hb hU iX6 hown hK hT 9 rfl rfl 2 (by decide) w241 (fun _ h9 => h9) rfl dX10_copy_95 ?_
                    refine lv_iload_n hx hb dX10_copy_98 rfl (lv_at hl 4 rfl) ?_
                    refine lv_aload hx hb dX10_copy_99 (lv_at hl 0 rfl) ?_
                    refine tz_get (ci := 5) (v := .ref h40) (C := RX6) (F := TX6) (N := 3) hx hb hU iX6 hown hK hT 9 rfl rfl 2 (by decide) w241 (fun _ h9 => h9) rfl dX10_copy_101 ?_
                    refine lv_iload hx hb dX10_copy_104 (lv_at hl 6 rfl) ?_
                    refine lv_iload hx hb dX10_copy_106 (lv_at hl 7 rfl) ?_
                    refine tz_copyl hx hb (by rw [hml]; exact hl.1.symm) hown hU w410 w348 w347 w75 hK hT hS 8 8 rfl rfl (by omega) (fun _ _ _ _ => trivial) (Nat.le_of_ble_eq_true rfl) (Nat.le_of_ble_eq_true rfl) dX10_copy_108 (fun H locs hT hS => ?_)
                    refine lv_iload hx hb dX10_copy_111 (lv_at hl 7 rfl) ?_
                    exact tz_retI (B := B_cX10_copy_694ba D k h0 h4 h17 h18 h19 h20 h37 h38 h39 h40 h1 h2 h3 h5 h6 h7 h8 h9 h10 h11 h12 x1 x2 x3 x4 x5 h0f2 h0f6 h0f8 h0f11 h17f0 h17f1 h18f0 h18f1 h19f0 h19f1 h20f0 h20f1) (v := x5) hQ hx hb hr hlocks hS (Nat.le_of_ble_eq_true rfl) (Nat.le_of_ble_eq_true rfl) dX10_copy_113 (⟨(by omega), (hT.sub [0, 1, 2, 3, 4, 9, 5, 6, 7, 8] (by decide) rfl)⟩)
              · skip
                have c_211 := ni_ne c_211 rfl rfl
                exfalso; omega
            · skip
              have hT := J _ hT1
              have hT : TP D A [(h0, ob 7 [.ref h1, .ref h2, .int h0f2, .ref h3, .ref h4, .ref h5, .int h0f6, .ref h6, .int h0f8, .null, .ref h7, .int h0f11, .ref h8, .ref h9, .ref h10, .ref h11, .ref h12]), (h4, aQ (k 3) 4 (q4 h17 h18 h19 h20)), (h17, ob 5 [.int h17f0, .int h17f1, .ref h37]), (h18, ob 5 [.int h18f0, .int h18f1, .ref h38]), (h19, ob 5 [.int h19f0, .int h19f1, .ref h39]), (h37, aJ (k 1) 40 anJ), (h38, aJ (k 1) 40 anJ), (h39, aJ (k 1) 40 anJ), (h40, aJ (k 1) 40 anJ), (h20, ob 5 [.int h20f0, .int h20f1, .ref h40])] _ := hT
              refine lv_if_eq (tgt := 51) hx hb dX10_copy_45 (by decide) (fun cc => absurd cc (by decide +kernel)) (fun _ => ?_)
              refine lv_bipush (v := (-11)) hx hb dX10_copy_48 (by decide) ?_
              exact tz_retI (B := B_cX10_copy_694ba D k h0 h4 h17 h18 h19 h20 h37 h38 h39 h40 h1 h2 h3 h5 h6 h7 h8 h9 h10 h11 h12 x1 x2 x3 x4 x5 h0f2 h0f6 h0f8 h0f11 h17f0 h17f1 h18f0 h18f1 h19f0 h19f1 h20f0 h20f1) (v := (-11)) hQ hx hb hr hlocks hS (Nat.le_of_ble_eq_true rfl) (Nat.le_of_ble_eq_true rfl) dX10_copy_50 (⟨(by have := li_m11; omega), (hT.sub [0, 1, 2, 3, 4, 9, 5, 6, 7, 8] (by decide) rfl)⟩)
          · skip
            have hT := J _ hT1
            have hT : TP D A [(h0, ob 7 [.ref h1, .ref h2, .int h0f2, .ref h3, .ref h4, .ref h5, .int h0f6, .ref h6, .int h0f8, .null, .ref h7, .int h0f11, .ref h8, .ref h9, .ref h10, .ref h11, .ref h12]), (h4, aQ (k 3) 4 (q4 h17 h18 h19 h20)), (h17, ob 5 [.int h17f0, .int h17f1, .ref h37]), (h18, ob 5 [.int h18f0, .int h18f1, .ref h38]), (h19, ob 5 [.int h19f0, .int h19f1, .ref h39]), (h37, aJ (k 1) 40 anJ), (h38, aJ (k 1) 40 anJ), (h39, aJ (k 1) 40 anJ), (h40, aJ (k 1) 40 anJ), (h20, ob 5 [.int h20f0, .int h20f1, .ref h40])] _ := hT
            refine lv_if_ne (tgt := 48) hx hb dX10_copy_37 (by decide) (fun _ => ?_) (fun cc => absurd cc (by decide +kernel))
            refine lv_bipush (v := (-11)) hx hb dX10_copy_48 (by decide) ?_
            exact tz_retI (B := B_cX10_copy_694ba D k h0 h4 h17 h18 h19 h20 h37 h38 h39 h40 h1 h2 h3 h5 h6 h7 h8 h9 h10 h11 h12 x1 x2 x3 x4 x5 h0f2 h0f6 h0f8 h0f11 h17f0 h17f1 h18f0 h18f1 h19f0 h19f1 h20f0 h20f1) (v := (-11)) hQ hx hb hr hlocks hS (Nat.le_of_ble_eq_true rfl) (Nat.le_of_ble_eq_true rfl) dX10_copy_50 (⟨(by have := li_m11; omega), (hT.sub [0, 1, 2, 3, 4, 9, 5, 6, 7, 8] (by decide) rfl)⟩)
abbrev Rm_cX10_copy_c7a33 : Room := { frames := 1, cells := 0, slots := 0, locals := 26 }
abbrev B_cX10_copy_c7a33 (D : va_G) (k : Nat → ClassId) (h0 h4 h18 h19 h20 h21 h46 h47 h48 h49 h1 h2 h3 h5 h6 h7 h8 h9 h10 h11 h12 h13 : Nat) (x1 : Int32) (x2 : Int32) (x3 : Int32) (x4 : Int32) (x5 : Int32) (h0f2 : Int32) (h0f6 : Int32) (h0f8 : Int32) (h0f11 : Int32) (h18f0 : Int32) (h18f1 : Int32) (h19f0 : Int32) (h19f1 : Int32) (h20f0 : Int32) (h20f1 : Int32) (h21f0 : Int32) (h21f1 : Int32) (A : Nat → Prop) (r : Int32) (H : Heap) : Prop := ((-13) ≤ r.toInt ∧ r.toInt ≤ 40) ∧ TP D A [(h0, ob 7 [.ref h1, .ref h2, .int h0f2, .ref h3, .ref h4, .ref h5, .int h0f6, .ref h6, .int h0f8, .ref h7, .ref h8, .int h0f11, .ref h9, .ref h10, .ref h11, .ref h12, .ref h13]), (h4, aQ (k 3) 4 (q4 h18 h19 h20 h21)), (h18, ob 5 [.int h18f0, .int h18f1, .ref h46]), (h19, ob 5 [.int h19f0, .int h19f1, .ref h47]), (h20, ob 5 [.int h20f0, .int h20f1, .ref h48]), (h21, ob 5 [.int h21f0, .int h21f1, .ref h49]), (h46, aJ (k 1) 40 anJ), (h47, aJ (k 1) 40 anJ), (h48, aJ (k 1) 40 anJ), (h49, aJ (k 1) 40 anJ)] H
set_option maxHeartbeats 4000000 in
set_option maxRecDepth 100000 in
theorem cX10_copy_c7a33 (l : Launch) (D : va_G) (k : Nat → ClassId) (sz : Nat) (h0 h4 h18 h19 h20 h21 h46 h47 h48 h49 h1 h2 h3 h5 h6 h7 h8 h9 h10 h11 h12 h13 : Nat) (x1 : Int32) (x2 : Int32) (x3 : Int32) (x4 : Int32) (x5 : Int32) (h0f2 : Int32) (h0f6 : Int32) (h0f8 : Int32) (h0f11 : Int32) (h18f0 : Int32) (h18f1 : Int32) (h19f0 : Int32) (h19f1 : Int32) (h20f0 : Int32) (h20f1 : Int32) (h21f0 : Int32) (h21f1 : Int32) (b_h0f2 : 0 ≤ h0f2.toInt ∧ h0f2.toInt ≤ 1) (b_h0f6 : 0 ≤ h0f6.toInt ∧ h0f6.toInt ≤ 1) (b_h0f8 : 0 ≤ h0f8.toInt ∧ h0f8.toInt ≤ 1) (b_h0f11 : 0 ≤ h0f11.toInt ∧ h0f11.toInt ≤ 200) (b_h18f0 : (-1) ≤ h18f0.toInt ∧ h18f0.toInt ≤ 2) (b_h18f1 : 0 ≤ h18f1.toInt ∧ h18f1.toInt ≤ 40) (b_h19f0 : (-1) ≤ h19f0.toInt ∧ h19f0.toInt ≤ 2) (b_h19f1 : 0 ≤ h19f1.toInt ∧ h19f1.toInt ≤ 40) (b_h20f0 : (-1) ≤ h20f0.toInt ∧ h20f0.toInt ≤ 2) (b_h20f1 : 0 ≤ h20f1.toInt ∧ h20f1.toInt ≤ 40) (b_h21f0 : (-1) ≤ h21f0.toInt ∧ h21f0.toInt ≤ 2) (b_h21f1 : 0 ≤ h21f1.toInt ∧ h21f1.toInt ≤ 40) : Met l yX10_copy (Cond.code yX10_copy cX10_copy 8 (some .int) :: uw) Rm_cX10_copy_c7a33 (pT D k sz [.ref h0, .int x1, .int x2, .int x3, .int x4, .int x5] [(h0, ob 7 [.ref h1, .ref h2, .int h0f2, .ref h3, .ref h4, .ref h5, .int h0f6, .ref h6, .int h0f8, .ref h7, .ref h8, .int h0f11, .ref h9, .ref h10, .ref h11, .ref h12, .ref h13]), (h4, aQ (k 3) 4 (q4 h18 h19 h20 h21)), (h18, ob 5 [.int h18f0, .int h18f1, .ref h46]), (h19, ob 5 [.int h19f0, .int h19f1, .ref h47]), (h20, ob 5 [.int h20f0, .int h20f1, .ref h48]), (h21, ob 5 [.int h21f0, .int h21f1, .ref h49]), (h46, aJ (k 1) 40 anJ), (h47, aJ (k 1) 40 anJ), (h48, aJ (k 1) 40 anJ), (h49, aJ (k 1) 40 anJ)]) (qI (B_cX10_copy_c7a33 D k h0 h4 h18 h19 h20 h21 h46 h47 h48 h49 h1 h2 h3 h5 h6 h7 h8 h9 h10 h11 h12 h13 x1 x2 x3 x4 x5 h0f2 h0f6 h0f8 h0f11 h18f0 h18f1 h19f0 h19f1 h20f0 h20f1 h21f0 h21f1 (zA [h0, h4, h18, h19, h20, h21, h46, h47, h48, h49] sz)) (zA [h0, h4, h18, h19, h20, h21, h46, h47, h48, h49] sz)) 0 0 (zA [h0, h4, h18, h19, h20, h21, h46, h47, h48, h49] sz) := by
  refine tz_begin (as := [h0, h4, h18, h19, h20, h21, h46, h47, h48, h49]) (Qc := fun A => qI (B_cX10_copy_c7a33 D k h0 h4 h18 h19 h20 h21 h46 h47 h48 h49 h1 h2 h3 h5 h6 h7 h8 h9 h10 h11 h12 h13 x1 x2 x3 x4 x5 h0f2 h0f6 h0f8 h0f11 h18f0 h18f1 h19f0 h19f1 h20f0 h20f1 h21f0 h21f1 A) A) (by decide +kernel) rfl (Nat.le_of_ble_eq_true rfl) ?_
  intro p e s m args below meth c ls A Q hx hb hr hml hown hlocks hin hU hK hT hS hA hl hQ
  have hl : lv_has ls 8 [(0, .ref h0), (1, .int x1), (2, .int x2), (3, .int x3), (4, .int x4), (5, .int x5)] := hl
  have hT : TP D A [(h0, ob 7 [.ref h1, .ref h2, .int h0f2, .ref h3, .ref h4, .ref h5, .int h0f6, .ref h6, .int h0f8, .ref h7, .ref h8, .int h0f11, .ref h9, .ref h10, .ref h11, .ref h12, .ref h13]), (h4, aQ (k 3) 4 (q4 h18 h19 h20 h21)), (h18, ob 5 [.int h18f0, .int h18f1, .ref h46]), (h19, ob 5 [.int h19f0, .int h19f1, .ref h47]), (h20, ob 5 [.int h20f0, .int h20f1, .ref h48]), (h21, ob 5 [.int h21f0, .int h21f1, .ref h49]), (h46, aJ (k 1) 40 anJ), (h47, aJ (k 1) 40 anJ), (h48, aJ (k 1) 40 anJ), (h49, aJ (k 1) 40 anJ)] s.heap := hT
  refine lv_iload_n hx hb dX10_copy_0 rfl (lv_at hl 1 rfl) ?_
  refine tcI (Tc := []) (Tr := [(h0, ob 7 [.ref h1, .ref h2, .int h0f2, .ref h3, .ref h4, .ref h5, .int h0f6, .ref h6, .int h0f8, .ref h7, .ref h8, .int h0f11, .ref h9, .ref h10, .ref h11, .ref h12, .ref h13]), (h4, aQ (k 3) 4 (q4 h18 h19 h20 h21)), (h18, ob 5 [.int h18f0, .int h18f1, .ref h46]), (h19, ob 5 [.int h19f0, .int h19f1, .ref h47]), (h20, ob 5 [.int h20f0, .int h20f1, .ref h48]), (h21, ob 5 [.int h21f0, .int h21f1, .ref h49]), (h46, aJ (k 1) 40 anJ), (h47, aJ (k 1) 40 anJ), (h48, aJ (k 1) 40 anJ), (h49, aJ (k 1) 40 anJ)]) (as := []) (zcS (As := [.int x1]) (rest := []) (Tc := []) hx hb hml hown hU hK hT [] rfl (by decide) (cX10_isSheet_f635c l D k _ x1) w640 w638 w639 w63 hdX10_isSheet ⟨rfl, rfl⟩ ⟨Nat.le_of_ble_eq_true rfl, Nat.le_of_ble_eq_true rfl⟩ rfl hl.1 (Nat.le_of_ble_eq_true rfl) dX10_copy_1 ⟨Nat.le_of_ble_eq_true rfl, Nat.le_of_ble_eq_true rfl⟩) hT hS hA [] [0, 1, 2, 3, 4, 5, 6, 7, 8, 9] rfl rfl rfl (by decide) (by decide) (fun r1 H locs hB J hS => ?_)
  rcases hB with ⟨rfl, hT1⟩ | ⟨c_2, c_3, rfl, hT1⟩
  · skip
    have hT := J _ hT1
    have hT : TP D A [(h0, ob 7 [.ref h1, .ref h2, .int h0f2, .ref h3, .ref h4, .ref h5, .int h0f6, .ref h6, .int h0f8, .ref h7, .ref h8, .int h0f11, .ref h9, .ref h10, .ref h11, .ref h12, .ref h13]), (h4, aQ (k 3) 4 (q4 h18 h19 h20 h21)), (h18, ob 5 [.int h18f0, .int h18f1, .ref h46]), (h19, ob 5 [.int h19f0, .int h19f1, .ref h47]), (h20, ob 5 [.int h20f0, .int h20f1, .ref h48]), (h21, ob 5 [.int h21f0, .int h21f1, .ref h49]), (h46, aJ (k 1) 40 anJ), (h47, aJ (k 1) 40 anJ), (h48, aJ (k 1) 40 anJ), (h49, aJ (k 1) 40 anJ)] _ := hT
    refine lv_if_eq (tgt := 14) hx hb dX10_copy_4 (by decide) (fun _ => ?_) (fun cc => absurd (by decide +kernel) cc)
    refine lv_iconst (v := (-1)) hx hb dX10_copy_14 (by decide) ?_
    exact tz_retI (B := B_cX10_copy_c7a33 D k h0 h4 h18 h19 h20 h21 h46 h47 h48 h49 h1 h2 h3 h5 h6 h7 h8 h9 h10 h11 h12 h13 x1 x2 x3 x4 x5 h0f2 h0f6 h0f8 h0f11 h18f0 h18f1 h19f0 h19f1 h20f0 h20f1 h21f0 h21f1) (v := (-1)) hQ hx hb hr hlocks hS (Nat.le_of_ble_eq_true rfl) (Nat.le_of_ble_eq_true rfl) dX10_copy_15 (⟨(by have := li_m1; omega), hT⟩)
  · skip
    have hT := J _ hT1
    have hT : TP D A [(h0, ob 7 [.ref h1, .ref h2, .int h0f2, .ref h3, .ref h4, .ref h5, .int h0f6, .ref h6, .int h0f8, .ref h7, .ref h8, .int h0f11, .ref h9, .ref h10, .ref h11, .ref h12, .ref h13]), (h4, aQ (k 3) 4 (q4 h18 h19 h20 h21)), (h18, ob 5 [.int h18f0, .int h18f1, .ref h46]), (h19, ob 5 [.int h19f0, .int h19f1, .ref h47]), (h20, ob 5 [.int h20f0, .int h20f1, .ref h48]), (h21, ob 5 [.int h21f0, .int h21f1, .ref h49]), (h46, aJ (k 1) 40 anJ), (h47, aJ (k 1) 40 anJ), (h48, aJ (k 1) 40 anJ), (h49, aJ (k 1) 40 anJ)] _ := hT
    refine lv_if_eq (tgt := 14) hx hb dX10_copy_4 (by decide) (fun cc => absurd cc (by decide +kernel)) (fun _ => ?_)
    refine lv_iload_n hx hb dX10_copy_7 rfl (lv_at hl 3 rfl) ?_
    refine tcI (Tc := []) (Tr := [(h0, ob 7 [.ref h1, .ref h2, .int h0f2, .ref h3, .ref h4, .ref h5, .int h0f6, .ref h6, .int h0f8, .ref h7, .ref h8, .int h0f11, .ref h9, .ref h10, .ref h11, .ref h12, .ref h13]), (h4, aQ (k 3) 4 (q4 h18 h19 h20 h21)), (h18, ob 5 [.int h18f0, .int h18f1, .ref h46]), (h19, ob 5 [.int h19f0, .int h19f1, .ref h47]), (h20, ob 5 [.int h20f0, .int h20f1, .ref h48]), (h21, ob 5 [.int h21f0, .int h21f1, .ref h49]), (h46, aJ (k 1) 40 anJ), (h47, aJ (k 1) 40 anJ), (h48, aJ (k 1) 40 anJ), (h49, aJ (k 1) 40 anJ)]) (as := []) (zcS (As := [.int x3]) (rest := []) (Tc := []) hx hb hml hown hU hK hT [] rfl (by decide) (cX10_isSheet_f635c l D k _ x3) w640 w638 w639 w63 hdX10_isSheet ⟨rfl, rfl⟩ ⟨Nat.le_of_ble_eq_true rfl, Nat.le_of_ble_eq_true rfl⟩ rfl hl.1 (Nat.le_of_ble_eq_true rfl) dX10_copy_8 ⟨Nat.le_of_ble_eq_true rfl, Nat.le_of_ble_eq_true rfl⟩) hT hS hA [] [0, 1, 2, 3, 4, 5, 6, 7, 8, 9] rfl rfl rfl (by decide) (by decide) (fun r4 H locs hB J hS => ?_)
    rcases hB with ⟨rfl, hT1⟩ | ⟨c_5, c_6, rfl, hT1⟩
    · skip
      have hT := J _ hT1
      have hT : TP D A [(h0, ob 7 [.ref h1, .ref h2, .int h0f2, .ref h3, .ref h4, .ref h5, .int h0f6, .ref h6, .int h0f8, .ref h7, .ref h8, .int h0f11, .ref h9, .ref h10, .ref h11, .ref h12, .ref h13]), (h4, aQ (k 3) 4 (q4 h18 h19 h20 h21)), (h18, ob 5 [.int h18f0, .int h18f1, .ref h46]), (h19, ob 5 [.int h19f0, .int h19f1, .ref h47]), (h20, ob 5 [.int h20f0, .int h20f1, .ref h48]), (h21, ob 5 [.int h21f0, .int h21f1, .ref h49]), (h46, aJ (k 1) 40 anJ), (h47, aJ (k 1) 40 anJ), (h48, aJ (k 1) 40 anJ), (h49, aJ (k 1) 40 anJ)] _ := hT
      refine lv_if_ne (tgt := 16) hx hb dX10_copy_11 (by decide) (fun cc => absurd (by decide +kernel) cc) (fun _ => ?_)
      refine lv_iconst (v := (-1)) hx hb dX10_copy_14 (by decide) ?_
      exact tz_retI (B := B_cX10_copy_c7a33 D k h0 h4 h18 h19 h20 h21 h46 h47 h48 h49 h1 h2 h3 h5 h6 h7 h8 h9 h10 h11 h12 h13 x1 x2 x3 x4 x5 h0f2 h0f6 h0f8 h0f11 h18f0 h18f1 h19f0 h19f1 h20f0 h20f1 h21f0 h21f1) (v := (-1)) hQ hx hb hr hlocks hS (Nat.le_of_ble_eq_true rfl) (Nat.le_of_ble_eq_true rfl) dX10_copy_15 (⟨(by have := li_m1; omega), hT⟩)
    · skip
      have hT := J _ hT1
      have hT : TP D A [(h0, ob 7 [.ref h1, .ref h2, .int h0f2, .ref h3, .ref h4, .ref h5, .int h0f6, .ref h6, .int h0f8, .ref h7, .ref h8, .int h0f11, .ref h9, .ref h10, .ref h11, .ref h12, .ref h13]), (h4, aQ (k 3) 4 (q4 h18 h19 h20 h21)), (h18, ob 5 [.int h18f0, .int h18f1, .ref h46]), (h19, ob 5 [.int h19f0, .int h19f1, .ref h47]), (h20, ob 5 [.int h20f0, .int h20f1, .ref h48]), (h21, ob 5 [.int h21f0, .int h21f1, .ref h49]), (h46, aJ (k 1) 40 anJ), (h47, aJ (k 1) 40 anJ), (h48, aJ (k 1) 40 anJ), (h49, aJ (k 1) 40 anJ)] _ := hT
      refine lv_if_ne (tgt := 16) hx hb dX10_copy_11 (by decide) (fun _ => ?_) (fun cc => absurd cc (by decide +kernel))
      refine lv_aload_n hx hb dX10_copy_16 rfl (lv_at hl 0 rfl) ?_
      refine tz_get (ci := 7) (v := .ref h4) (C := RX10) (F := TX10) (N := 17) hx hb hU iX10 hown hK hT 0 rfl rfl 4 (by decide) w253 (fun _ h9 => h9) rfl dX10_copy_17 ?_
      refine lv_iload_n hx hb dX10_copy_20 rfl (lv_at hl 1 rfl) ?_
      rcases (show x1.toInt = 0 ∨ x1.toInt = 1 ∨ x1.toInt = 2 ∨ x1.toInt = 3 by omega) with hq7 | hq7 | hq7 | hq7
      · skip
        refine tz_aldq (b := h18) hx hb hK hT 1 rfl (vp_in_iff.mpr (by have := hq7; omega)) (fun f hf => by rw [cl_of hq7]; exact hf.1) dX10_copy_21 ?_
        refine lv_astore (lv' := [(6, .ref h18), (0, .ref h0), (1, .int x1), (2, .int x2), (3, .int x3), (4, .int x4), (5, .int x5)]) hx hb dX10_copy_22 hl (by decide) rfl (fun ls hl => ?_)
        refine lv_aload_n hx hb dX10_copy_24 rfl (lv_at hl 1 rfl) ?_
        refine tz_get (ci := 7) (v := .ref h4) (C := RX10) (F := TX10) (N := 17) hx hb hU iX10 hown hK hT 0 rfl rfl 4 (by decide) w253 (fun _ h9 => h9) rfl dX10_copy_25 ?_
        refine lv_iload_n hx hb dX10_copy_28 rfl (lv_at hl 4 rfl) ?_
        rcases (show x3.toInt = 0 ∨ x3.toInt = 1 ∨ x3.toInt = 2 ∨ x3.toInt = 3 by omega) with hq8 | hq8 | hq8 | hq8
        · skip
          refine tz_aldq (b := h18) hx hb hK hT 1 rfl (vp_in_iff.mpr (by have := hq8; omega)) (fun f hf => by rw [cl_of hq8]; exact hf.1) dX10_copy_29 ?_
          refine lv_astore (lv' := [(7, .ref h18), (6, .ref h18), (0, .ref h0), (1, .int x1), (2, .int x2), (3, .int x3), (4, .int x4), (5, .int x5)]) hx hb dX10_copy_30 hl (by decide) rfl (fun ls hl => ?_)
          refine lv_aload hx hb dX10_copy_32 (lv_at hl 1 rfl) ?_
          refine tcI (Tc := [(h18, ob 5 [.int h18f0, .int h18f1, .ref h46])]) (Tr := [(h0, ob 7 [.ref h1, .ref h2, .int h0f2, .ref h3, .ref h4, .ref h5, .int h0f6, .ref h6, .int h0f8, .ref h7, .ref h8, .int h0f11, .ref h9, .ref h10, .ref h11, .ref h12, .ref h13]), (h4, aQ (k 3) 4 (q4 h18 h19 h20 h21)), (h19, ob 5 [.int h19f0, .int h19f1, .ref h47]), (h20, ob 5 [.int h20f0, .int h20f1, .ref h48]), (h21, ob 5 [.int h21f0, .int h21f1, .ref h49]), (h46, aJ (k 1) 40 anJ), (h47, aJ (k 1) 40 anJ), (h48, aJ (k 1) 40 anJ), (h49, aJ (k 1) 40 anJ)]) (as := [h18]) (zcV (q0 := 2) (ci := 5) (As := []) (rest := []) (Tc := [(h18, ob 5 [.int h18f0, .int h18f1, .ref h46])]) hx hb hml hown hU hK hT rfl rfl [2] rfl (by decide) (cX6_isMissing_56a93 l D k _ h18 h46 h18f0 h18f1 (by omega) (by omega)) w644 w641 w642 w643 w71 hdX6_isMissing ⟨rfl, rfl⟩ ⟨Nat.le_of_ble_eq_true rfl, Nat.le_of_ble_eq_true rfl⟩ rfl hl.1 (Nat.le_of_ble_eq_true rfl) dX10_copy_34 ⟨Nat.le_of_ble_eq_true rfl, Nat.le_of_ble_eq_true rfl⟩) hT hS hA [2] [0, 1, 3, 4, 5, 6, 7, 8, 9] rfl rfl rfl (by decide) (by decide) (fun r9 H locs hB J hS => ?_)
          rcases hB with ⟨c_10, rfl, hT1⟩ | ⟨rfl, hT1⟩
          · skip
            have hT := J _ hT1
            have hT : TP D A [(h0, ob 7 [.ref h1, .ref h2, .int h0f2, .ref h3, .ref h4, .ref h5, .int h0f6, .ref h6, .int h0f8, .ref h7, .ref h8, .int h0f11, .ref h9, .ref h10, .ref h11, .ref h12, .ref h13]), (h4, aQ (k 3) 4 (q4 h18 h19 h20 h21)), (h19, ob 5 [.int h19f0, .int h19f1, .ref h47]), (h20, ob 5 [.int h20f0, .int h20f1, .ref h48]), (h21, ob 5 [.int h21f0, .int h21f1, .ref h49]), (h46, aJ (k 1) 40 anJ), (h47, aJ (k 1) 40 anJ), (h48, aJ (k 1) 40 anJ), (h49, aJ (k 1) 40 anJ), (h18, ob 5 [.int h18f0, .int h18f1, .ref h46])] _ := hT
            refine lv_if_ne (tgt := 48) hx hb dX10_copy_37 (by decide) (fun cc => absurd (by decide +kernel) cc) (fun _ => ?_)
            refine lv_aload hx hb dX10_copy_40 (lv_at hl 0 rfl) ?_
            refine tcI (Tc := [(h18, ob 5 [.int h18f0, .int h18f1, .ref h46])]) (Tr := [(h0, ob 7 [.ref h1, .ref h2, .int h0f2, .ref h3, .ref h4, .ref h5, .int h0f6, .ref h6, .int h0f8, .ref h7, .ref h8, .int h0f11, .ref h9, .ref h10, .ref h11, .ref h12, .ref h13]), (h4, aQ (k 3) 4 (q4 h18 h19 h20 h21)), (h19, ob 5 [.int h19f0, .int h19f1, .ref h47]), (h20, ob 5 [.int h20f0, .int h20f1, .ref h48]), (h21, ob 5 [.int h21f0, .int h21f1, .ref h49]), (h46, aJ (k 1) 40 anJ), (h47, aJ (k 1) 40 anJ), (h48, aJ (k 1) 40 anJ), (h49, aJ (k 1) 40 anJ)]) (as := [h18]) (zcV (q0 := 9) (ci := 5) (As := []) (rest := []) (Tc := [(h18, ob 5 [.int h18f0, .int h18f1, .ref h46])]) hx hb hml hown hU hK hT rfl rfl [9] rfl (by decide) (cX6_isMissing_56a93 l D k _ h18 h46 h18f0 h18f1 (by omega) (by omega)) w644 w641 w642 w643 w71 hdX6_isMissing ⟨rfl, rfl⟩ ⟨Nat.le_of_ble_eq_true rfl, Nat.le_of_ble_eq_true rfl⟩ rfl hl.1 (Nat.le_of_ble_eq_true rfl) dX10_copy_42 ⟨Nat.le_of_ble_eq_true rfl, Nat.le_of_ble_eq_true rfl⟩) hT hS hA [9] [0, 1, 2, 3, 4, 5, 6, 7, 8] rfl rfl rfl (by decide) (by decide) (fun r11 H locs hB J hS => ?_)
            rcases hB with ⟨c_12, rfl, hT1⟩ | ⟨rfl, hT1⟩
            · skip
              have hT := J _ hT1
              have hT : TP D A [(h0, ob 7 [.ref h1, .ref h2, .int h0f2, .ref h3, .ref h4, .ref h5, .int h0f6, .ref h6, .int h0f8, .ref h7, .ref h8, .int h0f11, .ref h9, .ref h10, .ref h11, .ref h12, .ref h13]), (h4, aQ (k 3) 4 (q4 h18 h19 h20 h21)), (h19, ob 5 [.int h19f0, .int h19f1, .ref h47]), (h20, ob 5 [.int h20f0, .int h20f1, .ref h48]), (h21, ob 5 [.int h21f0, .int h21f1, .ref h49]), (h46, aJ (k 1) 40 anJ), (h47, aJ (k 1) 40 anJ), (h48, aJ (k 1) 40 anJ), (h49, aJ (k 1) 40 anJ), (h18, ob 5 [.int h18f0, .int h18f1, .ref h46])] _ := hT
              refine lv_if_eq (tgt := 51) hx hb dX10_copy_45 (by decide) (fun _ => ?_) (fun cc => absurd (by decide +kernel) cc)
              refine lv_aload hx hb dX10_copy_51 (lv_at hl 1 rfl) ?_
              refine tz_get (ci := 5) (v := .int h18f0) (C := RX6) (F := TX6) (N := 3) hx hb hU iX6 hown hK hT 9 rfl rfl 0 (by decide) w238 (fun _ h9 => h9) rfl dX10_copy_53 ?_
              refine lv_aload hx hb dX10_copy_56 (lv_at hl 0 rfl) ?_
              refine tz_get (ci := 5) (v := .int h18f0) (C := RX6) (F := TX6) (N := 3) hx hb hU iX6 hown hK hT 9 rfl rfl 0 (by decide) w238 (fun _ h9 => h9) rfl dX10_copy_58 ?_
              refine lv_icmp_eq (tgt := 67) hx hb dX10_copy_61 (by decide) (fun c_13 => ?_) (fun c_13 => ?_)
              · skip
                have c_13 := ni_eq c_13 rfl rfl
                refine lv_aload hx hb dX10_copy_67 (lv_at hl 1 rfl) ?_
                refine lv_iload_n hx hb dX10_copy_69 rfl (lv_at hl 4 rfl) ?_
                refine lv_iload hx hb dX10_copy_70 (lv_at hl 7 rfl) ?_
                refine tcI (Tc := [(h18, ob 5 [.int h18f0, .int h18f1, .ref h46])]) (Tr := [(h0, ob 7 [.ref h1, .ref h2, .int h0f2, .ref h3, .ref h4, .ref h5, .int h0f6, .ref h6, .int h0f8, .ref h7, .ref h8, .int h0f11, .ref h9, .ref h10, .ref h11, .ref h12, .ref h13]), (h4, aQ (k 3) 4 (q4 h18 h19 h20 h21)), (h19, ob 5 [.int h19f0, .int h19f1, .ref h47]), (h20, ob 5 [.int h20f0, .int h20f1, .ref h48]), (h21, ob 5 [.int h21f0, .int h21f1, .ref h49]), (h46, aJ (k 1) 40 anJ), (h47, aJ (k 1) 40 anJ), (h48, aJ (k 1) 40 anJ), (h49, aJ (k 1) 40 anJ)]) (as := [h18]) (zcV (q0 := 9) (ci := 5) (As := [.int x2, .int x5]) (rest := []) (Tc := [(h18, ob 5 [.int h18f0, .int h18f1, .ref h46])]) hx hb hml hown hU hK hT rfl rfl [9] rfl (by decide) (cX6_isOutside_cc85b l D k _ h18 h46 x2 x5 h18f0 h18f1 (by omega) (by omega)) w648 w645 w646 w647 w71 hdX6_isOutside ⟨rfl, rfl⟩ ⟨Nat.le_of_ble_eq_true rfl, Nat.le_of_ble_eq_true rfl⟩ rfl hl.1 (Nat.le_of_ble_eq_true rfl) dX10_copy_72 ⟨Nat.le_of_ble_eq_true rfl, Nat.le_of_ble_eq_true rfl⟩) hT hS hA [9] [0, 1, 2, 3, 4, 5, 6, 7, 8] rfl rfl rfl (by decide) (by decide) (fun r14 H locs hB J hS => ?_)
                rcases hB with ⟨rfl, hT1⟩ | ⟨c_15, c_16, c_17, rfl, hT1⟩
                · skip
                  have hT := J _ hT1
                  have hT : TP D A [(h0, ob 7 [.ref h1, .ref h2, .int h0f2, .ref h3, .ref h4, .ref h5, .int h0f6, .ref h6, .int h0f8, .ref h7, .ref h8, .int h0f11, .ref h9, .ref h10, .ref h11, .ref h12, .ref h13]), (h4, aQ (k 3) 4 (q4 h18 h19 h20 h21)), (h19, ob 5 [.int h19f0, .int h19f1, .ref h47]), (h20, ob 5 [.int h20f0, .int h20f1, .ref h48]), (h21, ob 5 [.int h21f0, .int h21f1, .ref h49]), (h46, aJ (k 1) 40 anJ), (h47, aJ (k 1) 40 anJ), (h48, aJ (k 1) 40 anJ), (h49, aJ (k 1) 40 anJ), (h18, ob 5 [.int h18f0, .int h18f1, .ref h46])] _ := hT
                  refine lv_if_ne (tgt := 90) hx hb dX10_copy_75 (by decide) (fun _ => ?_) (fun cc => absurd cc (by decide +kernel))
                  refine lv_bipush (v := (-12)) hx hb dX10_copy_90 (by decide) ?_
                  exact tz_retI (B := B_cX10_copy_c7a33 D k h0 h4 h18 h19 h20 h21 h46 h47 h48 h49 h1 h2 h3 h5 h6 h7 h8 h9 h10 h11 h12 h13 x1 x2 x3 x4 x5 h0f2 h0f6 h0f8 h0f11 h18f0 h18f1 h19f0 h19f1 h20f0 h20f1 h21f0 h21f1) (v := (-12)) hQ hx hb hr hlocks hS (Nat.le_of_ble_eq_true rfl) (Nat.le_of_ble_eq_true rfl) dX10_copy_92 (⟨(by have := li_m12; omega), (hT.sub [0, 1, 9, 2, 3, 4, 5, 6, 7, 8] (by decide) rfl)⟩)
                · skip
                  have hT := J _ hT1
                  have hT : TP D A [(h0, ob 7 [.ref h1, .ref h2, .int h0f2, .ref h3, .ref h4, .ref h5, .int h0f6, .ref h6, .int h0f8, .ref h7, .ref h8, .int h0f11, .ref h9, .ref h10, .ref h11, .ref h12, .ref h13]), (h4, aQ (k 3) 4 (q4 h18 h19 h20 h21)), (h19, ob 5 [.int h19f0, .int h19f1, .ref h47]), (h20, ob 5 [.int h20f0, .int h20f1, .ref h48]), (h21, ob 5 [.int h21f0, .int h21f1, .ref h49]), (h46, aJ (k 1) 40 anJ), (h47, aJ (k 1) 40 anJ), (h48, aJ (k 1) 40 anJ), (h49, aJ (k 1) 40 anJ), (h18, ob 5 [.int h18f0, .int h18f1, .ref h46])] _ := hT
                  refine lv_if_ne (tgt := 90) hx hb dX10_copy_75 (by decide) (fun cc => absurd (by decide +kernel) cc) (fun _ => ?_)
                  refine lv_aload hx hb dX10_copy_78 (lv_at hl 0 rfl) ?_
                  refine lv_iload hx hb dX10_copy_80 (lv_at hl 6 rfl) ?_
                  refine lv_iload hx hb dX10_copy_82 (lv_at hl 7 rfl) ?_
                  refine tcI (Tc := [(h18, ob 5 [.int h18f0, .int h18f1, .ref h46])]) (Tr := [(h0, ob 7 [.ref h1, .ref h2, .int h0f2, .ref h3, .ref h4, .ref h5, .int h0f6, .ref h6, .int h0f8, .ref h7, .ref h8, .int h0f11, .ref h9, .ref h10, .ref h11, .ref h12, .ref h13]), (h4, aQ (k 3) 4 (q4 h18 h19 h20 h21)), (h19, ob 5 [.int h19f0, .int h19f1, .ref h47]), (h20, ob 5 [.int h20f0, .int h20f1, .ref h48]), (h21, ob 5 [.int h21f0, .int h21f1, .ref h49]), (h46, aJ (k 1) 40 anJ), (h47, aJ (k 1) 40 anJ), (h48, aJ (k 1) 40 anJ), (h49, aJ (k 1) 40 anJ)]) (as := [h18]) (zcV (q0 := 9) (ci := 5) (As := [.int x4, .int x5]) (rest := []) (Tc := [(h18, ob 5 [.int h18f0, .int h18f1, .ref h46])]) hx hb hml hown hU hK hT rfl rfl [9] rfl (by decide) (cX6_isOutside_cc85b l D k _ h18 h46 x4 x5 h18f0 h18f1 (by omega) (by omega)) w648 w645 w646 w647 w71 hdX6_isOutside ⟨rfl, rfl⟩ ⟨Nat.le_of_ble_eq_true rfl, Nat.le_of_ble_eq_true rfl⟩ rfl hl.1 (Nat.le_of_ble_eq_true rfl) dX10_copy_84 ⟨Nat.le_of_ble_eq_true rfl, Nat.le_of_ble_eq_true rfl⟩) hT hS hA [9] [0, 1, 2, 3, 4, 5, 6, 7, 8] rfl rfl rfl (by decide) (by decide) (fun r18 H locs hB J hS => ?_)
                  rcases hB with ⟨rfl, hT1⟩ | ⟨c_19, c_20, c_21, rfl, hT1⟩
                  · skip
                    have hT := J _ hT1
                    have hT : TP D A [(h0, ob 7 [.ref h1, .ref h2, .int h0f2, .ref h3, .ref h4, .ref h5, .int h0f6, .ref h6, .int h0f8, .ref h7, .ref h8, .int h0f11, .ref h9, .ref h10, .ref h11, .ref h12, .ref h13]), (h4, aQ (k 3) 4 (q4 h18 h19 h20 h21)), (h19, ob 5 [.int h19f0, .int h19f1, .ref h47]), (h20, ob 5 [.int h20f0, .int h20f1, .ref h48]), (h21, ob 5 [.int h21f0, .int h21f1, .ref h49]), (h46, aJ (k 1) 40 anJ), (h47, aJ (k 1) 40 anJ), (h48, aJ (k 1) 40 anJ), (h49, aJ (k 1) 40 anJ), (h18, ob 5 [.int h18f0, .int h18f1, .ref h46])] _ := hT
                    refine lv_if_eq (tgt := 93) hx hb dX10_copy_87 (by decide) (fun cc => absurd cc (by decide +kernel)) (fun _ => ?_)
                    refine lv_bipush (v := (-12)) hx hb dX10_copy_90 (by decide) ?_
                    exact tz_retI (B := B_cX10_copy_c7a33 D k h0 h4 h18 h19 h20 h21 h46 h47 h48 h49 h1 h2 h3 h5 h6 h7 h8 h9 h10 h11 h12 h13 x1 x2 x3 x4 x5 h0f2 h0f6 h0f8 h0f11 h18f0 h18f1 h19f0 h19f1 h20f0 h20f1 h21f0 h21f1) (v := (-12)) hQ hx hb hr hlocks hS (Nat.le_of_ble_eq_true rfl) (Nat.le_of_ble_eq_true rfl) dX10_copy_92 (⟨(by have := li_m12; omega), (hT.sub [0, 1, 9, 2, 3, 4, 5, 6, 7, 8] (by decide) rfl)⟩)
                  · skip
                    have hT := J _ hT1
                    have hT : TP D A [(h0, ob 7 [.ref h1, .ref h2, .int h0f2, .ref h3, .ref h4, .ref h5, .int h0f6, .ref h6, .int h0f8, .ref h7, .ref h8, .int h0f11, .ref h9, .ref h10, .ref h11, .ref h12, .ref h13]), (h4, aQ (k 3) 4 (q4 h18 h19 h20 h21)), (h19, ob 5 [.int h19f0, .int h19f1, .ref h47]), (h20, ob 5 [.int h20f0, .int h20f1, .ref h48]), (h21, ob 5 [.int h21f0, .int h21f1, .ref h49]), (h46, aJ (k 1) 40 anJ), (h47, aJ (k 1) 40 anJ), (h48, aJ (k 1) 40 anJ), (h49, aJ (k 1) 40 anJ), (h18, ob 5 [.int h18f0, .int h18f1, .ref h46])] _ := hT
                    refine lv_if_eq (tgt := 93) hx hb dX10_copy_87 (by decide) (fun _ => ?_) (fun cc => absurd (by decide +kernel) cc)
                    refine lv_aload hx hb dX10_copy_93 (lv_at hl 1 rfl) ?_
                    refine tz_get (ci := 5) (v := .ref h46) (C := RX6) (F := TX6) (N := 3) hx hb hU iX6 hown hK hT 9 rfl rfl 2 (by decide) w241 (fun _ h9 => h9) rfl dX10_copy_95 ?_
                    refine lv_iload_n hx hb dX10_copy_98 rfl (lv_at hl 4 rfl) ?_
                    refine lv_aload hx hb dX10_copy_99 (lv_at hl 0 rfl) ?_
                    refine tz_get (ci := 5) (v := .ref h46) (C := RX6) (F := TX6) (N := 3) hx hb hU iX6 hown hK hT 9 rfl rfl 2 (by decide) w241 (fun _ h9 => h9) rfl dX10_copy_101 ?_
                    refine lv_iload hx hb dX10_copy_104 (lv_at hl 6 rfl) ?_
                    refine lv_iload hx hb dX10_copy_106 (lv_at hl 7 rfl) ?_
                    refine tz_copyl hx hb (by rw [hml]; exact hl.1.symm) hown hU w410 w348 w347 w75 hK hT hS 5 5 rfl rfl (by omega) (fun _ _ _ _ => trivial) (Nat.le_of_ble_eq_true rfl) (Nat.le_of_ble_eq_true rfl) dX10_copy_108 (fun H locs hT hS => ?_)
                    refine lv_iload hx hb dX10_copy_111 (lv_at hl 7 rfl) ?_
                    exact tz_retI (B := B_cX10_copy_c7a33 D k h0 h4 h18 h19 h20 h21 h46 h47 h48 h49 h1 h2 h3 h5 h6 h7 h8 h9 h10 h11 h12 h13 x1 x2 x3 x4 x5 h0f2 h0f6 h0f8 h0f11 h18f0 h18f1 h19f0 h19f1 h20f0 h20f1 h21f0 h21f1) (v := x5) hQ hx hb hr hlocks hS (Nat.le_of_ble_eq_true rfl) (Nat.le_of_ble_eq_true rfl) dX10_copy_113 (⟨(by omega), (hT.sub [0, 1, 9, 2, 3, 4, 5, 6, 7, 8] (by decide) rfl)⟩)
              · skip
                have c_13 := ni_ne c_13 rfl rfl
                exfalso; omega
            · skip
              have hT := J _ hT1
              have hT : TP D A [(h0, ob 7 [.ref h1, .ref h2, .int h0f2, .ref h3, .ref h4, .ref h5, .int h0f6, .ref h6, .int h0f8, .ref h7, .ref h8, .int h0f11, .ref h9, .ref h10, .ref h11, .ref h12, .ref h13]), (h4, aQ (k 3) 4 (q4 h18 h19 h20 h21)), (h19, ob 5 [.int h19f0, .int h19f1, .ref h47]), (h20, ob 5 [.int h20f0, .int h20f1, .ref h48]), (h21, ob 5 [.int h21f0, .int h21f1, .ref h49]), (h46, aJ (k 1) 40 anJ), (h47, aJ (k 1) 40 anJ), (h48, aJ (k 1) 40 anJ), (h49, aJ (k 1) 40 anJ), (h18, ob 5 [.int h18f0, .int h18f1, .ref h46])] _ := hT
              refine lv_if_eq (tgt := 51) hx hb dX10_copy_45 (by decide) (fun cc => absurd cc (by decide +kernel)) (fun _ => ?_)
              refine lv_bipush (v := (-11)) hx hb dX10_copy_48 (by decide) ?_
              exact tz_retI (B := B_cX10_copy_c7a33 D k h0 h4 h18 h19 h20 h21 h46 h47 h48 h49 h1 h2 h3 h5 h6 h7 h8 h9 h10 h11 h12 h13 x1 x2 x3 x4 x5 h0f2 h0f6 h0f8 h0f11 h18f0 h18f1 h19f0 h19f1 h20f0 h20f1 h21f0 h21f1) (v := (-11)) hQ hx hb hr hlocks hS (Nat.le_of_ble_eq_true rfl) (Nat.le_of_ble_eq_true rfl) dX10_copy_50 (⟨(by have := li_m11; omega), (hT.sub [0, 1, 9, 2, 3, 4, 5, 6, 7, 8] (by decide) rfl)⟩)
          · skip
            have hT := J _ hT1
            have hT : TP D A [(h0, ob 7 [.ref h1, .ref h2, .int h0f2, .ref h3, .ref h4, .ref h5, .int h0f6, .ref h6, .int h0f8, .ref h7, .ref h8, .int h0f11, .ref h9, .ref h10, .ref h11, .ref h12, .ref h13]), (h4, aQ (k 3) 4 (q4 h18 h19 h20 h21)), (h19, ob 5 [.int h19f0, .int h19f1, .ref h47]), (h20, ob 5 [.int h20f0, .int h20f1, .ref h48]), (h21, ob 5 [.int h21f0, .int h21f1, .ref h49]), (h46, aJ (k 1) 40 anJ), (h47, aJ (k 1) 40 anJ), (h48, aJ (k 1) 40 anJ), (h49, aJ (k 1) 40 anJ), (h18, ob 5 [.int h18f0, .int h18f1, .ref h46])] _ := hT
            refine lv_if_ne (tgt := 48) hx hb dX10_copy_37 (by decide) (fun _ => ?_) (fun cc => absurd cc (by decide +kernel))
            refine lv_bipush (v := (-11)) hx hb dX10_copy_48 (by decide) ?_
            exact tz_retI (B := B_cX10_copy_c7a33 D k h0 h4 h18 h19 h20 h21 h46 h47 h48 h49 h1 h2 h3 h5 h6 h7 h8 h9 h10 h11 h12 h13 x1 x2 x3 x4 x5 h0f2 h0f6 h0f8 h0f11 h18f0 h18f1 h19f0 h19f1 h20f0 h20f1 h21f0 h21f1) (v := (-11)) hQ hx hb hr hlocks hS (Nat.le_of_ble_eq_true rfl) (Nat.le_of_ble_eq_true rfl) dX10_copy_50 (⟨(by have := li_m11; omega), (hT.sub [0, 1, 9, 2, 3, 4, 5, 6, 7, 8] (by decide) rfl)⟩)
        · skip
          refine tz_aldq (b := h19) hx hb hK hT 1 rfl (vp_in_iff.mpr (by have := hq8; omega)) (fun f hf => by rw [cl_of hq8]; exact hf.2.1) dX10_copy_29 ?_
          refine lv_astore (lv' := [(7, .ref h19), (6, .ref h18), (0, .ref h0), (1, .int x1), (2, .int x2), (3, .int x3), (4, .int x4), (5, .int x5)]) hx hb dX10_copy_30 hl (by decide) rfl (fun ls hl => ?_)
          refine lv_aload hx hb dX10_copy_32 (lv_at hl 1 rfl) ?_
          refine tcI (Tc := [(h18, ob 5 [.int h18f0, .int h18f1, .ref h46])]) (Tr := [(h0, ob 7 [.ref h1, .ref h2, .int h0f2, .ref h3, .ref h4, .ref h5, .int h0f6, .ref h6, .int h0f8, .ref h7, .ref h8, .int h0f11, .ref h9, .ref h10, .ref h11, .ref h12, .ref h13]), (h4, aQ (k 3) 4 (q4 h18 h19 h20 h21)), (h19, ob 5 [.int h19f0, .int h19f1, .ref h47]), (h20, ob 5 [.int h20f0, .int h20f1, .ref h48]), (h21, ob 5 [.int h21f0, .int h21f1, .ref h49]), (h46, aJ (k 1) 40 anJ), (h47, aJ (k 1) 40 anJ), (h48, aJ (k 1) 40 anJ), (h49, aJ (k 1) 40 anJ)]) (as := [h18]) (zcV (q0 := 2) (ci := 5) (As := []) (rest := []) (Tc := [(h18, ob 5 [.int h18f0, .int h18f1, .ref h46])]) hx hb hml hown hU hK hT rfl rfl [2] rfl (by decide) (cX6_isMissing_56a93 l D k _ h18 h46 h18f0 h18f1 (by omega) (by omega)) w644 w641 w642 w643 w71 hdX6_isMissing ⟨rfl, rfl⟩ ⟨Nat.le_of_ble_eq_true rfl, Nat.le_of_ble_eq_true rfl⟩ rfl hl.1 (Nat.le_of_ble_eq_true rfl) dX10_copy_34 ⟨Nat.le_of_ble_eq_true rfl, Nat.le_of_ble_eq_true rfl⟩) hT hS hA [2] [0, 1, 3, 4, 5, 6, 7, 8, 9] rfl rfl rfl (by decide) (by decide) (fun r22 H locs hB J hS => ?_)
          rcases hB with ⟨c_23, rfl, hT1⟩ | ⟨rfl, hT1⟩
          · skip
            have hT := J _ hT1
            have hT : TP D A [(h0, ob 7 [.ref h1, .ref h2, .int h0f2, .ref h3, .ref h4, .ref h5, .int h0f6, .ref h6, .int h0f8, .ref h7, .ref h8, .int h0f11, .ref h9, .ref h10, .ref h11, .ref h12, .ref h13]), (h4, aQ (k 3) 4 (q4 h18 h19 h20 h21)), (h19, ob 5 [.int h19f0, .int h19f1, .ref h47]), (h20, ob 5 [.int h20f0, .int h20f1, .ref h48]), (h21, ob 5 [.int h21f0, .int h21f1, .ref h49]), (h46, aJ (k 1) 40 anJ), (h47, aJ (k 1) 40 anJ), (h48, aJ (k 1) 40 anJ), (h49, aJ (k 1) 40 anJ), (h18, ob 5 [.int h18f0, .int h18f1, .ref h46])] _ := hT
            refine lv_if_ne (tgt := 48) hx hb dX10_copy_37 (by decide) (fun cc => absurd (by decide +kernel) cc) (fun _ => ?_)
            refine lv_aload hx hb dX10_copy_40 (lv_at hl 0 rfl) ?_
            refine tcI (Tc := [(h19, ob 5 [.int h19f0, .int h19f1, .ref h47])]) (Tr := [(h0, ob 7 [.ref h1, .ref h2, .int h0f2, .ref h3, .ref h4, .ref h5, .int h0f6, .ref h6, .int h0f8, .ref h7, .ref h8, .int h0f11, .ref h9, .ref h10, .ref h11, .ref h12, .ref h13]), (h4, aQ (k 3) 4 (q4 h18 h19 h20 h21)), (h20, ob 5 [.int h20f0, .int h20f1, .ref h48]), (h21, ob 5 [.int h21f0, .int h21f1, .ref h49]), (h46, aJ (k 1) 40 anJ), (h47, aJ (k 1) 40 anJ), (h48, aJ (k 1) 40 anJ), (h49, aJ (k 1) 40 anJ), (h18, ob 5 [.int h18f0, .int h18f1, .ref h46])]) (as := [h19]) (zcV (q0 := 2) (ci := 5) (As := []) (rest := []) (Tc := [(h19, ob 5 [.int h19f0, .int h19f1, .ref h47])]) hx hb hml hown hU hK hT rfl rfl [2] rfl (by decide) (cX6_isMissing_56a93 l D k _ h19 h47 h19f0 h19f1 (by omega) (by omega)) w644 w641 w642 w643 w71 hdX6_isMissing ⟨rfl, rfl⟩ ⟨Nat.le_of_ble_eq_true rfl, Nat.le_of_ble_eq_true rfl⟩ rfl hl.1 (Nat.le_of_ble_eq_true rfl) dX10_copy_42 ⟨Nat.le_of_ble_eq_true rfl, Nat.le_of_ble_eq_true rfl⟩) hT hS hA [2] [0, 1, 3, 4, 5, 6, 7, 8, 9] rfl rfl rfl (by decide) (by decide) (fun r24 H locs hB J hS => ?_)
            rcases hB with ⟨c_25, rfl, hT1⟩ | ⟨rfl, hT1⟩
            · skip
              have hT := J _ hT1
              have hT : TP D A [(h0, ob 7 [.ref h1, .ref h2, .int h0f2, .ref h3, .ref h4, .ref h5, .int h0f6, .ref h6, .int h0f8, .ref h7, .ref h8, .int h0f11, .ref h9, .ref h10, .ref h11, .ref h12, .ref h13]), (h4, aQ (k 3) 4 (q4 h18 h19 h20 h21)), (h20, ob 5 [.int h20f0, .int h20f1, .ref h48]), (h21, ob 5 [.int h21f0, .int h21f1, .ref h49]), (h46, aJ (k 1) 40 anJ), (h47, aJ (k 1) 40 anJ), (h48, aJ (k 1) 40 anJ), (h49, aJ (k 1) 40 anJ), (h18, ob 5 [.int h18f0, .int h18f1, .ref h46]), (h19, ob 5 [.int h19f0, .int h19f1, .ref h47])] _ := hT
              refine lv_if_eq (tgt := 51) hx hb dX10_copy_45 (by decide) (fun _ => ?_) (fun cc => absurd (by decide +kernel) cc)
              refine lv_aload hx hb dX10_copy_51 (lv_at hl 1 rfl) ?_
              refine tz_get (ci := 5) (v := .int h18f0) (C := RX6) (F := TX6) (N := 3) hx hb hU iX6 hown hK hT 8 rfl rfl 0 (by decide) w238 (fun _ h9 => h9) rfl dX10_copy_53 ?_
              refine lv_aload hx hb dX10_copy_56 (lv_at hl 0 rfl) ?_
              refine tz_get (ci := 5) (v := .int h19f0) (C := RX6) (F := TX6) (N := 3) hx hb hU iX6 hown hK hT 9 rfl rfl 0 (by decide) w238 (fun _ h9 => h9) rfl dX10_copy_58 ?_
              refine lv_icmp_eq (tgt := 67) hx hb dX10_copy_61 (by decide) (fun c_26 => ?_) (fun c_26 => ?_)
              · skip
                have c_26 := ni_eq c_26 rfl rfl
                refine lv_aload hx hb dX10_copy_67 (lv_at hl 1 rfl) ?_
                refine lv_iload_n hx hb dX10_copy_69 rfl (lv_at hl 4 rfl) ?_
                refine lv_iload hx hb dX10_copy_70 (lv_at hl 7 rfl) ?_
                refine tcI (Tc := [(h18, ob 5 [.int h18f0, .int h18f1, .ref h46])]) (Tr := [(h0, ob 7 [.ref h1, .ref h2, .int h0f2, .ref h3, .ref h4, .ref h5, .int h0f6, .ref h6, .int h0f8, .ref h7, .ref h8, .int h0f11, .ref h9, .ref h10, .ref h11, .ref h12, .ref h13]), (h4, aQ (k 3) 4 (q4 h18 h19 h20 h21)), (h20, ob 5 [.int h20f0, .int h20f1, .ref h48]), (h21, ob 5 [.int h21f0, .int h21f1, .ref h49]), (h46, aJ (k 1) 40 anJ), (h47, aJ (k 1) 40 anJ), (h48, aJ (k 1) 40 anJ), (h49, aJ (k 1) 40 anJ), (h19, ob 5 [.int h19f0, .int h19f1, .ref h47])]) (as := [h18]) (zcV (q0 := 8) (ci := 5) (As := [.int x2, .int x5]) (rest := []) (Tc := [(h18, ob 5 [.int h18f0, .int h18f1, .ref h46])]) hx hb hml hown hU hK hT rfl rfl [8] rfl (by decide) (cX6_isOutside_cc85b l D k _ h18 h46 x2 x5 h18f0 h18f1 (by omega) (by omega)) w648 w645 w646 w647 w71 hdX6_isOutside ⟨rfl, rfl⟩ ⟨Nat.le_of_ble_eq_true rfl, Nat.le_of_ble_eq_true rfl⟩ rfl hl.1 (Nat.le_of_ble_eq_true rfl) dX10_copy_72 ⟨Nat.le_of_ble_eq_true rfl, Nat.le_of_ble_eq_true rfl⟩) hT hS hA [8] [0, 1, 2, 3, 4, 5, 6, 7, 9] rfl rfl rfl (by decide) (by decide) (fun r27 H locs hB J hS => ?_)
                rcases hB with ⟨rfl, hT1⟩ | ⟨c_28, c_29, c_30, rfl, hT1⟩
                · skip
                  have hT := J _ hT1
                  have hT : TP D A [(h0, ob 7 [.ref h1, .ref h2, .int h0f2, .ref h3, .ref h4, .ref h5, .int h0f6, .ref h6, .int h0f8, .ref h7, .ref h8, .int h0f11, .ref h9, .ref h10, .ref h11, .ref h12, .ref h13]), (h4, aQ (k 3) 4 (q4 h18 h19 h20 h21)), (h20, ob 5 [.int h20f0, .int h20f1, .ref h48]), (h21, ob 5 [.int h21f0, .int h21f1, .ref h49]), (h46, aJ (k 1) 40 anJ), (h47, aJ (k 1) 40 anJ), (h48, aJ (k 1) 40 anJ), (h49, aJ (k 1) 40 anJ), (h19, ob 5 [.int h19f0, .int h19f1, .ref h47]), (h18, ob 5 [.int h18f0, .int h18f1, .ref h46])] _ := hT
                  refine lv_if_ne (tgt := 90) hx hb dX10_copy_75 (by decide) (fun _ => ?_) (fun cc => absurd cc (by decide +kernel))
                  refine lv_bipush (v := (-12)) hx hb dX10_copy_90 (by decide) ?_
                  exact tz_retI (B := B_cX10_copy_c7a33 D k h0 h4 h18 h19 h20 h21 h46 h47 h48 h49 h1 h2 h3 h5 h6 h7 h8 h9 h10 h11 h12 h13 x1 x2 x3 x4 x5 h0f2 h0f6 h0f8 h0f11 h18f0 h18f1 h19f0 h19f1 h20f0 h20f1 h21f0 h21f1) (v := (-12)) hQ hx hb hr hlocks hS (Nat.le_of_ble_eq_true rfl) (Nat.le_of_ble_eq_true rfl) dX10_copy_92 (⟨(by have := li_m12; omega), (hT.sub [0, 1, 9, 8, 2, 3, 4, 5, 6, 7] (by decide) rfl)⟩)
                · skip
                  have hT := J _ hT1
                  have hT : TP D A [(h0, ob 7 [.ref h1, .ref h2, .int h0f2, .ref h3, .ref h4, .ref h5, .int h0f6, .ref h6, .int h0f8, .ref h7, .ref h8, .int h0f11, .ref h9, .ref h10, .ref h11, .ref h12, .ref h13]), (h4, aQ (k 3) 4 (q4 h18 h19 h20 h21)), (h20, ob 5 [.int h20f0, .int h20f1, .ref h48]), (h21, ob 5 [.int h21f0, .int h21f1, .ref h49]), (h46, aJ (k 1) 40 anJ), (h47, aJ (k 1) 40 anJ), (h48, aJ (k 1) 40 anJ), (h49, aJ (k 1) 40 anJ), (h19, ob 5 [.int h19f0, .int h19f1, .ref h47]), (h18, ob 5 [.int h18f0, .int h18f1, .ref h46])] _ := hT
                  refine lv_if_ne (tgt := 90) hx hb dX10_copy_75 (by decide) (fun cc => absurd (by decide +kernel) cc) (fun _ => ?_)
                  refine lv_aload hx hb dX10_copy_78 (lv_at hl 0 rfl) ?_
                  refine lv_iload hx hb dX10_copy_80 (lv_at hl 6 rfl) ?_
                  refine lv_iload hx hb dX10_copy_82 (lv_at hl 7 rfl) ?_
                  refine tcI (Tc := [(h19, ob 5 [.int h19f0, .int h19f1, .ref h47])]) (Tr := [(h0, ob 7 [.ref h1, .ref h2, .int h0f2, .ref h3, .ref h4, .ref h5, .int h0f6, .ref h6, .int h0f8, .ref h7, .ref h8, .int h0f11, .ref h9, .ref h10, .ref h11, .ref h12, .ref h13]), (h4, aQ (k 3) 4 (q4 h18 h19 h20 h21)), (h20, ob 5 [.int h20f0, .int h20f1, .ref h48]), (h21, ob 5 [.int h21f0, .int h21f1, .ref h49]), (h46, aJ (k 1) 40 anJ), (h47, aJ (k 1) 40 anJ), (h48, aJ (k 1) 40 anJ), (h49, aJ (k 1) 40 anJ), (h18, ob 5 [.int h18f0, .int h18f1, .ref h46])]) (as := [h19]) (zcV (q0 := 8) (ci := 5) (As := [.int x4, .int x5]) (rest := []) (Tc := [(h19, ob 5 [.int h19f0, .int h19f1, .ref h47])]) hx hb hml hown hU hK hT rfl rfl [8] rfl (by decide) (cX6_isOutside_cc85b l D k _ h19 h47 x4 x5 h19f0 h19f1 (by omega) (by omega)) w648 w645 w646 w647 w71 hdX6_isOutside ⟨rfl, rfl⟩ ⟨Nat.le_of_ble_eq_true rfl, Nat.le_of_ble_eq_true rfl⟩ rfl hl.1 (Nat.le_of_ble_eq_true rfl) dX10_copy_84 ⟨Nat.le_of_ble_eq_true rfl, Nat.le_of_ble_eq_true rfl⟩) hT hS hA [8] [0, 1, 2, 3, 4, 5, 6, 7, 9] rfl rfl rfl (by decide) (by decide) (fun r31 H locs hB J hS => ?_)
                  rcases hB with ⟨rfl, hT1⟩ | ⟨c_32, c_33, c_34, rfl, hT1⟩
                  · skip
                    have hT := J _ hT1
                    have hT : TP D A [(h0, ob 7 [.ref h1, .ref h2, .int h0f2, .ref h3, .ref h4, .ref h5, .int h0f6, .ref h6, .int h0f8, .ref h7, .ref h8, .int h0f11, .ref h9, .ref h10, .ref h11, .ref h12, .ref h13]), (h4, aQ (k 3) 4 (q4 h18 h19 h20 h21)), (h20, ob 5 [.int h20f0, .int h20f1, .ref h48]), (h21, ob 5 [.int h21f0, .int h21f1, .ref h49]), (h46, aJ (k 1) 40 anJ), (h47, aJ (k 1) 40 anJ), (h48, aJ (k 1) 40 anJ), (h49, aJ (k 1) 40 anJ), (h18, ob 5 [.int h18f0, .int h18f1, .ref h46]), (h19, ob 5 [.int h19f0, .int h19f1, .ref h47])] _ := hT
                    refine lv_if_eq (tgt := 93) hx hb dX10_copy_87 (by decide) (fun cc => absurd cc (by decide +kernel)) (fun _ => ?_)
                    refine lv_bipush (v := (-12)) hx hb dX10_copy_90 (by decide) ?_
                    exact tz_retI (B := B_cX10_copy_c7a33 D k h0 h4 h18 h19 h20 h21 h46 h47 h48 h49 h1 h2 h3 h5 h6 h7 h8 h9 h10 h11 h12 h13 x1 x2 x3 x4 x5 h0f2 h0f6 h0f8 h0f11 h18f0 h18f1 h19f0 h19f1 h20f0 h20f1 h21f0 h21f1) (v := (-12)) hQ hx hb hr hlocks hS (Nat.le_of_ble_eq_true rfl) (Nat.le_of_ble_eq_true rfl) dX10_copy_92 (⟨(by have := li_m12; omega), (hT.sub [0, 1, 8, 9, 2, 3, 4, 5, 6, 7] (by decide) rfl)⟩)
                  · skip
                    have hT := J _ hT1
                    have hT : TP D A [(h0, ob 7 [.ref h1, .ref h2, .int h0f2, .ref h3, .ref h4, .ref h5, .int h0f6, .ref h6, .int h0f8, .ref h7, .ref h8, .int h0f11, .ref h9, .ref h10, .ref h11, .ref h12, .ref h13]), (h4, aQ (k 3) 4 (q4 h18 h19 h20 h21)), (h20, ob 5 [.int h20f0, .int h20f1, .ref h48]), (h21, ob 5 [.int h21f0, .int h21f1, .ref h49]), (h46, aJ (k 1) 40 anJ), (h47, aJ (k 1) 40 anJ), (h48, aJ (k 1) 40 anJ), (h49, aJ (k 1) 40 anJ), (h18, ob 5 [.int h18f0, .int h18f1, .ref h46]), (h19, ob 5 [.int h19f0, .int h19f1, .ref h47])] _ := hT
                    refine lv_if_eq (tgt := 93) hx hb dX10_copy_87 (by decide) (fun _ => ?_) (fun cc => absurd (by decide +kernel) cc)
                    refine lv_aload hx hb dX10_copy_93 (lv_at hl 1 rfl) ?_
                    refine tz_get (ci := 5) (v := .ref h46) (C := RX6) (F := TX6) (N := 3) hx hb hU iX6 hown hK hT 8 rfl rfl 2 (by decide) w241 (fun _ h9 => h9) rfl dX10_copy_95 ?_
                    refine lv_iload_n hx hb dX10_copy_98 rfl (lv_at hl 4 rfl) ?_
                    refine lv_aload hx hb dX10_copy_99 (lv_at hl 0 rfl) ?_
                    refine tz_get (ci := 5) (v := .ref h47) (C := RX6) (F := TX6) (N := 3) hx hb hU iX6 hown hK hT 9 rfl rfl 2 (by decide) w241 (fun _ h9 => h9) rfl dX10_copy_101 ?_
                    refine lv_iload hx hb dX10_copy_104 (lv_at hl 6 rfl) ?_
                    refine lv_iload hx hb dX10_copy_106 (lv_at hl 7 rfl) ?_
                    refine tz_copyl hx hb (by rw [hml]; exact hl.1.symm) hown hU w410 w348 w347 w75 hK hT hS 4 5 rfl rfl (by omega) (fun _ _ _ _ => trivial) (Nat.le_of_ble_eq_true rfl) (Nat.le_of_ble_eq_true rfl) dX10_copy_108 (fun H locs hT hS => ?_)
                    refine lv_iload hx hb dX10_copy_111 (lv_at hl 7 rfl) ?_
                    exact tz_retI (B := B_cX10_copy_c7a33 D k h0 h4 h18 h19 h20 h21 h46 h47 h48 h49 h1 h2 h3 h5 h6 h7 h8 h9 h10 h11 h12 h13 x1 x2 x3 x4 x5 h0f2 h0f6 h0f8 h0f11 h18f0 h18f1 h19f0 h19f1 h20f0 h20f1 h21f0 h21f1) (v := x5) hQ hx hb hr hlocks hS (Nat.le_of_ble_eq_true rfl) (Nat.le_of_ble_eq_true rfl) dX10_copy_113 (⟨(by omega), (hT.sub [0, 1, 8, 9, 2, 3, 4, 5, 6, 7] (by decide) rfl)⟩)
              · skip
                have c_26 := ni_ne c_26 rfl rfl
                refine lv_bipush (v := (-13)) hx hb dX10_copy_64 (by decide) ?_
                exact tz_retI (B := B_cX10_copy_c7a33 D k h0 h4 h18 h19 h20 h21 h46 h47 h48 h49 h1 h2 h3 h5 h6 h7 h8 h9 h10 h11 h12 h13 x1 x2 x3 x4 x5 h0f2 h0f6 h0f8 h0f11 h18f0 h18f1 h19f0 h19f1 h20f0 h20f1 h21f0 h21f1) (v := (-13)) hQ hx hb hr hlocks hS (Nat.le_of_ble_eq_true rfl) (Nat.le_of_ble_eq_true rfl) dX10_copy_66 (⟨(by have := li_m13; omega), (hT.sub [0, 1, 8, 9, 2, 3, 4, 5, 6, 7] (by decide) rfl)⟩)
            · skip
              have hT := J _ hT1
              have hT : TP D A [(h0, ob 7 [.ref h1, .ref h2, .int h0f2, .ref h3, .ref h4, .ref h5, .int h0f6, .ref h6, .int h0f8, .ref h7, .ref h8, .int h0f11, .ref h9, .ref h10, .ref h11, .ref h12, .ref h13]), (h4, aQ (k 3) 4 (q4 h18 h19 h20 h21)), (h20, ob 5 [.int h20f0, .int h20f1, .ref h48]), (h21, ob 5 [.int h21f0, .int h21f1, .ref h49]), (h46, aJ (k 1) 40 anJ), (h47, aJ (k 1) 40 anJ), (h48, aJ (k 1) 40 anJ), (h49, aJ (k 1) 40 anJ), (h18, ob 5 [.int h18f0, .int h18f1, .ref h46]), (h19, ob 5 [.int h19f0, .int h19f1, .ref h47])] _ := hT
              refine lv_if_eq (tgt := 51) hx hb dX10_copy_45 (by decide) (fun cc => absurd cc (by decide +kernel)) (fun _ => ?_)
              refine lv_bipush (v := (-11)) hx hb dX10_copy_48 (by decide) ?_
              exact tz_retI (B := B_cX10_copy_c7a33 D k h0 h4 h18 h19 h20 h21 h46 h47 h48 h49 h1 h2 h3 h5 h6 h7 h8 h9 h10 h11 h12 h13 x1 x2 x3 x4 x5 h0f2 h0f6 h0f8 h0f11 h18f0 h18f1 h19f0 h19f1 h20f0 h20f1 h21f0 h21f1) (v := (-11)) hQ hx hb hr hlocks hS (Nat.le_of_ble_eq_true rfl) (Nat.le_of_ble_eq_true rfl) dX10_copy_50 (⟨(by have := li_m11; omega), (hT.sub [0, 1, 8, 9, 2, 3, 4, 5, 6, 7] (by decide) rfl)⟩)
          · skip
            have hT := J _ hT1
            have hT : TP D A [(h0, ob 7 [.ref h1, .ref h2, .int h0f2, .ref h3, .ref h4, .ref h5, .int h0f6, .ref h6, .int h0f8, .ref h7, .ref h8, .int h0f11, .ref h9, .ref h10, .ref h11, .ref h12, .ref h13]), (h4, aQ (k 3) 4 (q4 h18 h19 h20 h21)), (h19, ob 5 [.int h19f0, .int h19f1, .ref h47]), (h20, ob 5 [.int h20f0, .int h20f1, .ref h48]), (h21, ob 5 [.int h21f0, .int h21f1, .ref h49]), (h46, aJ (k 1) 40 anJ), (h47, aJ (k 1) 40 anJ), (h48, aJ (k 1) 40 anJ), (h49, aJ (k 1) 40 anJ), (h18, ob 5 [.int h18f0, .int h18f1, .ref h46])] _ := hT
            refine lv_if_ne (tgt := 48) hx hb dX10_copy_37 (by decide) (fun _ => ?_) (fun cc => absurd cc (by decide +kernel))
            refine lv_bipush (v := (-11)) hx hb dX10_copy_48 (by decide) ?_
            exact tz_retI (B := B_cX10_copy_c7a33 D k h0 h4 h18 h19 h20 h21 h46 h47 h48 h49 h1 h2 h3 h5 h6 h7 h8 h9 h10 h11 h12 h13 x1 x2 x3 x4 x5 h0f2 h0f6 h0f8 h0f11 h18f0 h18f1 h19f0 h19f1 h20f0 h20f1 h21f0 h21f1) (v := (-11)) hQ hx hb hr hlocks hS (Nat.le_of_ble_eq_true rfl) (Nat.le_of_ble_eq_true rfl) dX10_copy_50 (⟨(by have := li_m11; omega), (hT.sub [0, 1, 9, 2, 3, 4, 5, 6, 7, 8] (by decide) rfl)⟩)
        · skip
          refine tz_aldq (b := h20) hx hb hK hT 1 rfl (vp_in_iff.mpr (by have := hq8; omega)) (fun f hf => by rw [cl_of hq8]; exact hf.2.2.1) dX10_copy_29 ?_
          refine lv_astore (lv' := [(7, .ref h20), (6, .ref h18), (0, .ref h0), (1, .int x1), (2, .int x2), (3, .int x3), (4, .int x4), (5, .int x5)]) hx hb dX10_copy_30 hl (by decide) rfl (fun ls hl => ?_)
          refine lv_aload hx hb dX10_copy_32 (lv_at hl 1 rfl) ?_
          refine tcI (Tc := [(h18, ob 5 [.int h18f0, .int h18f1, .ref h46])]) (Tr := [(h0, ob 7 [.ref h1, .ref h2, .int h0f2, .ref h3, .ref h4, .ref h5, .int h0f6, .ref h6, .int h0f8, .ref h7, .ref h8, .int h0f11, .ref h9, .ref h10, .ref h11, .ref h12, .ref h13]), (h4, aQ (k 3) 4 (q4 h18 h19 h20 h21)), (h19, ob 5 [.int h19f0, .int h19f1, .ref h47]), (h20, ob 5 [.int h20f0, .int h20f1, .ref h48]), (h21, ob 5 [.int h21f0, .int h21f1, .ref h49]), (h46, aJ (k 1) 40 anJ), (h47, aJ (k 1) 40 anJ), (h48, aJ (k 1) 40 anJ), (h49, aJ (k 1) 40 anJ)]) (as := [h18]) (zcV (q0 := 2) (ci := 5) (As := []) (rest := []) (Tc := [(h18, ob 5 [.int h18f0, .int h18f1, .ref h46])]) hx hb hml hown hU hK hT rfl rfl [2] rfl (by decide) (cX6_isMissing_56a93 l D k _ h18 h46 h18f0 h18f1 (by omega) (by omega)) w644 w641 w642 w643 w71 hdX6_isMissing ⟨rfl, rfl⟩ ⟨Nat.le_of_ble_eq_true rfl, Nat.le_of_ble_eq_true rfl⟩ rfl hl.1 (Nat.le_of_ble_eq_true rfl) dX10_copy_34 ⟨Nat.le_of_ble_eq_true rfl, Nat.le_of_ble_eq_true rfl⟩) hT hS hA [2] [0, 1, 3, 4, 5, 6, 7, 8, 9] rfl rfl rfl (by decide) (by decide) (fun r35 H locs hB J hS => ?_)
          rcases hB with ⟨c_36, rfl, hT1⟩ | ⟨rfl, hT1⟩
          · skip
            have hT := J _ hT1
            have hT : TP D A [(h0, ob 7 [.ref h1, .ref h2, .int h0f2, .ref h3, .ref h4, .ref h5, .int h0f6, .ref h6, .int h0f8, .ref h7, .ref h8, .int h0f11, .ref h9, .ref h10, .ref h11, .ref h12, .ref h13]), (h4, aQ (k 3) 4 (q4 h18 h19 h20 h21)), (h19, ob 5 [.int h19f0, .int h19f1, .ref h47]), (h20, ob 5 [.int h20f0, .int h20f1, .ref h48]), (h21, ob 5 [.int h21f0, .int h21f1, .ref h49]), (h46, aJ (k 1) 40 anJ), (h47, aJ (k 1) 40 anJ), (h48, aJ (k 1) 40 anJ), (h49, aJ (k 1) 40 anJ), (h18, ob 5 [.int h18f0, .int h18f1, .ref h46])] _ := hT
            refine lv_if_ne (tgt := 48) hx hb dX10_copy_37 (by decide) (fun cc => absurd (by decide +kernel) cc) (fun _ => ?_)
            refine lv_aload hx hb dX10_copy_40 (lv_at hl 0 rfl) ?_
            refine tcI (Tc := [(h20, ob 5 [.int h20f0, .int h20f1, .ref h48])]) (Tr := [(h0, ob 7 [.ref h1, .ref h2, .int h0f2, .ref h3, .ref h4, .ref h5, .int h0f6, .ref h6, .int h0f8, .ref h7, .ref h8, .int h0f11, .ref h9, .ref h10, .ref h11, .ref h12, .ref h13]), (h4, aQ (k 3) 4 (q4 h18 h19 h20 h21)), (h19, ob 5 [.int h19f0, .int h19f1, .ref h47]), (h21, ob 5 [.int h21f0, .int h21f1, .ref h49]), (h46, aJ (k 1) 40 anJ), (h47, aJ (k 1) 40 anJ), (h48, aJ (k 1) 40 anJ), (h49, aJ (k 1) 40 anJ), (h18, ob 5 [.int h18f0, .int h18f1, .ref h46])]) (as := [h20]) (zcV (q0 := 3) (ci := 5) (As := []) (rest := []) (Tc := [(h20, ob 5 [.int h20f0, .int h20f1, .ref h48])]) hx hb hml hown hU hK hT rfl rfl [3] rfl (by decide) (cX6_isMissing_56a93 l D k _ h20 h48 h20f0 h20f1 (by omega) (by omega)) w644 w641 w642 w643 w71 hdX6_isMissing ⟨rfl, rfl⟩ ⟨Nat.le_of_ble_eq_true rfl, Nat.le_of_ble_eq_true rfl⟩ rfl hl.1 (Nat.le_of_ble_eq_true rfl) dX10_copy_42 ⟨Nat.le_of_ble_eq_true rfl, Nat.le_of_ble_eq_true rfl⟩) hT hS hA [3] [0, 1, 2, 4, 5, 6, 7, 8, 9] rfl rfl rfl (by decide) (by decide) (fun r37 H locs hB J hS => ?_)
            rcases hB with ⟨c_38, rfl, hT1⟩ | ⟨rfl, hT1⟩
            · skip
              have hT := J _ hT1
              have hT : TP D A [(h0, ob 7 [.ref h1, .ref h2, .int h0f2, .ref h3, .ref h4, .ref h5, .int h0f6, .ref h6, .int h0f8, .ref h7, .ref h8, .int h0f11, .ref h9, .ref h10, .ref h11, .ref h12, .ref h13]), (h4, aQ (k 3) 4 (q4 h18 h19 h20 h21)), (h19, ob 5 [.int h19f0, .int h19f1, .ref h47]), (h21, ob 5 [.int h21f0, .int h21f1, .ref h49]), (h46, aJ (k 1) 40 anJ), (h47, aJ (k 1) 40 anJ), (h48, aJ (k 1) 40 anJ), (h49, aJ (k 1) 40 anJ), (h18, ob 5 [.int h18f0, .int h18f1, .ref h46]), (h20, ob 5 [.int h20f0, .int h20f1, .ref h48])] _ := hT
              refine lv_if_eq (tgt := 51) hx hb dX10_copy_45 (by decide) (fun _ => ?_) (fun cc => absurd (by decide +kernel) cc)
              refine lv_aload hx hb dX10_copy_51 (lv_at hl 1 rfl) ?_
              refine tz_get (ci := 5) (v := .int h18f0) (C := RX6) (F := TX6) (N := 3) hx hb hU iX6 hown hK hT 8 rfl rfl 0 (by decide) w238 (fun _ h9 => h9) rfl dX10_copy_53 ?_
              refine lv_aload hx hb dX10_copy_56 (lv_at hl 0 rfl) ?_
              refine tz_get (ci := 5) (v := .int h20f0) (C := RX6) (F := TX6) (N := 3) hx hb hU iX6 hown hK hT 9 rfl rfl 0 (by decide) w238 (fun _ h9 => h9) rfl dX10_copy_58 ?_
              refine lv_icmp_eq (tgt := 67) hx hb dX10_copy_61 (by decide) (fun c_39 => ?_) (fun c_39 => ?_)
              · skip
                have c_39 := ni_eq c_39 rfl rfl
                refine lv_aload hx hb dX10_copy_67 (lv_at hl 1 rfl) ?_
                refine lv_iload_n hx hb dX10_copy_69 rfl (lv_at hl 4 rfl) ?_
                refine lv_iload hx hb dX10_copy_70 (lv_at hl 7 rfl) ?_
                refine tcI (Tc := [(h18, ob 5 [.int h18f0, .int h18f1, .ref h46])]) (Tr := [(h0, ob 7 [.ref h1, .ref h2, .int h0f2, .ref h3, .ref h4, .ref h5, .int h0f6, .ref h6, .int h0f8, .ref h7, .ref h8, .int h0f11, .ref h9, .ref h10, .ref h11, .ref h12, .ref h13]), (h4, aQ (k 3) 4 (q4 h18 h19 h20 h21)), (h19, ob 5 [.int h19f0, .int h19f1, .ref h47]), (h21, ob 5 [.int h21f0, .int h21f1, .ref h49]), (h46, aJ (k 1) 40 anJ), (h47, aJ (k 1) 40 anJ), (h48, aJ (k 1) 40 anJ), (h49, aJ (k 1) 40 anJ), (h20, ob 5 [.int h20f0, .int h20f1, .ref h48])]) (as := [h18]) (zcV (q0 := 8) (ci := 5) (As := [.int x2, .int x5]) (rest := []) (Tc := [(h18, ob 5 [.int h18f0, .int h18f1, .ref h46])]) hx hb hml hown hU hK hT rfl rfl [8] rfl (by decide) (cX6_isOutside_cc85b l D k _ h18 h46 x2 x5 h18f0 h18f1 (by omega) (by omega)) w648 w645 w646 w647 w71 hdX6_isOutside ⟨rfl, rfl⟩ ⟨Nat.le_of_ble_eq_true rfl, Nat.le_of_ble_eq_true rfl⟩ rfl hl.1 (Nat.le_of_ble_eq_true rfl) dX10_copy_72 ⟨Nat.le_of_ble_eq_true rfl, Nat.le_of_ble_eq_true rfl⟩) hT hS hA [8] [0, 1, 2, 3, 4, 5, 6, 7, 9] rfl rfl rfl (by decide) (by decide) (fun r40 H locs hB J hS => ?_)
                rcases hB with ⟨rfl, hT1⟩ | ⟨c_41, c_42, c_43, rfl, hT1⟩
                · skip
                  have hT := J _ hT1
                  have hT : TP D A [(h0, ob 7 [.ref h1, .ref h2, .int h0f2, .ref h3, .ref h4, .ref h5, .int h0f6, .ref h6, .int h0f8, .ref h7, .ref h8, .int h0f11, .ref h9, .ref h10, .ref h11, .ref h12, .ref h13]), (h4, aQ (k 3) 4 (q4 h18 h19 h20 h21)), (h19, ob 5 [.int h19f0, .int h19f1, .ref h47]), (h21, ob 5 [.int h21f0, .int h21f1, .ref h49]), (h46, aJ (k 1) 40 anJ), (h47, aJ (k 1) 40 anJ), (h48, aJ (k 1) 40 anJ), (h49, aJ (k 1) 40 anJ), (h20, ob 5 [.int h20f0, .int h20f1, .ref h48]), (h18, ob 5 [.int h18f0, .int h18f1, .ref h46])] _ := hT
                  refine lv_if_ne (tgt := 90) hx hb dX10_copy_75 (by decide) (fun _ => ?_) (fun cc => absurd cc (by decide +kernel))
                  refine lv_bipush (v := (-12)) hx hb dX10_copy_90 (by decide) ?_
                  exact tz_retI (B := B_cX10_copy_c7a33 D k h0 h4 h18 h19 h20 h21 h46 h47 h48 h49 h1 h2 h3 h5 h6 h7 h8 h9 h10 h11 h12 h13 x1 x2 x3 x4 x5 h0f2 h0f6 h0f8 h0f11 h18f0 h18f1 h19f0 h19f1 h20f0 h20f1 h21f0 h21f1) (v := (-12)) hQ hx hb hr hlocks hS (Nat.le_of_ble_eq_true rfl) (Nat.le_of_ble_eq_true rfl) dX10_copy_92 (⟨(by have := li_m12; omega), (hT.sub [0, 1, 9, 2, 8, 3, 4, 5, 6, 7] (by decide) rfl)⟩)
                · skip
                  have hT := J _ hT1
                  have hT : TP D A [(h0, ob 7 [.ref h1, .ref h2, .int h0f2, .ref h3, .ref h4, .ref h5, .int h0f6, .ref h6, .int h0f8, .ref h7, .ref h8, .int h0f11, .ref h9, .ref h10, .ref h11, .ref h12, .ref h13]), (h4, aQ (k 3) 4 (q4 h18 h19 h20 h21)), (h19, ob 5 [.int h19f0, .int h19f1, .ref h47]), (h21, ob 5 [.int h21f0, .int h21f1, .ref h49]), (h46, aJ (k 1) 40 anJ), (h47, aJ (k 1) 40 anJ), (h48, aJ (k 1) 40 anJ), (h49, aJ (k 1) 40 anJ), (h20, ob 5 [.int h20f0, .int h20f1, .ref h48]), (h18, ob 5 [.int h18f0, .int h18f1, .ref h46])] _ := hT
                  refine lv_if_ne (tgt := 90) hx hb dX10_copy_75 (by decide) (fun cc => absurd (by decide +kernel) cc) (fun _ => ?_)
                  refine lv_aload hx hb dX10_copy_78 (lv_at hl 0 rfl) ?_
                  refine lv_iload hx hb dX10_copy_80 (lv_at hl 6 rfl) ?_
                  refine lv_iload hx hb dX10_copy_82 (lv_at hl 7 rfl) ?_
                  refine tcI (Tc := [(h20, ob 5 [.int h20f0, .int h20f1, .ref h48])]) (Tr := [(h0, ob 7 [.ref h1, .ref h2, .int h0f2, .ref h3, .ref h4, .ref h5, .int h0f6, .ref h6, .int h0f8, .ref h7, .ref h8, .int h0f11, .ref h9, .ref h10, .ref h11, .ref h12, .ref h13]), (h4, aQ (k 3) 4 (q4 h18 h19 h20 h21)), (h19, ob 5 [.int h19f0, .int h19f1, .ref h47]), (h21, ob 5 [.int h21f0, .int h21f1, .ref h49]), (h46, aJ (k 1) 40 anJ), (h47, aJ (k 1) 40 anJ), (h48, aJ (k 1) 40 anJ), (h49, aJ (k 1) 40 anJ), (h18, ob 5 [.int h18f0, .int h18f1, .ref h46])]) (as := [h20]) (zcV (q0 := 8) (ci := 5) (As := [.int x4, .int x5]) (rest := []) (Tc := [(h20, ob 5 [.int h20f0, .int h20f1, .ref h48])]) hx hb hml hown hU hK hT rfl rfl [8] rfl (by decide) (cX6_isOutside_cc85b l D k _ h20 h48 x4 x5 h20f0 h20f1 (by omega) (by omega)) w648 w645 w646 w647 w71 hdX6_isOutside ⟨rfl, rfl⟩ ⟨Nat.le_of_ble_eq_true rfl, Nat.le_of_ble_eq_true rfl⟩ rfl hl.1 (Nat.le_of_ble_eq_true rfl) dX10_copy_84 ⟨Nat.le_of_ble_eq_true rfl, Nat.le_of_ble_eq_true rfl⟩) hT hS hA [8] [0, 1, 2, 3, 4, 5, 6, 7, 9] rfl rfl rfl (by decide) (by decide) (fun r44 H locs hB J hS => ?_)
                  rcases hB with ⟨rfl, hT1⟩ | ⟨c_45, c_46, c_47, rfl, hT1⟩
                  · skip
                    have hT := J _ hT1
                    have hT : TP D A [(h0, ob 7 [.ref h1, .ref h2, .int h0f2, .ref h3, .ref h4, .ref h5, .int h0f6, .ref h6, .int h0f8, .ref h7, .ref h8, .int h0f11, .ref h9, .ref h10, .ref h11, .ref h12, .ref h13]), (h4, aQ (k 3) 4 (q4 h18 h19 h20 h21)), (h19, ob 5 [.int h19f0, .int h19f1, .ref h47]), (h21, ob 5 [.int h21f0, .int h21f1, .ref h49]), (h46, aJ (k 1) 40 anJ), (h47, aJ (k 1) 40 anJ), (h48, aJ (k 1) 40 anJ), (h49, aJ (k 1) 40 anJ), (h18, ob 5 [.int h18f0, .int h18f1, .ref h46]), (h20, ob 5 [.int h20f0, .int h20f1, .ref h48])] _ := hT
                    refine lv_if_eq (tgt := 93) hx hb dX10_copy_87 (by decide) (fun cc => absurd cc (by decide +kernel)) (fun _ => ?_)
                    refine lv_bipush (v := (-12)) hx hb dX10_copy_90 (by decide) ?_
                    exact tz_retI (B := B_cX10_copy_c7a33 D k h0 h4 h18 h19 h20 h21 h46 h47 h48 h49 h1 h2 h3 h5 h6 h7 h8 h9 h10 h11 h12 h13 x1 x2 x3 x4 x5 h0f2 h0f6 h0f8 h0f11 h18f0 h18f1 h19f0 h19f1 h20f0 h20f1 h21f0 h21f1) (v := (-12)) hQ hx hb hr hlocks hS (Nat.le_of_ble_eq_true rfl) (Nat.le_of_ble_eq_true rfl) dX10_copy_92 (⟨(by have := li_m12; omega), (hT.sub [0, 1, 8, 2, 9, 3, 4, 5, 6, 7] (by decide) rfl)⟩)
                  · skip
                    have hT := J _ hT1
                    have hT : TP D A [(h0, ob 7 [.ref h1, .ref h2, .int h0f2, .ref h3, .ref h4, .ref h5, .int h0f6, .ref h6, .int h0f8, .ref h7, .ref h8, .int h0f11, .ref h9, .ref h10, .ref h11, .ref h12, .ref h13]), (h4, aQ (k 3) 4 (q4 h18 h19 h20 h21)), (h19, ob 5 [.int h19f0, .int h19f1, .ref h47]), (h21, ob 5 [.int h21f0, .int h21f1, .ref h49]), (h46, aJ (k 1) 40 anJ), (h47, aJ (k 1) 40 anJ), (h48, aJ (k 1) 40 anJ), (h49, aJ (k 1) 40 anJ), (h18, ob 5 [.int h18f0, .int h18f1, .ref h46]), (h20, ob 5 [.int h20f0, .int h20f1, .ref h48])] _ := hT
                    refine lv_if_eq (tgt := 93) hx hb dX10_copy_87 (by decide) (fun _ => ?_) (fun cc => absurd (by decide +kernel) cc)
                    refine lv_aload hx hb dX10_copy_93 (lv_at hl 1 rfl) ?_
                    refine tz_get (ci := 5) (v := .ref h46) (C := RX6) (F := TX6) (N := 3) hx hb hU iX6 hown hK hT 8 rfl rfl 2 (by decide) w241 (fun _ h9 => h9) rfl dX10_copy_95 ?_
                    refine lv_iload_n hx hb dX10_copy_98 rfl (lv_at hl 4 rfl) ?_
                    refine lv_aload hx hb dX10_copy_99 (lv_at hl 0 rfl) ?_
                    refine tz_get (ci := 5) (v := .ref h48) (C := RX6) (F := TX6) (N := 3) hx hb hU iX6 hown hK hT 9 rfl rfl 2 (by decide) w241 (fun _ h9 => h9) rfl dX10_copy_101 ?_
                    refine lv_iload hx hb dX10_copy_104 (lv_at hl 6 rfl) ?_
                    refine lv_iload hx hb dX10_copy_106 (lv_at hl 7 rfl) ?_
                    refine tz_copyl hx hb (by rw [hml]; exact hl.1.symm) hown hU w410 w348 w347 w75 hK hT hS 4 6 rfl rfl (by omega) (fun _ _ _ _ => trivial) (Nat.le_of_ble_eq_true rfl) (Nat.le_of_ble_eq_true rfl) dX10_copy_108 (fun H locs hT hS => ?_)
                    refine lv_iload hx hb dX10_copy_111 (lv_at hl 7 rfl) ?_
                    exact tz_retI (B := B_cX10_copy_c7a33 D k h0 h4 h18 h19 h20 h21 h46 h47 h48 h49 h1 h2 h3 h5 h6 h7 h8 h9 h10 h11 h12 h13 x1 x2 x3 x4 x5 h0f2 h0f6 h0f8 h0f11 h18f0 h18f1 h19f0 h19f1 h20f0 h20f1 h21f0 h21f1) (v := x5) hQ hx hb hr hlocks hS (Nat.le_of_ble_eq_true rfl) (Nat.le_of_ble_eq_true rfl) dX10_copy_113 (⟨(by omega), (hT.sub [0, 1, 8, 2, 9, 3, 4, 5, 6, 7] (by decide) rfl)⟩)
              · skip
                have c_39 := ni_ne c_39 rfl rfl
                refine lv_bipush (v := (-13)) hx hb dX10_copy_64 (by decide) ?_
                exact tz_retI (B := B_cX10_copy_c7a33 D k h0 h4 h18 h19 h20 h21 h46 h47 h48 h49 h1 h2 h3 h5 h6 h7 h8 h9 h10 h11 h12 h13 x1 x2 x3 x4 x5 h0f2 h0f6 h0f8 h0f11 h18f0 h18f1 h19f0 h19f1 h20f0 h20f1 h21f0 h21f1) (v := (-13)) hQ hx hb hr hlocks hS (Nat.le_of_ble_eq_true rfl) (Nat.le_of_ble_eq_true rfl) dX10_copy_66 (⟨(by have := li_m13; omega), (hT.sub [0, 1, 8, 2, 9, 3, 4, 5, 6, 7] (by decide) rfl)⟩)
            · skip
              have hT := J _ hT1
              have hT : TP D A [(h0, ob 7 [.ref h1, .ref h2, .int h0f2, .ref h3, .ref h4, .ref h5, .int h0f6, .ref h6, .int h0f8, .ref h7, .ref h8, .int h0f11, .ref h9, .ref h10, .ref h11, .ref h12, .ref h13]), (h4, aQ (k 3) 4 (q4 h18 h19 h20 h21)), (h19, ob 5 [.int h19f0, .int h19f1, .ref h47]), (h21, ob 5 [.int h21f0, .int h21f1, .ref h49]), (h46, aJ (k 1) 40 anJ), (h47, aJ (k 1) 40 anJ), (h48, aJ (k 1) 40 anJ), (h49, aJ (k 1) 40 anJ), (h18, ob 5 [.int h18f0, .int h18f1, .ref h46]), (h20, ob 5 [.int h20f0, .int h20f1, .ref h48])] _ := hT
              refine lv_if_eq (tgt := 51) hx hb dX10_copy_45 (by decide) (fun cc => absurd cc (by decide +kernel)) (fun _ => ?_)
              refine lv_bipush (v := (-11)) hx hb dX10_copy_48 (by decide) ?_
              exact tz_retI (B := B_cX10_copy_c7a33 D k h0 h4 h18 h19 h20 h21 h46 h47 h48 h49 h1 h2 h3 h5 h6 h7 h8 h9 h10 h11 h12 h13 x1 x2 x3 x4 x5 h0f2 h0f6 h0f8 h0f11 h18f0 h18f1 h19f0 h19f1 h20f0 h20f1 h21f0 h21f1) (v := (-11)) hQ hx hb hr hlocks hS (Nat.le_of_ble_eq_true rfl) (Nat.le_of_ble_eq_true rfl) dX10_copy_50 (⟨(by have := li_m11; omega), (hT.sub [0, 1, 8, 2, 9, 3, 4, 5, 6, 7] (by decide) rfl)⟩)
          · skip
            have hT := J _ hT1
            have hT : TP D A [(h0, ob 7 [.ref h1, .ref h2, .int h0f2, .ref h3, .ref h4, .ref h5, .int h0f6, .ref h6, .int h0f8, .ref h7, .ref h8, .int h0f11, .ref h9, .ref h10, .ref h11, .ref h12, .ref h13]), (h4, aQ (k 3) 4 (q4 h18 h19 h20 h21)), (h19, ob 5 [.int h19f0, .int h19f1, .ref h47]), (h20, ob 5 [.int h20f0, .int h20f1, .ref h48]), (h21, ob 5 [.int h21f0, .int h21f1, .ref h49]), (h46, aJ (k 1) 40 anJ), (h47, aJ (k 1) 40 anJ), (h48, aJ (k 1) 40 anJ), (h49, aJ (k 1) 40 anJ), (h18, ob 5 [.int h18f0, .int h18f1, .ref h46])] _ := hT
            refine lv_if_ne (tgt := 48) hx hb dX10_copy_37 (by decide) (fun _ => ?_) (fun cc => absurd cc (by decide +kernel))
            refine lv_bipush (v := (-11)) hx hb dX10_copy_48 (by decide) ?_
            exact tz_retI (B := B_cX10_copy_c7a33 D k h0 h4 h18 h19 h20 h21 h46 h47 h48 h49 h1 h2 h3 h5 h6 h7 h8 h9 h10 h11 h12 h13 x1 x2 x3 x4 x5 h0f2 h0f6 h0f8 h0f11 h18f0 h18f1 h19f0 h19f1 h20f0 h20f1 h21f0 h21f1) (v := (-11)) hQ hx hb hr hlocks hS (Nat.le_of_ble_eq_true rfl) (Nat.le_of_ble_eq_true rfl) dX10_copy_50 (⟨(by have := li_m11; omega), (hT.sub [0, 1, 9, 2, 3, 4, 5, 6, 7, 8] (by decide) rfl)⟩)
        · skip
          refine tz_aldq (b := h21) hx hb hK hT 1 rfl (vp_in_iff.mpr (by have := hq8; omega)) (fun f hf => by rw [cl_of hq8]; exact hf.2.2.2) dX10_copy_29 ?_
          refine lv_astore (lv' := [(7, .ref h21), (6, .ref h18), (0, .ref h0), (1, .int x1), (2, .int x2), (3, .int x3), (4, .int x4), (5, .int x5)]) hx hb dX10_copy_30 hl (by decide) rfl (fun ls hl => ?_)
          refine lv_aload hx hb dX10_copy_32 (lv_at hl 1 rfl) ?_
          refine tcI (Tc := [(h18, ob 5 [.int h18f0, .int h18f1, .ref h46])]) (Tr := [(h0, ob 7 [.ref h1, .ref h2, .int h0f2, .ref h3, .ref h4, .ref h5, .int h0f6, .ref h6, .int h0f8, .ref h7, .ref h8, .int h0f11, .ref h9, .ref h10, .ref h11, .ref h12, .ref h13]), (h4, aQ (k 3) 4 (q4 h18 h19 h20 h21)), (h19, ob 5 [.int h19f0, .int h19f1, .ref h47]), (h20, ob 5 [.int h20f0, .int h20f1, .ref h48]), (h21, ob 5 [.int h21f0, .int h21f1, .ref h49]), (h46, aJ (k 1) 40 anJ), (h47, aJ (k 1) 40 anJ), (h48, aJ (k 1) 40 anJ), (h49, aJ (k 1) 40 anJ)]) (as := [h18]) (zcV (q0 := 2) (ci := 5) (As := []) (rest := []) (Tc := [(h18, ob 5 [.int h18f0, .int h18f1, .ref h46])]) hx hb hml hown hU hK hT rfl rfl [2] rfl (by decide) (cX6_isMissing_56a93 l D k _ h18 h46 h18f0 h18f1 (by omega) (by omega)) w644 w641 w642 w643 w71 hdX6_isMissing ⟨rfl, rfl⟩ ⟨Nat.le_of_ble_eq_true rfl, Nat.le_of_ble_eq_true rfl⟩ rfl hl.1 (Nat.le_of_ble_eq_true rfl) dX10_copy_34 ⟨Nat.le_of_ble_eq_true rfl, Nat.le_of_ble_eq_true rfl⟩) hT hS hA [2] [0, 1, 3, 4, 5, 6, 7, 8, 9] rfl rfl rfl (by decide) (by decide) (fun r48 H locs hB J hS => ?_)
          rcases hB with ⟨c_49, rfl, hT1⟩ | ⟨rfl, hT1⟩
          · skip
            have hT := J _ hT1
            have hT : TP D A [(h0, ob 7 [.ref h1, .ref h2, .int h0f2, .ref h3, .ref h4, .ref h5, .int h0f6, .ref h6, .int h0f8, .ref h7, .ref h8, .int h0f11, .ref h9, .ref h10, .ref h11, .ref h12, .ref h13]), (h4, aQ (k 3) 4 (q4 h18 h19 h20 h21)), (h19, ob 5 [.int h19f0, .int h19f1, .ref h47]), (h20, ob 5 [.int h20f0, .int h20f1, .ref h48]), (h21, ob 5 [.int h21f0, .int h21f1, .ref h49]), (h46, aJ (k 1) 40 anJ), (h47, aJ (k 1) 40 anJ), (h48, aJ (k 1) 40 anJ), (h49, aJ (k 1) 40 anJ), (h18, ob 5 [.int h18f0, .int h18f1, .ref h46])] _ := hT
            refine lv_if_ne (tgt := 48) hx hb dX10_copy_37 (by decide) (fun cc => absurd (by decide +kernel) cc) (fun _ => ?_)
            refine lv_aload hx hb dX10_copy_40 (lv_at hl 0 rfl) ?_
            refine tcI (Tc := [(h21, ob 5 [.int h21f0, .int h21f1, .ref h49])]) (Tr := [(h0, ob 7 [.ref h1, .ref h2, .int h0f2, .ref h3, .ref h4, .ref h5, .int h0f6, .ref h6, .int h0f8, .ref h7, .ref h8, .int h0f11, .ref h9, .ref h10, .ref h11, .ref h12, .ref h13]), (h4, aQ (k 3) 4 (q4 h18 h19 h20 h21)), (h19, ob 5 [.int h19f0, .int h19f1, .ref h47]), (h20, ob 5 [.int h20f0, .int h20f1, .ref h48]), (h46, aJ (k 1) 40 anJ), (h47, aJ (k 1) 40 anJ), (h48, aJ (k 1) 40 anJ), (h49, aJ (k 1) 40 anJ), (h18, ob 5 [.int h18f0, .int h18f1, .ref h46])]) (as := [h21]) (zcV (q0 := 4) (ci := 5) (As := []) (rest := []) (Tc := [(h21, ob 5 [.int h21f0, .int h21f1, .ref h49])]) hx hb hml hown hU hK hT rfl rfl [4] rfl (by decide) (cX6_isMissing_56a93 l D k _ h21 h49 h21f0 h21f1 (by omega) (by omega)) w644 w641 w642 w643 w71 hdX6_isMissing ⟨rfl, rfl⟩ ⟨Nat.le_of_ble_eq_true rfl, Nat.le_of_ble_eq_true rfl⟩ rfl hl.1 (Nat.le_of_ble_eq_true rfl) dX10_copy_42 ⟨Nat.le_of_ble_eq_true rfl, Nat.le_of_ble_eq_true rfl⟩) hT hS hA [4] [0, 1, 2, 3, 5, 6, 7, 8, 9] rfl rfl rfl (by decide) (by decide) (fun r50 H locs hB J hS => ?_)
            rcases hB with ⟨c_51, rfl, hT1⟩ | ⟨rfl, hT1⟩
            · skip
              have hT := J _ hT1
              have hT : TP D A [(h0, ob 7 [.ref h1, .ref h2, .int h0f2, .ref h3, .ref h4, .ref h5, .int h0f6, .ref h6, .int h0f8, .ref h7, .ref h8, .int h0f11, .ref h9, .ref h10, .ref h11, .ref h12, .ref h13]), (h4, aQ (k 3) 4 (q4 h18 h19 h20 h21)), (h19, ob 5 [.int h19f0, .int h19f1, .ref h47]), (h20, ob 5 [.int h20f0, .int h20f1, .ref h48]), (h46, aJ (k 1) 40 anJ), (h47, aJ (k 1) 40 anJ), (h48, aJ (k 1) 40 anJ), (h49, aJ (k 1) 40 anJ), (h18, ob 5 [.int h18f0, .int h18f1, .ref h46]), (h21, ob 5 [.int h21f0, .int h21f1, .ref h49])] _ := hT
              refine lv_if_eq (tgt := 51) hx hb dX10_copy_45 (by decide) (fun _ => ?_) (fun cc => absurd (by decide +kernel) cc)
              refine lv_aload hx hb dX10_copy_51 (lv_at hl 1 rfl) ?_
              refine tz_get (ci := 5) (v := .int h18f0) (C := RX6) (F := TX6) (N := 3) hx hb hU iX6 hown hK hT 8 rfl rfl 0 (by decide) w238 (fun _ h9 => h9) rfl dX10_copy_53 ?_
              refine lv_aload hx hb dX10_copy_56 (lv_at hl 0 rfl) ?_
              refine tz_get (ci := 5) (v := .int h21f0) (C := RX6) (F := TX6) (N := 3) hx hb hU iX6 hown hK hT 9 rfl rfl 0 (by decide) w238 (fun _ h9 => h9) rfl dX10_copy_58 ?_
              refine lv_icmp_eq (tgt := 67) hx hb dX10_copy_61 (by decide) (fun c_52 => ?_) (fun c_52 => ?_)
              · skip
                have c_52 := ni_eq c_52 rfl rfl
                refine lv_aload hx hb dX10_copy_67 (lv_at hl 1 rfl) ?_
                refine lv_iload_n hx hb dX10_copy_69 rfl (lv_at hl 4 rfl) ?_
                refine lv_iload hx hb dX10_copy_70 (lv_at hl 7 rfl) ?_
                refine tcI (Tc := [(h18, ob 5 [.int h18f0, .int h18f1, .ref h46])]) (Tr := [(h0, ob 7 [.ref h1, .ref h2, .int h0f2, .ref h3, .ref h4, .ref h5, .int h0f6, .ref h6, .int h0f8, .ref h7, .ref h8, .int h0f11, .ref h9, .ref h10, .ref h11, .ref h12, .ref h13]), (h4, aQ (k 3) 4 (q4 h18 h19 h20 h21)), (h19, ob 5 [.int h19f0, .int h19f1, .ref h47]), (h20, ob 5 [.int h20f0, .int h20f1, .ref h48]), (h46, aJ (k 1) 40 anJ), (h47, aJ (k 1) 40 anJ), (h48, aJ (k 1) 40 anJ), (h49, aJ (k 1) 40 anJ), (h21, ob 5 [.int h21f0, .int h21f1, .ref h49])]) (as := [h18]) (zcV (q0 := 8) (ci := 5) (As := [.int x2, .int x5]) (rest := []) (Tc := [(h18, ob 5 [.int h18f0, .int h18f1, .ref h46])]) hx hb hml hown hU hK hT rfl rfl [8] rfl (by decide) (cX6_isOutside_cc85b l D k _ h18 h46 x2 x5 h18f0 h18f1 (by omega) (by omega)) w648 w645 w646 w647 w71 hdX6_isOutside ⟨rfl, rfl⟩ ⟨Nat.le_of_ble_eq_true rfl, Nat.le_of_ble_eq_true rfl⟩ rfl hl.1 (Nat.le_of_ble_eq_true rfl) dX10_copy_72 ⟨Nat.le_of_ble_eq_true rfl, Nat.le_of_ble_eq_true rfl⟩) hT hS hA [8] [0, 1, 2, 3, 4, 5, 6, 7, 9] rfl rfl rfl (by decide) (by decide) (fun r53 H locs hB J hS => ?_)
                rcases hB with ⟨rfl, hT1⟩ | ⟨c_54, c_55, c_56, rfl, hT1⟩
                · skip
                  have hT := J _ hT1
                  have hT : TP D A [(h0, ob 7 [.ref h1, .ref h2, .int h0f2, .ref h3, .ref h4, .ref h5, .int h0f6, .ref h6, .int h0f8, .ref h7, .ref h8, .int h0f11, .ref h9, .ref h10, .ref h11, .ref h12, .ref h13]), (h4, aQ (k 3) 4 (q4 h18 h19 h20 h21)), (h19, ob 5 [.int h19f0, .int h19f1, .ref h47]), (h20, ob 5 [.int h20f0, .int h20f1, .ref h48]), (h46, aJ (k 1) 40 anJ), (h47, aJ (k 1) 40 anJ), (h48, aJ (k 1) 40 anJ), (h49, aJ (k 1) 40 anJ), (h21, ob 5 [.int h21f0, .int h21f1, .ref h49]), (h18, ob 5 [.int h18f0, .int h18f1, .ref h46])] _ := hT
                  refine lv_if_ne (tgt := 90) hx hb dX10_copy_75 (by decide) (fun _ => ?_) (fun cc => absurd cc (by decide +kernel))
                  refine lv_bipush (v := (-12)) hx hb dX10_copy_90 (by decide) ?_
                  exact tz_retI (B := B_cX10_copy_c7a33 D k h0 h4 h18 h19 h20 h21 h46 h47 h48 h49 h1 h2 h3 h5 h6 h7 h8 h9 h10 h11 h12 h13 x1 x2 x3 x4 x5 h0f2 h0f6 h0f8 h0f11 h18f0 h18f1 h19f0 h19f1 h20f0 h20f1 h21f0 h21f1) (v := (-12)) hQ hx hb hr hlocks hS (Nat.le_of_ble_eq_true rfl) (Nat.le_of_ble_eq_true rfl) dX10_copy_92 (⟨(by have := li_m12; omega), (hT.sub [0, 1, 9, 2, 3, 8, 4, 5, 6, 7] (by decide) rfl)⟩)
                · skip
                  have hT := J _ hT1
                  have hT : TP D A [(h0, ob 7 [.ref h1, .ref h2, .int h0f2, .ref h3, .ref h4, .ref h5, .int h0f6, .ref h6, .int h0f8, .ref h7, .ref h8, .int h0f11, .ref h9, .ref h10, .ref h11, .ref h12, .ref h13]), (h4, aQ (k 3) 4 (q4 h18 h19 h20 h21)), (h19, ob 5 [.int h19f0, .int h19f1, .ref h47]), (h20, ob 5 [.int h20f0, .int h20f1, .ref h48]), (h46, aJ (k 1) 40 anJ), (h47, aJ (k 1) 40 anJ), (h48, aJ (k 1) 40 anJ), (h49, aJ (k 1) 40 anJ), (h21, ob 5 [.int h21f0, .int h21f1, .ref h49]), (h18, ob 5 [.int h18f0, .int h18f1, .ref h46])] _ := hT
                  refine lv_if_ne (tgt := 90) hx hb dX10_copy_75 (by decide) (fun cc => absurd (by decide +kernel) cc) (fun _ => ?_)
                  refine lv_aload hx hb dX10_copy_78 (lv_at hl 0 rfl) ?_
                  refine lv_iload hx hb dX10_copy_80 (lv_at hl 6 rfl) ?_
                  refine lv_iload hx hb dX10_copy_82 (lv_at hl 7 rfl) ?_
                  refine tcI (Tc := [(h21, ob 5 [.int h21f0, .int h21f1, .ref h49])]) (Tr := [(h0, ob 7 [.ref h1, .ref h2, .int h0f2, .ref h3, .ref h4, .ref h5, .int h0f6, .ref h6, .int h0f8, .ref h7, .ref h8, .int h0f11, .ref h9, .ref h10, .ref h11, .ref h12, .ref h13]), (h4, aQ (k 3) 4 (q4 h18 h19 h20 h21)), (h19, ob 5 [.int h19f0, .int h19f1, .ref h47]), (h20, ob 5 [.int h20f0, .int h20f1, .ref h48]), (h46, aJ (k 1) 40 anJ), (h47, aJ (k 1) 40 anJ), (h48, aJ (k 1) 40 anJ), (h49, aJ (k 1) 40 anJ), (h18, ob 5 [.int h18f0, .int h18f1, .ref h46])]) (as := [h21]) (zcV (q0 := 8) (ci := 5) (As := [.int x4, .int x5]) (rest := []) (Tc := [(h21, ob 5 [.int h21f0, .int h21f1, .ref h49])]) hx hb hml hown hU hK hT rfl rfl [8] rfl (by decide) (cX6_isOutside_cc85b l D k _ h21 h49 x4 x5 h21f0 h21f1 (by omega) (by omega)) w648 w645 w646 w647 w71 hdX6_isOutside ⟨rfl, rfl⟩ ⟨Nat.le_of_ble_eq_true rfl, Nat.le_of_ble_eq_true rfl⟩ rfl hl.1 (Nat.le_of_ble_eq_true rfl) dX10_copy_84 ⟨Nat.le_of_ble_eq_true rfl, Nat.le_of_ble_eq_true rfl⟩) hT hS hA [8] [0, 1, 2, 3, 4, 5, 6, 7, 9] rfl rfl rfl (by decide) (by decide) (fun r57 H locs hB J hS => ?_)
                  rcases hB with ⟨rfl, hT1⟩ | ⟨c_58, c_59, c_60, rfl, hT1⟩
                  · skip
                    have hT := J _ hT1
                    have hT : TP D A [(h0, ob 7 [.ref h1, .ref h2, .int h0f2, .ref h3, .ref h4, .ref h5, .int h0f6, .ref h6, .int h0f8, .ref h7, .ref h8, .int h0f11, .ref h9, .ref h10, .ref h11, .ref h12, .ref h13]), (h4, aQ (k 3) 4 (q4 h18 h19 h20 h21)), (h19, ob 5 [.int h19f0, .int h19f1, .ref h47]), (h20, ob 5 [.int h20f0, .int h20f1, .ref h48]), (h46, aJ (k 1) 40 anJ), (h47, aJ (k 1) 40 anJ), (h48, aJ (k 1) 40 anJ), (h49, aJ (k 1) 40 anJ), (h18, ob 5 [.int h18f0, .int h18f1, .ref h46]), (h21, ob 5 [.int h21f0, .int h21f1, .ref h49])] _ := hT
                    refine lv_if_eq (tgt := 93) hx hb dX10_copy_87 (by decide) (fun cc => absurd cc (by decide +kernel)) (fun _ => ?_)
                    refine lv_bipush (v := (-12)) hx hb dX10_copy_90 (by decide) ?_
                    exact tz_retI (B := B_cX10_copy_c7a33 D k h0 h4 h18 h19 h20 h21 h46 h47 h48 h49 h1 h2 h3 h5 h6 h7 h8 h9 h10 h11 h12 h13 x1 x2 x3 x4 x5 h0f2 h0f6 h0f8 h0f11 h18f0 h18f1 h19f0 h19f1 h20f0 h20f1 h21f0 h21f1) (v := (-12)) hQ hx hb hr hlocks hS (Nat.le_of_ble_eq_true rfl) (Nat.le_of_ble_eq_true rfl) dX10_copy_92 (⟨(by have := li_m12; omega), (hT.sub [0, 1, 8, 2, 3, 9, 4, 5, 6, 7] (by decide) rfl)⟩)
                  · skip
                    have hT := J _ hT1
                    have hT : TP D A [(h0, ob 7 [.ref h1, .ref h2, .int h0f2, .ref h3, .ref h4, .ref h5, .int h0f6, .ref h6, .int h0f8, .ref h7, .ref h8, .int h0f11, .ref h9, .ref h10, .ref h11, .ref h12, .ref h13]), (h4, aQ (k 3) 4 (q4 h18 h19 h20 h21)), (h19, ob 5 [.int h19f0, .int h19f1, .ref h47]), (h20, ob 5 [.int h20f0, .int h20f1, .ref h48]), (h46, aJ (k 1) 40 anJ), (h47, aJ (k 1) 40 anJ), (h48, aJ (k 1) 40 anJ), (h49, aJ (k 1) 40 anJ), (h18, ob 5 [.int h18f0, .int h18f1, .ref h46]), (h21, ob 5 [.int h21f0, .int h21f1, .ref h49])] _ := hT
                    refine lv_if_eq (tgt := 93) hx hb dX10_copy_87 (by decide) (fun _ => ?_) (fun cc => absurd (by decide +kernel) cc)
                    refine lv_aload hx hb dX10_copy_93 (lv_at hl 1 rfl) ?_
                    refine tz_get (ci := 5) (v := .ref h46) (C := RX6) (F := TX6) (N := 3) hx hb hU iX6 hown hK hT 8 rfl rfl 2 (by decide) w241 (fun _ h9 => h9) rfl dX10_copy_95 ?_
                    refine lv_iload_n hx hb dX10_copy_98 rfl (lv_at hl 4 rfl) ?_
                    refine lv_aload hx hb dX10_copy_99 (lv_at hl 0 rfl) ?_
                    refine tz_get (ci := 5) (v := .ref h49) (C := RX6) (F := TX6) (N := 3) hx hb hU iX6 hown hK hT 9 rfl rfl 2 (by decide) w241 (fun _ h9 => h9) rfl dX10_copy_101 ?_
                    refine lv_iload hx hb dX10_copy_104 (lv_at hl 6 rfl) ?_
                    refine lv_iload hx hb dX10_copy_106 (lv_at hl 7 rfl) ?_
                    refine tz_copyl hx hb (by rw [hml]; exact hl.1.symm) hown hU w410 w348 w347 w75 hK hT hS 4 7 rfl rfl (by omega) (fun _ _ _ _ => trivial) (Nat.le_of_ble_eq_true rfl) (Nat.le_of_ble_eq_true rfl) dX10_copy_108 (fun H locs hT hS => ?_)
                    refine lv_iload hx hb dX10_copy_111 (lv_at hl 7 rfl) ?_
                    exact tz_retI (B := B_cX10_copy_c7a33 D k h0 h4 h18 h19 h20 h21 h46 h47 h48 h49 h1 h2 h3 h5 h6 h7 h8 h9 h10 h11 h12 h13 x1 x2 x3 x4 x5 h0f2 h0f6 h0f8 h0f11 h18f0 h18f1 h19f0 h19f1 h20f0 h20f1 h21f0 h21f1) (v := x5) hQ hx hb hr hlocks hS (Nat.le_of_ble_eq_true rfl) (Nat.le_of_ble_eq_true rfl) dX10_copy_113 (⟨(by omega), (hT.sub [0, 1, 8, 2, 3, 9, 4, 5, 6, 7] (by decide) rfl)⟩)
              · skip
                have c_52 := ni_ne c_52 rfl rfl
                refine lv_bipush (v := (-13)) hx hb dX10_copy_64 (by decide) ?_
                exact tz_retI (B := B_cX10_copy_c7a33 D k h0 h4 h18 h19 h20 h21 h46 h47 h48 h49 h1 h2 h3 h5 h6 h7 h8 h9 h10 h11 h12 h13 x1 x2 x3 x4 x5 h0f2 h0f6 h0f8 h0f11 h18f0 h18f1 h19f0 h19f1 h20f0 h20f1 h21f0 h21f1) (v := (-13)) hQ hx hb hr hlocks hS (Nat.le_of_ble_eq_true rfl) (Nat.le_of_ble_eq_true rfl) dX10_copy_66 (⟨(by have := li_m13; omega), (hT.sub [0, 1, 8, 2, 3, 9, 4, 5, 6, 7] (by decide) rfl)⟩)
            · skip
              have hT := J _ hT1
              have hT : TP D A [(h0, ob 7 [.ref h1, .ref h2, .int h0f2, .ref h3, .ref h4, .ref h5, .int h0f6, .ref h6, .int h0f8, .ref h7, .ref h8, .int h0f11, .ref h9, .ref h10, .ref h11, .ref h12, .ref h13]), (h4, aQ (k 3) 4 (q4 h18 h19 h20 h21)), (h19, ob 5 [.int h19f0, .int h19f1, .ref h47]), (h20, ob 5 [.int h20f0, .int h20f1, .ref h48]), (h46, aJ (k 1) 40 anJ), (h47, aJ (k 1) 40 anJ), (h48, aJ (k 1) 40 anJ), (h49, aJ (k 1) 40 anJ), (h18, ob 5 [.int h18f0, .int h18f1, .ref h46]), (h21, ob 5 [.int h21f0, .int h21f1, .ref h49])] _ := hT
              refine lv_if_eq (tgt := 51) hx hb dX10_copy_45 (by decide) (fun cc => absurd cc (by decide +kernel)) (fun _ => ?_)
              refine lv_bipush (v := (-11)) hx hb dX10_copy_48 (by decide) ?_
              exact tz_retI (B := B_cX10_copy_c7a33 D k h0 h4 h18 h19 h20 h21 h46 h47 h48 h49 h1 h2 h3 h5 h6 h7 h8 h9 h10 h11 h12 h13 x1 x2 x3 x4 x5 h0f2 h0f6 h0f8 h0f11 h18f0 h18f1 h19f0 h19f1 h20f0 h20f1 h21f0 h21f1) (v := (-11)) hQ hx hb hr hlocks hS (Nat.le_of_ble_eq_true rfl) (Nat.le_of_ble_eq_true rfl) dX10_copy_50 (⟨(by have := li_m11; omega), (hT.sub [0, 1, 8, 2, 3, 9, 4, 5, 6, 7] (by decide) rfl)⟩)
          · skip
            have hT := J _ hT1
            have hT : TP D A [(h0, ob 7 [.ref h1, .ref h2, .int h0f2, .ref h3, .ref h4, .ref h5, .int h0f6, .ref h6, .int h0f8, .ref h7, .ref h8, .int h0f11, .ref h9, .ref h10, .ref h11, .ref h12, .ref h13]), (h4, aQ (k 3) 4 (q4 h18 h19 h20 h21)), (h19, ob 5 [.int h19f0, .int h19f1, .ref h47]), (h20, ob 5 [.int h20f0, .int h20f1, .ref h48]), (h21, ob 5 [.int h21f0, .int h21f1, .ref h49]), (h46, aJ (k 1) 40 anJ), (h47, aJ (k 1) 40 anJ), (h48, aJ (k 1) 40 anJ), (h49, aJ (k 1) 40 anJ), (h18, ob 5 [.int h18f0, .int h18f1, .ref h46])] _ := hT
            refine lv_if_ne (tgt := 48) hx hb dX10_copy_37 (by decide) (fun _ => ?_) (fun cc => absurd cc (by decide +kernel))
            refine lv_bipush (v := (-11)) hx hb dX10_copy_48 (by decide) ?_
            exact tz_retI (B := B_cX10_copy_c7a33 D k h0 h4 h18 h19 h20 h21 h46 h47 h48 h49 h1 h2 h3 h5 h6 h7 h8 h9 h10 h11 h12 h13 x1 x2 x3 x4 x5 h0f2 h0f6 h0f8 h0f11 h18f0 h18f1 h19f0 h19f1 h20f0 h20f1 h21f0 h21f1) (v := (-11)) hQ hx hb hr hlocks hS (Nat.le_of_ble_eq_true rfl) (Nat.le_of_ble_eq_true rfl) dX10_copy_50 (⟨(by have := li_m11; omega), (hT.sub [0, 1, 9, 2, 3, 4, 5, 6, 7, 8] (by decide) rfl)⟩)
      · skip
        refine tz_aldq (b := h19) hx hb hK hT 1 rfl (vp_in_iff.mpr (by have := hq7; omega)) (fun f hf => by rw [cl_of hq7]; exact hf.2.1) dX10_copy_21 ?_
        refine lv_astore (lv' := [(6, .ref h19), (0, .ref h0), (1, .int x1), (2, .int x2), (3, .int x3), (4, .int x4), (5, .int x5)]) hx hb dX10_copy_22 hl (by decide) rfl (fun ls hl => ?_)
        refine lv_aload_n hx hb dX10_copy_24 rfl (lv_at hl 1 rfl) ?_
        refine tz_get (ci := 7) (v := .ref h4) (C := RX10) (F := TX10) (N := 17) hx hb hU iX10 hown hK hT 0 rfl rfl 4 (by decide) w253 (fun _ h9 => h9) rfl dX10_copy_25 ?_
        refine lv_iload_n hx hb dX10_copy_28 rfl (lv_at hl 4 rfl) ?_
        rcases (show x3.toInt = 0 ∨ x3.toInt = 1 ∨ x3.toInt = 2 ∨ x3.toInt = 3 by omega) with hq61 | hq61 | hq61 | hq61
        · skip
          refine tz_aldq (b := h18) hx hb hK hT 1 rfl (vp_in_iff.mpr (by have := hq61; omega)) (fun f hf => by rw [cl_of hq61]; exact hf.1) dX10_copy_29 ?_
          refine lv_astore (lv' := [(7, .ref h18), (6, .ref h19), (0, .ref h0), (1, .int x1), (2, .int x2), (3, .int x3), (4, .int x4), (5, .int x5)]) hx hb dX10_copy_30 hl (by decide) rfl (fun ls hl => ?_)
          refine lv_aload hx hb dX10_copy_32 (lv_at hl 1 rfl) ?_
          refine tcI (Tc := [(h19, ob 5 [.int h19f0, .int h19f1, .ref h47])]) (Tr := [(h0, ob 7 [.ref h1, .ref h2, .int h0f2, .ref h3, .ref h4, .ref h5, .int h0f6, .ref h6, .int h0f8, .ref h7, .ref h8, .int h0f11, .ref h9, .ref h10, .ref h11, .ref h12, .ref h13]), (h4, aQ (k 3) 4 (q4 h18 h19 h20 h21)), (h18, ob 5 [.int h18f0, .int h18f1, .ref h46]), (h20, ob 5 [.int h20f0, .int h20f1, .ref h48]), (h21, ob 5 [.int h21f0, .int h21f1, .ref h49]), (h46, aJ (k 1) 40 anJ), (h47, aJ (k 1) 40 anJ), (h48, aJ (k 1) 40 anJ), (h49, aJ (k 1) 40 anJ)]) (as := [h19]) (zcV (q0 := 3) (ci := 5) (As := []) (rest := []) (Tc := [(h19, ob 5 [.int h19f0, .int h19f1, .ref h47])]) hx hb hml hown hU hK hT rfl rfl [3] rfl (by decide) (cX6_isMissing_56a93 l D k _ h19 h47 h19f0 h19f1 (by omega) (by omega)) w644 w641 w642 w643 w71 hdX6_isMissing ⟨rfl, rfl⟩ ⟨Nat.le_of_ble_eq_true rfl, Nat.le_of_ble_eq_true rfl⟩ rfl hl.1 (Nat.le_of_ble_eq_true rfl) dX10_copy_34 ⟨Nat.le_of_ble_eq_true rfl, Nat.le_of_ble_eq_true rfl⟩) hT hS hA [3] [0, 1, 2, 4, 5, 6, 7, 8, 9] rfl rfl rfl (by decide) (by decide) (fun r62 H locs hB J hS => ?_)
          rcases hB with ⟨c_63, rfl, hT1⟩ | ⟨rfl, hT1⟩
          · skip
            have hT := J _ hT1
            have hT : TP D A [(h0, ob 7 [.ref h1, .ref h2, .int h0f2, .ref h3, .ref h4, .ref h5, .int h0f6, .ref h6, .int h0f8, .ref h7, .ref h8, .int h0f11, .ref h9, .ref h10, .ref h11, .ref h12, .ref h13]), (h4, aQ (k 3) 4 (q4 h18 h19 h20 h21)), (h18, ob 5 [.int h18f0, .int h18f1, .ref h46]), (h20, ob 5 [.int h20f0, .int h20f1, .ref h48]), (h21, ob 5 [.int h21f0, .int h21f1, .ref h49]), (h46, aJ (k 1) 40 anJ), (h47, aJ (k 1) 40 anJ), (h48, aJ (k 1) 40 anJ), (h49, aJ (k 1) 40 anJ), (h19, ob 5 [.int h19f0, .int h19f1, .ref h47])] _ := hT
            refine lv_if_ne (tgt := 48) hx hb dX10_copy_37 (by decide) (fun cc => absurd (by decide +kernel) cc) (fun _ => ?_)
            refine lv_aload hx hb dX10_copy_40 (lv_at hl 0 rfl) ?_
            refine tcI (Tc := [(h18, ob 5 [.int h18f0, .int h18f1, .ref h46])]) (Tr := [(h0, ob 7 [.ref h1, .ref h2, .int h0f2, .ref h3, .ref h4, .ref h5, .int h0f6, .ref h6, .int h0f8, .ref h7, .ref h8, .int h0f11, .ref h9, .ref h10, .ref h11, .ref h12, .ref h13]), (h4, aQ (k 3) 4 (q4 h18 h19 h20 h21)), (h20, ob 5 [.int h20f0, .int h20f1, .ref h48]), (h21, ob 5 [.int h21f0, .int h21f1, .ref h49]), (h46, aJ (k 1) 40 anJ), (h47, aJ (k 1) 40 anJ), (h48, aJ (k 1) 40 anJ), (h49, aJ (k 1) 40 anJ), (h19, ob 5 [.int h19f0, .int h19f1, .ref h47])]) (as := [h18]) (zcV (q0 := 2) (ci := 5) (As := []) (rest := []) (Tc := [(h18, ob 5 [.int h18f0, .int h18f1, .ref h46])]) hx hb hml hown hU hK hT rfl rfl [2] rfl (by decide) (cX6_isMissing_56a93 l D k _ h18 h46 h18f0 h18f1 (by omega) (by omega)) w644 w641 w642 w643 w71 hdX6_isMissing ⟨rfl, rfl⟩ ⟨Nat.le_of_ble_eq_true rfl, Nat.le_of_ble_eq_true rfl⟩ rfl hl.1 (Nat.le_of_ble_eq_true rfl) dX10_copy_42 ⟨Nat.le_of_ble_eq_true rfl, Nat.le_of_ble_eq_true rfl⟩) hT hS hA [2] [0, 1, 3, 4, 5, 6, 7, 8, 9] rfl rfl rfl (by decide) (by decide) (fun r64 H locs hB J hS => ?_)
            rcases hB with ⟨c_65, rfl, hT1⟩ | ⟨rfl, hT1⟩
            · skip
              have hT := J _ hT1
              have hT : TP D A [(h0, ob 7 [.ref h1, .ref h2, .int h0f2, .ref h3, .ref h4, .ref h5, .int h0f6, .ref h6, .int h0f8, .ref h7, .ref h8, .int h0f11, .ref h9, .ref h10, .ref h11, .ref h12, .ref h13]), (h4, aQ (k 3) 4 (q4 h18 h19 h20 h21)), (h20, ob 5 [.int h20f0, .int h20f1, .ref h48]), (h21, ob 5 [.int h21f0, .int h21f1, .ref h49]), (h46, aJ (k 1) 40 anJ), (h47, aJ (k 1) 40 anJ), (h48, aJ (k 1) 40 anJ), (h49, aJ (k 1) 40 anJ), (h19, ob 5 [.int h19f0, .int h19f1, .ref h47]), (h18, ob 5 [.int h18f0, .int h18f1, .ref h46])] _ := hT
              refine lv_if_eq (tgt := 51) hx hb dX10_copy_45 (by decide) (fun _ => ?_) (fun cc => absurd (by decide +kernel) cc)
              refine lv_aload hx hb dX10_copy_51 (lv_at hl 1 rfl) ?_
              refine tz_get (ci := 5) (v := .int h19f0) (C := RX6) (F := TX6) (N := 3) hx hb hU iX6 hown hK hT 8 rfl rfl 0 (by decide) w238 (fun _ h9 => h9) rfl dX10_copy_53 ?_
              refine lv_aload hx hb dX10_copy_56 (lv_at hl 0 rfl) ?_
              refine tz_get (ci := 5) (v := .int h18f0) (C := RX6) (F := TX6) (N := 3) hx hb hU iX6 hown hK hT 9 rfl rfl 0 (by decide) w238 (fun _ h9 => h9) rfl dX10_copy_58 ?_
              refine lv_icmp_eq (tgt := 67) hx hb dX10_copy_61 (by decide) (fun c_66 => ?_) (fun c_66 => ?_)
              · skip
                have c_66 := ni_eq c_66 rfl rfl
                refine lv_aload hx hb dX10_copy_67 (lv_at hl 1 rfl) ?_
                refine lv_iload_n hx hb dX10_copy_69 rfl (lv_at hl 4 rfl) ?_
                refine lv_iload hx hb dX10_copy_70 (lv_at hl 7 rfl) ?_
                refine tcI (Tc := [(h19, ob 5 [.int h19f0, .int h19f1, .ref h47])]) (Tr := [(h0, ob 7 [.ref h1, .ref h2, .int h0f2, .ref h3, .ref h4, .ref h5, .int h0f6, .ref h6, .int h0f8, .ref h7, .ref h8, .int h0f11, .ref h9, .ref h10, .ref h11, .ref h12, .ref h13]), (h4, aQ (k 3) 4 (q4 h18 h19 h20 h21)), (h20, ob 5 [.int h20f0, .int h20f1, .ref h48]), (h21, ob 5 [.int h21f0, .int h21f1, .ref h49]), (h46, aJ (k 1) 40 anJ), (h47, aJ (k 1) 40 anJ), (h48, aJ (k 1) 40 anJ), (h49, aJ (k 1) 40 anJ), (h18, ob 5 [.int h18f0, .int h18f1, .ref h46])]) (as := [h19]) (zcV (q0 := 8) (ci := 5) (As := [.int x2, .int x5]) (rest := []) (Tc := [(h19, ob 5 [.int h19f0, .int h19f1, .ref h47])]) hx hb hml hown hU hK hT rfl rfl [8] rfl (by decide) (cX6_isOutside_cc85b l D k _ h19 h47 x2 x5 h19f0 h19f1 (by omega) (by omega)) w648 w645 w646 w647 w71 hdX6_isOutside ⟨rfl, rfl⟩ ⟨Nat.le_of_ble_eq_true rfl, Nat.le_of_ble_eq_true rfl⟩ rfl hl.1 (Nat.le_of_ble_eq_true rfl) dX10_copy_72 ⟨Nat.le_of_ble_eq_true rfl, Nat.le_of_ble_eq_true rfl⟩) hT hS hA [8] [0, 1, 2, 3, 4, 5, 6, 7, 9] rfl rfl rfl (by decide) (by decide) (fun r67 H locs hB J hS => ?_)
                rcases hB with ⟨rfl, hT1⟩ | ⟨c_68, c_69, c_70, rfl, hT1⟩
                · skip
                  have hT := J _ hT1
                  have hT : TP D A [(h0, ob 7 [.ref h1, .ref h2, .int h0f2, .ref h3, .ref h4, .ref h5, .int h0f6, .ref h6, .int h0f8, .ref h7, .ref h8, .int h0f11, .ref h9, .ref h10, .ref h11, .ref h12, .ref h13]), (h4, aQ (k 3) 4 (q4 h18 h19 h20 h21)), (h20, ob 5 [.int h20f0, .int h20f1, .ref h48]), (h21, ob 5 [.int h21f0, .int h21f1, .ref h49]), (h46, aJ (k 1) 40 anJ), (h47, aJ (k 1) 40 anJ), (h48, aJ (k 1) 40 anJ), (h49, aJ (k 1) 40 anJ), (h18, ob 5 [.int h18f0, .int h18f1, .ref h46]), (h19, ob 5 [.int h19f0, .int h19f1, .ref h47])] _ := hT
                  refine lv_if_ne (tgt := 90) hx hb dX10_copy_75 (by decide) (fun _ => ?_) (fun cc => absurd cc (by decide +kernel))
                  refine lv_bipush (v := (-12)) hx hb dX10_copy_90 (by decide) ?_
                  exact tz_retI (B := B_cX10_copy_c7a33 D k h0 h4 h18 h19 h20 h21 h46 h47 h48 h49 h1 h2 h3 h5 h6 h7 h8 h9 h10 h11 h12 h13 x1 x2 x3 x4 x5 h0f2 h0f6 h0f8 h0f11 h18f0 h18f1 h19f0 h19f1 h20f0 h20f1 h21f0 h21f1) (v := (-12)) hQ hx hb hr hlocks hS (Nat.le_of_ble_eq_true rfl) (Nat.le_of_ble_eq_true rfl) dX10_copy_92 (⟨(by have := li_m12; omega), (hT.sub [0, 1, 8, 9, 2, 3, 4, 5, 6, 7] (by decide) rfl)⟩)
                · skip
                  have hT := J _ hT1
                  have hT : TP D A [(h0, ob 7 [.ref h1, .ref h2, .int h0f2, .ref h3, .ref h4, .ref h5, .int h0f6, .ref h6, .int h0f8, .ref h7, .ref h8, .int h0f11, .ref h9, .ref h10, .ref h11, .ref h12, .ref h13]), (h4, aQ (k 3) 4 (q4 h18 h19 h20 h21)), (h20, ob 5 [.int h20f0, .int h20f1, .ref h48]), (h21, ob 5 [.int h21f0, .int h21f1, .ref h49]), (h46, aJ (k 1) 40 anJ), (h47, aJ (k 1) 40 anJ), (h48, aJ (k 1) 40 anJ), (h49, aJ (k 1) 40 anJ), (h18, ob 5 [.int h18f0, .int h18f1, .ref h46]), (h19, ob 5 [.int h19f0, .int h19f1, .ref h47])] _ := hT
                  refine lv_if_ne (tgt := 90) hx hb dX10_copy_75 (by decide) (fun cc => absurd (by decide +kernel) cc) (fun _ => ?_)
                  refine lv_aload hx hb dX10_copy_78 (lv_at hl 0 rfl) ?_
                  refine lv_iload hx hb dX10_copy_80 (lv_at hl 6 rfl) ?_
                  refine lv_iload hx hb dX10_copy_82 (lv_at hl 7 rfl) ?_
                  refine tcI (Tc := [(h18, ob 5 [.int h18f0, .int h18f1, .ref h46])]) (Tr := [(h0, ob 7 [.ref h1, .ref h2, .int h0f2, .ref h3, .ref h4, .ref h5, .int h0f6, .ref h6, .int h0f8, .ref h7, .ref h8, .int h0f11, .ref h9, .ref h10, .ref h11, .ref h12, .ref h13]), (h4, aQ (k 3) 4 (q4 h18 h19 h20 h21)), (h20, ob 5 [.int h20f0, .int h20f1, .ref h48]), (h21, ob 5 [.int h21f0, .int h21f1, .ref h49]), (h46, aJ (k 1) 40 anJ), (h47, aJ (k 1) 40 anJ), (h48, aJ (k 1) 40 anJ), (h49, aJ (k 1) 40 anJ), (h19, ob 5 [.int h19f0, .int h19f1, .ref h47])]) (as := [h18]) (zcV (q0 := 8) (ci := 5) (As := [.int x4, .int x5]) (rest := []) (Tc := [(h18, ob 5 [.int h18f0, .int h18f1, .ref h46])]) hx hb hml hown hU hK hT rfl rfl [8] rfl (by decide) (cX6_isOutside_cc85b l D k _ h18 h46 x4 x5 h18f0 h18f1 (by omega) (by omega)) w648 w645 w646 w647 w71 hdX6_isOutside ⟨rfl, rfl⟩ ⟨Nat.le_of_ble_eq_true rfl, Nat.le_of_ble_eq_true rfl⟩ rfl hl.1 (Nat.le_of_ble_eq_true rfl) dX10_copy_84 ⟨Nat.le_of_ble_eq_true rfl, Nat.le_of_ble_eq_true rfl⟩) hT hS hA [8] [0, 1, 2, 3, 4, 5, 6, 7, 9] rfl rfl rfl (by decide) (by decide) (fun r71 H locs hB J hS => ?_)
                  rcases hB with ⟨rfl, hT1⟩ | ⟨c_72, c_73, c_74, rfl, hT1⟩
                  · skip
                    have hT := J _ hT1
                    have hT : TP D A [(h0, ob 7 [.ref h1, .ref h2, .int h0f2, .ref h3, .ref h4, .ref h5, .int h0f6, .ref h6, .int h0f8, .ref h7, .ref h8, .int h0f11, .ref h9, .ref h10, .ref h11, .ref h12, .ref h13]), (h4, aQ (k 3) 4 (q4 h18 h19 h20 h21)), (h20, ob 5 [.int h20f0, .int h20f1, .ref h48]), (h21, ob 5 [.int h21f0, .int h21f1, .ref h49]), (h46, aJ (k 1) 40 anJ), (h47, aJ (k 1) 40 anJ), (h48, aJ (k 1) 40 anJ), (h49, aJ (k 1) 40 anJ), (h19, ob 5 [.int h19f0, .int h19f1, .ref h47]), (h18, ob 5 [.int h18f0, .int h18f1, .ref h46])] _ := hT
                    refine lv_if_eq (tgt := 93) hx hb dX10_copy_87 (by decide) (fun cc => absurd cc (by decide +kernel)) (fun _ => ?_)
                    refine lv_bipush (v := (-12)) hx hb dX10_copy_90 (by decide) ?_
                    exact tz_retI (B := B_cX10_copy_c7a33 D k h0 h4 h18 h19 h20 h21 h46 h47 h48 h49 h1 h2 h3 h5 h6 h7 h8 h9 h10 h11 h12 h13 x1 x2 x3 x4 x5 h0f2 h0f6 h0f8 h0f11 h18f0 h18f1 h19f0 h19f1 h20f0 h20f1 h21f0 h21f1) (v := (-12)) hQ hx hb hr hlocks hS (Nat.le_of_ble_eq_true rfl) (Nat.le_of_ble_eq_true rfl) dX10_copy_92 (⟨(by have := li_m12; omega), (hT.sub [0, 1, 9, 8, 2, 3, 4, 5, 6, 7] (by decide) rfl)⟩)
                  · skip
                    have hT := J _ hT1
                    have hT : TP D A [(h0, ob 7 [.ref h1, .ref h2, .int h0f2, .ref h3, .ref h4, .ref h5, .int h0f6, .ref h6, .int h0f8, .ref h7, .ref h8, .int h0f11, .ref h9, .ref h10, .ref h11, .ref h12, .ref h13]), (h4, aQ (k 3) 4 (q4 h18 h19 h20 h21)), (h20, ob 5 [.int h20f0, .int h20f1, .ref h48]), (h21, ob 5 [.int h21f0, .int h21f1, .ref h49]), (h46, aJ (k 1) 40 anJ), (h47, aJ (k 1) 40 anJ), (h48, aJ (k 1) 40 anJ), (h49, aJ (k 1) 40 anJ), (h19, ob 5 [.int h19f0, .int h19f1, .ref h47]), (h18, ob 5 [.int h18f0, .int h18f1, .ref h46])] _ := hT
                    refine lv_if_eq (tgt := 93) hx hb dX10_copy_87 (by decide) (fun _ => ?_) (fun cc => absurd (by decide +kernel) cc)
                    refine lv_aload hx hb dX10_copy_93 (lv_at hl 1 rfl) ?_
                    refine tz_get (ci := 5) (v := .ref h47) (C := RX6) (F := TX6) (N := 3) hx hb hU iX6 hown hK hT 8 rfl rfl 2 (by decide) w241 (fun _ h9 => h9) rfl dX10_copy_95 ?_
                    refine lv_iload_n hx hb dX10_copy_98 rfl (lv_at hl 4 rfl) ?_
                    refine lv_aload hx hb dX10_copy_99 (lv_at hl 0 rfl) ?_
                    refine tz_get (ci := 5) (v := .ref h46) (C := RX6) (F := TX6) (N := 3) hx hb hU iX6 hown hK hT 9 rfl rfl 2 (by decide) w241 (fun _ h9 => h9) rfl dX10_copy_101 ?_
                    refine lv_iload hx hb dX10_copy_104 (lv_at hl 6 rfl) ?_
                    refine lv_iload hx hb dX10_copy_106 (lv_at hl 7 rfl) ?_
                    refine tz_copyl hx hb (by rw [hml]; exact hl.1.symm) hown hU w410 w348 w347 w75 hK hT hS 5 4 rfl rfl (by omega) (fun _ _ _ _ => trivial) (Nat.le_of_ble_eq_true rfl) (Nat.le_of_ble_eq_true rfl) dX10_copy_108 (fun H locs hT hS => ?_)
                    refine lv_iload hx hb dX10_copy_111 (lv_at hl 7 rfl) ?_
                    exact tz_retI (B := B_cX10_copy_c7a33 D k h0 h4 h18 h19 h20 h21 h46 h47 h48 h49 h1 h2 h3 h5 h6 h7 h8 h9 h10 h11 h12 h13 x1 x2 x3 x4 x5 h0f2 h0f6 h0f8 h0f11 h18f0 h18f1 h19f0 h19f1 h20f0 h20f1 h21f0 h21f1) (v := x5) hQ hx hb hr hlocks hS (Nat.le_of_ble_eq_true rfl) (Nat.le_of_ble_eq_true rfl) dX10_copy_113 (⟨(by omega), (hT.sub [0, 1, 9, 8, 2, 3, 4, 5, 6, 7] (by decide) rfl)⟩)
              · skip
                have c_66 := ni_ne c_66 rfl rfl
                refine lv_bipush (v := (-13)) hx hb dX10_copy_64 (by decide) ?_
                exact tz_retI (B := B_cX10_copy_c7a33 D k h0 h4 h18 h19 h20 h21 h46 h47 h48 h49 h1 h2 h3 h5 h6 h7 h8 h9 h10 h11 h12 h13 x1 x2 x3 x4 x5 h0f2 h0f6 h0f8 h0f11 h18f0 h18f1 h19f0 h19f1 h20f0 h20f1 h21f0 h21f1) (v := (-13)) hQ hx hb hr hlocks hS (Nat.le_of_ble_eq_true rfl) (Nat.le_of_ble_eq_true rfl) dX10_copy_66 (⟨(by have := li_m13; omega), (hT.sub [0, 1, 9, 8, 2, 3, 4, 5, 6, 7] (by decide) rfl)⟩)
            · skip
              have hT := J _ hT1
              have hT : TP D A [(h0, ob 7 [.ref h1, .ref h2, .int h0f2, .ref h3, .ref h4, .ref h5, .int h0f6, .ref h6, .int h0f8, .ref h7, .ref h8, .int h0f11, .ref h9, .ref h10, .ref h11, .ref h12, .ref h13]), (h4, aQ (k 3) 4 (q4 h18 h19 h20 h21)), (h20, ob 5 [.int h20f0, .int h20f1, .ref h48]), (h21, ob 5 [.int h21f0, .int h21f1, .ref h49]), (h46, aJ (k 1) 40 anJ), (h47, aJ (k 1) 40 anJ), (h48, aJ (k 1) 40 anJ), (h49, aJ (k 1) 40 anJ), (h19, ob 5 [.int h19f0, .int h19f1, .ref h47]), (h18, ob 5 [.int h18f0, .int h18f1, .ref h46])] _ := hT
              refine lv_if_eq (tgt := 51) hx hb dX10_copy_45 (by decide) (fun cc => absurd cc (by decide +kernel)) (fun _ => ?_)
              refine lv_bipush (v := (-11)) hx hb dX10_copy_48 (by decide) ?_
              exact tz_retI (B := B_cX10_copy_c7a33 D k h0 h4 h18 h19 h20 h21 h46 h47 h48 h49 h1 h2 h3 h5 h6 h7 h8 h9 h10 h11 h12 h13 x1 x2 x3 x4 x5 h0f2 h0f6 h0f8 h0f11 h18f0 h18f1 h19f0 h19f1 h20f0 h20f1 h21f0 h21f1) (v := (-11)) hQ hx hb hr hlocks hS (Nat.le_of_ble_eq_true rfl) (Nat.le_of_ble_eq_true rfl) dX10_copy_50 (⟨(by have := li_m11; omega), (hT.sub [0, 1, 9, 8, 2, 3, 4, 5, 6, 7] (by decide) rfl)⟩)
          · skip
            have hT := J _ hT1
            have hT : TP D A [(h0, ob 7 [.ref h1, .ref h2, .int h0f2, .ref h3, .ref h4, .ref h5, .int h0f6, .ref h6, .int h0f8, .ref h7, .ref h8, .int h0f11, .ref h9, .ref h10, .ref h11, .ref h12, .ref h13]), (h4, aQ (k 3) 4 (q4 h18 h19 h20 h21)), (h18, ob 5 [.int h18f0, .int h18f1, .ref h46]), (h20, ob 5 [.int h20f0, .int h20f1, .ref h48]), (h21, ob 5 [.int h21f0, .int h21f1, .ref h49]), (h46, aJ (k 1) 40 anJ), (h47, aJ (k 1) 40 anJ), (h48, aJ (k 1) 40 anJ), (h49, aJ (k 1) 40 anJ), (h19, ob 5 [.int h19f0, .int h19f1, .ref h47])] _ := hT
            refine lv_if_ne (tgt := 48) hx hb dX10_copy_37 (by decide) (fun _ => ?_) (fun cc => absurd cc (by decide +kernel))
            refine lv_bipush (v := (-11)) hx hb dX10_copy_48 (by decide) ?_
            exact tz_retI (B := B_cX10_copy_c7a33 D k h0 h4 h18 h19 h20 h21 h46 h47 h48 h49 h1 h2 h3 h5 h6 h7 h8 h9 h10 h11 h12 h13 x1 x2 x3 x4 x5 h0f2 h0f6 h0f8 h0f11 h18f0 h18f1 h19f0 h19f1 h20f0 h20f1 h21f0 h21f1) (v := (-11)) hQ hx hb hr hlocks hS (Nat.le_of_ble_eq_true rfl) (Nat.le_of_ble_eq_true rfl) dX10_copy_50 (⟨(by have := li_m11; omega), (hT.sub [0, 1, 2, 9, 3, 4, 5, 6, 7, 8] (by decide) rfl)⟩)
        · skip
          refine tz_aldq (b := h19) hx hb hK hT 1 rfl (vp_in_iff.mpr (by have := hq61; omega)) (fun f hf => by rw [cl_of hq61]; exact hf.2.1) dX10_copy_29 ?_
          refine lv_astore (lv' := [(7, .ref h19), (6, .ref h19), (0, .ref h0), (1, .int x1), (2, .int x2), (3, .int x3), (4, .int x4), (5, .int x5)]) hx hb dX10_copy_30 hl (by decide) rfl (fun ls hl => ?_)
          refine lv_aload hx hb dX10_copy_32 (lv_at hl 1 rfl) ?_
          refine tcI (Tc := [(h19, ob 5 [.int h19f0, .int h19f1, .ref h47])]) (Tr := [(h0, ob 7 [.ref h1, .ref h2, .int h0f2, .ref h3, .ref h4, .ref h5, .int h0f6, .ref h6, .int h0f8, .ref h7, .ref h8, .int h0f11, .ref h9, .ref h10, .ref h11, .ref h12, .ref h13]), (h4, aQ (k 3) 4 (q4 h18 h19 h20 h21)), (h18, ob 5 [.int h18f0, .int h18f1, .ref h46]), (h20, ob 5 [.int h20f0, .int h20f1, .ref h48]), (h21, ob 5 [.int h21f0, .int h21f1, .ref h49]), (h46, aJ (k 1) 40 anJ), (h47, aJ (k 1) 40 anJ), (h48, aJ (k 1) 40 anJ), (h49, aJ (k 1) 40 anJ)]) (as := [h19]) (zcV (q0 := 3) (ci := 5) (As := []) (rest := []) (Tc := [(h19, ob 5 [.int h19f0, .int h19f1, .ref h47])]) hx hb hml hown hU hK hT rfl rfl [3] rfl (by decide) (cX6_isMissing_56a93 l D k _ h19 h47 h19f0 h19f1 (by omega) (by omega)) w644 w641 w642 w643 w71 hdX6_isMissing ⟨rfl, rfl⟩ ⟨Nat.le_of_ble_eq_true rfl, Nat.le_of_ble_eq_true rfl⟩ rfl hl.1 (Nat.le_of_ble_eq_true rfl) dX10_copy_34 ⟨Nat.le_of_ble_eq_true rfl, Nat.le_of_ble_eq_true rfl⟩) hT hS hA [3] [0, 1, 2, 4, 5, 6, 7, 8, 9] rfl rfl rfl (by decide) (by decide) (fun r75 H locs hB J hS => ?_)
          rcases hB with ⟨c_76, rfl, hT1⟩ | ⟨rfl, hT1⟩
          · skip
            have hT := J _ hT1
            have hT : TP D A [(h0, ob 7 [.ref h1, .ref h2, .int h0f2, .ref h3, .ref h4, .ref h5, .int h0f6, .ref h6, .int h0f8, .ref h7, .ref h8, .int h0f11, .ref h9, .ref h10, .ref h11, .ref h12, .ref h13]), (h4, aQ (k 3) 4 (q4 h18 h19 h20 h21)), (h18, ob 5 [.int h18f0, .int h18f1, .ref h46]), (h20, ob 5 [.int h20f0, .int h20f1, .ref h48]), (h21, ob 5 [.int h21f0, .int h21f1, .ref h49]), (h46, aJ (k 1) 40 anJ), (h47, aJ (k 1) 40 anJ), (h48, aJ (k 1) 40 anJ), (h49, aJ (k 1) 40 anJ), (h19, ob 5 [.int h19f0, .int h19f1, .ref h47])] _ := hT
            refine lv_if_ne (tgt := 48) hx hb dX10_copy_37 (by decide) (fun cc => absurd (by decide +kernel) cc) (fun _ => ?_)
            refine lv_aload hx hb dX10_copy_40 (lv_at hl 0 rfl) ?_
            refine tcI (Tc := [(h19, ob 5 [.int h19f0, .int h19f1, .ref h47])]) (Tr := [(h0, ob 7 [.ref h1, .ref h2, .int h0f2, .ref h3, .ref h4, .ref h5, .int h0f6, .ref h6, .int h0f8, .ref h7, .ref h8, .int h0f11, .ref h9, .ref h10, .ref h11, .ref h12, .ref h13]), (h4, aQ (k 3) 4 (q4 h18 h19 h20 h21)), (h18, ob 5 [.int h18f0, .int h18f1, .ref h46]), (h20, ob 5 [.int h20f0, .int h20f1, .ref h48]), (h21, ob 5 [.int h21f0, .int h21f1, .ref h49]), (h46, aJ (k 1) 40 anJ), (h47, aJ (k 1) 40 anJ), (h48, aJ (k 1) 40 anJ), (h49, aJ (k 1) 40 anJ)]) (as := [h19]) (zcV (q0 := 9) (ci := 5) (As := []) (rest := []) (Tc := [(h19, ob 5 [.int h19f0, .int h19f1, .ref h47])]) hx hb hml hown hU hK hT rfl rfl [9] rfl (by decide) (cX6_isMissing_56a93 l D k _ h19 h47 h19f0 h19f1 (by omega) (by omega)) w644 w641 w642 w643 w71 hdX6_isMissing ⟨rfl, rfl⟩ ⟨Nat.le_of_ble_eq_true rfl, Nat.le_of_ble_eq_true rfl⟩ rfl hl.1 (Nat.le_of_ble_eq_true rfl) dX10_copy_42 ⟨Nat.le_of_ble_eq_true rfl, Nat.le_of_ble_eq_true rfl⟩) hT hS hA [9] [0, 1, 2, 3, 4, 5, 6, 7, 8] rfl rfl rfl (by decide) (by decide) (fun r77 H locs hB J hS => ?_)
            rcases hB with ⟨c_78, rfl, hT1⟩ | ⟨rfl, hT1⟩
            · skip
              have hT := J _ hT1
              have hT : TP D A [(h0, ob 7 [.ref h1, .ref h2, .int h0f2, .ref h3, .ref h4, .ref h5, .int h0f6, .ref h6, .int h0f8, .ref h7, .ref h8, .int h0f11, .ref h9, .ref h10, .ref h11, .ref h12, .ref h13]), (h4, aQ (k 3) 4 (q4 h18 h19 h20 h21)), (h18, ob 5 [.int h18f0, .int h18f1, .ref h46]), (h20, ob 5 [.int h20f0, .int h20f1, .ref h48]), (h21, ob 5 [.int h21f0, .int h21f1, .ref h49]), (h46, aJ (k 1) 40 anJ), (h47, aJ (k 1) 40 anJ), (h48, aJ (k 1) 40 anJ), (h49, aJ (k 1) 40 anJ), (h19, ob 5 [.int h19f0, .int h19f1, .ref h47])] _ := hT
              refine lv_if_eq (tgt := 51) hx hb dX10_copy_45 (by decide) (fun _ => ?_) (fun cc => absurd (by decide +kernel) cc)
              refine lv_aload hx hb dX10_copy_51 (lv_at hl 1 rfl) ?_
              refine tz_get (ci := 5) (v := .int h19f0) (C := RX6) (F := TX6) (N := 3) hx hb hU iX6 hown hK hT 9 rfl rfl 0 (by decide) w238 (fun _ h9 => h9) rfl dX10_copy_53 ?_
              refine lv_aload hx hb dX10_copy_56 (lv_at hl 0 rfl) ?_
              refine tz_get (ci := 5) (v := .int h19f0) (C := RX6) (F := TX6) (N := 3) hx hb hU iX6 hown hK hT 9 rfl rfl 0 (by decide) w238 (fun _ h9 => h9) rfl dX10_copy_58 ?_
              refine lv_icmp_eq (tgt := 67) hx hb dX10_copy_61 (by decide) (fun c_79 => ?_) (fun c_79 => ?_)
              · skip
                have c_79 := ni_eq c_79 rfl rfl
                refine lv_aload hx hb dX10_copy_67 (lv_at hl 1 rfl) ?_
                refine lv_iload_n hx hb dX10_copy_69 rfl (lv_at hl 4 rfl) ?_
                refine lv_iload hx hb dX10_copy_70 (lv_at hl 7 rfl) ?_
                refine tcI (Tc := [(h19, ob 5 [.int h19f0, .int h19f1, .ref h47])]) (Tr := [(h0, ob 7 [.ref h1, .ref h2, .int h0f2, .ref h3, .ref h4, .ref h5, .int h0f6, .ref h6, .int h0f8, .ref h7, .ref h8, .int h0f11, .ref h9, .ref h10, .ref h11, .ref h12, .ref h13]), (h4, aQ (k 3) 4 (q4 h18 h19 h20 h21)), (h18, ob 5 [.int h18f0, .int h18f1, .ref h46]), (h20, ob 5 [.int h20f0, .int h20f1, .ref h48]), (h21, ob 5 [.int h21f0, .int h21f1, .ref h49]), (h46, aJ (k 1) 40 anJ), (h47, aJ (k 1) 40 anJ), (h48, aJ (k 1) 40 anJ), (h49, aJ (k 1) 40 anJ)]) (as := [h19]) (zcV (q0 := 9) (ci := 5) (As := [.int x2, .int x5]) (rest := []) (Tc := [(h19, ob 5 [.int h19f0, .int h19f1, .ref h47])]) hx hb hml hown hU hK hT rfl rfl [9] rfl (by decide) (cX6_isOutside_cc85b l D k _ h19 h47 x2 x5 h19f0 h19f1 (by omega) (by omega)) w648 w645 w646 w647 w71 hdX6_isOutside ⟨rfl, rfl⟩ ⟨Nat.le_of_ble_eq_true rfl, Nat.le_of_ble_eq_true rfl⟩ rfl hl.1 (Nat.le_of_ble_eq_true rfl) dX10_copy_72 ⟨Nat.le_of_ble_eq_true rfl, Nat.le_of_ble_eq_true rfl⟩) hT hS hA [9] [0, 1, 2, 3, 4, 5, 6, 7, 8] rfl rfl rfl (by decide) (by decide) (fun r80 H locs hB J hS => ?_)
                rcases hB with ⟨rfl, hT1⟩ | ⟨c_81, c_82, c_83, rfl, hT1⟩
                · skip
                  have hT := J _ hT1
                  have hT : TP D A [(h0, ob 7 [.ref h1, .ref h2, .int h0f2, .ref h3, .ref h4, .ref h5, .int h0f6, .ref h6, .int h0f8, .ref h7, .ref h8, .int h0f11, .ref h9, .ref h10, .ref h11, .ref h12, .ref h13]), (h4, aQ (k 3) 4 (q4 h18 h19 h20 h21)), (h18, ob 5 [.int h18f0, .int h18f1, .ref h46]), (h20, ob 5 [.int h20f0, .int h20f1, .ref h48]), (h21, ob 5 [.int h21f0, .int h21f1, .ref h49]), (h46, aJ (k 1) 40 anJ), (h47, aJ (k 1) 40 anJ), (h48, aJ (k 1) 40 anJ), (h49, aJ (k 1) 40 anJ), (h19, ob 5 [.int h19f0, .int h19f1, .ref h47])] _ := hT
                  refine lv_if_ne (tgt := 90) hx hb dX10_copy_75 (by decide) (fun _ => ?_) (fun cc => absurd cc (by decide +kernel))
                  refine lv_bipush (v := (-12)) hx hb dX10_copy_90 (by decide) ?_
                  exact tz_retI (B := B_cX10_copy_c7a33 D k h0 h4 h18 h19 h20 h21 h46 h47 h48 h49 h1 h2 h3 h5 h6 h7 h8 h9 h10 h11 h12 h13 x1 x2 x3 x4 x5 h0f2 h0f6 h0f8 h0f11 h18f0 h18f1 h19f0 h19f1 h20f0 h20f1 h21f0 h21f1) (v := (-12)) hQ hx hb hr hlocks hS (Nat.le_of_ble_eq_true rfl) (Nat.le_of_ble_eq_true rfl) dX10_copy_92 (⟨(by have := li_m12; omega), (hT.sub [0, 1, 2, 9, 3, 4, 5, 6, 7, 8] (by decide) rfl)⟩)
                · skip
                  have hT := J _ hT1
                  have hT : TP D A [(h0, ob 7 [.ref h1, .ref h2, .int h0f2, .ref h3, .ref h4, .ref h5, .int h0f6, .ref h6, .int h0f8, .ref h7, .ref h8, .int h0f11, .ref h9, .ref h10, .ref h11, .ref h12, .ref h13]), (h4, aQ (k 3) 4 (q4 h18 h19 h20 h21)), (h18, ob 5 [.int h18f0, .int h18f1, .ref h46]), (h20, ob 5 [.int h20f0, .int h20f1, .ref h48]), (h21, ob 5 [.int h21f0, .int h21f1, .ref h49]), (h46, aJ (k 1) 40 anJ), (h47, aJ (k 1) 40 anJ), (h48, aJ (k 1) 40 anJ), (h49, aJ (k 1) 40 anJ), (h19, ob 5 [.int h19f0, .int h19f1, .ref h47])] _ := hT
                  refine lv_if_ne (tgt := 90) hx hb dX10_copy_75 (by decide) (fun cc => absurd (by decide +kernel) cc) (fun _ => ?_)
                  refine lv_aload hx hb dX10_copy_78 (lv_at hl 0 rfl) ?_
                  refine lv_iload hx hb dX10_copy_80 (lv_at hl 6 rfl) ?_
                  refine lv_iload hx hb dX10_copy_82 (lv_at hl 7 rfl) ?_
                  refine tcI (Tc := [(h19, ob 5 [.int h19f0, .int h19f1, .ref h47])]) (Tr := [(h0, ob 7 [.ref h1, .ref h2, .int h0f2, .ref h3, .ref h4, .ref h5, .int h0f6, .ref h6, .int h0f8, .ref h7, .ref h8, .int h0f11, .ref h9, .ref h10, .ref h11, .ref h12, .ref h13]), (h4, aQ (k 3) 4 (q4 h18 h19 h20 h21)), (h18, ob 5 [.int h18f0, .int h18f1, .ref h46]), (h20, ob 5 [.int h20f0, .int h20f1, .ref h48]), (h21, ob 5 [.int h21f0, .int h21f1, .ref h49]), (h46, aJ (k 1) 40 anJ), (h47, aJ (k 1) 40 anJ), (h48, aJ (k 1) 40 anJ), (h49, aJ (k 1) 40 anJ)]) (as := [h19]) (zcV (q0 := 9) (ci := 5) (As := [.int x4, .int x5]) (rest := []) (Tc := [(h19, ob 5 [.int h19f0, .int h19f1, .ref h47])]) hx hb hml hown hU hK hT rfl rfl [9] rfl (by decide) (cX6_isOutside_cc85b l D k _ h19 h47 x4 x5 h19f0 h19f1 (by omega) (by omega)) w648 w645 w646 w647 w71 hdX6_isOutside ⟨rfl, rfl⟩ ⟨Nat.le_of_ble_eq_true rfl, Nat.le_of_ble_eq_true rfl⟩ rfl hl.1 (Nat.le_of_ble_eq_true rfl) dX10_copy_84 ⟨Nat.le_of_ble_eq_true rfl, Nat.le_of_ble_eq_true rfl⟩) hT hS hA [9] [0, 1, 2, 3, 4, 5, 6, 7, 8] rfl rfl rfl (by decide) (by decide) (fun r84 H locs hB J hS => ?_)
                  rcases hB with ⟨rfl, hT1⟩ | ⟨c_85, c_86, c_87, rfl, hT1⟩
                  · skip
                    have hT := J _ hT1
                    have hT : TP D A [(h0, ob 7 [.ref h1, .ref h2, .int h0f2, .ref h3, .ref h4, .ref h5, .int h0f6, .ref h6, .int h0f8, .ref h7, .ref h8, .int h0f11, .ref h9, .ref h10, .ref h11, .ref h12, .ref h13]), (h4, aQ (k 3) 4 (q4 h18 h19 h20 h21)), (h18, ob 5 [.int h18f0, .int h18f1, .ref h46]), (h20, ob 5 [.int h20f0, .int h20f1, .ref h48]), (h21, ob 5 [.int h21f0, .int h21f1, .ref h49]), (h46, aJ (k 1) 40 anJ), (h47, aJ (k 1) 40 anJ), (h48, aJ (k 1) 40 anJ), (h49, aJ (k 1) 40 anJ), (h19, ob 5 [.int h19f0, .int h19f1, .ref h47])] _ := hT
                    refine lv_if_eq (tgt := 93) hx hb dX10_copy_87 (by decide) (fun cc => absurd cc (by decide +kernel)) (fun _ => ?_)
                    refine lv_bipush (v := (-12)) hx hb dX10_copy_90 (by decide) ?_
                    exact tz_retI (B := B_cX10_copy_c7a33 D k h0 h4 h18 h19 h20 h21 h46 h47 h48 h49 h1 h2 h3 h5 h6 h7 h8 h9 h10 h11 h12 h13 x1 x2 x3 x4 x5 h0f2 h0f6 h0f8 h0f11 h18f0 h18f1 h19f0 h19f1 h20f0 h20f1 h21f0 h21f1) (v := (-12)) hQ hx hb hr hlocks hS (Nat.le_of_ble_eq_true rfl) (Nat.le_of_ble_eq_true rfl) dX10_copy_92 (⟨(by have := li_m12; omega), (hT.sub [0, 1, 2, 9, 3, 4, 5, 6, 7, 8] (by decide) rfl)⟩)
                  · skip
                    have hT := J _ hT1
                    have hT : TP D A [(h0, ob 7 [.ref h1, .ref h2, .int h0f2, .ref h3, .ref h4, .ref h5, .int h0f6, .ref h6, .int h0f8, .ref h7, .ref h8, .int h0f11, .ref h9, .ref h10, .ref h11, .ref h12, .ref h13]), (h4, aQ (k 3) 4 (q4 h18 h19 h20 h21)), (h18, ob 5 [.int h18f0, .int h18f1, .ref h46]), (h20, ob 5 [.int h20f0, .int h20f1, .ref h48]), (h21, ob 5 [.int h21f0, .int h21f1, .ref h49]), (h46, aJ (k 1) 40 anJ), (h47, aJ (k 1) 40 anJ), (h48, aJ (k 1) 40 anJ), (h49, aJ (k 1) 40 anJ), (h19, ob 5 [.int h19f0, .int h19f1, .ref h47])] _ := hT
                    refine lv_if_eq (tgt := 93) hx hb dX10_copy_87 (by decide) (fun _ => ?_) (fun cc => absurd (by decide +kernel) cc)
                    refine lv_aload hx hb dX10_copy_93 (lv_at hl 1 rfl) ?_
                    refine tz_get (ci := 5) (v := .ref h47) (C := RX6) (F := TX6) (N := 3) hx hb hU iX6 hown hK hT 9 rfl rfl 2 (by decide) w241 (fun _ h9 => h9) rfl dX10_copy_95 ?_
                    refine lv_iload_n hx hb dX10_copy_98 rfl (lv_at hl 4 rfl) ?_
                    refine lv_aload hx hb dX10_copy_99 (lv_at hl 0 rfl) ?_
                    refine tz_get (ci := 5) (v := .ref h47) (C := RX6) (F := TX6) (N := 3) hx hb hU iX6 hown hK hT 9 rfl rfl 2 (by decide) w241 (fun _ h9 => h9) rfl dX10_copy_101 ?_
                    refine lv_iload hx hb dX10_copy_104 (lv_at hl 6 rfl) ?_
                    refine lv_iload hx hb dX10_copy_106 (lv_at hl 7 rfl) ?_
                    refine tz_copyl hx hb (by rw [hml]; exact hl.1.symm) hown hU w410 w348 w347 w75 hK hT hS 6 6 rfl rfl (by omega) (fun _ _ _ _ => trivial) (Nat.le_of_ble_eq_true rfl) (Nat.le_of_ble_eq_true rfl) dX10_copy_108 (fun H locs hT hS => ?_)
                    refine lv_iload hx hb dX10_copy_111 (lv_at hl 7 rfl) ?_
                    exact tz_retI (B := B_cX10_copy_c7a33 D k h0 h4 h18 h19 h20 h21 h46 h47 h48 h49 h1 h2 h3 h5 h6 h7 h8 h9 h10 h11 h12 h13 x1 x2 x3 x4 x5 h0f2 h0f6 h0f8 h0f11 h18f0 h18f1 h19f0 h19f1 h20f0 h20f1 h21f0 h21f1) (v := x5) hQ hx hb hr hlocks hS (Nat.le_of_ble_eq_true rfl) (Nat.le_of_ble_eq_true rfl) dX10_copy_113 (⟨(by omega), (hT.sub [0, 1, 2, 9, 3, 4, 5, 6, 7, 8] (by decide) rfl)⟩)
              · skip
                have c_79 := ni_ne c_79 rfl rfl
                exfalso; omega
            · skip
              have hT := J _ hT1
              have hT : TP D A [(h0, ob 7 [.ref h1, .ref h2, .int h0f2, .ref h3, .ref h4, .ref h5, .int h0f6, .ref h6, .int h0f8, .ref h7, .ref h8, .int h0f11, .ref h9, .ref h10, .ref h11, .ref h12, .ref h13]), (h4, aQ (k 3) 4 (q4 h18 h19 h20 h21)), (h18, ob 5 [.int h18f0, .int h18f1, .ref h46]), (h20, ob 5 [.int h20f0, .int h20f1, .ref h48]), (h21, ob 5 [.int h21f0, .int h21f1, .ref h49]), (h46, aJ (k 1) 40 anJ), (h47, aJ (k 1) 40 anJ), (h48, aJ (k 1) 40 anJ), (h49, aJ (k 1) 40 anJ), (h19, ob 5 [.int h19f0, .int h19f1, .ref h47])] _ := hT
              refine lv_if_eq (tgt := 51) hx hb dX10_copy_45 (by decide) (fun cc => absurd cc (by decide +kernel)) (fun _ => ?_)
              refine lv_bipush (v := (-11)) hx hb dX10_copy_48 (by decide) ?_
              exact tz_retI (B := B_cX10_copy_c7a33 D k h0 h4 h18 h19 h20 h21 h46 h47 h48 h49 h1 h2 h3 h5 h6 h7 h8 h9 h10 h11 h12 h13 x1 x2 x3 x4 x5 h0f2 h0f6 h0f8 h0f11 h18f0 h18f1 h19f0 h19f1 h20f0 h20f1 h21f0 h21f1) (v := (-11)) hQ hx hb hr hlocks hS (Nat.le_of_ble_eq_true rfl) (Nat.le_of_ble_eq_true rfl) dX10_copy_50 (⟨(by have := li_m11; omega), (hT.sub [0, 1, 2, 9, 3, 4, 5, 6, 7, 8] (by decide) rfl)⟩)
          · skip
            have hT := J _ hT1
            have hT : TP D A [(h0, ob 7 [.ref h1, .ref h2, .int h0f2, .ref h3, .ref h4, .ref h5, .int h0f6, .ref h6, .int h0f8, .ref h7, .ref h8, .int h0f11, .ref h9, .ref h10, .ref h11, .ref h12, .ref h13]), (h4, aQ (k 3) 4 (q4 h18 h19 h20 h21)), (h18, ob 5 [.int h18f0, .int h18f1, .ref h46]), (h20, ob 5 [.int h20f0, .int h20f1, .ref h48]), (h21, ob 5 [.int h21f0, .int h21f1, .ref h49]), (h46, aJ (k 1) 40 anJ), (h47, aJ (k 1) 40 anJ), (h48, aJ (k 1) 40 anJ), (h49, aJ (k 1) 40 anJ), (h19, ob 5 [.int h19f0, .int h19f1, .ref h47])] _ := hT
            refine lv_if_ne (tgt := 48) hx hb dX10_copy_37 (by decide) (fun _ => ?_) (fun cc => absurd cc (by decide +kernel))
            refine lv_bipush (v := (-11)) hx hb dX10_copy_48 (by decide) ?_
            exact tz_retI (B := B_cX10_copy_c7a33 D k h0 h4 h18 h19 h20 h21 h46 h47 h48 h49 h1 h2 h3 h5 h6 h7 h8 h9 h10 h11 h12 h13 x1 x2 x3 x4 x5 h0f2 h0f6 h0f8 h0f11 h18f0 h18f1 h19f0 h19f1 h20f0 h20f1 h21f0 h21f1) (v := (-11)) hQ hx hb hr hlocks hS (Nat.le_of_ble_eq_true rfl) (Nat.le_of_ble_eq_true rfl) dX10_copy_50 (⟨(by have := li_m11; omega), (hT.sub [0, 1, 2, 9, 3, 4, 5, 6, 7, 8] (by decide) rfl)⟩)
        · skip
          refine tz_aldq (b := h20) hx hb hK hT 1 rfl (vp_in_iff.mpr (by have := hq61; omega)) (fun f hf => by rw [cl_of hq61]; exact hf.2.2.1) dX10_copy_29 ?_
          refine lv_astore (lv' := [(7, .ref h20), (6, .ref h19), (0, .ref h0), (1, .int x1), (2, .int x2), (3, .int x3), (4, .int x4), (5, .int x5)]) hx hb dX10_copy_30 hl (by decide) rfl (fun ls hl => ?_)
          refine lv_aload hx hb dX10_copy_32 (lv_at hl 1 rfl) ?_
          refine tcI (Tc := [(h19, ob 5 [.int h19f0, .int h19f1, .ref h47])]) (Tr := [(h0, ob 7 [.ref h1, .ref h2, .int h0f2, .ref h3, .ref h4, .ref h5, .int h0f6, .ref h6, .int h0f8, .ref h7, .ref h8, .int h0f11, .ref h9, .ref h10, .ref h11, .ref h12, .ref h13]), (h4, aQ (k 3) 4 (q4 h18 h19 h20 h21)), (h18, ob 5 [.int h18f0, .int h18f1, .ref h46]), (h20, ob 5 [.int h20f0, .int h20f1, .ref h48]), (h21, ob 5 [.int h21f0, .int h21f1, .ref h49]), (h46, aJ (k 1) 40 anJ), (h47, aJ (k 1) 40 anJ), (h48, aJ (k 1) 40 anJ), (h49, aJ (k 1) 40 anJ)]) (as := [h19]) (zcV (q0 := 3) (ci := 5) (As := []) (rest := []) (Tc := [(h19, ob 5 [.int h19f0, .int h19f1, .ref h47])]) hx hb hml hown hU hK hT rfl rfl [3] rfl (by decide) (cX6_isMissing_56a93 l D k _ h19 h47 h19f0 h19f1 (by omega) (by omega)) w644 w641 w642 w643 w71 hdX6_isMissing ⟨rfl, rfl⟩ ⟨Nat.le_of_ble_eq_true rfl, Nat.le_of_ble_eq_true rfl⟩ rfl hl.1 (Nat.le_of_ble_eq_true rfl) dX10_copy_34 ⟨Nat.le_of_ble_eq_true rfl, Nat.le_of_ble_eq_true rfl⟩) hT hS hA [3] [0, 1, 2, 4, 5, 6, 7, 8, 9] rfl rfl rfl (by decide) (by decide) (fun r88 H locs hB J hS => ?_)
          rcases hB with ⟨c_89, rfl, hT1⟩ | ⟨rfl, hT1⟩
          · skip
            have hT := J _ hT1
            have hT : TP D A [(h0, ob 7 [.ref h1, .ref h2, .int h0f2, .ref h3, .ref h4, .ref h5, .int h0f6, .ref h6, .int h0f8, .ref h7, .ref h8, .int h0f11, .ref h9, .ref h10, .ref h11, .ref h12, .ref h13]), (h4, aQ (k 3) 4 (q4 h18 h19 h20 h21)), (h18, ob 5 [.int h18f0, .int h18f1, .ref h46]), (h20, ob 5 [.int h20f0, .int h20f1, .ref h48]), (h21, ob 5 [.int h21f0, .int h21f1, .ref h49]), (h46, aJ (k 1) 40 anJ), (h47, aJ (k 1) 40 anJ), (h48, aJ (k 1) 40 anJ), (h49, aJ (k 1) 40 anJ), (h19, ob 5 [.int h19f0, .int h19f1, .ref h47])] _ := hT
            refine lv_if_ne (tgt := 48) hx hb dX10_copy_37 (by decide) (fun cc => absurd (by decide +kernel) cc) (fun _ => ?_)
            refine lv_aload hx hb dX10_copy_40 (lv_at hl 0 rfl) ?_
            refine tcI (Tc := [(h20, ob 5 [.int h20f0, .int h20f1, .ref h48])]) (Tr := [(h0, ob 7 [.ref h1, .ref h2, .int h0f2, .ref h3, .ref h4, .ref h5, .int h0f6, .ref h6, .int h0f8, .ref h7, .ref h8, .int h0f11, .ref h9, .ref h10, .ref h11, .ref h12, .ref h13]), (h4, aQ (k 3) 4 (q4 h18 h19 h20 h21)), (h18, ob 5 [.int h18f0, .int h18f1, .ref h46]), (h21, ob 5 [.int h21f0, .int h21f1, .ref h49]), (h46, aJ (k 1) 40 anJ), (h47, aJ (k 1) 40 anJ), (h48, aJ (k 1) 40 anJ), (h49, aJ (k 1) 40 anJ), (h19, ob 5 [.int h19f0, .int h19f1, .ref h47])]) (as := [h20]) (zcV (q0 := 3) (ci := 5) (As := []) (rest := []) (Tc := [(h20, ob 5 [.int h20f0, .int h20f1, .ref h48])]) hx hb hml hown hU hK hT rfl rfl [3] rfl (by decide) (cX6_isMissing_56a93 l D k _ h20 h48 h20f0 h20f1 (by omega) (by omega)) w644 w641 w642 w643 w71 hdX6_isMissing ⟨rfl, rfl⟩ ⟨Nat.le_of_ble_eq_true rfl, Nat.le_of_ble_eq_true rfl⟩ rfl hl.1 (Nat.le_of_ble_eq_true rfl) dX10_copy_42 ⟨Nat.le_of_ble_eq_true rfl, Nat.le_of_ble_eq_true rfl⟩) hT hS hA [3] [0, 1, 2, 4, 5, 6, 7, 8, 9] rfl rfl rfl (by decide) (by decide) (fun r90 H locs hB J hS => ?_)
            rcases hB with ⟨c_91, rfl, hT1⟩ | ⟨rfl, hT1⟩
            · skip
              have hT := J _ hT1
              have hT : TP D A [(h0, ob 7 [.ref h1, .ref h2, .int h0f2, .ref h3, .ref h4, .ref h5, .int h0f6, .ref h6, .int h0f8, .ref h7, .ref h8, .int h0f11, .ref h9, .ref h10, .ref h11, .ref h12, .ref h13]), (h4, aQ (k 3) 4 (q4 h18 h19 h20 h21)), (h18, ob 5 [.int h18f0, .int h18f1, .ref h46]), (h21, ob 5 [.int h21f0, .int h21f1, .ref h49]), (h46, aJ (k 1) 40 anJ), (h47, aJ (k 1) 40 anJ), (h48, aJ (k 1) 40 anJ), (h49, aJ (k 1) 40 anJ), (h19, ob 5 [.int h19f0, .int h19f1, .ref h47]), (h20, ob 5 [.int h20f0, .int h20f1, .ref h48])] _ := hT
              refine lv_if_eq (tgt := 51) hx hb dX10_copy_45 (by decide) (fun _ => ?_) (fun cc => absurd (by decide +kernel) cc)
              refine lv_aload hx hb dX10_copy_51 (lv_at hl 1 rfl) ?_
              refine tz_get (ci := 5) (v := .int h19f0) (C := RX6) (F := TX6) (N := 3) hx hb hU iX6 hown hK hT 8 rfl rfl 0 (by decide) w238 (fun _ h9 => h9) rfl dX10_copy_53 ?_
              refine lv_aload hx hb dX10_copy_56 (lv_at hl 0 rfl) ?_
              refine tz_get (ci := 5) (v := .int h20f0) (C := RX6) (F := TX6) (N := 3) hx hb hU iX6 hown hK hT 9 rfl rfl 0 (by decide) w238 (fun _ h9 => h9) rfl dX10_copy_58 ?_
              refine lv_icmp_eq (tgt := 67) hx hb dX10_copy_61 (by decide) (fun c_92 => ?_) (fun c_92 => ?_)
              · skip
                have c_92 := ni_eq c_92 rfl rfl
                refine lv_aload hx hb dX10_copy_67 (lv_at hl 1 rfl) ?_
                refine lv_iload_n hx hb dX10_copy_69 rfl (lv_at hl 4 rfl) ?_
                refine lv_iload hx hb dX10_copy_70 (lv_at hl 7 rfl) ?_
                refine tcI (Tc := [(h19, ob 5 [.int h19f0, .int h19f1, .ref h47])]) (Tr := [(h0, ob 7 [.ref h1, .ref h2, .int h0f2, .ref h3, .ref h4, .ref h5, .int h0f6, .ref h6, .int h0f8, .ref h7, .ref h8, .int h0f11, .ref h9, .ref h10, .ref h11, .ref h12, .ref h13]), (h4, aQ (k 3) 4 (q4 h18 h19 h20 h21)), (h18, ob 5 [.int h18f0, .int h18f1, .ref h46]), (h21, ob 5 [.int h21f0, .int h21f1, .ref h49]), (h46, aJ (k 1) 40 anJ), (h47, aJ (k 1) 40 anJ), (h48, aJ (k 1) 40 anJ), (h49, aJ (k 1) 40 anJ), (h20, ob 5 [.int h20f0, .int h20f1, .ref h48])]) (as := [h19]) (zcV (q0 := 8) (ci := 5) (As := [.int x2, .int x5]) (rest := []) (Tc := [(h19, ob 5 [.int h19f0, .int h19f1, .ref h47])]) hx hb hml hown hU hK hT rfl rfl [8] rfl (by decide) (cX6_isOutside_cc85b l D k _ h19 h47 x2 x5 h19f0 h19f1 (by omega) (by omega)) w648 w645 w646 w647 w71 hdX6_isOutside ⟨rfl, rfl⟩ ⟨Nat.le_of_ble_eq_true rfl, Nat.le_of_ble_eq_true rfl⟩ rfl hl.1 (Nat.le_of_ble_eq_true rfl) dX10_copy_72 ⟨Nat.le_of_ble_eq_true rfl, Nat.le_of_ble_eq_true rfl⟩) hT hS hA [8] [0, 1, 2, 3, 4, 5, 6, 7, 9] rfl rfl rfl (by decide) (by decide) (fun r93 H locs hB J hS => ?_)
                rcases hB with ⟨rfl, hT1⟩ | ⟨c_94, c_95, c_96, rfl, hT1⟩
                · skip
                  have hT := J _ hT1
                  have hT : TP D A [(h0, ob 7 [.ref h1, .ref h2, .int h0f2, .ref h3, .ref h4, .ref h5, .int h0f6, .ref h6, .int h0f8, .ref h7, .ref h8, .int h0f11, .ref h9, .ref h10, .ref h11, .ref h12, .ref h13]), (h4, aQ (k 3) 4 (q4 h18 h19 h20 h21)), (h18, ob 5 [.int h18f0, .int h18f1, .ref h46]), (h21, ob 5 [.int h21f0, .int h21f1, .ref h49]), (h46, aJ (k 1) 40 anJ), (h47, aJ (k 1) 40 anJ), (h48, aJ (k 1) 40 anJ), (h49, aJ (k 1) 40 anJ), (h20, ob 5 [.int h20f0, .int h20f1, .ref h48]), (h19, ob 5 [.int h19f0, .int h19f1, .ref h47])] _ := hT
                  refine lv_if_ne (tgt := 90) hx hb dX10_copy_75 (by decide) (fun _ => ?_) (fun cc => absurd cc (by decide +kernel))
                  refine lv_bipush (v := (-12)) hx hb dX10_copy_90 (by decide) ?_
                  exact tz_retI (B := B_cX10_copy_c7a33 D k h0 h4 h18 h19 h20 h21 h46 h47 h48 h49 h1 h2 h3 h5 h6 h7 h8 h9 h10 h11 h12 h13 x1 x2 x3 x4 x5 h0f2 h0f6 h0f8 h0f11 h18f0 h18f1 h19f0 h19f1 h20f0 h20f1 h21f0 h21f1) (v := (-12)) hQ hx hb hr hlocks hS (Nat.le_of_ble_eq_true rfl) (Nat.le_of_ble_eq_true rfl) dX10_copy_92 (⟨(by have := li_m12; omega), (hT.sub [0, 1, 2, 9, 8, 3, 4, 5, 6, 7] (by decide) rfl)⟩)
                · skip
                  have hT := J _ hT1
                  have hT : TP D A [(h0, ob 7 [.ref h1, .ref h2, .int h0f2, .ref h3, .ref h4, .ref h5, .int h0f6, .ref h6, .int h0f8, .ref h7, .ref h8, .int h0f11, .ref h9, .ref h10, .ref h11, .ref h12, .ref h13]), (h4, aQ (k 3) 4 (q4 h18 h19 h20 h21)), (h18, ob 5 [.int h18f0, .int h18f1, .ref h46]), (h21, ob 5 [.int h21f0, .int h21f1, .ref h49]), (h46, aJ (k 1) 40 anJ), (h47, aJ (k 1) 40 anJ), (h48, aJ (k 1) 40 anJ), (h49, aJ (k 1) 40 anJ), (h20, ob 5 [.int h20f0, .int h20f1, .ref h48]), (h19, ob 5 [.int h19f0, .int h19f1, .ref h47])] _ := hT
                  refine lv_if_ne (tgt := 90) hx hb dX10_copy_75 (by decide) (fun cc => absurd (by decide +kernel) cc) (fun _ => ?_)
                  refine lv_aload hx hb dX10_copy_78 (lv_at hl 0 rfl) ?_
                  refine lv_iload hx hb dX10_copy_80 (lv_at hl 6 rfl) ?_
                  refine lv_iload hx hb dX10_copy_82 (lv_at hl 7 rfl) ?_
                  refine tcI (Tc := [(h20, ob 5 [.int h20f0, .int h20f1, .ref h48])]) (Tr := [(h0, ob 7 [.ref h1, .ref h2, .int h0f2, .ref h3, .ref h4, .ref h5, .int h0f6, .ref h6, .int h0f8, .ref h7, .ref h8, .int h0f11, .ref h9, .ref h10, .ref h11, .ref h12, .ref h13]), (h4, aQ (k 3) 4 (q4 h18 h19 h20 h21)), (h18, ob 5 [.int h18f0, .int h18f1, .ref h46]), (h21, ob 5 [.int h21f0, .int h21f1, .ref h49]), (h46, aJ (k 1) 40 anJ), (h47, aJ (k 1) 40 anJ), (h48, aJ (k 1) 40 anJ), (h49, aJ (k 1) 40 anJ), (h19, ob 5 [.int h19f0, .int h19f1, .ref h47])]) (as := [h20]) (zcV (q0 := 8) (ci := 5) (As := [.int x4, .int x5]) (rest := []) (Tc := [(h20, ob 5 [.int h20f0, .int h20f1, .ref h48])]) hx hb hml hown hU hK hT rfl rfl [8] rfl (by decide) (cX6_isOutside_cc85b l D k _ h20 h48 x4 x5 h20f0 h20f1 (by omega) (by omega)) w648 w645 w646 w647 w71 hdX6_isOutside ⟨rfl, rfl⟩ ⟨Nat.le_of_ble_eq_true rfl, Nat.le_of_ble_eq_true rfl⟩ rfl hl.1 (Nat.le_of_ble_eq_true rfl) dX10_copy_84 ⟨Nat.le_of_ble_eq_true rfl, Nat.le_of_ble_eq_true rfl⟩) hT hS hA [8] [0, 1, 2, 3, 4, 5, 6, 7, 9] rfl rfl rfl (by decide) (by decide) (fun r97 H locs hB J hS => ?_)
                  rcases hB with ⟨rfl, hT1⟩ | ⟨c_98, c_99, c_100, rfl, hT1⟩
                  · skip
                    have hT := J _ hT1
                    have hT : TP D A [(h0, ob 7 [.ref h1, .ref h2, .int h0f2, .ref h3, .ref h4, .ref h5, .int h0f6, .ref h6, .int h0f8, .ref h7, .ref h8, .int h0f11, .ref h9, .ref h10, .ref h11, .ref h12, .ref h13]), (h4, aQ (k 3) 4 (q4 h18 h19 h20 h21)), (h18, ob 5 [.int h18f0, .int h18f1, .ref h46]), (h21, ob 5 [.int h21f0, .int h21f1, .ref h49]), (h46, aJ (k 1) 40 anJ), (h47, aJ (k 1) 40 anJ), (h48, aJ (k 1) 40 anJ), (h49, aJ (k 1) 40 anJ), (h19, ob 5 [.int h19f0, .int h19f1, .ref h47]), (h20, ob 5 [.int h20f0, .int h20f1, .ref h48])] _ := hT
                    refine lv_if_eq (tgt := 93) hx hb dX10_copy_87 (by decide) (fun cc => absurd cc (by decide +kernel)) (fun _ => ?_)
                    refine lv_bipush (v := (-12)) hx hb dX10_copy_90 (by decide) ?_
                    exact tz_retI (B := B_cX10_copy_c7a33 D k h0 h4 h18 h19 h20 h21 h46 h47 h48 h49 h1 h2 h3 h5 h6 h7 h8 h9 h10 h11 h12 h13 x1 x2 x3 x4 x5 h0f2 h0f6 h0f8 h0f11 h18f0 h18f1 h19f0 h19f1 h20f0 h20f1 h21f0 h21f1) (v := (-12)) hQ hx hb hr hlocks hS (Nat.le_of_ble_eq_true rfl) (Nat.le_of_ble_eq_true rfl) dX10_copy_92 (⟨(by have := li_m12; omega), (hT.sub [0, 1, 2, 8, 9, 3, 4, 5, 6, 7] (by decide) rfl)⟩)
                  · skip
                    have hT := J _ hT1
                    have hT : TP D A [(h0, ob 7 [.ref h1, .ref h2, .int h0f2, .ref h3, .ref h4, .ref h5, .int h0f6, .ref h6, .int h0f8, .ref h7, .ref h8, .int h0f11, .ref h9, .ref h10, .ref h11, .ref h12, .ref h13]), (h4, aQ (k 3) 4 (q4 h18 h19 h20 h21)), (h18, ob 5 [.int h18f0, .int h18f1, .ref h46]), (h21, ob 5 [.int h21f0, .int h21f1, .ref h49]), (h46, aJ (k 1) 40 anJ), (h47, aJ (k 1) 40 anJ), (h48, aJ (k 1) 40 anJ), (h49, aJ (k 1) 40 anJ), (h19, ob 5 [.int h19f0, .int h19f1, .ref h47]), (h20, ob 5 [.int h20f0, .int h20f1, .ref h48])] _ := hT
                    refine lv_if_eq (tgt := 93) hx hb dX10_copy_87 (by decide) (fun _ => ?_) (fun cc => absurd (by decide +kernel) cc)
                    refine lv_aload hx hb dX10_copy_93 (lv_at hl 1 rfl) ?_
                    refine tz_get (ci := 5) (v := .ref h47) (C := RX6) (F := TX6) (N := 3) hx hb hU iX6 hown hK hT 8 rfl rfl 2 (by decide) w241 (fun _ h9 => h9) rfl dX10_copy_95 ?_
                    refine lv_iload_n hx hb dX10_copy_98 rfl (lv_at hl 4 rfl) ?_
                    refine lv_aload hx hb dX10_copy_99 (lv_at hl 0 rfl) ?_
                    refine tz_get (ci := 5) (v := .ref h48) (C := RX6) (F := TX6) (N := 3) hx hb hU iX6 hown hK hT 9 rfl rfl 2 (by decide) w241 (fun _ h9 => h9) rfl dX10_copy_101 ?_
                    refine lv_iload hx hb dX10_copy_104 (lv_at hl 6 rfl) ?_
                    refine lv_iload hx hb dX10_copy_106 (lv_at hl 7 rfl) ?_
                    refine tz_copyl hx hb (by rw [hml]; exact hl.1.symm) hown hU w410 w348 w347 w75 hK hT hS 5 6 rfl rfl (by omega) (fun _ _ _ _ => trivial) (Nat.le_of_ble_eq_true rfl) (Nat.le_of_ble_eq_true rfl) dX10_copy_108 (fun H locs hT hS => ?_)
                    refine lv_iload hx hb dX10_copy_111 (lv_at hl 7 rfl) ?_
                    exact tz_retI (B := B_cX10_copy_c7a33 D k h0 h4 h18 h19 h20 h21 h46 h47 h48 h49 h1 h2 h3 h5 h6 h7 h8 h9 h10 h11 h12 h13 x1 x2 x3 x4 x5 h0f2 h0f6 h0f8 h0f11 h18f0 h18f1 h19f0 h19f1 h20f0 h20f1 h21f0 h21f1) (v := x5) hQ hx hb hr hlocks hS (Nat.le_of_ble_eq_true rfl) (Nat.le_of_ble_eq_true rfl) dX10_copy_113 (⟨(by omega), (hT.sub [0, 1, 2, 8, 9, 3, 4, 5, 6, 7] (by decide) rfl)⟩)
              · skip
                have c_92 := ni_ne c_92 rfl rfl
                refine lv_bipush (v := (-13)) hx hb dX10_copy_64 (by decide) ?_
                exact tz_retI (B := B_cX10_copy_c7a33 D k h0 h4 h18 h19 h20 h21 h46 h47 h48 h49 h1 h2 h3 h5 h6 h7 h8 h9 h10 h11 h12 h13 x1 x2 x3 x4 x5 h0f2 h0f6 h0f8 h0f11 h18f0 h18f1 h19f0 h19f1 h20f0 h20f1 h21f0 h21f1) (v := (-13)) hQ hx hb hr hlocks hS (Nat.le_of_ble_eq_true rfl) (Nat.le_of_ble_eq_true rfl) dX10_copy_66 (⟨(by have := li_m13; omega), (hT.sub [0, 1, 2, 8, 9, 3, 4, 5, 6, 7] (by decide) rfl)⟩)
            · skip
              have hT := J _ hT1
              have hT : TP D A [(h0, ob 7 [.ref h1, .ref h2, .int h0f2, .ref h3, .ref h4, .ref h5, .int h0f6, .ref h6, .int h0f8, .ref h7, .ref h8, .int h0f11, .ref h9, .ref h10, .ref h11, .ref h12, .ref h13]), (h4, aQ (k 3) 4 (q4 h18 h19 h20 h21)), (h18, ob 5 [.int h18f0, .int h18f1, .ref h46]), (h21, ob 5 [.int h21f0, .int h21f1, .ref h49]), (h46, aJ (k 1) 40 anJ), (h47, aJ (k 1) 40 anJ), (h48, aJ (k 1) 40 anJ), (h49, aJ (k 1) 40 anJ), (h19, ob 5 [.int h19f0, .int h19f1, .ref h47]), (h20, ob 5 [.int h20f0, .int h20f1, .ref h48])] _ := hT
              refine lv_if_eq (tgt := 51) hx hb dX10_copy_45 (by decide) (fun cc => absurd cc (by decide +kernel)) (fun _ => ?_)
              refine lv_bipush (v := (-11)) hx hb dX10_copy_48 (by decide) ?_
              exact tz_retI (B := B_cX10_copy_c7a33 D k h0 h4 h18 h19 h20 h21 h46 h47 h48 h49 h1 h2 h3 h5 h6 h7 h8 h9 h10 h11 h12 h13 x1 x2 x3 x4 x5 h0f2 h0f6 h0f8 h0f11 h18f0 h18f1 h19f0 h19f1 h20f0 h20f1 h21f0 h21f1) (v := (-11)) hQ hx hb hr hlocks hS (Nat.le_of_ble_eq_true rfl) (Nat.le_of_ble_eq_true rfl) dX10_copy_50 (⟨(by have := li_m11; omega), (hT.sub [0, 1, 2, 8, 9, 3, 4, 5, 6, 7] (by decide) rfl)⟩)
          · skip
            have hT := J _ hT1
            have hT : TP D A [(h0, ob 7 [.ref h1, .ref h2, .int h0f2, .ref h3, .ref h4, .ref h5, .int h0f6, .ref h6, .int h0f8, .ref h7, .ref h8, .int h0f11, .ref h9, .ref h10, .ref h11, .ref h12, .ref h13]), (h4, aQ (k 3) 4 (q4 h18 h19 h20 h21)), (h18, ob 5 [.int h18f0, .int h18f1, .ref h46]), (h20, ob 5 [.int h20f0, .int h20f1, .ref h48]), (h21, ob 5 [.int h21f0, .int h21f1, .ref h49]), (h46, aJ (k 1) 40 anJ), (h47, aJ (k 1) 40 anJ), (h48, aJ (k 1) 40 anJ), (h49, aJ (k 1) 40 anJ), (h19, ob 5 [.int h19f0, .int h19f1, .ref h47])] _ := hT
            refine lv_if_ne (tgt := 48) hx hb dX10_copy_37 (by decide) (fun _ => ?_) (fun cc => absurd cc (by decide +kernel))
            refine lv_bipush (v := (-11)) hx hb dX10_copy_48 (by decide) ?_
            exact tz_retI (B := B_cX10_copy_c7a33 D k h0 h4 h18 h19 h20 h21 h46 h47 h48 h49 h1 h2 h3 h5 h6 h7 h8 h9 h10 h11 h12 h13 x1 x2 x3 x4 x5 h0f2 h0f6 h0f8 h0f11 h18f0 h18f1 h19f0 h19f1 h20f0 h20f1 h21f0 h21f1) (v := (-11)) hQ hx hb hr hlocks hS (Nat.le_of_ble_eq_true rfl) (Nat.le_of_ble_eq_true rfl) dX10_copy_50 (⟨(by have := li_m11; omega), (hT.sub [0, 1, 2, 9, 3, 4, 5, 6, 7, 8] (by decide) rfl)⟩)
        · skip
          refine tz_aldq (b := h21) hx hb hK hT 1 rfl (vp_in_iff.mpr (by have := hq61; omega)) (fun f hf => by rw [cl_of hq61]; exact hf.2.2.2) dX10_copy_29 ?_
          refine lv_astore (lv' := [(7, .ref h21), (6, .ref h19), (0, .ref h0), (1, .int x1), (2, .int x2), (3, .int x3), (4, .int x4), (5, .int x5)]) hx hb dX10_copy_30 hl (by decide) rfl (fun ls hl => ?_)
          refine lv_aload hx hb dX10_copy_32 (lv_at hl 1 rfl) ?_
          refine tcI (Tc := [(h19, ob 5 [.int h19f0, .int h19f1, .ref h47])]) (Tr := [(h0, ob 7 [.ref h1, .ref h2, .int h0f2, .ref h3, .ref h4, .ref h5, .int h0f6, .ref h6, .int h0f8, .ref h7, .ref h8, .int h0f11, .ref h9, .ref h10, .ref h11, .ref h12, .ref h13]), (h4, aQ (k 3) 4 (q4 h18 h19 h20 h21)), (h18, ob 5 [.int h18f0, .int h18f1, .ref h46]), (h20, ob 5 [.int h20f0, .int h20f1, .ref h48]), (h21, ob 5 [.int h21f0, .int h21f1, .ref h49]), (h46, aJ (k 1) 40 anJ), (h47, aJ (k 1) 40 anJ), (h48, aJ (k 1) 40 anJ), (h49, aJ (k 1) 40 anJ)]) (as := [h19]) (zcV (q0 := 3) (ci := 5) (As := []) (rest := []) (Tc := [(h19, ob 5 [.int h19f0, .int h19f1, .ref h47])]) hx hb hml hown hU hK hT rfl rfl [3] rfl (by decide) (cX6_isMissing_56a93 l D k _ h19 h47 h19f0 h19f1 (by omega) (by omega)) w644 w641 w642 w643 w71 hdX6_isMissing ⟨rfl, rfl⟩ ⟨Nat.le_of_ble_eq_true rfl, Nat.le_of_ble_eq_true rfl⟩ rfl hl.1 (Nat.le_of_ble_eq_true rfl) dX10_copy_34 ⟨Nat.le_of_ble_eq_true rfl, Nat.le_of_ble_eq_true rfl⟩) hT hS hA [3] [0, 1, 2, 4, 5, 6, 7, 8, 9] rfl rfl rfl (by decide) (by decide) (fun r101 H locs hB J hS => ?_)
          rcases hB with ⟨c_102, rfl, hT1⟩ | ⟨rfl, hT1⟩
          · skip
            have hT := J _ hT1
            have hT : TP D A [(h0, ob 7 [.ref h1, .ref h2, .int h0f2, .ref h3, .ref h4, .ref h5, .int h0f6, .ref h6, .int h0f8, .ref h7, .ref h8, .int h0f11, .ref h9, .ref h10, .ref h11, .ref h12, .ref h13]), (h4, aQ (k 3) 4 (q4 h18 h19 h20 h21)), (h18, ob 5 [.int h18f0, .int h18f1, .ref h46]), (h20, ob 5 [.int h20f0, .int h20f1, .ref h48]), (h21, ob 5 [.int h21f0, .int h21f1, .ref h49]), (h46, aJ (k 1) 40 anJ), (h47, aJ (k 1) 40 anJ), (h48, aJ (k 1) 40 anJ), (h49, aJ (k 1) 40 anJ), (h19, ob 5 [.int h19f0, .int h19f1, .ref h47])] _ := hT
            refine lv_if_ne (tgt := 48) hx hb dX10_copy_37 (by decide) (fun cc => absurd (by decide +kernel) cc) (fun _ => ?_)
            refine lv_aload hx hb dX10_copy_40 (lv_at hl 0 rfl) ?_
            refine tcI (Tc := [(h21, ob 5 [.int h21f0, .int h21f1, .ref h49])]) (Tr := [(h0, ob 7 [.ref h1, .ref h2, .int h0f2, .ref h3, .ref h4, .ref h5, .int h0f6, .ref h6, .int h0f8, .ref h7, .ref h8, .int h0f11, .ref h9, .ref h10, .ref h11, .ref h12, .ref h13]), (h4, aQ (k 3) 4 (q4 h18 h19 h20 h21)), (h18, ob 5 [.int h18f0, .int h18f1, .ref h46]), (h20, ob 5 [.int h20f0, .int h20f1, .ref h48]), (h46, aJ (k 1) 40 anJ), (h47, aJ (k 1) 40 anJ), (h48, aJ (k 1) 40 anJ), (h49, aJ (k 1) 40 anJ), (h19, ob 5 [.int h19f0, .int h19f1, .ref h47])]) (as := [h21]) (zcV (q0 := 4) (ci := 5) (As := []) (rest := []) (Tc := [(h21, ob 5 [.int h21f0, .int h21f1, .ref h49])]) hx hb hml hown hU hK hT rfl rfl [4] rfl (by decide) (cX6_isMissing_56a93 l D k _ h21 h49 h21f0 h21f1 (by omega) (by omega)) w644 w641 w642 w643 w71 hdX6_isMissing ⟨rfl, rfl⟩ ⟨Nat.le_of_ble_eq_true rfl, Nat.le_of_ble_eq_true rfl⟩ rfl hl.1 (Nat.le_of_ble_eq_true rfl) dX10_copy_42 ⟨Nat.le_of_ble_eq_true rfl, Nat.le_of_ble_eq_true rfl⟩) hT hS hA [4] [0, 1, 2, 3, 5, 6, 7, 8, 9] rfl rfl rfl (by decide) (by decide) (fun r103 H locs hB J hS => ?_)
            rcases hB with ⟨c_104, rfl, hT1⟩ | ⟨rfl, hT1⟩
            · skip
              have hT := J _ hT1
              have hT : TP D A [(h0, ob 7 [.ref h1, .ref h2, .int h0f2, .ref h3, .ref h4, .ref h5, .int h0f6, .ref h6, .int h0f8, .ref h7, .ref h8, .int h0f11, .ref h9, .ref h10, .ref h11, .ref h12, .ref h13]), (h4, aQ (k 3) 4 (q4 h18 h19 h20 h21)), (h18, ob 5 [.int h18f0, .int h18f1, .ref h46]), (h20, ob 5 [.int h20f0, .int h20f1, .ref h48]), (h46, aJ (k 1) 40 anJ), (h47, aJ (k 1) 40 anJ), (h48, aJ (k 1) 40 anJ), (h49, aJ (k 1) 40 anJ), (h19, ob 5 [.int h19f0, .int h19f1, .ref h47]), (h21, ob 5 [.int h21f0, .int h21f1, .ref h49])] _ := hT
              refine lv_if_eq (tgt := 51) hx hb dX10_copy_45 (by decide) (fun _ => ?_) (fun cc => absurd (by decide +kernel) cc)
              refine lv_aload hx hb dX10_copy_51 (lv_at hl 1 rfl) ?_
              refine tz_get (ci := 5) (v := .int h19f0) (C := RX6) (F := TX6) (N := 3) hx hb hU iX6 hown hK hT 8 rfl rfl 0 (by decide) w238 (fun _ h9 => h9) rfl dX10_copy_53 ?_
              refine lv_aload hx hb dX10_copy_56 (lv_at hl 0 rfl) ?_
              refine tz_get (ci := 5) (v := .int h21f0) (C := RX6) (F := TX6) (N := 3) hx hb hU iX6 hown hK hT 9 rfl rfl 0 (by decide) w238 (fun _ h9 => h9) rfl dX10_copy_58 ?_
              refine lv_icmp_eq (tgt := 67) hx hb dX10_copy_61 (by decide) (fun c_105 => ?_) (fun c_105 => ?_)
              · skip
                have c_105 := ni_eq c_105 rfl rfl
                refine lv_aload hx hb dX10_copy_67 (lv_at hl 1 rfl) ?_
                refine lv_iload_n hx hb dX10_copy_69 rfl (lv_at hl 4 rfl) ?_
                refine lv_iload hx hb dX10_copy_70 (lv_at hl 7 rfl) ?_
                refine tcI (Tc := [(h19, ob 5 [.int h19f0, .int h19f1, .ref h47])]) (Tr := [(h0, ob 7 [.ref h1, .ref h2, .int h0f2, .ref h3, .ref h4, .ref h5, .int h0f6, .ref h6, .int h0f8, .ref h7, .ref h8, .int h0f11, .ref h9, .ref h10, .ref h11, .ref h12, .ref h13]), (h4, aQ (k 3) 4 (q4 h18 h19 h20 h21)), (h18, ob 5 [.int h18f0, .int h18f1, .ref h46]), (h20, ob 5 [.int h20f0, .int h20f1, .ref h48]), (h46, aJ (k 1) 40 anJ), (h47, aJ (k 1) 40 anJ), (h48, aJ (k 1) 40 anJ), (h49, aJ (k 1) 40 anJ), (h21, ob 5 [.int h21f0, .int h21f1, .ref h49])]) (as := [h19]) (zcV (q0 := 8) (ci := 5) (As := [.int x2, .int x5]) (rest := []) (Tc := [(h19, ob 5 [.int h19f0, .int h19f1, .ref h47])]) hx hb hml hown hU hK hT rfl rfl [8] rfl (by decide) (cX6_isOutside_cc85b l D k _ h19 h47 x2 x5 h19f0 h19f1 (by omega) (by omega)) w648 w645 w646 w647 w71 hdX6_isOutside ⟨rfl, rfl⟩ ⟨Nat.le_of_ble_eq_true rfl, Nat.le_of_ble_eq_true rfl⟩ rfl hl.1 (Nat.le_of_ble_eq_true rfl) dX10_copy_72 ⟨Nat.le_of_ble_eq_true rfl, Nat.le_of_ble_eq_true rfl⟩) hT hS hA [8] [0, 1, 2, 3, 4, 5, 6, 7, 9] rfl rfl rfl (by decide) (by decide) (fun r106 H locs hB J hS => ?_)
                rcases hB with ⟨rfl, hT1⟩ | ⟨c_107, c_108, c_109, rfl, hT1⟩
                · skip
                  have hT := J _ hT1
                  have hT : TP D A [(h0, ob 7 [.ref h1, .ref h2, .int h0f2, .ref h3, .ref h4, .ref h5, .int h0f6, .ref h6, .int h0f8, .ref h7, .ref h8, .int h0f11, .ref h9, .ref h10, .ref h11, .ref h12, .ref h13]), (h4, aQ (k 3) 4 (q4 h18 h19 h20 h21)), (h18, ob 5 [.int h18f0, .int h18f1, .ref h46]), (h20, ob 5 [.int h20f0, .int h20f1, .ref h48]), (h46, aJ (k 1) 40 anJ), (h47, aJ (k 1) 40 anJ), (h48, aJ (k 1) 40 anJ), (h49, aJ (k 1) 40 anJ), (h21, ob 5 [.int h21f0, .int h21f1, .ref h49]), (h19, ob 5 [.int h19f0, .int h19f1, .ref h47])] _ := hT
                  refine lv_if_ne (tgt := 90) hx hb dX10_copy_75 (by decide) (fun _ => ?_) (fun cc => absurd cc (by decide +kernel))
                  refine lv_bipush (v := (-12)) hx hb dX10_copy_90 (by decide) ?_
                  exact tz_retI (B := B_cX10_copy_c7a33 D k h0 h4 h18 h19 h20 h21 h46 h47 h48 h49 h1 h2 h3 h5 h6 h7 h8 h9 h10 h11 h12 h13 x1 x2 x3 x4 x5 h0f2 h0f6 h0f8 h0f11 h18f0 h18f1 h19f0 h19f1 h20f0 h20f1 h21f0 h21f1) (v := (-12)) hQ hx hb hr hlocks hS (Nat.le_of_ble_eq_true rfl) (Nat.le_of_ble_eq_true rfl) dX10_copy_92 (⟨(by have := li_m12; omega), (hT.sub [0, 1, 2, 9, 3, 8, 4, 5, 6, 7] (by decide) rfl)⟩)
                · skip
                  have hT := J _ hT1
                  have hT : TP D A [(h0, ob 7 [.ref h1, .ref h2, .int h0f2, .ref h3, .ref h4, .ref h5, .int h0f6, .ref h6, .int h0f8, .ref h7, .ref h8, .int h0f11, .ref h9, .ref h10, .ref h11, .ref h12, .ref h13]), (h4, aQ (k 3) 4 (q4 h18 h19 h20 h21)), (h18, ob 5 [.int h18f0, .int h18f1, .ref h46]), (h20, ob 5 [.int h20f0, .int h20f1, .ref h48]), (h46, aJ (k 1) 40 anJ), (h47, aJ (k 1) 40 anJ), (h48, aJ (k 1) 40 anJ), (h49, aJ (k 1) 40 anJ), (h21, ob 5 [.int h21f0, .int h21f1, .ref h49]), (h19, ob 5 [.int h19f0, .int h19f1, .ref h47])] _ := hT
                  refine lv_if_ne (tgt := 90) hx hb dX10_copy_75 (by decide) (fun cc => absurd (by decide +kernel) cc) (fun _ => ?_)
                  refine lv_aload hx hb dX10_copy_78 (lv_at hl 0 rfl) ?_
                  refine lv_iload hx hb dX10_copy_80 (lv_at hl 6 rfl) ?_
                  refine lv_iload hx hb dX10_copy_82 (lv_at hl 7 rfl) ?_
                  refine tcI (Tc := [(h21, ob 5 [.int h21f0, .int h21f1, .ref h49])]) (Tr := [(h0, ob 7 [.ref h1, .ref h2, .int h0f2, .ref h3, .ref h4, .ref h5, .int h0f6, .ref h6, .int h0f8, .ref h7, .ref h8, .int h0f11, .ref h9, .ref h10, .ref h11, .ref h12, .ref h13]), (h4, aQ (k 3) 4 (q4 h18 h19 h20 h21)), (h18, ob 5 [.int h18f0, .int h18f1, .ref h46]), (h20, ob 5 [.int h20f0, .int h20f1, .ref h48]), (h46, aJ (k 1) 40 anJ), (h47, aJ (k 1) 40 anJ), (h48, aJ (k 1) 40 anJ), (h49, aJ (k 1) 40 anJ), (h19, ob 5 [.int h19f0, .int h19f1, .ref h47])]) (as := [h21]) (zcV (q0 := 8) (ci := 5) (As := [.int x4, .int x5]) (rest := []) (Tc := [(h21, ob 5 [.int h21f0, .int h21f1, .ref h49])]) hx hb hml hown hU hK hT rfl rfl [8] rfl (by decide) (cX6_isOutside_cc85b l D k _ h21 h49 x4 x5 h21f0 h21f1 (by omega) (by omega)) w648 w645 w646 w647 w71 hdX6_isOutside ⟨rfl, rfl⟩ ⟨Nat.le_of_ble_eq_true rfl, Nat.le_of_ble_eq_true rfl⟩ rfl hl.1 (Nat.le_of_ble_eq_true rfl) dX10_copy_84 ⟨Nat.le_of_ble_eq_true rfl, Nat.le_of_ble_eq_true rfl⟩) hT hS hA [8] [0, 1, 2, 3, 4, 5, 6, 7, 9] rfl rfl rfl (by decide) (by decide) (fun r110 H locs hB J hS => ?_)
                  rcases hB with ⟨rfl, hT1⟩ | ⟨c_111, c_112, c_113, rfl, hT1⟩
                  · skip
                    have hT := J _ hT1
                    have hT : TP D A [(h0, ob 7 [.ref h1, .ref h2, .int h0f2, .ref h3, .ref h4, .ref h5, .int h0f6, .ref h6, .int h0f8, .ref h7, .ref h8, .int h0f11, .ref h9, .ref h10, .ref h11, .ref h12, .ref h13]), (h4, aQ (k 3) 4 (q4 h18 h19 h20 h21)), (h18, ob 5 [.int h18f0, .int h18f1, .ref h46]), (h20, ob 5 [.int h20f0, .int h20f1, .ref h48]), (h46, aJ (k 1) 40 anJ), (h47, aJ (k 1) 40 anJ), (h48, aJ (k 1) 40 anJ), (h49, aJ (k 1) 40 anJ), (h19, ob 5 [.int h19f0, .int h19f1, .ref h47]), (h21, ob 5 [.int h21f0, .int h21f1, .ref h49])] _ := hT
                    refine lv_if_eq (tgt := 93) hx hb dX10_copy_87 (by decide) (fun cc => absurd cc (by decide +kernel)) (fun _ => ?_)
                    refine lv_bipush (v := (-12)) hx hb dX10_copy_90 (by decide) ?_
                    exact tz_retI (B := B_cX10_copy_c7a33 D k h0 h4 h18 h19 h20 h21 h46 h47 h48 h49 h1 h2 h3 h5 h6 h7 h8 h9 h10 h11 h12 h13 x1 x2 x3 x4 x5 h0f2 h0f6 h0f8 h0f11 h18f0 h18f1 h19f0 h19f1 h20f0 h20f1 h21f0 h21f1) (v := (-12)) hQ hx hb hr hlocks hS (Nat.le_of_ble_eq_true rfl) (Nat.le_of_ble_eq_true rfl) dX10_copy_92 (⟨(by have := li_m12; omega), (hT.sub [0, 1, 2, 8, 3, 9, 4, 5, 6, 7] (by decide) rfl)⟩)
                  · skip
                    have hT := J _ hT1
                    have hT : TP D A [(h0, ob 7 [.ref h1, .ref h2, .int h0f2, .ref h3, .ref h4, .ref h5, .int h0f6, .ref h6, .int h0f8, .ref h7, .ref h8, .int h0f11, .ref h9, .ref h10, .ref h11, .ref h12, .ref h13]), (h4, aQ (k 3) 4 (q4 h18 h19 h20 h21)), (h18, ob 5 [.int h18f0, .int h18f1, .ref h46]), (h20, ob 5 [.int h20f0, .int h20f1, .ref h48]), (h46, aJ (k 1) 40 anJ), (h47, aJ (k 1) 40 anJ), (h48, aJ (k 1) 40 anJ), (h49, aJ (k 1) 40 anJ), (h19, ob 5 [.int h19f0, .int h19f1, .ref h47]), (h21, ob 5 [.int h21f0, .int h21f1, .ref h49])] _ := hT
                    refine lv_if_eq (tgt := 93) hx hb dX10_copy_87 (by decide) (fun _ => ?_) (fun cc => absurd (by decide +kernel) cc)
                    refine lv_aload hx hb dX10_copy_93 (lv_at hl 1 rfl) ?_
                    refine tz_get (ci := 5) (v := .ref h47) (C := RX6) (F := TX6) (N := 3) hx hb hU iX6 hown hK hT 8 rfl rfl 2 (by decide) w241 (fun _ h9 => h9) rfl dX10_copy_95 ?_
                    refine lv_iload_n hx hb dX10_copy_98 rfl (lv_at hl 4 rfl) ?_
                    refine lv_aload hx hb dX10_copy_99 (lv_at hl 0 rfl) ?_
                    refine tz_get (ci := 5) (v := .ref h49) (C := RX6) (F := TX6) (N := 3) hx hb hU iX6 hown hK hT 9 rfl rfl 2 (by decide) w241 (fun _ h9 => h9) rfl dX10_copy_101 ?_
                    refine lv_iload hx hb dX10_copy_104 (lv_at hl 6 rfl) ?_
                    refine lv_iload hx hb dX10_copy_106 (lv_at hl 7 rfl) ?_
                    refine tz_copyl hx hb (by rw [hml]; exact hl.1.symm) hown hU w410 w348 w347 w75 hK hT hS 5 7 rfl rfl (by omega) (fun _ _ _ _ => trivial) (Nat.le_of_ble_eq_true rfl) (Nat.le_of_ble_eq_true rfl) dX10_copy_108 (fun H locs hT hS => ?_)
                    refine lv_iload hx hb dX10_copy_111 (lv_at hl 7 rfl) ?_
                    exact tz_retI (B := B_cX10_copy_c7a33 D k h0 h4 h18 h19 h20 h21 h46 h47 h48 h49 h1 h2 h3 h5 h6 h7 h8 h9 h10 h11 h12 h13 x1 x2 x3 x4 x5 h0f2 h0f6 h0f8 h0f11 h18f0 h18f1 h19f0 h19f1 h20f0 h20f1 h21f0 h21f1) (v := x5) hQ hx hb hr hlocks hS (Nat.le_of_ble_eq_true rfl) (Nat.le_of_ble_eq_true rfl) dX10_copy_113 (⟨(by omega), (hT.sub [0, 1, 2, 8, 3, 9, 4, 5, 6, 7] (by decide) rfl)⟩)
              · skip
                have c_105 := ni_ne c_105 rfl rfl
                refine lv_bipush (v := (-13)) hx hb dX10_copy_64 (by decide) ?_
                exact tz_retI (B := B_cX10_copy_c7a33 D k h0 h4 h18 h19 h20 h21 h46 h47 h48 h49 h1 h2 h3 h5 h6 h7 h8 h9 h10 h11 h12 h13 x1 x2 x3 x4 x5 h0f2 h0f6 h0f8 h0f11 h18f0 h18f1 h19f0 h19f1 h20f0 h20f1 h21f0 h21f1) (v := (-13)) hQ hx hb hr hlocks hS (Nat.le_of_ble_eq_true rfl) (Nat.le_of_ble_eq_true rfl) dX10_copy_66 (⟨(by have := li_m13; omega), (hT.sub [0, 1, 2, 8, 3, 9, 4, 5, 6, 7] (by decide) rfl)⟩)
            · skip
              have hT := J _ hT1
              have hT : TP D A [(h0, ob 7 [.ref h1, .ref h2, .int h0f2, .ref h3, .ref h4, .ref h5, .int h0f6, .ref h6, .int h0f8, .ref h7, .ref h8, .int h0f11, .ref h9, .ref h10, .ref h11, .ref h12, .ref h13]), (h4, aQ (k 3) 4 (q4 h18 h19 h20 h21)), (h18, ob 5 [.int h18f0, .int h18f1, .ref h46]), (h20, ob 5 [.int h20f0, .int h20f1, .ref h48]), (h46, aJ (k 1) 40 anJ), (h47, aJ (k 1) 40 anJ), (h48, aJ (k 1) 40 anJ), (h49, aJ (k 1) 40 anJ), (h19, ob 5 [.int h19f0, .int h19f1, .ref h47]), (h21, ob 5 [.int h21f0, .int h21f1, .ref h49])] _ := hT
              refine lv_if_eq (tgt := 51) hx hb dX10_copy_45 (by decide) (fun cc => absurd cc (by decide +kernel)) (fun _ => ?_)
              refine lv_bipush (v := (-11)) hx hb dX10_copy_48 (by decide) ?_
              exact tz_retI (B := B_cX10_copy_c7a33 D k h0 h4 h18 h19 h20 h21 h46 h47 h48 h49 h1 h2 h3 h5 h6 h7 h8 h9 h10 h11 h12 h13 x1 x2 x3 x4 x5 h0f2 h0f6 h0f8 h0f11 h18f0 h18f1 h19f0 h19f1 h20f0 h20f1 h21f0 h21f1) (v := (-11)) hQ hx hb hr hlocks hS (Nat.le_of_ble_eq_true rfl) (Nat.le_of_ble_eq_true rfl) dX10_copy_50 (⟨(by have := li_m11; omega), (hT.sub [0, 1, 2, 8, 3, 9, 4, 5, 6, 7] (by decide) rfl)⟩)
          · skip
            have hT := J _ hT1
            have hT : TP D A [(h0, ob 7 [.ref h1, .ref h2, .int h0f2, .ref h3, .ref h4, .ref h5, .int h0f6, .ref h6, .int h0f8, .ref h7, .ref h8, .int h0f11, .ref h9, .ref h10, .ref h11, .ref h12, .ref h13]), (h4, aQ (k 3) 4 (q4 h18 h19 h20 h21)), (h18, ob 5 [.int h18f0, .int h18f1, .ref h46]), (h20, ob 5 [.int h20f0, .int h20f1, .ref h48]), (h21, ob 5 [.int h21f0, .int h21f1, .ref h49]), (h46, aJ (k 1) 40 anJ), (h47, aJ (k 1) 40 anJ), (h48, aJ (k 1) 40 anJ), (h49, aJ (k 1) 40 anJ), (h19, ob 5 [.int h19f0, .int h19f1, .ref h47])] _ := hT
            refine lv_if_ne (tgt := 48) hx hb dX10_copy_37 (by decide) (fun _ => ?_) (fun cc => absurd cc (by decide +kernel))
            refine lv_bipush (v := (-11)) hx hb dX10_copy_48 (by decide) ?_
            exact tz_retI (B := B_cX10_copy_c7a33 D k h0 h4 h18 h19 h20 h21 h46 h47 h48 h49 h1 h2 h3 h5 h6 h7 h8 h9 h10 h11 h12 h13 x1 x2 x3 x4 x5 h0f2 h0f6 h0f8 h0f11 h18f0 h18f1 h19f0 h19f1 h20f0 h20f1 h21f0 h21f1) (v := (-11)) hQ hx hb hr hlocks hS (Nat.le_of_ble_eq_true rfl) (Nat.le_of_ble_eq_true rfl) dX10_copy_50 (⟨(by have := li_m11; omega), (hT.sub [0, 1, 2, 9, 3, 4, 5, 6, 7, 8] (by decide) rfl)⟩)
      · skip
        refine tz_aldq (b := h20) hx hb hK hT 1 rfl (vp_in_iff.mpr (by have := hq7; omega)) (fun f hf => by rw [cl_of hq7]; exact hf.2.2.1) dX10_copy_21 ?_
        refine lv_astore (lv' := [(6, .ref h20), (0, .ref h0), (1, .int x1), (2, .int x2), (3, .int x3), (4, .int x4), (5, .int x5)]) hx hb dX10_copy_22 hl (by decide) rfl (fun ls hl => ?_)
        refine lv_aload_n hx hb dX10_copy_24 rfl (lv_at hl 1 rfl) ?_
        refine tz_get (ci := 7) (v := .ref h4) (C := RX10) (F := TX10) (N := 17) hx hb hU iX10 hown hK hT 0 rfl rfl 4 (by decide) w253 (fun _ h9 => h9) rfl dX10_copy_25 ?_
        refine lv_iload_n hx hb dX10_copy_28 rfl (lv_at hl 4 rfl) ?_
        rcases (show x3.toInt = 0 ∨ x3.toInt = 1 ∨ x3.toInt = 2 ∨ x3.toInt = 3 by omega) with hq114 | hq114 | hq114 | hq114
        · skip
          refine tz_aldq (b := h18) hx hb hK hT 1 rfl (vp_in_iff.mpr (by have := hq114; omega)) (fun f hf => by rw [cl_of hq114]; exact hf.1) dX10_copy_29 ?_
          refine lv_astore (lv' := [(7, .ref h18), (6, .ref h20), (0, .ref h0), (1, .int x1), (2, .int x2), (3, .int x3), (4, .int x4), (5, .int x5)]) hx hb dX10_copy_30 hl (by decide) rfl (fun ls hl => ?_)
          refine lv_aload hx hb dX10_copy_32 (lv_at hl 1 rfl) ?_
          refine tcI (Tc := [(h20, ob 5 [.int h20f0, .int h20f1, .ref h48])]) (Tr := [(h0, ob 7 [.ref h1, .ref h2, .int h0f2, .ref h3, .ref h4, .ref h5, .int h0f6, .ref h6, .int h0f8, .ref h7, .ref h8, .int h0f11, .ref h9, .ref h10, .ref h11, .ref h12, .ref h13]), (h4, aQ (k 3) 4 (q4 h18 h19 h20 h21)), (h18, ob 5 [.int h18f0, .int h18f1, .ref h46]), (h19, ob 5 [.int h19f0, .int h19f1, .ref h47]), (h21, ob 5 [.int h21f0, .int h21f1, .ref h49]), (h46, aJ (k 1) 40 anJ), (h47, aJ (k 1) 40 anJ), (h48, aJ (k 1) 40 anJ), (h49, aJ (k 1) 40 anJ)]) (as := [h20]) (zcV (q0 := 4) (ci := 5) (As := []) (rest := []) (Tc := [(h20, ob 5 [.int h20f0, .int h20f1, .ref h48])]) hx hb hml hown hU hK hT rfl rfl [4] rfl (by decide) (cX6_isMissing_56a93 l D k _ h20 h48 h20f0 h20f1 (by omega) (by omega)) w644 w641 w642 w643 w71 hdX6_isMissing ⟨rfl, rfl⟩ ⟨Nat.le_of_ble_eq_true rfl, Nat.le_of_ble_eq_true rfl⟩ rfl hl.1 (Nat.le_of_ble_eq_true rfl) dX10_copy_34 ⟨Nat.le_of_ble_eq_true rfl, Nat.le_of_ble_eq_true rfl⟩) hT hS hA [4] [0, 1, 2, 3, 5, 6, 7, 8, 9] rfl rfl rfl (by decide) (by decide) (fun r115 H locs hB J hS => ?_)
          rcases hB with ⟨c_116, rfl, hT1⟩ | ⟨rfl, hT1⟩
          · skip
            have hT := J _ hT1
            have hT : TP D A [(h0, ob 7 [.ref h1, .ref h2, .int h0f2, .ref h3, .ref h4, .ref h5, .int h0f6, .ref h6, .int h0f8, .ref h7, .ref h8, .int h0f11, .ref h9, .ref h10, .ref h11, .ref h12, .ref h13]), (h4, aQ (k 3) 4 (q4 h18 h19 h20 h21)), (h18, ob 5 [.int h18f0, .int h18f1, .ref h46]), (h19, ob 5 [.int h19f0, .int h19f1, .ref h47]), (h21, ob 5 [.int h21f0, .int h21f1, .ref h49]), (h46, aJ (k 1) 40 anJ), (h47, aJ (k 1) 40 anJ), (h48, aJ (k 1) 40 anJ), (h49, aJ (k 1) 40 anJ), (h20, ob 5 [.int h20f0, .int h20f1, .ref h48])] _ := hT
            refine lv_if_ne (tgt := 48) hx hb dX10_copy_37 (by decide) (fun cc => absurd (by decide +kernel) cc) (fun _ => ?_)
            refine lv_aload hx hb dX10_copy_40 (lv_at hl 0 rfl) ?_
            refine tcI (Tc := [(h18, ob 5 [.int h18f0, .int h18f1, .ref h46])]) (Tr := [(h0, ob 7 [.ref h1, .ref h2, .int h0f2, .ref h3, .ref h4, .ref h5, .int h0f6, .ref h6, .int h0f8, .ref h7, .ref h8, .int h0f11, .ref h9, .ref h10, .ref h11, .ref h12, .ref h13]), (h4, aQ (k 3) 4 (q4 h18 h19 h20 h21)), (h19, ob 5 [.int h19f0, .int h19f1, .ref h47]), (h21, ob 5 [.int h21f0, .int h21f1, .ref h49]), (h46, aJ (k 1) 40 anJ), (h47, aJ (k 1) 40 anJ), (h48, aJ (k 1) 40 anJ), (h49, aJ (k 1) 40 anJ), (h20, ob 5 [.int h20f0, .int h20f1, .ref h48])]) (as := [h18]) (zcV (q0 := 2) (ci := 5) (As := []) (rest := []) (Tc := [(h18, ob 5 [.int h18f0, .int h18f1, .ref h46])]) hx hb hml hown hU hK hT rfl rfl [2] rfl (by decide) (cX6_isMissing_56a93 l D k _ h18 h46 h18f0 h18f1 (by omega) (by omega)) w644 w641 w642 w643 w71 hdX6_isMissing ⟨rfl, rfl⟩ ⟨Nat.le_of_ble_eq_true rfl, Nat.le_of_ble_eq_true rfl⟩ rfl hl.1 (Nat.le_of_ble_eq_true rfl) dX10_copy_42 ⟨Nat.le_of_ble_eq_true rfl, Nat.le_of_ble_eq_true rfl⟩) hT hS hA [2] [0, 1, 3, 4, 5, 6, 7, 8, 9] rfl rfl rfl (by decide) (by decide) (fun r117 H locs hB J hS => ?_)
            rcases hB with ⟨c_118, rfl, hT1⟩ | ⟨rfl, hT1⟩
            · skip
              have hT := J _ hT1
              have hT : TP D A [(h0, ob 7 [.ref h1, .ref h2, .int h0f2, .ref h3, .ref h4, .ref h5, .int h0f6, .ref h6, .int h0f8, .ref h7, .ref h8, .int h0f11, .ref h9, .ref h10, .ref h11, .ref h12, .ref h13]), (h4, aQ (k 3) 4 (q4 h18 h19 h20 h21)), (h19, ob 5 [.int h19f0, .int h19f1, .ref h47]), (h21, ob 5 [.int h21f0, .int h21f1, .ref h49]), (h46, aJ (k 1) 40 anJ), (h47, aJ (k 1) 40 anJ), (h48, aJ (k 1) 40 anJ), (h49, aJ (k 1) 40 anJ), (h20, ob 5 [.int h20f0, .int h20f1, .ref h48]), (h18, ob 5 [.int h18f0, .int h18f1, .ref h46])] _ := hT
              refine lv_if_eq (tgt := 51) hx hb dX10_copy_45 (by decide) (fun _ => ?_) (fun cc => absurd (by decide +kernel) cc)
              refine lv_aload hx hb dX10_copy_51 (lv_at hl 1 rfl) ?_
              refine tz_get (ci := 5) (v := .int h20f0) (C := RX6) (F := TX6) (N := 3) hx hb hU iX6 hown hK hT 8 rfl rfl 0 (by decide) w238 (fun _ h9 => h9) rfl dX10_copy_53 ?_
              refine lv_aload hx hb dX10_copy_56 (lv_at hl 0 rfl) ?_
              refine tz_get (ci := 5) (v := .int h18f0) (C := RX6) (F := TX6) (N := 3) hx hb hU iX6 hown hK hT 9 rfl rfl 0 (by decide) w238 (fun _ h9 => h9) rfl dX10_copy_58 ?_
              refine lv_icmp_eq (tgt := 67) hx hb dX10_copy_61 (by decide) (fun c_119 => ?_) (fun c_119 => ?_)
              · skip
                have c_119 := ni_eq c_119 rfl rfl
                refine lv_aload hx hb dX10_copy_67 (lv_at hl 1 rfl) ?_
                refine lv_iload_n hx hb dX10_copy_69 rfl (lv_at hl 4 rfl) ?_
                refine lv_iload hx hb dX10_copy_70 (lv_at hl 7 rfl) ?_
                refine tcI (Tc := [(h20, ob 5 [.int h20f0, .int h20f1, .ref h48])]) (Tr := [(h0, ob 7 [.ref h1, .ref h2, .int h0f2, .ref h3, .ref h4, .ref h5, .int h0f6, .ref h6, .int h0f8, .ref h7, .ref h8, .int h0f11, .ref h9, .ref h10, .ref h11, .ref h12, .ref h13]), (h4, aQ (k 3) 4 (q4 h18 h19 h20 h21)), (h19, ob 5 [.int h19f0, .int h19f1, .ref h47]), (h21, ob 5 [.int h21f0, .int h21f1, .ref h49]), (h46, aJ (k 1) 40 anJ), (h47, aJ (k 1) 40 anJ), (h48, aJ (k 1) 40 anJ), (h49, aJ (k 1) 40 anJ), (h18, ob 5 [.int h18f0, .int h18f1, .ref h46])]) (as := [h20]) (zcV (q0 := 8) (ci := 5) (As := [.int x2, .int x5]) (rest := []) (Tc := [(h20, ob 5 [.int h20f0, .int h20f1, .ref h48])]) hx hb hml hown hU hK hT rfl rfl [8] rfl (by decide) (cX6_isOutside_cc85b l D k _ h20 h48 x2 x5 h20f0 h20f1 (by omega) (by omega)) w648 w645 w646 w647 w71 hdX6_isOutside ⟨rfl, rfl⟩ ⟨Nat.le_of_ble_eq_true rfl, Nat.le_of_ble_eq_true rfl⟩ rfl hl.1 (Nat.le_of_ble_eq_true rfl) dX10_copy_72 ⟨Nat.le_of_ble_eq_true rfl, Nat.le_of_ble_eq_true rfl⟩) hT hS hA [8] [0, 1, 2, 3, 4, 5, 6, 7, 9] rfl rfl rfl (by decide) (by decide) (fun r120 H locs hB J hS => ?_)
                rcases hB with ⟨rfl, hT1⟩ | ⟨c_121, c_122, c_123, rfl, hT1⟩
                · skip
                  have hT := J _ hT1
                  have hT : TP D A [(h0, ob 7 [.ref h1, .ref h2, .int h0f2, .ref h3, .ref h4, .ref h5, .int h0f6, .ref h6, .int h0f8, .ref h7, .ref h8, .int h0f11, .ref h9, .ref h10, .ref h11, .ref h12, .ref h13]), (h4, aQ (k 3) 4 (q4 h18 h19 h20 h21)), (h19, ob 5 [.int h19f0, .int h19f1, .ref h47]), (h21, ob 5 [.int h21f0, .int h21f1, .ref h49]), (h46, aJ (k 1) 40 anJ), (h47, aJ (k 1) 40 anJ), (h48, aJ (k 1) 40 anJ), (h49, aJ (k 1) 40 anJ), (h18, ob 5 [.int h18f0, .int h18f1, .ref h46]), (h20, ob 5 [.int h20f0, .int h20f1, .ref h48])] _ := hT
                  refine lv_if_ne (tgt := 90) hx hb dX10_copy_75 (by decide) (fun _ => ?_) (fun cc => absurd cc (by decide +kernel))
                  refine lv_bipush (v := (-12)) hx hb dX10_copy_90 (by decide) ?_
                  exact tz_retI (B := B_cX10_copy_c7a33 D k h0 h4 h18 h19 h20 h21 h46 h47 h48 h49 h1 h2 h3 h5 h6 h7 h8 h9 h10 h11 h12 h13 x1 x2 x3 x4 x5 h0f2 h0f6 h0f8 h0f11 h18f0 h18f1 h19f0 h19f1 h20f0 h20f1 h21f0 h21f1) (v := (-12)) hQ hx hb hr hlocks hS (Nat.le_of_ble_eq_true rfl) (Nat.le_of_ble_eq_true rfl) dX10_copy_92 (⟨(by have := li_m12; omega), (hT.sub [0, 1, 8, 2, 9, 3, 4, 5, 6, 7] (by decide) rfl)⟩)
                · skip
                  have hT := J _ hT1
                  have hT : TP D A [(h0, ob 7 [.ref h1, .ref h2, .int h0f2, .ref h3, .ref h4, .ref h5, .int h0f6, .ref h6, .int h0f8, .ref h7, .ref h8, .int h0f11, .ref h9, .ref h10, .ref h11, .ref h12, .ref h13]), (h4, aQ (k 3) 4 (q4 h18 h19 h20 h21)), (h19, ob 5 [.int h19f0, .int h19f1, .ref h47]), (h21, ob 5 [.int h21f0, .int h21f1, .ref h49]), (h46, aJ (k 1) 40 anJ), (h47, aJ (k 1) 40 anJ), (h48, aJ (k 1) 40 anJ), (h49, aJ (k 1) 40 anJ), (h18, ob 5 [.int h18f0, .int h18f1, .ref h46]), (h20, ob 5 [.int h20f0, .int h20f1, .ref h48])] _ := hT
                  refine lv_if_ne (tgt := 90) hx hb dX10_copy_75 (by decide) (fun cc => absurd (by decide +kernel) cc) (fun _ => ?_)
                  refine lv_aload hx hb dX10_copy_78 (lv_at hl 0 rfl) ?_
                  refine lv_iload hx hb dX10_copy_80 (lv_at hl 6 rfl) ?_
                  refine lv_iload hx hb dX10_copy_82 (lv_at hl 7 rfl) ?_
                  refine tcI (Tc := [(h18, ob 5 [.int h18f0, .int h18f1, .ref h46])]) (Tr := [(h0, ob 7 [.ref h1, .ref h2, .int h0f2, .ref h3, .ref h4, .ref h5, .int h0f6, .ref h6, .int h0f8, .ref h7, .ref h8, .int h0f11, .ref h9, .ref h10, .ref h11, .ref h12, .ref h13]), (h4, aQ (k 3) 4 (q4 h18 h19 h20 h21)), (h19, ob 5 [.int h19f0, .int h19f1, .ref h47]), (h21, ob 5 [.int h21f0, .int h21f1, .ref h49]), (h46, aJ (k 1) 40 anJ), (h47, aJ (k 1) 40 anJ), (h48, aJ (k 1) 40 anJ), (h49, aJ (k 1) 40 anJ), (h20, ob 5 [.int h20f0, .int h20f1, .ref h48])]) (as := [h18]) (zcV (q0 := 8) (ci := 5) (As := [.int x4, .int x5]) (rest := []) (Tc := [(h18, ob 5 [.int h18f0, .int h18f1, .ref h46])]) hx hb hml hown hU hK hT rfl rfl [8] rfl (by decide) (cX6_isOutside_cc85b l D k _ h18 h46 x4 x5 h18f0 h18f1 (by omega) (by omega)) w648 w645 w646 w647 w71 hdX6_isOutside ⟨rfl, rfl⟩ ⟨Nat.le_of_ble_eq_true rfl, Nat.le_of_ble_eq_true rfl⟩ rfl hl.1 (Nat.le_of_ble_eq_true rfl) dX10_copy_84 ⟨Nat.le_of_ble_eq_true rfl, Nat.le_of_ble_eq_true rfl⟩) hT hS hA [8] [0, 1, 2, 3, 4, 5, 6, 7, 9] rfl rfl rfl (by decide) (by decide) (fun r124 H locs hB J hS => ?_)
                  rcases hB with ⟨rfl, hT1⟩ | ⟨c_125, c_126, c_127, rfl, hT1⟩
                  · skip
                    have hT := J _ hT1
                    have hT : TP D A [(h0, ob 7 [.ref h1, .ref h2, .int h0f2, .ref h3, .ref h4, .ref h5, .int h0f6, .ref h6, .int h0f8, .ref h7, .ref h8, .int h0f11, .ref h9, .ref h10, .ref h11, .ref h12, .ref h13]), (h4, aQ (k 3) 4 (q4 h18 h19 h20 h21)), (h19, ob 5 [.int h19f0, .int h19f1, .ref h47]), (h21, ob 5 [.int h21f0, .int h21f1, .ref h49]), (h46, aJ (k 1) 40 anJ), (h47, aJ (k 1) 40 anJ), (h48, aJ (k 1) 40 anJ), (h49, aJ (k 1) 40 anJ), (h20, ob 5 [.int h20f0, .int h20f1, .ref h48]), (h18, ob 5 [.int h18f0, .int h18f1, .ref h46])] _ := hT
                    refine lv_if_eq (tgt := 93) hx hb dX10_copy_87 (by decide) (fun cc => absurd cc (by decide +kernel)) (fun _ => ?_)
                    refine lv_bipush (v := (-12)) hx hb dX10_copy_90 (by decide) ?_
                    exact tz_retI (B := B_cX10_copy_c7a33 D k h0 h4 h18 h19 h20 h21 h46 h47 h48 h49 h1 h2 h3 h5 h6 h7 h8 h9 h10 h11 h12 h13 x1 x2 x3 x4 x5 h0f2 h0f6 h0f8 h0f11 h18f0 h18f1 h19f0 h19f1 h20f0 h20f1 h21f0 h21f1) (v := (-12)) hQ hx hb hr hlocks hS (Nat.le_of_ble_eq_true rfl) (Nat.le_of_ble_eq_true rfl) dX10_copy_92 (⟨(by have := li_m12; omega), (hT.sub [0, 1, 9, 2, 8, 3, 4, 5, 6, 7] (by decide) rfl)⟩)
                  · skip
                    have hT := J _ hT1
                    have hT : TP D A [(h0, ob 7 [.ref h1, .ref h2, .int h0f2, .ref h3, .ref h4, .ref h5, .int h0f6, .ref h6, .int h0f8, .ref h7, .ref h8, .int h0f11, .ref h9, .ref h10, .ref h11, .ref h12, .ref h13]), (h4, aQ (k 3) 4 (q4 h18 h19 h20 h21)), (h19, ob 5 [.int h19f0, .int h19f1, .ref h47]), (h21, ob 5 [.int h21f0, .int h21f1, .ref h49]), (h46, aJ (k 1) 40 anJ), (h47, aJ (k 1) 40 anJ), (h48, aJ (k 1) 40 anJ), (h49, aJ (k 1) 40 anJ), (h20, ob 5 [.int h20f0, .int h20f1, .ref h48]), (h18, ob 5 [.int h18f0, .int h18f1, .ref h46])] _ := hT
                    refine lv_if_eq (tgt := 93) hx hb dX10_copy_87 (by decide) (fun _ => ?_) (fun cc => absurd (by decide +kernel) cc)
                    refine lv_aload hx hb dX10_copy_93 (lv_at hl 1 rfl) ?_
                    refine tz_get (ci := 5) (v := .ref h48) (C := RX6) (F := TX6) (N := 3) hx hb hU iX6 hown hK hT 8 rfl rfl 2 (by decide) w241 (fun _ h9 => h9) rfl dX10_copy_95 ?_
                    refine lv_iload_n hx hb dX10_copy_98 rfl (lv_at hl 4 rfl) ?_
                    refine lv_aload hx hb dX10_copy_99 (lv_at hl 0 rfl) ?_
                    refine tz_get (ci := 5) (v := .ref h46) (C := RX6) (F := TX6) (N := 3) hx hb hU iX6 hown hK hT 9 rfl rfl 2 (by decide) w241 (fun _ h9 => h9) rfl dX10_copy_101 ?_
                    refine lv_iload hx hb dX10_copy_104 (lv_at hl 6 rfl) ?_
                    refine lv_iload hx hb dX10_copy_106 (lv_at hl 7 rfl) ?_
                    refine tz_copyl hx hb (by rw [hml]; exact hl.1.symm) hown hU w410 w348 w347 w75 hK hT hS 6 4 rfl rfl (by omega) (fun _ _ _ _ => trivial) (Nat.le_of_ble_eq_true rfl) (Nat.le_of_ble_eq_true rfl) dX10_copy_108 (fun H locs hT hS => ?_)
                    refine lv_iload hx hb dX10_copy_111 (lv_at hl 7 rfl) ?_
                    exact tz_retI (B := B_cX10_copy_c7a33 D k h0 h4 h18 h19 h20 h21 h46 h47 h48 h49 h1 h2 h3 h5 h6 h7 h8 h9 h10 h11 h12 h13 x1 x2 x3 x4 x5 h0f2 h0f6 h0f8 h0f11 h18f0 h18f1 h19f0 h19f1 h20f0 h20f1 h21f0 h21f1) (v := x5) hQ hx hb hr hlocks hS (Nat.le_of_ble_eq_true rfl) (Nat.le_of_ble_eq_true rfl) dX10_copy_113 (⟨(by omega), (hT.sub [0, 1, 9, 2, 8, 3, 4, 5, 6, 7] (by decide) rfl)⟩)
              · skip
                have c_119 := ni_ne c_119 rfl rfl
                refine lv_bipush (v := (-13)) hx hb dX10_copy_64 (by decide) ?_
                exact tz_retI (B := B_cX10_copy_c7a33 D k h0 h4 h18 h19 h20 h21 h46 h47 h48 h49 h1 h2 h3 h5 h6 h7 h8 h9 h10 h11 h12 h13 x1 x2 x3 x4 x5 h0f2 h0f6 h0f8 h0f11 h18f0 h18f1 h19f0 h19f1 h20f0 h20f1 h21f0 h21f1) (v := (-13)) hQ hx hb hr hlocks hS (Nat.le_of_ble_eq_true rfl) (Nat.le_of_ble_eq_true rfl) dX10_copy_66 (⟨(by have := li_m13; omega), (hT.sub [0, 1, 9, 2, 8, 3, 4, 5, 6, 7] (by decide) rfl)⟩)
            · skip
              have hT := J _ hT1
              have hT : TP D A [(h0, ob 7 [.ref h1, .ref h2, .int h0f2, .ref h3, .ref h4, .ref h5, .int h0f6, .ref h6, .int h0f8, .ref h7, .ref h8, .int h0f11, .ref h9, .ref h10, .ref h11, .ref h12, .ref h13]), (h4, aQ (k 3) 4 (q4 h18 h19 h20 h21)), (h19, ob 5 [.int h19f0, .int h19f1, .ref h47]), (h21, ob 5 [.int h21f0, .int h21f1, .ref h49]), (h46, aJ (k 1) 40 anJ), (h47, aJ (k 1) 40 anJ), (h48, aJ (k 1) 40 anJ), (h49, aJ (k 1) 40 anJ), (h20, ob 5 [.int h20f0, .int h20f1, .ref h48]), (h18, ob 5 [.int h18f0, .int h18f1, .ref h46])] _ := hT
              refine lv_if_eq (tgt := 51) hx hb dX10_copy_45 (by decide) (fun cc => absurd cc (by decide +kernel)) (fun _ => ?_)
              refine lv_bipush (v := (-11)) hx hb dX10_copy_48 (by decide) ?_
              exact tz_retI (B := B_cX10_copy_c7a33 D k h0 h4 h18 h19 h20 h21 h46 h47 h48 h49 h1 h2 h3 h5 h6 h7 h8 h9 h10 h11 h12 h13 x1 x2 x3 x4 x5 h0f2 h0f6 h0f8 h0f11 h18f0 h18f1 h19f0 h19f1 h20f0 h20f1 h21f0 h21f1) (v := (-11)) hQ hx hb hr hlocks hS (Nat.le_of_ble_eq_true rfl) (Nat.le_of_ble_eq_true rfl) dX10_copy_50 (⟨(by have := li_m11; omega), (hT.sub [0, 1, 9, 2, 8, 3, 4, 5, 6, 7] (by decide) rfl)⟩)
          · skip
            have hT := J _ hT1
            have hT : TP D A [(h0, ob 7 [.ref h1, .ref h2, .int h0f2, .ref h3, .ref h4, .ref h5, .int h0f6, .ref h6, .int h0f8, .ref h7, .ref h8, .int h0f11, .ref h9, .ref h10, .ref h11, .ref h12, .ref h13]), (h4, aQ (k 3) 4 (q4 h18 h19 h20 h21)), (h18, ob 5 [.int h18f0, .int h18f1, .ref h46]), (h19, ob 5 [.int h19f0, .int h19f1, .ref h47]), (h21, ob 5 [.int h21f0, .int h21f1, .ref h49]), (h46, aJ (k 1) 40 anJ), (h47, aJ (k 1) 40 anJ), (h48, aJ (k 1) 40 anJ), (h49, aJ (k 1) 40 anJ), (h20, ob 5 [.int h20f0, .int h20f1, .ref h48])] _ := hT
            refine lv_if_ne (tgt := 48) hx hb dX10_copy_37 (by decide) (fun _ => ?_) (fun cc => absurd cc (by decide +kernel))
            refine lv_bipush (v := (-11)) hx hb dX10_copy_48 (by decide) ?_
            exact tz_retI (B := B_cX10_copy_c7a33 D k h0 h4 h18 h19 h20 h21 h46 h47 h48 h49 h1 h2 h3 h5 h6 h7 h8 h9 h10 h11 h12 h13 x1 x2 x3 x4 x5 h0f2 h0f6 h0f8 h0f11 h18f0 h18f1 h19f0 h19f1 h20f0 h20f1 h21f0 h21f1) (v := (-11)) hQ hx hb hr hlocks hS (Nat.le_of_ble_eq_true rfl) (Nat.le_of_ble_eq_true rfl) dX10_copy_50 (⟨(by have := li_m11; omega), (hT.sub [0, 1, 2, 3, 9, 4, 5, 6, 7, 8] (by decide) rfl)⟩)
        · skip
          refine tz_aldq (b := h19) hx hb hK hT 1 rfl (vp_in_iff.mpr (by have := hq114; omega)) (fun f hf => by rw [cl_of hq114]; exact hf.2.1) dX10_copy_29 ?_
          refine lv_astore (lv' := [(7, .ref h19), (6, .ref h20), (0, .ref h0), (1, .int x1), (2, .int x2), (3, .int x3), (4, .int x4), (5, .int x5)]) hx hb dX10_copy_30 hl (by decide) rfl (fun ls hl => ?_)
          refine lv_aload hx hb dX10_copy_32 (lv_at hl 1 rfl) ?_
          refine tcI (Tc := [(h20, ob 5 [.int h20f0, .int h20f1, .ref h48])]) (Tr := [(h0, ob 7 [.ref h1, .ref h2, .int h0f2, .ref h3, .ref h4, .ref h5, .int h0f6, .ref h6, .int h0f8, .ref h7, .ref h8, .int h0f11, .ref h9, .ref h10, .ref h11, .ref h12, .ref h13]), (h4, aQ (k 3) 4 (q4 h18 h19 h20 h21)), (h18, ob 5 [.int h18f0, .int h18f1, .ref h46]), (h19, ob 5 [.int h19f0, .int h19f1, .ref h47]), (h21, ob 5 [.int h21f0, .int h21f1, .ref h49]), (h46, aJ (k 1) 40 anJ), (h47, aJ (k 1) 40 anJ), (h48, aJ (k 1) 40 anJ), (h49, aJ (k 1) 40 anJ)]) (as := [h20]) (zcV (q0 := 4) (ci := 5) (As := []) (rest := []) (Tc := [(h20, ob 5 [.int h20f0, .int h20f1, .ref h48])]) hx hb hml hown hU hK hT rfl rfl [4] rfl (by decide) (cX6_isMissing_56a93 l D k _ h20 h48 h20f0 h20f1 (by omega) (by omega)) w644 w641 w642 w643 w71 hdX6_isMissing ⟨rfl, rfl⟩ ⟨Nat.le_of_ble_eq_true rfl, Nat.le_of_ble_eq_true rfl⟩ rfl hl.1 (Nat.le_of_ble_eq_true rfl) dX10_copy_34 ⟨Nat.le_of_ble_eq_true rfl, Nat.le_of_ble_eq_true rfl⟩) hT hS hA [4] [0, 1, 2, 3, 5, 6, 7, 8, 9] rfl rfl rfl (by decide) (by decide) (fun r128 H locs hB J hS => ?_)
          rcases hB with ⟨c_129, rfl, hT1⟩ | ⟨rfl, hT1⟩
          · skip
            have hT := J _ hT1
            have hT : TP D A [(h0, ob 7 [.ref h1, .ref h2, .int h0f2, .ref h3, .ref h4, .ref h5, .int h0f6, .ref h6, .int h0f8, .ref h7, .ref h8, .int h0f11, .ref h9, .ref h10, .ref h11, .ref h12, .ref h13]), (h4, aQ (k 3) 4 (q4 h18 h19 h20 h21)), (h18, ob 5 [.int h18f0, .int h18f1, .ref h46]), (h19, ob 5 [.int h19f0, .int h19f1, .ref h47]), (h21, ob 5 [.int h21f0, .int h21f1, .ref h49]), (h46, aJ (k 1) 40 anJ), (h47, aJ (k 1) 40 anJ), (h48, aJ (k 1) 40 anJ), (h49, aJ (k 1) 40 anJ), (h20, ob 5 [.int h20f0, .int h20f1, .ref h48])] _ := hT
            refine lv_if_ne (tgt := 48) hx hb dX10_copy_37 (by decide) (fun cc => absurd (by decide +kernel) cc) (fun _ => ?_)
            refine lv_aload hx hb dX10_copy_40 (lv_at hl 0 rfl) ?_
            refine tcI (Tc := [(h19, ob 5 [.int h19f0, .int h19f1, .ref h47])]) (Tr := [(h0, ob 7 [.ref h1, .ref h2, .int h0f2, .ref h3, .ref h4, .ref h5, .int h0f6, .ref h6, .int h0f8, .ref h7, .ref h8, .int h0f11, .ref h9, .ref h10, .ref h11, .ref h12, .ref h13]), (h4, aQ (k 3) 4 (q4 h18 h19 h20 h21)), (h18, ob 5 [.int h18f0, .int h18f1, .ref h46]), (h21, ob 5 [.int h21f0, .int h21f1, .ref h49]), (h46, aJ (k 1) 40 anJ), (h47, aJ (k 1) 40 anJ), (h48, aJ (k 1) 40 anJ), (h49, aJ (k 1) 40 anJ), (h20, ob 5 [.int h20f0, .int h20f1, .ref h48])]) (as := [h19]) (zcV (q0 := 3) (ci := 5) (As := []) (rest := []) (Tc := [(h19, ob 5 [.int h19f0, .int h19f1, .ref h47])]) hx hb hml hown hU hK hT rfl rfl [3] rfl (by decide) (cX6_isMissing_56a93 l D k _ h19 h47 h19f0 h19f1 (by omega) (by omega)) w644 w641 w642 w643 w71 hdX6_isMissing ⟨rfl, rfl⟩ ⟨Nat.le_of_ble_eq_true rfl, Nat.le_of_ble_eq_true rfl⟩ rfl hl.1 (Nat.le_of_ble_eq_true rfl) dX10_copy_42 ⟨Nat.le_of_ble_eq_true rfl, Nat.le_of_ble_eq_true rfl⟩) hT hS hA [3] [0, 1, 2, 4, 5, 6, 7, 8, 9] rfl rfl rfl (by decide) (by decide) (fun r130 H locs hB J hS => ?_)
            rcases hB with ⟨c_131, rfl, hT1⟩ | ⟨rfl, hT1⟩
            · skip
              have hT := J _ hT1
              have hT : TP D A [(h0, ob 7 [.ref h1, .ref h2, .int h0f2, .ref h3, .ref h4, .ref h5, .int h0f6, .ref h6, .int h0f8, .ref h7, .ref h8, .int h0f11, .ref h9, .ref h10, .ref h11, .ref h12, .ref h13]), (h4, aQ (k 3) 4 (q4 h18 h19 h20 h21)), (h18, ob 5 [.int h18f0, .int h18f1, .ref h46]), (h21, ob 5 [.int h21f0, .int h21f1, .ref h49]), (h46, aJ (k 1) 40 anJ), (h47, aJ (k 1) 40 anJ), (h48, aJ (k 1) 40 anJ), (h49, aJ (k 1) 40 anJ), (h20, ob 5 [.int h20f0, .int h20f1, .ref h48]), (h19, ob 5 [.int h19f0, .int h19f1, .ref h47])] _ := hT
              refine lv_if_eq (tgt := 51) hx hb dX10_copy_45 (by decide) (fun _ => ?_) (fun cc => absurd (by decide +kernel) cc)
              refine lv_aload hx hb dX10_copy_51 (lv_at hl 1 rfl) ?_
              refine tz_get (ci := 5) (v := .int h20f0) (C := RX6) (F := TX6) (N := 3) hx hb hU iX6 hown hK hT 8 rfl rfl 0 (by decide) w238 (fun _ h9 => h9) rfl dX10_copy_53 ?_
              refine lv_aload hx hb dX10_copy_56 (lv_at hl 0 rfl) ?_
              refine tz_get (ci := 5) (v := .int h19f0) (C := RX6) (F := TX6) (N := 3) hx hb hU iX6 hown hK hT 9 rfl rfl 0 (by decide) w238 (fun _ h9 => h9) rfl dX10_copy_58 ?_
              refine lv_icmp_eq (tgt := 67) hx hb dX10_copy_61 (by decide) (fun c_132 => ?_) (fun c_132 => ?_)
              · skip
                have c_132 := ni_eq c_132 rfl rfl
                refine lv_aload hx hb dX10_copy_67 (lv_at hl 1 rfl) ?_
                refine lv_iload_n hx hb dX10_copy_69 rfl (lv_at hl 4 rfl) ?_
                refine lv_iload hx hb dX10_copy_70 (lv_at hl 7 rfl) ?_
                refine tcI (Tc := [(h20, ob 5 [.int h20f0, .int h20f1, .ref h48])]) (Tr := [(h0, ob 7 [.ref h1, .ref h2, .int h0f2, .ref h3, .ref h4, .ref h5, .int h0f6, .ref h6, .int h0f8, .ref h7, .ref h8, .int h0f11, .ref h9, .ref h10, .ref h11, .ref h12, .ref h13]), (h4, aQ (k 3) 4 (q4 h18 h19 h20 h21)), (h18, ob 5 [.int h18f0, .int h18f1, .ref h46]), (h21, ob 5 [.int h21f0, .int h21f1, .ref h49]), (h46, aJ (k 1) 40 anJ), (h47, aJ (k 1) 40 anJ), (h48, aJ (k 1) 40 anJ), (h49, aJ (k 1) 40 anJ), (h19, ob 5 [.int h19f0, .int h19f1, .ref h47])]) (as := [h20]) (zcV (q0 := 8) (ci := 5) (As := [.int x2, .int x5]) (rest := []) (Tc := [(h20, ob 5 [.int h20f0, .int h20f1, .ref h48])]) hx hb hml hown hU hK hT rfl rfl [8] rfl (by decide) (cX6_isOutside_cc85b l D k _ h20 h48 x2 x5 h20f0 h20f1 (by omega) (by omega)) w648 w645 w646 w647 w71 hdX6_isOutside ⟨rfl, rfl⟩ ⟨Nat.le_of_ble_eq_true rfl, Nat.le_of_ble_eq_true rfl⟩ rfl hl.1 (Nat.le_of_ble_eq_true rfl) dX10_copy_72 ⟨Nat.le_of_ble_eq_true rfl, Nat.le_of_ble_eq_true rfl⟩) hT hS hA [8] [0, 1, 2, 3, 4, 5, 6, 7, 9] rfl rfl rfl (by decide) (by decide) (fun r133 H locs hB J hS => ?_)
                rcases hB with ⟨rfl, hT1⟩ | ⟨c_134, c_135, c_136, rfl, hT1⟩
                · skip
                  have hT := J _ hT1
                  have hT : TP D A [(h0, ob 7 [.ref h1, .ref h2, .int h0f2, .ref h3, .ref h4, .ref h5, .int h0f6, .ref h6, .int h0f8, .ref h7, .ref h8, .int h0f11, .ref h9, .ref h10, .ref h11, .ref h12, .ref h13]), (h4, aQ (k 3) 4 (q4 h18 h19 h20 h21)), (h18, ob 5 [.int h18f0, .int h18f1, .ref h46]), (h21, ob 5 [.int h21f0, .int h21f1, .ref h49]), (h46, aJ (k 1) 40 anJ), (h47, aJ (k 1) 40 anJ), (h48, aJ (k 1) 40 anJ), (h49, aJ (k 1) 40 anJ), (h19, ob 5 [.int h19f0, .int h19f1, .ref h47]), (h20, ob 5 [.int h20f0, .int h20f1, .ref h48])] _ := hT
                  refine lv_if_ne (tgt := 90) hx hb dX10_copy_75 (by decide) (fun _ => ?_) (fun cc => absurd cc (by decide +kernel))
                  refine lv_bipush (v := (-12)) hx hb dX10_copy_90 (by decide) ?_
                  exact tz_retI (B := B_cX10_copy_c7a33 D k h0 h4 h18 h19 h20 h21 h46 h47 h48 h49 h1 h2 h3 h5 h6 h7 h8 h9 h10 h11 h12 h13 x1 x2 x3 x4 x5 h0f2 h0f6 h0f8 h0f11 h18f0 h18f1 h19f0 h19f1 h20f0 h20f1 h21f0 h21f1) (v := (-12)) hQ hx hb hr hlocks hS (Nat.le_of_ble_eq_true rfl) (Nat.le_of_ble_eq_true rfl) dX10_copy_92 (⟨(by have := li_m12; omega), (hT.sub [0, 1, 2, 8, 9, 3, 4, 5, 6, 7] (by decide) rfl)⟩)
                · skip
                  have hT := J _ hT1
                  have hT : TP D A [(h0, ob 7 [.ref h1, .ref h2, .int h0f2, .ref h3, .ref h4, .ref h5, .int h0f6, .ref h6, .int h0f8, .ref h7, .ref h8, .int h0f11, .ref h9, .ref h10, .ref h11, .ref h12, .ref h13]), (h4, aQ (k 3) 4 (q4 h18 h19 h20 h21)), (h18, ob 5 [.int h18f0, .int h18f1, .ref h46]), (h21, ob 5 [.int h21f0, .int h21f1, .ref h49]), (h46, aJ (k 1) 40 anJ), (h47, aJ (k 1) 40 anJ), (h48, aJ (k 1) 40 anJ), (h49, aJ (k 1) 40 anJ), (h19, ob 5 [.int h19f0, .int h19f1, .ref h47]), (h20, ob 5 [.int h20f0, .int h20f1, .ref h48])] _ := hT
                  refine lv_if_ne (tgt := 90) hx hb dX10_copy_75 (by decide) (fun cc => absurd (by decide +kernel) cc) (fun _ => ?_)
                  refine lv_aload hx hb dX10_copy_78 (lv_at hl 0 rfl) ?_
                  refine lv_iload hx hb dX10_copy_80 (lv_at hl 6 rfl) ?_
                  refine lv_iload hx hb dX10_copy_82 (lv_at hl 7 rfl) ?_
                  refine tcI (Tc := [(h19, ob 5 [.int h19f0, .int h19f1, .ref h47])]) (Tr := [(h0, ob 7 [.ref h1, .ref h2, .int h0f2, .ref h3, .ref h4, .ref h5, .int h0f6, .ref h6, .int h0f8, .ref h7, .ref h8, .int h0f11, .ref h9, .ref h10, .ref h11, .ref h12, .ref h13]), (h4, aQ (k 3) 4 (q4 h18 h19 h20 h21)), (h18, ob 5 [.int h18f0, .int h18f1, .ref h46]), (h21, ob 5 [.int h21f0, .int h21f1, .ref h49]), (h46, aJ (k 1) 40 anJ), (h47, aJ (k 1) 40 anJ), (h48, aJ (k 1) 40 anJ), (h49, aJ (k 1) 40 anJ), (h20, ob 5 [.int h20f0, .int h20f1, .ref h48])]) (as := [h19]) (zcV (q0 := 8) (ci := 5) (As := [.int x4, .int x5]) (rest := []) (Tc := [(h19, ob 5 [.int h19f0, .int h19f1, .ref h47])]) hx hb hml hown hU hK hT rfl rfl [8] rfl (by decide) (cX6_isOutside_cc85b l D k _ h19 h47 x4 x5 h19f0 h19f1 (by omega) (by omega)) w648 w645 w646 w647 w71 hdX6_isOutside ⟨rfl, rfl⟩ ⟨Nat.le_of_ble_eq_true rfl, Nat.le_of_ble_eq_true rfl⟩ rfl hl.1 (Nat.le_of_ble_eq_true rfl) dX10_copy_84 ⟨Nat.le_of_ble_eq_true rfl, Nat.le_of_ble_eq_true rfl⟩) hT hS hA [8] [0, 1, 2, 3, 4, 5, 6, 7, 9] rfl rfl rfl (by decide) (by decide) (fun r137 H locs hB J hS => ?_)
                  rcases hB with ⟨rfl, hT1⟩ | ⟨c_138, c_139, c_140, rfl, hT1⟩
                  · skip
                    have hT := J _ hT1
                    have hT : TP D A [(h0, ob 7 [.ref h1, .ref h2, .int h0f2, .ref h3, .ref h4, .ref h5, .int h0f6, .ref h6, .int h0f8, .ref h7, .ref h8, .int h0f11, .ref h9, .ref h10, .ref h11, .ref h12, .ref h13]), (h4, aQ (k 3) 4 (q4 h18 h19 h20 h21)), (h18, ob 5 [.int h18f0, .int h18f1, .ref h46]), (h21, ob 5 [.int h21f0, .int h21f1, .ref h49]), (h46, aJ (k 1) 40 anJ), (h47, aJ (k 1) 40 anJ), (h48, aJ (k 1) 40 anJ), (h49, aJ (k 1) 40 anJ), (h20, ob 5 [.int h20f0, .int h20f1, .ref h48]), (h19, ob 5 [.int h19f0, .int h19f1, .ref h47])] _ := hT
                    refine lv_if_eq (tgt := 93) hx hb dX10_copy_87 (by decide) (fun cc => absurd cc (by decide +kernel)) (fun _ => ?_)
                    refine lv_bipush (v := (-12)) hx hb dX10_copy_90 (by decide) ?_
                    exact tz_retI (B := B_cX10_copy_c7a33 D k h0 h4 h18 h19 h20 h21 h46 h47 h48 h49 h1 h2 h3 h5 h6 h7 h8 h9 h10 h11 h12 h13 x1 x2 x3 x4 x5 h0f2 h0f6 h0f8 h0f11 h18f0 h18f1 h19f0 h19f1 h20f0 h20f1 h21f0 h21f1) (v := (-12)) hQ hx hb hr hlocks hS (Nat.le_of_ble_eq_true rfl) (Nat.le_of_ble_eq_true rfl) dX10_copy_92 (⟨(by have := li_m12; omega), (hT.sub [0, 1, 2, 9, 8, 3, 4, 5, 6, 7] (by decide) rfl)⟩)
                  · skip
                    have hT := J _ hT1
                    have hT : TP D A [(h0, ob 7 [.ref h1, .ref h2, .int h0f2, .ref h3, .ref h4, .ref h5, .int h0f6, .ref h6, .int h0f8, .ref h7, .ref h8, .int h0f11, .ref h9, .ref h10, .ref h11, .ref h12, .ref h13]), (h4, aQ (k 3) 4 (q4 h18 h19 h20 h21)), (h18, ob 5 [.int h18f0, .int h18f1, .ref h46]), (h21, ob 5 [.int h21f0, .int h21f1, .ref h49]), (h46, aJ (k 1) 40 anJ), (h47, aJ (k 1) 40 anJ), (h48, aJ (k 1) 40 anJ), (h49, aJ (k 1) 40 anJ), (h20, ob 5 [.int h20f0, .int h20f1, .ref h48]), (h19, ob 5 [.int h19f0, .int h19f1, .ref h47])] _ := hT
                    refine lv_if_eq (tgt := 93) hx hb dX10_copy_87 (by decide) (fun _ => ?_) (fun cc => absurd (by decide +kernel) cc)
                    refine lv_aload hx hb dX10_copy_93 (lv_at hl 1 rfl) ?_
                    refine tz_get (ci := 5) (v := .ref h48) (C := RX6) (F := TX6) (N := 3) hx hb hU iX6 hown hK hT 8 rfl rfl 2 (by decide) w241 (fun _ h9 => h9) rfl dX10_copy_95 ?_
                    refine lv_iload_n hx hb dX10_copy_98 rfl (lv_at hl 4 rfl) ?_
                    refine lv_aload hx hb dX10_copy_99 (lv_at hl 0 rfl) ?_
                    refine tz_get (ci := 5) (v := .ref h47) (C := RX6) (F := TX6) (N := 3) hx hb hU iX6 hown hK hT 9 rfl rfl 2 (by decide) w241 (fun _ h9 => h9) rfl dX10_copy_101 ?_
                    refine lv_iload hx hb dX10_copy_104 (lv_at hl 6 rfl) ?_
                    refine lv_iload hx hb dX10_copy_106 (lv_at hl 7 rfl) ?_
                    refine tz_copyl hx hb (by rw [hml]; exact hl.1.symm) hown hU w410 w348 w347 w75 hK hT hS 6 5 rfl rfl (by omega) (fun _ _ _ _ => trivial) (Nat.le_of_ble_eq_true rfl) (Nat.le_of_ble_eq_true rfl) dX10_copy_108 (fun H locs hT hS => ?_)
                    refine lv_iload hx hb dX10_copy_111 (lv_at hl 7 rfl) ?_
                    exact tz_retI (B := B_cX10_copy_c7a33 D k h0 h4 h18 h19 h20 h21 h46 h47 h48 h49 h1 h2 h3 h5 h6 h7 h8 h9 h10 h11 h12 h13 x1 x2 x3 x4 x5 h0f2 h0f6 h0f8 h0f11 h18f0 h18f1 h19f0 h19f1 h20f0 h20f1 h21f0 h21f1) (v := x5) hQ hx hb hr hlocks hS (Nat.le_of_ble_eq_true rfl) (Nat.le_of_ble_eq_true rfl) dX10_copy_113 (⟨(by omega), (hT.sub [0, 1, 2, 9, 8, 3, 4, 5, 6, 7] (by decide) rfl)⟩)
              · skip
                have c_132 := ni_ne c_132 rfl rfl
                refine lv_bipush (v := (-13)) hx hb dX10_copy_64 (by decide) ?_
                exact tz_retI (B := B_cX10_copy_c7a33 D k h0 h4 h18 h19 h20 h21 h46 h47 h48 h49 h1 h2 h3 h5 h6 h7 h8 h9 h10 h11 h12 h13 x1 x2 x3 x4 x5 h0f2 h0f6 h0f8 h0f11 h18f0 h18f1 h19f0 h19f1 h20f0 h20f1 h21f0 h21f1) (v := (-13)) hQ hx hb hr hlocks hS (Nat.le_of_ble_eq_true rfl) (Nat.le_of_ble_eq_true rfl) dX10_copy_66 (⟨(by have := li_m13; omega), (hT.sub [0, 1, 2, 9, 8, 3, 4, 5, 6, 7] (by decide) rfl)⟩)
            · skip
              have hT := J _ hT1
              have hT : TP D A [(h0, ob 7 [.ref h1, .ref h2, .int h0f2, .ref h3, .ref h4, .ref h5, .int h0f6, .ref h6, .int h0f8, .ref h7, .ref h8, .int h0f11, .ref h9, .ref h10, .ref h11, .ref h12, .ref h13]), (h4, aQ (k 3) 4 (q4 h18 h19 h20 h21)), (h18, ob 5 [.int h18f0, .int h18f1, .ref h46]), (h21, ob 5 [.int h21f0, .int h21f1, .ref h49]), (h46, aJ (k 1) 40 anJ), (h47, aJ (k 1) 40 anJ), (h48, aJ (k 1) 40 anJ), (h49, aJ (k 1) 40 anJ), (h20, ob 5 [.int h20f0, .int h20f1, .ref h48]), (h19, ob 5 [.int h19f0, .int h19f1, .ref h47])] _ := hT
              refine lv_if_eq (tgt := 51) hx hb dX10_copy_45 (by decide) (fun cc => absurd cc (by decide +kernel)) (fun _ => ?_)
              refine lv_bipush (v := (-11)) hx hb dX10_copy_48 (by decide) ?_
              exact tz_retI (B := B_cX10_copy_c7a33 D k h0 h4 h18 h19 h20 h21 h46 h47 h48 h49 h1 h2 h3 h5 h6 h7 h8 h9 h10 h11 h12 h13 x1 x2 x3 x4 x5 h0f2 h0f6 h0f8 h0f11 h18f0 h18f1 h19f0 h19f1 h20f0 h20f1 h21f0 h21f1) (v := (-11)) hQ hx hb hr hlocks hS (Nat.le_of_ble_eq_true rfl) (Nat.le_of_ble_eq_true rfl) dX10_copy_50 (⟨(by have := li_m11; omega), (hT.sub [0, 1, 2, 9, 8, 3, 4, 5, 6, 7] (by decide) rfl)⟩)
          · skip
            have hT := J _ hT1
            have hT : TP D A [(h0, ob 7 [.ref h1, .ref h2, .int h0f2, .ref h3, .ref h4, .ref h5, .int h0f6, .ref h6, .int h0f8, .ref h7, .ref h8, .int h0f11, .ref h9, .ref h10, .ref h11, .ref h12, .ref h13]), (h4, aQ (k 3) 4 (q4 h18 h19 h20 h21)), (h18, ob 5 [.int h18f0, .int h18f1, .ref h46]), (h19, ob 5 [.int h19f0, .int h19f1, .ref h47]), (h21, ob 5 [.int h21f0, .int h21f1, .ref h49]), (h46, aJ (k 1) 40 anJ), (h47, aJ (k 1) 40 anJ), (h48, aJ (k 1) 40 anJ), (h49, aJ (k 1) 40 anJ), (h20, ob 5 [.int h20f0, .int h20f1, .ref h48])] _ := hT
            refine lv_if_ne (tgt := 48) hx hb dX10_copy_37 (by decide) (fun _ => ?_) (fun cc => absurd cc (by decide +kernel))
            refine lv_bipush (v := (-11)) hx hb dX10_copy_48 (by decide) ?_
            exact tz_retI (B := B_cX10_copy_c7a33 D k h0 h4 h18 h19 h20 h21 h46 h47 h48 h49 h1 h2 h3 h5 h6 h7 h8 h9 h10 h11 h12 h13 x1 x2 x3 x4 x5 h0f2 h0f6 h0f8 h0f11 h18f0 h18f1 h19f0 h19f1 h20f0 h20f1 h21f0 h21f1) (v := (-11)) hQ hx hb hr hlocks hS (Nat.le_of_ble_eq_true rfl) (Nat.le_of_ble_eq_true rfl) dX10_copy_50 (⟨(by have := li_m11; omega), (hT.sub [0, 1, 2, 3, 9, 4, 5, 6, 7, 8] (by decide) rfl)⟩)
        · skip
          refine tz_aldq (b := h20) hx hb hK hT 1 rfl (vp_in_iff.mpr (by have := hq114; omega)) (fun f hf => by rw [cl_of hq114]; exact hf.2.2.1) dX10_copy_29 ?_
          refine lv_astore (lv' := [(7, .ref h20), (6, .ref h20), (0, .ref h0), (1, .int x1), (2, .int x2), (3, .int x3), (4, .int x4), (5, .int x5)]) hx hb dX10_copy_30 hl (by decide) rfl (fun ls hl => ?_)
          refine lv_aload hx hb dX10_copy_32 (lv_at hl 1 rfl) ?_
          refine tcI (Tc := [(h20, ob 5 [.int h20f0, .int h20f1, .ref h48])]) (Tr := [(h0, ob 7 [.ref h1, .ref h2, .int h0f2, .ref h3, .ref h4, .ref h5, .int h0f6, .ref h6, .int h0f8, .ref h7, .ref h8, .int h0f11, .ref h9, .ref h10, .ref h11, .ref h12, .ref h13]), (h4, aQ (k 3) 4 (q4 h18 h19 h20 h21)), (h18, ob 5 [.int h18f0, .int h18f1, .ref h46]), (h19, ob 5 [.int h19f0, .int h19f1, .ref h47]), (h21, ob 5 [.int h21f0, .int h21f1, .ref h49]), (h46, aJ (k 1) 40 anJ), (h47, aJ (k 1) 40 anJ), (h48, aJ (k 1) 40 anJ), (h49, aJ (k 1) 40 anJ)]) (as := [h20]) (zcV (q0 := 4) (ci := 5) (As := []) (rest := []) (Tc := [(h20, ob 5 [.int h20f0, .int h20f1, .ref h48])]) hx hb hml hown hU hK hT rfl rfl [4] rfl (by decide) (cX6_isMissing_56a93 l D k _ h20 h48 h20f0 h20f1 (by omega) (by omega)) w644 w641 w642 w643 w71 hdX6_isMissing ⟨rfl, rfl⟩ ⟨Nat.le_of_ble_eq_true rfl, Nat.le_of_ble_eq_true rfl⟩ rfl hl.1 (Nat.le_of_ble_eq_true rfl) dX10_copy_34 ⟨Nat.le_of_ble_eq_true rfl, Nat.le_of_ble_eq_true rfl⟩) hT hS hA [4] [0, 1, 2, 3, 5, 6, 7, 8, 9] rfl rfl rfl (by decide) (by decide) (fun r141 H locs hB J hS => ?_)
          rcases hB with ⟨c_142, rfl, hT1⟩ | ⟨rfl, hT1⟩
          · skip
            have hT := J _ hT1
            have hT : TP D A [(h0, ob 7 [.ref h1, .ref h2, .int h0f2, .ref h3, .ref h4, .ref h5, .int h0f6, .ref h6, .int h0f8, .ref h7, .ref h8, .int h0f11, .ref h9, .ref h10, .ref h11, .ref h12, .ref h13]), (h4, aQ (k 3) 4 (q4 h18 h19 h20 h21)), (h18, ob 5 [.int h18f0, .int h18f1, .ref h46]), (h19, ob 5 [.int h19f0, .int h19f1, .ref h47]), (h21, ob 5 [.int h21f0, .int h21f1, .ref h49]), (h46, aJ (k 1) 40 anJ), (h47, aJ (k 1) 40 anJ), (h48, aJ (k 1) 40 anJ), (h49, aJ (k 1) 40 anJ), (h20, ob 5 [.int h20f0, .int h20f1, .ref h48])] _ := hT
            refine lv_if_ne (tgt := 48) hx hb dX10_copy_37 (by decide) (fun cc => absurd (by decide +kernel) cc) (fun _ => ?_)
            refine lv_aload hx hb dX10_copy_40 (lv_at hl 0 rfl) ?_
            refine tcI (Tc := [(h20, ob 5 [.int h20f0, .int h20f1, .ref h48])]) (Tr := [(h0, ob 7 [.ref h1, .ref h2, .int h0f2, .ref h3, .ref h4, .ref h5, .int h0f6, .ref h6, .int h0f8, .ref h7, .ref h8, .int h0f11, .ref h9, .ref h10, .ref h11, .ref h12, .ref h13]), (h4, aQ (k 3) 4 (q4 h18 h19 h20 h21)), (h18, ob 5 [.int h18f0, .int h18f1, .ref h46]), (h19, ob 5 [.int h19f0, .int h19f1, .ref h47]), (h21, ob 5 [.int h21f0, .int h21f1, .ref h49]), (h46, aJ (k 1) 40 anJ), (h47, aJ (k 1) 40 anJ), (h48, aJ (k 1) 40 anJ), (h49, aJ (k 1) 40 anJ)]) (as := [h20]) (zcV (q0 := 9) (ci := 5) (As := []) (rest := []) (Tc := [(h20, ob 5 [.int h20f0, .int h20f1, .ref h48])]) hx hb hml hown hU hK hT rfl rfl [9] rfl (by decide) (cX6_isMissing_56a93 l D k _ h20 h48 h20f0 h20f1 (by omega) (by omega)) w644 w641 w642 w643 w71 hdX6_isMissing ⟨rfl, rfl⟩ ⟨Nat.le_of_ble_eq_true rfl, Nat.le_of_ble_eq_true rfl⟩ rfl hl.1 (Nat.le_of_ble_eq_true rfl) dX10_copy_42 ⟨Nat.le_of_ble_eq_true rfl, Nat.le_of_ble_eq_true rfl⟩) hT hS hA [9] [0, 1, 2, 3, 4, 5, 6, 7, 8] rfl rfl rfl (by decide) (by decide) (fun r143 H locs hB J hS => ?_)
            rcases hB with ⟨c_144, rfl, hT1⟩ | ⟨rfl, hT1⟩
            · skip
              have hT := J _ hT1
              have hT : TP D A [(h0, ob 7 [.ref h1, .ref h2, .int h0f2, .ref h3, .ref h4, .ref h5, .int h0f6, .ref h6, .int h0f8, .ref h7, .ref h8, .int h0f11, .ref h9, .ref h10, .ref h11, .ref h12, .ref h13]), (h4, aQ (k 3) 4 (q4 h18 h19 h20 h21)), (h18, ob 5 [.int h18f0, .int h18f1, .ref h46]), (h19, ob 5 [.int h19f0, .int h19f1, .ref h47]), (h21, ob 5 [.int h21f0, .int h21f1, .ref h49]), (h46, aJ (k 1) 40 anJ), (h47, aJ (k 1) 40 anJ), (h48, aJ (k 1) 40 anJ), (h49, aJ (k 1) 40 anJ), (h20, ob 5 [.int h20f0, .int h20f1, .ref h48])] _ := hT
              refine lv_if_eq (tgt := 51) hx hb dX10_copy_45 (by decide) (fun _ => ?_) (fun cc => absurd (by decide +kernel) cc)
              refine lv_aload hx hb dX10_copy_51 (lv_at hl 1 rfl) ?_
              refine tz_get (ci := 5) (v := .int h20f0) (C := RX6) (F := TX6) (N := 3) hx hb hU iX6 hown hK hT 9 rfl rfl 0 (by decide) w238 (fun _ h9 => h9) rfl dX10_copy_53 ?_
              refine lv_aload hx hb dX10_copy_56 (lv_at hl 0 rfl) ?_
              refine tz_get (ci := 5) (v := .int h20f0) (C := RX6) (F := TX6) (N := 3) hx hb hU iX6 hown hK hT 9 rfl rfl 0 (by decide) w238 (fun _ h9 => h9) rfl dX10_copy_58 ?_
              refine lv_icmp_eq (tgt := 67) hx hb dX10_copy_61 (by decide) (fun c_145 => ?_) (fun c_145 => ?_)
              · skip
                have c_145 := ni_eq c_145 rfl rfl
                refine lv_aload hx hb dX10_copy_67 (lv_at hl 1 rfl) ?_
                refine lv_iload_n hx hb dX10_copy_69 rfl (lv_at hl 4 rfl) ?_
                refine lv_iload hx hb dX10_copy_70 (lv_at hl 7 rfl) ?_
                refine tcI (Tc := [(h20, ob 5 [.int h20f0, .int h20f1, .ref h48])]) (Tr := [(h0, ob 7 [.ref h1, .ref h2, .int h0f2, .ref h3, .ref h4, .ref h5, .int h0f6, .ref h6, .int h0f8, .ref h7, .ref h8, .int h0f11, .ref h9, .ref h10, .ref h11, .ref h12, .ref h13]), (h4, aQ (k 3) 4 (q4 h18 h19 h20 h21)), (h18, ob 5 [.int h18f0, .int h18f1, .ref h46]), (h19, ob 5 [.int h19f0, .int h19f1, .ref h47]), (h21, ob 5 [.int h21f0, .int h21f1, .ref h49]), (h46, aJ (k 1) 40 anJ), (h47, aJ (k 1) 40 anJ), (h48, aJ (k 1) 40 anJ), (h49, aJ (k 1) 40 anJ)]) (as := [h20]) (zcV (q0 := 9) (ci := 5) (As := [.int x2, .int x5]) (rest := []) (Tc := [(h20, ob 5 [.int h20f0, .int h20f1, .ref h48])]) hx hb hml hown hU hK hT rfl rfl [9] rfl (by decide) (cX6_isOutside_cc85b l D k _ h20 h48 x2 x5 h20f0 h20f1 (by omega) (by omega)) w648 w645 w646 w647 w71 hdX6_isOutside ⟨rfl, rfl⟩ ⟨Nat.le_of_ble_eq_true rfl, Nat.le_of_ble_eq_true rfl⟩ rfl hl.1 (Nat.le_of_ble_eq_true rfl) dX10_copy_72 ⟨Nat.le_of_ble_eq_true rfl, Nat.le_of_ble_eq_true rfl⟩) hT hS hA [9] [0, 1, 2, 3, 4, 5, 6, 7, 8] rfl rfl rfl (by decide) (by decide) (fun r146 H locs hB J hS => ?_)
                rcases hB with ⟨rfl, hT1⟩ | ⟨c_147, c_148, c_149, rfl, hT1⟩
                · skip
                  have hT := J _ hT1
                  have hT : TP D A [(h0, ob 7 [.ref h1, .ref h2, .int h0f2, .ref h3, .ref h4, .ref h5, .int h0f6, .ref h6, .int h0f8, .ref h7, .ref h8, .int h0f11, .ref h9, .ref h10, .ref h11, .ref h12, .ref h13]), (h4, aQ (k 3) 4 (q4 h18 h19 h20 h21)), (h18, ob 5 [.int h18f0, .int h18f1, .ref h46]), (h19, ob 5 [.int h19f0, .int h19f1, .ref h47]), (h21, ob 5 [.int h21f0, .int h21f1, .ref h49]), (h46, aJ (k 1) 40 anJ), (h47, aJ (k 1) 40 anJ), (h48, aJ (k 1) 40 anJ), (h49, aJ (k 1) 40 anJ), (h20, ob 5 [.int h20f0, .int h20f1, .ref h48])] _ := hT
                  refine lv_if_ne (tgt := 90) hx hb dX10_copy_75 (by decide) (fun _ => ?_) (fun cc => absurd cc (by decide +kernel))
                  refine lv_bipush (v := (-12)) hx hb dX10_copy_90 (by decide) ?_
                  exact tz_retI (B := B_cX10_copy_c7a33 D k h0 h4 h18 h19 h20 h21 h46 h47 h48 h49 h1 h2 h3 h5 h6 h7 h8 h9 h10 h11 h12 h13 x1 x2 x3 x4 x5 h0f2 h0f6 h0f8 h0f11 h18f0 h18f1 h19f0 h19f1 h20f0 h20f1 h21f0 h21f1) (v := (-12)) hQ hx hb hr hlocks hS (Nat.le_of_ble_eq_true rfl) (Nat.le_of_ble_eq_true rfl) dX10_copy_92 (⟨(by have := li_m12; omega), (hT.sub [0, 1, 2, 3, 9, 4, 5, 6, 7, 8] (by decide) rfl)⟩)
                · skip
                  have hT := J _ hT1
                  have hT : TP D A [(h0, ob 7 [.ref h1, .ref h2, .int h0f2, .ref h3, .ref h4, .ref h5, .int h0f6, .ref h6, .int h0f8, .ref h7, .ref h8, .int h0f11, .ref h9, .ref h10, .ref h11, .ref h12, .ref h13]), (h4, aQ (k 3) 4 (q4 h18 h19 h20 h21)), (h18, ob 5 [.int h18f0, .int h18f1, .ref h46]), (h19, ob 5 [.int h19f0, .int h19f1, .ref h47]), (h21, ob 5 [.int h21f0, .int h21f1, .ref h49]), (h46, aJ (k 1) 40 anJ), (h47, aJ (k 1) 40 anJ), (h48, aJ (k 1) 40 anJ), (h49, aJ (k 1) 40 anJ), (h20, ob 5 [.int h20f0, .int h20f1, .ref h48])] _ := hT
                  refine lv_if_ne (tgt := 90) hx hb dX10_copy_75 (by decide) (fun cc => absurd (by decide +kernel) cc) (fun _ => ?_)
                  refine lv_aload hx hb dX10_copy_78 (lv_at hl 0 rfl) ?_
                  refine lv_iload hx hb dX10_copy_80 (lv_at hl 6 rfl) ?_
                  refine lv_iload hx hb dX10_copy_82 (lv_at hl 7 rfl) ?_
                  refine tcI (Tc := [(h20, ob 5 [.int h20f0, .int h20f1, .ref h48])]) (Tr := [(h0, ob 7 [.ref h1, .ref h2, .int h0f2, .ref h3, .ref h4, .ref h5, .int h0f6, .ref h6, .int h0f8, .ref h7, .ref h8, .int h0f11, .ref h9, .ref h10, .ref h11, .ref h12, .ref h13]), (h4, aQ (k 3) 4 (q4 h18 h19 h20 h21)), (h18, ob 5 [.int h18f0, .int h18f1, .ref h46]), (h19, ob 5 [.int h19f0, .int h19f1, .ref h47]), (h21, ob 5 [.int h21f0, .int h21f1, .ref h49]), (h46, aJ (k 1) 40 anJ), (h47, aJ (k 1) 40 anJ), (h48, aJ (k 1) 40 anJ), (h49, aJ (k 1) 40 anJ)]) (as := [h20]) (zcV (q0 := 9) (ci := 5) (As := [.int x4, .int x5]) (rest := []) (Tc := [(h20, ob 5 [.int h20f0, .int h20f1, .ref h48])]) hx hb hml hown hU hK hT rfl rfl [9] rfl (by decide) (cX6_isOutside_cc85b l D k _ h20 h48 x4 x5 h20f0 h20f1 (by omega) (by omega)) w648 w645 w646 w647 w71 hdX6_isOutside ⟨rfl, rfl⟩ ⟨Nat.le_of_ble_eq_true rfl, Nat.le_of_ble_eq_true rfl⟩ rfl hl.1 (Nat.le_of_ble_eq_true rfl) dX10_copy_84 ⟨Nat.le_of_ble_eq_true rfl, Nat.le_of_ble_eq_true rfl⟩) hT hS hA [9] [0, 1, 2, 3, 4, 5, 6, 7, 8] rfl rfl rfl (by decide) (by decide) (fun r150 H locs hB J hS => ?_)
                  rcases hB with ⟨rfl, hT1⟩ | ⟨c_151, c_152, c_153, rfl, hT1⟩
                  · skip
                    have hT := J _ hT1
                    have hT : TP D A [(h0, ob 7 [.ref h1, .ref h2, .int h0f2, .ref h3, .ref h4, .ref h5, .int h0f6, .ref h6, .int h0f8, .ref h7, .ref h8, .int h0f11, .ref h9, .ref h10, .ref h11, .ref h12, .ref h13]), (h4, aQ (k 3) 4 (q4 h18 h19 h20 h21)), (h18, ob 5 [.int h18f0, .int h18f1, .ref h46]), (h19, ob 5 [.int h19f0, .int h19f1, .ref h47]), (h21, ob 5 [.int h21f0, .int h21f1, .ref h49]), (h46, aJ (k 1) 40 anJ), (h47, aJ (k 1) 40 anJ), (h48, aJ (k 1) 40 anJ), (h49, aJ (k 1) 40 anJ), (h20, ob 5 [.int h20f0, .int h20f1, .ref h48])] _ := hT
                    refine lv_if_eq (tgt := 93) hx hb dX10_copy_87 (by decide) (fun cc => absurd cc (by decide +kernel)) (fun _ => ?_)
                    refine lv_bipush (v := (-12)) hx hb dX10_copy_90 (by decide) ?_
                    exact tz_retI (B := B_cX10_copy_c7a33 D k h0 h4 h18 h19 h20 h21 h46 h47 h48 h49 h1 h2 h3 h5 h6 h7 h8 h9 h10 h11 h12 h13 x1 x2 x3 x4 x5 h0f2 h0f6 h0f8 h0f11 h18f0 h18f1 h19f0 h19f1 h20f0 h20f1 h21f0 h21f1) (v := (-12)) hQ hx hb hr hlocks hS (Nat.le_of_ble_eq_true rfl) (Nat.le_of_ble_eq_true rfl) dX10_copy_92 (⟨(by have := li_m12; omega), (hT.sub [0, 1, 2, 3, 9, 4, 5, 6, 7, 8] (by decide) rfl)⟩)
                  · skip
                    have hT := J _ hT1
                    have hT : TP D A [(h0, ob 7 [.ref h1, .ref h2, .int h0f2, .ref h3, .ref h4, .ref h5, .int h0f6, .ref h6, .int h0f8, .ref h7, .ref h8, .int h0f11, .ref h9, .ref h10, .ref h11, .ref h12, .ref h13]), (h4, aQ (k 3) 4 (q4 h18 h19 h20 h21)), (h18, ob 5 [.int h18f0, .int h18f1, .ref h46]), (h19, ob 5 [.int h19f0, .int h19f1, .ref h47]), (h21, ob 5 [.int h21f0, .int h21f1, .ref h49]), (h46, aJ (k 1) 40 anJ), (h47, aJ (k 1) 40 anJ), (h48, aJ (k 1) 40 anJ), (h49, aJ (k 1) 40 anJ), (h20, ob 5 [.int h20f0, .int h20f1, .ref h48])] _ := hT
                    refine lv_if_eq (tgt := 93) hx hb dX10_copy_87 (by decide) (fun _ => ?_) (fun cc => absurd (by decide +kernel) cc)
                    refine lv_aload hx hb dX10_copy_93 (lv_at hl 1 rfl) ?_
                    refine tz_get (ci := 5) (v := .ref h48) (C := RX6) (F := TX6) (N := 3) hx hb hU iX6 hown hK hT 9 rfl rfl 2 (by decide) w241 (fun _ h9 => h9) rfl dX10_copy_95 ?_
                    refine lv_iload_n hx hb dX10_copy_98 rfl (lv_at hl 4 rfl) ?_
                    refine lv_aload hx hb dX10_copy_99 (lv_at hl 0 rfl) ?_
                    refine tz_get (ci := 5) (v := .ref h48) (C := RX6) (F := TX6) (N := 3) hx hb hU iX6 hown hK hT 9 rfl rfl 2 (by decide) w241 (fun _ h9 => h9) rfl dX10_copy_101 ?_
                    refine lv_iload hx hb dX10_copy_104 (lv_at hl 6 rfl) ?_
                    refine lv_iload hx hb dX10_copy_106 (lv_at hl 7 rfl) ?_
                    refine tz_copyl hx hb (by rw [hml]; exact hl.1.symm) hown hU w410 w348 w347 w75 hK hT hS 7 7 rfl rfl (by omega) (fun _ _ _ _ => trivial) (Nat.le_of_ble_eq_true rfl) (Nat.le_of_ble_eq_true rfl) dX10_copy_108 (fun H locs hT hS => ?_)
                    refine lv_iload hx hb dX10_copy_111 (lv_at hl 7 rfl) ?_
                    exact tz_retI (B := B_cX10_copy_c7a33 D k h0 h4 h18 h19 h20 h21 h46 h47 h48 h49 h1 h2 h3 h5 h6 h7 h8 h9 h10 h11 h12 h13 x1 x2 x3 x4 x5 h0f2 h0f6 h0f8 h0f11 h18f0 h18f1 h19f0 h19f1 h20f0 h20f1 h21f0 h21f1) (v := x5) hQ hx hb hr hlocks hS (Nat.le_of_ble_eq_true rfl) (Nat.le_of_ble_eq_true rfl) dX10_copy_113 (⟨(by omega), (hT.sub [0, 1, 2, 3, 9, 4, 5, 6, 7, 8] (by decide) rfl)⟩)
              · skip
                have c_145 := ni_ne c_145 rfl rfl
                exfalso; omega
            · skip
              have hT := J _ hT1
              have hT : TP D A [(h0, ob 7 [.ref h1, .ref h2, .int h0f2, .ref h3, .ref h4, .ref h5, .int h0f6, .ref h6, .int h0f8, .ref h7, .ref h8, .int h0f11, .ref h9, .ref h10, .ref h11, .ref h12, .ref h13]), (h4, aQ (k 3) 4 (q4 h18 h19 h20 h21)), (h18, ob 5 [.int h18f0, .int h18f1, .ref h46]), (h19, ob 5 [.int h19f0, .int h19f1, .ref h47]), (h21, ob 5 [.int h21f0, .int h21f1, .ref h49]), (h46, aJ (k 1) 40 anJ), (h47, aJ (k 1) 40 anJ), (h48, aJ (k 1) 40 anJ), (h49, aJ (k 1) 40 anJ), (h20, ob 5 [.int h20f0, .int h20f1, .ref h48])] _ := hT
              refine lv_if_eq (tgt := 51) hx hb dX10_copy_45 (by decide) (fun cc => absurd cc (by decide +kernel)) (fun _ => ?_)
              refine lv_bipush (v := (-11)) hx hb dX10_copy_48 (by decide) ?_
              exact tz_retI (B := B_cX10_copy_c7a33 D k h0 h4 h18 h19 h20 h21 h46 h47 h48 h49 h1 h2 h3 h5 h6 h7 h8 h9 h10 h11 h12 h13 x1 x2 x3 x4 x5 h0f2 h0f6 h0f8 h0f11 h18f0 h18f1 h19f0 h19f1 h20f0 h20f1 h21f0 h21f1) (v := (-11)) hQ hx hb hr hlocks hS (Nat.le_of_ble_eq_true rfl) (Nat.le_of_ble_eq_true rfl) dX10_copy_50 (⟨(by have := li_m11; omega), (hT.sub [0, 1, 2, 3, 9, 4, 5, 6, 7, 8] (by decide) rfl)⟩)
          · skip
            have hT := J _ hT1
            have hT : TP D A [(h0, ob 7 [.ref h1, .ref h2, .int h0f2, .ref h3, .ref h4, .ref h5, .int h0f6, .ref h6, .int h0f8, .ref h7, .ref h8, .int h0f11, .ref h9, .ref h10, .ref h11, .ref h12, .ref h13]), (h4, aQ (k 3) 4 (q4 h18 h19 h20 h21)), (h18, ob 5 [.int h18f0, .int h18f1, .ref h46]), (h19, ob 5 [.int h19f0, .int h19f1, .ref h47]), (h21, ob 5 [.int h21f0, .int h21f1, .ref h49]), (h46, aJ (k 1) 40 anJ), (h47, aJ (k 1) 40 anJ), (h48, aJ (k 1) 40 anJ), (h49, aJ (k 1) 40 anJ), (h20, ob 5 [.int h20f0, .int h20f1, .ref h48])] _ := hT
            refine lv_if_ne (tgt := 48) hx hb dX10_copy_37 (by decide) (fun _ => ?_) (fun cc => absurd cc (by decide +kernel))
            refine lv_bipush (v := (-11)) hx hb dX10_copy_48 (by decide) ?_
            exact tz_retI (B := B_cX10_copy_c7a33 D k h0 h4 h18 h19 h20 h21 h46 h47 h48 h49 h1 h2 h3 h5 h6 h7 h8 h9 h10 h11 h12 h13 x1 x2 x3 x4 x5 h0f2 h0f6 h0f8 h0f11 h18f0 h18f1 h19f0 h19f1 h20f0 h20f1 h21f0 h21f1) (v := (-11)) hQ hx hb hr hlocks hS (Nat.le_of_ble_eq_true rfl) (Nat.le_of_ble_eq_true rfl) dX10_copy_50 (⟨(by have := li_m11; omega), (hT.sub [0, 1, 2, 3, 9, 4, 5, 6, 7, 8] (by decide) rfl)⟩)
        · skip
          refine tz_aldq (b := h21) hx hb hK hT 1 rfl (vp_in_iff.mpr (by have := hq114; omega)) (fun f hf => by rw [cl_of hq114]; exact hf.2.2.2) dX10_copy_29 ?_
          refine lv_astore (lv' := [(7, .ref h21), (6, .ref h20), (0, .ref h0), (1, .int x1), (2, .int x2), (3, .int x3), (4, .int x4), (5, .int x5)]) hx hb dX10_copy_30 hl (by decide) rfl (fun ls hl => ?_)
          refine lv_aload hx hb dX10_copy_32 (lv_at hl 1 rfl) ?_
          refine tcI (Tc := [(h20, ob 5 [.int h20f0, .int h20f1, .ref h48])]) (Tr := [(h0, ob 7 [.ref h1, .ref h2, .int h0f2, .ref h3, .ref h4, .ref h5, .int h0f6, .ref h6, .int h0f8, .ref h7, .ref h8, .int h0f11, .ref h9, .ref h10, .ref h11, .ref h12, .ref h13]), (h4, aQ (k 3) 4 (q4 h18 h19 h20 h21)), (h18, ob 5 [.int h18f0, .int h18f1, .ref h46]), (h19, ob 5 [.int h19f0, .int h19f1, .ref h47]), (h21, ob 5 [.int h21f0, .int h21f1, .ref h49]), (h46, aJ (k 1) 40 anJ), (h47, aJ (k 1) 40 anJ), (h48, aJ (k 1) 40 anJ), (h49, aJ (k 1) 40 anJ)]) (as := [h20]) (zcV (q0 := 4) (ci := 5) (As := []) (rest := []) (Tc := [(h20, ob 5 [.int h20f0, .int h20f1, .ref h48])]) hx hb hml hown hU hK hT rfl rfl [4] rfl (by decide) (cX6_isMissing_56a93 l D k _ h20 h48 h20f0 h20f1 (by omega) (by omega)) w644 w641 w642 w643 w71 hdX6_isMissing ⟨rfl, rfl⟩ ⟨Nat.le_of_ble_eq_true rfl, Nat.le_of_ble_eq_true rfl⟩ rfl hl.1 (Nat.le_of_ble_eq_true rfl) dX10_copy_34 ⟨Nat.le_of_ble_eq_true rfl, Nat.le_of_ble_eq_true rfl⟩) hT hS hA [4] [0, 1, 2, 3, 5, 6, 7, 8, 9] rfl rfl rfl (by decide) (by decide) (fun r154 H locs hB J hS => ?_)
          rcases hB with ⟨c_155, rfl, hT1⟩ | ⟨rfl, hT1⟩
          · skip
            have hT := J _ hT1
            have hT : TP D A [(h0, ob 7 [.ref h1, .ref h2, .int h0f2, .ref h3, .ref h4, .ref h5, .int h0f6, .ref h6, .int h0f8, .ref h7, .ref h8, .int h0f11, .ref h9, .ref h10, .ref h11, .ref h12, .ref h13]), (h4, aQ (k 3) 4 (q4 h18 h19 h20 h21)), (h18, ob 5 [.int h18f0, .int h18f1, .ref h46]), (h19, ob 5 [.int h19f0, .int h19f1, .ref h47]), (h21, ob 5 [.int h21f0, .int h21f1, .ref h49]), (h46, aJ (k 1) 40 anJ), (h47, aJ (k 1) 40 anJ), (h48, aJ (k 1) 40 anJ), (h49, aJ (k 1) 40 anJ), (h20, ob 5 [.int h20f0, .int h20f1, .ref h48])] _ := hT
            refine lv_if_ne (tgt := 48) hx hb dX10_copy_37 (by decide) (fun cc => absurd (by decide +kernel) cc) (fun _ => ?_)
            refine lv_aload hx hb dX10_copy_40 (lv_at hl 0 rfl) ?_
            refine tcI (Tc := [(h21, ob 5 [.int h21f0, .int h21f1, .ref h49])]) (Tr := [(h0, ob 7 [.ref h1, .ref h2, .int h0f2, .ref h3, .ref h4, .ref h5, .int h0f6, .ref h6, .int h0f8, .ref h7, .ref h8, .int h0f11, .ref h9, .ref h10, .ref h11, .ref h12, .ref h13]), (h4, aQ (k 3) 4 (q4 h18 h19 h20 h21)), (h18, ob 5 [.int h18f0, .int h18f1, .ref h46]), (h19, ob 5 [.int h19f0, .int h19f1, .ref h47]), (h46, aJ (k 1) 40 anJ), (h47, aJ (k 1) 40 anJ), (h48, aJ (k 1) 40 anJ), (h49, aJ (k 1) 40 anJ), (h20, ob 5 [.int h20f0, .int h20f1, .ref h48])]) (as := [h21]) (zcV (q0 := 4) (ci := 5) (As := []) (rest := []) (Tc := [(h21, ob 5 [.int h21f0, .int h21f1, .ref h49])]) hx hb hml hown hU hK hT rfl rfl [4] rfl (by decide) (cX6_isMissing_56a93 l D k _ h21 h49 h21f0 h21f1 (by omega) (by omega)) w644 w641 w642 w643 w71 hdX6_isMissing ⟨rfl, rfl⟩ ⟨Nat.le_of_ble_eq_true rfl, Nat.le_of_ble_eq_true rfl⟩ rfl hl.1 (Nat.le_of_ble_eq_true rfl) dX10_copy_42 ⟨Nat.le_of_ble_eq_true rfl, Nat.le_of_ble_eq_true rfl⟩) hT hS hA [4] [0, 1, 2, 3, 5, 6, 7, 8, 9] rfl rfl rfl (by decide) (by decide) (fun r156 H locs hB J hS => ?_)
            rcases hB with ⟨c_157, rfl, hT1⟩ | ⟨rfl, hT1⟩
            · skip
              have hT := J _ hT1
              have hT : TP D A [(h0, ob 7 [.ref h1, .ref h2, .int h0f2, .ref h3, .ref h4, .ref h5, .int h0f6, .ref h6, .int h0f8, .ref h7, .ref h8, .int h0f11, .ref h9, .ref h10, .ref h11, .ref h12, .ref h13]), (h4, aQ (k 3) 4 (q4 h18 h19 h20 h21)), (h18, ob 5 [.int h18f0, .int h18f1, .ref h46]), (h19, ob 5 [.int h19f0, .int h19f1, .ref h47]), (h46, aJ (k 1) 40 anJ), (h47, aJ (k 1) 40 anJ), (h48, aJ (k 1) 40 anJ), (h49, aJ (k 1) 40 anJ), (h20, ob 5 [.int h20f0, .int h20f1, .ref h48]), (h21, ob 5 [.int h21f0, .int h21f1, .ref h49])] _ := hT
              refine lv_if_eq (tgt := 51) hx hb dX10_copy_45 (by decide) (fun _ => ?_) (fun cc => absurd (by decide +kernel) cc)
              refine lv_aload hx hb dX10_copy_51 (lv_at hl 1 rfl) ?_
              refine tz_get (ci := 5) (v := .int h20f0) (C := RX6) (F := TX6) (N := 3) hx hb hU iX6 hown hK hT 8 rfl rfl 0 (by decide) w238 (fun _ h9 => h9) rfl dX10_copy_53 ?_
              refine lv_aload hx hb dX10_copy_56 (lv_at hl 0 rfl) ?_
              refine tz_get (ci := 5) (v := .int h21f0) (C := RX6) (F := TX6) (N := 3) hx hb hU iX6 hown hK hT 9 rfl rfl 0 (by decide) w238 (fun _ h9 => h9) rfl dX10_copy_58 ?_
              refine lv_icmp_eq (tgt := 67) hx hb dX10_copy_61 (by decide) (fun c_158 => ?_) (fun c_158 => ?_)
              · skip
                have c_158 := ni_eq c_158 rfl rfl
                refine lv_aload hx hb dX10_copy_67 (lv_at hl 1 rfl) ?_
                refine lv_iload_n hx hb dX10_copy_69 rfl (lv_at hl 4 rfl) ?_
                refine lv_iload hx hb dX10_copy_70 (lv_at hl 7 rfl) ?_
                refine tcI (Tc := [(h20, ob 5 [.int h20f0, .int h20f1, .ref h48])]) (Tr := [(h0, ob 7 [.ref h1, .ref h2, .int h0f2, .ref h3, .ref h4, .ref h5, .int h0f6, .ref h6, .int h0f8, .ref h7, .ref h8, .int h0f11, .ref h9, .ref h10, .ref h11, .ref h12, .ref h13]), (h4, aQ (k 3) 4 (q4 h18 h19 h20 h21)), (h18, ob 5 [.int h18f0, .int h18f1, .ref h46]), (h19, ob 5 [.int h19f0, .int h19f1, .ref h47]), (h46, aJ (k 1) 40 anJ), (h47, aJ (k 1) 40 anJ), (h48, aJ (k 1) 40 anJ), (h49, aJ (k 1) 40 anJ), (h21, ob 5 [.int h21f0, .int h21f1, .ref h49])]) (as := [h20]) (zcV (q0 := 8) (ci := 5) (As := [.int x2, .int x5]) (rest := []) (Tc := [(h20, ob 5 [.int h20f0, .int h20f1, .ref h48])]) hx hb hml hown hU hK hT rfl rfl [8] rfl (by decide) (cX6_isOutside_cc85b l D k _ h20 h48 x2 x5 h20f0 h20f1 (by omega) (by omega)) w648 w645 w646 w647 w71 hdX6_isOutside ⟨rfl, rfl⟩ ⟨Nat.le_of_ble_eq_true rfl, Nat.le_of_ble_eq_true rfl⟩ rfl hl.1 (Nat.le_of_ble_eq_true rfl) dX10_copy_72 ⟨Nat.le_of_ble_eq_true rfl, Nat.le_of_ble_eq_true rfl⟩) hT hS hA [8] [0, 1, 2, 3, 4, 5, 6, 7, 9] rfl rfl rfl (by decide) (by decide) (fun r159 H locs hB J hS => ?_)
                rcases hB with ⟨rfl, hT1⟩ | ⟨c_160, c_161, c_162, rfl, hT1⟩
                · skip
                  have hT := J _ hT1
                  have hT : TP D A [(h0, ob 7 [.ref h1, .ref h2, .int h0f2, .ref h3, .ref h4, .ref h5, .int h0f6, .ref h6, .int h0f8, .ref h7, .ref h8, .int h0f11, .ref h9, .ref h10, .ref h11, .ref h12, .ref h13]), (h4, aQ (k 3) 4 (q4 h18 h19 h20 h21)), (h18, ob 5 [.int h18f0, .int h18f1, .ref h46]), (h19, ob 5 [.int h19f0, .int h19f1, .ref h47]), (h46, aJ (k 1) 40 anJ), (h47, aJ (k 1) 40 anJ), (h48, aJ (k 1) 40 anJ), (h49, aJ (k 1) 40 anJ), (h21, ob 5 [.int h21f0, .int h21f1, .ref h49]), (h20, ob 5 [.int h20f0, .int h20f1, .ref h48])] _ := hT
                  refine lv_if_ne (tgt := 90) hx hb dX10_copy_75 (by decide) (fun _ => ?_) (fun cc => absurd cc (by decide +kernel))
                  refine lv_bipush (v := (-12)) hx hb dX10_copy_90 (by decide) ?_
                  exact tz_retI (B := B_cX10_copy_c7a33 D k h0 h4 h18 h19 h20 h21 h46 h47 h48 h49 h1 h2 h3 h5 h6 h7 h8 h9 h10 h11 h12 h13 x1 x2 x3 x4 x5 h0f2 h0f6 h0f8 h0f11 h18f0 h18f1 h19f0 h19f1 h20f0 h20f1 h21f0 h21f1) (v := (-12)) hQ hx hb hr hlocks hS (Nat.le_of_ble_eq_true rfl) (Nat.le_of_ble_eq_true rfl) dX10_copy_92 (⟨(by have := li_m12; omega), (hT.sub [0, 1, 2, 3, 9, 8, 4, 5, 6, 7] (by decide) rfl)⟩)
                · skip
                  have hT := J _ hT1
                  have hT : TP D A [(h0, ob 7 [.ref h1, .ref h2, .int h0f2, .ref h3, .ref h4, .ref h5, .int h0f6, .ref h6, .int h0f8, .ref h7, .ref h8, .int h0f11, .ref h9, .ref h10, .ref h11, .ref h12, .ref h13]), (h4, aQ (k 3) 4 (q4 h18 h19 h20 h21)), (h18, ob 5 [.int h18f0, .int h18f1, .ref h46]), (h19, ob 5 [.int h19f0, .int h19f1, .ref h47]), (h46, aJ (k 1) 40 anJ), (h47, aJ (k 1) 40 anJ), (h48, aJ (k 1) 40 anJ), (h49, aJ (k 1) 40 anJ), (h21, ob 5 [.int h21f0, .int h21f1, .ref h49]), (h20, ob 5 [.int h20f0, .int h20f1, .ref h48])] _ := hT
                  refine lv_if_ne (tgt := 90) hx hb dX10_copy_75 (by decide) (fun cc => absurd (by decide +kernel) cc) (fun _ => ?_)
                  refine lv_aload hx hb dX10_copy_78 (lv_at hl 0 rfl) ?_
                  refine lv_iload hx hb dX10_copy_80 (lv_at hl 6 rfl) ?_
                  refine lv_iload hx hb dX10_copy_82 (lv_at hl 7 rfl) ?_
                  refine tcI (Tc := [(h21, ob 5 [.int h21f0, .int h21f1, .ref h49])]) (Tr := [(h0, ob 7 [.ref h1, .ref h2, .int h0f2, .ref h3, .ref h4, .ref h5, .int h0f6, .ref h6, .int h0f8, .ref h7, .ref h8, .int h0f11, .ref h9, .ref h10, .ref h11, .ref h12, .ref h13]), (h4, aQ (k 3) 4 (q4 h18 h19 h20 h21)), (h18, ob 5 [.int h18f0, .int h18f1, .ref h46]), (h19, ob 5 [.int h19f0, .int h19f1, .ref h47]), (h46, aJ (k 1) 40 anJ), (h47, aJ (k 1) 40 anJ), (h48, aJ (k 1) 40 anJ), (h49, aJ (k 1) 40 anJ), (h20, ob 5 [.int h20f0, .int h20f1, .ref h48])]) (as := [h21]) (zcV (q0 := 8) (ci := 5) (As := [.int x4, .int x5]) (rest := []) (Tc := [(h21, ob 5 [.int h21f0, .int h21f1, .ref h49])]) hx hb hml hown hU hK hT rfl rfl [8] rfl (by decide) (cX6_isOutside_cc85b l D k _ h21 h49 x4 x5 h21f0 h21f1 (by omega) (by omega)) w648 w645 w646 w647 w71 hdX6_isOutside ⟨rfl, rfl⟩ ⟨Nat.le_of_ble_eq_true rfl, Nat.le_of_ble_eq_true rfl⟩ rfl hl.1 (Nat.le_of_ble_eq_true rfl) dX10_copy_84 ⟨Nat.le_of_ble_eq_true rfl, Nat.le_of_ble_eq_true rfl⟩) hT hS hA [8] [0, 1, 2, 3, 4, 5, 6, 7, 9] rfl rfl rfl (by decide) (by decide) (fun r163 H locs hB J hS => ?_)
                  rcases hB with ⟨rfl, hT1⟩ | ⟨c_164, c_165, c_166, rfl, hT1⟩
                  · skip
                    have hT := J _ hT1
                    have hT : TP D A [(h0, ob 7 [.ref h1, .ref h2, .int h0f2, .ref h3, .ref h4, .ref h5, .int h0f6, .ref h6, .int h0f8, .ref h7, .ref h8, .int h0f11, .ref h9, .ref h10, .ref h11, .ref h12, .ref h13]), (h4, aQ (k 3) 4 (q4 h18 h19 h20 h21)), (h18, ob 5 [.int h18f0, .int h18f1, .ref h46]), (h19, ob 5 [.int h19f0, .int h19f1, .ref h47]), (h46, aJ (k 1) 40 anJ), (h47, aJ (k 1) 40 anJ), (h48, aJ (k 1) 40 anJ), (h49, aJ (k 1) 40 anJ), (h20, ob 5 [.int h20f0, .int h20f1, .ref h48]), (h21, ob 5 [.int h21f0, .int h21f1, .ref h49])] _ := hT
                    refine lv_if_eq (tgt := 93) hx hb dX10_copy_87 (by decide) (fun cc => absurd cc (by decide +kernel)) (fun _ => ?_)
                    refine lv_bipush (v := (-12)) hx hb dX10_copy_90 (by decide) ?_
                    exact tz_retI (B := B_cX10_copy_c7a33 D k h0 h4 h18 h19 h20 h21 h46 h47 h48 h49 h1 h2 h3 h5 h6 h7 h8 h9 h10 h11 h12 h13 x1 x2 x3 x4 x5 h0f2 h0f6 h0f8 h0f11 h18f0 h18f1 h19f0 h19f1 h20f0 h20f1 h21f0 h21f1) (v := (-12)) hQ hx hb hr hlocks hS (Nat.le_of_ble_eq_true rfl) (Nat.le_of_ble_eq_true rfl) dX10_copy_92 (⟨(by have := li_m12; omega), (hT.sub [0, 1, 2, 3, 8, 9, 4, 5, 6, 7] (by decide) rfl)⟩)
                  · skip
                    have hT := J _ hT1
                    have hT : TP D A [(h0, ob 7 [.ref h1, .ref h2, .int h0f2, .ref h3, .ref h4, .ref h5, .int h0f6, .ref h6, .int h0f8, .ref h7, .ref h8, .int h0f11, .ref h9, .ref h10, .ref h11, .ref h12, .ref h13]), (h4, aQ (k 3) 4 (q4 h18 h19 h20 h21)), (h18, ob 5 [.int h18f0, .int h18f1, .ref h46]), (h19, ob 5 [.int h19f0, .int h19f1, .ref h47]), (h46, aJ (k 1) 40 anJ), (h47, aJ (k 1) 40 anJ), (h48, aJ (k 1) 40 anJ), (h49, aJ (k 1) 40 anJ), (h20, ob 5 [.int h20f0, .int h20f1, .ref h48]), (h21, ob 5 [.int h21f0, .int h21f1, .ref h49])] _ := hT
                    refine lv_if_eq (tgt := 93) hx hb dX10_copy_87 (by decide) (fun _ => ?_) (fun cc => absurd (by decide +kernel) cc)
                    refine lv_aload hx hb dX10_copy_93 (lv_at hl 1 rfl) ?_
                    refine tz_get (ci := 5) (v := .ref h48) (C := RX6) (F := TX6) (N := 3) hx hb hU iX6 hown hK hT 8 rfl rfl 2 (by decide) w241 (fun _ h9 => h9) rfl dX10_copy_95 ?_
                    refine lv_iload_n hx hb dX10_copy_98 rfl (lv_at hl 4 rfl) ?_
                    refine lv_aload hx hb dX10_copy_99 (lv_at hl 0 rfl) ?_
                    refine tz_get (ci := 5) (v := .ref h49) (C := RX6) (F := TX6) (N := 3) hx hb hU iX6 hown hK hT 9 rfl rfl 2 (by decide) w241 (fun _ h9 => h9) rfl dX10_copy_101 ?_
                    refine lv_iload hx hb dX10_copy_104 (lv_at hl 6 rfl) ?_
                    refine lv_iload hx hb dX10_copy_106 (lv_at hl 7 rfl) ?_
                    refine tz_copyl hx hb (by rw [hml]; exact hl.1.symm) hown hU w410 w348 w347 w75 hK hT hS 6 7 rfl rfl (by omega) (fun _ _ _ _ => trivial) (Nat.le_of_ble_eq_true rfl) (Nat.le_of_ble_eq_true rfl) dX10_copy_108 (fun H locs hT hS => ?_)
                    refine lv_iload hx hb dX10_copy_111 (lv_at hl 7 rfl) ?_
                    exact tz_retI (B := B_cX10_copy_c7a33 D k h0 h4 h18 h19 h20 h21 h46 h47 h48 h49 h1 h2 h3 h5 h6 h7 h8 h9 h10 h11 h12 h13 x1 x2 x3 x4 x5 h0f2 h0f6 h0f8 h0f11 h18f0 h18f1 h19f0 h19f1 h20f0 h20f1 h21f0 h21f1) (v := x5) hQ hx hb hr hlocks hS (Nat.le_of_ble_eq_true rfl) (Nat.le_of_ble_eq_true rfl) dX10_copy_113 (⟨(by omega), (hT.sub [0, 1, 2, 3, 8, 9, 4, 5, 6, 7] (by decide) rfl)⟩)
              · skip
                have c_158 := ni_ne c_158 rfl rfl
                refine lv_bipush (v := (-13)) hx hb dX10_copy_64 (by decide) ?_
                exact tz_retI (B := B_cX10_copy_c7a33 D k h0 h4 h18 h19 h20 h21 h46 h47 h48 h49 h1 h2 h3 h5 h6 h7 h8 h9 h10 h11 h12 h13 x1 x2 x3 x4 x5 h0f2 h0f6 h0f8 h0f11 h18f0 h18f1 h19f0 h19f1 h20f0 h20f1 h21f0 h21f1) (v := (-13)) hQ hx hb hr hlocks hS (Nat.le_of_ble_eq_true rfl) (Nat.le_of_ble_eq_true rfl) dX10_copy_66 (⟨(by have := li_m13; omega), (hT.sub [0, 1, 2, 3, 8, 9, 4, 5, 6, 7] (by decide) rfl)⟩)
            · skip
              have hT := J _ hT1
              have hT : TP D A [(h0, ob 7 [.ref h1, .ref h2, .int h0f2, .ref h3, .ref h4, .ref h5, .int h0f6, .ref h6, .int h0f8, .ref h7, .ref h8, .int h0f11, .ref h9, .ref h10, .ref h11, .ref h12, .ref h13]), (h4, aQ (k 3) 4 (q4 h18 h19 h20 h21)), (h18, ob 5 [.int h18f0, .int h18f1, .ref h46]), (h19, ob 5 [.int h19f0, .int h19f1, .ref h47]), (h46, aJ (k 1) 40 anJ), (h47, aJ (k 1) 40 anJ), (h48, aJ (k 1) 40 anJ), (h49, aJ (k 1) 40 anJ), (h20, ob 5 [.int h20f0, .int h20f1, .ref h48]), (h21, ob 5 [.int h21f0, .int h21f1, .ref h49])] _ := hT
              refine lv_if_eq (tgt := 51) hx hb dX10_copy_45 (by decide) (fun cc => absurd cc (by decide +kernel)) (fun _ => ?_)
              refine lv_bipush (v := (-11)) hx hb dX10_copy_48 (by decide) ?_
              exact tz_retI (B := B_cX10_copy_c7a33 D k h0 h4 h18 h19 h20 h21 h46 h47 h48 h49 h1 h2 h3 h5 h6 h7 h8 h9 h10 h11 h12 h13 x1 x2 x3 x4 x5 h0f2 h0f6 h0f8 h0f11 h18f0 h18f1 h19f0 h19f1 h20f0 h20f1 h21f0 h21f1) (v := (-11)) hQ hx hb hr hlocks hS (Nat.le_of_ble_eq_true rfl) (Nat.le_of_ble_eq_true rfl) dX10_copy_50 (⟨(by have := li_m11; omega), (hT.sub [0, 1, 2, 3, 8, 9, 4, 5, 6, 7] (by decide) rfl)⟩)
          · skip
            have hT := J _ hT1
            have hT : TP D A [(h0, ob 7 [.ref h1, .ref h2, .int h0f2, .ref h3, .ref h4, .ref h5, .int h0f6, .ref h6, .int h0f8, .ref h7, .ref h8, .int h0f11, .ref h9, .ref h10, .ref h11, .ref h12, .ref h13]), (h4, aQ (k 3) 4 (q4 h18 h19 h20 h21)), (h18, ob 5 [.int h18f0, .int h18f1, .ref h46]), (h19, ob 5 [.int h19f0, .int h19f1, .ref h47]), (h21, ob 5 [.int h21f0, .int h21f1, .ref h49]), (h46, aJ (k 1) 40 anJ), (h47, aJ (k 1) 40 anJ), (h48, aJ (k 1) 40 anJ), (h49, aJ (k 1) 40 anJ), (h20, ob 5 [.int h20f0, .int h20f1, .ref h48])] _ := hT
            refine lv_if_ne (tgt := 48) hx hb dX10_copy_37 (by decide) (fun _ => ?_) (fun cc => absurd cc (by decide +kernel))
            refine lv_bipush (v := (-11)) hx hb dX10_copy_48 (by decide) ?_
            exact tz_retI (B := B_cX10_copy_c7a33 D k h0 h4 h18 h19 h20 h21 h46 h47 h48 h49 h1 h2 h3 h5 h6 h7 h8 h9 h10 h11 h12 h13 x1 x2 x3 x4 x5 h0f2 h0f6 h0f8 h0f11 h18f0 h18f1 h19f0 h19f1 h20f0 h20f1 h21f0 h21f1) (v := (-11)) hQ hx hb hr hlocks hS (Nat.le_of_ble_eq_true rfl) (Nat.le_of_ble_eq_true rfl) dX10_copy_50 (⟨(by have := li_m11; omega), (hT.sub [0, 1, 2, 3, 9, 4, 5, 6, 7, 8] (by decide) rfl)⟩)
      · skip
        refine tz_aldq (b := h21) hx hb hK hT 1 rfl (vp_in_iff.mpr (by have := hq7; omega)) (fun f hf => by rw [cl_of hq7]; exact hf.2.2.2) dX10_copy_21 ?_
        refine lv_astore (lv' := [(6, .ref h21), (0, .ref h0), (1, .int x1), (2, .int x2), (3, .int x3), (4, .int x4), (5, .int x5)]) hx hb dX10_copy_22 hl (by decide) rfl (fun ls hl => ?_)
        refine lv_aload_n hx hb dX10_copy_24 rfl (lv_at hl 1 rfl) ?_
        refine tz_get (ci := 7) (v := .ref h4) (C := RX10) (F := TX10) (N := 17) hx hb hU iX10 hown hK hT 0 rfl rfl 4 (by decide) w253 (fun _ h9 => h9) rfl dX10_copy_25 ?_
        refine lv_iload_n hx hb dX10_copy_28 rfl (lv_at hl 4 rfl) ?_
        rcases (show x3.toInt = 0 ∨ x3.toInt = 1 ∨ x3.toInt = 2 ∨ x3.toInt = 3 by omega) with hq167 | hq167 | hq167 | hq167
        · skip
          refine tz_aldq (b := h18) hx hb hK hT 1 rfl (vp_in_iff.mpr (by have := hq167; omega)) (fun f hf => by rw [cl_of hq167]; exact hf.1) dX10_copy_29 ?_
          refine lv_astore (lv' := [(7, .ref h18), (6, .ref h21), (0, .ref h0), (1, .int x1), (2, .int x2), (3, .int x3), (4, .int x4), (5, .int x5)]) hx hb dX10_copy_30 hl (by decide) rfl (fun ls hl => ?_)
          refine lv_aload hx hb dX10_copy_32 (lv_at hl 1 rfl) ?_
          refine tcI (Tc := [(h21, ob 5 [.int h21f0, .int h21f1, .ref h49])]) (Tr := [(h0, ob 7 [.ref h1, .ref h2, .int h0f2, .ref h3, .ref h4, .ref h5, .int h0f6, .ref h6, .int h0f8, .ref h7, .ref h8, .int h0f11, .ref h9, .ref h10, .ref h11, .ref h12, .ref h13]), (h4, aQ (k 3) 4 (q4 h18 h19 h20 h21)), (h18, ob 5 [.int h18f0, .int h18f1, .ref h46]), (h19, ob 5 [.int h19f0, .int h19f1, .ref h47]), (h20, ob 5 [.int h20f0, .int h20f1, .ref h48]), (h46, aJ (k 1) 40 anJ), (h47, aJ (k 1) 40 anJ), (h48, aJ (k 1) 40 anJ), (h49, aJ (k 1) 40 anJ)]) (as := [h21]) (zcV (q0 := 5) (ci := 5) (As := []) (rest := []) (Tc := [(h21, ob 5 [.int h21f0, .int h21f1, .ref h49])]) hx hb hml hown hU hK hT rfl rfl [5] rfl (by decide) (cX6_isMissing_56a93 l D k _ h21 h49 h21f0 h21f1 (by omega) (by omega)) w644 w641 w642 w643 w71 hdX6_isMissing ⟨rfl, rfl⟩ ⟨Nat.le_of_ble_eq_true rfl, Nat.le_of_ble_eq_true rfl⟩ rfl hl.1 (Nat.le_of_ble_eq_true rfl) dX10_copy_34 ⟨Nat.le_of_ble_eq_true rfl, Nat.le_of_ble_eq_true rfl⟩) hT hS hA [5] [0, 1, 2, 3, 4, 6, 7, 8, 9] rfl rfl rfl (by decide) (by decide) (fun r168 H locs hB J hS => ?_)
          rcases hB with ⟨c_169, rfl, hT1⟩ | ⟨rfl, hT1⟩
          · skip
            have hT := J _ hT1
            have hT : TP D A [(h0, ob 7 [.ref h1, .ref h2, .int h0f2, .ref h3, .ref h4, .ref h5, .int h0f6, .ref h6, .int h0f8, .ref h7, .ref h8, .int h0f11, .ref h9, .ref h10, .ref h11, .ref h12, .ref h13]), (h4, aQ (k 3) 4 (q4 h18 h19 h20 h21)), (h18, ob 5 [.int h18f0, .int h18f1, .ref h46]), (h19, ob 5 [.int h19f0, .int h19f1, .ref h47]), (h20, ob 5 [.int h20f0, .int h20f1, .ref h48]), (h46, aJ (k 1) 40 anJ), (h47, aJ (k 1) 40 anJ), (h48, aJ (k 1) 40 anJ), (h49, aJ (k 1) 40 anJ), (h21, ob 5 [.int h21f0, .int h21f1, .ref h49])] _ := hT
            refine lv_if_ne (tgt := 48) hx hb dX10_copy_37 (by decide) (fun cc => absurd (by decide +kernel) cc) (fun _ => ?_)
            refine lv_aload hx hb dX10_copy_40 (lv_at hl 0 rfl) ?_
            refine tcI (Tc := [(h18, ob 5 [.int h18f0, .int h18f1, .ref h46])]) (Tr := [(h0, ob 7 [.ref h1, .ref h2, .int h0f2, .ref h3, .ref h4, .ref h5, .int h0f6, .ref h6, .int h0f8, .ref h7, .ref h8, .int h0f11, .ref h9, .ref h10, .ref h11, .ref h12, .ref h13]), (h4, aQ (k 3) 4 (q4 h18 h19 h20 h21)), (h19, ob 5 [.int h19f0, .int h19f1, .ref h47]), (h20, ob 5 [.int h20f0, .int h20f1, .ref h48]), (h46, aJ (k 1) 40 anJ), (h47, aJ (k 1) 40 anJ), (h48, aJ (k 1) 40 anJ), (h49, aJ (k 1) 40 anJ), (h21, ob 5 [.int h21f0, .int h21f1, .ref h49])]) (as := [h18]) (zcV (q0 := 2) (ci := 5) (As := []) (rest := []) (Tc := [(h18, ob 5 [.int h18f0, .int h18f1, .ref h46])]) hx hb hml hown hU hK hT rfl rfl [2] rfl (by decide) (cX6_isMissing_56a93 l D k _ h18 h46 h18f0 h18f1 (by omega) (by omega)) w644 w641 w642 w643 w71 hdX6_isMissing ⟨rfl, rfl⟩ ⟨Nat.le_of_ble_eq_true rfl, Nat.le_of_ble_eq_true rfl⟩ rfl hl.1 (Nat.le_of_ble_eq_true rfl) dX10_copy_42 ⟨Nat.le_of_ble_eq_true rfl, Nat.le_of_ble_eq_true rfl⟩) hT hS hA [2] [0, 1, 3, 4, 5, 6, 7, 8, 9] rfl rfl rfl (by decide) (by decide) (fun r170 H locs hB J hS => ?_)
            rcases hB with ⟨c_171, rfl, hT1⟩ | ⟨rfl, hT1⟩
            · skip
              have hT := J _ hT1
              have hT : TP D A [(h0, ob 7 [.ref h1, .ref h2, .int h0f2, .ref h3, .ref h4, .ref h5, .int h0f6, .ref h6, .int h0f8, .ref h7, .ref h8, .int h0f11, .ref h9, .ref h10, .ref h11, .ref h12, .ref h13]), (h4, aQ (k 3) 4 (q4 h18 h19 h20 h21)), (h19, ob 5 [.int h19f0, .int h19f1, .ref h47]), (h20, ob 5 [.int h20f0, .int h20f1, .ref h48]), (h46, aJ (k 1) 40 anJ), (h47, aJ (k 1) 40 anJ), (h48, aJ (k 1) 40 anJ), (h49, aJ (k 1) 40 anJ), (h21, ob 5 [.int h21f0, .int h21f1, .ref h49]), (h18, ob 5 [.int h18f0, .int h18f1, .ref h46])] _ := hT
              refine lv_if_eq (tgt := 51) hx hb dX10_copy_45 (by decide) (fun _ => ?_) (fun cc => absurd (by decide +kernel) cc)
              refine lv_aload hx hb dX10_copy_51 (lv_at hl 1 rfl) ?_
              refine tz_get (ci := 5) (v := .int h21f0) (C := RX6) (F := TX6) (N := 3) hx hb hU iX6 hown hK hT 8 rfl rfl 0 (by decide) w238 (fun _ h9 => h9) rfl dX10_copy_53 ?_
              refine lv_aload hx hb dX10_copy_56 (lv_at hl 0 rfl) ?_
              refine tz_get (ci := 5) (v := .int h18f0) (C := RX6) (F := TX6) (N := 3) hx hb hU iX6 hown hK hT 9 rfl rfl 0 (by decide) w238 (fun _ h9 => h9) rfl dX10_copy_58 ?_
              refine lv_icmp_eq (tgt := 67) hx hb dX10_copy_61 (by decide) (fun c_172 => ?_) (fun c_172 => ?_)
              · skip
                have c_172 := ni_eq c_172 rfl rfl
                refine lv_aload hx hb dX10_copy_67 (lv_at hl 1 rfl) ?_
                refine lv_iload_n hx hb dX10_copy_69 rfl (lv_at hl 4 rfl) ?_
                refine lv_iload hx hb dX10_copy_70 (lv_at hl 7 rfl) ?_
                refine tcI (Tc := [(h21, ob 5 [.int h21f0, .int h21f1, .ref h49])]) (Tr := [(h0, ob 7 [.ref h1, .ref h2, .int h0f2, .ref h3, .ref h4, .ref h5, .int h0f6, .ref h6, .int h0f8, .ref h7, .ref h8, .int h0f11, .ref h9, .ref h10, .ref h11, .ref h12, .ref h13]), (h4, aQ (k 3) 4 (q4 h18 h19 h20 h21)), (h19, ob 5 [.int h19f0, .int h19f1, .ref h47]), (h20, ob 5 [.int h20f0, .int h20f1, .ref h48]), (h46, aJ (k 1) 40 anJ), (h47, aJ (k 1) 40 anJ), (h48, aJ (k 1) 40 anJ), (h49, aJ (k 1) 40 anJ), (h18, ob 5 [.int h18f0, .int h18f1, .ref h46])]) (as := [h21]) (zcV (q0 := 8) (ci := 5) (As := [.int x2, .int x5]) (rest := []) (Tc := [(h21, ob 5 [.int h21f0, .int h21f1, .ref h49])]) hx hb hml hown hU hK hT rfl rfl [8] rfl (by decide) (cX6_isOutside_cc85b l D k _ h21 h49 x2 x5 h21f0 h21f1 (by omega) (by omega)) w648 w645 w646 w647 w71 hdX6_isOutside ⟨rfl, rfl⟩ ⟨Nat.le_of_ble_eq_true rfl, Nat.le_of_ble_eq_true rfl⟩ rfl hl.1 (Nat.le_of_ble_eq_true rfl) dX10_copy_72 ⟨Nat.le_of_ble_eq_true rfl, Nat.le_of_ble_eq_true rfl⟩) hT hS hA [8] [0, 1, 2, 3, 4, 5, 6, 7, 9] rfl rfl rfl (by decide) (by decide) (fun r173 H locs hB J hS => ?_)
                rcases hB with ⟨rfl, hT1⟩ | ⟨c_174, c_175, c_176, rfl, hT1⟩
                · skip
                  have hT := J _ hT1
                  have hT : TP D A [(h0, ob 7 [.ref h1, .ref h2, .int h0f2, .ref h3, .ref h4, .ref h5, .int h0f6, .ref h6, .int h0f8, .ref h7, .ref h8, .int h0f11, .ref h9, .ref h10, .ref h11, .ref h12, .ref h13]), (h4, aQ (k 3) 4 (q4 h18 h19 h20 h21)), (h19, ob 5 [.int h19f0, .int h19f1, .ref h47]), (h20, ob 5 [.int h20f0, .int h20f1, .ref h48]), (h46, aJ (k 1) 40 anJ), (h47, aJ (k 1) 40 anJ), (h48, aJ (k 1) 40 anJ), (h49, aJ (k 1) 40 anJ), (h18, ob 5 [.int h18f0, .int h18f1, .ref h46]), (h21, ob 5 [.int h21f0, .int h21f1, .ref h49])] _ := hT
                  refine lv_if_ne (tgt := 90) hx hb dX10_copy_75 (by decide) (fun _ => ?_) (fun cc => absurd cc (by decide +kernel))
                  refine lv_bipush (v := (-12)) hx hb dX10_copy_90 (by decide) ?_
                  exact tz_retI (B := B_cX10_copy_c7a33 D k h0 h4 h18 h19 h20 h21 h46 h47 h48 h49 h1 h2 h3 h5 h6 h7 h8 h9 h10 h11 h12 h13 x1 x2 x3 x4 x5 h0f2 h0f6 h0f8 h0f11 h18f0 h18f1 h19f0 h19f1 h20f0 h20f1 h21f0 h21f1) (v := (-12)) hQ hx hb hr hlocks hS (Nat.le_of_ble_eq_true rfl) (Nat.le_of_ble_eq_true rfl) dX10_copy_92 (⟨(by have := li_m12; omega), (hT.sub [0, 1, 8, 2, 3, 9, 4, 5, 6, 7] (by decide) rfl)⟩)
                · skip
                  have hT := J _ hT1
                  have hT : TP D A [(h0, ob 7 [.ref h1, .ref h2, .int h0f2, .ref h3, .ref h4, .ref h5, .int h0f6, .ref h6, .int h0f8, .ref h7, .ref h8, .int h0f11, .ref h9, .ref h10, .ref h11, .ref h12, .ref h13]), (h4, aQ (k 3) 4 (q4 h18 h19 h20 h21)), (h19, ob 5 [.int h19f0, .int h19f1, .ref h47]), (h20, ob 5 [.int h20f0, .int h20f1, .ref h48]), (h46, aJ (k 1) 40 anJ), (h47, aJ (k 1) 40 anJ), (h48, aJ (k 1) 40 anJ), (h49, aJ (k 1) 40 anJ), (h18, ob 5 [.int h18f0, .int h18f1, .ref h46]), (h21, ob 5 [.int h21f0, .int h21f1, .ref h49])] _ := hT
                  refine lv_if_ne (tgt := 90) hx hb dX10_copy_75 (by decide) (fun cc => absurd (by decide +kernel) cc) (fun _ => ?_)
                  refine lv_aload hx hb dX10_copy_78 (lv_at hl 0 rfl) ?_
                  refine lv_iload hx hb dX10_copy_80 (lv_at hl 6 rfl) ?_
                  refine lv_iload hx hb dX10_copy_82 (lv_at hl 7 rfl) ?_
                  refine tcI (Tc := [(h18, ob 5 [.int h18f0, .int h18f1, .ref h46])]) (Tr := [(h0, ob 7 [.ref h1, .ref h2, .int h0f2, .ref h3, .ref h4, .ref h5, .int h0f6, .ref h6, .int h0f8, .ref h7, .ref h8, .int h0f11, .ref h9, .ref h10, .ref h11, .ref h12, .ref h13]), (h4, aQ (k 3) 4 (q4 h18 h19 h20 h21)), (h19, ob 5 [.int h19f0, .int h19f1, .ref h47]), (h20, ob 5 [.int h20f0, .int h20f1, .ref h48]), (h46, aJ (k 1) 40 anJ), (h47, aJ (k 1) 40 anJ), (h48, aJ (k 1) 40 anJ), (h49, aJ (k 1) 40 anJ), (h21, ob 5 [.int h21f0, .int h21f1, .ref h49])]) (as := [h18]) (zcV (q0 := 8) (ci := 5) (As := [.int x4, .int x5]) (rest := []) (Tc := [(h18, ob 5 [.int h18f0, .int h18f1, .ref h46])]) hx hb hml hown hU hK hT rfl rfl [8] rfl (by decide) (cX6_isOutside_cc85b l D k _ h18 h46 x4 x5 h18f0 h18f1 (by omega) (by omega)) w648 w645 w646 w647 w71 hdX6_isOutside ⟨rfl, rfl⟩ ⟨Nat.le_of_ble_eq_true rfl, Nat.le_of_ble_eq_true rfl⟩ rfl hl.1 (Nat.le_of_ble_eq_true rfl) dX10_copy_84 ⟨Nat.le_of_ble_eq_true rfl, Nat.le_of_ble_eq_true rfl⟩) hT hS hA [8] [0, 1, 2, 3, 4, 5, 6, 7, 9] rfl rfl rfl (by decide) (by decide) (fun r177 H locs hB J hS => ?_)
                  rcases hB with ⟨rfl, hT1⟩ | ⟨c_178, c_179, c_180, rfl, hT1⟩
                  · skip
                    have hT := J _ hT1
                    have hT : TP D A [(h0, ob 7 [.ref h1, .ref h2, .int h0f2, .ref h3, .ref h4, .ref h5, .int h0f6, .ref h6, .int h0f8, .ref h7, .ref h8, .int h0f11, .ref h9, .ref h10, .ref h11, .ref h12, .ref h13]), (h4, aQ (k 3) 4 (q4 h18 h19 h20 h21)), (h19, ob 5 [.int h19f0, .int h19f1, .ref h47]), (h20, ob 5 [.int h20f0, .int h20f1, .ref h48]), (h46, aJ (k 1) 40 anJ), (h47, aJ (k 1) 40 anJ), (h48, aJ (k 1) 40 anJ), (h49, aJ (k 1) 40 anJ), (h21, ob 5 [.int h21f0, .int h21f1, .ref h49]), (h18, ob 5 [.int h18f0, .int h18f1, .ref h46])] _ := hT
                    refine lv_if_eq (tgt := 93) hx hb dX10_copy_87 (by decide) (fun cc => absurd cc (by decide +kernel)) (fun _ => ?_)
                    refine lv_bipush (v := (-12)) hx hb dX10_copy_90 (by decide) ?_
                    exact tz_retI (B := B_cX10_copy_c7a33 D k h0 h4 h18 h19 h20 h21 h46 h47 h48 h49 h1 h2 h3 h5 h6 h7 h8 h9 h10 h11 h12 h13 x1 x2 x3 x4 x5 h0f2 h0f6 h0f8 h0f11 h18f0 h18f1 h19f0 h19f1 h20f0 h20f1 h21f0 h21f1) (v := (-12)) hQ hx hb hr hlocks hS (Nat.le_of_ble_eq_true rfl) (Nat.le_of_ble_eq_true rfl) dX10_copy_92 (⟨(by have := li_m12; omega), (hT.sub [0, 1, 9, 2, 3, 8, 4, 5, 6, 7] (by decide) rfl)⟩)
                  · skip
                    have hT := J _ hT1
                    have hT : TP D A [(h0, ob 7 [.ref h1, .ref h2, .int h0f2, .ref h3, .ref h4, .ref h5, .int h0f6, .ref h6, .int h0f8, .ref h7, .ref h8, .int h0f11, .ref h9, .ref h10, .ref h11, .ref h12, .ref h13]), (h4, aQ (k 3) 4 (q4 h18 h19 h20 h21)), (h19, ob 5 [.int h19f0, .int h19f1, .ref h47]), (h20, ob 5 [.int h20f0, .int h20f1, .ref h48]), (h46, aJ (k 1) 40 anJ), (h47, aJ (k 1) 40 anJ), (h48, aJ (k 1) 40 anJ), (h49, aJ (k 1) 40 anJ), (h21, ob 5 [.int h21f0, .int h21f1, .ref h49]), (h18, ob 5 [.int h18f0, .int h18f1, .ref h46])] _ := hT
                    refine lv_if_eq (tgt := 93) hx hb dX10_copy_87 (by decide) (fun _ => ?_) (fun cc => absurd (by decide +kernel) cc)
                    refine lv_aload hx hb dX10_copy_93 (lv_at hl 1 rfl) ?_
                    refine tz_get (ci := 5) (v := .ref h49) (C := RX6) (F := TX6) (N := 3) hx hb hU iX6 hown hK hT 8 rfl rfl 2 (by decide) w241 (fun _ h9 => h9) rfl dX10_copy_95 ?_
                    refine lv_iload_n hx hb dX10_copy_98 rfl (lv_at hl 4 rfl) ?_
                    refine lv_aload hx hb dX10_copy_99 (lv_at hl 0 rfl) ?_
                    refine tz_get (ci := 5) (v := .ref h46) (C := RX6) (F := TX6) (N := 3) hx hb hU iX6 hown hK hT 9 rfl rfl 2 (by decide) w241 (fun _ h9 => h9) rfl dX10_copy_101 ?_
                    refine lv_iload hx hb dX10_copy_104 (lv_at hl 6 rfl) ?_
                    refine lv_iload hx hb dX10_copy_106 (lv_at hl 7 rfl) ?_
                    refine tz_copyl hx hb (by rw [hml]; exact hl.1.symm) hown hU w410 w348 w347 w75 hK hT hS 7 4 rfl rfl (by omega) (fun _ _ _ _ => trivial) (Nat.le_of_ble_eq_true rfl) (Nat.le_of_ble_eq_true rfl) dX10_copy_108 (fun H locs hT hS => ?_)
                    refine lv_iload hx hb dX10_copy_111 (lv_at hl 7 rfl) ?_
                    exact tz_retI (B := B_cX10_copy_c7a33 D k h0 h4 h18 h19 h20 h21 h46 h47 h48 h49 h1 h2 h3 h5 h6 h7 h8 h9 h10 h11 h12 h13 x1 x2 x3 x4 x5 h0f2 h0f6 h0f8 h0f11 h18f0 h18f1 h19f0 h19f1 h20f0 h20f1 h21f0 h21f1) (v := x5) hQ hx hb hr hlocks hS (Nat.le_of_ble_eq_true rfl) (Nat.le_of_ble_eq_true rfl) dX10_copy_113 (⟨(by omega), (hT.sub [0, 1, 9, 2, 3, 8, 4, 5, 6, 7] (by decide) rfl)⟩)
              · skip
                have c_172 := ni_ne c_172 rfl rfl
                refine lv_bipush (v := (-13)) hx hb dX10_copy_64 (by decide) ?_
                exact tz_retI (B := B_cX10_copy_c7a33 D k h0 h4 h18 h19 h20 h21 h46 h47 h48 h49 h1 h2 h3 h5 h6 h7 h8 h9 h10 h11 h12 h13 x1 x2 x3 x4 x5 h0f2 h0f6 h0f8 h0f11 h18f0 h18f1 h19f0 h19f1 h20f0 h20f1 h21f0 h21f1) (v := (-13)) hQ hx hb hr hlocks hS (Nat.le_of_ble_eq_true rfl) (Nat.le_of_ble_eq_true rfl) dX10_copy_66 (⟨(by have := li_m13; omega), (hT.sub [0, 1, 9, 2, 3, 8, 4, 5, 6, 7] (by decide) rfl)⟩)
            · skip
              have hT := J _ hT1
              have hT : TP D A [(h0, ob 7 [.ref h1, .ref h2, .int h0f2, .ref h3, .ref h4, .ref h5, .int h0f6, .ref h6, .int h0f8, .ref h7, .ref h8, .int h0f11, .ref h9, .ref h10, .ref h11, .ref h12, .ref h13]), (h4, aQ (k 3) 4 (q4 h18 h19 h20 h21)), (h19, ob 5 [.int h19f0, .int h19f1, .ref h47]), (h20, ob 5 [.int h20f0, .int h20f1, .ref h48]), (h46, aJ (k 1) 40 anJ), (h47, aJ (k 1) 40 anJ), (h48, aJ (k 1) 40 anJ), (h49, aJ (k 1) 40 anJ), (h21, ob 5 [.int h21f0, .int h21f1, .ref h49]), (h18, ob 5 [.int h18f0, .int h18f1, .ref h46])] _ := hT
              refine lv_if_eq (tgt := 51) hx hb dX10_copy_45 (by decide) (fun cc => absurd cc (by decide +kernel)) (fun _ => ?_)
              refine lv_bipush (v := (-11)) hx hb dX10_copy_48 (by decide) ?_
              exact tz_retI (B := B_cX10_copy_c7a33 D k h0 h4 h18 h19 h20 h21 h46 h47 h48 h49 h1 h2 h3 h5 h6 h7 h8 h9 h10 h11 h12 h13 x1 x2 x3 x4 x5 h0f2 h0f6 h0f8 h0f11 h18f0 h18f1 h19f0 h19f1 h20f0 h20f1 h21f0 h21f1) (v := (-11)) hQ hx hb hr hlocks hS (Nat.le_of_ble_eq_true rfl) (Nat.le_of_ble_eq_true rfl) dX10_copy_50 (⟨(by have := li_m11; omega), (hT.sub [0, 1, 9, 2, 3, 8, 4, 5, 6, 7] (by decide) rfl)⟩)
          · skip
            have hT := J _ hT1
            have hT : TP D A [(h0, ob 7 [.ref h1, .ref h2, .int h0f2, .ref h3, .ref h4, .ref h5, .int h0f6, .ref h6, .int h0f8, .ref h7, .ref h8, .int h0f11, .ref h9, .ref h10, .ref h11, .ref h12, .ref h13]), (h4, aQ (k 3) 4 (q4 h18 h19 h20 h21)), (h18, ob 5 [.int h18f0, .int h18f1, .ref h46]), (h19, ob 5 [.int h19f0, .int h19f1, .ref h47]), (h20, ob 5 [.int h20f0, .int h20f1, .ref h48]), (h46, aJ (k 1) 40 anJ), (h47, aJ (k 1) 40 anJ), (h48, aJ (k 1) 40 anJ), (h49, aJ (k 1) 40 anJ), (h21, ob 5 [.int h21f0, .int h21f1, .ref h49])] _ := hT
            refine lv_if_ne (tgt := 48) hx hb dX10_copy_37 (by decide) (fun _ => ?_) (fun cc => absurd cc (by decide +kernel))
            refine lv_bipush (v := (-11)) hx hb dX10_copy_48 (by decide) ?_
            exact tz_retI (B := B_cX10_copy_c7a33 D k h0 h4 h18 h19 h20 h21 h46 h47 h48 h49 h1 h2 h3 h5 h6 h7 h8 h9 h10 h11 h12 h13 x1 x2 x3 x4 x5 h0f2 h0f6 h0f8 h0f11 h18f0 h18f1 h19f0 h19f1 h20f0 h20f1 h21f0 h21f1) (v := (-11)) hQ hx hb hr hlocks hS (Nat.le_of_ble_eq_true rfl) (Nat.le_of_ble_eq_true rfl) dX10_copy_50 (⟨(by have := li_m11; omega), (hT.sub [0, 1, 2, 3, 4, 9, 5, 6, 7, 8] (by decide) rfl)⟩)
        · skip
          refine tz_aldq (b := h19) hx hb hK hT 1 rfl (vp_in_iff.mpr (by have := hq167; omega)) (fun f hf => by rw [cl_of hq167]; exact hf.2.1) dX10_copy_29 ?_
          refine lv_astore (lv' := [(7, .ref h19), (6, .ref h21), (0, .ref h0), (1, .int x1), (2, .int x2), (3, .int x3), (4, .int x4), (5, .int x5)]) hx hb dX10_copy_30 hl (by decide) rfl (fun ls hl => ?_)
          refine lv_aload hx hb dX10_copy_32 (lv_at hl 1 rfl) ?_
          refine tcI (Tc := [(h21, ob 5 [.int h21f0, .int h21f1, .ref h49])]) (Tr := [(h0, ob 7 [.ref h1, .ref h2, .int h0f2, .ref h3, .ref h4, .ref h5, .int h0f6, .ref h6, .int h0f8, .ref h7, .ref h8, .int h0f11, .ref h9, .ref h10, .ref h11, .ref h12, .ref h13]), (h4, aQ (k 3) 4 (q4 h18 h19 h20 h21)), (h18, ob 5 [.int h18f0, .int h18f1, .ref h46]), (h19, ob 5 [.int h19f0, .int h19f1, .ref h47]), (h20, ob 5 [.int h20f0, .int h20f1, .ref h48]), (h46, aJ (k 1) 40 anJ), (h47, aJ (k 1) 40 anJ), (h48, aJ (k 1) 40 anJ), (h49, aJ (k 1) 40 anJ)]) (as := [h21]) (zcV (q0 := 5) (ci := 5) (As := []) (rest := []) (Tc := [(h21, ob 5 [.int h21f0, .int h21f1, .ref h49])]) hx hb hml hown hU hK hT rfl rfl [5] rfl (by decide) (cX6_isMissing_56a93 l D k _ h21 h49 h21f0 h21f1 (by omega) (by omega)) w644 w641 w642 w643 w71 hdX6_isMissing ⟨rfl, rfl⟩ ⟨Nat.le_of_ble_eq_true rfl, Nat.le_of_ble_eq_true rfl⟩ rfl hl.1 (Nat.le_of_ble_eq_true rfl) dX10_copy_34 ⟨Nat.le_of_ble_eq_true rfl, Nat.le_of_ble_eq_true rfl⟩) hT hS hA [5] [0, 1, 2, 3, 4, 6, 7, 8, 9] rfl rfl rfl (by decide) (by decide) (fun r181 H locs hB J hS => ?_)
          rcases hB with ⟨c_182, rfl, hT1⟩ | ⟨rfl, hT1⟩
          · skip
            have hT := J _ hT1
            have hT : TP D A [(h0, ob 7 [.ref h1, .ref h2, .int h0f2, .ref h3, .ref h4, .ref h5, .int h0f6, .ref h6, .int h0f8, .ref h7, .ref h8, .int h0f11, .ref h9, .ref h10, .ref h11, .ref h12, .ref h13]), (h4, aQ (k 3) 4 (q4 h18 h19 h20 h21)), (h18, ob 5 [.int h18f0, .int h18f1, .ref h46]), (h19, ob 5 [.int h19f0, .int h19f1, .ref h47]), (h20, ob 5 [.int h20f0, .int h20f1, .ref h48]), (h46, aJ (k 1) 40 anJ), (h47, aJ (k 1) 40 anJ), (h48, aJ (k 1) 40 anJ), (h49, aJ (k 1) 40 anJ), (h21, ob 5 [.int h21f0, .int h21f1, .ref h49])] _ := hT
            refine lv_if_ne (tgt := 48) hx hb dX10_copy_37 (by decide) (fun cc => absurd (by decide +kernel) cc) (fun _ => ?_)
            refine lv_aload hx hb dX10_copy_40 (lv_at hl 0 rfl) ?_
            refine tcI (Tc := [(h19, ob 5 [.int h19f0, .int h19f1, .ref h47])]) (Tr := [(h0, ob 7 [.ref h1, .ref h2, .int h0f2, .ref h3, .ref h4, .ref h5, .int h0f6, .ref h6, .int h0f8, .ref h7, .ref h8, .int h0f11, .ref h9, .ref h10, .ref h11, .ref h12, .ref h13]), (h4, aQ (k 3) 4 (q4 h18 h19 h20 h21)), (h18, ob 5 [.int h18f0, .int h18f1, .ref h46]), (h20, ob 5 [.int h20f0, .int h20f1, .ref h48]), (h46, aJ (k 1) 40 anJ), (h47, aJ (k 1) 40 anJ), (h48, aJ (k 1) 40 anJ), (h49, aJ (k 1) 40 anJ), (h21, ob 5 [.int h21f0, .int h21f1, .ref h49])]) (as := [h19]) (zcV (q0 := 3) (ci := 5) (As := []) (rest := []) (Tc := [(h19, ob 5 [.int h19f0, .int h19f1, .ref h47])]) hx hb hml hown hU hK hT rfl rfl [3] rfl (by decide) (cX6_isMissing_56a93 l D k _ h19 h47 h19f0 h19f1 (by omega) (by omega)) w644 w641 w642 w643 w71 hdX6_isMissing ⟨rfl, rfl⟩ ⟨Nat.le_of_ble_eq_true rfl, Nat.le_of_ble_eq_true rfl⟩ rfl hl.1 (Nat.le_of_ble_eq_true rfl) dX10_copy_42 ⟨Nat.le_of_ble_eq_true rfl, Nat.le_of_ble_eq_true rfl⟩) hT hS hA [3] [0, 1, 2, 4, 5, 6, 7, 8, 9] rfl rfl rfl (by decide) (by decide) (fun r183 H locs hB J hS => ?_)
            rcases hB with ⟨c_184, rfl, hT1⟩ | ⟨rfl, hT1⟩
            · skip
              have hT := J _ hT1
              have hT : TP D A [(h0, ob 7 [.ref h1, .ref h2, .int h0f2, .ref h3, .ref h4, .ref h5, .int h0f6, .ref h6, .int h0f8, .ref h7, .ref h8, .int h0f11, .ref h9, .ref h10, .ref h11, .ref h12, .ref h13]), (h4, aQ (k 3) 4 (q4 h18 h19 h20 h21)), (h18, ob 5 [.int h18f0, .int h18f1, .ref h46]), (h20, ob 5 [.int h20f0, .int h20f1, .ref h48]), (h46, aJ (k 1) 40 anJ), (h47, aJ (k 1) 40 anJ), (h48, aJ (k 1) 40 anJ), (h49, aJ (k 1) 40 anJ), (h21, ob 5 [.int h21f0, .int h21f1, .ref h49]), (h19, ob 5 [.int h19f0, .int h19f1, .ref h47])] _ := hT
              refine lv_if_eq (tgt := 51) hx hb dX10_copy_45 (by decide) (fun _ => ?_) (fun cc => absurd (by decide +kernel) cc)
              refine lv_aload hx hb dX10_copy_51 (lv_at hl 1 rfl) ?_
              refine tz_get (ci := 5) (v := .int h21f0) (C := RX6) (F := TX6) (N := 3) hx hb hU iX6 hown hK hT 8 rfl rfl 0 (by decide) w238 (fun _ h9 => h9) rfl dX10_copy_53 ?_
              refine lv_aload hx hb dX10_copy_56 (lv_at hl 0 rfl) ?_
              refine tz_get (ci := 5) (v := .int h19f0) (C := RX6) (F := TX6) (N := 3) hx hb hU iX6 hown hK hT 9 rfl rfl 0 (by decide) w238 (fun _ h9 => h9) rfl dX10_copy_58 ?_
              refine lv_icmp_eq (tgt := 67) hx hb dX10_copy_61 (by decide) (fun c_185 => ?_) (fun c_185 => ?_)
              · skip
                have c_185 := ni_eq c_185 rfl rfl
                refine lv_aload hx hb dX10_copy_67 (lv_at hl 1 rfl) ?_
                refine lv_iload_n hx hb dX10_copy_69 rfl (lv_at hl 4 rfl) ?_
                refine lv_iload hx hb dX10_copy_70 (lv_at hl 7 rfl) ?_
                refine tcI (Tc := [(h21, ob 5 [.int h21f0, .int h21f1, .ref h49])]) (Tr := [(h0, ob 7 [.ref h1, .ref h2, .int h0f2, .ref h3, .ref h4, .ref h5, .int h0f6, .ref h6, .int h0f8, .ref h7, .ref h8, .int h0f11, .ref h9, .ref h10, .ref h11, .ref h12, .ref h13]), (h4, aQ (k 3) 4 (q4 h18 h19 h20 h21)), (h18, ob 5 [.int h18f0, .int h18f1, .ref h46]), (h20, ob 5 [.int h20f0, .int h20f1, .ref h48]), (h46, aJ (k 1) 40 anJ), (h47, aJ (k 1) 40 anJ), (h48, aJ (k 1) 40 anJ), (h49, aJ (k 1) 40 anJ), (h19, ob 5 [.int h19f0, .int h19f1, .ref h47])]) (as := [h21]) (zcV (q0 := 8) (ci := 5) (As := [.int x2, .int x5]) (rest := []) (Tc := [(h21, ob 5 [.int h21f0, .int h21f1, .ref h49])]) hx hb hml hown hU hK hT rfl rfl [8] rfl (by decide) (cX6_isOutside_cc85b l D k _ h21 h49 x2 x5 h21f0 h21f1 (by omega) (by omega)) w648 w645 w646 w647 w71 hdX6_isOutside ⟨rfl, rfl⟩ ⟨Nat.le_of_ble_eq_true rfl, Nat.le_of_ble_eq_true rfl⟩ rfl hl.1 (Nat.le_of_ble_eq_true rfl) dX10_copy_72 ⟨Nat.le_of_ble_eq_true rfl, Nat.le_of_ble_eq_true rfl⟩) hT hS hA [8] [0, 1, 2, 3, 4, 5, 6, 7, 9] rfl rfl rfl (by decide) (by decide) (fun r186 H locs hB J hS => ?_)
                rcases hB with ⟨rfl, hT1⟩ | ⟨c_187, c_188, c_189, rfl, hT1⟩
                · skip
                  have hT := J _ hT1
                  have hT : TP D A [(h0, ob 7 [.ref h1, .ref h2, .int h0f2, .ref h3, .ref h4, .ref h5, .int h0f6, .ref h6, .int h0f8, .ref h7, .ref h8, .int h0f11, .ref h9, .ref h10, .ref h11, .ref h12, .ref h13]), (h4, aQ (k 3) 4 (q4 h18 h19 h20 h21)), (h18, ob 5 [.int h18f0, .int h18f1, .ref h46]), (h20, ob 5 [.int h20f0, .int h20f1, .ref h48]), (h46, aJ (k 1) 40 anJ), (h47, aJ (k 1) 40 anJ), (h48, aJ (k 1) 40 anJ), (h49, aJ (k 1) 40 anJ), (h19, ob 5 [.int h19f0, .int h19f1, .ref h47]), (h21, ob 5 [.int h21f0, .int h21f1, .ref h49])] _ := hT
                  refine lv_if_ne (tgt := 90) hx hb dX10_copy_75 (by decide) (fun _ => ?_) (fun cc => absurd cc (by decide +kernel))
                  refine lv_bipush (v := (-12)) hx hb dX10_copy_90 (by decide) ?_
                  exact tz_retI (B := B_cX10_copy_c7a33 D k h0 h4 h18 h19 h20 h21 h46 h47 h48 h49 h1 h2 h3 h5 h6 h7 h8 h9 h10 h11 h12 h13 x1 x2 x3 x4 x5 h0f2 h0f6 h0f8 h0f11 h18f0 h18f1 h19f0 h19f1 h20f0 h20f1 h21f0 h21f1) (v := (-12)) hQ hx hb hr hlocks hS (Nat.le_of_ble_eq_true rfl) (Nat.le_of_ble_eq_true rfl) dX10_copy_92 (⟨(by have := li_m12; omega), (hT.sub [0, 1, 2, 8, 3, 9, 4, 5, 6, 7] (by decide) rfl)⟩)
                · skip
                  have hT := J _ hT1
                  have hT : TP D A [(h0, ob 7 [.ref h1, .ref h2, .int h0f2, .ref h3, .ref h4, .ref h5, .int h0f6, .ref h6, .int h0f8, .ref h7, .ref h8, .int h0f11, .ref h9, .ref h10, .ref h11, .ref h12, .ref h13]), (h4, aQ (k 3) 4 (q4 h18 h19 h20 h21)), (h18, ob 5 [.int h18f0, .int h18f1, .ref h46]), (h20, ob 5 [.int h20f0, .int h20f1, .ref h48]), (h46, aJ (k 1) 40 anJ), (h47, aJ (k 1) 40 anJ), (h48, aJ (k 1) 40 anJ), (h49, aJ (k 1) 40 anJ), (h19, ob 5 [.int h19f0, .int h19f1, .ref h47]), (h21, ob 5 [.int h21f0, .int h21f1, .ref h49])] _ := hT
                  refine lv_if_ne (tgt := 90) hx hb dX10_copy_75 (by decide) (fun cc => absurd (by decide +kernel) cc) (fun _ => ?_)
                  refine lv_aload hx hb dX10_copy_78 (lv_at hl 0 rfl) ?_
                  refine lv_iload hx hb dX10_copy_80 (lv_at hl 6 rfl) ?_
                  refine lv_iload hx hb dX10_copy_82 (lv_at hl 7 rfl) ?_
                  refine tcI (Tc := [(h19, ob 5 [.int h19f0, .int h19f1, .ref h47])]) (Tr := [(h0, ob 7 [.ref h1, .ref h2, .int h0f2, .ref h3, .ref h4, .ref h5, .int h0f6, .ref h6, .int h0f8, .ref h7, .ref h8, .int h0f11, .ref h9, .ref h10, .ref h11, .ref h12, .ref h13]), (h4, aQ (k 3) 4 (q4 h18 h19 h20 h21)), (h18, ob 5 [.int h18f0, .int h18f1, .ref h46]), (h20, ob 5 [.int h20f0, .int h20f1, .ref h48]), (h46, aJ (k 1) 40 anJ), (h47, aJ (k 1) 40 anJ), (h48, aJ (k 1) 40 anJ), (h49, aJ (k 1) 40 anJ), (h21, ob 5 [.int h21f0, .int h21f1, .ref h49])]) (as := [h19]) (zcV (q0 := 8) (ci := 5) (As := [.int x4, .int x5]) (rest := []) (Tc := [(h19, ob 5 [.int h19f0, .int h19f1, .ref h47])]) hx hb hml hown hU hK hT rfl rfl [8] rfl (by decide) (cX6_isOutside_cc85b l D k _ h19 h47 x4 x5 h19f0 h19f1 (by omega) (by omega)) w648 w645 w646 w647 w71 hdX6_isOutside ⟨rfl, rfl⟩ ⟨Nat.le_of_ble_eq_true rfl, Nat.le_of_ble_eq_true rfl⟩ rfl hl.1 (Nat.le_of_ble_eq_true rfl) dX10_copy_84 ⟨Nat.le_of_ble_eq_true rfl, Nat.le_of_ble_eq_true rfl⟩) hT hS hA [8] [0, 1, 2, 3, 4, 5, 6, 7, 9] rfl rfl rfl (by decide) (by decide) (fun r190 H locs hB J hS => ?_)
                  rcases hB with ⟨rfl, hT1⟩ | ⟨c_191, c_192, c_193, rfl, hT1⟩
                  · skip
                    have hT := J _ hT1
                    have hT : TP D A [(h0, ob 7 [.ref h1, .ref h2, .int h0f2, .ref h3, .ref h4, .ref h5, .int h0f6, .ref h6, .int h0f8, .ref h7, .ref h8, .int h0f11, .ref h9, .ref h10, .ref h11, .ref h12, .ref h13]), (h4, aQ (k 3) 4 (q4 h18 h19 h20 h21)), (h18, ob 5 [.int h18f0, .int h18f1, .ref h46]), (h20, ob 5 [.int h20f0, .int h20f1, .ref h48]), (h46, aJ (k 1) 40 anJ), (h47, aJ (k 1) 40 anJ), (h48, aJ (k 1) 40 anJ), (h49, aJ (k 1) 40 anJ), (h21, ob 5 [.int h21f0, .int h21f1, .ref h49]), (h19, ob 5 [.int h19f0, .int h19f1, .ref h47])] _ := hT
                    refine lv_if_eq (tgt := 93) hx hb dX10_copy_87 (by decide) (fun cc => absurd cc (by decide +kernel)) (fun _ => ?_)
                    refine lv_bipush (v := (-12)) hx hb dX10_copy_90 (by decide) ?_
                    exact tz_retI (B := B_cX10_copy_c7a33 D k h0 h4 h18 h19 h20 h21 h46 h47 h48 h49 h1 h2 h3 h5 h6 h7 h8 h9 h10 h11 h12 h13 x1 x2 x3 x4 x5 h0f2 h0f6 h0f8 h0f11 h18f0 h18f1 h19f0 h19f1 h20f0 h20f1 h21f0 h21f1) (v := (-12)) hQ hx hb hr hlocks hS (Nat.le_of_ble_eq_true rfl) (Nat.le_of_ble_eq_true rfl) dX10_copy_92 (⟨(by have := li_m12; omega), (hT.sub [0, 1, 2, 9, 3, 8, 4, 5, 6, 7] (by decide) rfl)⟩)
                  · skip
                    have hT := J _ hT1
                    have hT : TP D A [(h0, ob 7 [.ref h1, .ref h2, .int h0f2, .ref h3, .ref h4, .ref h5, .int h0f6, .ref h6, .int h0f8, .ref h7, .ref h8, .int h0f11, .ref h9, .ref h10, .ref h11, .ref h12, .ref h13]), (h4, aQ (k 3) 4 (q4 h18 h19 h20 h21)), (h18, ob 5 [.int h18f0, .int h18f1, .ref h46]), (h20, ob 5 [.int h20f0, .int h20f1, .ref h48]), (h46, aJ (k 1) 40 anJ), (h47, aJ (k 1) 40 anJ), (h48, aJ (k 1) 40 anJ), (h49, aJ (k 1) 40 anJ), (h21, ob 5 [.int h21f0, .int h21f1, .ref h49]), (h19, ob 5 [.int h19f0, .int h19f1, .ref h47])] _ := hT
                    refine lv_if_eq (tgt := 93) hx hb dX10_copy_87 (by decide) (fun _ => ?_) (fun cc => absurd (by decide +kernel) cc)
                    refine lv_aload hx hb dX10_copy_93 (lv_at hl 1 rfl) ?_
                    refine tz_get (ci := 5) (v := .ref h49) (C := RX6) (F := TX6) (N := 3) hx hb hU iX6 hown hK hT 8 rfl rfl 2 (by decide) w241 (fun _ h9 => h9) rfl dX10_copy_95 ?_
                    refine lv_iload_n hx hb dX10_copy_98 rfl (lv_at hl 4 rfl) ?_
                    refine lv_aload hx hb dX10_copy_99 (lv_at hl 0 rfl) ?_
                    refine tz_get (ci := 5) (v := .ref h47) (C := RX6) (F := TX6) (N := 3) hx hb hU iX6 hown hK hT 9 rfl rfl 2 (by decide) w241 (fun _ h9 => h9) rfl dX10_copy_101 ?_
                    refine lv_iload hx hb dX10_copy_104 (lv_at hl 6 rfl) ?_
                    refine lv_iload hx hb dX10_copy_106 (lv_at hl 7 rfl) ?_
                    refine tz_copyl hx hb (by rw [hml]; exact hl.1.symm) hown hU w410 w348 w347 w75 hK hT hS 7 5 rfl rfl (by omega) (fun _ _ _ _ => trivial) (Nat.le_of_ble_eq_true rfl) (Nat.le_of_ble_eq_true rfl) dX10_copy_108 (fun H locs hT hS => ?_)
                    refine lv_iload hx hb dX10_copy_111 (lv_at hl 7 rfl) ?_
                    exact tz_retI (B := B_cX10_copy_c7a33 D k h0 h4 h18 h19 h20 h21 h46 h47 h48 h49 h1 h2 h3 h5 h6 h7 h8 h9 h10 h11 h12 h13 x1 x2 x3 x4 x5 h0f2 h0f6 h0f8 h0f11 h18f0 h18f1 h19f0 h19f1 h20f0 h20f1 h21f0 h21f1) (v := x5) hQ hx hb hr hlocks hS (Nat.le_of_ble_eq_true rfl) (Nat.le_of_ble_eq_true rfl) dX10_copy_113 (⟨(by omega), (hT.sub [0, 1, 2, 9, 3, 8, 4, 5, 6, 7] (by decide) rfl)⟩)
              · skip
                have c_185 := ni_ne c_185 rfl rfl
                refine lv_bipush (v := (-13)) hx hb dX10_copy_64 (by decide) ?_
                exact tz_retI (B := B_cX10_copy_c7a33 D k h0 h4 h18 h19 h20 h21 h46 h47 h48 h49 h1 h2 h3 h5 h6 h7 h8 h9 h10 h11 h12 h13 x1 x2 x3 x4 x5 h0f2 h0f6 h0f8 h0f11 h18f0 h18f1 h19f0 h19f1 h20f0 h20f1 h21f0 h21f1) (v := (-13)) hQ hx hb hr hlocks hS (Nat.le_of_ble_eq_true rfl) (Nat.le_of_ble_eq_true rfl) dX10_copy_66 (⟨(by have := li_m13; omega), (hT.sub [0, 1, 2, 9, 3, 8, 4, 5, 6, 7] (by decide) rfl)⟩)
            · skip
              have hT := J _ hT1
              have hT : TP D A [(h0, ob 7 [.ref h1, .ref h2, .int h0f2, .ref h3, .ref h4, .ref h5, .int h0f6, .ref h6, .int h0f8, .ref h7, .ref h8, .int h0f11, .ref h9, .ref h10, .ref h11, .ref h12, .ref h13]), (h4, aQ (k 3) 4 (q4 h18 h19 h20 h21)), (h18, ob 5 [.int h18f0, .int h18f1, .ref h46]), (h20, ob 5 [.int h20f0, .int h20f1, .ref h48]), (h46, aJ (k 1) 40 anJ), (h47, aJ (k 1) 40 anJ), (h48, aJ (k 1) 40 anJ), (h49, aJ (k 1) 40 anJ), (h21, ob 5 [.int h21f0, .int h21f1, .ref h49]), (h19, ob 5 [.int h19f0, .int h19f1, .ref h47])] _ := hT
              refine lv_if_eq (tgt := 51) hx hb dX10_copy_45 (by decide) (fun cc => absurd cc (by decide +kernel)) (fun _ => ?_)
              refine lv_bipush (v := (-11)) hx hb dX10_copy_48 (by decide) ?_
              exact tz_retI (B := B_cX10_copy_c7a33 D k h0 h4 h18 h19 h20 h21 h46 h47 h48 h49 h1 h2 h3 h5 h6 h7 h8 h9 h10 h11 h12 h13 x1 x2 x3 x4 x5 h0f2 h0f6 h0f8 h0f11 h18f0 h18f1 h19f0 h19f1 h20f0 h20f1 h21f0 h21f1) (v := (-11)) hQ hx hb hr hlocks hS (Nat.le_of_ble_eq_true rfl) (Nat.le_of_ble_eq_true rfl) dX10_copy_50 (⟨(by have := li_m11; omega), (hT.sub [0, 1, 2, 9, 3, 8, 4, 5, 6, 7] (by decide) rfl)⟩)
          · skip
            have hT := J _ hT1
            have hT : TP D A [(h0, ob 7 [.ref h1, .ref h2, .int h0f2, .ref h3, .ref h4, .ref h5, .int h0f6, .ref h6, .int h0f8, .ref h7, .ref h8, .int h0f11, .ref h9, .ref h10, .ref h11, .ref h12, .ref h13]), (h4, aQ (k 3) 4 (q4 h18 h19 h20 h21)), (h18, ob 5 [.int h18f0, .int h18f1, .ref h46]), (h19, ob 5 [.int h19f0, .int h19f1, .ref h47]), (h20, ob 5 [.int h20f0, .int h20f1, .ref h48]), (h46, aJ (k 1) 40 anJ), (h47, aJ (k 1) 40 anJ), (h48, aJ (k 1) 40 anJ), (h49, aJ (k 1) 40 anJ), (h21, ob 5 [.int h21f0, .int h21f1, .ref h49])] _ := hT
            refine lv_if_ne (tgt := 48) hx hb dX10_copy_37 (by decide) (fun _ => ?_) (fun cc => absurd cc (by decide +kernel))
            refine lv_bipush (v := (-11)) hx hb dX10_copy_48 (by decide) ?_
            exact tz_retI (B := B_cX10_copy_c7a33 D k h0 h4 h18 h19 h20 h21 h46 h47 h48 h49 h1 h2 h3 h5 h6 h7 h8 h9 h10 h11 h12 h13 x1 x2 x3 x4 x5 h0f2 h0f6 h0f8 h0f11 h18f0 h18f1 h19f0 h19f1 h20f0 h20f1 h21f0 h21f1) (v := (-11)) hQ hx hb hr hlocks hS (Nat.le_of_ble_eq_true rfl) (Nat.le_of_ble_eq_true rfl) dX10_copy_50 (⟨(by have := li_m11; omega), (hT.sub [0, 1, 2, 3, 4, 9, 5, 6, 7, 8] (by decide) rfl)⟩)
        · skip
          refine tz_aldq (b := h20) hx hb hK hT 1 rfl (vp_in_iff.mpr (by have := hq167; omega)) (fun f hf => by rw [cl_of hq167]; exact hf.2.2.1) dX10_copy_29 ?_
          refine lv_astore (lv' := [(7, .ref h20), (6, .ref h21), (0, .ref h0), (1, .int x1), (2, .int x2), (3, .int x3), (4, .int x4), (5, .int x5)]) hx hb dX10_copy_30 hl (by decide) rfl (fun ls hl => ?_)
          refine lv_aload hx hb dX10_copy_32 (lv_at hl 1 rfl) ?_
          refine tcI (Tc := [(h21, ob 5 [.int h21f0, .int h21f1, .ref h49])]) (Tr := [(h0, ob 7 [.ref h1, .ref h2, .int h0f2, .ref h3, .ref h4, .ref h5, .int h0f6, .ref h6, .int h0f8, .ref h7, .ref h8, .int h0f11, .ref h9, .ref h10, .ref h11, .ref h12, .ref h13]), (h4, aQ (k 3) 4 (q4 h18 h19 h20 h21)), (h18, ob 5 [.int h18f0, .int h18f1, .ref h46]), (h19, ob 5 [.int h19f0, .int h19f1, .ref h47]), (h20, ob 5 [.int h20f0, .int h20f1, .ref h48]), (h46, aJ (k 1) 40 anJ), (h47, aJ (k 1) 40 anJ), (h48, aJ (k 1) 40 anJ), (h49, aJ (k 1) 40 anJ)]) (as := [h21]) (zcV (q0 := 5) (ci := 5) (As := []) (rest := []) (Tc := [(h21, ob 5 [.int h21f0, .int h21f1, .ref h49])]) hx hb hml hown hU hK hT rfl rfl [5] rfl (by decide) (cX6_isMissing_56a93 l D k _ h21 h49 h21f0 h21f1 (by omega) (by omega)) w644 w641 w642 w643 w71 hdX6_isMissing ⟨rfl, rfl⟩ ⟨Nat.le_of_ble_eq_true rfl, Nat.le_of_ble_eq_true rfl⟩ rfl hl.1 (Nat.le_of_ble_eq_true rfl) dX10_copy_34 ⟨Nat.le_of_ble_eq_true rfl, Nat.le_of_ble_eq_true rfl⟩) hT hS hA [5] [0, 1, 2, 3, 4, 6, 7, 8, 9] rfl rfl rfl (by decide) (by decide) (fun r194 H locs hB J hS => ?_)
          rcases hB with ⟨c_195, rfl, hT1⟩ | ⟨rfl, hT1⟩
          · skip
            have hT := J _ hT1
            have hT : TP D A [(h0, ob 7 [.ref h1, .ref h2, .int h0f2, .ref h3, .ref h4, .ref h5, .int h0f6, .ref h6, .int h0f8, .ref h7, .ref h8, .int h0f11, .ref h9, .ref h10, .ref h11, .ref h12, .ref h13]), (h4, aQ (k 3) 4 (q4 h18 h19 h20 h21)), (h18, ob 5 [.int h18f0, .int h18f1, .ref h46]), (h19, ob 5 [.int h19f0, .int h19f1, .ref h47]), (h20, ob 5 [.int h20f0, .int h20f1, .ref h48]), (h46, aJ (k 1) 40 anJ), (h47, aJ (k 1) 40 anJ), (h48, aJ (k 1) 40 anJ), (h49, aJ (k 1) 40 anJ), (h21, ob 5 [.int h21f0, .int h21f1, .ref h49])] _ := hT
            refine lv_if_ne (tgt := 48) hx hb dX10_copy_37 (by decide) (fun cc => absurd (by decide +kernel) cc) (fun _ => ?_)
            refine lv_aload hx hb dX10_copy_40 (lv_at hl 0 rfl) ?_
            refine tcI (Tc := [(h20, ob 5 [.int h20f0, .int h20f1, .ref h48])]) (Tr := [(h0, ob 7 [.ref h1, .ref h2, .int h0f2, .ref h3, .ref h4, .ref h5, .int h0f6, .ref h6, .int h0f8, .ref h7, .ref h8, .int h0f11, .ref h9, .ref h10, .ref h11, .ref h12, .ref h13]), (h4, aQ (k 3) 4 (q4 h18 h19 h20 h21)), (h18, ob 5 [.int h18f0, .int h18f1, .ref h46]), (h19, ob 5 [.int h19f0, .int h19f1, .ref h47]), (h46, aJ (k 1) 40 anJ), (h47, aJ (k 1) 40 anJ), (h48, aJ (k 1) 40 anJ), (h49, aJ (k 1) 40 anJ), (h21, ob 5 [.int h21f0, .int h21f1, .ref h49])]) (as := [h20]) (zcV (q0 := 4) (ci := 5) (As := []) (rest := []) (Tc := [(h20, ob 5 [.int h20f0, .int h20f1, .ref h48])]) hx hb hml hown hU hK hT rfl rfl [4] rfl (by decide) (cX6_isMissing_56a93 l D k _ h20 h48 h20f0 h20f1 (by omega) (by omega)) w644 w641 w642 w643 w71 hdX6_isMissing ⟨rfl, rfl⟩ ⟨Nat.le_of_ble_eq_true rfl, Nat.le_of_ble_eq_true rfl⟩ rfl hl.1 (Nat.le_of_ble_eq_true rfl) dX10_copy_42 ⟨Nat.le_of_ble_eq_true rfl, Nat.le_of_ble_eq_true rfl⟩) hT hS hA [4] [0, 1, 2, 3, 5, 6, 7, 8, 9] rfl rfl rfl (by decide) (by decide) (fun r196 H locs hB J hS => ?_)
            rcases hB with ⟨c_197, rfl, hT1⟩ | ⟨rfl, hT1⟩
            · skip
              have hT := J _ hT1
              have hT : TP D A [(h0, ob 7 [.ref h1, .ref h2, .int h0f2, .ref h3, .ref h4, .ref h5, .int h0f6, .ref h6, .int h0f8, .ref h7, .ref h8, .int h0f11, .ref h9, .ref h10, .ref h11, .ref h12, .ref h13]), (h4, aQ (k 3) 4 (q4 h18 h19 h20 h21)), (h18, ob 5 [.int h18f0, .int h18f1, .ref h46]), (h19, ob 5 [.int h19f0, .int h19f1, .ref h47]), (h46, aJ (k 1) 40 anJ), (h47, aJ (k 1) 40 anJ), (h48, aJ (k 1) 40 anJ), (h49, aJ (k 1) 40 anJ), (h21, ob 5 [.int h21f0, .int h21f1, .ref h49]), (h20, ob 5 [.int h20f0, .int h20f1, .ref h48])] _ := hT
              refine lv_if_eq (tgt := 51) hx hb dX10_copy_45 (by decide) (fun _ => ?_) (fun cc => absurd (by decide +kernel) cc)
              refine lv_aload hx hb dX10_copy_51 (lv_at hl 1 rfl) ?_
              refine tz_get (ci := 5) (v := .int h21f0) (C := RX6) (F := TX6) (N := 3) hx hb hU iX6 hown hK hT 8 rfl rfl 0 (by decide) w238 (fun _ h9 => h9) rfl dX10_copy_53 ?_
              refine lv_aload hx hb dX10_copy_56 (lv_at hl 0 rfl) ?_
              refine tz_get (ci := 5) (v := .int h20f0) (C := RX6) (F := TX6) (N := 3) hx hb hU iX6 hown hK hT 9 rfl rfl 0 (by decide) w238 (fun _ h9 => h9) rfl dX10_copy_58 ?_
              refine lv_icmp_eq (tgt := 67) hx hb dX10_copy_61 (by decide) (fun c_198 => ?_) (fun c_198 => ?_)
              · skip
                have c_198 := ni_eq c_198 rfl rfl
                refine lv_aload hx hb dX10_copy_67 (lv_at hl 1 rfl) ?_
                refine lv_iload_n hx hb dX10_copy_69 rfl (lv_at hl 4 rfl) ?_
                refine lv_iload hx hb dX10_copy_70 (lv_at hl 7 rfl) ?_
                refine tcI (Tc := [(h21, ob 5 [.int h21f0, .int h21f1, .ref h49])]) (Tr := [(h0, ob 7 [.ref h1, .ref h2, .int h0f2, .ref h3, .ref h4, .ref h5, .int h0f6, .ref h6, .int h0f8, .ref h7, .ref h8, .int h0f11, .ref h9, .ref h10, .ref h11, .ref h12, .ref h13]), (h4, aQ (k 3) 4 (q4 h18 h19 h20 h21)), (h18, ob 5 [.int h18f0, .int h18f1, .ref h46]), (h19, ob 5 [.int h19f0, .int h19f1, .ref h47]), (h46, aJ (k 1) 40 anJ), (h47, aJ (k 1) 40 anJ), (h48, aJ (k 1) 40 anJ), (h49, aJ (k 1) 40 anJ), (h20, ob 5 [.int h20f0, .int h20f1, .ref h48])]) (as := [h21]) (zcV (q0 := 8) (ci := 5) (As := [.int x2, .int x5]) (rest := []) (Tc := [(h21, ob 5 [.int h21f0, .int h21f1, .ref h49])]) hx hb hml hown hU hK hT rfl rfl [8] rfl (by decide) (cX6_isOutside_cc85b l D k _ h21 h49 x2 x5 h21f0 h21f1 (by omega) (by omega)) w648 w645 w646 w647 w71 hdX6_isOutside ⟨rfl, rfl⟩ ⟨Nat.le_of_ble_eq_true rfl, Nat.le_of_ble_eq_true rfl⟩ rfl hl.1 (Nat.le_of_ble_eq_true rfl) dX10_copy_72 ⟨Nat.le_of_ble_eq_true rfl, Nat.le_of_ble_eq_true rfl⟩) hT hS hA [8] [0, 1, 2, 3, 4, 5, 6, 7, 9] rfl rfl rfl (by decide) (by decide) (fun r199 H locs hB J hS => ?_)
                rcases hB with ⟨rfl, hT1⟩ | ⟨c_200, c_201, c_202, rfl, hT1⟩
                · skip
                  have hT := J _ hT1
                  have hT : TP D A [(h0, ob 7 [.ref h1, .ref h2, .int h0f2, .ref h3, .ref h4, .ref h5, .int h0f6, .ref h6, .int h0f8, .ref h7, .ref h8, .int h0f11, .ref h9, .ref h10, .ref h11, .ref h12, .ref h13]), (h4, aQ (k 3) 4 (q4 h18 h19 h20 h21)), (h18, ob 5 [.int h18f0, .int h18f1, .ref h46]), (h19, ob 5 [.int h19f0, .int h19f1, .ref h47]), (h46, aJ (k 1) 40 anJ), (h47, aJ (k 1) 40 anJ), (h48, aJ (k 1) 40 anJ), (h49, aJ (k 1) 40 anJ), (h20, ob 5 [.int h20f0, .int h20f1, .ref h48]), (h21, ob 5 [.int h21f0, .int h21f1, .ref h49])] _ := hT
                  refine lv_if_ne (tgt := 90) hx hb dX10_copy_75 (by decide) (fun _ => ?_) (fun cc => absurd cc (by decide +kernel))
                  refine lv_bipush (v := (-12)) hx hb dX10_copy_90 (by decide) ?_
                  exact tz_retI (B := B_cX10_copy_c7a33 D k h0 h4 h18 h19 h20 h21 h46 h47 h48 h49 h1 h2 h3 h5 h6 h7 h8 h9 h10 h11 h12 h13 x1 x2 x3 x4 x5 h0f2 h0f6 h0f8 h0f11 h18f0 h18f1 h19f0 h19f1 h20f0 h20f1 h21f0 h21f1) (v := (-12)) hQ hx hb hr hlocks hS (Nat.le_of_ble_eq_true rfl) (Nat.le_of_ble_eq_true rfl) dX10_copy_92 (⟨(by have := li_m12; omega), (hT.sub [0, 1, 2, 3, 8, 9, 4, 5, 6, 7] (by decide) rfl)⟩)
                · skip
                  have hT := J _ hT1
                  have hT : TP D A [(h0, ob 7 [.ref h1, .ref h2, .int h0f2, .ref h3, .ref h4, .ref h5, .int h0f6, .ref h6, .int h0f8, .ref h7, .ref h8, .int h0f11, .ref h9, .ref h10, .ref h11, .ref h12, .ref h13]), (h4, aQ (k 3) 4 (q4 h18 h19 h20 h21)), (h18, ob 5 [.int h18f0, .int h18f1, .ref h46]), (h19, ob 5 [.int h19f0, .int h19f1, .ref h47]), (h46, aJ (k 1) 40 anJ), (h47, aJ (k 1) 40 anJ), (h48, aJ (k 1) 40 anJ), (h49, aJ (k 1) 40 anJ), (h20, ob 5 [.int h20f0, .int h20f1, .ref h48]), (h21, ob 5 [.int h21f0, .int h21f1, .ref h49])] _ := hT
                  refine lv_if_ne (tgt := 90) hx hb dX10_copy_75 (by decide) (fun cc => absurd (by decide +kernel) cc) (fun _ => ?_)
                  refine lv_aload hx hb dX10_copy_78 (lv_at hl 0 rfl) ?_
                  refine lv_iload hx hb dX10_copy_80 (lv_at hl 6 rfl) ?_
                  refine lv_iload hx hb dX10_copy_82 (lv_at hl 7 rfl) ?_
                  refine tcI (Tc := [(h20, ob 5 [.int h20f0, .int h20f1, .ref h48])]) (Tr := [(h0, ob 7 [.ref h1, .ref h2, .int h0f2, .ref h3, .ref h4, .ref h5, .int h0f6, .ref h6, .int h0f8, .ref h7, .ref h8, .int h0f11, .ref h9, .ref h10, .ref h11, .ref h12, .ref h13]), (h4, aQ (k 3) 4 (q4 h18 h19 h20 h21)), (h18, ob 5 [.int h18f0, .int h18f1, .ref h46]), (h19, ob 5 [.int h19f0, .int h19f1, .ref h47]), (h46, aJ (k 1) 40 anJ), (h47, aJ (k 1) 40 anJ), (h48, aJ (k 1) 40 anJ), (h49, aJ (k 1) 40 anJ), (h21, ob 5 [.int h21f0, .int h21f1, .ref h49])]) (as := [h20]) (zcV (q0 := 8) (ci := 5) (As := [.int x4, .int x5]) (rest := []) (Tc := [(h20, ob 5 [.int h20f0, .int h20f1, .ref h48])]) hx hb hml hown hU hK hT rfl rfl [8] rfl (by decide) (cX6_isOutside_cc85b l D k _ h20 h48 x4 x5 h20f0 h20f1 (by omega) (by omega)) w648 w645 w646 w647 w71 hdX6_isOutside ⟨rfl, rfl⟩ ⟨Nat.le_of_ble_eq_true rfl, Nat.le_of_ble_eq_true rfl⟩ rfl hl.1 (Nat.le_of_ble_eq_true rfl) dX10_copy_84 ⟨Nat.le_of_ble_eq_true rfl, Nat.le_of_ble_eq_true rfl⟩) hT hS hA [8] [0, 1, 2, 3, 4, 5, 6, 7, 9] rfl rfl rfl (by decide) (by decide) (fun r203 H locs hB J hS => ?_)
                  rcases hB with ⟨rfl, hT1⟩ | ⟨c_204, c_205, c_206, rfl, hT1⟩
                  · skip
                    have hT := J _ hT1
                    have hT : TP D A [(h0, ob 7 [.ref h1, .ref h2, .int h0f2, .ref h3, .ref h4, .ref h5, .int h0f6, .ref h6, .int h0f8, .ref h7, .ref h8, .int h0f11, .ref h9, .ref h10, .ref h11, .ref h12, .ref h13]), (h4, aQ (k 3) 4 (q4 h18 h19 h20 h21)), (h18, ob 5 [.int h18f0, .int h18f1, .ref h46]), (h19, ob 5 [.int h19f0, .int h19f1, .ref h47]), (h46, aJ (k 1) 40 anJ), (h47, aJ (k 1) 40 anJ), (h48, aJ (k 1) 40 anJ), (h49, aJ (k 1) 40 anJ), (h21, ob 5 [.int h21f0, .int h21f1, .ref h49]), (h20, ob 5 [.int h20f0, .int h20f1, .ref h48])] _ := hT
                    refine lv_if_eq (tgt := 93) hx hb dX10_copy_87 (by decide) (fun cc => absurd cc (by decide +kernel)) (fun _ => ?_)
                    refine lv_bipush (v := (-12)) hx hb dX10_copy_90 (by decide) ?_
                    exact tz_retI (B := B_cX10_copy_c7a33 D k h0 h4 h18 h19 h20 h21 h46 h47 h48 h49 h1 h2 h3 h5 h6 h7 h8 h9 h10 h11 h12 h13 x1 x2 x3 x4 x5 h0f2 h0f6 h0f8 h0f11 h18f0 h18f1 h19f0 h19f1 h20f0 h20f1 h21f0 h21f1) (v := (-12)) hQ hx hb hr hlocks hS (Nat.le_of_ble_eq_true rfl) (Nat.le_of_ble_eq_true rfl) dX10_copy_92 (⟨(by have := li_m12; omega), (hT.sub [0, 1, 2, 3, 9, 8, 4, 5, 6, 7] (by decide) rfl)⟩)
                  · skip
                    have hT := J _ hT1
                    have hT : TP D A [(h0, ob 7 [.ref h1, .ref h2, .int h0f2, .ref h3, .ref h4, .ref h5, .int h0f6, .ref h6, .int h0f8, .ref h7, .ref h8, .int h0f11, .ref h9, .ref h10, .ref h11, .ref h12, .ref h13]), (h4, aQ (k 3) 4 (q4 h18 h19 h20 h21)), (h18, ob 5 [.int h18f0, .int h18f1, .ref h46]), (h19, ob 5 [.int h19f0, .int h19f1, .ref h47]), (h46, aJ (k 1) 40 anJ), (h47, aJ (k 1) 40 anJ), (h48, aJ (k 1) 40 anJ), (h49, aJ (k 1) 40 anJ), (h21, ob 5 [.int h21f0, .int h21f1, .ref h49]), (h20, ob 5 [.int h20f0, .int h20f1, .ref h48])] _ := hT
                    refine lv_if_eq (tgt := 93) hx hb dX10_copy_87 (by decide) (fun _ => ?_) (fun cc => absurd (by decide +kernel) cc)
                    refine lv_aload hx hb dX10_copy_93 (lv_at hl 1 rfl) ?_
                    refine tz_get (ci := 5) (v := .ref h49) (C := RX6) (F := TX6) (N := 3) hx hb hU iX6 hown hK hT 8 rfl rfl 2 (by decide) w241 (fun _ h9 => h9) rfl dX10_copy_95 ?_
                    refine lv_iload_n hx hb dX10_copy_98 rfl (lv_at hl 4 rfl) ?_
                    refine lv_aload hx hb dX10_copy_99 (lv_at hl 0 rfl) ?_
                    refine tz_get (ci := 5) (v := .ref h48) (C := RX6) (F := TX6) (N := 3) hx hb hU iX6 hown hK hT 9 rfl rfl 2 (by decide) w241 (fun _ h9 => h9) rfl dX10_copy_101 ?_
                    refine lv_iload hx hb dX10_copy_104 (lv_at hl 6 rfl) ?_
                    refine lv_iload hx hb dX10_copy_106 (lv_at hl 7 rfl) ?_
                    refine tz_copyl hx hb (by rw [hml]; exact hl.1.symm) hown hU w410 w348 w347 w75 hK hT hS 7 6 rfl rfl (by omega) (fun _ _ _ _ => trivial) (Nat.le_of_ble_eq_true rfl) (Nat.le_of_ble_eq_true rfl) dX10_copy_108 (fun H locs hT hS => ?_)
                    refine lv_iload hx hb dX10_copy_111 (lv_at hl 7 rfl) ?_
                    exact tz_retI (B := B_cX10_copy_c7a33 D k h0 h4 h18 h19 h20 h21 h46 h47 h48 h49 h1 h2 h3 h5 h6 h7 h8 h9 h10 h11 h12 h13 x1 x2 x3 x4 x5 h0f2 h0f6 h0f8 h0f11 h18f0 h18f1 h19f0 h19f1 h20f0 h20f1 h21f0 h21f1) (v := x5) hQ hx hb hr hlocks hS (Nat.le_of_ble_eq_true rfl) (Nat.le_of_ble_eq_true rfl) dX10_copy_113 (⟨(by omega), (hT.sub [0, 1, 2, 3, 9, 8, 4, 5, 6, 7] (by decide) rfl)⟩)
              · skip
                have c_198 := ni_ne c_198 rfl rfl
                refine lv_bipush (v := (-13)) hx hb dX10_copy_64 (by decide) ?_
                exact tz_retI (B := B_cX10_copy_c7a33 D k h0 h4 h18 h19 h20 h21 h46 h47 h48 h49 h1 h2 h3 h5 h6 h7 h8 h9 h10 h11 h12 h13 x1 x2 x3 x4 x5 h0f2 h0f6 h0f8 h0f11 h18f0 h18f1 h19f0 h19f1 h20f0 h20f1 h21f0 h21f1) (v := (-13)) hQ hx hb hr hlocks hS (Nat.le_of_ble_eq_true rfl) (Nat.le_of_ble_eq_true rfl) dX10_copy_66 (⟨(by have := li_m13; omega), (hT.sub [0, 1, 2, 3, 9, 8, 4, 5, 6, 7] (by decide) rfl)⟩)
            · skip
              have hT := J _ hT1
              have hT : TP D A [(h0, ob 7 [.ref h1, .ref h2, .int h0f2, .ref h3, .ref h4, .ref h5, .int h0f6, .ref h6, .int h0f8, .ref h7, .ref h8, .int h0f11, .ref h9, .ref h10, .ref h11, .ref h12, .ref h13]), (h4, aQ (k 3) 4 (q4 h18 h19 h20 h21)), (h18, ob 5 [.int h18f0, .int h18f1, .ref h46]), (h19, ob 5 [.int h19f0, .int h19f1, .ref h47]), (h46, aJ (k 1) 40 anJ), (h47, aJ (k 1) 40 anJ), (h48, aJ (k 1) 40 anJ), (h49, aJ (k 1) 40 anJ), (h21, ob 5 [.int h21f0, .int h21f1, .ref h49]), (h20, ob 5 [.int h20f0, .int h20f1, .ref h48])] _ := hT
              refine lv_if_eq (tgt := 51) hx hb dX10_copy_45 (by decide) (fun cc => absurd cc (by decide +kernel)) (fun _ => ?_)
              refine lv_bipush (v := (-11)) hx hb dX10_copy_48 (by decide) ?_
              exact tz_retI (B := B_cX10_copy_c7a33 D k h0 h4 h18 h19 h20 h21 h46 h47 h48 h49 h1 h2 h3 h5 h6 h7 h8 h9 h10 h11 h12 h13 x1 x2 x3 x4 x5 h0f2 h0f6 h0f8 h0f11 h18f0 h18f1 h19f0 h19f1 h20f0 h20f1 h21f0 h21f1) (v := (-11)) hQ hx hb hr hlocks hS (Nat.le_of_ble_eq_true rfl) (Nat.le_of_ble_eq_true rfl) dX10_copy_50 (⟨(by have := li_m11; omega), (hT.sub [0, 1, 2, 3, 9, 8, 4, 5, 6, 7] (by decide) rfl)⟩)
          · skip
            have hT := J _ hT1
            have hT : TP D A [(h0, ob 7 [.ref h1, .ref h2, .int h0f2, .ref h3, .ref h4, .ref h5, .int h0f6, .ref h6, .int h0f8, .ref h7, .ref h8, .int h0f11, .ref h9, .ref h10, .ref h11, .ref h12, .ref h13]), (h4, aQ (k 3) 4 (q4 h18 h19 h20 h21)), (h18, ob 5 [.int h18f0, .int h18f1, .ref h46]), (h19, ob 5 [.int h19f0, .int h19f1, .ref h47]), (h20, ob 5 [.int h20f0, .int h20f1, .ref h48]), (h46, aJ (k 1) 40 anJ), (h47, aJ (k 1) 40 anJ), (h48, aJ (k 1) 40 anJ), (h49, aJ (k 1) 40 anJ), (h21, ob 5 [.int h21f0, .int h21f1, .ref h49])] _ := hT
            refine lv_if_ne (tgt := 48) hx hb dX10_copy_37 (by decide) (fun _ => ?_) (fun cc => absurd cc (by decide +kernel))
            refine lv_bipush (v := (-11)) hx hb dX10_copy_48 (by decide) ?_
            exact tz_retI (B := B_cX10_copy_c7a33 D k h0 h4 h18 h19 h20 h21 h46 h47 h48 h49 h1 h2 h3 h5 h6 h7 h8 h9 h10 h11 h12 h13 x1 x2 x3 x4 x5 h0f2 h0f6 h0f8 h0f11 h18f0 h18f1 h19f0 h19f1 h20f0 h20f1 h21f0 h21f1) (v := (-11)) hQ hx hb hr hlocks hS (Nat.le_of_ble_eq_true rfl) (Nat.le_of_ble_eq_true rfl) dX10_copy_50 (⟨(by have := li_m11; omega), (hT.sub [0, 1, 2, 3, 4, 9, 5, 6, 7, 8] (by decide) rfl)⟩)
        · skip
          refine tz_aldq (b := h21) hx hb hK hT 1 rfl (vp_in_iff.mpr (by have := hq167; omega)) (fun f hf => by rw [cl_of hq167]; exact hf.2.2.2) dX10_copy_29 ?_
          refine lv_astore (lv' := [(7, .ref h21), (6, .ref h21), (0, .ref h0), (1, .int x1), (2, .int x2), (3, .int x3), (4, .int x4), (5, .int x5)]) hx hb dX10_copy_30 hl (by decide) rfl (fun ls hl => ?_)
          refine lv_aload hx hb dX10_copy_32 (lv_at hl 1 rfl) ?_
          refine tcI (Tc := [(h21, ob 5 [.int h21f0, .int h21f1, .ref h49])]) (Tr := [(h0, ob 7 [.ref h1, .ref h2, .int h0f2, .ref h3, .ref h4, .ref h5, .int h0f6, .ref h6, .int h0f8, .ref h7, .ref h8, .int h0f11, .ref h9, .ref h10, .ref h11, .ref h12, .ref h13]), (h4, aQ (k 3) 4 (q4 h18 h19 h20 h21)), (h18, ob 5 [.int h18f0, .int h18f1, .ref h46]), (h19, ob 5 [.int h19f0, .int h19f1, .ref h47]), (h20, ob 5 [.int h20f0, .int h20f1, .ref h48]), (h46, aJ (k 1) 40 anJ), (h47, aJ (k 1) 40 anJ), (h48, aJ (k 1) 40 anJ), (h49, aJ (k 1) 40 anJ)]) (as := [h21]) (zcV (q0 := 5) (ci := 5) (As := []) (rest := []) (Tc := [(h21, ob 5 [.int h21f0, .int h21f1, .ref h49])]) hx hb hml hown hU hK hT rfl rfl [5] rfl (by decide) (cX6_isMissing_56a93 l D k _ h21 h49 h21f0 h21f1 (by omega) (by omega)) w644 w641 w642 w643 w71 hdX6_isMissing ⟨rfl, rfl⟩ ⟨Nat.le_of_ble_eq_true rfl, Nat.le_of_ble_eq_true rfl⟩ rfl hl.1 (Nat.le_of_ble_eq_true rfl) dX10_copy_34 ⟨Nat.le_of_ble_eq_true rfl, Nat.le_of_ble_eq_true rfl⟩) hT hS hA [5] [0, 1, 2, 3, 4, 6, 7, 8, 9] rfl rfl rfl (by decide) (by decide) (fun r207 H locs hB J hS => ?_)
          rcases hB with ⟨c_208, rfl, hT1⟩ | ⟨rfl, hT1⟩
          · skip
            have hT := J _ hT1
            have hT : TP D A [(h0, ob 7 [.ref h1, .ref h2, .int h0f2, .ref h3, .ref h4, .ref h5, .int h0f6, .ref h6, .int h0f8, .ref h7, .ref h8, .int h0f11, .ref h9, .ref h10, .ref h11, .ref h12, .ref h13]), (h4, aQ (k 3) 4 (q4 h18 h19 h20 h21)), (h18, ob 5 [.int h18f0, .int h18f1, .ref h46]), (h19, ob 5 [.int h19f0, .int h19f1, .ref h47]), (h20, ob 5 [.int h20f0, .int h20f1, .ref h48]), (h46, aJ (k 1) 40 anJ), (h47, aJ (k 1) 40 anJ), (h48, aJ (k 1) 40 anJ), (h49, aJ (k 1) 40 anJ), (h21, ob 5 [.int h21f0, .int h21f1, .ref h49])] _ := hT
            refine lv_if_ne (tgt := 48) hx hb dX10_copy_37 (by decide) (fun cc => absurd (by decide +kernel) cc) (fun _ => ?_)
            refine lv_aload hx hb dX10_copy_40 (lv_at hl 0 rfl) ?_
            refine tcI (Tc := [(h21, ob 5 [.int h21f0, .int h21f1, .ref h49])]) (Tr := [(h0, ob 7 [.ref h1, .ref h2, .int h0f2, .ref h3, .ref h4, .ref h5, .int h0f6, .ref h6, .int h0f8, .ref h7, .ref h8, .int h0f11, .ref h9, .ref h10, .ref h11, .ref h12, .ref h13]), (h4, aQ (k 3) 4 (q4 h18 h19 h20 h21)), (h18, ob 5 [.int h18f0, .int h18f1, .ref h46]), (h19, ob 5 [.int h19f0, .int h19f1, .ref h47]), (h20, ob 5 [.int h20f0, .int h20f1, .ref h48]), (h46, aJ (k 1) 40 anJ), (h47, aJ (k 1) 40 anJ), (h48, aJ (k 1) 40 anJ), (h49, aJ (k 1) 40 anJ)]) (as := [h21]) (zcV (q0 := 9) (ci := 5) (As := []) (rest := []) (Tc := [(h21, ob 5 [.int h21f0, .int h21f1, .ref h49])]) hx hb hml hown hU hK hT rfl rfl [9] rfl (by decide) (cX6_isMissing_56a93 l D k _ h21 h49 h21f0 h21f1 (by omega) (by omega)) w644 w641 w642 w643 w71 hdX6_isMissing ⟨rfl, rfl⟩ ⟨Nat.le_of_ble_eq_true rfl, Nat.le_of_ble_eq_true rfl⟩ rfl hl.1 (Nat.le_of_ble_eq_true rfl) dX10_copy_42 ⟨Nat.le_of_ble_eq_true rfl, Nat.le_of_ble_eq_true rfl⟩) hT hS hA [9] [0, 1, 2, 3, 4, 5, 6, 7, 8] rfl rfl rfl (by decide) (by decide) (fun r209 H locs hB J hS => ?_)
            rcases hB with ⟨c_210, rfl, hT1⟩ | ⟨rfl, hT1⟩
            · skip
              have hT := J _ hT1
              have hT : TP D A [(h0, ob 7 [.ref h1, .ref h2, .int h0f2, .ref h3, .ref h4, .ref h5, .int h0f6, .ref h6, .int h0f8, .ref h7, .ref h8, .int h0f11, .ref h9, .ref h10, .ref h11, .ref h12, .ref h13]), (h4, aQ (k 3) 4 (q4 h18 h19 h20 h21)), (h18, ob 5 [.int h18f0, .int h18f1, .ref h46]), (h19, ob 5 [.int h19f0, .int h19f1, .ref h47]), (h20, ob 5 [.int h20f0, .int h20f1, .ref h48]), (h46, aJ (k 1) 40 anJ), (h47, aJ (k 1) 40 anJ), (h48, aJ (k 1) 40 anJ), (h49, aJ (k 1) 40 anJ), (h21, ob 5 [.int h21f0, .int h21f1, .ref h49])] _ := hT
              refine lv_if_eq (tgt := 51) hx hb dX10_copy_45 (by decide) (fun _ => ?_) (fun cc => absurd (by decide +kernel) cc)
              refine lv_aload hx hb dX10_copy_51 (lv_at hl 1 rfl) ?_
              refine tz_get (ci := 5) (v := .int h21f0) (C := RX6) (F := TX6) (N := 3) hx hb hU iX6 hown hK hT 9 rfl rfl 0 (by decide) w238 (fun _ h9 => h9) rfl dX10_copy_53 ?_
              refine lv_aload hx hb dX10_copy_56 (lv_at hl 0 rfl) ?_
              refine tz_get (ci := 5) (v := .int h21f0) (C := RX6) (F := TX6) (N := 3) hx hb hU iX6 hown hK hT 9 rfl rfl 0 (by decide) w238 (fun _ h9 => h9) rfl dX10_copy_58 ?_
              refine lv_icmp_eq (tgt := 67) hx hb dX10_copy_61 (by decide) (fun c_211 => ?_) (fun c_211 => ?_)
              · skip
                have c_211 := ni_eq c_211 rfl rfl
                refine lv_aload hx hb dX10_copy_67 (lv_at hl 1 rfl) ?_
                refine lv_iload_n hx hb dX10_copy_69 rfl (lv_at hl 4 rfl) ?_
                refine lv_iload hx hb dX10_copy_70 (lv_at hl 7 rfl) ?_
                refine tcI (Tc := [(h21, ob 5 [.int h21f0, .int h21f1, .ref h49])]) (Tr := [(h0, ob 7 [.ref h1, .ref h2, .int h0f2, .ref h3, .ref h4, .ref h5, .int h0f6, .ref h6, .int h0f8, .ref h7, .ref h8, .int h0f11, .ref h9, .ref h10, .ref h11, .ref h12, .ref h13]), (h4, aQ (k 3) 4 (q4 h18 h19 h20 h21)), (h18, ob 5 [.int h18f0, .int h18f1, .ref h46]), (h19, ob 5 [.int h19f0, .int h19f1, .ref h47]), (h20, ob 5 [.int h20f0, .int h20f1, .ref h48]), (h46, aJ (k 1) 40 anJ), (h47, aJ (k 1) 40 anJ), (h48, aJ (k 1) 40 anJ), (h49, aJ (k 1) 40 anJ)]) (as := [h21]) (zcV (q0 := 9) (ci := 5) (As := [.int x2, .int x5]) (rest := []) (Tc := [(h21, ob 5 [.int h21f0, .int h21f1, .ref h49])]) hx hb hml hown hU hK hT rfl rfl [9] rfl (by decide) (cX6_isOutside_cc85b l D k _ h21 h49 x2 x5 h21f0 h21f1 (by omega) (by omega)) w648 w645 w646 w647 w71 hdX6_isOutside ⟨rfl, rfl⟩ ⟨Nat.le_of_ble_eq_true rfl, Nat.le_of_ble_eq_true rfl⟩ rfl hl.1 (Nat.le_of_ble_eq_true rfl) dX10_copy_72 ⟨Nat.le_of_ble_eq_true rfl, Nat.le_of_ble_eq_true rfl⟩) hT hS hA [9] [0, 1, 2, 3, 4, 5, 6, 7, 8] rfl rfl rfl (by decide) (by decide) (fun r212 H locs hB J hS => ?_)
                rcases hB with ⟨rfl, hT1⟩ | ⟨c_213, c_214, c_215, rfl, hT1⟩
                · skip
                  have hT := J _ hT1
                  have hT : TP D A [(h0, ob 7 [.ref h1, .ref h2, .int h0f2, .ref h3, .ref h4, .ref h5, .int h0f6, .ref h6, .int h0f8, .ref h7, .ref h8, .int h0f11, .ref h9, .ref h10, .ref h11, .ref h12, .ref h13]), (h4, aQ (k 3) 4 (q4 h18 h19 h20 h21)), (h18, ob 5 [.int h18f0, .int h18f1, .ref h46]), (h19, ob 5 [.int h19f0, .int h19f1, .ref h47]), (h20, ob 5 [.int h20f0, .int h20f1, .ref h48]), (h46, aJ (k 1) 40 anJ), (h47, aJ (k 1) 40 anJ), (h48, aJ (k 1) 40 anJ), (h49, aJ (k 1) 40 anJ), (h21, ob 5 [.int h21f0, .int h21f1, .ref h49])] _ := hT
                  refine lv_if_ne (tgt := 90) hx hb dX10_copy_75 (by decide) (fun _ => ?_) (fun cc => absurd cc (by decide +kernel))
                  refine lv_bipush (v := (-12)) hx hb dX10_copy_90 (by decide) ?_
                  exact tz_retI (B := B_cX10_copy_c7a33 D k h0 h4 h18 h19 h20 h21 h46 h47 h48 h49 h1 h2 h3 h5 h6 h7 h8 h9 h10 h11 h12 h13 x1 x2 x3 x4 x5 h0f2 h0f6 h0f8 h0f11 h18f0 h18f1 h19f0 h19f1 h20f0 h20f1 h21f0 h21f1) (v := (-12)) hQ hx hb hr hlocks hS (Nat.le_of_ble_eq_true rfl) (Nat.le_of_ble_eq_true rfl) dX10_copy_92 (⟨(by have := li_m12; omega), (hT.sub [0, 1, 2, 3, 4, 9, 5, 6, 7, 8] (by decide) rfl)⟩)
                · skip
                  have hT := J _ hT1
                  have hT : TP D A [(h0, ob 7 [.ref h1, .ref h2, .int h0f2, .ref h3, .ref h4, .ref h5, .int h0f6, .ref h6, .int h0f8, .ref h7, .ref h8, .int h0f11, .ref h9, .ref h10, .ref h11, .ref h12, .ref h13]), (h4, aQ (k 3) 4 (q4 h18 h19 h20 h21)), (h18, ob 5 [.int h18f0, .int h18f1, .ref h46]), (h19, ob 5 [.int h19f0, .int h19f1, .ref h47]), (h20, ob 5 [.int h20f0, .int h20f1, .ref h48]), (h46, aJ (k 1) 40 anJ), (h47, aJ (k 1) 40 anJ), (h48, aJ (k 1) 40 anJ), (h49, aJ (k 1) 40 anJ), (h21, ob 5 [.int h21f0, .int h21f1, .ref h49])] _ := hT
                  refine lv_if_ne (tgt := 90) hx hb dX10_copy_75 (by decide) (fun cc => absurd (by decide +kernel) cc) (fun _ => ?_)
                  refine lv_aload hx hb dX10_copy_78 (lv_at hl 0 rfl) ?_
                  refine lv_iload hx hb dX10_copy_80 (lv_at hl 6 rfl) ?_
                  refine lv_iload hx hb dX10_copy_82 (lv_at hl 7 rfl) ?_
                  refine tcI (Tc := [(h21, ob 5 [.int h21f0, .int h21f1, .ref h49])]) (Tr := [(h0, ob 7 [.ref h1, .ref h2, .int h0f2, .ref h3, .ref h4, .ref h5, .int h0f6, .ref h6, .int h0f8, .ref h7, .ref h8, .int h0f11, .ref h9, .ref h10, .ref h11, .ref h12, .ref h13]), (h4, aQ (k 3) 4 (q4 h18 h19 h20 h21)), (h18, ob 5 [.int h18f0, .int h18f1, .ref h46]), (h19, ob 5 [.int h19f0, .int h19f1, .ref h47]), (h20, ob 5 [.int h20f0, .int h20f1, .ref h48]), (h46, aJ (k 1) 40 anJ), (h47, aJ (k 1) 40 anJ), (h48, aJ (k 1) 40 anJ), (h49, aJ (k 1) 40 anJ)]) (as := [h21]) (zcV (q0 := 9) (ci := 5) (As := [.int x4, .int x5]) (rest := []) (Tc := [(h21, ob 5 [.int h21f0, .int h21f1, .ref h49])]) hx hb hml hown hU hK hT rfl rfl [9] rfl (by decide) (cX6_isOutside_cc85b l D k _ h21 h49 x4 x5 h21f0 h21f1 (by omega) (by omega)) w648 w645 w646 w647 w71 hdX6_isOutside ⟨rfl, rfl⟩ ⟨Nat.le_of_ble_eq_true rfl, Nat.le_of_ble_eq_true rfl⟩ rfl hl.1 (Nat.le_of_ble_eq_true rfl) dX10_copy_84 ⟨Nat.le_of_ble_eq_true rfl, Nat.le_of_ble_eq_true rfl⟩) hT hS hA [9] [0, 1, 2, 3, 4, 5, 6, 7, 8] rfl rfl rfl (by decide) (by decide) (fun r216 H locs hB J hS => ?_)
                  rcases hB with ⟨rfl, hT1⟩ | ⟨c_217, c_218, c_219, rfl, hT1⟩
                  · skip
                    have hT := J _ hT1
                    have hT : TP D A [(h0, ob 7 [.ref h1, .ref h2, .int h0f2, .ref h3, .ref h4, .ref h5, .int h0f6, .ref h6, .int h0f8, .ref h7, .ref h8, .int h0f11, .ref h9, .ref h10, .ref h11, .ref h12, .ref h13]), (h4, aQ (k 3) 4 (q4 h18 h19 h20 h21)), (h18, ob 5 [.int h18f0, .int h18f1, .ref h46]), (h19, ob 5 [.int h19f0, .int h19f1, .ref h47]), (h20, ob 5 [.int h20f0, .int h20f1, .ref h48]), (h46, aJ (k 1) 40 anJ), (h47, aJ (k 1) 40 anJ), (h48, aJ (k 1) 40 anJ), (h49, aJ (k 1) 40 anJ), (h21, ob 5 [.int h21f0, .int h21f1, .ref h49])] _ := hT
                    refine lv_if_eq (tgt := 93) hx hb dX10_copy_87 (by decide) (fun cc => absurd cc (by decide +kernel)) (fun _ => ?_)
                    refine lv_bipush (v := (-12)) hx hb dX10_copy_90 (by decide) ?_
                    exact tz_retI (B := B_cX10_copy_c7a33 D k h0 h4 h18 h19 h20 h21 h46 h47 h48 h49 h1 h2 h3 h5 h6 h7 h8 h9 h10 h11 h12 h13 x1 x2 x3 x4 x5 h0f2 h0f6 h0f8 h0f11 h18f0 h18f1 h19f0 h19f1 h20f0 h20f1 h21f0 h21f1) (v := (-12)) hQ hx hb hr hlocks hS (Nat.le_of_ble_eq_true rfl) (Nat.le_of_ble_eq_true rfl) dX10_copy_92 (⟨(by have := li_m12; omega), (hT.sub [0, 1, 2, 3, 4, 9, 5, 6, 7, 8] (by decide) rfl)⟩)
                  · skip
                    have hT := J _ hT1
                    have hT : TP D A [(h0, ob 7 [.ref h1, .ref h2, .int h0f2, .ref h3, .ref h4, .ref h5, .int h0f6, .ref h6, .int h0f8, .ref h7, .ref h8, .int h0f11, .ref h9, .ref h10, .ref h11, .ref h12, .ref h13]), (h4, aQ (k 3) 4 (q4 h18 h19 h20 h21)), (h18, ob 5 [.int h18f0, .int h18f1, .ref h46]), (h19, ob 5 [.int h19f0, .int h19f1, .ref h47]), (h20, ob 5 [.int h20f0, .int h20f1, .ref h48]), (h46, aJ (k 1) 40 anJ), (h47, aJ (k 1) 40 anJ), (h48, aJ (k 1) 40 anJ), (h49, aJ (k 1) 40 anJ), (h21, ob 5 [.int h21f0, .int h21f1, .ref h49])] _ := hT
                    refine lv_if_eq (tgt := 93) hx hb dX10_copy_87 (by decide) (fun _ => ?_) (fun cc => absurd (by decide +kernel) cc)
                    refine lv_aload hx hb dX10_copy_93 (lv_at hl 1 rfl) ?_
                    refine tz_get (ci := 5) (v := .ref h49) (C := RX6) (F := TX6) (N := 3) hx hb hU iX6 hown hK hT 9 rfl rfl 2 (by decide) w241 (fun _ h9 => h9) rfl dX10_copy_95 ?_
                    refine lv_iload_n hx hb dX10_copy_98 rfl (lv_at hl 4 rfl) ?_
                    refine lv_aload hx hb dX10_copy_99 (lv_at hl 0 rfl) ?_
                    refine tz_get (ci := 5) (v := .ref h49) (C := RX6) (F := TX6) (N := 3) hx hb hU iX6 hown hK hT 9 rfl rfl 2 (by decide) w241 (fun _ h9 => h9) rfl dX10_copy_101 ?_
                    refine lv_iload hx hb dX10_copy_104 (lv_at hl 6 rfl) ?_
                    refine lv_iload hx hb dX10_copy_106 (lv_at hl 7 rfl) ?_
                    refine tz_copyl hx hb (by rw [hml]; exact hl.1.symm) hown hU w410 w348 w347 w75 hK hT hS 8 8 rfl rfl (by omega) (fun _ _ _ _ => trivial) (Nat.le_of_ble_eq_true rfl) (Nat.le_of_ble_eq_true rfl) dX10_copy_108 (fun H locs hT hS => ?_)
                    refine lv_iload hx hb dX10_copy_111 (lv_at hl 7 rfl) ?_
                    exact tz_retI (B := B_cX10_copy_c7a33 D k h0 h4 h18 h19 h20 h21 h46 h47 h48 h49 h1 h2 h3 h5 h6 h7 h8 h9 h10 h11 h12 h13 x1 x2 x3 x4 x5 h0f2 h0f6 h0f8 h0f11 h18f0 h18f1 h19f0 h19f1 h20f0 h20f1 h21f0 h21f1) (v := x5) hQ hx hb hr hlocks hS (Nat.le_of_ble_eq_true rfl) (Nat.le_of_ble_eq_true rfl) dX10_copy_113 (⟨(by omega), (hT.sub [0, 1, 2, 3, 4, 9, 5, 6, 7, 8] (by decide) rfl)⟩)
              · skip
                have c_211 := ni_ne c_211 rfl rfl
                exfalso; omega
            · skip
              have hT := J _ hT1
              have hT : TP D A [(h0, ob 7 [.ref h1, .ref h2, .int h0f2, .ref h3, .ref h4, .ref h5, .int h0f6, .ref h6, .int h0f8, .ref h7, .ref h8, .int h0f11, .ref h9, .ref h10, .ref h11, .ref h12, .ref h13]), (h4, aQ (k 3) 4 (q4 h18 h19 h20 h21)), (h18, ob 5 [.int h18f0, .int h18f1, .ref h46]), (h19, ob 5 [.int h19f0, .int h19f1, .ref h47]), (h20, ob 5 [.int h20f0, .int h20f1, .ref h48]), (h46, aJ (k 1) 40 anJ), (h47, aJ (k 1) 40 anJ), (h48, aJ (k 1) 40 anJ), (h49, aJ (k 1) 40 anJ), (h21, ob 5 [.int h21f0, .int h21f1, .ref h49])] _ := hT
              refine lv_if_eq (tgt := 51) hx hb dX10_copy_45 (by decide) (fun cc => absurd cc (by decide +kernel)) (fun _ => ?_)
              refine lv_bipush (v := (-11)) hx hb dX10_copy_48 (by decide) ?_
              exact tz_retI (B := B_cX10_copy_c7a33 D k h0 h4 h18 h19 h20 h21 h46 h47 h48 h49 h1 h2 h3 h5 h6 h7 h8 h9 h10 h11 h12 h13 x1 x2 x3 x4 x5 h0f2 h0f6 h0f8 h0f11 h18f0 h18f1 h19f0 h19f1 h20f0 h20f1 h21f0 h21f1) (v := (-11)) hQ hx hb hr hlocks hS (Nat.le_of_ble_eq_true rfl) (Nat.le_of_ble_eq_true rfl) dX10_copy_50 (⟨(by have := li_m11; omega), (hT.sub [0, 1, 2, 3, 4, 9, 5, 6, 7, 8] (by decide) rfl)⟩)
          · skip
            have hT := J _ hT1
            have hT : TP D A [(h0, ob 7 [.ref h1, .ref h2, .int h0f2, .ref h3, .ref h4, .ref h5, .int h0f6, .ref h6, .int h0f8, .ref h7, .ref h8, .int h0f11, .ref h9, .ref h10, .ref h11, .ref h12, .ref h13]), (h4, aQ (k 3) 4 (q4 h18 h19 h20 h21)), (h18, ob 5 [.int h18f0, .int h18f1, .ref h46]), (h19, ob 5 [.int h19f0, .int h19f1, .ref h47]), (h20, ob 5 [.int h20f0, .int h20f1, .ref h48]), (h46, aJ (k 1) 40 anJ), (h47, aJ (k 1) 40 anJ), (h48, aJ (k 1) 40 anJ), (h49, aJ (k 1) 40 anJ), (h21, ob 5 [.int h21f0, .int h21f1, .ref h49])] _ := hT
            refine lv_if_ne (tgt := 48) hx hb dX10_copy_37 (by decide) (fun _ => ?_) (fun cc => absurd cc (by decide +kernel))
            refine lv_bipush (v := (-11)) hx hb dX10_copy_48 (by decide) ?_
            exact tz_retI (B := B_cX10_copy_c7a33 D k h0 h4 h18 h19 h20 h21 h46 h47 h48 h49 h1 h2 h3 h5 h6 h7 h8 h9 h10 h11 h12 h13 x1 x2 x3 x4 x5 h0f2 h0f6 h0f8 h0f11 h18f0 h18f1 h19f0 h19f1 h20f0 h20f1 h21f0 h21f1) (v := (-11)) hQ hx hb hr hlocks hS (Nat.le_of_ble_eq_true rfl) (Nat.le_of_ble_eq_true rfl) dX10_copy_50 (⟨(by have := li_m11; omega), (hT.sub [0, 1, 2, 3, 4, 9, 5, 6, 7, 8] (by decide) rfl)⟩)
