abbrev Rm_cX11_feedL_ad661 : Room := { frames := 1, cells := 0, slots := 0, locals := 25 }
abbrev B_cX11_feedL_ad661 (D : va_G) (k : Nat → ClassId) (h0 h8 h1 h2 h3 h4 h5 h6 h7 h9 h10 h11 h12 h13 h14 h15 h16 h17 h18 h19 h20 h21 : Nat) (x1 : Int64) (x2 : Int32) (h0f0 : Int32) (h0f1 : Int32) (h0f2 : Int32) (h0f3 : Int32) (h0f4 : Int32) (h0f5 : Int32) (h0f8 : Int32) (h0f9 : Int32) (h0f17 : Int32) (h0f18 : Int32) (h0f19 : Int32) (h0f24 : Int32) (h0f25 : Int32) (h0f30 : Int32) (h0f31 : Int32) (A : Nat → Prop) (r : Int32) (H : Heap) : Prop := ∃ o0 : Int32, (0 ≤ o0.toInt ∧ o0.toInt ≤ 120) ∧ ((-2) ≤ r.toInt ∧ r.toInt ≤ 120) ∧ TP D A [(h0, ob 8 [.int h0f0, .int h0f1, .int h0f2, .int h0f3, .int h0f4, .int h0f5, .ref h1, .ref h2, .int h0f8, .int h0f9, .ref h3, .ref h4, .ref h5, .ref h6, .ref h7, .ref h8, .ref h9, .int o0, .int h0f18, .int h0f19, .ref h10, .ref h11, .ref h12, .ref h13, .int h0f24, .int h0f25, .ref h14, .ref h15, .ref h16, .ref h17, .int h0f30, .int h0f31, .ref h18, .ref h19, .ref h20, .ref h21]), (h8, aI (k 0) 120 anI)] H
set_option maxHeartbeats 4000000 in
set_option maxRecDepth 100000 in
theorem cX11_feedL_ad661 (l : Launch) (D : va_G) (k : Nat → ClassId) (sz : Nat) (h0 h8 h1 h2 h3 h4 h5 h6 h7 h9 h10 h11 h12 h13 h14 h15 h16 h17 h18 h19 h20 h21 : Nat) (x1 : Int64) (x2 : Int32) (h0f0 : Int32) (h0f1 : Int32) (h0f2 : Int32) (h0f3 : Int32) (h0f4 : Int32) (h0f5 : Int32) (h0f8 : Int32) (h0f9 : Int32) (h0f17 : Int32) (h0f18 : Int32) (h0f19 : Int32) (h0f24 : Int32) (h0f25 : Int32) (h0f30 : Int32) (h0f31 : Int32) (b_h0f0 : 1 ≤ h0f0.toInt ∧ h0f0.toInt ≤ 3) (b_h0f1 : 0 ≤ h0f1.toInt ∧ h0f1.toInt ≤ 4) (b_h0f3 : 0 ≤ h0f3.toInt ∧ h0f3.toInt ≤ 3) (b_h0f4 : 0 ≤ h0f4.toInt ∧ h0f4.toInt ≤ 4) (b_h0f8 : 0 ≤ h0f8.toInt ∧ h0f8.toInt ≤ 1) (b_h0f9 : 0 ≤ h0f9.toInt ∧ h0f9.toInt ≤ 1) (b_h0f17 : 0 ≤ h0f17.toInt ∧ h0f17.toInt ≤ 120) (b_h0f18 : 0 ≤ h0f18.toInt ∧ h0f18.toInt ≤ 120) (b_h0f19 : 0 ≤ h0f19.toInt ∧ h0f19.toInt ≤ 4) (b_h0f24 : 0 ≤ h0f24.toInt ∧ h0f24.toInt ≤ 100) (b_h0f25 : 0 ≤ h0f25.toInt ∧ h0f25.toInt ≤ 1) (b_h0f30 : 0 ≤ h0f30.toInt ∧ h0f30.toInt ≤ 60) (b_h0f31 : 0 ≤ h0f31.toInt ∧ h0f31.toInt ≤ 1) (i_0 : h0f8.toInt ≤ h0f3.toInt) (i_1 : h0f9.toInt ≤ h0f24.toInt) : Met l yX11_feed (Cond.code yX11_feed cX11_feed 5 (some .int) :: uw) Rm_cX11_feedL_ad661 (pT D k sz [.ref h0, .long x1, .int x2] [(h0, ob 8 [.int h0f0, .int h0f1, .int h0f2, .int h0f3, .int h0f4, .int h0f5, .ref h1, .ref h2, .int h0f8, .int h0f9, .ref h3, .ref h4, .ref h5, .ref h6, .ref h7, .ref h8, .ref h9, .int h0f17, .int h0f18, .int h0f19, .ref h10, .ref h11, .ref h12, .ref h13, .int h0f24, .int h0f25, .ref h14, .ref h15, .ref h16, .ref h17, .int h0f30, .int h0f31, .ref h18, .ref h19, .ref h20, .ref h21]), (h8, aI (k 0) 120 anI)]) (qI (B_cX11_feedL_ad661 D k h0 h8 h1 h2 h3 h4 h5 h6 h7 h9 h10 h11 h12 h13 h14 h15 h16 h17 h18 h19 h20 h21 x1 x2 h0f0 h0f1 h0f2 h0f3 h0f4 h0f5 h0f8 h0f9 h0f17 h0f18 h0f19 h0f24 h0f25 h0f30 h0f31 (zA [h0, h8] sz)) (zA [h0, h8] sz)) 0 0 (zA [h0, h8] sz) := by
  refine tz_begin (as := [h0, h8]) (Qc := fun A => qI (B_cX11_feedL_ad661 D k h0 h8 h1 h2 h3 h4 h5 h6 h7 h9 h10 h11 h12 h13 h14 h15 h16 h17 h18 h19 h20 h21 x1 x2 h0f0 h0f1 h0f2 h0f3 h0f4 h0f5 h0f8 h0f9 h0f17 h0f18 h0f19 h0f24 h0f25 h0f30 h0f31 A) A) (by decide +kernel) rfl (Nat.le_of_ble_eq_true rfl) ?_
  intro p e s m args below meth c ls A Q hx hb hr hml hown hlocks hin hU hK hT hS hA hl hQ
  have hl : lv_has ls 5 [(0, .ref h0), (1, .long x1), (3, .int x2)] := hl
  have hT : TP D A [(h0, ob 8 [.int h0f0, .int h0f1, .int h0f2, .int h0f3, .int h0f4, .int h0f5, .ref h1, .ref h2, .int h0f8, .int h0f9, .ref h3, .ref h4, .ref h5, .ref h6, .ref h7, .ref h8, .ref h9, .int h0f17, .int h0f18, .int h0f19, .ref h10, .ref h11, .ref h12, .ref h13, .int h0f24, .int h0f25, .ref h14, .ref h15, .ref h16, .ref h17, .int h0f30, .int h0f31, .ref h18, .ref h19, .ref h20, .ref h21]), (h8, aI (k 0) 120 anI)] s.heap := hT
  refine lv_iload_n hx hb dX11_feed_0 rfl (lv_at hl 2 rfl) ?_
  have tb_x2 := i32b x2
  obtain ⟨v1, e_v1⟩ : ∃ x : Int64, x2.toInt64 = x := ⟨_, rfl⟩
  refine lv_i2l (v := v1) hx hb dX11_feed_1 e_v1 ?_
  have e_v1 := ai_i2l e_v1 rfl
  refine lv_lconst (v := 1) hx hb dX11_feed_2 (by decide) ?_
  refine lv_ldc2 hx hb hown (hU _ w1004) dX11_feed_3 ?_
  have q_q3 := ll_1
  have q_q4 := ll_8
  refine tcI (Tc := []) (Tr := [(h0, ob 8 [.int h0f0, .int h0f1, .int h0f2, .int h0f3, .int h0f4, .int h0f5, .ref h1, .ref h2, .int h0f8, .int h0f9, .ref h3, .ref h4, .ref h5, .ref h6, .ref h7, .ref h8, .ref h9, .int h0f17, .int h0f18, .int h0f19, .ref h10, .ref h11, .ref h12, .ref h13, .int h0f24, .int h0f25, .ref h14, .ref h15, .ref h16, .ref h17, .int h0f30, .int h0f31, .ref h18, .ref h19, .ref h20, .ref h21]), (h8, aI (k 0) 120 anI)]) (as := []) (zcS (As := [.long v1, .long 1, .long 8]) (rest := []) (Tc := []) hx hb hml hown hU hK hT [] rfl (by decide) (cX11_in_ca3b9 l D k _ v1 (1) (8) (by have := ll_1; omega) (by have := ll_8; omega)) w901 w899 w900 w72 hdX11_in ⟨rfl, rfl⟩ ⟨Nat.le_of_ble_eq_true rfl, Nat.le_of_ble_eq_true rfl⟩ rfl hl.1 (Nat.le_of_ble_eq_true rfl) dX11_feed_6 ⟨Nat.le_of_ble_eq_true rfl, Nat.le_of_ble_eq_true rfl⟩) hT hS hA [] [0, 1] rfl rfl rfl (by decide) (by decide) (fun r2 H locs hB J hS => ?_)
  rcases hB with ⟨rfl, hT1⟩ | ⟨c_5, c_6, rfl, hT1⟩
  · skip
    have hT := J _ hT1
    have hT : TP D A [(h0, ob 8 [.int h0f0, .int h0f1, .int h0f2, .int h0f3, .int h0f4, .int h0f5, .ref h1, .ref h2, .int h0f8, .int h0f9, .ref h3, .ref h4, .ref h5, .ref h6, .ref h7, .ref h8, .ref h9, .int h0f17, .int h0f18, .int h0f19, .ref h10, .ref h11, .ref h12, .ref h13, .int h0f24, .int h0f25, .ref h14, .ref h15, .ref h16, .ref h17, .int h0f30, .int h0f31, .ref h18, .ref h19, .ref h20, .ref h21]), (h8, aI (k 0) 120 anI)] _ := hT
    refine lv_if_ne (tgt := 14) hx hb dX11_feed_9 (by decide) (fun cc => absurd (by decide +kernel) cc) (fun _ => ?_)
    refine lv_iconst (v := (-1)) hx hb dX11_feed_12 (by decide) ?_
    exact tz_retI (B := B_cX11_feedL_ad661 D k h0 h8 h1 h2 h3 h4 h5 h6 h7 h9 h10 h11 h12 h13 h14 h15 h16 h17 h18 h19 h20 h21 x1 x2 h0f0 h0f1 h0f2 h0f3 h0f4 h0f5 h0f8 h0f9 h0f17 h0f18 h0f19 h0f24 h0f25 h0f30 h0f31) (v := (-1)) hQ hx hb hr hlocks hS (Nat.le_of_ble_eq_true rfl) (Nat.le_of_ble_eq_true rfl) dX11_feed_13 (⟨h0f17, (by have := li_m1; omega), (by have := li_m1; omega), hT⟩)
  · skip
    have hT := J _ hT1
    have hT : TP D A [(h0, ob 8 [.int h0f0, .int h0f1, .int h0f2, .int h0f3, .int h0f4, .int h0f5, .ref h1, .ref h2, .int h0f8, .int h0f9, .ref h3, .ref h4, .ref h5, .ref h6, .ref h7, .ref h8, .ref h9, .int h0f17, .int h0f18, .int h0f19, .ref h10, .ref h11, .ref h12, .ref h13, .int h0f24, .int h0f25, .ref h14, .ref h15, .ref h16, .ref h17, .int h0f30, .int h0f31, .ref h18, .ref h19, .ref h20, .ref h21]), (h8, aI (k 0) 120 anI)] _ := hT
    refine lv_if_ne (tgt := 14) hx hb dX11_feed_9 (by decide) (fun _ => ?_) (fun cc => absurd cc (by decide +kernel))
    refine lv_aload_n hx hb dX11_feed_14 rfl (lv_at hl 0 rfl) ?_
    refine tz_get (ci := 8) (v := .int h0f17) (C := RX11) (F := TX11) (N := 36) hx hb hU iX11 hown hK hT 0 rfl rfl 17 (by decide) w802 (fun _ h9 => h9) rfl dX11_feed_15 ?_
    refine lv_iload_n hx hb dX11_feed_18 rfl (lv_at hl 2 rfl) ?_
    refine lv_iadd hx hb dX11_feed_19 (lv_topi (fun v7 e_v7 => ?_))
    have e_v7 := ai_add e_v7 rfl rfl (by omega)
    refine lv_bipush (v := 120) hx hb dX11_feed_20 (by decide) ?_
    refine lv_icmp_le (tgt := 28) hx hb dX11_feed_22 (by decide) (fun c_8 => ?_) (fun c_8 => ?_)
    · skip
      have c_8 := ni_le c_8 rfl li_120
      refine lv_iconst (v := 0) hx hb dX11_feed_28 (by decide) ?_
      refine lv_istore (lv' := [(4, .int 0), (0, .ref h0), (1, .long x1), (3, .int x2)]) hx hb dX11_feed_29 hl (by decide) rfl (fun ls hl => ?_)
      have lp31_23 : ∀ (n : Nat) (y21 : Int32) (y22 : Int32) (H : Heap) (locs : List Loc) (ls : Array Slot), (0 ≤ y21.toInt ∧ y21.toInt ≤ 8) → (0 ≤ y22.toInt ∧ y22.toInt ≤ 127) → (y22.toInt + x2.toInt + (-1) * y21.toInt ≤ 120) → (y21.toInt ≤ x2.toInt) → (x2.toInt + (-1) * y21.toInt + 1).toNat < n → TP D A [(h0, ob 8 [.int h0f0, .int h0f1, .int h0f2, .int h0f3, .int h0f4, .int h0f5, .ref h1, .ref h2, .int h0f8, .int h0f9, .ref h3, .ref h4, .ref h5, .ref h6, .ref h7, .ref h8, .ref h9, .int y22, .int h0f18, .int h0f19, .ref h10, .ref h11, .ref h12, .ref h13, .int h0f24, .int h0f25, .ref h14, .ref h15, .ref h16, .ref h17, .int h0f30, .int h0f31, .ref h18, .ref h19, .ref h20, .ref h21]), (h8, aI (k 0) 120 anI)] H → va_S A s.heap H locs → lv_has ls 5 [(0, .ref h0), (1, .long x1), (3, .int x2), (4, .int y21)] → W p l e Rm_cX11_feedL_ad661 s m args below meth c H locs 0 0 Q (F0 m 31 ls []) := by
        intro n
        induction n with
        | zero => intro y21 y22 H locs ls b_y21 b_y22 x_0 x_1 hm hT hS hl; exact absurd hm (Nat.not_lt_zero _)
        | succ n ih =>
          intro y21 y22 H locs ls b_y21 b_y22 x_0 x_1 hm hT hS hl
          have ih31_23 := ih
          clear ih
          refine lv_iload hx hb dX11_feed_31 (lv_at hl 3 rfl) ?_
          refine lv_iload_n hx hb dX11_feed_33 rfl (lv_at hl 2 rfl) ?_
          refine lv_icmp_ge (tgt := 74) hx hb dX11_feed_34 (by decide) (fun c_24 => ?_) (fun c_24 => ?_)
          · skip
            have c_24 := ni_le c_24 rfl rfl
            have ht_y22 : y22.toInt ≤ 120 := by omega
            refine lv_aload_n hx hb dX11_feed_74 rfl (lv_at hl 0 rfl) ?_
            refine tz_get (ci := 8) (v := .int y22) (C := RX11) (F := TX11) (N := 36) hx hb hU iX11 hown hK hT 0 rfl rfl 17 (by decide) w802 (fun _ h9 => h9) rfl dX11_feed_75 ?_
            exact tz_retI (B := B_cX11_feedL_ad661 D k h0 h8 h1 h2 h3 h4 h5 h6 h7 h9 h10 h11 h12 h13 h14 h15 h16 h17 h18 h19 h20 h21 x1 x2 h0f0 h0f1 h0f2 h0f3 h0f4 h0f5 h0f8 h0f9 h0f17 h0f18 h0f19 h0f24 h0f25 h0f30 h0f31) (v := y22) hQ hx hb hr hlocks hS (Nat.le_of_ble_eq_true rfl) (Nat.le_of_ble_eq_true rfl) dX11_feed_78 (⟨y22, (by omega), (by omega), hT⟩)
          · skip
            have c_24 := ni_nle c_24 rfl rfl
            refine lv_aload_n hx hb dX11_feed_37 rfl (lv_at hl 0 rfl) ?_
            refine tz_get (ci := 8) (v := .ref h8) (C := RX11) (F := TX11) (N := 36) hx hb hU iX11 hown hK hT 0 rfl rfl 15 (by decide) w800 (fun _ h9 => h9) rfl dX11_feed_38 ?_
            refine lv_aload_n hx hb dX11_feed_41 rfl (lv_at hl 0 rfl) ?_
            refine tz_get (ci := 8) (v := .int y22) (C := RX11) (F := TX11) (N := 36) hx hb hU iX11 hown hK hT 0 rfl rfl 17 (by decide) w802 (fun _ h9 => h9) rfl dX11_feed_42 ?_
            refine lv_lload_n hx hb dX11_feed_45 rfl (lv_at hl 1 rfl) ?_
            refine lv_bipush (v := 8) hx hb dX11_feed_46 (by decide) ?_
            refine lv_iload hx hb dX11_feed_48 (lv_at hl 3 rfl) ?_
            refine lv_imul hx hb dX11_feed_50 (lv_topi (fun v25 e_v25 => ?_))
            have e_v25 := ai_mul e_v25 li_8 rfl (by omega)
            refine lv_lshr hx hb dX11_feed_51 rfl (lv_topl (fun v26 _ => ?_))
            refine lv_ldc2 hx hb hown (hU _ w1005) dX11_feed_52 ?_
            refine lv_land hx hb dX11_feed_55 (lv_topl (fun v27 e_v27 => ?_))
            refine lv_l2i hx hb dX11_feed_56 rfl (lv_topi (fun v28 _ => ?_))
            refine tz_iast hx hb hK hT hS 1 rfl (by omega) (fun _ _ => trivial) dX11_feed_57 (fun H locs hT hS => ?_)
            refine lv_aload_n hx hb dX11_feed_58 rfl (lv_at hl 0 rfl) ?_
            refine lv_dup hx hb dX11_feed_59 rfl ?_
            refine tz_get (ci := 8) (v := .int y22) (C := RX11) (F := TX11) (N := 36) hx hb hU iX11 hown hK hT 0 rfl rfl 17 (by decide) w802 (fun _ h9 => h9) rfl dX11_feed_60 ?_
            refine lv_iconst (v := 1) hx hb dX11_feed_63 (by decide) ?_
            refine lv_iadd hx hb dX11_feed_64 (lv_topi (fun v29 e_v29 => ?_))
            have e_v29 := ai_add e_v29 rfl li_1 (by omega)
            refine tz_put (ci := 8) (v := .int v29) (ty := .int) (C := RX11) (F := TX11) (N := 36) hx hb hU iX11 tyX11 tyX11_ok nmX11 hown hK hT hS 0 rfl rfl 17 (by decide) w802 (fun _ h9 => h9) rfl (by decide +kernel) rfl rfl (Nat.le_of_ble_eq_true rfl) dX11_feed_65 (fun H locs hT hS => ?_)
            have hT : TP D A [(h0, ob 8 [.int h0f0, .int h0f1, .int h0f2, .int h0f3, .int h0f4, .int h0f5, .ref h1, .ref h2, .int h0f8, .int h0f9, .ref h3, .ref h4, .ref h5, .ref h6, .ref h7, .ref h8, .ref h9, .int v29, .int h0f18, .int h0f19, .ref h10, .ref h11, .ref h12, .ref h13, .int h0f24, .int h0f25, .ref h14, .ref h15, .ref h16, .ref h17, .int h0f30, .int h0f31, .ref h18, .ref h19, .ref h20, .ref h21]), (h8, aI (k 0) 120 anI)] _ := hT
            obtain ⟨v30, e_v30⟩ : ∃ x : Int32, x = y21 + Int32.ofInt 1 := ⟨_, rfl⟩
            have f_v30 := e_v30.symm
            have e_v30 : v30.toInt = y21.toInt + 1 := ai_add e_v30 rfl (show (Int32.ofInt 1).toInt = 1 from (by decide +kernel)) (by omega)
            refine lv_iinc (v := v30) (lv' := [(4, .int v30), (0, .ref h0), (1, .long x1), (3, .int x2)]) hx hb dX11_feed_68 hl (k := 3) rfl f_v30 (by decide) rfl (fun ls hl => ?_)
            refine lv_goto (tgt := 31) hx hb dX11_feed_71 (by decide) ?_
            exact ih31_23 v30 v29 _ _ _ (by omega) (by omega) (by omega) (by omega) (by omega) hT hS (lv_sub hl [1, 2, 3, 0] rfl)
      exact lp31_23 ((x2.toInt + (-1) * (0 : Int32).toInt + 1).toNat + 1) (0) h0f17 _ _ _ (by have := li_0; omega) (by have := li_0; omega) (by have := li_0; omega) (by have := li_0; omega) (Nat.lt_succ_self _) hT hS (lv_sub hl [1, 2, 3, 0] rfl)
    · skip
      have c_8 := ni_nle c_8 rfl li_120
      refine lv_bipush (v := (-2)) hx hb dX11_feed_25 (by decide) ?_
      exact tz_retI (B := B_cX11_feedL_ad661 D k h0 h8 h1 h2 h3 h4 h5 h6 h7 h9 h10 h11 h12 h13 h14 h15 h16 h17 h18 h19 h20 h21 x1 x2 h0f0 h0f1 h0f2 h0f3 h0f4 h0f5 h0f8 h0f9 h0f17 h0f18 h0f19 h0f24 h0f25 h0f30 h0f31) (v := (-2)) hQ hx hb hr hlocks hS (Nat.le_of_ble_eq_true rfl) (Nat.le_of_ble_eq_true rfl) dX11_feed_27 (⟨h0f17, (by have := li_m2; omega), (by have := li_m2; omega), hT⟩)
abbrev Rm_cX11_foundL_35a80 : Room := { frames := 3, cells := 0, slots := 0, locals := 70 }
abbrev B_cX11_foundL_35a80 (D : va_G) (k : Nat → ClassId) (h0 h1 h4 h5 h6 h10 h11 h12 h13 h2 h3 h7 h8 h9 h14 h15 h16 h17 h18 h19 h20 h21 : Nat) (x1 : Int32) (h0f0 : Int32) (h0f1 : Int32) (h0f2 : Int32) (h0f3 : Int32) (h0f4 : Int32) (h0f5 : Int32) (h0f8 : Int32) (h0f9 : Int32) (h0f17 : Int32) (h0f18 : Int32) (h0f19 : Int32) (h0f24 : Int32) (h0f25 : Int32) (h0f30 : Int32) (h0f31 : Int32) (A : Nat → Prop) (r : Int32) (H : Heap) : Prop := ∃ o0 : Int32, ∃ o1 : Int32, ∃ o2 : Int32, (0 ≤ o0.toInt ∧ o0.toInt ≤ 1) ∧ (0 ≤ o1.toInt ∧ o1.toInt ≤ 100) ∧ (0 ≤ o2.toInt ∧ o2.toInt ≤ 1) ∧ ((-16) ≤ r.toInt ∧ r.toInt ≤ 99) ∧ (o0.toInt ≤ o1.toInt) ∧ TP D A [(h0, ob 8 [.int h0f0, .int h0f1, .int h0f2, .int h0f3, .int h0f4, .int h0f5, .ref h1, .ref h2, .int h0f8, .int o0, .ref h3, .ref h4, .ref h5, .ref h6, .ref h7, .ref h8, .ref h9, .int h0f17, .int h0f18, .int h0f19, .ref h10, .ref h11, .ref h12, .ref h13, .int o1, .int o2, .ref h14, .ref h15, .ref h16, .ref h17, .int h0f30, .int h0f31, .ref h18, .ref h19, .ref h20, .ref h21]), (h1, aI (k 0) 36 anI), (h4, aJ (k 1) 9 anJ), (h5, aJ (k 1) 9 anJ), (h6, aJ (k 1) 9 anJ), (h10, aJ (k 1) 900 (lsP (o0.toInt))), (h11, aI (k 0) 100 anI), (h12, aI (k 0) 100 anI), (h13, aI (k 0) 100 anI)] H
set_option maxHeartbeats 4000000 in
set_option maxRecDepth 100000 in
theorem cX11_foundL_35a80 (l : Launch) (D : va_G) (k : Nat → ClassId) (sz : Nat) (h0 h1 h4 h5 h6 h10 h11 h12 h13 h2 h3 h7 h8 h9 h14 h15 h16 h17 h18 h19 h20 h21 : Nat) (x1 : Int32) (h0f0 : Int32) (h0f1 : Int32) (h0f2 : Int32) (h0f3 : Int32) (h0f4 : Int32) (h0f5 : Int32) (h0f8 : Int32) (h0f9 : Int32) (h0f17 : Int32) (h0f18 : Int32) (h0f19 : Int32) (h0f24 : Int32) (h0f25 : Int32) (h0f30 : Int32) (h0f31 : Int32) (b_h0f0 : 1 ≤ h0f0.toInt ∧ h0f0.toInt ≤ 3) (b_h0f1 : 0 ≤ h0f1.toInt ∧ h0f1.toInt ≤ 4) (b_h0f3 : 0 ≤ h0f3.toInt ∧ h0f3.toInt ≤ 3) (b_h0f4 : 0 ≤ h0f4.toInt ∧ h0f4.toInt ≤ 4) (b_h0f8 : 0 ≤ h0f8.toInt ∧ h0f8.toInt ≤ 1) (b_h0f9 : 0 ≤ h0f9.toInt ∧ h0f9.toInt ≤ 1) (b_h0f17 : 0 ≤ h0f17.toInt ∧ h0f17.toInt ≤ 120) (b_h0f18 : 0 ≤ h0f18.toInt ∧ h0f18.toInt ≤ 120) (b_h0f19 : 0 ≤ h0f19.toInt ∧ h0f19.toInt ≤ 4) (b_h0f24 : 0 ≤ h0f24.toInt ∧ h0f24.toInt ≤ 100) (b_h0f25 : 0 ≤ h0f25.toInt ∧ h0f25.toInt ≤ 1) (b_h0f30 : 0 ≤ h0f30.toInt ∧ h0f30.toInt ≤ 60) (b_h0f31 : 0 ≤ h0f31.toInt ∧ h0f31.toInt ≤ 1) (i_0 : h0f8.toInt ≤ h0f3.toInt) (i_1 : h0f9.toInt ≤ h0f24.toInt) : Met l yX11_found (Cond.code yX11_found cX11_found 7 (some .int) :: uw) Rm_cX11_foundL_35a80 (pT D k sz [.ref h0, .int x1] [(h0, ob 8 [.int h0f0, .int h0f1, .int h0f2, .int h0f3, .int h0f4, .int h0f5, .ref h1, .ref h2, .int h0f8, .int h0f9, .ref h3, .ref h4, .ref h5, .ref h6, .ref h7, .ref h8, .ref h9, .int h0f17, .int h0f18, .int h0f19, .ref h10, .ref h11, .ref h12, .ref h13, .int h0f24, .int h0f25, .ref h14, .ref h15, .ref h16, .ref h17, .int h0f30, .int h0f31, .ref h18, .ref h19, .ref h20, .ref h21]), (h1, aI (k 0) 36 anI), (h4, aJ (k 1) 9 anJ), (h5, aJ (k 1) 9 anJ), (h6, aJ (k 1) 9 anJ), (h10, aJ (k 1) 900 (lsP (h0f9.toInt))), (h11, aI (k 0) 100 anI), (h12, aI (k 0) 100 anI), (h13, aI (k 0) 100 anI)]) (qI (B_cX11_foundL_35a80 D k h0 h1 h4 h5 h6 h10 h11 h12 h13 h2 h3 h7 h8 h9 h14 h15 h16 h17 h18 h19 h20 h21 x1 h0f0 h0f1 h0f2 h0f3 h0f4 h0f5 h0f8 h0f9 h0f17 h0f18 h0f19 h0f24 h0f25 h0f30 h0f31 (zA [h0, h1, h4, h5, h6, h10, h11, h12, h13] sz)) (zA [h0, h1, h4, h5, h6, h10, h11, h12, h13] sz)) 0 0 (zA [h0, h1, h4, h5, h6, h10, h11, h12, h13] sz) := by
  refine tz_begin (as := [h0, h1, h4, h5, h6, h10, h11, h12, h13]) (Qc := fun A => qI (B_cX11_foundL_35a80 D k h0 h1 h4 h5 h6 h10 h11 h12 h13 h2 h3 h7 h8 h9 h14 h15 h16 h17 h18 h19 h20 h21 x1 h0f0 h0f1 h0f2 h0f3 h0f4 h0f5 h0f8 h0f9 h0f17 h0f18 h0f19 h0f24 h0f25 h0f30 h0f31 A) A) (by decide +kernel) rfl (Nat.le_of_ble_eq_true rfl) ?_
  intro p e s m args below meth c ls A Q hx hb hr hml hown hlocks hin hU hK hT hS hA hl hQ
  have hl : lv_has ls 7 [(0, .ref h0), (1, .int x1)] := hl
  have hT : TP D A [(h0, ob 8 [.int h0f0, .int h0f1, .int h0f2, .int h0f3, .int h0f4, .int h0f5, .ref h1, .ref h2, .int h0f8, .int h0f9, .ref h3, .ref h4, .ref h5, .ref h6, .ref h7, .ref h8, .ref h9, .int h0f17, .int h0f18, .int h0f19, .ref h10, .ref h11, .ref h12, .ref h13, .int h0f24, .int h0f25, .ref h14, .ref h15, .ref h16, .ref h17, .int h0f30, .int h0f31, .ref h18, .ref h19, .ref h20, .ref h21]), (h1, aI (k 0) 36 anI), (h4, aJ (k 1) 9 anJ), (h5, aJ (k 1) 9 anJ), (h6, aJ (k 1) 9 anJ), (h10, aJ (k 1) 900 (lsP (h0f9.toInt))), (h11, aI (k 0) 100 anI), (h12, aI (k 0) 100 anI), (h13, aI (k 0) 100 anI)] s.heap := hT
  refine lv_iconst (v := 0) hx hb dX11_found_0 (by decide) ?_
  refine lv_istore_n (lv' := [(2, .int 0), (0, .ref h0), (1, .int x1)]) hx hb dX11_found_1 rfl hl (by decide) rfl (fun ls hl => ?_)
  refine lv_iload_n hx hb dX11_found_2 rfl (lv_at hl 2 rfl) ?_
  refine lv_if_lt (tgt := 10) hx hb dX11_found_3 (by decide) (fun c_1 => ?_) (fun c_1 => ?_)
  · skip
    have c_1 := ni_lt c_1 rfl li_0
    refine lv_iconst (v := 0) hx hb dX11_found_10 (by decide) ?_
    refine lv_istore_n (lv' := [(3, .int 0), (2, .int 0), (0, .ref h0), (1, .int x1)]) hx hb dX11_found_11 rfl hl (by decide) rfl (fun ls hl => ?_)
    refine lv_iload_n hx hb dX11_found_12 rfl (lv_at hl 3 rfl) ?_
    refine lv_istore (lv' := [(4, .int x1), (3, .int 0), (2, .int 0), (0, .ref h0), (1, .int x1)]) hx hb dX11_found_13 hl (by decide) rfl (fun ls hl => ?_)
    have lp15_2 : ∀ (H : Heap) (locs : List Loc) (ls : Array Slot), (dgP x1.toInt x1.toInt 0 0 h0f1.toInt) → TP D A [(h0, ob 8 [.int h0f0, .int h0f1, .int h0f2, .int h0f3, .int h0f4, .int h0f5, .ref h1, .ref h2, .int h0f8, .int h0f9, .ref h3, .ref h4, .ref h5, .ref h6, .ref h7, .ref h8, .ref h9, .int h0f17, .int h0f18, .int h0f19, .ref h10, .ref h11, .ref h12, .ref h13, .int h0f24, .int h0f25, .ref h14, .ref h15, .ref h16, .ref h17, .int h0f30, .int h0f31, .ref h18, .ref h19, .ref h20, .ref h21]), (h1, aI (k 0) 36 anI), (h4, aJ (k 1) 9 anJ), (h5, aJ (k 1) 9 anJ), (h6, aJ (k 1) 9 anJ), (h10, aJ (k 1) 900 (lsP (h0f9.toInt))), (h11, aI (k 0) 100 anI), (h12, aI (k 0) 100 anI), (h13, aI (k 0) 100 anI)] H → va_S A s.heap H locs → lv_has ls 7 [(0, .ref h0), (1, .int x1), (2, .int 0), (3, .int 0), (4, .int x1)] → W p l e Rm_cX11_foundL_35a80 s m args below meth c H locs 0 0 Q (F0 m 15 ls []) := by
      intro H locs ls w_0 hT hS hl
      refine lv_iload hx hb dX11_found_15 (lv_at hl 4 rfl) ?_
      refine lv_if_le (tgt := 61) hx hb dX11_found_17 (by decide) (fun c_3 => ?_) (fun c_3 => ?_)
      · skip
        have c_3 := ni_le c_3 rfl li_0
        refine lv_iload_n hx hb dX11_found_61 rfl (lv_at hl 3 rfl) ?_
        refine lv_if_eq (tgt := 71) hx hb dX11_found_62 (by decide) (fun _ => ?_) (fun cc => absurd (by decide +kernel) cc)
        refine lv_iconst (v := (-1)) hx hb dX11_found_71 (by decide) ?_
        exact tz_retI (B := B_cX11_foundL_35a80 D k h0 h1 h4 h5 h6 h10 h11 h12 h13 h2 h3 h7 h8 h9 h14 h15 h16 h17 h18 h19 h20 h21 x1 h0f0 h0f1 h0f2 h0f3 h0f4 h0f5 h0f8 h0f9 h0f17 h0f18 h0f19 h0f24 h0f25 h0f30 h0f31) (v := (-1)) hQ hx hb hr hlocks hS (Nat.le_of_ble_eq_true rfl) (Nat.le_of_ble_eq_true rfl) dX11_found_72 (⟨h0f9, h0f24, h0f25, (by have := li_m1; omega), (by have := li_m1; omega), (by have := li_m1; omega), (by have := li_m1; omega), (by have := li_m1; omega), hT⟩)
      · skip
        have c_3 := ni_nle c_3 rfl li_0
        exfalso; omega
    exact lp15_2   _ _ _  (by first | exact dg_0 (by omega) | exact dg_1 w_0 (by omega))  hT hS (lv_sub hl [3, 4, 2, 1, 0] rfl)
  · skip
    have c_1 := ni_nlt c_1 rfl li_0
    refine lv_iconst (v := 1) hx hb dX11_found_6 (by decide) ?_
    refine lv_goto (tgt := 11) hx hb dX11_found_7 (by decide) ?_
    refine lv_istore_n (lv' := [(3, .int 1), (2, .int 0), (0, .ref h0), (1, .int x1)]) hx hb dX11_found_11 rfl hl (by decide) rfl (fun ls hl => ?_)
    refine lv_iload_n hx hb dX11_found_12 rfl (lv_at hl 3 rfl) ?_
    refine lv_istore (lv' := [(4, .int x1), (3, .int 1), (2, .int 0), (0, .ref h0), (1, .int x1)]) hx hb dX11_found_13 hl (by decide) rfl (fun ls hl => ?_)
    have lp15_28 : ∀ (n : Nat) (y25 : Int32) (y26 : Int32) (y27 : Int32) (H : Heap) (locs : List Loc) (ls : Array Slot), (0 ≤ y25.toInt) → (0 ≤ y26.toInt ∧ y26.toInt ≤ 1) → (0 ≤ y27.toInt ∧ y27.toInt ≤ 10) → (dgP x1.toInt y25.toInt y27.toInt y26.toInt h0f1.toInt) → ((-1) * y27.toInt + 9 + 1).toNat < n → TP D A [(h0, ob 8 [.int h0f0, .int h0f1, .int h0f2, .int h0f3, .int h0f4, .int h0f5, .ref h1, .ref h2, .int h0f8, .int h0f9, .ref h3, .ref h4, .ref h5, .ref h6, .ref h7, .ref h8, .ref h9, .int h0f17, .int h0f18, .int h0f19, .ref h10, .ref h11, .ref h12, .ref h13, .int h0f24, .int h0f25, .ref h14, .ref h15, .ref h16, .ref h17, .int h0f30, .int h0f31, .ref h18, .ref h19, .ref h20, .ref h21]), (h1, aI (k 0) 36 anI), (h4, aJ (k 1) 9 anJ), (h5, aJ (k 1) 9 anJ), (h6, aJ (k 1) 9 anJ), (h10, aJ (k 1) 900 (lsP (h0f9.toInt))), (h11, aI (k 0) 100 anI), (h12, aI (k 0) 100 anI), (h13, aI (k 0) 100 anI)] H → va_S A s.heap H locs → lv_has ls 7 [(0, .ref h0), (1, .int x1), (2, .int y27), (3, .int y26), (4, .int y25)] → W p l e Rm_cX11_foundL_35a80 s m args below meth c H locs 0 0 Q (F0 m 15 ls []) := by
      intro n
      induction n with
      | zero => intro y25 y26 y27 H locs ls b_y25 b_y26 b_y27 w_0 hm hT hS hl; exact absurd hm (Nat.not_lt_zero _)
      | succ n ih =>
        intro y25 y26 y27 H locs ls b_y25 b_y26 b_y27 w_0 hm hT hS hl
        have ih15_28 := ih
        clear ih
        refine lv_iload hx hb dX11_found_15 (lv_at hl 4 rfl) ?_
        refine lv_if_le (tgt := 61) hx hb dX11_found_17 (by decide) (fun c_29 => ?_) (fun c_29 => ?_)
        · skip
          have c_29 := ni_le c_29 rfl li_0
          refine lv_iload_n hx hb dX11_found_61 rfl (lv_at hl 3 rfl) ?_
          refine lv_if_eq (tgt := 71) hx hb dX11_found_62 (by decide) (fun c_30 => ?_) (fun c_30 => ?_)
          · skip
            have c_30 := ni_eq c_30 rfl li_0
            refine lv_iconst (v := (-1)) hx hb dX11_found_71 (by decide) ?_
            exact tz_retI (B := B_cX11_foundL_35a80 D k h0 h1 h4 h5 h6 h10 h11 h12 h13 h2 h3 h7 h8 h9 h14 h15 h16 h17 h18 h19 h20 h21 x1 h0f0 h0f1 h0f2 h0f3 h0f4 h0f5 h0f8 h0f9 h0f17 h0f18 h0f19 h0f24 h0f25 h0f30 h0f31) (v := (-1)) hQ hx hb hr hlocks hS (Nat.le_of_ble_eq_true rfl) (Nat.le_of_ble_eq_true rfl) dX11_found_72 (⟨h0f9, h0f24, h0f25, (by have := li_m1; omega), (by have := li_m1; omega), (by have := li_m1; omega), (by have := li_m1; omega), (by have := li_m1; omega), hT⟩)
          · skip
            have c_30 := ni_ne c_30 rfl li_0
            refine lv_iload_n hx hb dX11_found_65 rfl (lv_at hl 2 rfl) ?_
            refine lv_bipush (v := 9) hx hb dX11_found_66 (by decide) ?_
            refine lv_icmp_le (tgt := 73) hx hb dX11_found_68 (by decide) (fun c_31 => ?_) (fun c_31 => ?_)
            · skip
              have c_31 := ni_le c_31 rfl li_9
              have hdg := dg_all w_0 (by omega)
              refine lv_aload_n hx hb dX11_found_73 rfl (lv_at hl 0 rfl) ?_
              refine tcV (Tc := [(h0, ob 8 [.int h0f0, .int h0f1, .int h0f2, .int h0f3, .int h0f4, .int h0f5, .ref h1, .ref h2, .int h0f8, .int h0f9, .ref h3, .ref h4, .ref h5, .ref h6, .ref h7, .ref h8, .ref h9, .int h0f17, .int h0f18, .int h0f19, .ref h10, .ref h11, .ref h12, .ref h13, .int h0f24, .int h0f25, .ref h14, .ref h15, .ref h16, .ref h17, .int h0f30, .int h0f31, .ref h18, .ref h19, .ref h20, .ref h21]), (h1, aI (k 0) 36 anI), (h4, aJ (k 1) 9 anJ), (h5, aJ (k 1) 9 anJ), (h6, aJ (k 1) 9 anJ), (h10, aJ (k 1) 900 (lsP (h0f9.toInt))), (h11, aI (k 0) 100 anI), (h12, aI (k 0) 100 anI), (h13, aI (k 0) 100 anI)]) (Tr := []) (as := [h0, h1, h4, h5, h6, h10, h11, h12, h13]) (zcV (q0 := 0) (ci := 8) (As := []) (rest := []) (Tc := [(h0, ob 8 [.int h0f0, .int h0f1, .int h0f2, .int h0f3, .int h0f4, .int h0f5, .ref h1, .ref h2, .int h0f8, .int h0f9, .ref h3, .ref h4, .ref h5, .ref h6, .ref h7, .ref h8, .ref h9, .int h0f17, .int h0f18, .int h0f19, .ref h10, .ref h11, .ref h12, .ref h13, .int h0f24, .int h0f25, .ref h14, .ref h15, .ref h16, .ref h17, .int h0f30, .int h0f31, .ref h18, .ref h19, .ref h20, .ref h21]), (h1, aI (k 0) 36 anI), (h4, aJ (k 1) 9 anJ), (h5, aJ (k 1) 9 anJ), (h6, aJ (k 1) 9 anJ), (h10, aJ (k 1) 900 (lsP (h0f9.toInt))), (h11, aI (k 0) 100 anI), (h12, aI (k 0) 100 anI), (h13, aI (k 0) 100 anI)]) hx hb hml hown hU hK hT rfl rfl [0, 1, 2, 3, 4, 5, 6, 7, 8] rfl (by decide) (cX11_findList_9a1c7 l D k _ h0 h1 h4 h5 h6 h10 h11 h12 h13 h2 h3 h7 h8 h9 h14 h15 h16 h17 h18 h19 h20 h21 h0f0 h0f1 h0f2 h0f3 h0f4 h0f5 h0f8 h0f9 h0f17 h0f18 h0f19 h0f24 h0f25 h0f30 h0f31 (by omega) (by omega) (by omega) (by omega) (by omega) (by omega) (by omega) (by omega) (by omega) (by omega) (by omega) (by omega) (by omega) (by omega) (by omega)) w1039 w1036 w1038 w47 w72 hdX11_findList ⟨rfl, rfl⟩ ⟨Nat.le_of_ble_eq_true rfl, Nat.le_of_ble_eq_true rfl⟩ rfl hl.1 (Nat.le_of_ble_eq_true rfl) dX11_found_74 ⟨Nat.le_of_ble_eq_true rfl, Nat.le_of_ble_eq_true rfl⟩) hT hS hA [0, 1, 2, 3, 4, 5, 6, 7, 8] [] rfl rfl rfl (by decide) (by decide) (fun H locs hB J hS => ?_)
              obtain ⟨v33, v34, v35, b_v33, b_v34, b_v35, hT1⟩ := hB
              have hT := J _ hT1
              have hT : TP D A [(h0, ob 8 [.int h0f0, .int h0f1, .int h0f2, .int h0f3, .int h0f4, .int h0f5, .ref h1, .ref h2, .int h0f8, .int v33, .ref h3, .ref h4, .ref h5, .ref h6, .ref h7, .ref h8, .ref h9, .int h0f17, .int h0f18, .int h0f19, .ref h10, .ref h11, .ref h12, .ref h13, .int v34, .int v35, .ref h14, .ref h15, .ref h16, .ref h17, .int h0f30, .int h0f31, .ref h18, .ref h19, .ref h20, .ref h21]), (h1, aI (k 0) 36 anI), (h4, aJ (k 1) 9 anJ), (h5, aJ (k 1) 9 anJ), (h6, aJ (k 1) 9 anJ), (h10, aJ (k 1) 900 (lsP (v33.toInt))), (h11, aI (k 0) 100 anI), (h12, aI (k 0) 100 anI), (h13, aI (k 0) 100 anI)] _ := hT
              refine lv_aload_n hx hb dX11_found_77 rfl (lv_at hl 0 rfl) ?_
              refine lv_aload_n hx hb dX11_found_78 rfl (lv_at hl 0 rfl) ?_
              refine tz_get (ci := 8) (v := .ref h4) (C := RX11) (F := TX11) (N := 36) hx hb hU iX11 hown hK hT 0 rfl rfl 11 (by decide) w796 (fun _ h9 => h9) rfl dX11_found_79 ?_
              refine tcV (Tc := [(h0, ob 8 [.int h0f0, .int h0f1, .int h0f2, .int h0f3, .int h0f4, .int h0f5, .ref h1, .ref h2, .int h0f8, .int v33, .ref h3, .ref h4, .ref h5, .ref h6, .ref h7, .ref h8, .ref h9, .int h0f17, .int h0f18, .int h0f19, .ref h10, .ref h11, .ref h12, .ref h13, .int v34, .int v35, .ref h14, .ref h15, .ref h16, .ref h17, .int h0f30, .int h0f31, .ref h18, .ref h19, .ref h20, .ref h21]), (h4, aJ (k 1) 9 anJ)]) (Tr := [(h1, aI (k 0) 36 anI), (h5, aJ (k 1) 9 anJ), (h6, aJ (k 1) 9 anJ), (h10, aJ (k 1) 900 (lsP (v33.toInt))), (h11, aI (k 0) 100 anI), (h12, aI (k 0) 100 anI), (h13, aI (k 0) 100 anI)]) (as := [h0, h4]) (zcV (q0 := 0) (ci := 8) (As := [.ref h4]) (rest := []) (Tc := [(h0, ob 8 [.int h0f0, .int h0f1, .int h0f2, .int h0f3, .int h0f4, .int h0f5, .ref h1, .ref h2, .int h0f8, .int v33, .ref h3, .ref h4, .ref h5, .ref h6, .ref h7, .ref h8, .ref h9, .int h0f17, .int h0f18, .int h0f19, .ref h10, .ref h11, .ref h12, .ref h13, .int v34, .int v35, .ref h14, .ref h15, .ref h16, .ref h17, .int h0f30, .int h0f31, .ref h18, .ref h19, .ref h20, .ref h21]), (h4, aJ (k 1) 9 anJ)]) hx hb hml hown hU hK hT rfl rfl [0, 2] rfl (by decide) (cX11_first_23143 l D k _ h0 h4 h1 h2 h3 h5 h6 h7 h8 h9 h10 h11 h12 h13 h14 h15 h16 h17 h18 h19 h20 h21 h0f0 h0f1 h0f2 h0f3 h0f4 h0f5 h0f8 v33 h0f17 h0f18 h0f19 v34 v35 h0f30 h0f31 (by omega) (by omega) (by omega) (by omega) (by omega) (by omega) (by omega) (by omega) (by omega) (by omega) (by omega) (by omega) (by omega) (by omega) (by omega)) w919 w916 w918 w28 w72 hdX11_first ⟨rfl, rfl⟩ ⟨Nat.le_of_ble_eq_true rfl, Nat.le_of_ble_eq_true rfl⟩ rfl hl.1 (Nat.le_of_ble_eq_true rfl) dX11_found_82 ⟨Nat.le_of_ble_eq_true rfl, Nat.le_of_ble_eq_true rfl⟩) hT hS hA [0, 2] [1, 3, 4, 5, 6, 7, 8] rfl rfl rfl (by decide) (by decide) (fun H locs hB J hS => ?_)
              have hT1 := hB
              have hT := J _ hT1
              have hT : TP D A [(h1, aI (k 0) 36 anI), (h5, aJ (k 1) 9 anJ), (h6, aJ (k 1) 9 anJ), (h10, aJ (k 1) 900 (lsP (v33.toInt))), (h11, aI (k 0) 100 anI), (h12, aI (k 0) 100 anI), (h13, aI (k 0) 100 anI), (h0, ob 8 [.int h0f0, .int h0f1, .int h0f2, .int h0f3, .int h0f4, .int h0f5, .ref h1, .ref h2, .int h0f8, .int v33, .ref h3, .ref h4, .ref h5, .ref h6, .ref h7, .ref h8, .ref h9, .int h0f17, .int h0f18, .int h0f19, .ref h10, .ref h11, .ref h12, .ref h13, .int v34, .int v35, .ref h14, .ref h15, .ref h16, .ref h17, .int h0f30, .int h0f31, .ref h18, .ref h19, .ref h20, .ref h21]), (h4, aJ (k 1) 9 anJ)] _ := hT
              refine lv_iconst (v := 1) hx hb dX11_found_85 (by decide) ?_
              refine lv_istore (lv' := [(4, .int 1), (0, .ref h0), (1, .int x1), (2, .int y27), (3, .int y26)]) hx hb dX11_found_86 hl (by decide) rfl (fun ls hl => ?_)
              refine lv_iconst (v := 1) hx hb dX11_found_88 (by decide) ?_
              refine lv_istore (lv' := [(5, .int 1), (4, .int 1), (0, .ref h0), (1, .int x1), (2, .int y27), (3, .int y26)]) hx hb dX11_found_89 hl (by decide) rfl (fun ls hl => ?_)
              have lp91_49 : ∀ (n : Nat) (y47 : Int32) (y48 : Int32) (H : Heap) (locs : List Loc) (ls : Array Slot), (1 ≤ y47.toInt ∧ y47.toInt ≤ 9) → (1 ≤ y48.toInt) → (pwP y48.toInt y47.toInt y27.toInt) → (y27.toInt + (-1) * y47.toInt + 1).toNat < n → TP D A [(h1, aI (k 0) 36 anI), (h5, aJ (k 1) 9 anJ), (h6, aJ (k 1) 9 anJ), (h10, aJ (k 1) 900 (lsP (v33.toInt))), (h11, aI (k 0) 100 anI), (h12, aI (k 0) 100 anI), (h13, aI (k 0) 100 anI), (h0, ob 8 [.int h0f0, .int h0f1, .int h0f2, .int h0f3, .int h0f4, .int h0f5, .ref h1, .ref h2, .int h0f8, .int v33, .ref h3, .ref h4, .ref h5, .ref h6, .ref h7, .ref h8, .ref h9, .int h0f17, .int h0f18, .int h0f19, .ref h10, .ref h11, .ref h12, .ref h13, .int v34, .int v35, .ref h14, .ref h15, .ref h16, .ref h17, .int h0f30, .int h0f31, .ref h18, .ref h19, .ref h20, .ref h21]), (h4, aJ (k 1) 9 anJ)] H → va_S A s.heap H locs → lv_has ls 7 [(0, .ref h0), (1, .int x1), (2, .int y27), (4, .int y48), (5, .int y47)] → W p l e Rm_cX11_foundL_35a80 s m args below meth c H locs 0 0 Q (F0 m 91 ls []) := by
                intro n
                induction n with
                | zero => intro y47 y48 H locs ls b_y47 b_y48 w_0 hm hT hS hl; exact absurd hm (Nat.not_lt_zero _)
                | succ n ih =>
                  intro y47 y48 H locs ls b_y47 b_y48 w_0 hm hT hS hl
                  have ih91_49 := ih
                  clear ih
                  refine lv_iload hx hb dX11_found_91 (lv_at hl 4 rfl) ?_
                  refine lv_iload_n hx hb dX11_found_93 rfl (lv_at hl 2 rfl) ?_
                  refine lv_icmp_ge (tgt := 110) hx hb dX11_found_94 (by decide) (fun c_50 => ?_) (fun c_50 => ?_)
                  · skip
                    have c_50 := ni_le c_50 rfl rfl
                    refine lv_iconst (v := 0) hx hb dX11_found_110 (by decide) ?_
                    refine lv_istore (lv' := [(5, .int 0), (0, .ref h0), (1, .int x1), (2, .int y27), (4, .int y48)]) hx hb dX11_found_111 hl (by decide) rfl (fun ls hl => ?_)
                    have lp113_65 : ∀ (n : Nat) (y63 : Int32) (y64 : Int32) (H : Heap) (locs : List Loc) (ls : Array Slot), (0 ≤ y63.toInt ∧ y63.toInt ≤ 9) → (0 ≤ y64.toInt) → (qwP y64.toInt y63.toInt y27.toInt) → (y27.toInt + (-1) * y63.toInt + 1).toNat < n → TP D A [(h1, aI (k 0) 36 anI), (h5, aJ (k 1) 9 anJ), (h6, aJ (k 1) 9 anJ), (h10, aJ (k 1) 900 (lsP (v33.toInt))), (h11, aI (k 0) 100 anI), (h12, aI (k 0) 100 anI), (h13, aI (k 0) 100 anI), (h0, ob 8 [.int h0f0, .int h0f1, .int h0f2, .int h0f3, .int h0f4, .int h0f5, .ref h1, .ref h2, .int h0f8, .int v33, .ref h3, .ref h4, .ref h5, .ref h6, .ref h7, .ref h8, .ref h9, .int h0f17, .int h0f18, .int h0f19, .ref h10, .ref h11, .ref h12, .ref h13, .int v34, .int v35, .ref h14, .ref h15, .ref h16, .ref h17, .int h0f30, .int h0f31, .ref h18, .ref h19, .ref h20, .ref h21]), (h4, aJ (k 1) 9 anJ)] H → va_S A s.heap H locs → lv_has ls 7 [(0, .ref h0), (1, .int x1), (2, .int y27), (4, .int y64), (5, .int y63)] → W p l e Rm_cX11_foundL_35a80 s m args below meth c H locs 0 0 Q (F0 m 113 ls []) := by
                      intro n
                      induction n with
                      | zero => intro y63 y64 H locs ls b_y63 b_y64 w_0 hm hT hS hl; exact absurd hm (Nat.not_lt_zero _)
                      | succ n ih =>
                        intro y63 y64 H locs ls b_y63 b_y64 w_0 hm hT hS hl
                        have ih113_65 := ih
                        clear ih
                        refine lv_iload hx hb dX11_found_113 (lv_at hl 4 rfl) ?_
                        refine lv_iload_n hx hb dX11_found_115 rfl (lv_at hl 2 rfl) ?_
                        refine lv_icmp_ge (tgt := 209) hx hb dX11_found_116 (by decide) (fun c_66 => ?_) (fun c_66 => ?_)
                        · skip
                          have c_66 := ni_le c_66 rfl rfl
                          refine lv_aload_n hx hb dX11_found_209 rfl (lv_at hl 0 rfl) ?_
                          refine lv_aload_n hx hb dX11_found_210 rfl (lv_at hl 0 rfl) ?_
                          refine tz_get (ci := 8) (v := .ref h4) (C := RX11) (F := TX11) (N := 36) hx hb hU iX11 hown hK hT 7 rfl rfl 11 (by decide) w796 (fun _ h9 => h9) rfl dX11_found_211 ?_
                          refine tcI (Tc := [(h0, ob 8 [.int h0f0, .int h0f1, .int h0f2, .int h0f3, .int h0f4, .int h0f5, .ref h1, .ref h2, .int h0f8, .int v33, .ref h3, .ref h4, .ref h5, .ref h6, .ref h7, .ref h8, .ref h9, .int h0f17, .int h0f18, .int h0f19, .ref h10, .ref h11, .ref h12, .ref h13, .int v34, .int v35, .ref h14, .ref h15, .ref h16, .ref h17, .int h0f30, .int h0f31, .ref h18, .ref h19, .ref h20, .ref h21]), (h4, aJ (k 1) 9 anJ), (h10, aJ (k 1) 900 (lsP (v33.toInt)))]) (Tr := [(h1, aI (k 0) 36 anI), (h5, aJ (k 1) 9 anJ), (h6, aJ (k 1) 9 anJ), (h11, aI (k 0) 100 anI), (h12, aI (k 0) 100 anI), (h13, aI (k 0) 100 anI)]) (as := [h0, h4, h10]) (zcV (q0 := 7) (ci := 8) (As := [.ref h4]) (rest := []) (Tc := [(h0, ob 8 [.int h0f0, .int h0f1, .int h0f2, .int h0f3, .int h0f4, .int h0f5, .ref h1, .ref h2, .int h0f8, .int v33, .ref h3, .ref h4, .ref h5, .ref h6, .ref h7, .ref h8, .ref h9, .int h0f17, .int h0f18, .int h0f19, .ref h10, .ref h11, .ref h12, .ref h13, .int v34, .int v35, .ref h14, .ref h15, .ref h16, .ref h17, .int h0f30, .int h0f31, .ref h18, .ref h19, .ref h20, .ref h21]), (h4, aJ (k 1) 9 anJ), (h10, aJ (k 1) 900 (lsP (v33.toInt)))]) hx hb hml hown hU hK hT rfl rfl [7, 8, 3] rfl (by decide) (cX11_placeOf_ee426 l D k _ h0 h4 h10 h1 h2 h3 h5 h6 h7 h8 h9 h11 h12 h13 h14 h15 h16 h17 h18 h19 h20 h21 h0f0 h0f1 h0f2 h0f3 h0f4 h0f5 h0f8 v33 h0f17 h0f18 h0f19 v34 v35 h0f30 h0f31 (by omega) (by omega) (by omega) (by omega) (by omega) (by omega) (by omega) (by omega) (by omega) (by omega) (by omega) (by omega) (by omega) (by omega) (by omega)) w1051 w1048 w1050 w50 w72 hdX11_placeOf ⟨rfl, rfl⟩ ⟨Nat.le_of_ble_eq_true rfl, Nat.le_of_ble_eq_true rfl⟩ rfl hl.1 (Nat.le_of_ble_eq_true rfl) dX11_found_214 ⟨Nat.le_of_ble_eq_true rfl, Nat.le_of_ble_eq_true rfl⟩) hT hS hA [7, 8, 3] [0, 1, 2, 4, 5, 6] rfl rfl rfl (by decide) (by decide) (fun r67 H locs hB J hS => ?_)
                          obtain ⟨b_r67, hT1⟩ := hB
                          have hT := J _ hT1
                          have hT : TP D A [(h1, aI (k 0) 36 anI), (h5, aJ (k 1) 9 anJ), (h6, aJ (k 1) 9 anJ), (h11, aI (k 0) 100 anI), (h12, aI (k 0) 100 anI), (h13, aI (k 0) 100 anI), (h0, ob 8 [.int h0f0, .int h0f1, .int h0f2, .int h0f3, .int h0f4, .int h0f5, .ref h1, .ref h2, .int h0f8, .int v33, .ref h3, .ref h4, .ref h5, .ref h6, .ref h7, .ref h8, .ref h9, .int h0f17, .int h0f18, .int h0f19, .ref h10, .ref h11, .ref h12, .ref h13, .int v34, .int v35, .ref h14, .ref h15, .ref h16, .ref h17, .int h0f30, .int h0f31, .ref h18, .ref h19, .ref h20, .ref h21]), (h4, aJ (k 1) 9 anJ), (h10, aJ (k 1) 900 (lsP (v33.toInt)))] _ := hT
                          refine lv_istore (lv' := [(5, .int r67), (0, .ref h0), (1, .int x1), (2, .int y27), (4, .int y64)]) hx hb dX11_found_217 hl (by decide) rfl (fun ls hl => ?_)
                          refine lv_iload hx hb dX11_found_219 (lv_at hl 0 rfl) ?_
                          refine lv_if_ge (tgt := 229) hx hb dX11_found_221 (by decide) (fun c_68 => ?_) (fun c_68 => ?_)
                          · skip
                            have c_68 := ni_le c_68 li_0 rfl
                            refine lv_iload hx hb dX11_found_229 (lv_at hl 0 rfl) ?_
                            exact tz_retI (B := B_cX11_foundL_35a80 D k h0 h1 h4 h5 h6 h10 h11 h12 h13 h2 h3 h7 h8 h9 h14 h15 h16 h17 h18 h19 h20 h21 x1 h0f0 h0f1 h0f2 h0f3 h0f4 h0f5 h0f8 h0f9 h0f17 h0f18 h0f19 h0f24 h0f25 h0f30 h0f31) (v := r67) hQ hx hb hr hlocks hS (Nat.le_of_ble_eq_true rfl) (Nat.le_of_ble_eq_true rfl) dX11_found_231 (⟨v33, v34, v35, (by omega), (by omega), (by omega), (by omega), (by omega), (hT.sub [6, 0, 7, 1, 2, 8, 3, 4, 5] (by decide) rfl)⟩)
                          · skip
                            have c_68 := ni_nle c_68 li_0 rfl
                            refine lv_bipush (v := (-3)) hx hb dX11_found_224 (by decide) ?_
                            refine lv_goto (tgt := 231) hx hb dX11_found_226 (by decide) ?_
                            exact tz_retI (B := B_cX11_foundL_35a80 D k h0 h1 h4 h5 h6 h10 h11 h12 h13 h2 h3 h7 h8 h9 h14 h15 h16 h17 h18 h19 h20 h21 x1 h0f0 h0f1 h0f2 h0f3 h0f4 h0f5 h0f8 h0f9 h0f17 h0f18 h0f19 h0f24 h0f25 h0f30 h0f31) (v := (-3)) hQ hx hb hr hlocks hS (Nat.le_of_ble_eq_true rfl) (Nat.le_of_ble_eq_true rfl) dX11_found_231 (⟨v33, v34, v35, (by have := li_m3; omega), (by have := li_m3; omega), (by have := li_m3; omega), (by have := li_m3; omega), (by have := li_m3; omega), (hT.sub [6, 0, 7, 1, 2, 8, 3, 4, 5] (by decide) rfl)⟩)
                        · skip
                          have c_66 := ni_nle c_66 rfl rfl
                          refine lv_aload_n hx hb dX11_found_119 rfl (lv_at hl 0 rfl) ?_
                          refine lv_iload_n hx hb dX11_found_120 rfl (lv_at hl 1 rfl) ?_
                          refine lv_iload hx hb dX11_found_121 (lv_at hl 3 rfl) ?_
                          have hp_y64 := qw_pos w_0 (by omega)
                          refine lv_idiv hx hb dX11_found_123 (nz32 (y := y64.toInt) rfl (by omega)) (lv_topi (fun v69 e_v69 => ?_))
                          have e_v69 := ai_div e_v69 rfl rfl (by omega)
                          have g_v69 : 0 ≤ v69.toInt := by rw [e_v69]; exact Int.ediv_nonneg (by omega) (by omega)
                          refine lv_bipush (v := 10) hx hb dX11_found_124 (by decide) ?_
                          have tb_v69 := i32b v69
                          refine lv_irem hx hb dX11_found_126 (by decide +kernel) (lv_topi (fun v70 e_v70 => ?_))
                          have e_v70 := ai_rem e_v70 rfl li_10 (by omega)
                          refine lv_iconst (v := 1) hx hb dX11_found_127 (by decide) ?_
                          refine lv_isub hx hb dX11_found_128 (lv_topi (fun v71 e_v71 => ?_))
                          have e_v71 := ai_sub e_v71 rfl li_1 (by omega)
                          refine lv_aload_n hx hb dX11_found_129 rfl (lv_at hl 0 rfl) ?_
                          refine tz_get (ci := 8) (v := .ref h5) (C := RX11) (F := TX11) (N := 36) hx hb hU iX11 hown hK hT 7 rfl rfl 12 (by decide) w797 (fun _ h9 => h9) rfl dX11_found_130 ?_
                          have hk_v71 := qw_dig (v := v71.toInt) (r := v70.toInt) w_0 hdg e_v69 (by omega)
                          refine tcV (Tc := [(h0, ob 8 [.int h0f0, .int h0f1, .int h0f2, .int h0f3, .int h0f4, .int h0f5, .ref h1, .ref h2, .int h0f8, .int v33, .ref h3, .ref h4, .ref h5, .ref h6, .ref h7, .ref h8, .ref h9, .int h0f17, .int h0f18, .int h0f19, .ref h10, .ref h11, .ref h12, .ref h13, .int v34, .int v35, .ref h14, .ref h15, .ref h16, .ref h17, .int h0f30, .int h0f31, .ref h18, .ref h19, .ref h20, .ref h21]), (h5, aJ (k 1) 9 anJ), (h1, aI (k 0) 36 anI)]) (Tr := [(h6, aJ (k 1) 9 anJ), (h10, aJ (k 1) 900 (lsP (v33.toInt))), (h11, aI (k 0) 100 anI), (h12, aI (k 0) 100 anI), (h13, aI (k 0) 100 anI), (h4, aJ (k 1) 9 anJ)]) (as := [h0, h5, h1]) (zcV (q0 := 7) (ci := 8) (As := [.int v71, .ref h5]) (rest := []) (Tc := [(h0, ob 8 [.int h0f0, .int h0f1, .int h0f2, .int h0f3, .int h0f4, .int h0f5, .ref h1, .ref h2, .int h0f8, .int v33, .ref h3, .ref h4, .ref h5, .ref h6, .ref h7, .ref h8, .ref h9, .int h0f17, .int h0f18, .int h0f19, .ref h10, .ref h11, .ref h12, .ref h13, .int v34, .int v35, .ref h14, .ref h15, .ref h16, .ref h17, .int h0f30, .int h0f31, .ref h18, .ref h19, .ref h20, .ref h21]), (h5, aJ (k 1) 9 anJ), (h1, aI (k 0) 36 anI)]) hx hb hml hown hU hK hT rfl rfl [7, 1, 0] rfl (by decide) (cX11_takes_09fc2 l D k _ h0 h5 h1 h2 h3 h4 h6 h7 h8 h9 h10 h11 h12 h13 h14 h15 h16 h17 h18 h19 h20 h21 v71 h0f0 h0f1 h0f2 h0f3 h0f4 h0f5 h0f8 v33 h0f17 h0f18 h0f19 v34 v35 h0f30 h0f31 (by omega) (by omega) (by omega) (by omega) (by omega) (by omega) (by omega) (by omega) (by omega) (by omega) (by omega) (by omega) (by omega) (by omega) (by omega) (by omega)) w939 w936 w938 w32 w72 hdX11_takes ⟨rfl, rfl⟩ ⟨Nat.le_of_ble_eq_true rfl, Nat.le_of_ble_eq_true rfl⟩ rfl hl.1 (Nat.le_of_ble_eq_true rfl) dX11_found_133 ⟨Nat.le_of_ble_eq_true rfl, Nat.le_of_ble_eq_true rfl⟩) hT hS hA [7, 1, 0] [2, 3, 4, 5, 6, 8] rfl rfl rfl (by decide) (by decide) (fun H locs hB J hS => ?_)
                          have hT1 := hB
                          have hT := J _ hT1
                          have hT : TP D A [(h6, aJ (k 1) 9 anJ), (h10, aJ (k 1) 900 (lsP (v33.toInt))), (h11, aI (k 0) 100 anI), (h12, aI (k 0) 100 anI), (h13, aI (k 0) 100 anI), (h4, aJ (k 1) 9 anJ), (h0, ob 8 [.int h0f0, .int h0f1, .int h0f2, .int h0f3, .int h0f4, .int h0f5, .ref h1, .ref h2, .int h0f8, .int v33, .ref h3, .ref h4, .ref h5, .ref h6, .ref h7, .ref h8, .ref h9, .int h0f17, .int h0f18, .int h0f19, .ref h10, .ref h11, .ref h12, .ref h13, .int v34, .int v35, .ref h14, .ref h15, .ref h16, .ref h17, .int h0f30, .int h0f31, .ref h18, .ref h19, .ref h20, .ref h21]), (h5, aJ (k 1) 9 anJ), (h1, aI (k 0) 36 anI)] _ := hT
                          refine lv_aload_n hx hb dX11_found_136 rfl (lv_at hl 0 rfl) ?_
                          refine lv_aload_n hx hb dX11_found_137 rfl (lv_at hl 0 rfl) ?_
                          refine tz_get (ci := 8) (v := .ref h4) (C := RX11) (F := TX11) (N := 36) hx hb hU iX11 hown hK hT 6 rfl rfl 11 (by decide) w796 (fun _ h9 => h9) rfl dX11_found_138 ?_
                          refine lv_aload_n hx hb dX11_found_141 rfl (lv_at hl 0 rfl) ?_
                          refine tz_get (ci := 8) (v := .ref h5) (C := RX11) (F := TX11) (N := 36) hx hb hU iX11 hown hK hT 6 rfl rfl 12 (by decide) w797 (fun _ h9 => h9) rfl dX11_found_142 ?_
                          refine lv_aload_n hx hb dX11_found_145 rfl (lv_at hl 0 rfl) ?_
                          refine tz_get (ci := 8) (v := .ref h6) (C := RX11) (F := TX11) (N := 36) hx hb hU iX11 hown hK hT 6 rfl rfl 13 (by decide) w798 (fun _ h9 => h9) rfl dX11_found_146 ?_
                          refine tcV (Tc := [(h0, ob 8 [.int h0f0, .int h0f1, .int h0f2, .int h0f3, .int h0f4, .int h0f5, .ref h1, .ref h2, .int h0f8, .int v33, .ref h3, .ref h4, .ref h5, .ref h6, .ref h7, .ref h8, .ref h9, .int h0f17, .int h0f18, .int h0f19, .ref h10, .ref h11, .ref h12, .ref h13, .int v34, .int v35, .ref h14, .ref h15, .ref h16, .ref h17, .int h0f30, .int h0f31, .ref h18, .ref h19, .ref h20, .ref h21]), (h4, aJ (k 1) 9 anJ), (h5, aJ (k 1) 9 anJ), (h6, aJ (k 1) 9 anJ)]) (Tr := [(h10, aJ (k 1) 900 (lsP (v33.toInt))), (h11, aI (k 0) 100 anI), (h12, aI (k 0) 100 anI), (h13, aI (k 0) 100 anI), (h1, aI (k 0) 36 anI)]) (as := [h0, h4, h5, h6]) (zcV (q0 := 6) (ci := 8) (As := [.ref h4, .ref h5, .ref h6]) (rest := []) (Tc := [(h0, ob 8 [.int h0f0, .int h0f1, .int h0f2, .int h0f3, .int h0f4, .int h0f5, .ref h1, .ref h2, .int h0f8, .int v33, .ref h3, .ref h4, .ref h5, .ref h6, .ref h7, .ref h8, .ref h9, .int h0f17, .int h0f18, .int h0f19, .ref h10, .ref h11, .ref h12, .ref h13, .int v34, .int v35, .ref h14, .ref h15, .ref h16, .ref h17, .int h0f30, .int h0f31, .ref h18, .ref h19, .ref h20, .ref h21]), (h4, aJ (k 1) 9 anJ), (h5, aJ (k 1) 9 anJ), (h6, aJ (k 1) 9 anJ)]) hx hb hml hown hU hK hT rfl rfl [6, 5, 7, 0] rfl (by decide) (cX11_times_48221 l D k _ h0 h4 h5 h6 h1 h2 h3 h7 h8 h9 h10 h11 h12 h13 h14 h15 h16 h17 h18 h19 h20 h21 h0f0 h0f1 h0f2 h0f3 h0f4 h0f5 h0f8 v33 h0f17 h0f18 h0f19 v34 v35 h0f30 h0f31 (by omega) (by omega) (by omega) (by omega) (by omega) (by omega) (by omega) (by omega) (by omega) (by omega) (by omega) (by omega) (by omega) (by omega) (by omega)) w943 w940 w942 w33 w72 hdX11_times ⟨rfl, rfl⟩ ⟨Nat.le_of_ble_eq_true rfl, Nat.le_of_ble_eq_true rfl⟩ rfl hl.1 (Nat.le_of_ble_eq_true rfl) dX11_found_149 ⟨Nat.le_of_ble_eq_true rfl, Nat.le_of_ble_eq_true rfl⟩) hT hS hA [6, 5, 7, 0] [1, 2, 3, 4, 8] rfl rfl rfl (by decide) (by decide) (fun H locs hB J hS => ?_)
                          have hT1 := hB
                          have hT := J _ hT1
                          have hT : TP D A [(h10, aJ (k 1) 900 (lsP (v33.toInt))), (h11, aI (k 0) 100 anI), (h12, aI (k 0) 100 anI), (h13, aI (k 0) 100 anI), (h1, aI (k 0) 36 anI), (h0, ob 8 [.int h0f0, .int h0f1, .int h0f2, .int h0f3, .int h0f4, .int h0f5, .ref h1, .ref h2, .int h0f8, .int v33, .ref h3, .ref h4, .ref h5, .ref h6, .ref h7, .ref h8, .ref h9, .int h0f17, .int h0f18, .int h0f19, .ref h10, .ref h11, .ref h12, .ref h13, .int v34, .int v35, .ref h14, .ref h15, .ref h16, .ref h17, .int h0f30, .int h0f31, .ref h18, .ref h19, .ref h20, .ref h21]), (h4, aJ (k 1) 9 anJ), (h5, aJ (k 1) 9 anJ), (h6, aJ (k 1) 9 anJ)] _ := hT
                          refine lv_aload_n hx hb dX11_found_152 rfl (lv_at hl 0 rfl) ?_
                          refine lv_aload_n hx hb dX11_found_153 rfl (lv_at hl 0 rfl) ?_
                          refine tz_get (ci := 8) (v := .ref h6) (C := RX11) (F := TX11) (N := 36) hx hb hU iX11 hown hK hT 5 rfl rfl 13 (by decide) w798 (fun _ h9 => h9) rfl dX11_found_154 ?_
                          refine tcI (Tc := [(h0, ob 8 [.int h0f0, .int h0f1, .int h0f2, .int h0f3, .int h0f4, .int h0f5, .ref h1, .ref h2, .int h0f8, .int v33, .ref h3, .ref h4, .ref h5, .ref h6, .ref h7, .ref h8, .ref h9, .int h0f17, .int h0f18, .int h0f19, .ref h10, .ref h11, .ref h12, .ref h13, .int v34, .int v35, .ref h14, .ref h15, .ref h16, .ref h17, .int h0f30, .int h0f31, .ref h18, .ref h19, .ref h20, .ref h21]), (h6, aJ (k 1) 9 anJ)]) (Tr := [(h10, aJ (k 1) 900 (lsP (v33.toInt))), (h11, aI (k 0) 100 anI), (h12, aI (k 0) 100 anI), (h13, aI (k 0) 100 anI), (h1, aI (k 0) 36 anI), (h4, aJ (k 1) 9 anJ), (h5, aJ (k 1) 9 anJ)]) (as := [h0, h6]) (zcV (q0 := 5) (ci := 8) (As := [.ref h6]) (rest := []) (Tc := [(h0, ob 8 [.int h0f0, .int h0f1, .int h0f2, .int h0f3, .int h0f4, .int h0f5, .ref h1, .ref h2, .int h0f8, .int v33, .ref h3, .ref h4, .ref h5, .ref h6, .ref h7, .ref h8, .ref h9, .int h0f17, .int h0f18, .int h0f19, .ref h10, .ref h11, .ref h12, .ref h13, .int v34, .int v35, .ref h14, .ref h15, .ref h16, .ref h17, .int h0f30, .int h0f31, .ref h18, .ref h19, .ref h20, .ref h21]), (h6, aJ (k 1) 9 anJ)]) hx hb hml hown hU hK hT rfl rfl [5, 8] rfl (by decide) (cX11_isGreat_209aa l D k _ h0 h6 h1 h2 h3 h4 h5 h7 h8 h9 h10 h11 h12 h13 h14 h15 h16 h17 h18 h19 h20 h21 h0f0 h0f1 h0f2 h0f3 h0f4 h0f5 h0f8 v33 h0f17 h0f18 h0f19 v34 v35 h0f30 h0f31 (by omega) (by omega) (by omega) (by omega) (by omega) (by omega) (by omega) (by omega) (by omega) (by omega) (by omega) (by omega) (by omega) (by omega) (by omega)) w980 w977 w979 w39 w72 hdX11_isGreat ⟨rfl, rfl⟩ ⟨Nat.le_of_ble_eq_true rfl, Nat.le_of_ble_eq_true rfl⟩ rfl hl.1 (Nat.le_of_ble_eq_true rfl) dX11_found_157 ⟨Nat.le_of_ble_eq_true rfl, Nat.le_of_ble_eq_true rfl⟩) hT hS hA [5, 8] [0, 1, 2, 3, 4, 6, 7] rfl rfl rfl (by decide) (by decide) (fun r74 H locs hB J hS => ?_)
                          obtain ⟨b_r74, hT1⟩ := hB
                          have hT := J _ hT1
                          have hT : TP D A [(h10, aJ (k 1) 900 (lsP (v33.toInt))), (h11, aI (k 0) 100 anI), (h12, aI (k 0) 100 anI), (h13, aI (k 0) 100 anI), (h1, aI (k 0) 36 anI), (h4, aJ (k 1) 9 anJ), (h5, aJ (k 1) 9 anJ), (h0, ob 8 [.int h0f0, .int h0f1, .int h0f2, .int h0f3, .int h0f4, .int h0f5, .ref h1, .ref h2, .int h0f8, .int v33, .ref h3, .ref h4, .ref h5, .ref h6, .ref h7, .ref h8, .ref h9, .int h0f17, .int h0f18, .int h0f19, .ref h10, .ref h11, .ref h12, .ref h13, .int v34, .int v35, .ref h14, .ref h15, .ref h16, .ref h17, .int h0f30, .int h0f31, .ref h18, .ref h19, .ref h20, .ref h21]), (h6, aJ (k 1) 9 anJ)] _ := hT
                          refine lv_if_eq (tgt := 166) hx hb dX11_found_160 (by decide) (fun c_75 => ?_) (fun c_75 => ?_)
                          · skip
                            have c_75 := ni_eq c_75 rfl li_0
                            refine lv_iconst (v := 0) hx hb dX11_found_166 (by decide) ?_
                            refine lv_istore (lv' := [(6, .int 0), (0, .ref h0), (1, .int x1), (2, .int y27), (4, .int y64), (5, .int y63)]) hx hb dX11_found_167 hl (by decide) rfl (fun ls hl => ?_)
                            have lp169_83 : ∀ (n : Nat) (y82 : Int32) (H : Heap) (locs : List Loc) (ls : Array Slot), (0 ≤ y82.toInt ∧ y82.toInt ≤ 9) → ((-1) * y82.toInt + 9 + 1).toNat < n → TP D A [(h10, aJ (k 1) 900 (lsP (v33.toInt))), (h11, aI (k 0) 100 anI), (h12, aI (k 0) 100 anI), (h13, aI (k 0) 100 anI), (h1, aI (k 0) 36 anI), (h4, aJ (k 1) 9 anJ), (h5, aJ (k 1) 9 anJ), (h0, ob 8 [.int h0f0, .int h0f1, .int h0f2, .int h0f3, .int h0f4, .int h0f5, .ref h1, .ref h2, .int h0f8, .int v33, .ref h3, .ref h4, .ref h5, .ref h6, .ref h7, .ref h8, .ref h9, .int h0f17, .int h0f18, .int h0f19, .ref h10, .ref h11, .ref h12, .ref h13, .int v34, .int v35, .ref h14, .ref h15, .ref h16, .ref h17, .int h0f30, .int h0f31, .ref h18, .ref h19, .ref h20, .ref h21]), (h6, aJ (k 1) 9 anJ)] H → va_S A s.heap H locs → lv_has ls 7 [(0, .ref h0), (1, .int x1), (2, .int y27), (4, .int y64), (5, .int y63), (6, .int y82)] → W p l e Rm_cX11_foundL_35a80 s m args below meth c H locs 0 0 Q (F0 m 169 ls []) := by
                              intro n
                              induction n with
                              | zero => intro y82 H locs ls b_y82 hm hT hS hl; exact absurd hm (Nat.not_lt_zero _)
                              | succ n ih =>
                                intro y82 H locs ls b_y82 hm hT hS hl
                                have ih169_83 := ih
                                clear ih
                                refine lv_iload hx hb dX11_found_169 (lv_at hl 5 rfl) ?_
                                refine lv_bipush (v := 9) hx hb dX11_found_171 (by decide) ?_
                                refine lv_icmp_ge (tgt := 196) hx hb dX11_found_173 (by decide) (fun c_84 => ?_) (fun c_84 => ?_)
                                · skip
                                  have c_84 := ni_le c_84 li_9 rfl
                                  refine lv_iload hx hb dX11_found_196 (lv_at hl 3 rfl) ?_
                                  refine lv_bipush (v := 10) hx hb dX11_found_198 (by decide) ?_
                                  refine lv_idiv hx hb dX11_found_200 (by decide +kernel) (lv_topi (fun v85 e_v85 => ?_))
                                  have e_v85 := ai_div e_v85 rfl li_10 (by omega)
                                  refine lv_istore (lv' := [(4, .int v85), (0, .ref h0), (1, .int x1), (2, .int y27), (5, .int y63), (6, .int y82)]) hx hb dX11_found_201 hl (by decide) rfl (fun ls hl => ?_)
                                  obtain ⟨v86, e_v86⟩ : ∃ x : Int32, x = y63 + Int32.ofInt 1 := ⟨_, rfl⟩
                                  have f_v86 := e_v86.symm
                                  have e_v86 : v86.toInt = y63.toInt + 1 := ai_add e_v86 rfl (show (Int32.ofInt 1).toInt = 1 from (by decide +kernel)) (by omega)
                                  refine lv_iinc (v := v86) (lv' := [(5, .int v86), (4, .int v85), (0, .ref h0), (1, .int x1), (2, .int y27), (6, .int y82)]) hx hb dX11_found_203 hl (k := 4) rfl f_v86 (by decide) rfl (fun ls hl => ?_)
                                  refine lv_goto (tgt := 113) hx hb dX11_found_206 (by decide) ?_
                                  exact ih113_65 v86 v85 _ _ _ (by omega) (by omega) (by first | exact qw_0 w_0 (by omega) | exact qw_1 w_0 (by omega)) (by omega) (hT.sub [4, 6, 8, 0, 1, 2, 3, 7, 5] (by decide) rfl) hS (lv_sub hl [2, 3, 4, 1, 0] rfl)
                                · skip
                                  have c_84 := ni_nle c_84 li_9 rfl
                                  refine lv_aload_n hx hb dX11_found_176 rfl (lv_at hl 0 rfl) ?_
                                  refine tz_get (ci := 8) (v := .ref h4) (C := RX11) (F := TX11) (N := 36) hx hb hU iX11 hown hK hT 7 rfl rfl 11 (by decide) w796 (fun _ h9 => h9) rfl dX11_found_177 ?_
                                  refine lv_iload hx hb dX11_found_180 (lv_at hl 5 rfl) ?_
                                  refine lv_aload_n hx hb dX11_found_182 rfl (lv_at hl 0 rfl) ?_
                                  refine tz_get (ci := 8) (v := .ref h6) (C := RX11) (F := TX11) (N := 36) hx hb hU iX11 hown hK hT 7 rfl rfl 13 (by decide) w798 (fun _ h9 => h9) rfl dX11_found_183 ?_
                                  refine lv_iload hx hb dX11_found_186 (lv_at hl 5 rfl) ?_
                                  refine tz_lald hx hb hK hT 8 rfl (by omega) dX11_found_188 (fun v87 e_v87 => ?_)
                                  clear e_v87
                                  refine tz_last hx hb hK hT hS 5 rfl (by omega) (fun _ _ => trivial) dX11_found_189 (fun H locs hT hS => ?_)
                                  obtain ⟨v88, e_v88⟩ : ∃ x : Int32, x = y82 + Int32.ofInt 1 := ⟨_, rfl⟩
                                  have f_v88 := e_v88.symm
                                  have e_v88 : v88.toInt = y82.toInt + 1 := ai_add e_v88 rfl (show (Int32.ofInt 1).toInt = 1 from (by decide +kernel)) (by omega)
                                  refine lv_iinc (v := v88) (lv' := [(6, .int v88), (0, .ref h0), (1, .int x1), (2, .int y27), (4, .int y64), (5, .int y63)]) hx hb dX11_found_190 hl (k := 5) rfl f_v88 (by decide) rfl (fun ls hl => ?_)
                                  refine lv_goto (tgt := 169) hx hb dX11_found_193 (by decide) ?_
                                  exact ih169_83 v88 _ _ _ (by omega)  (by omega) hT hS (lv_sub hl [1, 2, 3, 4, 5, 0] rfl)
                            exact lp169_83 (((-1) * (0 : Int32).toInt + 9 + 1).toNat + 1) (0) _ _ _ (by have := li_0; omega)  (Nat.lt_succ_self _) hT hS (lv_sub hl [1, 2, 3, 4, 5, 0] rfl)
                          · skip
                            have c_75 := ni_ne c_75 rfl li_0
                            refine lv_bipush (v := (-16)) hx hb dX11_found_163 (by decide) ?_
                            exact tz_retI (B := B_cX11_foundL_35a80 D k h0 h1 h4 h5 h6 h10 h11 h12 h13 h2 h3 h7 h8 h9 h14 h15 h16 h17 h18 h19 h20 h21 x1 h0f0 h0f1 h0f2 h0f3 h0f4 h0f5 h0f8 h0f9 h0f17 h0f18 h0f19 h0f24 h0f25 h0f30 h0f31) (v := (-16)) hQ hx hb hr hlocks hS (Nat.le_of_ble_eq_true rfl) (Nat.le_of_ble_eq_true rfl) dX11_found_165 (⟨v33, v34, v35, (by have := li_m16; omega), (by have := li_m16; omega), (by have := li_m16; omega), (by have := li_m16; omega), (by have := li_m16; omega), (hT.sub [7, 4, 5, 6, 8, 0, 1, 2, 3] (by decide) rfl)⟩)
                    exact lp113_65 ((y27.toInt + (-1) * (0 : Int32).toInt + 1).toNat + 1) (0) y48 _ _ _ (by have := li_0; omega) (by have := li_0; omega) (by have := li_0; first | exact qw_0 w_0 (by omega) | exact qw_1 w_0 (by omega)) (Nat.lt_succ_self _) hT hS (lv_sub hl [1, 2, 3, 4, 0] rfl)
                  · skip
                    have c_50 := ni_nle c_50 rfl rfl
                    refine lv_iload hx hb dX11_found_97 (lv_at hl 3 rfl) ?_
                    refine lv_bipush (v := 10) hx hb dX11_found_99 (by decide) ?_
                    have hp_y48 := pw_le w_0 (by omega)
                    refine lv_imul hx hb dX11_found_101 (lv_topi (fun v89 e_v89 => ?_))
                    have e_v89 := ai_mul e_v89 rfl li_10 (by omega)
                    refine lv_istore (lv' := [(4, .int v89), (0, .ref h0), (1, .int x1), (2, .int y27), (5, .int y47)]) hx hb dX11_found_102 hl (by decide) rfl (fun ls hl => ?_)
                    obtain ⟨v90, e_v90⟩ : ∃ x : Int32, x = y47 + Int32.ofInt 1 := ⟨_, rfl⟩
                    have f_v90 := e_v90.symm
                    have e_v90 : v90.toInt = y47.toInt + 1 := ai_add e_v90 rfl (show (Int32.ofInt 1).toInt = 1 from (by decide +kernel)) (by omega)
                    refine lv_iinc (v := v90) (lv' := [(5, .int v90), (4, .int v89), (0, .ref h0), (1, .int x1), (2, .int y27)]) hx hb dX11_found_104 hl (k := 4) rfl f_v90 (by decide) rfl (fun ls hl => ?_)
                    refine lv_goto (tgt := 91) hx hb dX11_found_107 (by decide) ?_
                    exact ih91_49 v90 v89 _ _ _ (by omega) (by omega) (by first | exact pw_0 (by omega) | exact pw_1 w_0 (by omega)) (by omega) hT hS (lv_sub hl [2, 3, 4, 1, 0] rfl)
              exact lp91_49 ((y27.toInt + (-1) * (1 : Int32).toInt + 1).toNat + 1) (1) (1) _ _ _ (by have := li_1; omega) (by have := li_1; omega) (by have := li_1; first | exact pw_0 (by omega) | exact pw_1 w_0 (by omega)) (Nat.lt_succ_self _) hT hS (lv_sub hl [2, 3, 4, 1, 0] rfl)
            · skip
              have c_31 := ni_nle c_31 rfl li_9
              refine lv_iconst (v := (-1)) hx hb dX11_found_71 (by decide) ?_
              exact tz_retI (B := B_cX11_foundL_35a80 D k h0 h1 h4 h5 h6 h10 h11 h12 h13 h2 h3 h7 h8 h9 h14 h15 h16 h17 h18 h19 h20 h21 x1 h0f0 h0f1 h0f2 h0f3 h0f4 h0f5 h0f8 h0f9 h0f17 h0f18 h0f19 h0f24 h0f25 h0f30 h0f31) (v := (-1)) hQ hx hb hr hlocks hS (Nat.le_of_ble_eq_true rfl) (Nat.le_of_ble_eq_true rfl) dX11_found_72 (⟨h0f9, h0f24, h0f25, (by have := li_m1; omega), (by have := li_m1; omega), (by have := li_m1; omega), (by have := li_m1; omega), (by have := li_m1; omega), hT⟩)
        · skip
          have c_29 := ni_nle c_29 rfl li_0
          refine lv_iload_n hx hb dX11_found_20 rfl (lv_at hl 3 rfl) ?_
          refine lv_if_eq (tgt := 46) hx hb dX11_found_21 (by decide) (fun c_91 => ?_) (fun c_91 => ?_)
          · skip
            have c_91 := ni_eq c_91 rfl li_0
            refine lv_iconst (v := 0) hx hb dX11_found_46 (by decide) ?_
            refine lv_istore_n (lv' := [(3, .int 0), (0, .ref h0), (1, .int x1), (2, .int y27), (4, .int y25)]) hx hb dX11_found_47 rfl hl (by decide) rfl (fun ls hl => ?_)
            have tb_x1 := i32b x1
            have hg_y27 := dg_len w_0 (by omega)
            obtain ⟨v92, e_v92⟩ : ∃ x : Int32, x = y27 + Int32.ofInt 1 := ⟨_, rfl⟩
            have f_v92 := e_v92.symm
            have e_v92 : v92.toInt = y27.toInt + 1 := ai_add e_v92 rfl (show (Int32.ofInt 1).toInt = 1 from (by decide +kernel)) (by omega)
            refine lv_iinc (v := v92) (lv' := [(2, .int v92), (3, .int 0), (0, .ref h0), (1, .int x1), (4, .int y25)]) hx hb dX11_found_48 hl (k := 3) rfl f_v92 (by decide) rfl (fun ls hl => ?_)
            refine lv_iload hx hb dX11_found_51 (lv_at hl 4 rfl) ?_
            refine lv_bipush (v := 10) hx hb dX11_found_53 (by decide) ?_
            have tb_y25 := i32b y25
            refine lv_idiv hx hb dX11_found_55 (by decide +kernel) (lv_topi (fun v93 e_v93 => ?_))
            have e_v93 := ai_div e_v93 rfl li_10 (by omega)
            refine lv_istore (lv' := [(4, .int v93), (2, .int v92), (3, .int 0), (0, .ref h0), (1, .int x1)]) hx hb dX11_found_56 hl (by decide) rfl (fun ls hl => ?_)
            refine lv_goto (tgt := 15) hx hb dX11_found_58 (by decide) ?_
            exact ih15_28 v93 (0) v92 _ _ _ (by have := li_0; omega) (by have := li_0; omega) (by have := li_0; omega) (by have := li_0; first | exact dg_0 (by omega) | exact dg_1 w_0 (by omega)) (by have := li_0; omega) hT hS (lv_sub hl [3, 4, 1, 2, 0] rfl)
          · skip
            have c_91 := ni_ne c_91 rfl li_0
            refine lv_iload hx hb dX11_found_24 (lv_at hl 4 rfl) ?_
            refine lv_bipush (v := 10) hx hb dX11_found_26 (by decide) ?_
            have tb_y25 := i32b y25
            refine lv_irem hx hb dX11_found_28 (by decide +kernel) (lv_topi (fun v94 e_v94 => ?_))
            have e_v94 := ai_rem e_v94 rfl li_10 (by omega)
            obtain ⟨v95, e_v95⟩ : ∃ x : Int64, v94.toInt64 = x := ⟨_, rfl⟩
            refine lv_i2l (v := v95) hx hb dX11_found_29 e_v95 ?_
            have e_v95 := ai_i2l e_v95 rfl
            refine lv_lconst (v := 1) hx hb dX11_found_30 (by decide) ?_
            refine lv_aload_n hx hb dX11_found_31 rfl (lv_at hl 0 rfl) ?_
            refine tz_get (ci := 8) (v := .int h0f1) (C := RX11) (F := TX11) (N := 36) hx hb hU iX11 hown hK hT 0 rfl rfl 1 (by decide) w786 (fun _ h9 => h9) rfl dX11_found_32 ?_
            obtain ⟨v96, e_v96⟩ : ∃ x : Int64, h0f1.toInt64 = x := ⟨_, rfl⟩
            refine lv_i2l (v := v96) hx hb dX11_found_35 e_v96 ?_
            have e_v96 := ai_i2l e_v96 rfl
            have q_q98 := ll_1
            refine tcI (Tc := []) (Tr := [(h0, ob 8 [.int h0f0, .int h0f1, .int h0f2, .int h0f3, .int h0f4, .int h0f5, .ref h1, .ref h2, .int h0f8, .int h0f9, .ref h3, .ref h4, .ref h5, .ref h6, .ref h7, .ref h8, .ref h9, .int h0f17, .int h0f18, .int h0f19, .ref h10, .ref h11, .ref h12, .ref h13, .int h0f24, .int h0f25, .ref h14, .ref h15, .ref h16, .ref h17, .int h0f30, .int h0f31, .ref h18, .ref h19, .ref h20, .ref h21]), (h1, aI (k 0) 36 anI), (h4, aJ (k 1) 9 anJ), (h5, aJ (k 1) 9 anJ), (h6, aJ (k 1) 9 anJ), (h10, aJ (k 1) 900 (lsP (h0f9.toInt))), (h11, aI (k 0) 100 anI), (h12, aI (k 0) 100 anI), (h13, aI (k 0) 100 anI)]) (as := []) (zcS (As := [.long v95, .long 1, .long v96]) (rest := []) (Tc := []) hx hb hml hown hU hK hT [] rfl (by decide) (cX11_in_ca3b9 l D k _ v95 (1) v96 (by have := ll_1; omega) (by omega)) w901 w899 w900 w72 hdX11_in ⟨rfl, rfl⟩ ⟨Nat.le_of_ble_eq_true rfl, Nat.le_of_ble_eq_true rfl⟩ rfl hl.1 (Nat.le_of_ble_eq_true rfl) dX11_found_36 ⟨Nat.le_of_ble_eq_true rfl, Nat.le_of_ble_eq_true rfl⟩) hT hS hA [] [0, 1, 2, 3, 4, 5, 6, 7, 8] rfl rfl rfl (by decide) (by decide) (fun r97 H locs hB J hS => ?_)
            rcases hB with ⟨rfl, hT1⟩ | ⟨c_99, c_100, rfl, hT1⟩
            · skip
              have hT := J _ hT1
              have hT : TP D A [(h0, ob 8 [.int h0f0, .int h0f1, .int h0f2, .int h0f3, .int h0f4, .int h0f5, .ref h1, .ref h2, .int h0f8, .int h0f9, .ref h3, .ref h4, .ref h5, .ref h6, .ref h7, .ref h8, .ref h9, .int h0f17, .int h0f18, .int h0f19, .ref h10, .ref h11, .ref h12, .ref h13, .int h0f24, .int h0f25, .ref h14, .ref h15, .ref h16, .ref h17, .int h0f30, .int h0f31, .ref h18, .ref h19, .ref h20, .ref h21]), (h1, aI (k 0) 36 anI), (h4, aJ (k 1) 9 anJ), (h5, aJ (k 1) 9 anJ), (h6, aJ (k 1) 9 anJ), (h10, aJ (k 1) 900 (lsP (h0f9.toInt))), (h11, aI (k 0) 100 anI), (h12, aI (k 0) 100 anI), (h13, aI (k 0) 100 anI)] _ := hT
              refine lv_if_eq (tgt := 46) hx hb dX11_found_39 (by decide) (fun _ => ?_) (fun cc => absurd (by decide +kernel) cc)
              refine lv_iconst (v := 0) hx hb dX11_found_46 (by decide) ?_
              refine lv_istore_n (lv' := [(3, .int 0), (0, .ref h0), (1, .int x1), (2, .int y27), (4, .int y25)]) hx hb dX11_found_47 rfl hl (by decide) rfl (fun ls hl => ?_)
              have tb_x1 := i32b x1
              have hg_y27 := dg_len w_0 (by omega)
              obtain ⟨v101, e_v101⟩ : ∃ x : Int32, x = y27 + Int32.ofInt 1 := ⟨_, rfl⟩
              have f_v101 := e_v101.symm
              have e_v101 : v101.toInt = y27.toInt + 1 := ai_add e_v101 rfl (show (Int32.ofInt 1).toInt = 1 from (by decide +kernel)) (by omega)
              refine lv_iinc (v := v101) (lv' := [(2, .int v101), (3, .int 0), (0, .ref h0), (1, .int x1), (4, .int y25)]) hx hb dX11_found_48 hl (k := 3) rfl f_v101 (by decide) rfl (fun ls hl => ?_)
              refine lv_iload hx hb dX11_found_51 (lv_at hl 4 rfl) ?_
              refine lv_bipush (v := 10) hx hb dX11_found_53 (by decide) ?_
              refine lv_idiv hx hb dX11_found_55 (by decide +kernel) (lv_topi (fun v102 e_v102 => ?_))
              have e_v102 := ai_div e_v102 rfl li_10 (by omega)
              refine lv_istore (lv' := [(4, .int v102), (2, .int v101), (3, .int 0), (0, .ref h0), (1, .int x1)]) hx hb dX11_found_56 hl (by decide) rfl (fun ls hl => ?_)
              refine lv_goto (tgt := 15) hx hb dX11_found_58 (by decide) ?_
              exact ih15_28 v102 (0) v101 _ _ _ (by have := li_0; omega) (by have := li_0; omega) (by have := li_0; omega) (by have := li_0; first | exact dg_0 (by omega) | exact dg_1 w_0 (by omega)) (by have := li_0; omega) hT hS (lv_sub hl [3, 4, 1, 2, 0] rfl)
            · skip
              have hT := J _ hT1
              have hT : TP D A [(h0, ob 8 [.int h0f0, .int h0f1, .int h0f2, .int h0f3, .int h0f4, .int h0f5, .ref h1, .ref h2, .int h0f8, .int h0f9, .ref h3, .ref h4, .ref h5, .ref h6, .ref h7, .ref h8, .ref h9, .int h0f17, .int h0f18, .int h0f19, .ref h10, .ref h11, .ref h12, .ref h13, .int h0f24, .int h0f25, .ref h14, .ref h15, .ref h16, .ref h17, .int h0f30, .int h0f31, .ref h18, .ref h19, .ref h20, .ref h21]), (h1, aI (k 0) 36 anI), (h4, aJ (k 1) 9 anJ), (h5, aJ (k 1) 9 anJ), (h6, aJ (k 1) 9 anJ), (h10, aJ (k 1) 900 (lsP (h0f9.toInt))), (h11, aI (k 0) 100 anI), (h12, aI (k 0) 100 anI), (h13, aI (k 0) 100 anI)] _ := hT
              refine lv_if_eq (tgt := 46) hx hb dX11_found_39 (by decide) (fun cc => absurd cc (by decide +kernel)) (fun _ => ?_)
              refine lv_iconst (v := 1) hx hb dX11_found_42 (by decide) ?_
              refine lv_goto (tgt := 47) hx hb dX11_found_43 (by decide) ?_
              refine lv_istore_n (lv' := [(3, .int 1), (0, .ref h0), (1, .int x1), (2, .int y27), (4, .int y25)]) hx hb dX11_found_47 rfl hl (by decide) rfl (fun ls hl => ?_)
              have tb_x1 := i32b x1
              have hg_y27 := dg_len w_0 (by omega)
              obtain ⟨v103, e_v103⟩ : ∃ x : Int32, x = y27 + Int32.ofInt 1 := ⟨_, rfl⟩
              have f_v103 := e_v103.symm
              have e_v103 : v103.toInt = y27.toInt + 1 := ai_add e_v103 rfl (show (Int32.ofInt 1).toInt = 1 from (by decide +kernel)) (by omega)
              refine lv_iinc (v := v103) (lv' := [(2, .int v103), (3, .int 1), (0, .ref h0), (1, .int x1), (4, .int y25)]) hx hb dX11_found_48 hl (k := 3) rfl f_v103 (by decide) rfl (fun ls hl => ?_)
              refine lv_iload hx hb dX11_found_51 (lv_at hl 4 rfl) ?_
              refine lv_bipush (v := 10) hx hb dX11_found_53 (by decide) ?_
              refine lv_idiv hx hb dX11_found_55 (by decide +kernel) (lv_topi (fun v104 e_v104 => ?_))
              have e_v104 := ai_div e_v104 rfl li_10 (by omega)
              refine lv_istore (lv' := [(4, .int v104), (2, .int v103), (3, .int 1), (0, .ref h0), (1, .int x1)]) hx hb dX11_found_56 hl (by decide) rfl (fun ls hl => ?_)
              refine lv_goto (tgt := 15) hx hb dX11_found_58 (by decide) ?_
              exact ih15_28 v104 (1) v103 _ _ _ (by have := li_1; omega) (by have := li_1; omega) (by have := li_1; omega) (by have := li_1; first | exact dg_0 (by omega) | exact dg_1 w_0 (by omega)) (by have := li_1; omega) hT hS (lv_sub hl [3, 4, 1, 2, 0] rfl)
    exact lp15_28 (((-1) * (0 : Int32).toInt + 9 + 1).toNat + 1) x1 (1) (0) _ _ _ (by have := li_1; have := li_0; omega) (by have := li_1; have := li_0; omega) (by have := li_1; have := li_0; omega) (by have := li_1; have := li_0; first | exact dg_0 (by omega) | exact dg_1 w_0 (by omega)) (Nat.lt_succ_self _) hT hS (lv_sub hl [3, 4, 2, 1, 0] rfl)
abbrev Rm_cX11_formL_b559b : Room := { frames := 3, cells := 0, slots := 0, locals := 70 }
abbrev B_cX11_formL_b559b (D : va_G) (k : Nat → ClassId) (h0 h1 h4 h5 h6 h10 h11 h12 h13 h2 h3 h7 h8 h9 h14 h15 h16 h17 h18 h19 h20 h21 : Nat) (x1 : Int32) (x2 : Int32) (h0f0 : Int32) (h0f1 : Int32) (h0f2 : Int32) (h0f3 : Int32) (h0f4 : Int32) (h0f5 : Int32) (h0f8 : Int32) (h0f9 : Int32) (h0f17 : Int32) (h0f18 : Int32) (h0f19 : Int32) (h0f24 : Int32) (h0f25 : Int32) (h0f30 : Int32) (h0f31 : Int32) (A : Nat → Prop) (r : Int64) (H : Heap) : Prop := ∃ o0 : Int32, ∃ o1 : Int32, ∃ o2 : Int32, (0 ≤ o0.toInt ∧ o0.toInt ≤ 1) ∧ (0 ≤ o1.toInt ∧ o1.toInt ≤ 100) ∧ (0 ≤ o2.toInt ∧ o2.toInt ≤ 1) ∧ (o0.toInt ≤ o1.toInt) ∧ TP D A [(h0, ob 8 [.int h0f0, .int h0f1, .int h0f2, .int h0f3, .int h0f4, .int h0f5, .ref h1, .ref h2, .int h0f8, .int o0, .ref h3, .ref h4, .ref h5, .ref h6, .ref h7, .ref h8, .ref h9, .int h0f17, .int h0f18, .int h0f19, .ref h10, .ref h11, .ref h12, .ref h13, .int o1, .int o2, .ref h14, .ref h15, .ref h16, .ref h17, .int h0f30, .int h0f31, .ref h18, .ref h19, .ref h20, .ref h21]), (h1, aI (k 0) 36 anI), (h4, aJ (k 1) 9 anJ), (h5, aJ (k 1) 9 anJ), (h6, aJ (k 1) 9 anJ), (h10, aJ (k 1) 900 (lsP (o0.toInt))), (h11, aI (k 0) 100 anI), (h12, aI (k 0) 100 anI), (h13, aI (k 0) 100 anI)] H
set_option maxHeartbeats 4000000 in
set_option maxRecDepth 100000 in
theorem cX11_formL_b559b (l : Launch) (D : va_G) (k : Nat → ClassId) (sz : Nat) (h0 h1 h4 h5 h6 h10 h11 h12 h13 h2 h3 h7 h8 h9 h14 h15 h16 h17 h18 h19 h20 h21 : Nat) (x1 : Int32) (x2 : Int32) (h0f0 : Int32) (h0f1 : Int32) (h0f2 : Int32) (h0f3 : Int32) (h0f4 : Int32) (h0f5 : Int32) (h0f8 : Int32) (h0f9 : Int32) (h0f17 : Int32) (h0f18 : Int32) (h0f19 : Int32) (h0f24 : Int32) (h0f25 : Int32) (h0f30 : Int32) (h0f31 : Int32) (b_h0f0 : 1 ≤ h0f0.toInt ∧ h0f0.toInt ≤ 3) (b_h0f1 : 0 ≤ h0f1.toInt ∧ h0f1.toInt ≤ 4) (b_h0f3 : 0 ≤ h0f3.toInt ∧ h0f3.toInt ≤ 3) (b_h0f4 : 0 ≤ h0f4.toInt ∧ h0f4.toInt ≤ 4) (b_h0f8 : 0 ≤ h0f8.toInt ∧ h0f8.toInt ≤ 1) (b_h0f9 : 0 ≤ h0f9.toInt ∧ h0f9.toInt ≤ 1) (b_h0f17 : 0 ≤ h0f17.toInt ∧ h0f17.toInt ≤ 120) (b_h0f18 : 0 ≤ h0f18.toInt ∧ h0f18.toInt ≤ 120) (b_h0f19 : 0 ≤ h0f19.toInt ∧ h0f19.toInt ≤ 4) (b_h0f24 : 0 ≤ h0f24.toInt ∧ h0f24.toInt ≤ 100) (b_h0f25 : 0 ≤ h0f25.toInt ∧ h0f25.toInt ≤ 1) (b_h0f30 : 0 ≤ h0f30.toInt ∧ h0f30.toInt ≤ 60) (b_h0f31 : 0 ≤ h0f31.toInt ∧ h0f31.toInt ≤ 1) (i_0 : h0f8.toInt ≤ h0f3.toInt) (i_1 : h0f9.toInt ≤ h0f24.toInt) : Met l yX11_form (Cond.code yX11_form cX11_form 6 (some .long) :: uw) Rm_cX11_formL_b559b (pT D k sz [.ref h0, .int x1, .int x2] [(h0, ob 8 [.int h0f0, .int h0f1, .int h0f2, .int h0f3, .int h0f4, .int h0f5, .ref h1, .ref h2, .int h0f8, .int h0f9, .ref h3, .ref h4, .ref h5, .ref h6, .ref h7, .ref h8, .ref h9, .int h0f17, .int h0f18, .int h0f19, .ref h10, .ref h11, .ref h12, .ref h13, .int h0f24, .int h0f25, .ref h14, .ref h15, .ref h16, .ref h17, .int h0f30, .int h0f31, .ref h18, .ref h19, .ref h20, .ref h21]), (h1, aI (k 0) 36 anI), (h4, aJ (k 1) 9 anJ), (h5, aJ (k 1) 9 anJ), (h6, aJ (k 1) 9 anJ), (h10, aJ (k 1) 900 (lsP (h0f9.toInt))), (h11, aI (k 0) 100 anI), (h12, aI (k 0) 100 anI), (h13, aI (k 0) 100 anI)]) (qL (B_cX11_formL_b559b D k h0 h1 h4 h5 h6 h10 h11 h12 h13 h2 h3 h7 h8 h9 h14 h15 h16 h17 h18 h19 h20 h21 x1 x2 h0f0 h0f1 h0f2 h0f3 h0f4 h0f5 h0f8 h0f9 h0f17 h0f18 h0f19 h0f24 h0f25 h0f30 h0f31 (zA [h0, h1, h4, h5, h6, h10, h11, h12, h13] sz)) (zA [h0, h1, h4, h5, h6, h10, h11, h12, h13] sz)) 0 0 (zA [h0, h1, h4, h5, h6, h10, h11, h12, h13] sz) := by
  refine tz_begin (as := [h0, h1, h4, h5, h6, h10, h11, h12, h13]) (Qc := fun A => qL (B_cX11_formL_b559b D k h0 h1 h4 h5 h6 h10 h11 h12 h13 h2 h3 h7 h8 h9 h14 h15 h16 h17 h18 h19 h20 h21 x1 x2 h0f0 h0f1 h0f2 h0f3 h0f4 h0f5 h0f8 h0f9 h0f17 h0f18 h0f19 h0f24 h0f25 h0f30 h0f31 A) A) (by decide +kernel) rfl (Nat.le_of_ble_eq_true rfl) ?_
  intro p e s m args below meth c ls A Q hx hb hr hml hown hlocks hin hU hK hT hS hA hl hQ
  have hl : lv_has ls 6 [(0, .ref h0), (1, .int x1), (2, .int x2)] := hl
  have hT : TP D A [(h0, ob 8 [.int h0f0, .int h0f1, .int h0f2, .int h0f3, .int h0f4, .int h0f5, .ref h1, .ref h2, .int h0f8, .int h0f9, .ref h3, .ref h4, .ref h5, .ref h6, .ref h7, .ref h8, .ref h9, .int h0f17, .int h0f18, .int h0f19, .ref h10, .ref h11, .ref h12, .ref h13, .int h0f24, .int h0f25, .ref h14, .ref h15, .ref h16, .ref h17, .int h0f30, .int h0f31, .ref h18, .ref h19, .ref h20, .ref h21]), (h1, aI (k 0) 36 anI), (h4, aJ (k 1) 9 anJ), (h5, aJ (k 1) 9 anJ), (h6, aJ (k 1) 9 anJ), (h10, aJ (k 1) 900 (lsP (h0f9.toInt))), (h11, aI (k 0) 100 anI), (h12, aI (k 0) 100 anI), (h13, aI (k 0) 100 anI)] s.heap := hT
  refine lv_aload_n hx hb dX11_form_0 rfl (lv_at hl 0 rfl) ?_
  refine lv_iload_n hx hb dX11_form_1 rfl (lv_at hl 1 rfl) ?_
  refine tcI (Tc := [(h0, ob 8 [.int h0f0, .int h0f1, .int h0f2, .int h0f3, .int h0f4, .int h0f5, .ref h1, .ref h2, .int h0f8, .int h0f9, .ref h3, .ref h4, .ref h5, .ref h6, .ref h7, .ref h8, .ref h9, .int h0f17, .int h0f18, .int h0f19, .ref h10, .ref h11, .ref h12, .ref h13, .int h0f24, .int h0f25, .ref h14, .ref h15, .ref h16, .ref h17, .int h0f30, .int h0f31, .ref h18, .ref h19, .ref h20, .ref h21])]) (Tr := [(h1, aI (k 0) 36 anI), (h4, aJ (k 1) 9 anJ), (h5, aJ (k 1) 9 anJ), (h6, aJ (k 1) 9 anJ), (h10, aJ (k 1) 900 (lsP (h0f9.toInt))), (h11, aI (k 0) 100 anI), (h12, aI (k 0) 100 anI), (h13, aI (k 0) 100 anI)]) (as := [h0]) (zcV (q0 := 0) (ci := 8) (As := [.int x1]) (rest := []) (Tc := [(h0, ob 8 [.int h0f0, .int h0f1, .int h0f2, .int h0f3, .int h0f4, .int h0f5, .ref h1, .ref h2, .int h0f8, .int h0f9, .ref h3, .ref h4, .ref h5, .ref h6, .ref h7, .ref h8, .ref h9, .int h0f17, .int h0f18, .int h0f19, .ref h10, .ref h11, .ref h12, .ref h13, .int h0f24, .int h0f25, .ref h14, .ref h15, .ref h16, .ref h17, .int h0f30, .int h0f31, .ref h18, .ref h19, .ref h20, .ref h21])]) hx hb hml hown hU hK hT rfl rfl [0] rfl (by decide) (cX11_isPlace_24f09 l D k _ h0 h1 h2 h3 h4 h5 h6 h7 h8 h9 h10 h11 h12 h13 h14 h15 h16 h17 h18 h19 h20 h21 x1 h0f0 h0f1 h0f2 h0f3 h0f4 h0f5 h0f8 h0f9 h0f17 h0f18 h0f19 h0f24 h0f25 h0f30 h0f31 (by omega) (by omega) (by omega) (by omega) (by omega) (by omega) (by omega) (by omega) (by omega) (by omega) (by omega) (by omega) (by omega) (by omega) (by omega)) w909 w906 w908 w26 w72 hdX11_isPlace ⟨rfl, rfl⟩ ⟨Nat.le_of_ble_eq_true rfl, Nat.le_of_ble_eq_true rfl⟩ rfl hl.1 (Nat.le_of_ble_eq_true rfl) dX11_form_2 ⟨Nat.le_of_ble_eq_true rfl, Nat.le_of_ble_eq_true rfl⟩) hT hS hA [0] [1, 2, 3, 4, 5, 6, 7, 8] rfl rfl rfl (by decide) (by decide) (fun r1 H locs hB J hS => ?_)
  rcases hB with ⟨rfl, hT1⟩ | ⟨c_2, c_3, c_4, c_5, rfl, hT1⟩
  · skip
    have hT := J _ hT1
    have hT : TP D A [(h1, aI (k 0) 36 anI), (h4, aJ (k 1) 9 anJ), (h5, aJ (k 1) 9 anJ), (h6, aJ (k 1) 9 anJ), (h10, aJ (k 1) 900 (lsP (h0f9.toInt))), (h11, aI (k 0) 100 anI), (h12, aI (k 0) 100 anI), (h13, aI (k 0) 100 anI), (h0, ob 8 [.int h0f0, .int h0f1, .int h0f2, .int h0f3, .int h0f4, .int h0f5, .ref h1, .ref h2, .int h0f8, .int h0f9, .ref h3, .ref h4, .ref h5, .ref h6, .ref h7, .ref h8, .ref h9, .int h0f17, .int h0f18, .int h0f19, .ref h10, .ref h11, .ref h12, .ref h13, .int h0f24, .int h0f25, .ref h14, .ref h15, .ref h16, .ref h17, .int h0f30, .int h0f31, .ref h18, .ref h19, .ref h20, .ref h21])] _ := hT
    refine lv_if_eq (tgt := 16) hx hb dX11_form_5 (by decide) (fun _ => ?_) (fun cc => absurd (by decide +kernel) cc)
    refine lv_iconst (v := (-1)) hx hb dX11_form_16 (by decide) ?_
    have q_q7 := li_m1
    refine tcL (Tc := []) (Tr := [(h1, aI (k 0) 36 anI), (h4, aJ (k 1) 9 anJ), (h5, aJ (k 1) 9 anJ), (h6, aJ (k 1) 9 anJ), (h10, aJ (k 1) 900 (lsP (h0f9.toInt))), (h11, aI (k 0) 100 anI), (h12, aI (k 0) 100 anI), (h13, aI (k 0) 100 anI), (h0, ob 8 [.int h0f0, .int h0f1, .int h0f2, .int h0f3, .int h0f4, .int h0f5, .ref h1, .ref h2, .int h0f8, .int h0f9, .ref h3, .ref h4, .ref h5, .ref h6, .ref h7, .ref h8, .ref h9, .int h0f17, .int h0f18, .int h0f19, .ref h10, .ref h11, .ref h12, .ref h13, .int h0f24, .int h0f25, .ref h14, .ref h15, .ref h16, .ref h17, .int h0f30, .int h0f31, .ref h18, .ref h19, .ref h20, .ref h21])]) (as := []) (zcS (As := [.int (-1)]) (rest := []) (Tc := []) hx hb hml hown hU hK hT [] rfl (by decide) (cX11_far_7dbca l D k _ ((-1)) (by have := li_m1; omega)) w1062 w1060 w1061 w72 hdX11_far ⟨rfl, rfl⟩ ⟨Nat.le_of_ble_eq_true rfl, Nat.le_of_ble_eq_true rfl⟩ rfl hl.1 (Nat.le_of_ble_eq_true rfl) dX11_form_17 ⟨Nat.le_of_ble_eq_true rfl, Nat.le_of_ble_eq_true rfl⟩) hT hS hA [] [0, 1, 2, 3, 4, 5, 6, 7, 8] rfl rfl rfl (by decide) (by decide) (fun r6 H locs hB J hS => ?_)
    obtain ⟨b_r6, hT1⟩ := hB
    have hT := J _ hT1
    have hT : TP D A [(h1, aI (k 0) 36 anI), (h4, aJ (k 1) 9 anJ), (h5, aJ (k 1) 9 anJ), (h6, aJ (k 1) 9 anJ), (h10, aJ (k 1) 900 (lsP (h0f9.toInt))), (h11, aI (k 0) 100 anI), (h12, aI (k 0) 100 anI), (h13, aI (k 0) 100 anI), (h0, ob 8 [.int h0f0, .int h0f1, .int h0f2, .int h0f3, .int h0f4, .int h0f5, .ref h1, .ref h2, .int h0f8, .int h0f9, .ref h3, .ref h4, .ref h5, .ref h6, .ref h7, .ref h8, .ref h9, .int h0f17, .int h0f18, .int h0f19, .ref h10, .ref h11, .ref h12, .ref h13, .int h0f24, .int h0f25, .ref h14, .ref h15, .ref h16, .ref h17, .int h0f30, .int h0f31, .ref h18, .ref h19, .ref h20, .ref h21])] _ := hT
    exact tz_retL (B := B_cX11_formL_b559b D k h0 h1 h4 h5 h6 h10 h11 h12 h13 h2 h3 h7 h8 h9 h14 h15 h16 h17 h18 h19 h20 h21 x1 x2 h0f0 h0f1 h0f2 h0f3 h0f4 h0f5 h0f8 h0f9 h0f17 h0f18 h0f19 h0f24 h0f25 h0f30 h0f31) (v := r6) hQ hx hb hr hlocks hS (Nat.le_of_ble_eq_true rfl) (Nat.le_of_ble_eq_true rfl) dX11_form_20 (⟨h0f9, h0f24, h0f25, (by omega), (by omega), (by omega), (by omega), (hT.sub [8, 0, 1, 2, 3, 4, 5, 6, 7] (by decide) rfl)⟩)
  · skip
    have hT := J _ hT1
    have hT : TP D A [(h1, aI (k 0) 36 anI), (h4, aJ (k 1) 9 anJ), (h5, aJ (k 1) 9 anJ), (h6, aJ (k 1) 9 anJ), (h10, aJ (k 1) 900 (lsP (h0f9.toInt))), (h11, aI (k 0) 100 anI), (h12, aI (k 0) 100 anI), (h13, aI (k 0) 100 anI), (h0, ob 8 [.int h0f0, .int h0f1, .int h0f2, .int h0f3, .int h0f4, .int h0f5, .ref h1, .ref h2, .int h0f8, .int h0f9, .ref h3, .ref h4, .ref h5, .ref h6, .ref h7, .ref h8, .ref h9, .int h0f17, .int h0f18, .int h0f19, .ref h10, .ref h11, .ref h12, .ref h13, .int h0f24, .int h0f25, .ref h14, .ref h15, .ref h16, .ref h17, .int h0f30, .int h0f31, .ref h18, .ref h19, .ref h20, .ref h21])] _ := hT
    refine lv_if_eq (tgt := 16) hx hb dX11_form_5 (by decide) (fun cc => absurd cc (by decide +kernel)) (fun _ => ?_)
    refine lv_aload_n hx hb dX11_form_8 rfl (lv_at hl 0 rfl) ?_
    refine lv_iload_n hx hb dX11_form_9 rfl (lv_at hl 2 rfl) ?_
    refine tcI (Tc := [(h0, ob 8 [.int h0f0, .int h0f1, .int h0f2, .int h0f3, .int h0f4, .int h0f5, .ref h1, .ref h2, .int h0f8, .int h0f9, .ref h3, .ref h4, .ref h5, .ref h6, .ref h7, .ref h8, .ref h9, .int h0f17, .int h0f18, .int h0f19, .ref h10, .ref h11, .ref h12, .ref h13, .int h0f24, .int h0f25, .ref h14, .ref h15, .ref h16, .ref h17, .int h0f30, .int h0f31, .ref h18, .ref h19, .ref h20, .ref h21])]) (Tr := [(h1, aI (k 0) 36 anI), (h4, aJ (k 1) 9 anJ), (h5, aJ (k 1) 9 anJ), (h6, aJ (k 1) 9 anJ), (h10, aJ (k 1) 900 (lsP (h0f9.toInt))), (h11, aI (k 0) 100 anI), (h12, aI (k 0) 100 anI), (h13, aI (k 0) 100 anI)]) (as := [h0]) (zcV (q0 := 8) (ci := 8) (As := [.int x2]) (rest := []) (Tc := [(h0, ob 8 [.int h0f0, .int h0f1, .int h0f2, .int h0f3, .int h0f4, .int h0f5, .ref h1, .ref h2, .int h0f8, .int h0f9, .ref h3, .ref h4, .ref h5, .ref h6, .ref h7, .ref h8, .ref h9, .int h0f17, .int h0f18, .int h0f19, .ref h10, .ref h11, .ref h12, .ref h13, .int h0f24, .int h0f25, .ref h14, .ref h15, .ref h16, .ref h17, .int h0f30, .int h0f31, .ref h18, .ref h19, .ref h20, .ref h21])]) hx hb hml hown hU hK hT rfl rfl [8] rfl (by decide) (cX11_isPlace_24f09 l D k _ h0 h1 h2 h3 h4 h5 h6 h7 h8 h9 h10 h11 h12 h13 h14 h15 h16 h17 h18 h19 h20 h21 x2 h0f0 h0f1 h0f2 h0f3 h0f4 h0f5 h0f8 h0f9 h0f17 h0f18 h0f19 h0f24 h0f25 h0f30 h0f31 (by omega) (by omega) (by omega) (by omega) (by omega) (by omega) (by omega) (by omega) (by omega) (by omega) (by omega) (by omega) (by omega) (by omega) (by omega)) w909 w906 w908 w26 w72 hdX11_isPlace ⟨rfl, rfl⟩ ⟨Nat.le_of_ble_eq_true rfl, Nat.le_of_ble_eq_true rfl⟩ rfl hl.1 (Nat.le_of_ble_eq_true rfl) dX11_form_10 ⟨Nat.le_of_ble_eq_true rfl, Nat.le_of_ble_eq_true rfl⟩) hT hS hA [8] [0, 1, 2, 3, 4, 5, 6, 7] rfl rfl rfl (by decide) (by decide) (fun r8 H locs hB J hS => ?_)
    rcases hB with ⟨rfl, hT1⟩ | ⟨c_9, c_10, c_11, c_12, rfl, hT1⟩
    · skip
      have hT := J _ hT1
      have hT : TP D A [(h1, aI (k 0) 36 anI), (h4, aJ (k 1) 9 anJ), (h5, aJ (k 1) 9 anJ), (h6, aJ (k 1) 9 anJ), (h10, aJ (k 1) 900 (lsP (h0f9.toInt))), (h11, aI (k 0) 100 anI), (h12, aI (k 0) 100 anI), (h13, aI (k 0) 100 anI), (h0, ob 8 [.int h0f0, .int h0f1, .int h0f2, .int h0f3, .int h0f4, .int h0f5, .ref h1, .ref h2, .int h0f8, .int h0f9, .ref h3, .ref h4, .ref h5, .ref h6, .ref h7, .ref h8, .ref h9, .int h0f17, .int h0f18, .int h0f19, .ref h10, .ref h11, .ref h12, .ref h13, .int h0f24, .int h0f25, .ref h14, .ref h15, .ref h16, .ref h17, .int h0f30, .int h0f31, .ref h18, .ref h19, .ref h20, .ref h21])] _ := hT
      refine lv_if_ne (tgt := 21) hx hb dX11_form_13 (by decide) (fun cc => absurd (by decide +kernel) cc) (fun _ => ?_)
      refine lv_iconst (v := (-1)) hx hb dX11_form_16 (by decide) ?_
      have q_q14 := li_m1
      refine tcL (Tc := []) (Tr := [(h1, aI (k 0) 36 anI), (h4, aJ (k 1) 9 anJ), (h5, aJ (k 1) 9 anJ), (h6, aJ (k 1) 9 anJ), (h10, aJ (k 1) 900 (lsP (h0f9.toInt))), (h11, aI (k 0) 100 anI), (h12, aI (k 0) 100 anI), (h13, aI (k 0) 100 anI), (h0, ob 8 [.int h0f0, .int h0f1, .int h0f2, .int h0f3, .int h0f4, .int h0f5, .ref h1, .ref h2, .int h0f8, .int h0f9, .ref h3, .ref h4, .ref h5, .ref h6, .ref h7, .ref h8, .ref h9, .int h0f17, .int h0f18, .int h0f19, .ref h10, .ref h11, .ref h12, .ref h13, .int h0f24, .int h0f25, .ref h14, .ref h15, .ref h16, .ref h17, .int h0f30, .int h0f31, .ref h18, .ref h19, .ref h20, .ref h21])]) (as := []) (zcS (As := [.int (-1)]) (rest := []) (Tc := []) hx hb hml hown hU hK hT [] rfl (by decide) (cX11_far_7dbca l D k _ ((-1)) (by have := li_m1; omega)) w1062 w1060 w1061 w72 hdX11_far ⟨rfl, rfl⟩ ⟨Nat.le_of_ble_eq_true rfl, Nat.le_of_ble_eq_true rfl⟩ rfl hl.1 (Nat.le_of_ble_eq_true rfl) dX11_form_17 ⟨Nat.le_of_ble_eq_true rfl, Nat.le_of_ble_eq_true rfl⟩) hT hS hA [] [0, 1, 2, 3, 4, 5, 6, 7, 8] rfl rfl rfl (by decide) (by decide) (fun r13 H locs hB J hS => ?_)
      obtain ⟨b_r13, hT1⟩ := hB
      have hT := J _ hT1
      have hT : TP D A [(h1, aI (k 0) 36 anI), (h4, aJ (k 1) 9 anJ), (h5, aJ (k 1) 9 anJ), (h6, aJ (k 1) 9 anJ), (h10, aJ (k 1) 900 (lsP (h0f9.toInt))), (h11, aI (k 0) 100 anI), (h12, aI (k 0) 100 anI), (h13, aI (k 0) 100 anI), (h0, ob 8 [.int h0f0, .int h0f1, .int h0f2, .int h0f3, .int h0f4, .int h0f5, .ref h1, .ref h2, .int h0f8, .int h0f9, .ref h3, .ref h4, .ref h5, .ref h6, .ref h7, .ref h8, .ref h9, .int h0f17, .int h0f18, .int h0f19, .ref h10, .ref h11, .ref h12, .ref h13, .int h0f24, .int h0f25, .ref h14, .ref h15, .ref h16, .ref h17, .int h0f30, .int h0f31, .ref h18, .ref h19, .ref h20, .ref h21])] _ := hT
      exact tz_retL (B := B_cX11_formL_b559b D k h0 h1 h4 h5 h6 h10 h11 h12 h13 h2 h3 h7 h8 h9 h14 h15 h16 h17 h18 h19 h20 h21 x1 x2 h0f0 h0f1 h0f2 h0f3 h0f4 h0f5 h0f8 h0f9 h0f17 h0f18 h0f19 h0f24 h0f25 h0f30 h0f31) (v := r13) hQ hx hb hr hlocks hS (Nat.le_of_ble_eq_true rfl) (Nat.le_of_ble_eq_true rfl) dX11_form_20 (⟨h0f9, h0f24, h0f25, (by omega), (by omega), (by omega), (by omega), (hT.sub [8, 0, 1, 2, 3, 4, 5, 6, 7] (by decide) rfl)⟩)
    · skip
      have hT := J _ hT1
      have hT : TP D A [(h1, aI (k 0) 36 anI), (h4, aJ (k 1) 9 anJ), (h5, aJ (k 1) 9 anJ), (h6, aJ (k 1) 9 anJ), (h10, aJ (k 1) 900 (lsP (h0f9.toInt))), (h11, aI (k 0) 100 anI), (h12, aI (k 0) 100 anI), (h13, aI (k 0) 100 anI), (h0, ob 8 [.int h0f0, .int h0f1, .int h0f2, .int h0f3, .int h0f4, .int h0f5, .ref h1, .ref h2, .int h0f8, .int h0f9, .ref h3, .ref h4, .ref h5, .ref h6, .ref h7, .ref h8, .ref h9, .int h0f17, .int h0f18, .int h0f19, .ref h10, .ref h11, .ref h12, .ref h13, .int h0f24, .int h0f25, .ref h14, .ref h15, .ref h16, .ref h17, .int h0f30, .int h0f31, .ref h18, .ref h19, .ref h20, .ref h21])] _ := hT
      refine lv_if_ne (tgt := 21) hx hb dX11_form_13 (by decide) (fun _ => ?_) (fun cc => absurd cc (by decide +kernel))
      refine lv_aload_n hx hb dX11_form_21 rfl (lv_at hl 0 rfl) ?_
      refine tcV (Tc := [(h0, ob 8 [.int h0f0, .int h0f1, .int h0f2, .int h0f3, .int h0f4, .int h0f5, .ref h1, .ref h2, .int h0f8, .int h0f9, .ref h3, .ref h4, .ref h5, .ref h6, .ref h7, .ref h8, .ref h9, .int h0f17, .int h0f18, .int h0f19, .ref h10, .ref h11, .ref h12, .ref h13, .int h0f24, .int h0f25, .ref h14, .ref h15, .ref h16, .ref h17, .int h0f30, .int h0f31, .ref h18, .ref h19, .ref h20, .ref h21]), (h1, aI (k 0) 36 anI), (h4, aJ (k 1) 9 anJ), (h5, aJ (k 1) 9 anJ), (h6, aJ (k 1) 9 anJ), (h10, aJ (k 1) 900 (lsP (h0f9.toInt))), (h11, aI (k 0) 100 anI), (h12, aI (k 0) 100 anI), (h13, aI (k 0) 100 anI)]) (Tr := []) (as := [h0, h1, h4, h5, h6, h10, h11, h12, h13]) (zcV (q0 := 8) (ci := 8) (As := []) (rest := []) (Tc := [(h0, ob 8 [.int h0f0, .int h0f1, .int h0f2, .int h0f3, .int h0f4, .int h0f5, .ref h1, .ref h2, .int h0f8, .int h0f9, .ref h3, .ref h4, .ref h5, .ref h6, .ref h7, .ref h8, .ref h9, .int h0f17, .int h0f18, .int h0f19, .ref h10, .ref h11, .ref h12, .ref h13, .int h0f24, .int h0f25, .ref h14, .ref h15, .ref h16, .ref h17, .int h0f30, .int h0f31, .ref h18, .ref h19, .ref h20, .ref h21]), (h1, aI (k 0) 36 anI), (h4, aJ (k 1) 9 anJ), (h5, aJ (k 1) 9 anJ), (h6, aJ (k 1) 9 anJ), (h10, aJ (k 1) 900 (lsP (h0f9.toInt))), (h11, aI (k 0) 100 anI), (h12, aI (k 0) 100 anI), (h13, aI (k 0) 100 anI)]) hx hb hml hown hU hK hT rfl rfl [8, 0, 1, 2, 3, 4, 5, 6, 7] rfl (by decide) (cX11_findList_9a1c7 l D k _ h0 h1 h4 h5 h6 h10 h11 h12 h13 h2 h3 h7 h8 h9 h14 h15 h16 h17 h18 h19 h20 h21 h0f0 h0f1 h0f2 h0f3 h0f4 h0f5 h0f8 h0f9 h0f17 h0f18 h0f19 h0f24 h0f25 h0f30 h0f31 (by omega) (by omega) (by omega) (by omega) (by omega) (by omega) (by omega) (by omega) (by omega) (by omega) (by omega) (by omega) (by omega) (by omega) (by omega)) w1039 w1036 w1038 w47 w72 hdX11_findList ⟨rfl, rfl⟩ ⟨Nat.le_of_ble_eq_true rfl, Nat.le_of_ble_eq_true rfl⟩ rfl hl.1 (Nat.le_of_ble_eq_true rfl) dX11_form_22 ⟨Nat.le_of_ble_eq_true rfl, Nat.le_of_ble_eq_true rfl⟩) hT hS hA [8, 0, 1, 2, 3, 4, 5, 6, 7] [] rfl rfl rfl (by decide) (by decide) (fun H locs hB J hS => ?_)
      obtain ⟨v16, v17, v18, b_v16, b_v17, b_v18, hT1⟩ := hB
      have hT := J _ hT1
      have hT : TP D A [(h0, ob 8 [.int h0f0, .int h0f1, .int h0f2, .int h0f3, .int h0f4, .int h0f5, .ref h1, .ref h2, .int h0f8, .int v16, .ref h3, .ref h4, .ref h5, .ref h6, .ref h7, .ref h8, .ref h9, .int h0f17, .int h0f18, .int h0f19, .ref h10, .ref h11, .ref h12, .ref h13, .int v17, .int v18, .ref h14, .ref h15, .ref h16, .ref h17, .int h0f30, .int h0f31, .ref h18, .ref h19, .ref h20, .ref h21]), (h1, aI (k 0) 36 anI), (h4, aJ (k 1) 9 anJ), (h5, aJ (k 1) 9 anJ), (h6, aJ (k 1) 9 anJ), (h10, aJ (k 1) 900 (lsP (v16.toInt))), (h11, aI (k 0) 100 anI), (h12, aI (k 0) 100 anI), (h13, aI (k 0) 100 anI)] _ := hT
      refine lv_aload_n hx hb dX11_form_25 rfl (lv_at hl 0 rfl) ?_
      refine tz_get (ci := 8) (v := .int v18) (C := RX11) (F := TX11) (N := 36) hx hb hU iX11 hown hK hT 0 rfl rfl 25 (by decide) w810 (fun _ h9 => h9) rfl dX11_form_26 ?_
      refine lv_if_ne (tgt := 38) hx hb dX11_form_29 (by decide) (fun c_19 => ?_) (fun c_19 => ?_)
      · skip
        have c_19 := ni_ne c_19 rfl li_0
        refine lv_aload_n hx hb dX11_form_38 rfl (lv_at hl 0 rfl) ?_
        refine tcI (Tc := [(h0, ob 8 [.int h0f0, .int h0f1, .int h0f2, .int h0f3, .int h0f4, .int h0f5, .ref h1, .ref h2, .int h0f8, .int v16, .ref h3, .ref h4, .ref h5, .ref h6, .ref h7, .ref h8, .ref h9, .int h0f17, .int h0f18, .int h0f19, .ref h10, .ref h11, .ref h12, .ref h13, .int v17, .int v18, .ref h14, .ref h15, .ref h16, .ref h17, .int h0f30, .int h0f31, .ref h18, .ref h19, .ref h20, .ref h21]), (h4, aJ (k 1) 9 anJ), (h5, aJ (k 1) 9 anJ), (h10, aJ (k 1) 900 (lsP (v16.toInt)))]) (Tr := [(h1, aI (k 0) 36 anI), (h6, aJ (k 1) 9 anJ), (h11, aI (k 0) 100 anI), (h12, aI (k 0) 100 anI), (h13, aI (k 0) 100 anI)]) (as := [h0, h4, h5, h10]) (zcV (q0 := 0) (ci := 8) (As := []) (rest := []) (Tc := [(h0, ob 8 [.int h0f0, .int h0f1, .int h0f2, .int h0f3, .int h0f4, .int h0f5, .ref h1, .ref h2, .int h0f8, .int v16, .ref h3, .ref h4, .ref h5, .ref h6, .ref h7, .ref h8, .ref h9, .int h0f17, .int h0f18, .int h0f19, .ref h10, .ref h11, .ref h12, .ref h13, .int v17, .int v18, .ref h14, .ref h15, .ref h16, .ref h17, .int h0f30, .int h0f31, .ref h18, .ref h19, .ref h20, .ref h21]), (h4, aJ (k 1) 9 anJ), (h5, aJ (k 1) 9 anJ), (h10, aJ (k 1) 900 (lsP (v16.toInt)))]) hx hb hml hown hU hK hT rfl rfl [0, 2, 3, 5] rfl (by decide) (cX11_findForm_b515d l D k _ h0 h4 h5 h10 h1 h2 h3 h6 h7 h8 h9 h11 h12 h13 h14 h15 h16 h17 h18 h19 h20 h21 h0f0 h0f1 h0f2 h0f3 h0f4 h0f5 h0f8 v16 h0f17 h0f18 h0f19 v17 v18 h0f30 h0f31 (by omega) (by omega) (by omega) (by omega) (by omega) (by omega) (by omega) (by omega) (by omega) (by omega) (by omega) (by omega) (by omega) (by omega) (by omega)) w1091 w1088 w1090 w52 w72 hdX11_findForm ⟨rfl, rfl⟩ ⟨Nat.le_of_ble_eq_true rfl, Nat.le_of_ble_eq_true rfl⟩ rfl hl.1 (Nat.le_of_ble_eq_true rfl) dX11_form_39 ⟨Nat.le_of_ble_eq_true rfl, Nat.le_of_ble_eq_true rfl⟩) hT hS hA [0, 2, 3, 5] [1, 4, 6, 7, 8] rfl rfl rfl (by decide) (by decide) (fun r20 H locs hB J hS => ?_)
        rcases hB with ⟨v21, v22, b_v21, b_v22, c_23, c_24, c_25, c_26, rfl, hT1⟩ | ⟨v27, v28, b_v27, b_v28, c_29, c_30, c_31, c_32, rfl, hT1⟩
        · skip
          have hT := J _ hT1
          have hT : TP D A [(h1, aI (k 0) 36 anI), (h6, aJ (k 1) 9 anJ), (h11, aI (k 0) 100 anI), (h12, aI (k 0) 100 anI), (h13, aI (k 0) 100 anI), (h0, ob 8 [.int h0f0, .int h0f1, .int h0f2, .int h0f3, .int h0f4, .int h0f5, .ref h1, .ref h2, .int h0f8, .int v16, .ref h3, .ref h4, .ref h5, .ref h6, .ref h7, .ref h8, .ref h9, .int h0f17, .int h0f18, .int h0f19, .ref h10, .ref h11, .ref h12, .ref h13, .int v17, .int v18, .ref h14, .ref h15, .ref h16, .ref h17, .int h0f30, .int h0f31, .ref h18, .ref h19, .ref h20, .ref h21]), (h4, aJ (k 1) 9 anJ), (h5, aJ (k 1) 9 anJ), (h10, aJ (k 1) 900 (lsP (v16.toInt)))] _ := hT
          refine lv_if_ne (tgt := 51) hx hb dX11_form_42 (by decide) (fun c_33 => ?_) (fun c_33 => ?_)
          · skip
            have c_33 := ni_ne c_33 rfl li_0
            exfalso; omega
          · skip
            have c_33 := ni_eq c_33 rfl li_0
            refine lv_bipush (v := (-16)) hx hb dX11_form_45 (by decide) ?_
            have q_q35 := li_m16
            refine tcL (Tc := []) (Tr := [(h1, aI (k 0) 36 anI), (h6, aJ (k 1) 9 anJ), (h11, aI (k 0) 100 anI), (h12, aI (k 0) 100 anI), (h13, aI (k 0) 100 anI), (h0, ob 8 [.int h0f0, .int h0f1, .int h0f2, .int h0f3, .int h0f4, .int h0f5, .ref h1, .ref h2, .int h0f8, .int v16, .ref h3, .ref h4, .ref h5, .ref h6, .ref h7, .ref h8, .ref h9, .int h0f17, .int h0f18, .int h0f19, .ref h10, .ref h11, .ref h12, .ref h13, .int v17, .int v18, .ref h14, .ref h15, .ref h16, .ref h17, .int h0f30, .int h0f31, .ref h18, .ref h19, .ref h20, .ref h21]), (h4, aJ (k 1) 9 anJ), (h5, aJ (k 1) 9 anJ), (h10, aJ (k 1) 900 (lsP (v16.toInt)))]) (as := []) (zcS (As := [.int (-16)]) (rest := []) (Tc := []) hx hb hml hown hU hK hT [] rfl (by decide) (cX11_far_7dbca l D k _ ((-16)) (by have := li_m16; omega)) w1062 w1060 w1061 w72 hdX11_far ⟨rfl, rfl⟩ ⟨Nat.le_of_ble_eq_true rfl, Nat.le_of_ble_eq_true rfl⟩ rfl hl.1 (Nat.le_of_ble_eq_true rfl) dX11_form_47 ⟨Nat.le_of_ble_eq_true rfl, Nat.le_of_ble_eq_true rfl⟩) hT hS hA [] [0, 1, 2, 3, 4, 5, 6, 7, 8] rfl rfl rfl (by decide) (by decide) (fun r34 H locs hB J hS => ?_)
            obtain ⟨b_r34, hT1⟩ := hB
            have hT := J _ hT1
            have hT : TP D A [(h1, aI (k 0) 36 anI), (h6, aJ (k 1) 9 anJ), (h11, aI (k 0) 100 anI), (h12, aI (k 0) 100 anI), (h13, aI (k 0) 100 anI), (h0, ob 8 [.int h0f0, .int h0f1, .int h0f2, .int h0f3, .int h0f4, .int h0f5, .ref h1, .ref h2, .int h0f8, .int v16, .ref h3, .ref h4, .ref h5, .ref h6, .ref h7, .ref h8, .ref h9, .int h0f17, .int h0f18, .int h0f19, .ref h10, .ref h11, .ref h12, .ref h13, .int v17, .int v18, .ref h14, .ref h15, .ref h16, .ref h17, .int h0f30, .int h0f31, .ref h18, .ref h19, .ref h20, .ref h21]), (h4, aJ (k 1) 9 anJ), (h5, aJ (k 1) 9 anJ), (h10, aJ (k 1) 900 (lsP (v16.toInt)))] _ := hT
            exact tz_retL (B := B_cX11_formL_b559b D k h0 h1 h4 h5 h6 h10 h11 h12 h13 h2 h3 h7 h8 h9 h14 h15 h16 h17 h18 h19 h20 h21 x1 x2 h0f0 h0f1 h0f2 h0f3 h0f4 h0f5 h0f8 h0f9 h0f17 h0f18 h0f19 h0f24 h0f25 h0f30 h0f31) (v := r34) hQ hx hb hr hlocks hS (Nat.le_of_ble_eq_true rfl) (Nat.le_of_ble_eq_true rfl) dX11_form_50 (⟨v16, v17, v18, (by omega), (by omega), (by omega), (by omega), (hT.sub [5, 0, 6, 7, 1, 8, 2, 3, 4] (by decide) rfl)⟩)
        · skip
          have hT := J _ hT1
          have hT : TP D A [(h1, aI (k 0) 36 anI), (h6, aJ (k 1) 9 anJ), (h11, aI (k 0) 100 anI), (h12, aI (k 0) 100 anI), (h13, aI (k 0) 100 anI), (h0, ob 8 [.int h0f0, .int h0f1, .int h0f2, .int h0f3, .int h0f4, .int h0f5, .ref h1, .ref h2, .int h0f8, .int v16, .ref h3, .ref h4, .ref h5, .ref h6, .ref h7, .ref h8, .ref h9, .int h0f17, .int h0f18, .int h0f19, .ref h10, .ref h11, .ref h12, .ref h13, .int v17, .int v18, .ref h14, .ref h15, .ref h16, .ref h17, .int h0f30, .int h0f31, .ref h18, .ref h19, .ref h20, .ref h21]), (h4, aJ (k 1) 9 (f1P )), (h5, aJ (k 1) 9 anJ), (h10, aJ (k 1) 900 (lsP (v16.toInt)))] _ := hT
          refine lv_if_ne (tgt := 51) hx hb dX11_form_42 (by decide) (fun c_36 => ?_) (fun c_36 => ?_)
          · skip
            have c_36 := ni_ne c_36 rfl li_0
            refine lv_lconst (v := 0) hx hb dX11_form_51 (by decide) ?_
            refine lv_lstore_n (lv' := [(3, .long 0), (0, .ref h0), (1, .int x1), (2, .int x2)]) hx hb dX11_form_52 rfl hl (by decide) rfl (fun ls hl => ?_)
            refine lv_iconst (v := 0) hx hb dX11_form_53 (by decide) ?_
            refine lv_istore (lv' := [(5, .int 0), (3, .long 0), (0, .ref h0), (1, .int x1), (2, .int x2)]) hx hb dX11_form_54 hl (by decide) rfl (fun ls hl => ?_)
            refine lv_iload hx hb dX11_form_56 (lv_at hl 0 rfl) ?_
            refine lv_bipush (v := 9) hx hb dX11_form_58 (by decide) ?_
            refine lv_icmp_ge (tgt := 81) hx hb dX11_form_60 (by decide) (fun cc => absurd cc (by decide +kernel)) (fun _ => ?_)
            refine lv_lload_n hx hb dX11_form_63 rfl (lv_at hl 1 rfl) ?_
            refine lv_aload_n hx hb dX11_form_64 rfl (lv_at hl 2 rfl) ?_
            refine tz_get (ci := 8) (v := .ref h4) (C := RX11) (F := TX11) (N := 36) hx hb hU iX11 hown hK hT 5 rfl rfl 11 (by decide) w796 (fun _ h9 => h9) rfl dX11_form_65 ?_
            refine lv_iload hx hb dX11_form_68 (lv_at hl 0 rfl) ?_
            refine tz_lald hx hb hK hT 6 rfl (by have := li_0; omega) dX11_form_70 (fun v37 e_v37 => ?_)
            have e_v37 := f1_get e_v37 li_0
            have q_q39 := ll_0
            refine tcL (Tc := []) (Tr := [(h1, aI (k 0) 36 anI), (h6, aJ (k 1) 9 anJ), (h11, aI (k 0) 100 anI), (h12, aI (k 0) 100 anI), (h13, aI (k 0) 100 anI), (h0, ob 8 [.int h0f0, .int h0f1, .int h0f2, .int h0f3, .int h0f4, .int h0f5, .ref h1, .ref h2, .int h0f8, .int v16, .ref h3, .ref h4, .ref h5, .ref h6, .ref h7, .ref h8, .ref h9, .int h0f17, .int h0f18, .int h0f19, .ref h10, .ref h11, .ref h12, .ref h13, .int v17, .int v18, .ref h14, .ref h15, .ref h16, .ref h17, .int h0f30, .int h0f31, .ref h18, .ref h19, .ref h20, .ref h21]), (h4, aJ (k 1) 9 (f1P )), (h5, aJ (k 1) 9 anJ), (h10, aJ (k 1) 900 (lsP (v16.toInt)))]) (as := []) (zcS (As := [.long 0, .long v37]) (rest := []) (Tc := []) hx hb hml hown hU hK hT [] rfl (by decide) (cX11_common_49cb4 l D k _ (0) v37 (by have := ll_0; omega)) w1094 w1092 w1093 w72 hdX11_common ⟨rfl, rfl⟩ ⟨Nat.le_of_ble_eq_true rfl, Nat.le_of_ble_eq_true rfl⟩ rfl hl.1 (Nat.le_of_ble_eq_true rfl) dX11_form_71 ⟨Nat.le_of_ble_eq_true rfl, Nat.le_of_ble_eq_true rfl⟩) hT hS hA [] [0, 1, 2, 3, 4, 5, 6, 7, 8] rfl rfl rfl (by decide) (by decide) (fun r38 H locs hB J hS => ?_)
            obtain ⟨k_x40, hT1⟩ := hB
            have hT := J _ hT1
            have hT : TP D A [(h1, aI (k 0) 36 anI), (h6, aJ (k 1) 9 anJ), (h11, aI (k 0) 100 anI), (h12, aI (k 0) 100 anI), (h13, aI (k 0) 100 anI), (h0, ob 8 [.int h0f0, .int h0f1, .int h0f2, .int h0f3, .int h0f4, .int h0f5, .ref h1, .ref h2, .int h0f8, .int v16, .ref h3, .ref h4, .ref h5, .ref h6, .ref h7, .ref h8, .ref h9, .int h0f17, .int h0f18, .int h0f19, .ref h10, .ref h11, .ref h12, .ref h13, .int v17, .int v18, .ref h14, .ref h15, .ref h16, .ref h17, .int h0f30, .int h0f31, .ref h18, .ref h19, .ref h20, .ref h21]), (h4, aJ (k 1) 9 (f1P )), (h5, aJ (k 1) 9 anJ), (h10, aJ (k 1) 900 (lsP (v16.toInt)))] _ := hT
            refine lv_lstore_n (lv' := [(3, .long r38), (5, .int 0), (0, .ref h0), (1, .int x1), (2, .int x2)]) hx hb dX11_form_74 rfl hl (by decide) rfl (fun ls hl => ?_)
            refine lv_iinc (v := 1) (lv' := [(5, .int 1), (3, .long r38), (0, .ref h0), (1, .int x1), (2, .int x2)]) hx hb dX11_form_75 hl (k := 1) rfl (by decide) (by decide) rfl (fun ls hl => ?_)
            refine lv_goto (tgt := 56) hx hb dX11_form_78 (by decide) ?_
            refine lv_iload hx hb dX11_form_56 (lv_at hl 0 rfl) ?_
            refine lv_bipush (v := 9) hx hb dX11_form_58 (by decide) ?_
            refine lv_icmp_ge (tgt := 81) hx hb dX11_form_60 (by decide) (fun cc => absurd cc (by decide +kernel)) (fun _ => ?_)
            refine lv_lload_n hx hb dX11_form_63 rfl (lv_at hl 1 rfl) ?_
            refine lv_aload_n hx hb dX11_form_64 rfl (lv_at hl 2 rfl) ?_
            refine tz_get (ci := 8) (v := .ref h4) (C := RX11) (F := TX11) (N := 36) hx hb hU iX11 hown hK hT 5 rfl rfl 11 (by decide) w796 (fun _ h9 => h9) rfl dX11_form_65 ?_
            refine lv_iload hx hb dX11_form_68 (lv_at hl 0 rfl) ?_
            refine tz_lald hx hb hK hT 6 rfl (by have := li_1; omega) dX11_form_70 (fun v41 e_v41 => ?_)
            clear e_v41
            refine tcL (Tc := []) (Tr := [(h1, aI (k 0) 36 anI), (h6, aJ (k 1) 9 anJ), (h11, aI (k 0) 100 anI), (h12, aI (k 0) 100 anI), (h13, aI (k 0) 100 anI), (h0, ob 8 [.int h0f0, .int h0f1, .int h0f2, .int h0f3, .int h0f4, .int h0f5, .ref h1, .ref h2, .int h0f8, .int v16, .ref h3, .ref h4, .ref h5, .ref h6, .ref h7, .ref h8, .ref h9, .int h0f17, .int h0f18, .int h0f19, .ref h10, .ref h11, .ref h12, .ref h13, .int v17, .int v18, .ref h14, .ref h15, .ref h16, .ref h17, .int h0f30, .int h0f31, .ref h18, .ref h19, .ref h20, .ref h21]), (h4, aJ (k 1) 9 (f1P )), (h5, aJ (k 1) 9 anJ), (h10, aJ (k 1) 900 (lsP (v16.toInt)))]) (as := []) (zcS (As := [.long r38, .long v41]) (rest := []) (Tc := []) hx hb hml hown hU hK hT [] rfl (by decide) (cX11_common_49cb4 l D k _ r38 v41 (by omega)) w1094 w1092 w1093 w72 hdX11_common ⟨rfl, rfl⟩ ⟨Nat.le_of_ble_eq_true rfl, Nat.le_of_ble_eq_true rfl⟩ rfl hl.1 (Nat.le_of_ble_eq_true rfl) dX11_form_71 ⟨Nat.le_of_ble_eq_true rfl, Nat.le_of_ble_eq_true rfl⟩) hT hS hA [] [0, 1, 2, 3, 4, 5, 6, 7, 8] rfl rfl rfl (by decide) (by decide) (fun r42 H locs hB J hS => ?_)
            obtain ⟨k_x43, hT1⟩ := hB
            have hT := J _ hT1
            have hT : TP D A [(h1, aI (k 0) 36 anI), (h6, aJ (k 1) 9 anJ), (h11, aI (k 0) 100 anI), (h12, aI (k 0) 100 anI), (h13, aI (k 0) 100 anI), (h0, ob 8 [.int h0f0, .int h0f1, .int h0f2, .int h0f3, .int h0f4, .int h0f5, .ref h1, .ref h2, .int h0f8, .int v16, .ref h3, .ref h4, .ref h5, .ref h6, .ref h7, .ref h8, .ref h9, .int h0f17, .int h0f18, .int h0f19, .ref h10, .ref h11, .ref h12, .ref h13, .int v17, .int v18, .ref h14, .ref h15, .ref h16, .ref h17, .int h0f30, .int h0f31, .ref h18, .ref h19, .ref h20, .ref h21]), (h4, aJ (k 1) 9 (f1P )), (h5, aJ (k 1) 9 anJ), (h10, aJ (k 1) 900 (lsP (v16.toInt)))] _ := hT
            refine lv_lstore_n (lv' := [(3, .long r42), (5, .int 1), (0, .ref h0), (1, .int x1), (2, .int x2)]) hx hb dX11_form_74 rfl hl (by decide) rfl (fun ls hl => ?_)
            refine lv_iinc (v := 2) (lv' := [(5, .int 2), (3, .long r42), (0, .ref h0), (1, .int x1), (2, .int x2)]) hx hb dX11_form_75 hl (k := 1) rfl (by decide) (by decide) rfl (fun ls hl => ?_)
            refine lv_goto (tgt := 56) hx hb dX11_form_78 (by decide) ?_
            refine lv_iload hx hb dX11_form_56 (lv_at hl 0 rfl) ?_
            refine lv_bipush (v := 9) hx hb dX11_form_58 (by decide) ?_
            refine lv_icmp_ge (tgt := 81) hx hb dX11_form_60 (by decide) (fun cc => absurd cc (by decide +kernel)) (fun _ => ?_)
            refine lv_lload_n hx hb dX11_form_63 rfl (lv_at hl 1 rfl) ?_
            refine lv_aload_n hx hb dX11_form_64 rfl (lv_at hl 2 rfl) ?_
            refine tz_get (ci := 8) (v := .ref h4) (C := RX11) (F := TX11) (N := 36) hx hb hU iX11 hown hK hT 5 rfl rfl 11 (by decide) w796 (fun _ h9 => h9) rfl dX11_form_65 ?_
            refine lv_iload hx hb dX11_form_68 (lv_at hl 0 rfl) ?_
            refine tz_lald hx hb hK hT 6 rfl (by have := li_2; omega) dX11_form_70 (fun v44 e_v44 => ?_)
            clear e_v44
            refine tcL (Tc := []) (Tr := [(h1, aI (k 0) 36 anI), (h6, aJ (k 1) 9 anJ), (h11, aI (k 0) 100 anI), (h12, aI (k 0) 100 anI), (h13, aI (k 0) 100 anI), (h0, ob 8 [.int h0f0, .int h0f1, .int h0f2, .int h0f3, .int h0f4, .int h0f5, .ref h1, .ref h2, .int h0f8, .int v16, .ref h3, .ref h4, .ref h5, .ref h6, .ref h7, .ref h8, .ref h9, .int h0f17, .int h0f18, .int h0f19, .ref h10, .ref h11, .ref h12, .ref h13, .int v17, .int v18, .ref h14, .ref h15, .ref h16, .ref h17, .int h0f30, .int h0f31, .ref h18, .ref h19, .ref h20, .ref h21]), (h4, aJ (k 1) 9 (f1P )), (h5, aJ (k 1) 9 anJ), (h10, aJ (k 1) 900 (lsP (v16.toInt)))]) (as := []) (zcS (As := [.long r42, .long v44]) (rest := []) (Tc := []) hx hb hml hown hU hK hT [] rfl (by decide) (cX11_common_49cb4 l D k _ r42 v44 (by omega)) w1094 w1092 w1093 w72 hdX11_common ⟨rfl, rfl⟩ ⟨Nat.le_of_ble_eq_true rfl, Nat.le_of_ble_eq_true rfl⟩ rfl hl.1 (Nat.le_of_ble_eq_true rfl) dX11_form_71 ⟨Nat.le_of_ble_eq_true rfl, Nat.le_of_ble_eq_true rfl⟩) hT hS hA [] [0, 1, 2, 3, 4, 5, 6, 7, 8] rfl rfl rfl (by decide) (by decide) (fun r45 H locs hB J hS => ?_)
            obtain ⟨k_x46, hT1⟩ := hB
            have hT := J _ hT1
            have hT : TP D A [(h1, aI (k 0) 36 anI), (h6, aJ (k 1) 9 anJ), (h11, aI (k 0) 100 anI), (h12, aI (k 0) 100 anI), (h13, aI (k 0) 100 anI), (h0, ob 8 [.int h0f0, .int h0f1, .int h0f2, .int h0f3, .int h0f4, .int h0f5, .ref h1, .ref h2, .int h0f8, .int v16, .ref h3, .ref h4, .ref h5, .ref h6, .ref h7, .ref h8, .ref h9, .int h0f17, .int h0f18, .int h0f19, .ref h10, .ref h11, .ref h12, .ref h13, .int v17, .int v18, .ref h14, .ref h15, .ref h16, .ref h17, .int h0f30, .int h0f31, .ref h18, .ref h19, .ref h20, .ref h21]), (h4, aJ (k 1) 9 (f1P )), (h5, aJ (k 1) 9 anJ), (h10, aJ (k 1) 900 (lsP (v16.toInt)))] _ := hT
            refine lv_lstore_n (lv' := [(3, .long r45), (5, .int 2), (0, .ref h0), (1, .int x1), (2, .int x2)]) hx hb dX11_form_74 rfl hl (by decide) rfl (fun ls hl => ?_)
            refine lv_iinc (v := 3) (lv' := [(5, .int 3), (3, .long r45), (0, .ref h0), (1, .int x1), (2, .int x2)]) hx hb dX11_form_75 hl (k := 1) rfl (by decide) (by decide) rfl (fun ls hl => ?_)
            refine lv_goto (tgt := 56) hx hb dX11_form_78 (by decide) ?_
            refine lv_iload hx hb dX11_form_56 (lv_at hl 0 rfl) ?_
            refine lv_bipush (v := 9) hx hb dX11_form_58 (by decide) ?_
            refine lv_icmp_ge (tgt := 81) hx hb dX11_form_60 (by decide) (fun cc => absurd cc (by decide +kernel)) (fun _ => ?_)
            refine lv_lload_n hx hb dX11_form_63 rfl (lv_at hl 1 rfl) ?_
            refine lv_aload_n hx hb dX11_form_64 rfl (lv_at hl 2 rfl) ?_
            refine tz_get (ci := 8) (v := .ref h4) (C := RX11) (F := TX11) (N := 36) hx hb hU iX11 hown hK hT 5 rfl rfl 11 (by decide) w796 (fun _ h9 => h9) rfl dX11_form_65 ?_
            refine lv_iload hx hb dX11_form_68 (lv_at hl 0 rfl) ?_
            refine tz_lald hx hb hK hT 6 rfl (by have := li_3; omega) dX11_form_70 (fun v47 e_v47 => ?_)
            clear e_v47
            refine tcL (Tc := []) (Tr := [(h1, aI (k 0) 36 anI), (h6, aJ (k 1) 9 anJ), (h11, aI (k 0) 100 anI), (h12, aI (k 0) 100 anI), (h13, aI (k 0) 100 anI), (h0, ob 8 [.int h0f0, .int h0f1, .int h0f2, .int h0f3, .int h0f4, .int h0f5, .ref h1, .ref h2, .int h0f8, .int v16, .ref h3, .ref h4, .ref h5, .ref h6, .ref h7, .ref h8, .ref h9, .int h0f17, .int h0f18, .int h0f19, .ref h10, .ref h11, .ref h12, .ref h13, .int v17, .int v18, .ref h14, .ref h15, .ref h16, .ref h17, .int h0f30, .int h0f31, .ref h18, .ref h19, .ref h20, .ref h21]), (h4, aJ (k 1) 9 (f1P )), (h5, aJ (k 1) 9 anJ), (h10, aJ (k 1) 900 (lsP (v16.toInt)))]) (as := []) (zcS (As := [.long r45, .long v47]) (rest := []) (Tc := []) hx hb hml hown hU hK hT [] rfl (by decide) (cX11_common_49cb4 l D k _ r45 v47 (by omega)) w1094 w1092 w1093 w72 hdX11_common ⟨rfl, rfl⟩ ⟨Nat.le_of_ble_eq_true rfl, Nat.le_of_ble_eq_true rfl⟩ rfl hl.1 (Nat.le_of_ble_eq_true rfl) dX11_form_71 ⟨Nat.le_of_ble_eq_true rfl, Nat.le_of_ble_eq_true rfl⟩) hT hS hA [] [0, 1, 2, 3, 4, 5, 6, 7, 8] rfl rfl rfl (by decide) (by decide) (fun r48 H locs hB J hS => ?_)
            obtain ⟨k_x49, hT1⟩ := hB
            have hT := J _ hT1
            have hT : TP D A [(h1, aI (k 0) 36 anI), (h6, aJ (k 1) 9 anJ), (h11, aI (k 0) 100 anI), (h12, aI (k 0) 100 anI), (h13, aI (k 0) 100 anI), (h0, ob 8 [.int h0f0, .int h0f1, .int h0f2, .int h0f3, .int h0f4, .int h0f5, .ref h1, .ref h2, .int h0f8, .int v16, .ref h3, .ref h4, .ref h5, .ref h6, .ref h7, .ref h8, .ref h9, .int h0f17, .int h0f18, .int h0f19, .ref h10, .ref h11, .ref h12, .ref h13, .int v17, .int v18, .ref h14, .ref h15, .ref h16, .ref h17, .int h0f30, .int h0f31, .ref h18, .ref h19, .ref h20, .ref h21]), (h4, aJ (k 1) 9 (f1P )), (h5, aJ (k 1) 9 anJ), (h10, aJ (k 1) 900 (lsP (v16.toInt)))] _ := hT
            refine lv_lstore_n (lv' := [(3, .long r48), (5, .int 3), (0, .ref h0), (1, .int x1), (2, .int x2)]) hx hb dX11_form_74 rfl hl (by decide) rfl (fun ls hl => ?_)
            refine lv_iinc (v := 4) (lv' := [(5, .int 4), (3, .long r48), (0, .ref h0), (1, .int x1), (2, .int x2)]) hx hb dX11_form_75 hl (k := 1) rfl (by decide) (by decide) rfl (fun ls hl => ?_)
            refine lv_goto (tgt := 56) hx hb dX11_form_78 (by decide) ?_
            refine lv_iload hx hb dX11_form_56 (lv_at hl 0 rfl) ?_
            refine lv_bipush (v := 9) hx hb dX11_form_58 (by decide) ?_
            refine lv_icmp_ge (tgt := 81) hx hb dX11_form_60 (by decide) (fun cc => absurd cc (by decide +kernel)) (fun _ => ?_)
            refine lv_lload_n hx hb dX11_form_63 rfl (lv_at hl 1 rfl) ?_
            refine lv_aload_n hx hb dX11_form_64 rfl (lv_at hl 2 rfl) ?_
            refine tz_get (ci := 8) (v := .ref h4) (C := RX11) (F := TX11) (N := 36) hx hb hU iX11 hown hK hT 5 rfl rfl 11 (by decide) w796 (fun _ h9 => h9) rfl dX11_form_65 ?_
            refine lv_iload hx hb dX11_form_68 (lv_at hl 0 rfl) ?_
            refine tz_lald hx hb hK hT 6 rfl (by have := li_4; omega) dX11_form_70 (fun v50 e_v50 => ?_)
            clear e_v50
            refine tcL (Tc := []) (Tr := [(h1, aI (k 0) 36 anI), (h6, aJ (k 1) 9 anJ), (h11, aI (k 0) 100 anI), (h12, aI (k 0) 100 anI), (h13, aI (k 0) 100 anI), (h0, ob 8 [.int h0f0, .int h0f1, .int h0f2, .int h0f3, .int h0f4, .int h0f5, .ref h1, .ref h2, .int h0f8, .int v16, .ref h3, .ref h4, .ref h5, .ref h6, .ref h7, .ref h8, .ref h9, .int h0f17, .int h0f18, .int h0f19, .ref h10, .ref h11, .ref h12, .ref h13, .int v17, .int v18, .ref h14, .ref h15, .ref h16, .ref h17, .int h0f30, .int h0f31, .ref h18, .ref h19, .ref h20, .ref h21]), (h4, aJ (k 1) 9 (f1P )), (h5, aJ (k 1) 9 anJ), (h10, aJ (k 1) 900 (lsP (v16.toInt)))]) (as := []) (zcS (As := [.long r48, .long v50]) (rest := []) (Tc := []) hx hb hml hown hU hK hT [] rfl (by decide) (cX11_common_49cb4 l D k _ r48 v50 (by omega)) w1094 w1092 w1093 w72 hdX11_common ⟨rfl, rfl⟩ ⟨Nat.le_of_ble_eq_true rfl, Nat.le_of_ble_eq_true rfl⟩ rfl hl.1 (Nat.le_of_ble_eq_true rfl) dX11_form_71 ⟨Nat.le_of_ble_eq_true rfl, Nat.le_of_ble_eq_true rfl⟩) hT hS hA [] [0, 1, 2, 3, 4, 5, 6, 7, 8] rfl rfl rfl (by decide) (by decide) (fun r51 H locs hB J hS => ?_)
            obtain ⟨k_x52, hT1⟩ := hB
            have hT := J _ hT1
            have hT : TP D A [(h1, aI (k 0) 36 anI), (h6, aJ (k 1) 9 anJ), (h11, aI (k 0) 100 anI), (h12, aI (k 0) 100 anI), (h13, aI (k 0) 100 anI), (h0, ob 8 [.int h0f0, .int h0f1, .int h0f2, .int h0f3, .int h0f4, .int h0f5, .ref h1, .ref h2, .int h0f8, .int v16, .ref h3, .ref h4, .ref h5, .ref h6, .ref h7, .ref h8, .ref h9, .int h0f17, .int h0f18, .int h0f19, .ref h10, .ref h11, .ref h12, .ref h13, .int v17, .int v18, .ref h14, .ref h15, .ref h16, .ref h17, .int h0f30, .int h0f31, .ref h18, .ref h19, .ref h20, .ref h21]), (h4, aJ (k 1) 9 (f1P )), (h5, aJ (k 1) 9 anJ), (h10, aJ (k 1) 900 (lsP (v16.toInt)))] _ := hT
            refine lv_lstore_n (lv' := [(3, .long r51), (5, .int 4), (0, .ref h0), (1, .int x1), (2, .int x2)]) hx hb dX11_form_74 rfl hl (by decide) rfl (fun ls hl => ?_)
            refine lv_iinc (v := 5) (lv' := [(5, .int 5), (3, .long r51), (0, .ref h0), (1, .int x1), (2, .int x2)]) hx hb dX11_form_75 hl (k := 1) rfl (by decide) (by decide) rfl (fun ls hl => ?_)
            refine lv_goto (tgt := 56) hx hb dX11_form_78 (by decide) ?_
            refine lv_iload hx hb dX11_form_56 (lv_at hl 0 rfl) ?_
            refine lv_bipush (v := 9) hx hb dX11_form_58 (by decide) ?_
            refine lv_icmp_ge (tgt := 81) hx hb dX11_form_60 (by decide) (fun cc => absurd cc (by decide +kernel)) (fun _ => ?_)
            refine lv_lload_n hx hb dX11_form_63 rfl (lv_at hl 1 rfl) ?_
            refine lv_aload_n hx hb dX11_form_64 rfl (lv_at hl 2 rfl) ?_
            refine tz_get (ci := 8) (v := .ref h4) (C := RX11) (F := TX11) (N := 36) hx hb hU iX11 hown hK hT 5 rfl rfl 11 (by decide) w796 (fun _ h9 => h9) rfl dX11_form_65 ?_
            refine lv_iload hx hb dX11_form_68 (lv_at hl 0 rfl) ?_
            refine tz_lald hx hb hK hT 6 rfl (by have := li_5; omega) dX11_form_70 (fun v53 e_v53 => ?_)
            clear e_v53
            refine tcL (Tc := []) (Tr := [(h1, aI (k 0) 36 anI), (h6, aJ (k 1) 9 anJ), (h11, aI (k 0) 100 anI), (h12, aI (k 0) 100 anI), (h13, aI (k 0) 100 anI), (h0, ob 8 [.int h0f0, .int h0f1, .int h0f2, .int h0f3, .int h0f4, .int h0f5, .ref h1, .ref h2, .int h0f8, .int v16, .ref h3, .ref h4, .ref h5, .ref h6, .ref h7, .ref h8, .ref h9, .int h0f17, .int h0f18, .int h0f19, .ref h10, .ref h11, .ref h12, .ref h13, .int v17, .int v18, .ref h14, .ref h15, .ref h16, .ref h17, .int h0f30, .int h0f31, .ref h18, .ref h19, .ref h20, .ref h21]), (h4, aJ (k 1) 9 (f1P )), (h5, aJ (k 1) 9 anJ), (h10, aJ (k 1) 900 (lsP (v16.toInt)))]) (as := []) (zcS (As := [.long r51, .long v53]) (rest := []) (Tc := []) hx hb hml hown hU hK hT [] rfl (by decide) (cX11_common_49cb4 l D k _ r51 v53 (by omega)) w1094 w1092 w1093 w72 hdX11_common ⟨rfl, rfl⟩ ⟨Nat.le_of_ble_eq_true rfl, Nat.le_of_ble_eq_true rfl⟩ rfl hl.1 (Nat.le_of_ble_eq_true rfl) dX11_form_71 ⟨Nat.le_of_ble_eq_true rfl, Nat.le_of_ble_eq_true rfl⟩) hT hS hA [] [0, 1, 2, 3, 4, 5, 6, 7, 8] rfl rfl rfl (by decide) (by decide) (fun r54 H locs hB J hS => ?_)
            obtain ⟨k_x55, hT1⟩ := hB
            have hT := J _ hT1
            have hT : TP D A [(h1, aI (k 0) 36 anI), (h6, aJ (k 1) 9 anJ), (h11, aI (k 0) 100 anI), (h12, aI (k 0) 100 anI), (h13, aI (k 0) 100 anI), (h0, ob 8 [.int h0f0, .int h0f1, .int h0f2, .int h0f3, .int h0f4, .int h0f5, .ref h1, .ref h2, .int h0f8, .int v16, .ref h3, .ref h4, .ref h5, .ref h6, .ref h7, .ref h8, .ref h9, .int h0f17, .int h0f18, .int h0f19, .ref h10, .ref h11, .ref h12, .ref h13, .int v17, .int v18, .ref h14, .ref h15, .ref h16, .ref h17, .int h0f30, .int h0f31, .ref h18, .ref h19, .ref h20, .ref h21]), (h4, aJ (k 1) 9 (f1P )), (h5, aJ (k 1) 9 anJ), (h10, aJ (k 1) 900 (lsP (v16.toInt)))] _ := hT
            refine lv_lstore_n (lv' := [(3, .long r54), (5, .int 5), (0, .ref h0), (1, .int x1), (2, .int x2)]) hx hb dX11_form_74 rfl hl (by decide) rfl (fun ls hl => ?_)
            refine lv_iinc (v := 6) (lv' := [(5, .int 6), (3, .long r54), (0, .ref h0), (1, .int x1), (2, .int x2)]) hx hb dX11_form_75 hl (k := 1) rfl (by decide) (by decide) rfl (fun ls hl => ?_)
            refine lv_goto (tgt := 56) hx hb dX11_form_78 (by decide) ?_
            refine lv_iload hx hb dX11_form_56 (lv_at hl 0 rfl) ?_
            refine lv_bipush (v := 9) hx hb dX11_form_58 (by decide) ?_
            refine lv_icmp_ge (tgt := 81) hx hb dX11_form_60 (by decide) (fun cc => absurd cc (by decide +kernel)) (fun _ => ?_)
            refine lv_lload_n hx hb dX11_form_63 rfl (lv_at hl 1 rfl) ?_
            refine lv_aload_n hx hb dX11_form_64 rfl (lv_at hl 2 rfl) ?_
            refine tz_get (ci := 8) (v := .ref h4) (C := RX11) (F := TX11) (N := 36) hx hb hU iX11 hown hK hT 5 rfl rfl 11 (by decide) w796 (fun _ h9 => h9) rfl dX11_form_65 ?_
            refine lv_iload hx hb dX11_form_68 (lv_at hl 0 rfl) ?_
            refine tz_lald hx hb hK hT 6 rfl (by have := li_6; omega) dX11_form_70 (fun v56 e_v56 => ?_)
            clear e_v56
            refine tcL (Tc := []) (Tr := [(h1, aI (k 0) 36 anI), (h6, aJ (k 1) 9 anJ), (h11, aI (k 0) 100 anI), (h12, aI (k 0) 100 anI), (h13, aI (k 0) 100 anI), (h0, ob 8 [.int h0f0, .int h0f1, .int h0f2, .int h0f3, .int h0f4, .int h0f5, .ref h1, .ref h2, .int h0f8, .int v16, .ref h3, .ref h4, .ref h5, .ref h6, .ref h7, .ref h8, .ref h9, .int h0f17, .int h0f18, .int h0f19, .ref h10, .ref h11, .ref h12, .ref h13, .int v17, .int v18, .ref h14, .ref h15, .ref h16, .ref h17, .int h0f30, .int h0f31, .ref h18, .ref h19, .ref h20, .ref h21]), (h4, aJ (k 1) 9 (f1P )), (h5, aJ (k 1) 9 anJ), (h10, aJ (k 1) 900 (lsP (v16.toInt)))]) (as := []) (zcS (As := [.long r54, .long v56]) (rest := []) (Tc := []) hx hb hml hown hU hK hT [] rfl (by decide) (cX11_common_49cb4 l D k _ r54 v56 (by omega)) w1094 w1092 w1093 w72 hdX11_common ⟨rfl, rfl⟩ ⟨Nat.le_of_ble_eq_true rfl, Nat.le_of_ble_eq_true rfl⟩ rfl hl.1 (Nat.le_of_ble_eq_true rfl) dX11_form_71 ⟨Nat.le_of_ble_eq_true rfl, Nat.le_of_ble_eq_true rfl⟩) hT hS hA [] [0, 1, 2, 3, 4, 5, 6, 7, 8] rfl rfl rfl (by decide) (by decide) (fun r57 H locs hB J hS => ?_)
            obtain ⟨k_x58, hT1⟩ := hB
            have hT := J _ hT1
            have hT : TP D A [(h1, aI (k 0) 36 anI), (h6, aJ (k 1) 9 anJ), (h11, aI (k 0) 100 anI), (h12, aI (k 0) 100 anI), (h13, aI (k 0) 100 anI), (h0, ob 8 [.int h0f0, .int h0f1, .int h0f2, .int h0f3, .int h0f4, .int h0f5, .ref h1, .ref h2, .int h0f8, .int v16, .ref h3, .ref h4, .ref h5, .ref h6, .ref h7, .ref h8, .ref h9, .int h0f17, .int h0f18, .int h0f19, .ref h10, .ref h11, .ref h12, .ref h13, .int v17, .int v18, .ref h14, .ref h15, .ref h16, .ref h17, .int h0f30, .int h0f31, .ref h18, .ref h19, .ref h20, .ref h21]), (h4, aJ (k 1) 9 (f1P )), (h5, aJ (k 1) 9 anJ), (h10, aJ (k 1) 900 (lsP (v16.toInt)))] _ := hT
            refine lv_lstore_n (lv' := [(3, .long r57), (5, .int 6), (0, .ref h0), (1, .int x1), (2, .int x2)]) hx hb dX11_form_74 rfl hl (by decide) rfl (fun ls hl => ?_)
            refine lv_iinc (v := 7) (lv' := [(5, .int 7), (3, .long r57), (0, .ref h0), (1, .int x1), (2, .int x2)]) hx hb dX11_form_75 hl (k := 1) rfl (by decide) (by decide) rfl (fun ls hl => ?_)
            refine lv_goto (tgt := 56) hx hb dX11_form_78 (by decide) ?_
            refine lv_iload hx hb dX11_form_56 (lv_at hl 0 rfl) ?_
            refine lv_bipush (v := 9) hx hb dX11_form_58 (by decide) ?_
            refine lv_icmp_ge (tgt := 81) hx hb dX11_form_60 (by decide) (fun cc => absurd cc (by decide +kernel)) (fun _ => ?_)
            refine lv_lload_n hx hb dX11_form_63 rfl (lv_at hl 1 rfl) ?_
            refine lv_aload_n hx hb dX11_form_64 rfl (lv_at hl 2 rfl) ?_
            refine tz_get (ci := 8) (v := .ref h4) (C := RX11) (F := TX11) (N := 36) hx hb hU iX11 hown hK hT 5 rfl rfl 11 (by decide) w796 (fun _ h9 => h9) rfl dX11_form_65 ?_
            refine lv_iload hx hb dX11_form_68 (lv_at hl 0 rfl) ?_
            refine tz_lald hx hb hK hT 6 rfl (by have := li_7; omega) dX11_form_70 (fun v59 e_v59 => ?_)
            clear e_v59
            refine tcL (Tc := []) (Tr := [(h1, aI (k 0) 36 anI), (h6, aJ (k 1) 9 anJ), (h11, aI (k 0) 100 anI), (h12, aI (k 0) 100 anI), (h13, aI (k 0) 100 anI), (h0, ob 8 [.int h0f0, .int h0f1, .int h0f2, .int h0f3, .int h0f4, .int h0f5, .ref h1, .ref h2, .int h0f8, .int v16, .ref h3, .ref h4, .ref h5, .ref h6, .ref h7, .ref h8, .ref h9, .int h0f17, .int h0f18, .int h0f19, .ref h10, .ref h11, .ref h12, .ref h13, .int v17, .int v18, .ref h14, .ref h15, .ref h16, .ref h17, .int h0f30, .int h0f31, .ref h18, .ref h19, .ref h20, .ref h21]), (h4, aJ (k 1) 9 (f1P )), (h5, aJ (k 1) 9 anJ), (h10, aJ (k 1) 900 (lsP (v16.toInt)))]) (as := []) (zcS (As := [.long r57, .long v59]) (rest := []) (Tc := []) hx hb hml hown hU hK hT [] rfl (by decide) (cX11_common_49cb4 l D k _ r57 v59 (by omega)) w1094 w1092 w1093 w72 hdX11_common ⟨rfl, rfl⟩ ⟨Nat.le_of_ble_eq_true rfl, Nat.le_of_ble_eq_true rfl⟩ rfl hl.1 (Nat.le_of_ble_eq_true rfl) dX11_form_71 ⟨Nat.le_of_ble_eq_true rfl, Nat.le_of_ble_eq_true rfl⟩) hT hS hA [] [0, 1, 2, 3, 4, 5, 6, 7, 8] rfl rfl rfl (by decide) (by decide) (fun r60 H locs hB J hS => ?_)
            obtain ⟨k_x61, hT1⟩ := hB
            have hT := J _ hT1
            have hT : TP D A [(h1, aI (k 0) 36 anI), (h6, aJ (k 1) 9 anJ), (h11, aI (k 0) 100 anI), (h12, aI (k 0) 100 anI), (h13, aI (k 0) 100 anI), (h0, ob 8 [.int h0f0, .int h0f1, .int h0f2, .int h0f3, .int h0f4, .int h0f5, .ref h1, .ref h2, .int h0f8, .int v16, .ref h3, .ref h4, .ref h5, .ref h6, .ref h7, .ref h8, .ref h9, .int h0f17, .int h0f18, .int h0f19, .ref h10, .ref h11, .ref h12, .ref h13, .int v17, .int v18, .ref h14, .ref h15, .ref h16, .ref h17, .int h0f30, .int h0f31, .ref h18, .ref h19, .ref h20, .ref h21]), (h4, aJ (k 1) 9 (f1P )), (h5, aJ (k 1) 9 anJ), (h10, aJ (k 1) 900 (lsP (v16.toInt)))] _ := hT
            refine lv_lstore_n (lv' := [(3, .long r60), (5, .int 7), (0, .ref h0), (1, .int x1), (2, .int x2)]) hx hb dX11_form_74 rfl hl (by decide) rfl (fun ls hl => ?_)
            refine lv_iinc (v := 8) (lv' := [(5, .int 8), (3, .long r60), (0, .ref h0), (1, .int x1), (2, .int x2)]) hx hb dX11_form_75 hl (k := 1) rfl (by decide) (by decide) rfl (fun ls hl => ?_)
            refine lv_goto (tgt := 56) hx hb dX11_form_78 (by decide) ?_
            refine lv_iload hx hb dX11_form_56 (lv_at hl 0 rfl) ?_
            refine lv_bipush (v := 9) hx hb dX11_form_58 (by decide) ?_
            refine lv_icmp_ge (tgt := 81) hx hb dX11_form_60 (by decide) (fun cc => absurd cc (by decide +kernel)) (fun _ => ?_)
            refine lv_lload_n hx hb dX11_form_63 rfl (lv_at hl 1 rfl) ?_
            refine lv_aload_n hx hb dX11_form_64 rfl (lv_at hl 2 rfl) ?_
            refine tz_get (ci := 8) (v := .ref h4) (C := RX11) (F := TX11) (N := 36) hx hb hU iX11 hown hK hT 5 rfl rfl 11 (by decide) w796 (fun _ h9 => h9) rfl dX11_form_65 ?_
            refine lv_iload hx hb dX11_form_68 (lv_at hl 0 rfl) ?_
            refine tz_lald hx hb hK hT 6 rfl (by have := li_8; omega) dX11_form_70 (fun v62 e_v62 => ?_)
            clear e_v62
            refine tcL (Tc := []) (Tr := [(h1, aI (k 0) 36 anI), (h6, aJ (k 1) 9 anJ), (h11, aI (k 0) 100 anI), (h12, aI (k 0) 100 anI), (h13, aI (k 0) 100 anI), (h0, ob 8 [.int h0f0, .int h0f1, .int h0f2, .int h0f3, .int h0f4, .int h0f5, .ref h1, .ref h2, .int h0f8, .int v16, .ref h3, .ref h4, .ref h5, .ref h6, .ref h7, .ref h8, .ref h9, .int h0f17, .int h0f18, .int h0f19, .ref h10, .ref h11, .ref h12, .ref h13, .int v17, .int v18, .ref h14, .ref h15, .ref h16, .ref h17, .int h0f30, .int h0f31, .ref h18, .ref h19, .ref h20, .ref h21]), (h4, aJ (k 1) 9 (f1P )), (h5, aJ (k 1) 9 anJ), (h10, aJ (k 1) 900 (lsP (v16.toInt)))]) (as := []) (zcS (As := [.long r60, .long v62]) (rest := []) (Tc := []) hx hb hml hown hU hK hT [] rfl (by decide) (cX11_common_49cb4 l D k _ r60 v62 (by omega)) w1094 w1092 w1093 w72 hdX11_common ⟨rfl, rfl⟩ ⟨Nat.le_of_ble_eq_true rfl, Nat.le_of_ble_eq_true rfl⟩ rfl hl.1 (Nat.le_of_ble_eq_true rfl) dX11_form_71 ⟨Nat.le_of_ble_eq_true rfl, Nat.le_of_ble_eq_true rfl⟩) hT hS hA [] [0, 1, 2, 3, 4, 5, 6, 7, 8] rfl rfl rfl (by decide) (by decide) (fun r63 H locs hB J hS => ?_)
            obtain ⟨k_x64, hT1⟩ := hB
            have hT := J _ hT1
            have hT : TP D A [(h1, aI (k 0) 36 anI), (h6, aJ (k 1) 9 anJ), (h11, aI (k 0) 100 anI), (h12, aI (k 0) 100 anI), (h13, aI (k 0) 100 anI), (h0, ob 8 [.int h0f0, .int h0f1, .int h0f2, .int h0f3, .int h0f4, .int h0f5, .ref h1, .ref h2, .int h0f8, .int v16, .ref h3, .ref h4, .ref h5, .ref h6, .ref h7, .ref h8, .ref h9, .int h0f17, .int h0f18, .int h0f19, .ref h10, .ref h11, .ref h12, .ref h13, .int v17, .int v18, .ref h14, .ref h15, .ref h16, .ref h17, .int h0f30, .int h0f31, .ref h18, .ref h19, .ref h20, .ref h21]), (h4, aJ (k 1) 9 (f1P )), (h5, aJ (k 1) 9 anJ), (h10, aJ (k 1) 900 (lsP (v16.toInt)))] _ := hT
            refine lv_lstore_n (lv' := [(3, .long r63), (5, .int 8), (0, .ref h0), (1, .int x1), (2, .int x2)]) hx hb dX11_form_74 rfl hl (by decide) rfl (fun ls hl => ?_)
            refine lv_iinc (v := 9) (lv' := [(5, .int 9), (3, .long r63), (0, .ref h0), (1, .int x1), (2, .int x2)]) hx hb dX11_form_75 hl (k := 1) rfl (by decide) (by decide) rfl (fun ls hl => ?_)
            refine lv_goto (tgt := 56) hx hb dX11_form_78 (by decide) ?_
            refine lv_iload hx hb dX11_form_56 (lv_at hl 0 rfl) ?_
            refine lv_bipush (v := 9) hx hb dX11_form_58 (by decide) ?_
            refine lv_icmp_ge (tgt := 81) hx hb dX11_form_60 (by decide) (fun _ => ?_) (fun cc => absurd (by decide +kernel) cc)
            refine lv_aload_n hx hb dX11_form_81 rfl (lv_at hl 2 rfl) ?_
            refine tz_get (ci := 8) (v := .ref h4) (C := RX11) (F := TX11) (N := 36) hx hb hU iX11 hown hK hT 5 rfl rfl 11 (by decide) w796 (fun _ h9 => h9) rfl dX11_form_82 ?_
            refine lv_iconst (v := 3) hx hb dX11_form_85 (by decide) ?_
            refine lv_iload_n hx hb dX11_form_86 rfl (lv_at hl 3 rfl) ?_
            refine lv_imul hx hb dX11_form_87 (lv_topi (fun v65 e_v65 => ?_))
            have e_v65 := ai_mul e_v65 li_3 rfl (by omega)
            refine lv_iload_n hx hb dX11_form_88 rfl (lv_at hl 4 rfl) ?_
            refine lv_iadd hx hb dX11_form_89 (lv_topi (fun v66 e_v66 => ?_))
            have e_v66 := ai_add e_v66 rfl rfl (by omega)
            refine tz_lald hx hb hK hT 6 rfl (by omega) dX11_form_90 (fun v67 e_v67 => ?_)
            clear e_v67
            refine lv_lload_n hx hb dX11_form_91 rfl (lv_at hl 1 rfl) ?_
            refine lv_ldiv hx hb dX11_form_92 (nz64 (y := r63.toInt) rfl (by omega)) (lv_topl (fun v68 e_v68 => ?_))
            have hT := hT.wk (q := 6) (P' := aJ (k 1) 9 anJ) rfl (an_J)
            have hT : TP D A [(h1, aI (k 0) 36 anI), (h6, aJ (k 1) 9 anJ), (h11, aI (k 0) 100 anI), (h12, aI (k 0) 100 anI), (h13, aI (k 0) 100 anI), (h0, ob 8 [.int h0f0, .int h0f1, .int h0f2, .int h0f3, .int h0f4, .int h0f5, .ref h1, .ref h2, .int h0f8, .int v16, .ref h3, .ref h4, .ref h5, .ref h6, .ref h7, .ref h8, .ref h9, .int h0f17, .int h0f18, .int h0f19, .ref h10, .ref h11, .ref h12, .ref h13, .int v17, .int v18, .ref h14, .ref h15, .ref h16, .ref h17, .int h0f30, .int h0f31, .ref h18, .ref h19, .ref h20, .ref h21]), (h4, aJ (k 1) 9 anJ), (h5, aJ (k 1) 9 anJ), (h10, aJ (k 1) 900 (lsP (v16.toInt)))] _ := hT
            exact tz_retL (B := B_cX11_formL_b559b D k h0 h1 h4 h5 h6 h10 h11 h12 h13 h2 h3 h7 h8 h9 h14 h15 h16 h17 h18 h19 h20 h21 x1 x2 h0f0 h0f1 h0f2 h0f3 h0f4 h0f5 h0f8 h0f9 h0f17 h0f18 h0f19 h0f24 h0f25 h0f30 h0f31) (v := v68) hQ hx hb hr hlocks hS (Nat.le_of_ble_eq_true rfl) (Nat.le_of_ble_eq_true rfl) dX11_form_93 (⟨v16, v17, v18, (by omega), (by omega), (by omega), (by omega), (hT.sub [5, 0, 6, 7, 1, 8, 2, 3, 4] (by decide) rfl)⟩)
          · skip
            have c_36 := ni_eq c_36 rfl li_0
            exfalso; omega
      · skip
        have c_19 := ni_eq c_19 rfl li_0
        refine lv_bipush (v := (-3)) hx hb dX11_form_32 (by decide) ?_
        have q_q70 := li_m3
        refine tcL (Tc := []) (Tr := [(h0, ob 8 [.int h0f0, .int h0f1, .int h0f2, .int h0f3, .int h0f4, .int h0f5, .ref h1, .ref h2, .int h0f8, .int v16, .ref h3, .ref h4, .ref h5, .ref h6, .ref h7, .ref h8, .ref h9, .int h0f17, .int h0f18, .int h0f19, .ref h10, .ref h11, .ref h12, .ref h13, .int v17, .int v18, .ref h14, .ref h15, .ref h16, .ref h17, .int h0f30, .int h0f31, .ref h18, .ref h19, .ref h20, .ref h21]), (h1, aI (k 0) 36 anI), (h4, aJ (k 1) 9 anJ), (h5, aJ (k 1) 9 anJ), (h6, aJ (k 1) 9 anJ), (h10, aJ (k 1) 900 (lsP (v16.toInt))), (h11, aI (k 0) 100 anI), (h12, aI (k 0) 100 anI), (h13, aI (k 0) 100 anI)]) (as := []) (zcS (As := [.int (-3)]) (rest := []) (Tc := []) hx hb hml hown hU hK hT [] rfl (by decide) (cX11_far_7dbca l D k _ ((-3)) (by have := li_m3; omega)) w1062 w1060 w1061 w72 hdX11_far ⟨rfl, rfl⟩ ⟨Nat.le_of_ble_eq_true rfl, Nat.le_of_ble_eq_true rfl⟩ rfl hl.1 (Nat.le_of_ble_eq_true rfl) dX11_form_34 ⟨Nat.le_of_ble_eq_true rfl, Nat.le_of_ble_eq_true rfl⟩) hT hS hA [] [0, 1, 2, 3, 4, 5, 6, 7, 8] rfl rfl rfl (by decide) (by decide) (fun r69 H locs hB J hS => ?_)
        obtain ⟨b_r69, hT1⟩ := hB
        have hT := J _ hT1
        have hT : TP D A [(h0, ob 8 [.int h0f0, .int h0f1, .int h0f2, .int h0f3, .int h0f4, .int h0f5, .ref h1, .ref h2, .int h0f8, .int v16, .ref h3, .ref h4, .ref h5, .ref h6, .ref h7, .ref h8, .ref h9, .int h0f17, .int h0f18, .int h0f19, .ref h10, .ref h11, .ref h12, .ref h13, .int v17, .int v18, .ref h14, .ref h15, .ref h16, .ref h17, .int h0f30, .int h0f31, .ref h18, .ref h19, .ref h20, .ref h21]), (h1, aI (k 0) 36 anI), (h4, aJ (k 1) 9 anJ), (h5, aJ (k 1) 9 anJ), (h6, aJ (k 1) 9 anJ), (h10, aJ (k 1) 900 (lsP (v16.toInt))), (h11, aI (k 0) 100 anI), (h12, aI (k 0) 100 anI), (h13, aI (k 0) 100 anI)] _ := hT
        exact tz_retL (B := B_cX11_formL_b559b D k h0 h1 h4 h5 h6 h10 h11 h12 h13 h2 h3 h7 h8 h9 h14 h15 h16 h17 h18 h19 h20 h21 x1 x2 h0f0 h0f1 h0f2 h0f3 h0f4 h0f5 h0f8 h0f9 h0f17 h0f18 h0f19 h0f24 h0f25 h0f30 h0f31) (v := r69) hQ hx hb hr hlocks hS (Nat.le_of_ble_eq_true rfl) (Nat.le_of_ble_eq_true rfl) dX11_form_37 (⟨v16, v17, v18, (by omega), (by omega), (by omega), (by omega), hT⟩)
abbrev Rm_cX10_imageL_53bd6 : Room := { frames := 6, cells := 0, slots := 0, locals := 151 }
abbrev B_cX10_imageL_53bd6 (D : va_G) (k : Nat → ClassId) (h0 h1 h7 h8 h9 h12 h14 h38 h39 h40 h41 h42 h43 h44 h45 h2 h3 h4 h5 h6 h10 h11 h13 : Nat) (x1 : Int32) (h0f2 : Int32) (h0f6 : Int32) (h0f8 : Int32) (h0f11 : Int32) (h1f0 : Int32) (h1f1 : Int32) (h1f2 : Int32) (h7f8 : Int32) (h7f9 : Int32) (h7f10 : Int32) (h7f11 : Int32) (h9f1 : Int32) (A : Nat → Prop) (r : Int32) (H : Heap) : Prop := ∃ o0 : Int32, ∃ o1 : Int32, ∃ o2 : Int32, ∃ o3 : Int32, ∃ o4 : Int32, (0 ≤ o0.toInt ∧ o0.toInt ≤ 60) ∧ (0 ≤ o1.toInt ∧ o1.toInt ≤ 400) ∧ (0 ≤ o2.toInt ∧ o2.toInt ≤ 400) ∧ (0 ≤ o3.toInt ∧ o3.toInt ≤ 1) ∧ (0 ≤ o4.toInt ∧ o4.toInt ≤ 7) ∧ TP D A [(h0, ob 7 [.ref h1, .ref h2, .int h0f2, .ref h3, .ref h4, .ref h5, .int h0f6, .ref h6, .int h0f8, .ref h7, .ref h8, .int h0f11, .ref h9, .ref h10, .ref h11, .ref h12, .ref h13]), (h1, ob 4 [.int h1f0, .int h1f1, .int h1f2, .ref h14]), (h7, ob 3 [.ref h38, .ref h39, .ref h40, .ref h41, .ref h42, .ref h43, .ref h44, .ref h45, .int o0, .int o1, .int o2, .int o3]), (h8, aI (k 0) 8 anI), (h9, ob 2 [.ref h1, .int o4]), (h12, aJ (k 1) 9 anJ), (h14, aJ (k 1) 36 anJ), (h38, aJ (k 1) 12000 anJ), (h39, aI (k 0) 400 anI), (h40, aI (k 0) 400 anI), (h41, aI (k 0) 400 anI), (h42, aI (k 0) 1600 anI), (h43, aI (k 0) 1024 anI), (h44, aI (k 0) 400 anI), (h45, aJ (k 1) 60 anJ)] H
set_option maxHeartbeats 4000000 in
set_option maxRecDepth 100000 in
theorem cX10_imageL_53bd6 (l : Launch) (D : va_G) (k : Nat → ClassId) (sz : Nat) (h0 h1 h7 h8 h9 h12 h14 h38 h39 h40 h41 h42 h43 h44 h45 h2 h3 h4 h5 h6 h10 h11 h13 : Nat) (x1 : Int32) (h0f2 : Int32) (h0f6 : Int32) (h0f8 : Int32) (h0f11 : Int32) (h1f0 : Int32) (h1f1 : Int32) (h1f2 : Int32) (h7f8 : Int32) (h7f9 : Int32) (h7f10 : Int32) (h7f11 : Int32) (h9f1 : Int32) (b_h0f2 : 0 ≤ h0f2.toInt ∧ h0f2.toInt ≤ 1) (b_h0f6 : 0 ≤ h0f6.toInt ∧ h0f6.toInt ≤ 1) (b_h0f8 : 0 ≤ h0f8.toInt ∧ h0f8.toInt ≤ 1) (b_h0f11 : 0 ≤ h0f11.toInt ∧ h0f11.toInt ≤ 200) (b_h1f0 : 1 ≤ h1f0.toInt ∧ h1f0.toInt ≤ 3) (b_h1f1 : 0 ≤ h1f1.toInt ∧ h1f1.toInt ≤ 4) (b_h7f8 : 0 ≤ h7f8.toInt ∧ h7f8.toInt ≤ 60) (b_h7f9 : 0 ≤ h7f9.toInt ∧ h7f9.toInt ≤ 400) (b_h7f10 : 0 ≤ h7f10.toInt ∧ h7f10.toInt ≤ 400) (b_h7f11 : 0 ≤ h7f11.toInt ∧ h7f11.toInt ≤ 1) (b_h9f1 : 0 ≤ h9f1.toInt ∧ h9f1.toInt ≤ 7) : Met l yX10_image (Cond.code yX10_image cX10_image 2 (some .int) :: uw) Rm_cX10_imageL_53bd6 (pT D k sz [.ref h0, .int x1] [(h0, ob 7 [.ref h1, .ref h2, .int h0f2, .ref h3, .ref h4, .ref h5, .int h0f6, .ref h6, .int h0f8, .ref h7, .ref h8, .int h0f11, .ref h9, .ref h10, .ref h11, .ref h12, .ref h13]), (h1, ob 4 [.int h1f0, .int h1f1, .int h1f2, .ref h14]), (h7, ob 3 [.ref h38, .ref h39, .ref h40, .ref h41, .ref h42, .ref h43, .ref h44, .ref h45, .int h7f8, .int h7f9, .int h7f10, .int h7f11]), (h8, aI (k 0) 8 anI), (h9, ob 2 [.ref h1, .int h9f1]), (h12, aJ (k 1) 9 anJ), (h14, aJ (k 1) 36 anJ), (h38, aJ (k 1) 12000 anJ), (h39, aI (k 0) 400 anI), (h40, aI (k 0) 400 anI), (h41, aI (k 0) 400 anI), (h42, aI (k 0) 1600 anI), (h43, aI (k 0) 1024 anI), (h44, aI (k 0) 400 anI), (h45, aJ (k 1) 60 anJ)]) (qI (B_cX10_imageL_53bd6 D k h0 h1 h7 h8 h9 h12 h14 h38 h39 h40 h41 h42 h43 h44 h45 h2 h3 h4 h5 h6 h10 h11 h13 x1 h0f2 h0f6 h0f8 h0f11 h1f0 h1f1 h1f2 h7f8 h7f9 h7f10 h7f11 h9f1 (zA [h0, h1, h7, h8, h9, h12, h14, h38, h39, h40, h41, h42, h43, h44, h45] sz)) (zA [h0, h1, h7, h8, h9, h12, h14, h38, h39, h40, h41, h42, h43, h44, h45] sz)) 0 0 (zA [h0, h1, h7, h8, h9, h12, h14, h38, h39, h40, h41, h42, h43, h44, h45] sz) := by
  refine tz_begin (as := [h0, h1, h7, h8, h9, h12, h14, h38, h39, h40, h41, h42, h43, h44, h45]) (Qc := fun A => qI (B_cX10_imageL_53bd6 D k h0 h1 h7 h8 h9 h12 h14 h38 h39 h40 h41 h42 h43 h44 h45 h2 h3 h4 h5 h6 h10 h11 h13 x1 h0f2 h0f6 h0f8 h0f11 h1f0 h1f1 h1f2 h7f8 h7f9 h7f10 h7f11 h9f1 A) A) (by decide +kernel) rfl (Nat.le_of_ble_eq_true rfl) ?_
  intro p e s m args below meth c ls A Q hx hb hr hml hown hlocks hin hU hK hT hS hA hl hQ
  have hl : lv_has ls 2 [(0, .ref h0), (1, .int x1)] := hl
  have hT : TP D A [(h0, ob 7 [.ref h1, .ref h2, .int h0f2, .ref h3, .ref h4, .ref h5, .int h0f6, .ref h6, .int h0f8, .ref h7, .ref h8, .int h0f11, .ref h9, .ref h10, .ref h11, .ref h12, .ref h13]), (h1, ob 4 [.int h1f0, .int h1f1, .int h1f2, .ref h14]), (h7, ob 3 [.ref h38, .ref h39, .ref h40, .ref h41, .ref h42, .ref h43, .ref h44, .ref h45, .int h7f8, .int h7f9, .int h7f10, .int h7f11]), (h8, aI (k 0) 8 anI), (h9, ob 2 [.ref h1, .int h9f1]), (h12, aJ (k 1) 9 anJ), (h14, aJ (k 1) 36 anJ), (h38, aJ (k 1) 12000 anJ), (h39, aI (k 0) 400 anI), (h40, aI (k 0) 400 anI), (h41, aI (k 0) 400 anI), (h42, aI (k 0) 1600 anI), (h43, aI (k 0) 1024 anI), (h44, aI (k 0) 400 anI), (h45, aJ (k 1) 60 anJ)] s.heap := hT
  refine lv_iload_n hx hb dX10_image_0 rfl (lv_at hl 1 rfl) ?_
  refine tcI (Tc := []) (Tr := [(h0, ob 7 [.ref h1, .ref h2, .int h0f2, .ref h3, .ref h4, .ref h5, .int h0f6, .ref h6, .int h0f8, .ref h7, .ref h8, .int h0f11, .ref h9, .ref h10, .ref h11, .ref h12, .ref h13]), (h1, ob 4 [.int h1f0, .int h1f1, .int h1f2, .ref h14]), (h7, ob 3 [.ref h38, .ref h39, .ref h40, .ref h41, .ref h42, .ref h43, .ref h44, .ref h45, .int h7f8, .int h7f9, .int h7f10, .int h7f11]), (h8, aI (k 0) 8 anI), (h9, ob 2 [.ref h1, .int h9f1]), (h12, aJ (k 1) 9 anJ), (h14, aJ (k 1) 36 anJ), (h38, aJ (k 1) 12000 anJ), (h39, aI (k 0) 400 anI), (h40, aI (k 0) 400 anI), (h41, aI (k 0) 400 anI), (h42, aI (k 0) 1600 anI), (h43, aI (k 0) 1024 anI), (h44, aI (k 0) 400 anI), (h45, aJ (k 1) 60 anJ)]) (as := []) (zcS (As := [.int x1]) (rest := []) (Tc := []) hx hb hml hown hU hK hT [] rfl (by decide) (cX10_isPrimeTaken_1c6a4 l D k _ x1) w664 w662 w663 w63 hdX10_isPrimeTaken ⟨rfl, rfl⟩ ⟨Nat.le_of_ble_eq_true rfl, Nat.le_of_ble_eq_true rfl⟩ rfl hl.1 (Nat.le_of_ble_eq_true rfl) dX10_image_1 ⟨Nat.le_of_ble_eq_true rfl, Nat.le_of_ble_eq_true rfl⟩) hT hS hA [] [0, 1, 2, 3, 4, 5, 6, 7, 8, 9, 10, 11, 12, 13, 14] rfl rfl rfl (by decide) (by decide) (fun r1 H locs hB J hS => ?_)
  rcases hB with ⟨c_2, rfl, hT1⟩ | ⟨c_3, c_4, rfl, hT1⟩ | ⟨c_5, c_6, c_7, rfl, hT1⟩ | ⟨rfl, hT1⟩ | ⟨c_8, c_9, c_10, c_11, rfl, hT1⟩
  · skip
    have hT := J _ hT1
    have hT : TP D A [(h0, ob 7 [.ref h1, .ref h2, .int h0f2, .ref h3, .ref h4, .ref h5, .int h0f6, .ref h6, .int h0f8, .ref h7, .ref h8, .int h0f11, .ref h9, .ref h10, .ref h11, .ref h12, .ref h13]), (h1, ob 4 [.int h1f0, .int h1f1, .int h1f2, .ref h14]), (h7, ob 3 [.ref h38, .ref h39, .ref h40, .ref h41, .ref h42, .ref h43, .ref h44, .ref h45, .int h7f8, .int h7f9, .int h7f10, .int h7f11]), (h8, aI (k 0) 8 anI), (h9, ob 2 [.ref h1, .int h9f1]), (h12, aJ (k 1) 9 anJ), (h14, aJ (k 1) 36 anJ), (h38, aJ (k 1) 12000 anJ), (h39, aI (k 0) 400 anI), (h40, aI (k 0) 400 anI), (h41, aI (k 0) 400 anI), (h42, aI (k 0) 1600 anI), (h43, aI (k 0) 1024 anI), (h44, aI (k 0) 400 anI), (h45, aJ (k 1) 60 anJ)] _ := hT
    refine lv_if_ne (tgt := 9) hx hb dX10_image_4 (by decide) (fun _ => ?_) (fun cc => absurd cc (by decide +kernel))
    refine lv_aload_n hx hb dX10_image_9 rfl (lv_at hl 0 rfl) ?_
    refine tz_get (ci := 7) (v := .ref h8) (C := RX10) (F := TX10) (N := 17) hx hb hU iX10 hown hK hT 0 rfl rfl 10 (by decide) w259 (fun _ h9 => h9) rfl dX10_image_10 ?_
    refine lv_iload_n hx hb dX10_image_13 rfl (lv_at hl 1 rfl) ?_
    refine tz_iald hx hb hK hT 3 rfl (by omega) dX10_image_14 (fun v12 e_v12 => ?_)
    clear e_v12
    refine lv_if_ne (tgt := 29) hx hb dX10_image_15 (by decide) (fun c_13 => ?_) (fun c_13 => ?_)
    · skip
      have c_13 := ni_ne c_13 rfl li_0
      refine lv_aload_n hx hb dX10_image_29 rfl (lv_at hl 0 rfl) ?_
      refine tz_get (ci := 7) (v := .ref h8) (C := RX10) (F := TX10) (N := 17) hx hb hU iX10 hown hK hT 0 rfl rfl 10 (by decide) w259 (fun _ h9 => h9) rfl dX10_image_30 ?_
      refine lv_iload_n hx hb dX10_image_33 rfl (lv_at hl 1 rfl) ?_
      refine tz_iald hx hb hK hT 3 rfl (by omega) dX10_image_34 (fun v14 e_v14 => ?_)
      clear e_v14
      exact tz_retI (B := B_cX10_imageL_53bd6 D k h0 h1 h7 h8 h9 h12 h14 h38 h39 h40 h41 h42 h43 h44 h45 h2 h3 h4 h5 h6 h10 h11 h13 x1 h0f2 h0f6 h0f8 h0f11 h1f0 h1f1 h1f2 h7f8 h7f9 h7f10 h7f11 h9f1) (v := v14) hQ hx hb hr hlocks hS (Nat.le_of_ble_eq_true rfl) (Nat.le_of_ble_eq_true rfl) dX10_image_35 (⟨h7f8, h7f9, h7f10, h7f11, h9f1, (by omega), (by omega), (by omega), (by omega), (by omega), hT⟩)
    · skip
      have c_13 := ni_eq c_13 rfl li_0
      refine lv_aload_n hx hb dX10_image_18 rfl (lv_at hl 0 rfl) ?_
      refine tz_get (ci := 7) (v := .ref h8) (C := RX10) (F := TX10) (N := 17) hx hb hU iX10 hown hK hT 0 rfl rfl 10 (by decide) w259 (fun _ h9 => h9) rfl dX10_image_19 ?_
      refine lv_iload_n hx hb dX10_image_22 rfl (lv_at hl 1 rfl) ?_
      refine lv_aload_n hx hb dX10_image_23 rfl (lv_at hl 0 rfl) ?_
      refine lv_iload_n hx hb dX10_image_24 rfl (lv_at hl 1 rfl) ?_
      refine tcI (Tc := [(h0, ob 7 [.ref h1, .ref h2, .int h0f2, .ref h3, .ref h4, .ref h5, .int h0f6, .ref h6, .int h0f8, .ref h7, .ref h8, .int h0f11, .ref h9, .ref h10, .ref h11, .ref h12, .ref h13]), (h1, ob 4 [.int h1f0, .int h1f1, .int h1f2, .ref h14]), (h7, ob 3 [.ref h38, .ref h39, .ref h40, .ref h41, .ref h42, .ref h43, .ref h44, .ref h45, .int h7f8, .int h7f9, .int h7f10, .int h7f11]), (h9, ob 2 [.ref h1, .int h9f1]), (h12, aJ (k 1) 9 anJ), (h14, aJ (k 1) 36 anJ), (h38, aJ (k 1) 12000 anJ), (h39, aI (k 0) 400 anI), (h40, aI (k 0) 400 anI), (h41, aI (k 0) 400 anI), (h42, aI (k 0) 1600 anI), (h43, aI (k 0) 1024 anI), (h44, aI (k 0) 400 anI), (h45, aJ (k 1) 60 anJ)]) (Tr := [(h8, aI (k 0) 8 anI)]) (as := [h0, h1, h7, h9, h12, h14, h38, h39, h40, h41, h42, h43, h44, h45]) (zcV (q0 := 0) (ci := 7) (As := [.int x1]) (rest := [.int x1, .ref h8]) (Tc := [(h0, ob 7 [.ref h1, .ref h2, .int h0f2, .ref h3, .ref h4, .ref h5, .int h0f6, .ref h6, .int h0f8, .ref h7, .ref h8, .int h0f11, .ref h9, .ref h10, .ref h11, .ref h12, .ref h13]), (h1, ob 4 [.int h1f0, .int h1f1, .int h1f2, .ref h14]), (h7, ob 3 [.ref h38, .ref h39, .ref h40, .ref h41, .ref h42, .ref h43, .ref h44, .ref h45, .int h7f8, .int h7f9, .int h7f10, .int h7f11]), (h9, ob 2 [.ref h1, .int h9f1]), (h12, aJ (k 1) 9 anJ), (h14, aJ (k 1) 36 anJ), (h38, aJ (k 1) 12000 anJ), (h39, aI (k 0) 400 anI), (h40, aI (k 0) 400 anI), (h41, aI (k 0) 400 anI), (h42, aI (k 0) 1600 anI), (h43, aI (k 0) 1024 anI), (h44, aI (k 0) 400 anI), (h45, aJ (k 1) 60 anJ)]) hx hb hml hown hU hK hT rfl rfl [0, 1, 2, 4, 5, 6, 7, 8, 9, 10, 11, 12, 13, 14] rfl (by decide) (cX10_countImage_54b83 l D k _ h0 h1 h7 h9 h12 h14 h38 h39 h40 h41 h42 h43 h44 h45 h2 h3 h4 h5 h6 h8 h10 h11 h13 x1 h0f2 h0f6 h0f8 h0f11 h1f0 h1f1 h1f2 h7f8 h7f9 h7f10 h7f11 h9f1 (by omega) (by omega) (by omega) (by omega) (by omega) (by omega) (by omega) (by omega) (by omega) (by omega) (by omega) (by omega)) w668 w665 w667 w21 w63 hdX10_countImage ⟨rfl, rfl⟩ ⟨Nat.le_of_ble_eq_true rfl, Nat.le_of_ble_eq_true rfl⟩ rfl hl.1 (Nat.le_of_ble_eq_true rfl) dX10_image_25 ⟨Nat.le_of_ble_eq_true rfl, Nat.le_of_ble_eq_true rfl⟩) hT hS hA [0, 1, 2, 4, 5, 6, 7, 8, 9, 10, 11, 12, 13, 14] [3] rfl rfl rfl (by decide) (by decide) (fun r15 H locs hB J hS => ?_)
      obtain ⟨v16, v17, v18, b_v16, b_v17, b_v18, b_r15, hT1⟩ := hB
      have hT := J _ hT1
      have hT : TP D A [(h8, aI (k 0) 8 anI), (h0, ob 7 [.ref h1, .ref h2, .int h0f2, .ref h3, .ref h4, .ref h5, .int h0f6, .ref h6, .int h0f8, .ref h7, .ref h8, .int h0f11, .ref h9, .ref h10, .ref h11, .ref h12, .ref h13]), (h1, ob 4 [.int h1f0, .int h1f1, .int h1f2, .ref h14]), (h7, ob 3 [.ref h38, .ref h39, .ref h40, .ref h41, .ref h42, .ref h43, .ref h44, .ref h45, .int v16, .int 400, .int v17, .int v18]), (h9, ob 2 [.ref h1, .int x1]), (h12, aJ (k 1) 9 anJ), (h14, aJ (k 1) 36 anJ), (h38, aJ (k 1) 12000 anJ), (h39, aI (k 0) 400 anI), (h40, aI (k 0) 400 anI), (h41, aI (k 0) 400 anI), (h42, aI (k 0) 1600 anI), (h43, aI (k 0) 1024 anI), (h44, aI (k 0) 400 anI), (h45, aJ (k 1) 60 anJ)] _ := hT
      refine tz_iast hx hb hK hT hS 0 rfl (by omega) (fun _ _ => trivial) dX10_image_28 (fun H locs hT hS => ?_)
      refine lv_aload_n hx hb dX10_image_29 rfl (lv_at hl 0 rfl) ?_
      refine tz_get (ci := 7) (v := .ref h8) (C := RX10) (F := TX10) (N := 17) hx hb hU iX10 hown hK hT 1 rfl rfl 10 (by decide) w259 (fun _ h9 => h9) rfl dX10_image_30 ?_
      refine lv_iload_n hx hb dX10_image_33 rfl (lv_at hl 1 rfl) ?_
      refine tz_iald hx hb hK hT 0 rfl (by omega) dX10_image_34 (fun v19 e_v19 => ?_)
      clear e_v19
      exact tz_retI (B := B_cX10_imageL_53bd6 D k h0 h1 h7 h8 h9 h12 h14 h38 h39 h40 h41 h42 h43 h44 h45 h2 h3 h4 h5 h6 h10 h11 h13 x1 h0f2 h0f6 h0f8 h0f11 h1f0 h1f1 h1f2 h7f8 h7f9 h7f10 h7f11 h9f1) (v := v19) hQ hx hb hr hlocks hS (Nat.le_of_ble_eq_true rfl) (Nat.le_of_ble_eq_true rfl) dX10_image_35 (⟨v16, 400, v17, v18, x1, (by have := li_400; omega), (by have := li_400; omega), (by have := li_400; omega), (by have := li_400; omega), (by have := li_400; omega), (hT.sub [1, 2, 3, 0, 4, 5, 6, 7, 8, 9, 10, 11, 12, 13, 14] (by decide) rfl)⟩)
  · skip
    have hT := J _ hT1
    have hT : TP D A [(h0, ob 7 [.ref h1, .ref h2, .int h0f2, .ref h3, .ref h4, .ref h5, .int h0f6, .ref h6, .int h0f8, .ref h7, .ref h8, .int h0f11, .ref h9, .ref h10, .ref h11, .ref h12, .ref h13]), (h1, ob 4 [.int h1f0, .int h1f1, .int h1f2, .ref h14]), (h7, ob 3 [.ref h38, .ref h39, .ref h40, .ref h41, .ref h42, .ref h43, .ref h44, .ref h45, .int h7f8, .int h7f9, .int h7f10, .int h7f11]), (h8, aI (k 0) 8 anI), (h9, ob 2 [.ref h1, .int h9f1]), (h12, aJ (k 1) 9 anJ), (h14, aJ (k 1) 36 anJ), (h38, aJ (k 1) 12000 anJ), (h39, aI (k 0) 400 anI), (h40, aI (k 0) 400 anI), (h41, aI (k 0) 400 anI), (h42, aI (k 0) 1600 anI), (h43, aI (k 0) 1024 anI), (h44, aI (k 0) 400 anI), (h45, aJ (k 1) 60 anJ)] _ := hT
    refine lv_if_ne (tgt := 9) hx hb dX10_image_4 (by decide) (fun _ => ?_) (fun cc => absurd cc (by decide +kernel))
    refine lv_aload_n hx hb dX10_image_9 rfl (lv_at hl 0 rfl) ?_
    refine tz_get (ci := 7) (v := .ref h8) (C := RX10) (F := TX10) (N := 17) hx hb hU iX10 hown hK hT 0 rfl rfl 10 (by decide) w259 (fun _ h9 => h9) rfl dX10_image_10 ?_
    refine lv_iload_n hx hb dX10_image_13 rfl (lv_at hl 1 rfl) ?_
    refine tz_iald hx hb hK hT 3 rfl (by omega) dX10_image_14 (fun v20 e_v20 => ?_)
    clear e_v20
    refine lv_if_ne (tgt := 29) hx hb dX10_image_15 (by decide) (fun c_21 => ?_) (fun c_21 => ?_)
    · skip
      have c_21 := ni_ne c_21 rfl li_0
      refine lv_aload_n hx hb dX10_image_29 rfl (lv_at hl 0 rfl) ?_
      refine tz_get (ci := 7) (v := .ref h8) (C := RX10) (F := TX10) (N := 17) hx hb hU iX10 hown hK hT 0 rfl rfl 10 (by decide) w259 (fun _ h9 => h9) rfl dX10_image_30 ?_
      refine lv_iload_n hx hb dX10_image_33 rfl (lv_at hl 1 rfl) ?_
      refine tz_iald hx hb hK hT 3 rfl (by omega) dX10_image_34 (fun v22 e_v22 => ?_)
      clear e_v22
      exact tz_retI (B := B_cX10_imageL_53bd6 D k h0 h1 h7 h8 h9 h12 h14 h38 h39 h40 h41 h42 h43 h44 h45 h2 h3 h4 h5 h6 h10 h11 h13 x1 h0f2 h0f6 h0f8 h0f11 h1f0 h1f1 h1f2 h7f8 h7f9 h7f10 h7f11 h9f1) (v := v22) hQ hx hb hr hlocks hS (Nat.le_of_ble_eq_true rfl) (Nat.le_of_ble_eq_true rfl) dX10_image_35 (⟨h7f8, h7f9, h7f10, h7f11, h9f1, (by omega), (by omega), (by omega), (by omega), (by omega), hT⟩)
    · skip
      have c_21 := ni_eq c_21 rfl li_0
      refine lv_aload_n hx hb dX10_image_18 rfl (lv_at hl 0 rfl) ?_
      refine tz_get (ci := 7) (v := .ref h8) (C := RX10) (F := TX10) (N := 17) hx hb hU iX10 hown hK hT 0 rfl rfl 10 (by decide) w259 (fun _ h9 => h9) rfl dX10_image_19 ?_
      refine lv_iload_n hx hb dX10_image_22 rfl (lv_at hl 1 rfl) ?_
      refine lv_aload_n hx hb dX10_image_23 rfl (lv_at hl 0 rfl) ?_
      refine lv_iload_n hx hb dX10_image_24 rfl (lv_at hl 1 rfl) ?_
      refine tcI (Tc := [(h0, ob 7 [.ref h1, .ref h2, .int h0f2, .ref h3, .ref h4, .ref h5, .int h0f6, .ref h6, .int h0f8, .ref h7, .ref h8, .int h0f11, .ref h9, .ref h10, .ref h11, .ref h12, .ref h13]), (h1, ob 4 [.int h1f0, .int h1f1, .int h1f2, .ref h14]), (h7, ob 3 [.ref h38, .ref h39, .ref h40, .ref h41, .ref h42, .ref h43, .ref h44, .ref h45, .int h7f8, .int h7f9, .int h7f10, .int h7f11]), (h9, ob 2 [.ref h1, .int h9f1]), (h12, aJ (k 1) 9 anJ), (h14, aJ (k 1) 36 anJ), (h38, aJ (k 1) 12000 anJ), (h39, aI (k 0) 400 anI), (h40, aI (k 0) 400 anI), (h41, aI (k 0) 400 anI), (h42, aI (k 0) 1600 anI), (h43, aI (k 0) 1024 anI), (h44, aI (k 0) 400 anI), (h45, aJ (k 1) 60 anJ)]) (Tr := [(h8, aI (k 0) 8 anI)]) (as := [h0, h1, h7, h9, h12, h14, h38, h39, h40, h41, h42, h43, h44, h45]) (zcV (q0 := 0) (ci := 7) (As := [.int x1]) (rest := [.int x1, .ref h8]) (Tc := [(h0, ob 7 [.ref h1, .ref h2, .int h0f2, .ref h3, .ref h4, .ref h5, .int h0f6, .ref h6, .int h0f8, .ref h7, .ref h8, .int h0f11, .ref h9, .ref h10, .ref h11, .ref h12, .ref h13]), (h1, ob 4 [.int h1f0, .int h1f1, .int h1f2, .ref h14]), (h7, ob 3 [.ref h38, .ref h39, .ref h40, .ref h41, .ref h42, .ref h43, .ref h44, .ref h45, .int h7f8, .int h7f9, .int h7f10, .int h7f11]), (h9, ob 2 [.ref h1, .int h9f1]), (h12, aJ (k 1) 9 anJ), (h14, aJ (k 1) 36 anJ), (h38, aJ (k 1) 12000 anJ), (h39, aI (k 0) 400 anI), (h40, aI (k 0) 400 anI), (h41, aI (k 0) 400 anI), (h42, aI (k 0) 1600 anI), (h43, aI (k 0) 1024 anI), (h44, aI (k 0) 400 anI), (h45, aJ (k 1) 60 anJ)]) hx hb hml hown hU hK hT rfl rfl [0, 1, 2, 4, 5, 6, 7, 8, 9, 10, 11, 12, 13, 14] rfl (by decide) (cX10_countImage_54b83 l D k _ h0 h1 h7 h9 h12 h14 h38 h39 h40 h41 h42 h43 h44 h45 h2 h3 h4 h5 h6 h8 h10 h11 h13 x1 h0f2 h0f6 h0f8 h0f11 h1f0 h1f1 h1f2 h7f8 h7f9 h7f10 h7f11 h9f1 (by omega) (by omega) (by omega) (by omega) (by omega) (by omega) (by omega) (by omega) (by omega) (by omega) (by omega) (by omega)) w668 w665 w667 w21 w63 hdX10_countImage ⟨rfl, rfl⟩ ⟨Nat.le_of_ble_eq_true rfl, Nat.le_of_ble_eq_true rfl⟩ rfl hl.1 (Nat.le_of_ble_eq_true rfl) dX10_image_25 ⟨Nat.le_of_ble_eq_true rfl, Nat.le_of_ble_eq_true rfl⟩) hT hS hA [0, 1, 2, 4, 5, 6, 7, 8, 9, 10, 11, 12, 13, 14] [3] rfl rfl rfl (by decide) (by decide) (fun r23 H locs hB J hS => ?_)
      obtain ⟨v24, v25, v26, b_v24, b_v25, b_v26, b_r23, hT1⟩ := hB
      have hT := J _ hT1
      have hT : TP D A [(h8, aI (k 0) 8 anI), (h0, ob 7 [.ref h1, .ref h2, .int h0f2, .ref h3, .ref h4, .ref h5, .int h0f6, .ref h6, .int h0f8, .ref h7, .ref h8, .int h0f11, .ref h9, .ref h10, .ref h11, .ref h12, .ref h13]), (h1, ob 4 [.int h1f0, .int h1f1, .int h1f2, .ref h14]), (h7, ob 3 [.ref h38, .ref h39, .ref h40, .ref h41, .ref h42, .ref h43, .ref h44, .ref h45, .int v24, .int 400, .int v25, .int v26]), (h9, ob 2 [.ref h1, .int x1]), (h12, aJ (k 1) 9 anJ), (h14, aJ (k 1) 36 anJ), (h38, aJ (k 1) 12000 anJ), (h39, aI (k 0) 400 anI), (h40, aI (k 0) 400 anI), (h41, aI (k 0) 400 anI), (h42, aI (k 0) 1600 anI), (h43, aI (k 0) 1024 anI), (h44, aI (k 0) 400 anI), (h45, aJ (k 1) 60 anJ)] _ := hT
      refine tz_iast hx hb hK hT hS 0 rfl (by omega) (fun _ _ => trivial) dX10_image_28 (fun H locs hT hS => ?_)
      refine lv_aload_n hx hb dX10_image_29 rfl (lv_at hl 0 rfl) ?_
      refine tz_get (ci := 7) (v := .ref h8) (C := RX10) (F := TX10) (N := 17) hx hb hU iX10 hown hK hT 1 rfl rfl 10 (by decide) w259 (fun _ h9 => h9) rfl dX10_image_30 ?_
      refine lv_iload_n hx hb dX10_image_33 rfl (lv_at hl 1 rfl) ?_
      refine tz_iald hx hb hK hT 0 rfl (by omega) dX10_image_34 (fun v27 e_v27 => ?_)
      clear e_v27
      exact tz_retI (B := B_cX10_imageL_53bd6 D k h0 h1 h7 h8 h9 h12 h14 h38 h39 h40 h41 h42 h43 h44 h45 h2 h3 h4 h5 h6 h10 h11 h13 x1 h0f2 h0f6 h0f8 h0f11 h1f0 h1f1 h1f2 h7f8 h7f9 h7f10 h7f11 h9f1) (v := v27) hQ hx hb hr hlocks hS (Nat.le_of_ble_eq_true rfl) (Nat.le_of_ble_eq_true rfl) dX10_image_35 (⟨v24, 400, v25, v26, x1, (by have := li_400; omega), (by have := li_400; omega), (by have := li_400; omega), (by have := li_400; omega), (by have := li_400; omega), (hT.sub [1, 2, 3, 0, 4, 5, 6, 7, 8, 9, 10, 11, 12, 13, 14] (by decide) rfl)⟩)
  · skip
    have hT := J _ hT1
    have hT : TP D A [(h0, ob 7 [.ref h1, .ref h2, .int h0f2, .ref h3, .ref h4, .ref h5, .int h0f6, .ref h6, .int h0f8, .ref h7, .ref h8, .int h0f11, .ref h9, .ref h10, .ref h11, .ref h12, .ref h13]), (h1, ob 4 [.int h1f0, .int h1f1, .int h1f2, .ref h14]), (h7, ob 3 [.ref h38, .ref h39, .ref h40, .ref h41, .ref h42, .ref h43, .ref h44, .ref h45, .int h7f8, .int h7f9, .int h7f10, .int h7f11]), (h8, aI (k 0) 8 anI), (h9, ob 2 [.ref h1, .int h9f1]), (h12, aJ (k 1) 9 anJ), (h14, aJ (k 1) 36 anJ), (h38, aJ (k 1) 12000 anJ), (h39, aI (k 0) 400 anI), (h40, aI (k 0) 400 anI), (h41, aI (k 0) 400 anI), (h42, aI (k 0) 1600 anI), (h43, aI (k 0) 1024 anI), (h44, aI (k 0) 400 anI), (h45, aJ (k 1) 60 anJ)] _ := hT
    refine lv_if_ne (tgt := 9) hx hb dX10_image_4 (by decide) (fun _ => ?_) (fun cc => absurd cc (by decide +kernel))
    refine lv_aload_n hx hb dX10_image_9 rfl (lv_at hl 0 rfl) ?_
    refine tz_get (ci := 7) (v := .ref h8) (C := RX10) (F := TX10) (N := 17) hx hb hU iX10 hown hK hT 0 rfl rfl 10 (by decide) w259 (fun _ h9 => h9) rfl dX10_image_10 ?_
    refine lv_iload_n hx hb dX10_image_13 rfl (lv_at hl 1 rfl) ?_
    refine tz_iald hx hb hK hT 3 rfl (by omega) dX10_image_14 (fun v28 e_v28 => ?_)
    clear e_v28
    refine lv_if_ne (tgt := 29) hx hb dX10_image_15 (by decide) (fun c_29 => ?_) (fun c_29 => ?_)
    · skip
      have c_29 := ni_ne c_29 rfl li_0
      refine lv_aload_n hx hb dX10_image_29 rfl (lv_at hl 0 rfl) ?_
      refine tz_get (ci := 7) (v := .ref h8) (C := RX10) (F := TX10) (N := 17) hx hb hU iX10 hown hK hT 0 rfl rfl 10 (by decide) w259 (fun _ h9 => h9) rfl dX10_image_30 ?_
      refine lv_iload_n hx hb dX10_image_33 rfl (lv_at hl 1 rfl) ?_
      refine tz_iald hx hb hK hT 3 rfl (by omega) dX10_image_34 (fun v30 e_v30 => ?_)
      clear e_v30
      exact tz_retI (B := B_cX10_imageL_53bd6 D k h0 h1 h7 h8 h9 h12 h14 h38 h39 h40 h41 h42 h43 h44 h45 h2 h3 h4 h5 h6 h10 h11 h13 x1 h0f2 h0f6 h0f8 h0f11 h1f0 h1f1 h1f2 h7f8 h7f9 h7f10 h7f11 h9f1) (v := v30) hQ hx hb hr hlocks hS (Nat.le_of_ble_eq_true rfl) (Nat.le_of_ble_eq_true rfl) dX10_image_35 (⟨h7f8, h7f9, h7f10, h7f11, h9f1, (by omega), (by omega), (by omega), (by omega), (by omega), hT⟩)
    · skip
      have c_29 := ni_eq c_29 rfl li_0
      refine lv_aload_n hx hb dX10_image_18 rfl (lv_at hl 0 rfl) ?_
      refine tz_get (ci := 7) (v := .ref h8) (C := RX10) (F := TX10) (N := 17) hx hb hU iX10 hown hK hT 0 rfl rfl 10 (by decide) w259 (fun _ h9 => h9) rfl dX10_image_19 ?_
      refine lv_iload_n hx hb dX10_image_22 rfl (lv_at hl 1 rfl) ?_
      refine lv_aload_n hx hb dX10_image_23 rfl (lv_at hl 0 rfl) ?_
      refine lv_iload_n hx hb dX10_image_24 rfl (lv_at hl 1 rfl) ?_
      refine tcI (Tc := [(h0, ob 7 [.ref h1, .ref h2, .int h0f2, .ref h3, .ref h4, .ref h5, .int h0f6, .ref h6, .int h0f8, .ref h7, .ref h8, .int h0f11, .ref h9, .ref h10, .ref h11, .ref h12, .ref h13]), (h1, ob 4 [.int h1f0, .int h1f1, .int h1f2, .ref h14]), (h7, ob 3 [.ref h38, .ref h39, .ref h40, .ref h41, .ref h42, .ref h43, .ref h44, .ref h45, .int h7f8, .int h7f9, .int h7f10, .int h7f11]), (h9, ob 2 [.ref h1, .int h9f1]), (h12, aJ (k 1) 9 anJ), (h14, aJ (k 1) 36 anJ), (h38, aJ (k 1) 12000 anJ), (h39, aI (k 0) 400 anI), (h40, aI (k 0) 400 anI), (h41, aI (k 0) 400 anI), (h42, aI (k 0) 1600 anI), (h43, aI (k 0) 1024 anI), (h44, aI (k 0) 400 anI), (h45, aJ (k 1) 60 anJ)]) (Tr := [(h8, aI (k 0) 8 anI)]) (as := [h0, h1, h7, h9, h12, h14, h38, h39, h40, h41, h42, h43, h44, h45]) (zcV (q0 := 0) (ci := 7) (As := [.int x1]) (rest := [.int x1, .ref h8]) (Tc := [(h0, ob 7 [.ref h1, .ref h2, .int h0f2, .ref h3, .ref h4, .ref h5, .int h0f6, .ref h6, .int h0f8, .ref h7, .ref h8, .int h0f11, .ref h9, .ref h10, .ref h11, .ref h12, .ref h13]), (h1, ob 4 [.int h1f0, .int h1f1, .int h1f2, .ref h14]), (h7, ob 3 [.ref h38, .ref h39, .ref h40, .ref h41, .ref h42, .ref h43, .ref h44, .ref h45, .int h7f8, .int h7f9, .int h7f10, .int h7f11]), (h9, ob 2 [.ref h1, .int h9f1]), (h12, aJ (k 1) 9 anJ), (h14, aJ (k 1) 36 anJ), (h38, aJ (k 1) 12000 anJ), (h39, aI (k 0) 400 anI), (h40, aI (k 0) 400 anI), (h41, aI (k 0) 400 anI), (h42, aI (k 0) 1600 anI), (h43, aI (k 0) 1024 anI), (h44, aI (k 0) 400 anI), (h45, aJ (k 1) 60 anJ)]) hx hb hml hown hU hK hT rfl rfl [0, 1, 2, 4, 5, 6, 7, 8, 9, 10, 11, 12, 13, 14] rfl (by decide) (cX10_countImage_54b83 l D k _ h0 h1 h7 h9 h12 h14 h38 h39 h40 h41 h42 h43 h44 h45 h2 h3 h4 h5 h6 h8 h10 h11 h13 x1 h0f2 h0f6 h0f8 h0f11 h1f0 h1f1 h1f2 h7f8 h7f9 h7f10 h7f11 h9f1 (by omega) (by omega) (by omega) (by omega) (by omega) (by omega) (by omega) (by omega) (by omega) (by omega) (by omega) (by omega)) w668 w665 w667 w21 w63 hdX10_countImage ⟨rfl, rfl⟩ ⟨Nat.le_of_ble_eq_true rfl, Nat.le_of_ble_eq_true rfl⟩ rfl hl.1 (Nat.le_of_ble_eq_true rfl) dX10_image_25 ⟨Nat.le_of_ble_eq_true rfl, Nat.le_of_ble_eq_true rfl⟩) hT hS hA [0, 1, 2, 4, 5, 6, 7, 8, 9, 10, 11, 12, 13, 14] [3] rfl rfl rfl (by decide) (by decide) (fun r31 H locs hB J hS => ?_)
      obtain ⟨v32, v33, v34, b_v32, b_v33, b_v34, b_r31, hT1⟩ := hB
      have hT := J _ hT1
      have hT : TP D A [(h8, aI (k 0) 8 anI), (h0, ob 7 [.ref h1, .ref h2, .int h0f2, .ref h3, .ref h4, .ref h5, .int h0f6, .ref h6, .int h0f8, .ref h7, .ref h8, .int h0f11, .ref h9, .ref h10, .ref h11, .ref h12, .ref h13]), (h1, ob 4 [.int h1f0, .int h1f1, .int h1f2, .ref h14]), (h7, ob 3 [.ref h38, .ref h39, .ref h40, .ref h41, .ref h42, .ref h43, .ref h44, .ref h45, .int v32, .int 400, .int v33, .int v34]), (h9, ob 2 [.ref h1, .int x1]), (h12, aJ (k 1) 9 anJ), (h14, aJ (k 1) 36 anJ), (h38, aJ (k 1) 12000 anJ), (h39, aI (k 0) 400 anI), (h40, aI (k 0) 400 anI), (h41, aI (k 0) 400 anI), (h42, aI (k 0) 1600 anI), (h43, aI (k 0) 1024 anI), (h44, aI (k 0) 400 anI), (h45, aJ (k 1) 60 anJ)] _ := hT
      refine tz_iast hx hb hK hT hS 0 rfl (by omega) (fun _ _ => trivial) dX10_image_28 (fun H locs hT hS => ?_)
      refine lv_aload_n hx hb dX10_image_29 rfl (lv_at hl 0 rfl) ?_
      refine tz_get (ci := 7) (v := .ref h8) (C := RX10) (F := TX10) (N := 17) hx hb hU iX10 hown hK hT 1 rfl rfl 10 (by decide) w259 (fun _ h9 => h9) rfl dX10_image_30 ?_
      refine lv_iload_n hx hb dX10_image_33 rfl (lv_at hl 1 rfl) ?_
      refine tz_iald hx hb hK hT 0 rfl (by omega) dX10_image_34 (fun v35 e_v35 => ?_)
      clear e_v35
      exact tz_retI (B := B_cX10_imageL_53bd6 D k h0 h1 h7 h8 h9 h12 h14 h38 h39 h40 h41 h42 h43 h44 h45 h2 h3 h4 h5 h6 h10 h11 h13 x1 h0f2 h0f6 h0f8 h0f11 h1f0 h1f1 h1f2 h7f8 h7f9 h7f10 h7f11 h9f1) (v := v35) hQ hx hb hr hlocks hS (Nat.le_of_ble_eq_true rfl) (Nat.le_of_ble_eq_true rfl) dX10_image_35 (⟨v32, 400, v33, v34, x1, (by have := li_400; omega), (by have := li_400; omega), (by have := li_400; omega), (by have := li_400; omega), (by have := li_400; omega), (hT.sub [1, 2, 3, 0, 4, 5, 6, 7, 8, 9, 10, 11, 12, 13, 14] (by decide) rfl)⟩)
  · skip
    have hT := J _ hT1
    have hT : TP D A [(h0, ob 7 [.ref h1, .ref h2, .int h0f2, .ref h3, .ref h4, .ref h5, .int h0f6, .ref h6, .int h0f8, .ref h7, .ref h8, .int h0f11, .ref h9, .ref h10, .ref h11, .ref h12, .ref h13]), (h1, ob 4 [.int h1f0, .int h1f1, .int h1f2, .ref h14]), (h7, ob 3 [.ref h38, .ref h39, .ref h40, .ref h41, .ref h42, .ref h43, .ref h44, .ref h45, .int h7f8, .int h7f9, .int h7f10, .int h7f11]), (h8, aI (k 0) 8 anI), (h9, ob 2 [.ref h1, .int h9f1]), (h12, aJ (k 1) 9 anJ), (h14, aJ (k 1) 36 anJ), (h38, aJ (k 1) 12000 anJ), (h39, aI (k 0) 400 anI), (h40, aI (k 0) 400 anI), (h41, aI (k 0) 400 anI), (h42, aI (k 0) 1600 anI), (h43, aI (k 0) 1024 anI), (h44, aI (k 0) 400 anI), (h45, aJ (k 1) 60 anJ)] _ := hT
    refine lv_if_ne (tgt := 9) hx hb dX10_image_4 (by decide) (fun cc => absurd (by decide +kernel) cc) (fun _ => ?_)
    refine lv_iconst (v := (-1)) hx hb dX10_image_7 (by decide) ?_
    exact tz_retI (B := B_cX10_imageL_53bd6 D k h0 h1 h7 h8 h9 h12 h14 h38 h39 h40 h41 h42 h43 h44 h45 h2 h3 h4 h5 h6 h10 h11 h13 x1 h0f2 h0f6 h0f8 h0f11 h1f0 h1f1 h1f2 h7f8 h7f9 h7f10 h7f11 h9f1) (v := (-1)) hQ hx hb hr hlocks hS (Nat.le_of_ble_eq_true rfl) (Nat.le_of_ble_eq_true rfl) dX10_image_8 (⟨h7f8, h7f9, h7f10, h7f11, h9f1, (by have := li_m1; omega), (by have := li_m1; omega), (by have := li_m1; omega), (by have := li_m1; omega), (by have := li_m1; omega), hT⟩)
  · skip
    have hT := J _ hT1
    have hT : TP D A [(h0, ob 7 [.ref h1, .ref h2, .int h0f2, .ref h3, .ref h4, .ref h5, .int h0f6, .ref h6, .int h0f8, .ref h7, .ref h8, .int h0f11, .ref h9, .ref h10, .ref h11, .ref h12, .ref h13]), (h1, ob 4 [.int h1f0, .int h1f1, .int h1f2, .ref h14]), (h7, ob 3 [.ref h38, .ref h39, .ref h40, .ref h41, .ref h42, .ref h43, .ref h44, .ref h45, .int h7f8, .int h7f9, .int h7f10, .int h7f11]), (h8, aI (k 0) 8 anI), (h9, ob 2 [.ref h1, .int h9f1]), (h12, aJ (k 1) 9 anJ), (h14, aJ (k 1) 36 anJ), (h38, aJ (k 1) 12000 anJ), (h39, aI (k 0) 400 anI), (h40, aI (k 0) 400 anI), (h41, aI (k 0) 400 anI), (h42, aI (k 0) 1600 anI), (h43, aI (k 0) 1024 anI), (h44, aI (k 0) 400 anI), (h45, aJ (k 1) 60 anJ)] _ := hT
    refine lv_if_ne (tgt := 9) hx hb dX10_image_4 (by decide) (fun _ => ?_) (fun cc => absurd cc (by decide +kernel))
    refine lv_aload_n hx hb dX10_image_9 rfl (lv_at hl 0 rfl) ?_
    refine tz_get (ci := 7) (v := .ref h8) (C := RX10) (F := TX10) (N := 17) hx hb hU iX10 hown hK hT 0 rfl rfl 10 (by decide) w259 (fun _ h9 => h9) rfl dX10_image_10 ?_
    refine lv_iload_n hx hb dX10_image_13 rfl (lv_at hl 1 rfl) ?_
    refine tz_iald hx hb hK hT 3 rfl (by omega) dX10_image_14 (fun v36 e_v36 => ?_)
    clear e_v36
    refine lv_if_ne (tgt := 29) hx hb dX10_image_15 (by decide) (fun c_37 => ?_) (fun c_37 => ?_)
    · skip
      have c_37 := ni_ne c_37 rfl li_0
      refine lv_aload_n hx hb dX10_image_29 rfl (lv_at hl 0 rfl) ?_
      refine tz_get (ci := 7) (v := .ref h8) (C := RX10) (F := TX10) (N := 17) hx hb hU iX10 hown hK hT 0 rfl rfl 10 (by decide) w259 (fun _ h9 => h9) rfl dX10_image_30 ?_
      refine lv_iload_n hx hb dX10_image_33 rfl (lv_at hl 1 rfl) ?_
      refine tz_iald hx hb hK hT 3 rfl (by omega) dX10_image_34 (fun v38 e_v38 => ?_)
      clear e_v38
      exact tz_retI (B := B_cX10_imageL_53bd6 D k h0 h1 h7 h8 h9 h12 h14 h38 h39 h40 h41 h42 h43 h44 h45 h2 h3 h4 h5 h6 h10 h11 h13 x1 h0f2 h0f6 h0f8 h0f11 h1f0 h1f1 h1f2 h7f8 h7f9 h7f10 h7f11 h9f1) (v := v38) hQ hx hb hr hlocks hS (Nat.le_of_ble_eq_true rfl) (Nat.le_of_ble_eq_true rfl) dX10_image_35 (⟨h7f8, h7f9, h7f10, h7f11, h9f1, (by omega), (by omega), (by omega), (by omega), (by omega), hT⟩)
    · skip
      have c_37 := ni_eq c_37 rfl li_0
      refine lv_aload_n hx hb dX10_image_18 rfl (lv_at hl 0 rfl) ?_
      refine tz_get (ci := 7) (v := .ref h8) (C := RX10) (F := TX10) (N := 17) hx hb hU iX10 hown hK hT 0 rfl rfl 10 (by decide) w259 (fun _ h9 => h9) rfl dX10_image_19 ?_
      refine lv_iload_n hx hb dX10_image_22 rfl (lv_at hl 1 rfl) ?_
      refine lv_aload_n hx hb dX10_image_23 rfl (lv_at hl 0 rfl) ?_
      refine lv_iload_n hx hb dX10_image_24 rfl (lv_at hl 1 rfl) ?_
      refine tcI (Tc := [(h0, ob 7 [.ref h1, .ref h2, .int h0f2, .ref h3, .ref h4, .ref h5, .int h0f6, .ref h6, .int h0f8, .ref h7, .ref h8, .int h0f11, .ref h9, .ref h10, .ref h11, .ref h12, .ref h13]), (h1, ob 4 [.int h1f0, .int h1f1, .int h1f2, .ref h14]), (h7, ob 3 [.ref h38, .ref h39, .ref h40, .ref h41, .ref h42, .ref h43, .ref h44, .ref h45, .int h7f8, .int h7f9, .int h7f10, .int h7f11]), (h9, ob 2 [.ref h1, .int h9f1]), (h12, aJ (k 1) 9 anJ), (h14, aJ (k 1) 36 anJ), (h38, aJ (k 1) 12000 anJ), (h39, aI (k 0) 400 anI), (h40, aI (k 0) 400 anI), (h41, aI (k 0) 400 anI), (h42, aI (k 0) 1600 anI), (h43, aI (k 0) 1024 anI), (h44, aI (k 0) 400 anI), (h45, aJ (k 1) 60 anJ)]) (Tr := [(h8, aI (k 0) 8 anI)]) (as := [h0, h1, h7, h9, h12, h14, h38, h39, h40, h41, h42, h43, h44, h45]) (zcV (q0 := 0) (ci := 7) (As := [.int x1]) (rest := [.int x1, .ref h8]) (Tc := [(h0, ob 7 [.ref h1, .ref h2, .int h0f2, .ref h3, .ref h4, .ref h5, .int h0f6, .ref h6, .int h0f8, .ref h7, .ref h8, .int h0f11, .ref h9, .ref h10, .ref h11, .ref h12, .ref h13]), (h1, ob 4 [.int h1f0, .int h1f1, .int h1f2, .ref h14]), (h7, ob 3 [.ref h38, .ref h39, .ref h40, .ref h41, .ref h42, .ref h43, .ref h44, .ref h45, .int h7f8, .int h7f9, .int h7f10, .int h7f11]), (h9, ob 2 [.ref h1, .int h9f1]), (h12, aJ (k 1) 9 anJ), (h14, aJ (k 1) 36 anJ), (h38, aJ (k 1) 12000 anJ), (h39, aI (k 0) 400 anI), (h40, aI (k 0) 400 anI), (h41, aI (k 0) 400 anI), (h42, aI (k 0) 1600 anI), (h43, aI (k 0) 1024 anI), (h44, aI (k 0) 400 anI), (h45, aJ (k 1) 60 anJ)]) hx hb hml hown hU hK hT rfl rfl [0, 1, 2, 4, 5, 6, 7, 8, 9, 10, 11, 12, 13, 14] rfl (by decide) (cX10_countImage_54b83 l D k _ h0 h1 h7 h9 h12 h14 h38 h39 h40 h41 h42 h43 h44 h45 h2 h3 h4 h5 h6 h8 h10 h11 h13 x1 h0f2 h0f6 h0f8 h0f11 h1f0 h1f1 h1f2 h7f8 h7f9 h7f10 h7f11 h9f1 (by omega) (by omega) (by omega) (by omega) (by omega) (by omega) (by omega) (by omega) (by omega) (by omega) (by omega) (by omega)) w668 w665 w667 w21 w63 hdX10_countImage ⟨rfl, rfl⟩ ⟨Nat.le_of_ble_eq_true rfl, Nat.le_of_ble_eq_true rfl⟩ rfl hl.1 (Nat.le_of_ble_eq_true rfl) dX10_image_25 ⟨Nat.le_of_ble_eq_true rfl, Nat.le_of_ble_eq_true rfl⟩) hT hS hA [0, 1, 2, 4, 5, 6, 7, 8, 9, 10, 11, 12, 13, 14] [3] rfl rfl rfl (by decide) (by decide) (fun r39 H locs hB J hS => ?_)
      obtain ⟨v40, v41, v42, b_v40, b_v41, b_v42, b_r39, hT1⟩ := hB
      have hT := J _ hT1
      have hT : TP D A [(h8, aI (k 0) 8 anI), (h0, ob 7 [.ref h1, .ref h2, .int h0f2, .ref h3, .ref h4, .ref h5, .int h0f6, .ref h6, .int h0f8, .ref h7, .ref h8, .int h0f11, .ref h9, .ref h10, .ref h11, .ref h12, .ref h13]), (h1, ob 4 [.int h1f0, .int h1f1, .int h1f2, .ref h14]), (h7, ob 3 [.ref h38, .ref h39, .ref h40, .ref h41, .ref h42, .ref h43, .ref h44, .ref h45, .int v40, .int 400, .int v41, .int v42]), (h9, ob 2 [.ref h1, .int x1]), (h12, aJ (k 1) 9 anJ), (h14, aJ (k 1) 36 anJ), (h38, aJ (k 1) 12000 anJ), (h39, aI (k 0) 400 anI), (h40, aI (k 0) 400 anI), (h41, aI (k 0) 400 anI), (h42, aI (k 0) 1600 anI), (h43, aI (k 0) 1024 anI), (h44, aI (k 0) 400 anI), (h45, aJ (k 1) 60 anJ)] _ := hT
      refine tz_iast hx hb hK hT hS 0 rfl (by omega) (fun _ _ => trivial) dX10_image_28 (fun H locs hT hS => ?_)
      refine lv_aload_n hx hb dX10_image_29 rfl (lv_at hl 0 rfl) ?_
      refine tz_get (ci := 7) (v := .ref h8) (C := RX10) (F := TX10) (N := 17) hx hb hU iX10 hown hK hT 1 rfl rfl 10 (by decide) w259 (fun _ h9 => h9) rfl dX10_image_30 ?_
      refine lv_iload_n hx hb dX10_image_33 rfl (lv_at hl 1 rfl) ?_
      refine tz_iald hx hb hK hT 0 rfl (by omega) dX10_image_34 (fun v43 e_v43 => ?_)
      clear e_v43
      exact tz_retI (B := B_cX10_imageL_53bd6 D k h0 h1 h7 h8 h9 h12 h14 h38 h39 h40 h41 h42 h43 h44 h45 h2 h3 h4 h5 h6 h10 h11 h13 x1 h0f2 h0f6 h0f8 h0f11 h1f0 h1f1 h1f2 h7f8 h7f9 h7f10 h7f11 h9f1) (v := v43) hQ hx hb hr hlocks hS (Nat.le_of_ble_eq_true rfl) (Nat.le_of_ble_eq_true rfl) dX10_image_35 (⟨v40, 400, v41, v42, x1, (by have := li_400; omega), (by have := li_400; omega), (by have := li_400; omega), (by have := li_400; omega), (by have := li_400; omega), (hT.sub [1, 2, 3, 0, 4, 5, 6, 7, 8, 9, 10, 11, 12, 13, 14] (by decide) rfl)⟩)
abbrev Rm_cX11_faithfulL_a3187 : Room := { frames := 3, cells := 0, slots := 0, locals := 70 }
abbrev B_cX11_faithfulL_a3187 (D : va_G) (k : Nat → ClassId) (h0 h1 h4 h5 h6 h10 h11 h12 h13 h14 h2 h3 h7 h8 h9 h15 h16 h17 h18 h19 h20 h21 : Nat) (x1 : Int32) (h0f0 : Int32) (h0f1 : Int32) (h0f2 : Int32) (h0f3 : Int32) (h0f4 : Int32) (h0f5 : Int32) (h0f8 : Int32) (h0f9 : Int32) (h0f17 : Int32) (h0f18 : Int32) (h0f19 : Int32) (h0f24 : Int32) (h0f25 : Int32) (h0f30 : Int32) (h0f31 : Int32) (A : Nat → Prop) (r : Int32) (H : Heap) : Prop := ∃ o0 : Int32, ∃ o1 : Int32, ∃ o2 : Int32, (0 ≤ o0.toInt ∧ o0.toInt ≤ 1) ∧ (0 ≤ o1.toInt ∧ o1.toInt ≤ 100) ∧ (0 ≤ o2.toInt ∧ o2.toInt ≤ 1) ∧ ((-1) ≤ r.toInt ∧ r.toInt ≤ 1) ∧ (o0.toInt ≤ o1.toInt) ∧ TP D A [(h0, ob 8 [.int h0f0, .int h0f1, .int h0f2, .int h0f3, .int h0f4, .int h0f5, .ref h1, .ref h2, .int h0f8, .int o0, .ref h3, .ref h4, .ref h5, .ref h6, .ref h7, .ref h8, .ref h9, .int h0f17, .int h0f18, .int h0f19, .ref h10, .ref h11, .ref h12, .ref h13, .int o1, .int o2, .ref h14, .ref h15, .ref h16, .ref h17, .int h0f30, .int h0f31, .ref h18, .ref h19, .ref h20, .ref h21]), (h1, aI (k 0) 36 anI), (h4, aJ (k 1) 9 anJ), (h5, aJ (k 1) 9 anJ), (h6, aJ (k 1) 9 anJ), (h10, aJ (k 1) 900 (lsP (o0.toInt))), (h11, aI (k 0) 100 anI), (h12, aI (k 0) 100 anI), (h13, aI (k 0) 100 anI), (h14, aI (k 0) 400 anI)] H
set_option maxHeartbeats 4000000 in
set_option maxRecDepth 100000 in
theorem cX11_faithfulL_a3187 (l : Launch) (D : va_G) (k : Nat → ClassId) (sz : Nat) (h0 h1 h4 h5 h6 h10 h11 h12 h13 h14 h2 h3 h7 h8 h9 h15 h16 h17 h18 h19 h20 h21 : Nat) (x1 : Int32) (h0f0 : Int32) (h0f1 : Int32) (h0f2 : Int32) (h0f3 : Int32) (h0f4 : Int32) (h0f5 : Int32) (h0f8 : Int32) (h0f9 : Int32) (h0f17 : Int32) (h0f18 : Int32) (h0f19 : Int32) (h0f24 : Int32) (h0f25 : Int32) (h0f30 : Int32) (h0f31 : Int32) (b_h0f0 : 1 ≤ h0f0.toInt ∧ h0f0.toInt ≤ 3) (b_h0f1 : 0 ≤ h0f1.toInt ∧ h0f1.toInt ≤ 4) (b_h0f3 : 0 ≤ h0f3.toInt ∧ h0f3.toInt ≤ 3) (b_h0f4 : 0 ≤ h0f4.toInt ∧ h0f4.toInt ≤ 4) (b_h0f8 : 0 ≤ h0f8.toInt ∧ h0f8.toInt ≤ 1) (b_h0f9 : 0 ≤ h0f9.toInt ∧ h0f9.toInt ≤ 1) (b_h0f17 : 0 ≤ h0f17.toInt ∧ h0f17.toInt ≤ 120) (b_h0f18 : 0 ≤ h0f18.toInt ∧ h0f18.toInt ≤ 120) (b_h0f19 : 0 ≤ h0f19.toInt ∧ h0f19.toInt ≤ 4) (b_h0f24 : 0 ≤ h0f24.toInt ∧ h0f24.toInt ≤ 100) (b_h0f25 : 0 ≤ h0f25.toInt ∧ h0f25.toInt ≤ 1) (b_h0f30 : 0 ≤ h0f30.toInt ∧ h0f30.toInt ≤ 60) (b_h0f31 : 0 ≤ h0f31.toInt ∧ h0f31.toInt ≤ 1) (i_0 : h0f8.toInt ≤ h0f3.toInt) (i_1 : h0f9.toInt ≤ h0f24.toInt) : Met l yX11_faithful (Cond.code yX11_faithful cX11_faithful 5 (some .int) :: uw) Rm_cX11_faithfulL_a3187 (pT D k sz [.ref h0, .int x1] [(h0, ob 8 [.int h0f0, .int h0f1, .int h0f2, .int h0f3, .int h0f4, .int h0f5, .ref h1, .ref h2, .int h0f8, .int h0f9, .ref h3, .ref h4, .ref h5, .ref h6, .ref h7, .ref h8, .ref h9, .int h0f17, .int h0f18, .int h0f19, .ref h10, .ref h11, .ref h12, .ref h13, .int h0f24, .int h0f25, .ref h14, .ref h15, .ref h16, .ref h17, .int h0f30, .int h0f31, .ref h18, .ref h19, .ref h20, .ref h21]), (h1, aI (k 0) 36 anI), (h4, aJ (k 1) 9 anJ), (h5, aJ (k 1) 9 anJ), (h6, aJ (k 1) 9 anJ), (h10, aJ (k 1) 900 (lsP (h0f9.toInt))), (h11, aI (k 0) 100 anI), (h12, aI (k 0) 100 anI), (h13, aI (k 0) 100 anI), (h14, aI (k 0) 400 anI)]) (qI (B_cX11_faithfulL_a3187 D k h0 h1 h4 h5 h6 h10 h11 h12 h13 h14 h2 h3 h7 h8 h9 h15 h16 h17 h18 h19 h20 h21 x1 h0f0 h0f1 h0f2 h0f3 h0f4 h0f5 h0f8 h0f9 h0f17 h0f18 h0f19 h0f24 h0f25 h0f30 h0f31 (zA [h0, h1, h4, h5, h6, h10, h11, h12, h13, h14] sz)) (zA [h0, h1, h4, h5, h6, h10, h11, h12, h13, h14] sz)) 0 0 (zA [h0, h1, h4, h5, h6, h10, h11, h12, h13, h14] sz) := by
  refine tz_begin (as := [h0, h1, h4, h5, h6, h10, h11, h12, h13, h14]) (Qc := fun A => qI (B_cX11_faithfulL_a3187 D k h0 h1 h4 h5 h6 h10 h11 h12 h13 h14 h2 h3 h7 h8 h9 h15 h16 h17 h18 h19 h20 h21 x1 h0f0 h0f1 h0f2 h0f3 h0f4 h0f5 h0f8 h0f9 h0f17 h0f18 h0f19 h0f24 h0f25 h0f30 h0f31 A) A) (by decide +kernel) rfl (Nat.le_of_ble_eq_true rfl) ?_
  intro p e s m args below meth c ls A Q hx hb hr hml hown hlocks hin hU hK hT hS hA hl hQ
  have hl : lv_has ls 5 [(0, .ref h0), (1, .int x1)] := hl
  have hT : TP D A [(h0, ob 8 [.int h0f0, .int h0f1, .int h0f2, .int h0f3, .int h0f4, .int h0f5, .ref h1, .ref h2, .int h0f8, .int h0f9, .ref h3, .ref h4, .ref h5, .ref h6, .ref h7, .ref h8, .ref h9, .int h0f17, .int h0f18, .int h0f19, .ref h10, .ref h11, .ref h12, .ref h13, .int h0f24, .int h0f25, .ref h14, .ref h15, .ref h16, .ref h17, .int h0f30, .int h0f31, .ref h18, .ref h19, .ref h20, .ref h21]), (h1, aI (k 0) 36 anI), (h4, aJ (k 1) 9 anJ), (h5, aJ (k 1) 9 anJ), (h6, aJ (k 1) 9 anJ), (h10, aJ (k 1) 900 (lsP (h0f9.toInt))), (h11, aI (k 0) 100 anI), (h12, aI (k 0) 100 anI), (h13, aI (k 0) 100 anI), (h14, aI (k 0) 400 anI)] s.heap := hT
  have lp17_68 : ∀ (n : Nat) (y63 : Int32) (y64 : Int32) (y65 : Int32) (y66 : Int32) (y67 : Int32) (H : Heap) (locs : List Loc) (ls : Array Slot), (0 ≤ y63.toInt ∧ y63.toInt ≤ 100) → (0 ≤ y64.toInt ∧ y64.toInt ≤ 1) → (1 ≤ y65.toInt ∧ y65.toInt ≤ 1) → (1 ≤ y66.toInt ∧ y66.toInt ≤ 100) → (0 ≤ y67.toInt ∧ y67.toInt ≤ 1) → (2 ≤ x1.toInt ∧ x1.toInt ≤ 7) → (y65.toInt ≤ y66.toInt) → (y66.toInt + (-1) * y63.toInt + 1).toNat < n → TP D A [(h14, aI (k 0) 400 anI), (h0, ob 8 [.int h0f0, .int h0f1, .int h0f2, .int h0f3, .int h0f4, .int h0f5, .ref h1, .ref h2, .int h0f8, .int y65, .ref h3, .ref h4, .ref h5, .ref h6, .ref h7, .ref h8, .ref h9, .int h0f17, .int h0f18, .int h0f19, .ref h10, .ref h11, .ref h12, .ref h13, .int y66, .int y67, .ref h14, .ref h15, .ref h16, .ref h17, .int h0f30, .int h0f31, .ref h18, .ref h19, .ref h20, .ref h21]), (h1, aI (k 0) 36 anI), (h4, aJ (k 1) 9 anJ), (h5, aJ (k 1) 9 anJ), (h6, aJ (k 1) 9 anJ), (h10, aJ (k 1) 900 (lsP (y65.toInt))), (h11, aI (k 0) 100 anI), (h12, aI (k 0) 100 anI), (h13, aI (k 0) 100 anI)] H → va_S A s.heap H locs → lv_has ls 5 [(0, .ref h0), (1, .int x1), (2, .int y64), (3, .int y63)] → W p l e Rm_cX11_faithfulL_a3187 s m args below meth c H locs 0 0 Q (F0 m 17 ls []) := by
    intro n
    induction n with
    | zero => intro y63 y64 y65 y66 y67 H locs ls b_y63 b_y64 b_y65 b_y66 b_y67 b_x1 x_0 hm hT hS hl; exact absurd hm (Nat.not_lt_zero _)
    | succ n ih =>
      intro y63 y64 y65 y66 y67 H locs ls b_y63 b_y64 b_y65 b_y66 b_y67 b_x1 x_0 hm hT hS hl
      have ih17_68 := ih
      clear ih
      refine lv_iload_n hx hb dX11_faithful_17 rfl (lv_at hl 3 rfl) ?_
      refine lv_aload_n hx hb dX11_faithful_18 rfl (lv_at hl 0 rfl) ?_
      refine tz_get (ci := 8) (v := .int y66) (C := RX11) (F := TX11) (N := 36) hx hb hU iX11 hown hK hT 1 rfl rfl 24 (by decide) w809 (fun _ h9 => h9) rfl dX11_faithful_19 ?_
      refine lv_icmp_ge (tgt := 96) hx hb dX11_faithful_22 (by decide) (fun c_69 => ?_) (fun c_69 => ?_)
      · skip
        have c_69 := ni_le c_69 rfl rfl
        refine lv_iload_n hx hb dX11_faithful_96 rfl (lv_at hl 2 rfl) ?_
        refine lv_if_eq (tgt := 104) hx hb dX11_faithful_97 (by decide) (fun c_70 => ?_) (fun c_70 => ?_)
        · skip
          have c_70 := ni_eq c_70 rfl li_0
          refine lv_iconst (v := 0) hx hb dX11_faithful_104 (by decide) ?_
          exact tz_retI (B := B_cX11_faithfulL_a3187 D k h0 h1 h4 h5 h6 h10 h11 h12 h13 h14 h2 h3 h7 h8 h9 h15 h16 h17 h18 h19 h20 h21 x1 h0f0 h0f1 h0f2 h0f3 h0f4 h0f5 h0f8 h0f9 h0f17 h0f18 h0f19 h0f24 h0f25 h0f30 h0f31) (v := 0) hQ hx hb hr hlocks hS (Nat.le_of_ble_eq_true rfl) (Nat.le_of_ble_eq_true rfl) dX11_faithful_105 (⟨y65, y66, y67, (by have := li_0; omega), (by have := li_0; omega), (by have := li_0; omega), (by have := li_0; omega), (by have := li_0; omega), (hT.sub [1, 2, 3, 4, 5, 6, 7, 8, 9, 0] (by decide) rfl)⟩)
        · skip
          have c_70 := ni_ne c_70 rfl li_0
          refine lv_iconst (v := 1) hx hb dX11_faithful_100 (by decide) ?_
          refine lv_goto (tgt := 105) hx hb dX11_faithful_101 (by decide) ?_
          exact tz_retI (B := B_cX11_faithfulL_a3187 D k h0 h1 h4 h5 h6 h10 h11 h12 h13 h14 h2 h3 h7 h8 h9 h15 h16 h17 h18 h19 h20 h21 x1 h0f0 h0f1 h0f2 h0f3 h0f4 h0f5 h0f8 h0f9 h0f17 h0f18 h0f19 h0f24 h0f25 h0f30 h0f31) (v := 1) hQ hx hb hr hlocks hS (Nat.le_of_ble_eq_true rfl) (Nat.le_of_ble_eq_true rfl) dX11_faithful_105 (⟨y65, y66, y67, (by have := li_1; omega), (by have := li_1; omega), (by have := li_1; omega), (by have := li_1; omega), (by have := li_1; omega), (hT.sub [1, 2, 3, 4, 5, 6, 7, 8, 9, 0] (by decide) rfl)⟩)
      · skip
        have c_69 := ni_nle c_69 rfl rfl
        refine lv_aload_n hx hb dX11_faithful_25 rfl (lv_at hl 0 rfl) ?_
        refine lv_iload_n hx hb dX11_faithful_26 rfl (lv_at hl 3 rfl) ?_
        refine lv_aload_n hx hb dX11_faithful_27 rfl (lv_at hl 0 rfl) ?_
        refine tz_get (ci := 8) (v := .ref h4) (C := RX11) (F := TX11) (N := 36) hx hb hU iX11 hown hK hT 1 rfl rfl 11 (by decide) w796 (fun _ h9 => h9) rfl dX11_faithful_28 ?_
        refine tcV (Tc := [(h0, ob 8 [.int h0f0, .int h0f1, .int h0f2, .int h0f3, .int h0f4, .int h0f5, .ref h1, .ref h2, .int h0f8, .int y65, .ref h3, .ref h4, .ref h5, .ref h6, .ref h7, .ref h8, .ref h9, .int h0f17, .int h0f18, .int h0f19, .ref h10, .ref h11, .ref h12, .ref h13, .int y66, .int y67, .ref h14, .ref h15, .ref h16, .ref h17, .int h0f30, .int h0f31, .ref h18, .ref h19, .ref h20, .ref h21]), (h4, aJ (k 1) 9 anJ), (h10, aJ (k 1) 900 (lsP (y65.toInt)))]) (Tr := [(h14, aI (k 0) 400 anI), (h1, aI (k 0) 36 anI), (h5, aJ (k 1) 9 anJ), (h6, aJ (k 1) 9 anJ), (h11, aI (k 0) 100 anI), (h12, aI (k 0) 100 anI), (h13, aI (k 0) 100 anI)]) (as := [h0, h4, h10]) (zcV (q0 := 1) (ci := 8) (As := [.int y63, .ref h4]) (rest := []) (Tc := [(h0, ob 8 [.int h0f0, .int h0f1, .int h0f2, .int h0f3, .int h0f4, .int h0f5, .ref h1, .ref h2, .int h0f8, .int y65, .ref h3, .ref h4, .ref h5, .ref h6, .ref h7, .ref h8, .ref h9, .int h0f17, .int h0f18, .int h0f19, .ref h10, .ref h11, .ref h12, .ref h13, .int y66, .int y67, .ref h14, .ref h15, .ref h16, .ref h17, .int h0f30, .int h0f31, .ref h18, .ref h19, .ref h20, .ref h21]), (h4, aJ (k 1) 9 anJ), (h10, aJ (k 1) 900 (lsP (y65.toInt)))]) hx hb hml hown hU hK hT rfl rfl [1, 3, 6] rfl (by decide) (cX11_takesElement_3b10e l D k _ h0 h4 h10 h1 h2 h3 h5 h6 h7 h8 h9 h11 h12 h13 h14 h15 h16 h17 h18 h19 h20 h21 y63 h0f0 h0f1 h0f2 h0f3 h0f4 h0f5 h0f8 y65 h0f17 h0f18 h0f19 y66 y67 h0f30 h0f31 (by omega) (by omega) (by omega) (by omega) (by omega) (by omega) (by omega) (by omega) (by omega) (by omega) (by omega) (by omega) (by omega) (by omega) (by omega) (by omega)) w1047 w1044 w1046 w49 w72 hdX11_takesElement ⟨rfl, rfl⟩ ⟨Nat.le_of_ble_eq_true rfl, Nat.le_of_ble_eq_true rfl⟩ rfl hl.1 (Nat.le_of_ble_eq_true rfl) dX11_faithful_31 ⟨Nat.le_of_ble_eq_true rfl, Nat.le_of_ble_eq_true rfl⟩) hT hS hA [1, 3, 6] [0, 2, 4, 5, 7, 8, 9] rfl rfl rfl (by decide) (by decide) (fun H locs hB J hS => ?_)
        have hT1 := hB
        have hT := J _ hT1
        have hT : TP D A [(h14, aI (k 0) 400 anI), (h1, aI (k 0) 36 anI), (h5, aJ (k 1) 9 anJ), (h6, aJ (k 1) 9 anJ), (h11, aI (k 0) 100 anI), (h12, aI (k 0) 100 anI), (h13, aI (k 0) 100 anI), (h0, ob 8 [.int h0f0, .int h0f1, .int h0f2, .int h0f3, .int h0f4, .int h0f5, .ref h1, .ref h2, .int h0f8, .int y65, .ref h3, .ref h4, .ref h5, .ref h6, .ref h7, .ref h8, .ref h9, .int h0f17, .int h0f18, .int h0f19, .ref h10, .ref h11, .ref h12, .ref h13, .int y66, .int y67, .ref h14, .ref h15, .ref h16, .ref h17, .int h0f30, .int h0f31, .ref h18, .ref h19, .ref h20, .ref h21]), (h4, aJ (k 1) 9 anJ), (h10, aJ (k 1) 900 (lsP (y65.toInt)))] _ := hT
        refine lv_aload_n hx hb dX11_faithful_34 rfl (lv_at hl 0 rfl) ?_
        refine tz_get (ci := 8) (v := .ref h14) (C := RX11) (F := TX11) (N := 36) hx hb hU iX11 hown hK hT 7 rfl rfl 26 (by decide) w811 (fun _ h9 => h9) rfl dX11_faithful_35 ?_
        refine lv_iload_n hx hb dX11_faithful_38 rfl (lv_at hl 3 rfl) ?_
        refine lv_aload_n hx hb dX11_faithful_39 rfl (lv_at hl 0 rfl) ?_
        refine lv_aload_n hx hb dX11_faithful_40 rfl (lv_at hl 0 rfl) ?_
        refine tz_get (ci := 8) (v := .ref h4) (C := RX11) (F := TX11) (N := 36) hx hb hU iX11 hown hK hT 7 rfl rfl 11 (by decide) w796 (fun _ h9 => h9) rfl dX11_faithful_41 ?_
        refine lv_iload_n hx hb dX11_faithful_44 rfl (lv_at hl 1 rfl) ?_
        refine tcI (Tc := [(h0, ob 8 [.int h0f0, .int h0f1, .int h0f2, .int h0f3, .int h0f4, .int h0f5, .ref h1, .ref h2, .int h0f8, .int y65, .ref h3, .ref h4, .ref h5, .ref h6, .ref h7, .ref h8, .ref h9, .int h0f17, .int h0f18, .int h0f19, .ref h10, .ref h11, .ref h12, .ref h13, .int y66, .int y67, .ref h14, .ref h15, .ref h16, .ref h17, .int h0f30, .int h0f31, .ref h18, .ref h19, .ref h20, .ref h21]), (h4, aJ (k 1) 9 anJ)]) (Tr := [(h14, aI (k 0) 400 anI), (h1, aI (k 0) 36 anI), (h5, aJ (k 1) 9 anJ), (h6, aJ (k 1) 9 anJ), (h11, aI (k 0) 100 anI), (h12, aI (k 0) 100 anI), (h13, aI (k 0) 100 anI), (h10, aJ (k 1) 900 (lsP (y65.toInt)))]) (as := [h0, h4]) (zcV (q0 := 7) (ci := 8) (As := [.ref h4, .int x1]) (rest := [.int y63, .ref h14]) (Tc := [(h0, ob 8 [.int h0f0, .int h0f1, .int h0f2, .int h0f3, .int h0f4, .int h0f5, .ref h1, .ref h2, .int h0f8, .int y65, .ref h3, .ref h4, .ref h5, .ref h6, .ref h7, .ref h8, .ref h9, .int h0f17, .int h0f18, .int h0f19, .ref h10, .ref h11, .ref h12, .ref h13, .int y66, .int y67, .ref h14, .ref h15, .ref h16, .ref h17, .int h0f30, .int h0f31, .ref h18, .ref h19, .ref h20, .ref h21]), (h4, aJ (k 1) 9 anJ)]) hx hb hml hown hU hK hT rfl rfl [7, 8] rfl (by decide) (cX11_told_6fc77 l D k _ h0 h4 h1 h2 h3 h5 h6 h7 h8 h9 h10 h11 h12 h13 h14 h15 h16 h17 h18 h19 h20 h21 x1 h0f0 h0f1 h0f2 h0f3 h0f4 h0f5 h0f8 y65 h0f17 h0f18 h0f19 y66 y67 h0f30 h0f31 (by omega) (by omega) (by omega) (by omega) (by omega) (by omega) (by omega) (by omega) (by omega) (by omega) (by omega) (by omega) (by omega) (by omega) (by omega) (by omega)) w1122 w1119 w1121 w55 w72 hdX11_told ⟨rfl, rfl⟩ ⟨Nat.le_of_ble_eq_true rfl, Nat.le_of_ble_eq_true rfl⟩ rfl hl.1 (Nat.le_of_ble_eq_true rfl) dX11_faithful_45 ⟨Nat.le_of_ble_eq_true rfl, Nat.le_of_ble_eq_true rfl⟩) hT hS hA [7, 8] [0, 1, 2, 3, 4, 5, 6, 9] rfl rfl rfl (by decide) (by decide) (fun r72 H locs hB J hS => ?_)
        have hT1 := hB
        have hT := J _ hT1
        have hT : TP D A [(h14, aI (k 0) 400 anI), (h1, aI (k 0) 36 anI), (h5, aJ (k 1) 9 anJ), (h6, aJ (k 1) 9 anJ), (h11, aI (k 0) 100 anI), (h12, aI (k 0) 100 anI), (h13, aI (k 0) 100 anI), (h10, aJ (k 1) 900 (lsP (y65.toInt))), (h0, ob 8 [.int h0f0, .int h0f1, .int h0f2, .int h0f3, .int h0f4, .int h0f5, .ref h1, .ref h2, .int h0f8, .int y65, .ref h3, .ref h4, .ref h5, .ref h6, .ref h7, .ref h8, .ref h9, .int h0f17, .int h0f18, .int h0f19, .ref h10, .ref h11, .ref h12, .ref h13, .int y66, .int y67, .ref h14, .ref h15, .ref h16, .ref h17, .int h0f30, .int h0f31, .ref h18, .ref h19, .ref h20, .ref h21]), (h4, aJ (k 1) 9 anJ)] _ := hT
        refine tz_iast hx hb hK hT hS 0 rfl (by omega) (fun _ _ => trivial) dX11_faithful_48 (fun H locs hT hS => ?_)
        refine lv_iconst (v := 0) hx hb dX11_faithful_49 (by decide) ?_
        refine lv_istore (lv' := [(4, .int 0), (0, .ref h0), (1, .int x1), (2, .int y64), (3, .int y63)]) hx hb dX11_faithful_50 hl (by decide) rfl (fun ls hl => ?_)
        have lp52_97 : ∀ (n : Nat) (y95 : Int32) (y96 : Int32) (H : Heap) (locs : List Loc) (ls : Array Slot), (0 ≤ y95.toInt ∧ y95.toInt ≤ 99) → (0 ≤ y96.toInt ∧ y96.toInt ≤ 1) → (y65.toInt ≤ y66.toInt) → (y63.toInt + (-1) * y95.toInt + 1).toNat < n → TP D A [(h14, aI (k 0) 400 anI), (h1, aI (k 0) 36 anI), (h5, aJ (k 1) 9 anJ), (h6, aJ (k 1) 9 anJ), (h11, aI (k 0) 100 anI), (h12, aI (k 0) 100 anI), (h13, aI (k 0) 100 anI), (h10, aJ (k 1) 900 (lsP (y65.toInt))), (h0, ob 8 [.int h0f0, .int h0f1, .int h0f2, .int h0f3, .int h0f4, .int h0f5, .ref h1, .ref h2, .int h0f8, .int y65, .ref h3, .ref h4, .ref h5, .ref h6, .ref h7, .ref h8, .ref h9, .int h0f17, .int h0f18, .int h0f19, .ref h10, .ref h11, .ref h12, .ref h13, .int y66, .int y67, .ref h14, .ref h15, .ref h16, .ref h17, .int h0f30, .int h0f31, .ref h18, .ref h19, .ref h20, .ref h21]), (h4, aJ (k 1) 9 anJ)] H → va_S A s.heap H locs → lv_has ls 5 [(0, .ref h0), (1, .int x1), (2, .int y96), (3, .int y63), (4, .int y95)] → W p l e Rm_cX11_faithfulL_a3187 s m args below meth c H locs 0 0 Q (F0 m 52 ls []) := by
          intro n
          induction n with
          | zero => intro y95 y96 H locs ls b_y95 b_y96 x_0 hm hT hS hl; exact absurd hm (Nat.not_lt_zero _)
          | succ n ih =>
            intro y95 y96 H locs ls b_y95 b_y96 x_0 hm hT hS hl
            have ih52_97 := ih
            clear ih
            refine lv_iload hx hb dX11_faithful_52 (lv_at hl 4 rfl) ?_
            refine lv_iload_n hx hb dX11_faithful_54 rfl (lv_at hl 3 rfl) ?_
            refine lv_icmp_ge (tgt := 90) hx hb dX11_faithful_55 (by decide) (fun c_98 => ?_) (fun c_98 => ?_)
            · skip
              have c_98 := ni_le c_98 rfl rfl
              obtain ⟨v99, e_v99⟩ : ∃ x : Int32, x = y63 + Int32.ofInt 1 := ⟨_, rfl⟩
              have f_v99 := e_v99.symm
              have e_v99 : v99.toInt = y63.toInt + 1 := ai_add e_v99 rfl (show (Int32.ofInt 1).toInt = 1 from (by decide +kernel)) (by omega)
              refine lv_iinc (v := v99) (lv' := [(3, .int v99), (0, .ref h0), (1, .int x1), (2, .int y96), (4, .int y95)]) hx hb dX11_faithful_90 hl (k := 3) rfl f_v99 (by decide) rfl (fun ls hl => ?_)
              refine lv_goto (tgt := 17) hx hb dX11_faithful_93 (by decide) ?_
              exact ih17_68 v99 y96 y65 y66 y67 _ _ _ (by omega) (by omega) (by omega) (by omega) (by omega) (by omega) (by omega) (by omega) (hT.sub [0, 8, 1, 9, 2, 3, 7, 4, 5, 6] (by decide) rfl) hS (lv_sub hl [1, 2, 3, 0] rfl)
            · skip
              have c_98 := ni_nle c_98 rfl rfl
              refine lv_iload_n hx hb dX11_faithful_58 rfl (lv_at hl 2 rfl) ?_
              refine lv_if_eq (tgt := 82) hx hb dX11_faithful_59 (by decide) (fun c_100 => ?_) (fun c_100 => ?_)
              · skip
                have c_100 := ni_eq c_100 rfl li_0
                refine lv_iconst (v := 0) hx hb dX11_faithful_82 (by decide) ?_
                refine lv_istore_n (lv' := [(2, .int 0), (0, .ref h0), (1, .int x1), (3, .int y63), (4, .int y95)]) hx hb dX11_faithful_83 rfl hl (by decide) rfl (fun ls hl => ?_)
                obtain ⟨v101, e_v101⟩ : ∃ x : Int32, x = y95 + Int32.ofInt 1 := ⟨_, rfl⟩
                have f_v101 := e_v101.symm
                have e_v101 : v101.toInt = y95.toInt + 1 := ai_add e_v101 rfl (show (Int32.ofInt 1).toInt = 1 from (by decide +kernel)) (by omega)
                refine lv_iinc (v := v101) (lv' := [(4, .int v101), (2, .int 0), (0, .ref h0), (1, .int x1), (3, .int y63)]) hx hb dX11_faithful_84 hl (k := 4) rfl f_v101 (by decide) rfl (fun ls hl => ?_)
                refine lv_goto (tgt := 52) hx hb dX11_faithful_87 (by decide) ?_
                exact ih52_97 v101 (0) _ _ _ (by have := li_0; omega) (by have := li_0; omega) (by have := li_0; omega) (by have := li_0; omega) hT hS (lv_sub hl [2, 3, 1, 4, 0] rfl)
              · skip
                have c_100 := ni_ne c_100 rfl li_0
                refine lv_aload_n hx hb dX11_faithful_62 rfl (lv_at hl 0 rfl) ?_
                refine tz_get (ci := 8) (v := .ref h14) (C := RX11) (F := TX11) (N := 36) hx hb hU iX11 hown hK hT 8 rfl rfl 26 (by decide) w811 (fun _ h9 => h9) rfl dX11_faithful_63 ?_
                refine lv_iload hx hb dX11_faithful_66 (lv_at hl 4 rfl) ?_
                refine tz_iald hx hb hK hT 0 rfl (by omega) dX11_faithful_68 (fun v102 e_v102 => ?_)
                clear e_v102
                refine lv_aload_n hx hb dX11_faithful_69 rfl (lv_at hl 0 rfl) ?_
                refine tz_get (ci := 8) (v := .ref h14) (C := RX11) (F := TX11) (N := 36) hx hb hU iX11 hown hK hT 8 rfl rfl 26 (by decide) w811 (fun _ h9 => h9) rfl dX11_faithful_70 ?_
                refine lv_iload_n hx hb dX11_faithful_73 rfl (lv_at hl 3 rfl) ?_
                refine tz_iald hx hb hK hT 0 rfl (by omega) dX11_faithful_74 (fun v103 e_v103 => ?_)
                clear e_v103
                refine lv_icmp_eq (tgt := 82) hx hb dX11_faithful_75 (by decide) (fun c_104 => ?_) (fun c_104 => ?_)
                · skip
                  have c_104 := ni_eq c_104 rfl rfl
                  refine lv_iconst (v := 0) hx hb dX11_faithful_82 (by decide) ?_
                  refine lv_istore_n (lv' := [(2, .int 0), (0, .ref h0), (1, .int x1), (3, .int y63), (4, .int y95)]) hx hb dX11_faithful_83 rfl hl (by decide) rfl (fun ls hl => ?_)
                  obtain ⟨v105, e_v105⟩ : ∃ x : Int32, x = y95 + Int32.ofInt 1 := ⟨_, rfl⟩
                  have f_v105 := e_v105.symm
                  have e_v105 : v105.toInt = y95.toInt + 1 := ai_add e_v105 rfl (show (Int32.ofInt 1).toInt = 1 from (by decide +kernel)) (by omega)
                  refine lv_iinc (v := v105) (lv' := [(4, .int v105), (2, .int 0), (0, .ref h0), (1, .int x1), (3, .int y63)]) hx hb dX11_faithful_84 hl (k := 4) rfl f_v105 (by decide) rfl (fun ls hl => ?_)
                  refine lv_goto (tgt := 52) hx hb dX11_faithful_87 (by decide) ?_
                  exact ih52_97 v105 (0) _ _ _ (by have := li_0; omega) (by have := li_0; omega) (by have := li_0; omega) (by have := li_0; omega) hT hS (lv_sub hl [2, 3, 1, 4, 0] rfl)
                · skip
                  have c_104 := ni_ne c_104 rfl rfl
                  refine lv_iconst (v := 1) hx hb dX11_faithful_78 (by decide) ?_
                  refine lv_goto (tgt := 83) hx hb dX11_faithful_79 (by decide) ?_
                  refine lv_istore_n (lv' := [(2, .int 1), (0, .ref h0), (1, .int x1), (3, .int y63), (4, .int y95)]) hx hb dX11_faithful_83 rfl hl (by decide) rfl (fun ls hl => ?_)
                  obtain ⟨v106, e_v106⟩ : ∃ x : Int32, x = y95 + Int32.ofInt 1 := ⟨_, rfl⟩
                  have f_v106 := e_v106.symm
                  have e_v106 : v106.toInt = y95.toInt + 1 := ai_add e_v106 rfl (show (Int32.ofInt 1).toInt = 1 from (by decide +kernel)) (by omega)
                  refine lv_iinc (v := v106) (lv' := [(4, .int v106), (2, .int 1), (0, .ref h0), (1, .int x1), (3, .int y63)]) hx hb dX11_faithful_84 hl (k := 4) rfl f_v106 (by decide) rfl (fun ls hl => ?_)
                  refine lv_goto (tgt := 52) hx hb dX11_faithful_87 (by decide) ?_
                  exact ih52_97 v106 (1) _ _ _ (by have := li_1; omega) (by have := li_1; omega) (by have := li_1; omega) (by have := li_1; omega) hT hS (lv_sub hl [2, 3, 1, 4, 0] rfl)
        exact lp52_97 ((y63.toInt + (-1) * (0 : Int32).toInt + 1).toNat + 1) (0) y64 _ _ _ (by have := li_0; omega) (by have := li_0; omega) (by have := li_0; omega) (Nat.lt_succ_self _) hT hS (lv_sub hl [1, 2, 3, 4, 0] rfl)
  refine lv_iload_n hx hb dX11_faithful_0 rfl (lv_at hl 1 rfl) ?_
  refine tcI (Tc := []) (Tr := [(h0, ob 8 [.int h0f0, .int h0f1, .int h0f2, .int h0f3, .int h0f4, .int h0f5, .ref h1, .ref h2, .int h0f8, .int h0f9, .ref h3, .ref h4, .ref h5, .ref h6, .ref h7, .ref h8, .ref h9, .int h0f17, .int h0f18, .int h0f19, .ref h10, .ref h11, .ref h12, .ref h13, .int h0f24, .int h0f25, .ref h14, .ref h15, .ref h16, .ref h17, .int h0f30, .int h0f31, .ref h18, .ref h19, .ref h20, .ref h21]), (h1, aI (k 0) 36 anI), (h4, aJ (k 1) 9 anJ), (h5, aJ (k 1) 9 anJ), (h6, aJ (k 1) 9 anJ), (h10, aJ (k 1) 900 (lsP (h0f9.toInt))), (h11, aI (k 0) 100 anI), (h12, aI (k 0) 100 anI), (h13, aI (k 0) 100 anI), (h14, aI (k 0) 400 anI)]) (as := []) (zcS (As := [.int x1]) (rest := []) (Tc := []) hx hb hml hown hU hK hT [] rfl (by decide) (cX11_isPrime_f19f2 l D k _ x1) w1118 w1116 w1117 w72 hdX11_isPrime ⟨rfl, rfl⟩ ⟨Nat.le_of_ble_eq_true rfl, Nat.le_of_ble_eq_true rfl⟩ rfl hl.1 (Nat.le_of_ble_eq_true rfl) dX11_faithful_1 ⟨Nat.le_of_ble_eq_true rfl, Nat.le_of_ble_eq_true rfl⟩) hT hS hA [] [0, 1, 2, 3, 4, 5, 6, 7, 8, 9] rfl rfl rfl (by decide) (by decide) (fun r107 H locs hB J hS => ?_)
  rcases hB with ⟨c_108, rfl, hT1⟩ | ⟨c_109, c_110, rfl, hT1⟩ | ⟨c_111, c_112, c_113, rfl, hT1⟩ | ⟨rfl, hT1⟩ | ⟨c_114, c_115, c_116, c_117, rfl, hT1⟩
  · skip
    have hT := J _ hT1
    have hT : TP D A [(h0, ob 8 [.int h0f0, .int h0f1, .int h0f2, .int h0f3, .int h0f4, .int h0f5, .ref h1, .ref h2, .int h0f8, .int h0f9, .ref h3, .ref h4, .ref h5, .ref h6, .ref h7, .ref h8, .ref h9, .int h0f17, .int h0f18, .int h0f19, .ref h10, .ref h11, .ref h12, .ref h13, .int h0f24, .int h0f25, .ref h14, .ref h15, .ref h16, .ref h17, .int h0f30, .int h0f31, .ref h18, .ref h19, .ref h20, .ref h21]), (h1, aI (k 0) 36 anI), (h4, aJ (k 1) 9 anJ), (h5, aJ (k 1) 9 anJ), (h6, aJ (k 1) 9 anJ), (h10, aJ (k 1) 900 (lsP (h0f9.toInt))), (h11, aI (k 0) 100 anI), (h12, aI (k 0) 100 anI), (h13, aI (k 0) 100 anI), (h14, aI (k 0) 400 anI)] _ := hT
    refine lv_if_ne (tgt := 9) hx hb dX11_faithful_4 (by decide) (fun _ => ?_) (fun cc => absurd cc (by decide +kernel))
    refine lv_aload_n hx hb dX11_faithful_9 rfl (lv_at hl 0 rfl) ?_
    refine tcV (Tc := [(h0, ob 8 [.int h0f0, .int h0f1, .int h0f2, .int h0f3, .int h0f4, .int h0f5, .ref h1, .ref h2, .int h0f8, .int h0f9, .ref h3, .ref h4, .ref h5, .ref h6, .ref h7, .ref h8, .ref h9, .int h0f17, .int h0f18, .int h0f19, .ref h10, .ref h11, .ref h12, .ref h13, .int h0f24, .int h0f25, .ref h14, .ref h15, .ref h16, .ref h17, .int h0f30, .int h0f31, .ref h18, .ref h19, .ref h20, .ref h21]), (h1, aI (k 0) 36 anI), (h4, aJ (k 1) 9 anJ), (h5, aJ (k 1) 9 anJ), (h6, aJ (k 1) 9 anJ), (h10, aJ (k 1) 900 (lsP (h0f9.toInt))), (h11, aI (k 0) 100 anI), (h12, aI (k 0) 100 anI), (h13, aI (k 0) 100 anI)]) (Tr := [(h14, aI (k 0) 400 anI)]) (as := [h0, h1, h4, h5, h6, h10, h11, h12, h13]) (zcV (q0 := 0) (ci := 8) (As := []) (rest := []) (Tc := [(h0, ob 8 [.int h0f0, .int h0f1, .int h0f2, .int h0f3, .int h0f4, .int h0f5, .ref h1, .ref h2, .int h0f8, .int h0f9, .ref h3, .ref h4, .ref h5, .ref h6, .ref h7, .ref h8, .ref h9, .int h0f17, .int h0f18, .int h0f19, .ref h10, .ref h11, .ref h12, .ref h13, .int h0f24, .int h0f25, .ref h14, .ref h15, .ref h16, .ref h17, .int h0f30, .int h0f31, .ref h18, .ref h19, .ref h20, .ref h21]), (h1, aI (k 0) 36 anI), (h4, aJ (k 1) 9 anJ), (h5, aJ (k 1) 9 anJ), (h6, aJ (k 1) 9 anJ), (h10, aJ (k 1) 900 (lsP (h0f9.toInt))), (h11, aI (k 0) 100 anI), (h12, aI (k 0) 100 anI), (h13, aI (k 0) 100 anI)]) hx hb hml hown hU hK hT rfl rfl [0, 1, 2, 3, 4, 5, 6, 7, 8] rfl (by decide) (cX11_findList_9a1c7 l D k _ h0 h1 h4 h5 h6 h10 h11 h12 h13 h2 h3 h7 h8 h9 h14 h15 h16 h17 h18 h19 h20 h21 h0f0 h0f1 h0f2 h0f3 h0f4 h0f5 h0f8 h0f9 h0f17 h0f18 h0f19 h0f24 h0f25 h0f30 h0f31 (by omega) (by omega) (by omega) (by omega) (by omega) (by omega) (by omega) (by omega) (by omega) (by omega) (by omega) (by omega) (by omega) (by omega) (by omega)) w1039 w1036 w1038 w47 w72 hdX11_findList ⟨rfl, rfl⟩ ⟨Nat.le_of_ble_eq_true rfl, Nat.le_of_ble_eq_true rfl⟩ rfl hl.1 (Nat.le_of_ble_eq_true rfl) dX11_faithful_10 ⟨Nat.le_of_ble_eq_true rfl, Nat.le_of_ble_eq_true rfl⟩) hT hS hA [0, 1, 2, 3, 4, 5, 6, 7, 8] [9] rfl rfl rfl (by decide) (by decide) (fun H locs hB J hS => ?_)
    obtain ⟨v119, v120, v121, b_v119, b_v120, b_v121, hT1⟩ := hB
    have hT := J _ hT1
    have hT : TP D A [(h14, aI (k 0) 400 anI), (h0, ob 8 [.int h0f0, .int h0f1, .int h0f2, .int h0f3, .int h0f4, .int h0f5, .ref h1, .ref h2, .int h0f8, .int v119, .ref h3, .ref h4, .ref h5, .ref h6, .ref h7, .ref h8, .ref h9, .int h0f17, .int h0f18, .int h0f19, .ref h10, .ref h11, .ref h12, .ref h13, .int v120, .int v121, .ref h14, .ref h15, .ref h16, .ref h17, .int h0f30, .int h0f31, .ref h18, .ref h19, .ref h20, .ref h21]), (h1, aI (k 0) 36 anI), (h4, aJ (k 1) 9 anJ), (h5, aJ (k 1) 9 anJ), (h6, aJ (k 1) 9 anJ), (h10, aJ (k 1) 900 (lsP (v119.toInt))), (h11, aI (k 0) 100 anI), (h12, aI (k 0) 100 anI), (h13, aI (k 0) 100 anI)] _ := hT
    refine lv_iconst (v := 1) hx hb dX11_faithful_13 (by decide) ?_
    refine lv_istore_n (lv' := [(2, .int 1), (0, .ref h0), (1, .int x1)]) hx hb dX11_faithful_14 rfl hl (by decide) rfl (fun ls hl => ?_)
    refine lv_iconst (v := 0) hx hb dX11_faithful_15 (by decide) ?_
    refine lv_istore_n (lv' := [(3, .int 0), (2, .int 1), (0, .ref h0), (1, .int x1)]) hx hb dX11_faithful_16 rfl hl (by decide) rfl (fun ls hl => ?_)
    exact lp17_68 ((v120.toInt + (-1) * (0 : Int32).toInt + 1).toNat + 1) (0) (1) v119 v120 v121 _ _ _ (by have := li_0; have := li_1; omega) (by have := li_0; have := li_1; omega) (by have := li_0; have := li_1; omega) (by have := li_0; have := li_1; omega) (by have := li_0; have := li_1; omega) (by have := li_0; have := li_1; omega) (by have := li_0; have := li_1; omega) (Nat.lt_succ_self _) hT hS (lv_sub hl [2, 3, 1, 0] rfl)
  · skip
    have hT := J _ hT1
    have hT : TP D A [(h0, ob 8 [.int h0f0, .int h0f1, .int h0f2, .int h0f3, .int h0f4, .int h0f5, .ref h1, .ref h2, .int h0f8, .int h0f9, .ref h3, .ref h4, .ref h5, .ref h6, .ref h7, .ref h8, .ref h9, .int h0f17, .int h0f18, .int h0f19, .ref h10, .ref h11, .ref h12, .ref h13, .int h0f24, .int h0f25, .ref h14, .ref h15, .ref h16, .ref h17, .int h0f30, .int h0f31, .ref h18, .ref h19, .ref h20, .ref h21]), (h1, aI (k 0) 36 anI), (h4, aJ (k 1) 9 anJ), (h5, aJ (k 1) 9 anJ), (h6, aJ (k 1) 9 anJ), (h10, aJ (k 1) 900 (lsP (h0f9.toInt))), (h11, aI (k 0) 100 anI), (h12, aI (k 0) 100 anI), (h13, aI (k 0) 100 anI), (h14, aI (k 0) 400 anI)] _ := hT
    refine lv_if_ne (tgt := 9) hx hb dX11_faithful_4 (by decide) (fun _ => ?_) (fun cc => absurd cc (by decide +kernel))
    refine lv_aload_n hx hb dX11_faithful_9 rfl (lv_at hl 0 rfl) ?_
    refine tcV (Tc := [(h0, ob 8 [.int h0f0, .int h0f1, .int h0f2, .int h0f3, .int h0f4, .int h0f5, .ref h1, .ref h2, .int h0f8, .int h0f9, .ref h3, .ref h4, .ref h5, .ref h6, .ref h7, .ref h8, .ref h9, .int h0f17, .int h0f18, .int h0f19, .ref h10, .ref h11, .ref h12, .ref h13, .int h0f24, .int h0f25, .ref h14, .ref h15, .ref h16, .ref h17, .int h0f30, .int h0f31, .ref h18, .ref h19, .ref h20, .ref h21]), (h1, aI (k 0) 36 anI), (h4, aJ (k 1) 9 anJ), (h5, aJ (k 1) 9 anJ), (h6, aJ (k 1) 9 anJ), (h10, aJ (k 1) 900 (lsP (h0f9.toInt))), (h11, aI (k 0) 100 anI), (h12, aI (k 0) 100 anI), (h13, aI (k 0) 100 anI)]) (Tr := [(h14, aI (k 0) 400 anI)]) (as := [h0, h1, h4, h5, h6, h10, h11, h12, h13]) (zcV (q0 := 0) (ci := 8) (As := []) (rest := []) (Tc := [(h0, ob 8 [.int h0f0, .int h0f1, .int h0f2, .int h0f3, .int h0f4, .int h0f5, .ref h1, .ref h2, .int h0f8, .int h0f9, .ref h3, .ref h4, .ref h5, .ref h6, .ref h7, .ref h8, .ref h9, .int h0f17, .int h0f18, .int h0f19, .ref h10, .ref h11, .ref h12, .ref h13, .int h0f24, .int h0f25, .ref h14, .ref h15, .ref h16, .ref h17, .int h0f30, .int h0f31, .ref h18, .ref h19, .ref h20, .ref h21]), (h1, aI (k 0) 36 anI), (h4, aJ (k 1) 9 anJ), (h5, aJ (k 1) 9 anJ), (h6, aJ (k 1) 9 anJ), (h10, aJ (k 1) 900 (lsP (h0f9.toInt))), (h11, aI (k 0) 100 anI), (h12, aI (k 0) 100 anI), (h13, aI (k 0) 100 anI)]) hx hb hml hown hU hK hT rfl rfl [0, 1, 2, 3, 4, 5, 6, 7, 8] rfl (by decide) (cX11_findList_9a1c7 l D k _ h0 h1 h4 h5 h6 h10 h11 h12 h13 h2 h3 h7 h8 h9 h14 h15 h16 h17 h18 h19 h20 h21 h0f0 h0f1 h0f2 h0f3 h0f4 h0f5 h0f8 h0f9 h0f17 h0f18 h0f19 h0f24 h0f25 h0f30 h0f31 (by omega) (by omega) (by omega) (by omega) (by omega) (by omega) (by omega) (by omega) (by omega) (by omega) (by omega) (by omega) (by omega) (by omega) (by omega)) w1039 w1036 w1038 w47 w72 hdX11_findList ⟨rfl, rfl⟩ ⟨Nat.le_of_ble_eq_true rfl, Nat.le_of_ble_eq_true rfl⟩ rfl hl.1 (Nat.le_of_ble_eq_true rfl) dX11_faithful_10 ⟨Nat.le_of_ble_eq_true rfl, Nat.le_of_ble_eq_true rfl⟩) hT hS hA [0, 1, 2, 3, 4, 5, 6, 7, 8] [9] rfl rfl rfl (by decide) (by decide) (fun H locs hB J hS => ?_)
    obtain ⟨v123, v124, v125, b_v123, b_v124, b_v125, hT1⟩ := hB
    have hT := J _ hT1
    have hT : TP D A [(h14, aI (k 0) 400 anI), (h0, ob 8 [.int h0f0, .int h0f1, .int h0f2, .int h0f3, .int h0f4, .int h0f5, .ref h1, .ref h2, .int h0f8, .int v123, .ref h3, .ref h4, .ref h5, .ref h6, .ref h7, .ref h8, .ref h9, .int h0f17, .int h0f18, .int h0f19, .ref h10, .ref h11, .ref h12, .ref h13, .int v124, .int v125, .ref h14, .ref h15, .ref h16, .ref h17, .int h0f30, .int h0f31, .ref h18, .ref h19, .ref h20, .ref h21]), (h1, aI (k 0) 36 anI), (h4, aJ (k 1) 9 anJ), (h5, aJ (k 1) 9 anJ), (h6, aJ (k 1) 9 anJ), (h10, aJ (k 1) 900 (lsP (v123.toInt))), (h11, aI (k 0) 100 anI), (h12, aI (k 0) 100 anI), (h13, aI (k 0) 100 anI)] _ := hT
    refine lv_iconst (v := 1) hx hb dX11_faithful_13 (by decide) ?_
    refine lv_istore_n (lv' := [(2, .int 1), (0, .ref h0), (1, .int x1)]) hx hb dX11_faithful_14 rfl hl (by decide) rfl (fun ls hl => ?_)
    refine lv_iconst (v := 0) hx hb dX11_faithful_15 (by decide) ?_
    refine lv_istore_n (lv' := [(3, .int 0), (2, .int 1), (0, .ref h0), (1, .int x1)]) hx hb dX11_faithful_16 rfl hl (by decide) rfl (fun ls hl => ?_)
    exact lp17_68 ((v124.toInt + (-1) * (0 : Int32).toInt + 1).toNat + 1) (0) (1) v123 v124 v125 _ _ _ (by have := li_0; have := li_1; omega) (by have := li_0; have := li_1; omega) (by have := li_0; have := li_1; omega) (by have := li_0; have := li_1; omega) (by have := li_0; have := li_1; omega) (by have := li_0; have := li_1; omega) (by have := li_0; have := li_1; omega) (Nat.lt_succ_self _) hT hS (lv_sub hl [2, 3, 1, 0] rfl)
  · skip
    have hT := J _ hT1
    have hT : TP D A [(h0, ob 8 [.int h0f0, .int h0f1, .int h0f2, .int h0f3, .int h0f4, .int h0f5, .ref h1, .ref h2, .int h0f8, .int h0f9, .ref h3, .ref h4, .ref h5, .ref h6, .ref h7, .ref h8, .ref h9, .int h0f17, .int h0f18, .int h0f19, .ref h10, .ref h11, .ref h12, .ref h13, .int h0f24, .int h0f25, .ref h14, .ref h15, .ref h16, .ref h17, .int h0f30, .int h0f31, .ref h18, .ref h19, .ref h20, .ref h21]), (h1, aI (k 0) 36 anI), (h4, aJ (k 1) 9 anJ), (h5, aJ (k 1) 9 anJ), (h6, aJ (k 1) 9 anJ), (h10, aJ (k 1) 900 (lsP (h0f9.toInt))), (h11, aI (k 0) 100 anI), (h12, aI (k 0) 100 anI), (h13, aI (k 0) 100 anI), (h14, aI (k 0) 400 anI)] _ := hT
    refine lv_if_ne (tgt := 9) hx hb dX11_faithful_4 (by decide) (fun _ => ?_) (fun cc => absurd cc (by decide +kernel))
    refine lv_aload_n hx hb dX11_faithful_9 rfl (lv_at hl 0 rfl) ?_
    refine tcV (Tc := [(h0, ob 8 [.int h0f0, .int h0f1, .int h0f2, .int h0f3, .int h0f4, .int h0f5, .ref h1, .ref h2, .int h0f8, .int h0f9, .ref h3, .ref h4, .ref h5, .ref h6, .ref h7, .ref h8, .ref h9, .int h0f17, .int h0f18, .int h0f19, .ref h10, .ref h11, .ref h12, .ref h13, .int h0f24, .int h0f25, .ref h14, .ref h15, .ref h16, .ref h17, .int h0f30, .int h0f31, .ref h18, .ref h19, .ref h20, .ref h21]), (h1, aI (k 0) 36 anI), (h4, aJ (k 1) 9 anJ), (h5, aJ (k 1) 9 anJ), (h6, aJ (k 1) 9 anJ), (h10, aJ (k 1) 900 (lsP (h0f9.toInt))), (h11, aI (k 0) 100 anI), (h12, aI (k 0) 100 anI), (h13, aI (k 0) 100 anI)]) (Tr := [(h14, aI (k 0) 400 anI)]) (as := [h0, h1, h4, h5, h6, h10, h11, h12, h13]) (zcV (q0 := 0) (ci := 8) (As := []) (rest := []) (Tc := [(h0, ob 8 [.int h0f0, .int h0f1, .int h0f2, .int h0f3, .int h0f4, .int h0f5, .ref h1, .ref h2, .int h0f8, .int h0f9, .ref h3, .ref h4, .ref h5, .ref h6, .ref h7, .ref h8, .ref h9, .int h0f17, .int h0f18, .int h0f19, .ref h10, .ref h11, .ref h12, .ref h13, .int h0f24, .int h0f25, .ref h14, .ref h15, .ref h16, .ref h17, .int h0f30, .int h0f31, .ref h18, .ref h19, .ref h20, .ref h21]), (h1, aI (k 0) 36 anI), (h4, aJ (k 1) 9 anJ), (h5, aJ (k 1) 9 anJ), (h6, aJ (k 1) 9 anJ), (h10, aJ (k 1) 900 (lsP (h0f9.toInt))), (h11, aI (k 0) 100 anI), (h12, aI (k 0) 100 anI), (h13, aI (k 0) 100 anI)]) hx hb hml hown hU hK hT rfl rfl [0, 1, 2, 3, 4, 5, 6, 7, 8] rfl (by decide) (cX11_findList_9a1c7 l D k _ h0 h1 h4 h5 h6 h10 h11 h12 h13 h2 h3 h7 h8 h9 h14 h15 h16 h17 h18 h19 h20 h21 h0f0 h0f1 h0f2 h0f3 h0f4 h0f5 h0f8 h0f9 h0f17 h0f18 h0f19 h0f24 h0f25 h0f30 h0f31 (by omega) (by omega) (by omega) (by omega) (by omega) (by omega) (by omega) (by omega) (by omega) (by omega) (by omega) (by omega) (by omega) (by omega) (by omega)) w1039 w1036 w1038 w47 w72 hdX11_findList ⟨rfl, rfl⟩ ⟨Nat.le_of_ble_eq_true rfl, Nat.le_of_ble_eq_true rfl⟩ rfl hl.1 (Nat.le_of_ble_eq_true rfl) dX11_faithful_10 ⟨Nat.le_of_ble_eq_true rfl, Nat.le_of_ble_eq_true rfl⟩) hT hS hA [0, 1, 2, 3, 4, 5, 6, 7, 8] [9] rfl rfl rfl (by decide) (by decide) (fun H locs hB J hS => ?_)
    obtain ⟨v127, v128, v129, b_v127, b_v128, b_v129, hT1⟩ := hB
    have hT := J _ hT1
    have hT : TP D A [(h14, aI (k 0) 400 anI), (h0, ob 8 [.int h0f0, .int h0f1, .int h0f2, .int h0f3, .int h0f4, .int h0f5, .ref h1, .ref h2, .int h0f8, .int v127, .ref h3, .ref h4, .ref h5, .ref h6, .ref h7, .ref h8, .ref h9, .int h0f17, .int h0f18, .int h0f19, .ref h10, .ref h11, .ref h12, .ref h13, .int v128, .int v129, .ref h14, .ref h15, .ref h16, .ref h17, .int h0f30, .int h0f31, .ref h18, .ref h19, .ref h20, .ref h21]), (h1, aI (k 0) 36 anI), (h4, aJ (k 1) 9 anJ), (h5, aJ (k 1) 9 anJ), (h6, aJ (k 1) 9 anJ), (h10, aJ (k 1) 900 (lsP (v127.toInt))), (h11, aI (k 0) 100 anI), (h12, aI (k 0) 100 anI), (h13, aI (k 0) 100 anI)] _ := hT
    refine lv_iconst (v := 1) hx hb dX11_faithful_13 (by decide) ?_
    refine lv_istore_n (lv' := [(2, .int 1), (0, .ref h0), (1, .int x1)]) hx hb dX11_faithful_14 rfl hl (by decide) rfl (fun ls hl => ?_)
    refine lv_iconst (v := 0) hx hb dX11_faithful_15 (by decide) ?_
    refine lv_istore_n (lv' := [(3, .int 0), (2, .int 1), (0, .ref h0), (1, .int x1)]) hx hb dX11_faithful_16 rfl hl (by decide) rfl (fun ls hl => ?_)
    exact lp17_68 ((v128.toInt + (-1) * (0 : Int32).toInt + 1).toNat + 1) (0) (1) v127 v128 v129 _ _ _ (by have := li_0; have := li_1; omega) (by have := li_0; have := li_1; omega) (by have := li_0; have := li_1; omega) (by have := li_0; have := li_1; omega) (by have := li_0; have := li_1; omega) (by have := li_0; have := li_1; omega) (by have := li_0; have := li_1; omega) (Nat.lt_succ_self _) hT hS (lv_sub hl [2, 3, 1, 0] rfl)
  · skip
    have hT := J _ hT1
    have hT : TP D A [(h0, ob 8 [.int h0f0, .int h0f1, .int h0f2, .int h0f3, .int h0f4, .int h0f5, .ref h1, .ref h2, .int h0f8, .int h0f9, .ref h3, .ref h4, .ref h5, .ref h6, .ref h7, .ref h8, .ref h9, .int h0f17, .int h0f18, .int h0f19, .ref h10, .ref h11, .ref h12, .ref h13, .int h0f24, .int h0f25, .ref h14, .ref h15, .ref h16, .ref h17, .int h0f30, .int h0f31, .ref h18, .ref h19, .ref h20, .ref h21]), (h1, aI (k 0) 36 anI), (h4, aJ (k 1) 9 anJ), (h5, aJ (k 1) 9 anJ), (h6, aJ (k 1) 9 anJ), (h10, aJ (k 1) 900 (lsP (h0f9.toInt))), (h11, aI (k 0) 100 anI), (h12, aI (k 0) 100 anI), (h13, aI (k 0) 100 anI), (h14, aI (k 0) 400 anI)] _ := hT
    refine lv_if_ne (tgt := 9) hx hb dX11_faithful_4 (by decide) (fun cc => absurd (by decide +kernel) cc) (fun _ => ?_)
    refine lv_iconst (v := (-1)) hx hb dX11_faithful_7 (by decide) ?_
    exact tz_retI (B := B_cX11_faithfulL_a3187 D k h0 h1 h4 h5 h6 h10 h11 h12 h13 h14 h2 h3 h7 h8 h9 h15 h16 h17 h18 h19 h20 h21 x1 h0f0 h0f1 h0f2 h0f3 h0f4 h0f5 h0f8 h0f9 h0f17 h0f18 h0f19 h0f24 h0f25 h0f30 h0f31) (v := (-1)) hQ hx hb hr hlocks hS (Nat.le_of_ble_eq_true rfl) (Nat.le_of_ble_eq_true rfl) dX11_faithful_8 (⟨h0f9, h0f24, h0f25, (by have := li_m1; omega), (by have := li_m1; omega), (by have := li_m1; omega), (by have := li_m1; omega), (by have := li_m1; omega), hT⟩)
  · skip
    have hT := J _ hT1
    have hT : TP D A [(h0, ob 8 [.int h0f0, .int h0f1, .int h0f2, .int h0f3, .int h0f4, .int h0f5, .ref h1, .ref h2, .int h0f8, .int h0f9, .ref h3, .ref h4, .ref h5, .ref h6, .ref h7, .ref h8, .ref h9, .int h0f17, .int h0f18, .int h0f19, .ref h10, .ref h11, .ref h12, .ref h13, .int h0f24, .int h0f25, .ref h14, .ref h15, .ref h16, .ref h17, .int h0f30, .int h0f31, .ref h18, .ref h19, .ref h20, .ref h21]), (h1, aI (k 0) 36 anI), (h4, aJ (k 1) 9 anJ), (h5, aJ (k 1) 9 anJ), (h6, aJ (k 1) 9 anJ), (h10, aJ (k 1) 900 (lsP (h0f9.toInt))), (h11, aI (k 0) 100 anI), (h12, aI (k 0) 100 anI), (h13, aI (k 0) 100 anI), (h14, aI (k 0) 400 anI)] _ := hT
    refine lv_if_ne (tgt := 9) hx hb dX11_faithful_4 (by decide) (fun _ => ?_) (fun cc => absurd cc (by decide +kernel))
    refine lv_aload_n hx hb dX11_faithful_9 rfl (lv_at hl 0 rfl) ?_
    refine tcV (Tc := [(h0, ob 8 [.int h0f0, .int h0f1, .int h0f2, .int h0f3, .int h0f4, .int h0f5, .ref h1, .ref h2, .int h0f8, .int h0f9, .ref h3, .ref h4, .ref h5, .ref h6, .ref h7, .ref h8, .ref h9, .int h0f17, .int h0f18, .int h0f19, .ref h10, .ref h11, .ref h12, .ref h13, .int h0f24, .int h0f25, .ref h14, .ref h15, .ref h16, .ref h17, .int h0f30, .int h0f31, .ref h18, .ref h19, .ref h20, .ref h21]), (h1, aI (k 0) 36 anI), (h4, aJ (k 1) 9 anJ), (h5, aJ (k 1) 9 anJ), (h6, aJ (k 1) 9 anJ), (h10, aJ (k 1) 900 (lsP (h0f9.toInt))), (h11, aI (k 0) 100 anI), (h12, aI (k 0) 100 anI), (h13, aI (k 0) 100 anI)]) (Tr := [(h14, aI (k 0) 400 anI)]) (as := [h0, h1, h4, h5, h6, h10, h11, h12, h13]) (zcV (q0 := 0) (ci := 8) (As := []) (rest := []) (Tc := [(h0, ob 8 [.int h0f0, .int h0f1, .int h0f2, .int h0f3, .int h0f4, .int h0f5, .ref h1, .ref h2, .int h0f8, .int h0f9, .ref h3, .ref h4, .ref h5, .ref h6, .ref h7, .ref h8, .ref h9, .int h0f17, .int h0f18, .int h0f19, .ref h10, .ref h11, .ref h12, .ref h13, .int h0f24, .int h0f25, .ref h14, .ref h15, .ref h16, .ref h17, .int h0f30, .int h0f31, .ref h18, .ref h19, .ref h20, .ref h21]), (h1, aI (k 0) 36 anI), (h4, aJ (k 1) 9 anJ), (h5, aJ (k 1) 9 anJ), (h6, aJ (k 1) 9 anJ), (h10, aJ (k 1) 900 (lsP (h0f9.toInt))), (h11, aI (k 0) 100 anI), (h12, aI (k 0) 100 anI), (h13, aI (k 0) 100 anI)]) hx hb hml hown hU hK hT rfl rfl [0, 1, 2, 3, 4, 5, 6, 7, 8] rfl (by decide) (cX11_findList_9a1c7 l D k _ h0 h1 h4 h5 h6 h10 h11 h12 h13 h2 h3 h7 h8 h9 h14 h15 h16 h17 h18 h19 h20 h21 h0f0 h0f1 h0f2 h0f3 h0f4 h0f5 h0f8 h0f9 h0f17 h0f18 h0f19 h0f24 h0f25 h0f30 h0f31 (by omega) (by omega) (by omega) (by omega) (by omega) (by omega) (by omega) (by omega) (by omega) (by omega) (by omega) (by omega) (by omega) (by omega) (by omega)) w1039 w1036 w1038 w47 w72 hdX11_findList ⟨rfl, rfl⟩ ⟨Nat.le_of_ble_eq_true rfl, Nat.le_of_ble_eq_true rfl⟩ rfl hl.1 (Nat.le_of_ble_eq_true rfl) dX11_faithful_10 ⟨Nat.le_of_ble_eq_true rfl, Nat.le_of_ble_eq_true rfl⟩) hT hS hA [0, 1, 2, 3, 4, 5, 6, 7, 8] [9] rfl rfl rfl (by decide) (by decide) (fun H locs hB J hS => ?_)
    obtain ⟨v131, v132, v133, b_v131, b_v132, b_v133, hT1⟩ := hB
    have hT := J _ hT1
    have hT : TP D A [(h14, aI (k 0) 400 anI), (h0, ob 8 [.int h0f0, .int h0f1, .int h0f2, .int h0f3, .int h0f4, .int h0f5, .ref h1, .ref h2, .int h0f8, .int v131, .ref h3, .ref h4, .ref h5, .ref h6, .ref h7, .ref h8, .ref h9, .int h0f17, .int h0f18, .int h0f19, .ref h10, .ref h11, .ref h12, .ref h13, .int v132, .int v133, .ref h14, .ref h15, .ref h16, .ref h17, .int h0f30, .int h0f31, .ref h18, .ref h19, .ref h20, .ref h21]), (h1, aI (k 0) 36 anI), (h4, aJ (k 1) 9 anJ), (h5, aJ (k 1) 9 anJ), (h6, aJ (k 1) 9 anJ), (h10, aJ (k 1) 900 (lsP (v131.toInt))), (h11, aI (k 0) 100 anI), (h12, aI (k 0) 100 anI), (h13, aI (k 0) 100 anI)] _ := hT
    refine lv_iconst (v := 1) hx hb dX11_faithful_13 (by decide) ?_
    refine lv_istore_n (lv' := [(2, .int 1), (0, .ref h0), (1, .int x1)]) hx hb dX11_faithful_14 rfl hl (by decide) rfl (fun ls hl => ?_)
    refine lv_iconst (v := 0) hx hb dX11_faithful_15 (by decide) ?_
    refine lv_istore_n (lv' := [(3, .int 0), (2, .int 1), (0, .ref h0), (1, .int x1)]) hx hb dX11_faithful_16 rfl hl (by decide) rfl (fun ls hl => ?_)
    exact lp17_68 ((v132.toInt + (-1) * (0 : Int32).toInt + 1).toNat + 1) (0) (1) v131 v132 v133 _ _ _ (by have := li_0; have := li_1; omega) (by have := li_0; have := li_1; omega) (by have := li_0; have := li_1; omega) (by have := li_0; have := li_1; omega) (by have := li_0; have := li_1; omega) (by have := li_0; have := li_1; omega) (by have := li_0; have := li_1; omega) (Nat.lt_succ_self _) hT hS (lv_sub hl [2, 3, 1, 0] rfl)
abbrev Rm_cX11_stillL_70a1e : Room := { frames := 3, cells := 0, slots := 0, locals := 70 }
abbrev B_cX11_stillL_70a1e (D : va_G) (k : Nat → ClassId) (h0 h1 h4 h5 h6 h10 h11 h12 h13 h2 h3 h7 h8 h9 h14 h15 h16 h17 h18 h19 h20 h21 : Nat) (x1 : Int32) (x2 : Int32) (x3 : Int32) (h0f0 : Int32) (h0f1 : Int32) (h0f2 : Int32) (h0f3 : Int32) (h0f4 : Int32) (h0f5 : Int32) (h0f8 : Int32) (h0f9 : Int32) (h0f17 : Int32) (h0f18 : Int32) (h0f19 : Int32) (h0f24 : Int32) (h0f25 : Int32) (h0f30 : Int32) (h0f31 : Int32) (A : Nat → Prop) (r : Int32) (H : Heap) : Prop := ∃ o0 : Int32, ∃ o1 : Int32, ∃ o2 : Int32, (0 ≤ o0.toInt ∧ o0.toInt ≤ 1) ∧ (0 ≤ o1.toInt ∧ o1.toInt ≤ 100) ∧ (0 ≤ o2.toInt ∧ o2.toInt ≤ 1) ∧ (o0.toInt ≤ o1.toInt) ∧ TP D A [(h0, ob 8 [.int h0f0, .int h0f1, .int h0f2, .int h0f3, .int h0f4, .int h0f5, .ref h1, .ref h2, .int h0f8, .int o0, .ref h3, .ref h4, .ref h5, .ref h6, .ref h7, .ref h8, .ref h9, .int h0f17, .int h0f18, .int h0f19, .ref h10, .ref h11, .ref h12, .ref h13, .int o1, .int o2, .ref h14, .ref h15, .ref h16, .ref h17, .int h0f30, .int h0f31, .ref h18, .ref h19, .ref h20, .ref h21]), (h1, aI (k 0) 36 anI), (h4, aJ (k 1) 9 anJ), (h5, aJ (k 1) 9 anJ), (h6, aJ (k 1) 9 anJ), (h10, aJ (k 1) 900 (lsP (o0.toInt))), (h11, aI (k 0) 100 anI), (h12, aI (k 0) 100 anI), (h13, aI (k 0) 100 anI)] H
set_option maxHeartbeats 4000000 in
set_option maxRecDepth 100000 in
theorem cX11_stillL_70a1e (l : Launch) (D : va_G) (k : Nat → ClassId) (sz : Nat) (h0 h1 h4 h5 h6 h10 h11 h12 h13 h2 h3 h7 h8 h9 h14 h15 h16 h17 h18 h19 h20 h21 : Nat) (x1 : Int32) (x2 : Int32) (x3 : Int32) (h0f0 : Int32) (h0f1 : Int32) (h0f2 : Int32) (h0f3 : Int32) (h0f4 : Int32) (h0f5 : Int32) (h0f8 : Int32) (h0f9 : Int32) (h0f17 : Int32) (h0f18 : Int32) (h0f19 : Int32) (h0f24 : Int32) (h0f25 : Int32) (h0f30 : Int32) (h0f31 : Int32) (b_h0f0 : 1 ≤ h0f0.toInt ∧ h0f0.toInt ≤ 3) (b_h0f1 : 0 ≤ h0f1.toInt ∧ h0f1.toInt ≤ 4) (b_h0f3 : 0 ≤ h0f3.toInt ∧ h0f3.toInt ≤ 3) (b_h0f4 : 0 ≤ h0f4.toInt ∧ h0f4.toInt ≤ 4) (b_h0f8 : 0 ≤ h0f8.toInt ∧ h0f8.toInt ≤ 1) (b_h0f9 : 0 ≤ h0f9.toInt ∧ h0f9.toInt ≤ 1) (b_h0f17 : 0 ≤ h0f17.toInt ∧ h0f17.toInt ≤ 120) (b_h0f18 : 0 ≤ h0f18.toInt ∧ h0f18.toInt ≤ 120) (b_h0f19 : 0 ≤ h0f19.toInt ∧ h0f19.toInt ≤ 4) (b_h0f24 : 0 ≤ h0f24.toInt ∧ h0f24.toInt ≤ 100) (b_h0f25 : 0 ≤ h0f25.toInt ∧ h0f25.toInt ≤ 1) (b_h0f30 : 0 ≤ h0f30.toInt ∧ h0f30.toInt ≤ 60) (b_h0f31 : 0 ≤ h0f31.toInt ∧ h0f31.toInt ≤ 1) (i_0 : h0f8.toInt ≤ h0f3.toInt) (i_1 : h0f9.toInt ≤ h0f24.toInt) : Met l yX11_still (Cond.code yX11_still cX11_still 11 (some .int) :: uw) Rm_cX11_stillL_70a1e (pT D k sz [.ref h0, .int x1, .int x2, .int x3] [(h0, ob 8 [.int h0f0, .int h0f1, .int h0f2, .int h0f3, .int h0f4, .int h0f5, .ref h1, .ref h2, .int h0f8, .int h0f9, .ref h3, .ref h4, .ref h5, .ref h6, .ref h7, .ref h8, .ref h9, .int h0f17, .int h0f18, .int h0f19, .ref h10, .ref h11, .ref h12, .ref h13, .int h0f24, .int h0f25, .ref h14, .ref h15, .ref h16, .ref h17, .int h0f30, .int h0f31, .ref h18, .ref h19, .ref h20, .ref h21]), (h1, aI (k 0) 36 anI), (h4, aJ (k 1) 9 anJ), (h5, aJ (k 1) 9 anJ), (h6, aJ (k 1) 9 anJ), (h10, aJ (k 1) 900 (lsP (h0f9.toInt))), (h11, aI (k 0) 100 anI), (h12, aI (k 0) 100 anI), (h13, aI (k 0) 100 anI)]) (qI (B_cX11_stillL_70a1e D k h0 h1 h4 h5 h6 h10 h11 h12 h13 h2 h3 h7 h8 h9 h14 h15 h16 h17 h18 h19 h20 h21 x1 x2 x3 h0f0 h0f1 h0f2 h0f3 h0f4 h0f5 h0f8 h0f9 h0f17 h0f18 h0f19 h0f24 h0f25 h0f30 h0f31 (zA [h0, h1, h4, h5, h6, h10, h11, h12, h13] sz)) (zA [h0, h1, h4, h5, h6, h10, h11, h12, h13] sz)) 0 0 (zA [h0, h1, h4, h5, h6, h10, h11, h12, h13] sz) := by
  refine tz_begin (as := [h0, h1, h4, h5, h6, h10, h11, h12, h13]) (Qc := fun A => qI (B_cX11_stillL_70a1e D k h0 h1 h4 h5 h6 h10 h11 h12 h13 h2 h3 h7 h8 h9 h14 h15 h16 h17 h18 h19 h20 h21 x1 x2 x3 h0f0 h0f1 h0f2 h0f3 h0f4 h0f5 h0f8 h0f9 h0f17 h0f18 h0f19 h0f24 h0f25 h0f30 h0f31 A) A) (by decide +kernel) rfl (Nat.le_of_ble_eq_true rfl) ?_
  intro p e s m args below meth c ls A Q hx hb hr hml hown hlocks hin hU hK hT hS hA hl hQ
  have hl : lv_has ls 11 [(0, .ref h0), (1, .int x1), (2, .int x2), (3, .int x3)] := hl
  have hT : TP D A [(h0, ob 8 [.int h0f0, .int h0f1, .int h0f2, .int h0f3, .int h0f4, .int h0f5, .ref h1, .ref h2, .int h0f8, .int h0f9, .ref h3, .ref h4, .ref h5, .ref h6, .ref h7, .ref h8, .ref h9, .int h0f17, .int h0f18, .int h0f19, .ref h10, .ref h11, .ref h12, .ref h13, .int h0f24, .int h0f25, .ref h14, .ref h15, .ref h16, .ref h17, .int h0f30, .int h0f31, .ref h18, .ref h19, .ref h20, .ref h21]), (h1, aI (k 0) 36 anI), (h4, aJ (k 1) 9 anJ), (h5, aJ (k 1) 9 anJ), (h6, aJ (k 1) 9 anJ), (h10, aJ (k 1) 900 (lsP (h0f9.toInt))), (h11, aI (k 0) 100 anI), (h12, aI (k 0) 100 anI), (h13, aI (k 0) 100 anI)] s.heap := hT
  have lp53_223 : ∀ (n : Nat) (y216 : Int32) (y217 : Int32) (y218 : Int64) (y219 : Int64) (y220 : Int32) (y221 : Int32) (y222 : Int32) (H : Heap) (locs : List Loc) (ls : Array Slot), (0 ≤ y216.toInt ∧ y216.toInt ≤ 100) → ((-2147483648) ≤ y218.toInt ∧ y218.toInt ≤ 2147483647) → ((-2147483648) ≤ y219.toInt ∧ y219.toInt ≤ 2147483647) → (1 ≤ y220.toInt ∧ y220.toInt ≤ 1) → (1 ≤ y221.toInt ∧ y221.toInt ≤ 100) → (0 ≤ y222.toInt ∧ y222.toInt ≤ 1) → (y220.toInt ≤ y221.toInt) → (y221.toInt + (-1) * y216.toInt + 1).toNat < n → TP D A [(h0, ob 8 [.int h0f0, .int h0f1, .int h0f2, .int h0f3, .int h0f4, .int h0f5, .ref h1, .ref h2, .int h0f8, .int y220, .ref h3, .ref h4, .ref h5, .ref h6, .ref h7, .ref h8, .ref h9, .int h0f17, .int h0f18, .int h0f19, .ref h10, .ref h11, .ref h12, .ref h13, .int y221, .int y222, .ref h14, .ref h15, .ref h16, .ref h17, .int h0f30, .int h0f31, .ref h18, .ref h19, .ref h20, .ref h21]), (h1, aI (k 0) 36 anI), (h4, aJ (k 1) 9 anJ), (h5, aJ (k 1) 9 anJ), (h6, aJ (k 1) 9 anJ), (h10, aJ (k 1) 900 (lsP (y220.toInt))), (h11, aI (k 0) 100 anI), (h12, aI (k 0) 100 anI), (h13, aI (k 0) 100 anI)] H → va_S A s.heap H locs → lv_has ls 11 [(0, .ref h0), (1, .int x1), (4, .long y219), (6, .long y218), (8, .int y217), (9, .int y216)] → W p l e Rm_cX11_stillL_70a1e s m args below meth c H locs 0 0 Q (F0 m 53 ls []) := by
    intro n
    induction n with
    | zero => intro y216 y217 y218 y219 y220 y221 y222 H locs ls b_y216 b_y218 b_y219 b_y220 b_y221 b_y222 x_0 hm hT hS hl; exact absurd hm (Nat.not_lt_zero _)
    | succ n ih =>
      intro y216 y217 y218 y219 y220 y221 y222 H locs ls b_y216 b_y218 b_y219 b_y220 b_y221 b_y222 x_0 hm hT hS hl
      have ih53_223 := ih
      clear ih
      refine lv_iload hx hb dX11_still_53 (lv_at hl 5 rfl) ?_
      refine lv_aload_n hx hb dX11_still_55 rfl (lv_at hl 0 rfl) ?_
      refine tz_get (ci := 8) (v := .int y221) (C := RX11) (F := TX11) (N := 36) hx hb hU iX11 hown hK hT 0 rfl rfl 24 (by decide) w809 (fun _ h9 => h9) rfl dX11_still_56 ?_
      refine lv_icmp_ge (tgt := 232) hx hb dX11_still_59 (by decide) (fun c_224 => ?_) (fun c_224 => ?_)
      · skip
        have c_224 := ni_le c_224 rfl rfl
        refine lv_iload hx hb dX11_still_232 (lv_at hl 4 rfl) ?_
        exact tz_retI (B := B_cX11_stillL_70a1e D k h0 h1 h4 h5 h6 h10 h11 h12 h13 h2 h3 h7 h8 h9 h14 h15 h16 h17 h18 h19 h20 h21 x1 x2 x3 h0f0 h0f1 h0f2 h0f3 h0f4 h0f5 h0f8 h0f9 h0f17 h0f18 h0f19 h0f24 h0f25 h0f30 h0f31) (v := y217) hQ hx hb hr hlocks hS (Nat.le_of_ble_eq_true rfl) (Nat.le_of_ble_eq_true rfl) dX11_still_234 (⟨y220, y221, y222, (by omega), (by omega), (by omega), (by omega), hT⟩)
      · skip
        have c_224 := ni_nle c_224 rfl rfl
        refine lv_aload_n hx hb dX11_still_62 rfl (lv_at hl 0 rfl) ?_
        refine lv_iload hx hb dX11_still_63 (lv_at hl 5 rfl) ?_
        refine lv_aload_n hx hb dX11_still_65 rfl (lv_at hl 0 rfl) ?_
        refine tz_get (ci := 8) (v := .ref h4) (C := RX11) (F := TX11) (N := 36) hx hb hU iX11 hown hK hT 0 rfl rfl 11 (by decide) w796 (fun _ h9 => h9) rfl dX11_still_66 ?_
        refine tcV (Tc := [(h0, ob 8 [.int h0f0, .int h0f1, .int h0f2, .int h0f3, .int h0f4, .int h0f5, .ref h1, .ref h2, .int h0f8, .int y220, .ref h3, .ref h4, .ref h5, .ref h6, .ref h7, .ref h8, .ref h9, .int h0f17, .int h0f18, .int h0f19, .ref h10, .ref h11, .ref h12, .ref h13, .int y221, .int y222, .ref h14, .ref h15, .ref h16, .ref h17, .int h0f30, .int h0f31, .ref h18, .ref h19, .ref h20, .ref h21]), (h4, aJ (k 1) 9 anJ), (h10, aJ (k 1) 900 (lsP (y220.toInt)))]) (Tr := [(h1, aI (k 0) 36 anI), (h5, aJ (k 1) 9 anJ), (h6, aJ (k 1) 9 anJ), (h11, aI (k 0) 100 anI), (h12, aI (k 0) 100 anI), (h13, aI (k 0) 100 anI)]) (as := [h0, h4, h10]) (zcV (q0 := 0) (ci := 8) (As := [.int y216, .ref h4]) (rest := []) (Tc := [(h0, ob 8 [.int h0f0, .int h0f1, .int h0f2, .int h0f3, .int h0f4, .int h0f5, .ref h1, .ref h2, .int h0f8, .int y220, .ref h3, .ref h4, .ref h5, .ref h6, .ref h7, .ref h8, .ref h9, .int h0f17, .int h0f18, .int h0f19, .ref h10, .ref h11, .ref h12, .ref h13, .int y221, .int y222, .ref h14, .ref h15, .ref h16, .ref h17, .int h0f30, .int h0f31, .ref h18, .ref h19, .ref h20, .ref h21]), (h4, aJ (k 1) 9 anJ), (h10, aJ (k 1) 900 (lsP (y220.toInt)))]) hx hb hml hown hU hK hT rfl rfl [0, 2, 5] rfl (by decide) (cX11_takesElement_3b10e l D k _ h0 h4 h10 h1 h2 h3 h5 h6 h7 h8 h9 h11 h12 h13 h14 h15 h16 h17 h18 h19 h20 h21 y216 h0f0 h0f1 h0f2 h0f3 h0f4 h0f5 h0f8 y220 h0f17 h0f18 h0f19 y221 y222 h0f30 h0f31 (by omega) (by omega) (by omega) (by omega) (by omega) (by omega) (by omega) (by omega) (by omega) (by omega) (by omega) (by omega) (by omega) (by omega) (by omega) (by omega)) w1047 w1044 w1046 w49 w72 hdX11_takesElement ⟨rfl, rfl⟩ ⟨Nat.le_of_ble_eq_true rfl, Nat.le_of_ble_eq_true rfl⟩ rfl hl.1 (Nat.le_of_ble_eq_true rfl) dX11_still_69 ⟨Nat.le_of_ble_eq_true rfl, Nat.le_of_ble_eq_true rfl⟩) hT hS hA [0, 2, 5] [1, 3, 4, 6, 7, 8] rfl rfl rfl (by decide) (by decide) (fun H locs hB J hS => ?_)
        have hT1 := hB
        have hT := J _ hT1
        have hT : TP D A [(h1, aI (k 0) 36 anI), (h5, aJ (k 1) 9 anJ), (h6, aJ (k 1) 9 anJ), (h11, aI (k 0) 100 anI), (h12, aI (k 0) 100 anI), (h13, aI (k 0) 100 anI), (h0, ob 8 [.int h0f0, .int h0f1, .int h0f2, .int h0f3, .int h0f4, .int h0f5, .ref h1, .ref h2, .int h0f8, .int y220, .ref h3, .ref h4, .ref h5, .ref h6, .ref h7, .ref h8, .ref h9, .int h0f17, .int h0f18, .int h0f19, .ref h10, .ref h11, .ref h12, .ref h13, .int y221, .int y222, .ref h14, .ref h15, .ref h16, .ref h17, .int h0f30, .int h0f31, .ref h18, .ref h19, .ref h20, .ref h21]), (h4, aJ (k 1) 9 anJ), (h10, aJ (k 1) 900 (lsP (y220.toInt)))] _ := hT
        refine lv_aload_n hx hb dX11_still_72 rfl (lv_at hl 0 rfl) ?_
        refine tz_get (ci := 8) (v := .ref h4) (C := RX11) (F := TX11) (N := 36) hx hb hU iX11 hown hK hT 6 rfl rfl 11 (by decide) w796 (fun _ h9 => h9) rfl dX11_still_73 ?_
        refine lv_iconst (v := 0) hx hb dX11_still_76 (by decide) ?_
        refine tz_lald hx hb hK hT 7 rfl (by have := li_0; omega) dX11_still_77 (fun v226 e_v226 => ?_)
        clear e_v226
        refine lv_iload_n hx hb dX11_still_78 rfl (lv_at hl 1 rfl) ?_
        have tb_x1 := i32b x1
        obtain ⟨v227, e_v227⟩ : ∃ x : Int64, x1.toInt64 = x := ⟨_, rfl⟩
        refine lv_i2l (v := v227) hx hb dX11_still_79 e_v227 ?_
        have e_v227 := ai_i2l e_v227 rfl
        refine lv_lmul hx hb dX11_still_80 (lv_topl (fun v228 e_v228 => ?_))
        refine lv_aload_n hx hb dX11_still_81 rfl (lv_at hl 0 rfl) ?_
        refine tz_get (ci := 8) (v := .ref h4) (C := RX11) (F := TX11) (N := 36) hx hb hU iX11 hown hK hT 6 rfl rfl 11 (by decide) w796 (fun _ h9 => h9) rfl dX11_still_82 ?_
        refine lv_iconst (v := 1) hx hb dX11_still_85 (by decide) ?_
        refine tz_lald hx hb hK hT 7 rfl (by have := li_1; omega) dX11_still_86 (fun v229 e_v229 => ?_)
        clear e_v229
        refine lv_lload hx hb dX11_still_87 (lv_at hl 2 rfl) ?_
        refine lv_lmul hx hb dX11_still_89 (lv_topl (fun v230 e_v230 => ?_))
        refine lv_ladd hx hb dX11_still_90 (lv_topl (fun v231 e_v231 => ?_))
        refine lv_aload_n hx hb dX11_still_91 rfl (lv_at hl 0 rfl) ?_
        refine tz_get (ci := 8) (v := .ref h4) (C := RX11) (F := TX11) (N := 36) hx hb hU iX11 hown hK hT 6 rfl rfl 11 (by decide) w796 (fun _ h9 => h9) rfl dX11_still_92 ?_
        refine lv_iconst (v := 2) hx hb dX11_still_95 (by decide) ?_
        refine tz_lald hx hb hK hT 7 rfl (by have := li_2; omega) dX11_still_96 (fun v232 e_v232 => ?_)
        clear e_v232
        refine lv_lload hx hb dX11_still_97 (lv_at hl 3 rfl) ?_
        refine lv_lmul hx hb dX11_still_99 (lv_topl (fun v233 e_v233 => ?_))
        refine lv_ladd hx hb dX11_still_100 (lv_topl (fun v234 e_v234 => ?_))
        refine lv_iload_n hx hb dX11_still_101 rfl (lv_at hl 1 rfl) ?_
        obtain ⟨v235, e_v235⟩ : ∃ x : Int64, x1.toInt64 = x := ⟨_, rfl⟩
        refine lv_i2l (v := v235) hx hb dX11_still_102 e_v235 ?_
        have e_v235 := ai_i2l e_v235 rfl
        refine W.lcmp hx hb dX11_still_103 ?_
        refine lv_if_ne (tgt := 111) hx hb dX11_still_104 (by decide) (fun c_236 => ?_) (fun c_236 => ?_)
        · skip
          have c_236 := nl_ne c_236 rfl rfl
          refine lv_iconst (v := 0) hx hb dX11_still_111 (by decide) ?_
          refine lv_istore (lv' := [(10, .int 0), (0, .ref h0), (1, .int x1), (4, .long y219), (6, .long y218), (8, .int y217), (9, .int y216)]) hx hb dX11_still_112 hl (by decide) rfl (fun ls hl => ?_)
          refine lv_iload hx hb dX11_still_114 (lv_at hl 0 rfl) ?_
          refine lv_if_eq (tgt := 158) hx hb dX11_still_116 (by decide) (fun _ => ?_) (fun cc => absurd (by decide +kernel) cc)
          refine lv_iconst (v := 0) hx hb dX11_still_158 (by decide) ?_
          refine lv_istore (lv' := [(10, .int 0), (0, .ref h0), (1, .int x1), (4, .long y219), (6, .long y218), (8, .int y217), (9, .int y216)]) hx hb dX11_still_159 hl (by decide) rfl (fun ls hl => ?_)
          refine lv_iload hx hb dX11_still_161 (lv_at hl 0 rfl) ?_
          refine lv_if_eq (tgt := 208) hx hb dX11_still_163 (by decide) (fun _ => ?_) (fun cc => absurd (by decide +kernel) cc)
          refine lv_iconst (v := 0) hx hb dX11_still_208 (by decide) ?_
          refine lv_istore (lv' := [(10, .int 0), (0, .ref h0), (1, .int x1), (4, .long y219), (6, .long y218), (8, .int y217), (9, .int y216)]) hx hb dX11_still_209 hl (by decide) rfl (fun ls hl => ?_)
          refine lv_iload hx hb dX11_still_211 (lv_at hl 5 rfl) ?_
          refine lv_iload hx hb dX11_still_213 (lv_at hl 0 rfl) ?_
          refine lv_if_eq (tgt := 222) hx hb dX11_still_215 (by decide) (fun _ => ?_) (fun cc => absurd (by decide +kernel) cc)
          refine lv_iconst (v := 0) hx hb dX11_still_222 (by decide) ?_
          refine lv_iadd hx hb dX11_still_223 (lv_topi (fun v237 e_v237 => ?_))
          refine lv_istore (lv' := [(8, .int v237), (10, .int 0), (0, .ref h0), (1, .int x1), (4, .long y219), (6, .long y218), (9, .int y216)]) hx hb dX11_still_224 hl (by decide) rfl (fun ls hl => ?_)
          obtain ⟨v238, e_v238⟩ : ∃ x : Int32, x = y216 + Int32.ofInt 1 := ⟨_, rfl⟩
          have f_v238 := e_v238.symm
          have e_v238 : v238.toInt = y216.toInt + 1 := ai_add e_v238 rfl (show (Int32.ofInt 1).toInt = 1 from (by decide +kernel)) (by omega)
          refine lv_iinc (v := v238) (lv' := [(9, .int v238), (8, .int v237), (10, .int 0), (0, .ref h0), (1, .int x1), (4, .long y219), (6, .long y218)]) hx hb dX11_still_226 hl (k := 6) rfl f_v238 (by decide) rfl (fun ls hl => ?_)
          refine lv_goto (tgt := 53) hx hb dX11_still_229 (by decide) ?_
          exact ih53_223 v238 v237 y218 y219 y220 y221 y222 _ _ _ (by omega) (by omega) (by omega) (by omega) (by omega) (by omega) (by omega) (by omega) (hT.sub [6, 0, 7, 1, 2, 8, 3, 4, 5] (by decide) rfl) hS (lv_sub hl [3, 4, 5, 6, 1, 0] rfl)
        · skip
          have c_236 := nl_eq c_236 rfl rfl
          refine lv_iconst (v := 1) hx hb dX11_still_107 (by decide) ?_
          refine lv_goto (tgt := 112) hx hb dX11_still_108 (by decide) ?_
          refine lv_istore (lv' := [(10, .int 1), (0, .ref h0), (1, .int x1), (4, .long y219), (6, .long y218), (8, .int y217), (9, .int y216)]) hx hb dX11_still_112 hl (by decide) rfl (fun ls hl => ?_)
          refine lv_iload hx hb dX11_still_114 (lv_at hl 0 rfl) ?_
          refine lv_if_eq (tgt := 158) hx hb dX11_still_116 (by decide) (fun cc => absurd cc (by decide +kernel)) (fun _ => ?_)
          refine lv_aload_n hx hb dX11_still_119 rfl (lv_at hl 1 rfl) ?_
          refine tz_get (ci := 8) (v := .ref h4) (C := RX11) (F := TX11) (N := 36) hx hb hU iX11 hown hK hT 6 rfl rfl 11 (by decide) w796 (fun _ h9 => h9) rfl dX11_still_120 ?_
          refine lv_iconst (v := 3) hx hb dX11_still_123 (by decide) ?_
          refine tz_lald hx hb hK hT 7 rfl (by have := li_3; omega) dX11_still_124 (fun v239 e_v239 => ?_)
          clear e_v239
          refine lv_iload_n hx hb dX11_still_125 rfl (lv_at hl 2 rfl) ?_
          obtain ⟨v240, e_v240⟩ : ∃ x : Int64, x1.toInt64 = x := ⟨_, rfl⟩
          refine lv_i2l (v := v240) hx hb dX11_still_126 e_v240 ?_
          have e_v240 := ai_i2l e_v240 rfl
          refine lv_lmul hx hb dX11_still_127 (lv_topl (fun v241 e_v241 => ?_))
          refine lv_aload_n hx hb dX11_still_128 rfl (lv_at hl 1 rfl) ?_
          refine tz_get (ci := 8) (v := .ref h4) (C := RX11) (F := TX11) (N := 36) hx hb hU iX11 hown hK hT 6 rfl rfl 11 (by decide) w796 (fun _ h9 => h9) rfl dX11_still_129 ?_
          refine lv_iconst (v := 4) hx hb dX11_still_132 (by decide) ?_
          refine tz_lald hx hb hK hT 7 rfl (by have := li_4; omega) dX11_still_133 (fun v242 e_v242 => ?_)
          clear e_v242
          refine lv_lload hx hb dX11_still_134 (lv_at hl 3 rfl) ?_
          refine lv_lmul hx hb dX11_still_136 (lv_topl (fun v243 e_v243 => ?_))
          refine lv_ladd hx hb dX11_still_137 (lv_topl (fun v244 e_v244 => ?_))
          refine lv_aload_n hx hb dX11_still_138 rfl (lv_at hl 1 rfl) ?_
          refine tz_get (ci := 8) (v := .ref h4) (C := RX11) (F := TX11) (N := 36) hx hb hU iX11 hown hK hT 6 rfl rfl 11 (by decide) w796 (fun _ h9 => h9) rfl dX11_still_139 ?_
          refine lv_iconst (v := 5) hx hb dX11_still_142 (by decide) ?_
          refine tz_lald hx hb hK hT 7 rfl (by have := li_5; omega) dX11_still_143 (fun v245 e_v245 => ?_)
          clear e_v245
          refine lv_lload hx hb dX11_still_144 (lv_at hl 4 rfl) ?_
          refine lv_lmul hx hb dX11_still_146 (lv_topl (fun v246 e_v246 => ?_))
          refine lv_ladd hx hb dX11_still_147 (lv_topl (fun v247 e_v247 => ?_))
          refine lv_lload hx hb dX11_still_148 (lv_at hl 3 rfl) ?_
          refine W.lcmp hx hb dX11_still_150 ?_
          refine lv_if_ne (tgt := 158) hx hb dX11_still_151 (by decide) (fun c_248 => ?_) (fun c_248 => ?_)
          · skip
            have c_248 := nl_ne c_248 rfl rfl
            refine lv_iconst (v := 0) hx hb dX11_still_158 (by decide) ?_
            refine lv_istore (lv' := [(10, .int 0), (0, .ref h0), (1, .int x1), (4, .long y219), (6, .long y218), (8, .int y217), (9, .int y216)]) hx hb dX11_still_159 hl (by decide) rfl (fun ls hl => ?_)
            refine lv_iload hx hb dX11_still_161 (lv_at hl 0 rfl) ?_
            refine lv_if_eq (tgt := 208) hx hb dX11_still_163 (by decide) (fun _ => ?_) (fun cc => absurd (by decide +kernel) cc)
            refine lv_iconst (v := 0) hx hb dX11_still_208 (by decide) ?_
            refine lv_istore (lv' := [(10, .int 0), (0, .ref h0), (1, .int x1), (4, .long y219), (6, .long y218), (8, .int y217), (9, .int y216)]) hx hb dX11_still_209 hl (by decide) rfl (fun ls hl => ?_)
            refine lv_iload hx hb dX11_still_211 (lv_at hl 5 rfl) ?_
            refine lv_iload hx hb dX11_still_213 (lv_at hl 0 rfl) ?_
            refine lv_if_eq (tgt := 222) hx hb dX11_still_215 (by decide) (fun _ => ?_) (fun cc => absurd (by decide +kernel) cc)
            refine lv_iconst (v := 0) hx hb dX11_still_222 (by decide) ?_
            refine lv_iadd hx hb dX11_still_223 (lv_topi (fun v249 e_v249 => ?_))
            refine lv_istore (lv' := [(8, .int v249), (10, .int 0), (0, .ref h0), (1, .int x1), (4, .long y219), (6, .long y218), (9, .int y216)]) hx hb dX11_still_224 hl (by decide) rfl (fun ls hl => ?_)
            obtain ⟨v250, e_v250⟩ : ∃ x : Int32, x = y216 + Int32.ofInt 1 := ⟨_, rfl⟩
            have f_v250 := e_v250.symm
            have e_v250 : v250.toInt = y216.toInt + 1 := ai_add e_v250 rfl (show (Int32.ofInt 1).toInt = 1 from (by decide +kernel)) (by omega)
            refine lv_iinc (v := v250) (lv' := [(9, .int v250), (8, .int v249), (10, .int 0), (0, .ref h0), (1, .int x1), (4, .long y219), (6, .long y218)]) hx hb dX11_still_226 hl (k := 6) rfl f_v250 (by decide) rfl (fun ls hl => ?_)
            refine lv_goto (tgt := 53) hx hb dX11_still_229 (by decide) ?_
            exact ih53_223 v250 v249 y218 y219 y220 y221 y222 _ _ _ (by omega) (by omega) (by omega) (by omega) (by omega) (by omega) (by omega) (by omega) (hT.sub [6, 0, 7, 1, 2, 8, 3, 4, 5] (by decide) rfl) hS (lv_sub hl [3, 4, 5, 6, 1, 0] rfl)
          · skip
            have c_248 := nl_eq c_248 rfl rfl
            refine lv_iconst (v := 1) hx hb dX11_still_154 (by decide) ?_
            refine lv_goto (tgt := 159) hx hb dX11_still_155 (by decide) ?_
            refine lv_istore (lv' := [(10, .int 1), (0, .ref h0), (1, .int x1), (4, .long y219), (6, .long y218), (8, .int y217), (9, .int y216)]) hx hb dX11_still_159 hl (by decide) rfl (fun ls hl => ?_)
            refine lv_iload hx hb dX11_still_161 (lv_at hl 0 rfl) ?_
            refine lv_if_eq (tgt := 208) hx hb dX11_still_163 (by decide) (fun cc => absurd cc (by decide +kernel)) (fun _ => ?_)
            refine lv_aload_n hx hb dX11_still_166 rfl (lv_at hl 1 rfl) ?_
            refine tz_get (ci := 8) (v := .ref h4) (C := RX11) (F := TX11) (N := 36) hx hb hU iX11 hown hK hT 6 rfl rfl 11 (by decide) w796 (fun _ h9 => h9) rfl dX11_still_167 ?_
            refine lv_bipush (v := 6) hx hb dX11_still_170 (by decide) ?_
            refine tz_lald hx hb hK hT 7 rfl (by have := li_6; omega) dX11_still_172 (fun v251 e_v251 => ?_)
            clear e_v251
            refine lv_iload_n hx hb dX11_still_173 rfl (lv_at hl 2 rfl) ?_
            obtain ⟨v252, e_v252⟩ : ∃ x : Int64, x1.toInt64 = x := ⟨_, rfl⟩
            refine lv_i2l (v := v252) hx hb dX11_still_174 e_v252 ?_
            have e_v252 := ai_i2l e_v252 rfl
            refine lv_lmul hx hb dX11_still_175 (lv_topl (fun v253 e_v253 => ?_))
            refine lv_aload_n hx hb dX11_still_176 rfl (lv_at hl 1 rfl) ?_
            refine tz_get (ci := 8) (v := .ref h4) (C := RX11) (F := TX11) (N := 36) hx hb hU iX11 hown hK hT 6 rfl rfl 11 (by decide) w796 (fun _ h9 => h9) rfl dX11_still_177 ?_
            refine lv_bipush (v := 7) hx hb dX11_still_180 (by decide) ?_
            refine tz_lald hx hb hK hT 7 rfl (by have := li_7; omega) dX11_still_182 (fun v254 e_v254 => ?_)
            clear e_v254
            refine lv_lload hx hb dX11_still_183 (lv_at hl 3 rfl) ?_
            refine lv_lmul hx hb dX11_still_185 (lv_topl (fun v255 e_v255 => ?_))
            refine lv_ladd hx hb dX11_still_186 (lv_topl (fun v256 e_v256 => ?_))
            refine lv_aload_n hx hb dX11_still_187 rfl (lv_at hl 1 rfl) ?_
            refine tz_get (ci := 8) (v := .ref h4) (C := RX11) (F := TX11) (N := 36) hx hb hU iX11 hown hK hT 6 rfl rfl 11 (by decide) w796 (fun _ h9 => h9) rfl dX11_still_188 ?_
            refine lv_bipush (v := 8) hx hb dX11_still_191 (by decide) ?_
            refine tz_lald hx hb hK hT 7 rfl (by have := li_8; omega) dX11_still_193 (fun v257 e_v257 => ?_)
            clear e_v257
            refine lv_lload hx hb dX11_still_194 (lv_at hl 4 rfl) ?_
            refine lv_lmul hx hb dX11_still_196 (lv_topl (fun v258 e_v258 => ?_))
            refine lv_ladd hx hb dX11_still_197 (lv_topl (fun v259 e_v259 => ?_))
            refine lv_lload hx hb dX11_still_198 (lv_at hl 4 rfl) ?_
            refine W.lcmp hx hb dX11_still_200 ?_
            refine lv_if_ne (tgt := 208) hx hb dX11_still_201 (by decide) (fun c_260 => ?_) (fun c_260 => ?_)
            · skip
              have c_260 := nl_ne c_260 rfl rfl
              refine lv_iconst (v := 0) hx hb dX11_still_208 (by decide) ?_
              refine lv_istore (lv' := [(10, .int 0), (0, .ref h0), (1, .int x1), (4, .long y219), (6, .long y218), (8, .int y217), (9, .int y216)]) hx hb dX11_still_209 hl (by decide) rfl (fun ls hl => ?_)
              refine lv_iload hx hb dX11_still_211 (lv_at hl 5 rfl) ?_
              refine lv_iload hx hb dX11_still_213 (lv_at hl 0 rfl) ?_
              refine lv_if_eq (tgt := 222) hx hb dX11_still_215 (by decide) (fun _ => ?_) (fun cc => absurd (by decide +kernel) cc)
              refine lv_iconst (v := 0) hx hb dX11_still_222 (by decide) ?_
              refine lv_iadd hx hb dX11_still_223 (lv_topi (fun v261 e_v261 => ?_))
              refine lv_istore (lv' := [(8, .int v261), (10, .int 0), (0, .ref h0), (1, .int x1), (4, .long y219), (6, .long y218), (9, .int y216)]) hx hb dX11_still_224 hl (by decide) rfl (fun ls hl => ?_)
              obtain ⟨v262, e_v262⟩ : ∃ x : Int32, x = y216 + Int32.ofInt 1 := ⟨_, rfl⟩
              have f_v262 := e_v262.symm
              have e_v262 : v262.toInt = y216.toInt + 1 := ai_add e_v262 rfl (show (Int32.ofInt 1).toInt = 1 from (by decide +kernel)) (by omega)
              refine lv_iinc (v := v262) (lv' := [(9, .int v262), (8, .int v261), (10, .int 0), (0, .ref h0), (1, .int x1), (4, .long y219), (6, .long y218)]) hx hb dX11_still_226 hl (k := 6) rfl f_v262 (by decide) rfl (fun ls hl => ?_)
              refine lv_goto (tgt := 53) hx hb dX11_still_229 (by decide) ?_
              exact ih53_223 v262 v261 y218 y219 y220 y221 y222 _ _ _ (by omega) (by omega) (by omega) (by omega) (by omega) (by omega) (by omega) (by omega) (hT.sub [6, 0, 7, 1, 2, 8, 3, 4, 5] (by decide) rfl) hS (lv_sub hl [3, 4, 5, 6, 1, 0] rfl)
            · skip
              have c_260 := nl_eq c_260 rfl rfl
              refine lv_iconst (v := 1) hx hb dX11_still_204 (by decide) ?_
              refine lv_goto (tgt := 209) hx hb dX11_still_205 (by decide) ?_
              refine lv_istore (lv' := [(10, .int 1), (0, .ref h0), (1, .int x1), (4, .long y219), (6, .long y218), (8, .int y217), (9, .int y216)]) hx hb dX11_still_209 hl (by decide) rfl (fun ls hl => ?_)
              refine lv_iload hx hb dX11_still_211 (lv_at hl 5 rfl) ?_
              refine lv_iload hx hb dX11_still_213 (lv_at hl 0 rfl) ?_
              refine lv_if_eq (tgt := 222) hx hb dX11_still_215 (by decide) (fun cc => absurd cc (by decide +kernel)) (fun _ => ?_)
              refine lv_iconst (v := 1) hx hb dX11_still_218 (by decide) ?_
              refine lv_goto (tgt := 223) hx hb dX11_still_219 (by decide) ?_
              refine lv_iadd hx hb dX11_still_223 (lv_topi (fun v263 e_v263 => ?_))
              refine lv_istore (lv' := [(8, .int v263), (10, .int 1), (0, .ref h0), (1, .int x1), (4, .long y219), (6, .long y218), (9, .int y216)]) hx hb dX11_still_224 hl (by decide) rfl (fun ls hl => ?_)
              obtain ⟨v264, e_v264⟩ : ∃ x : Int32, x = y216 + Int32.ofInt 1 := ⟨_, rfl⟩
              have f_v264 := e_v264.symm
              have e_v264 : v264.toInt = y216.toInt + 1 := ai_add e_v264 rfl (show (Int32.ofInt 1).toInt = 1 from (by decide +kernel)) (by omega)
              refine lv_iinc (v := v264) (lv' := [(9, .int v264), (8, .int v263), (10, .int 1), (0, .ref h0), (1, .int x1), (4, .long y219), (6, .long y218)]) hx hb dX11_still_226 hl (k := 6) rfl f_v264 (by decide) rfl (fun ls hl => ?_)
              refine lv_goto (tgt := 53) hx hb dX11_still_229 (by decide) ?_
              exact ih53_223 v264 v263 y218 y219 y220 y221 y222 _ _ _ (by omega) (by omega) (by omega) (by omega) (by omega) (by omega) (by omega) (by omega) (hT.sub [6, 0, 7, 1, 2, 8, 3, 4, 5] (by decide) rfl) hS (lv_sub hl [3, 4, 5, 6, 1, 0] rfl)
  refine lv_iload_n hx hb dX11_still_0 rfl (lv_at hl 1 rfl) ?_
  refine lv_iload_n hx hb dX11_still_1 rfl (lv_at hl 2 rfl) ?_
  refine lv_iload_n hx hb dX11_still_2 rfl (lv_at hl 3 rfl) ?_
  refine tcI (Tc := []) (Tr := [(h0, ob 8 [.int h0f0, .int h0f1, .int h0f2, .int h0f3, .int h0f4, .int h0f5, .ref h1, .ref h2, .int h0f8, .int h0f9, .ref h3, .ref h4, .ref h5, .ref h6, .ref h7, .ref h8, .ref h9, .int h0f17, .int h0f18, .int h0f19, .ref h10, .ref h11, .ref h12, .ref h13, .int h0f24, .int h0f25, .ref h14, .ref h15, .ref h16, .ref h17, .int h0f30, .int h0f31, .ref h18, .ref h19, .ref h20, .ref h21]), (h1, aI (k 0) 36 anI), (h4, aJ (k 1) 9 anJ), (h5, aJ (k 1) 9 anJ), (h6, aJ (k 1) 9 anJ), (h10, aJ (k 1) 900 (lsP (h0f9.toInt))), (h11, aI (k 0) 100 anI), (h12, aI (k 0) 100 anI), (h13, aI (k 0) 100 anI)]) (as := []) (zcS (As := [.int x1, .int x2, .int x3]) (rest := []) (Tc := []) hx hb hml hown hU hK hT [] rfl (by decide) (cX11_isAsked_874da l D k _ x1 x2 x3) w1137 w1135 w1136 w72 hdX11_isAsked ⟨rfl, rfl⟩ ⟨Nat.le_of_ble_eq_true rfl, Nat.le_of_ble_eq_true rfl⟩ rfl hl.1 (Nat.le_of_ble_eq_true rfl) dX11_still_3 ⟨Nat.le_of_ble_eq_true rfl, Nat.le_of_ble_eq_true rfl⟩) hT hS hA [] [0, 1, 2, 3, 4, 5, 6, 7, 8] rfl rfl rfl (by decide) (by decide) (fun r265 H locs hB J hS => ?_)
  obtain ⟨b_r265, hT1⟩ := hB
  have hT := J _ hT1
  have hT : TP D A [(h0, ob 8 [.int h0f0, .int h0f1, .int h0f2, .int h0f3, .int h0f4, .int h0f5, .ref h1, .ref h2, .int h0f8, .int h0f9, .ref h3, .ref h4, .ref h5, .ref h6, .ref h7, .ref h8, .ref h9, .int h0f17, .int h0f18, .int h0f19, .ref h10, .ref h11, .ref h12, .ref h13, .int h0f24, .int h0f25, .ref h14, .ref h15, .ref h16, .ref h17, .int h0f30, .int h0f31, .ref h18, .ref h19, .ref h20, .ref h21]), (h1, aI (k 0) 36 anI), (h4, aJ (k 1) 9 anJ), (h5, aJ (k 1) 9 anJ), (h6, aJ (k 1) 9 anJ), (h10, aJ (k 1) 900 (lsP (h0f9.toInt))), (h11, aI (k 0) 100 anI), (h12, aI (k 0) 100 anI), (h13, aI (k 0) 100 anI)] _ := hT
  refine lv_if_ne (tgt := 11) hx hb dX11_still_6 (by decide) (fun c_266 => ?_) (fun c_266 => ?_)
  · skip
    have c_266 := ni_ne c_266 rfl li_0
    refine lv_aload_n hx hb dX11_still_11 rfl (lv_at hl 0 rfl) ?_
    refine tcV (Tc := [(h0, ob 8 [.int h0f0, .int h0f1, .int h0f2, .int h0f3, .int h0f4, .int h0f5, .ref h1, .ref h2, .int h0f8, .int h0f9, .ref h3, .ref h4, .ref h5, .ref h6, .ref h7, .ref h8, .ref h9, .int h0f17, .int h0f18, .int h0f19, .ref h10, .ref h11, .ref h12, .ref h13, .int h0f24, .int h0f25, .ref h14, .ref h15, .ref h16, .ref h17, .int h0f30, .int h0f31, .ref h18, .ref h19, .ref h20, .ref h21]), (h1, aI (k 0) 36 anI), (h4, aJ (k 1) 9 anJ), (h5, aJ (k 1) 9 anJ), (h6, aJ (k 1) 9 anJ), (h10, aJ (k 1) 900 (lsP (h0f9.toInt))), (h11, aI (k 0) 100 anI), (h12, aI (k 0) 100 anI), (h13, aI (k 0) 100 anI)]) (Tr := []) (as := [h0, h1, h4, h5, h6, h10, h11, h12, h13]) (zcV (q0 := 0) (ci := 8) (As := []) (rest := []) (Tc := [(h0, ob 8 [.int h0f0, .int h0f1, .int h0f2, .int h0f3, .int h0f4, .int h0f5, .ref h1, .ref h2, .int h0f8, .int h0f9, .ref h3, .ref h4, .ref h5, .ref h6, .ref h7, .ref h8, .ref h9, .int h0f17, .int h0f18, .int h0f19, .ref h10, .ref h11, .ref h12, .ref h13, .int h0f24, .int h0f25, .ref h14, .ref h15, .ref h16, .ref h17, .int h0f30, .int h0f31, .ref h18, .ref h19, .ref h20, .ref h21]), (h1, aI (k 0) 36 anI), (h4, aJ (k 1) 9 anJ), (h5, aJ (k 1) 9 anJ), (h6, aJ (k 1) 9 anJ), (h10, aJ (k 1) 900 (lsP (h0f9.toInt))), (h11, aI (k 0) 100 anI), (h12, aI (k 0) 100 anI), (h13, aI (k 0) 100 anI)]) hx hb hml hown hU hK hT rfl rfl [0, 1, 2, 3, 4, 5, 6, 7, 8] rfl (by decide) (cX11_findList_9a1c7 l D k _ h0 h1 h4 h5 h6 h10 h11 h12 h13 h2 h3 h7 h8 h9 h14 h15 h16 h17 h18 h19 h20 h21 h0f0 h0f1 h0f2 h0f3 h0f4 h0f5 h0f8 h0f9 h0f17 h0f18 h0f19 h0f24 h0f25 h0f30 h0f31 (by omega) (by omega) (by omega) (by omega) (by omega) (by omega) (by omega) (by omega) (by omega) (by omega) (by omega) (by omega) (by omega) (by omega) (by omega)) w1039 w1036 w1038 w47 w72 hdX11_findList ⟨rfl, rfl⟩ ⟨Nat.le_of_ble_eq_true rfl, Nat.le_of_ble_eq_true rfl⟩ rfl hl.1 (Nat.le_of_ble_eq_true rfl) dX11_still_12 ⟨Nat.le_of_ble_eq_true rfl, Nat.le_of_ble_eq_true rfl⟩) hT hS hA [0, 1, 2, 3, 4, 5, 6, 7, 8] [] rfl rfl rfl (by decide) (by decide) (fun H locs hB J hS => ?_)
    obtain ⟨v268, v269, v270, b_v268, b_v269, b_v270, hT1⟩ := hB
    have hT := J _ hT1
    have hT : TP D A [(h0, ob 8 [.int h0f0, .int h0f1, .int h0f2, .int h0f3, .int h0f4, .int h0f5, .ref h1, .ref h2, .int h0f8, .int v268, .ref h3, .ref h4, .ref h5, .ref h6, .ref h7, .ref h8, .ref h9, .int h0f17, .int h0f18, .int h0f19, .ref h10, .ref h11, .ref h12, .ref h13, .int v269, .int v270, .ref h14, .ref h15, .ref h16, .ref h17, .int h0f30, .int h0f31, .ref h18, .ref h19, .ref h20, .ref h21]), (h1, aI (k 0) 36 anI), (h4, aJ (k 1) 9 anJ), (h5, aJ (k 1) 9 anJ), (h6, aJ (k 1) 9 anJ), (h10, aJ (k 1) 900 (lsP (v268.toInt))), (h11, aI (k 0) 100 anI), (h12, aI (k 0) 100 anI), (h13, aI (k 0) 100 anI)] _ := hT
    refine lv_aload_n hx hb dX11_still_15 rfl (lv_at hl 0 rfl) ?_
    refine tz_get (ci := 8) (v := .int h0f0) (C := RX11) (F := TX11) (N := 36) hx hb hU iX11 hown hK hT 0 rfl rfl 0 (by decide) w785 (fun _ h9 => h9) rfl dX11_still_16 ?_
    refine lv_iconst (v := 1) hx hb dX11_still_19 (by decide) ?_
    refine lv_icmp_le (tgt := 28) hx hb dX11_still_20 (by decide) (fun c_271 => ?_) (fun c_271 => ?_)
    · skip
      have c_271 := ni_le c_271 rfl li_1
      refine lv_lconst (v := 0) hx hb dX11_still_28 (by decide) ?_
      refine lv_lstore (lv' := [(4, .long 0), (0, .ref h0), (1, .int x1), (2, .int x2), (3, .int x3)]) hx hb dX11_still_29 hl (by decide) rfl (fun ls hl => ?_)
      refine lv_aload_n hx hb dX11_still_31 rfl (lv_at hl 1 rfl) ?_
      refine tz_get (ci := 8) (v := .int h0f0) (C := RX11) (F := TX11) (N := 36) hx hb hU iX11 hown hK hT 0 rfl rfl 0 (by decide) w785 (fun _ h9 => h9) rfl dX11_still_32 ?_
      refine lv_iconst (v := 2) hx hb dX11_still_35 (by decide) ?_
      refine lv_icmp_le (tgt := 44) hx hb dX11_still_36 (by decide) (fun c_272 => ?_) (fun c_272 => ?_)
      · skip
        have c_272 := ni_le c_272 rfl li_2
        refine lv_lconst (v := 0) hx hb dX11_still_44 (by decide) ?_
        refine lv_lstore (lv' := [(6, .long 0), (4, .long 0), (0, .ref h0), (1, .int x1), (2, .int x2), (3, .int x3)]) hx hb dX11_still_45 hl (by decide) rfl (fun ls hl => ?_)
        refine lv_iconst (v := 0) hx hb dX11_still_47 (by decide) ?_
        refine lv_istore (lv' := [(8, .int 0), (6, .long 0), (4, .long 0), (0, .ref h0), (1, .int x1), (2, .int x2), (3, .int x3)]) hx hb dX11_still_48 hl (by decide) rfl (fun ls hl => ?_)
        refine lv_iconst (v := 0) hx hb dX11_still_50 (by decide) ?_
        refine lv_istore (lv' := [(9, .int 0), (8, .int 0), (6, .long 0), (4, .long 0), (0, .ref h0), (1, .int x1), (2, .int x2), (3, .int x3)]) hx hb dX11_still_51 hl (by decide) rfl (fun ls hl => ?_)
        exact lp53_223 ((v269.toInt + (-1) * (0 : Int32).toInt + 1).toNat + 1) (0) (0) (0) (0) v268 v269 v270 _ _ _ (by have := li_0; have := ll_0; omega) (by have := li_0; have := ll_0; omega) (by have := li_0; have := ll_0; omega) (by have := li_0; have := ll_0; omega) (by have := li_0; have := ll_0; omega) (by have := li_0; have := ll_0; omega) (by have := li_0; have := ll_0; omega) (Nat.lt_succ_self _) hT hS (lv_sub hl [4, 5, 3, 2, 1, 0] rfl)
      · skip
        have c_272 := ni_nle c_272 rfl li_2
        exfalso; omega
    · skip
      have c_271 := ni_nle c_271 rfl li_1
      refine lv_iload_n hx hb dX11_still_23 rfl (lv_at hl 2 rfl) ?_
      have tb_x2 := i32b x2
      obtain ⟨v273, e_v273⟩ : ∃ x : Int64, x2.toInt64 = x := ⟨_, rfl⟩
      refine lv_i2l (v := v273) hx hb dX11_still_24 e_v273 ?_
      have e_v273 := ai_i2l e_v273 rfl
      refine lv_goto (tgt := 29) hx hb dX11_still_25 (by decide) ?_
      refine lv_lstore (lv' := [(4, .long v273), (0, .ref h0), (1, .int x1), (2, .int x2), (3, .int x3)]) hx hb dX11_still_29 hl (by decide) rfl (fun ls hl => ?_)
      refine lv_aload_n hx hb dX11_still_31 rfl (lv_at hl 1 rfl) ?_
      refine tz_get (ci := 8) (v := .int h0f0) (C := RX11) (F := TX11) (N := 36) hx hb hU iX11 hown hK hT 0 rfl rfl 0 (by decide) w785 (fun _ h9 => h9) rfl dX11_still_32 ?_
      refine lv_iconst (v := 2) hx hb dX11_still_35 (by decide) ?_
      refine lv_icmp_le (tgt := 44) hx hb dX11_still_36 (by decide) (fun c_274 => ?_) (fun c_274 => ?_)
      · skip
        have c_274 := ni_le c_274 rfl li_2
        refine lv_lconst (v := 0) hx hb dX11_still_44 (by decide) ?_
        refine lv_lstore (lv' := [(6, .long 0), (4, .long v273), (0, .ref h0), (1, .int x1), (2, .int x2), (3, .int x3)]) hx hb dX11_still_45 hl (by decide) rfl (fun ls hl => ?_)
        refine lv_iconst (v := 0) hx hb dX11_still_47 (by decide) ?_
        refine lv_istore (lv' := [(8, .int 0), (6, .long 0), (4, .long v273), (0, .ref h0), (1, .int x1), (2, .int x2), (3, .int x3)]) hx hb dX11_still_48 hl (by decide) rfl (fun ls hl => ?_)
        refine lv_iconst (v := 0) hx hb dX11_still_50 (by decide) ?_
        refine lv_istore (lv' := [(9, .int 0), (8, .int 0), (6, .long 0), (4, .long v273), (0, .ref h0), (1, .int x1), (2, .int x2), (3, .int x3)]) hx hb dX11_still_51 hl (by decide) rfl (fun ls hl => ?_)
        exact lp53_223 ((v269.toInt + (-1) * (0 : Int32).toInt + 1).toNat + 1) (0) (0) (0) v273 v268 v269 v270 _ _ _ (by have := li_0; have := ll_0; omega) (by have := li_0; have := ll_0; omega) (by have := li_0; have := ll_0; omega) (by have := li_0; have := ll_0; omega) (by have := li_0; have := ll_0; omega) (by have := li_0; have := ll_0; omega) (by have := li_0; have := ll_0; omega) (Nat.lt_succ_self _) hT hS (lv_sub hl [4, 5, 3, 2, 1, 0] rfl)
      · skip
        have c_274 := ni_nle c_274 rfl li_2
        refine lv_iload_n hx hb dX11_still_39 rfl (lv_at hl 4 rfl) ?_
        have tb_x3 := i32b x3
        obtain ⟨v275, e_v275⟩ : ∃ x : Int64, x3.toInt64 = x := ⟨_, rfl⟩
        refine lv_i2l (v := v275) hx hb dX11_still_40 e_v275 ?_
        have e_v275 := ai_i2l e_v275 rfl
        refine lv_goto (tgt := 45) hx hb dX11_still_41 (by decide) ?_
        refine lv_lstore (lv' := [(6, .long v275), (4, .long v273), (0, .ref h0), (1, .int x1), (2, .int x2), (3, .int x3)]) hx hb dX11_still_45 hl (by decide) rfl (fun ls hl => ?_)
        refine lv_iconst (v := 0) hx hb dX11_still_47 (by decide) ?_
        refine lv_istore (lv' := [(8, .int 0), (6, .long v275), (4, .long v273), (0, .ref h0), (1, .int x1), (2, .int x2), (3, .int x3)]) hx hb dX11_still_48 hl (by decide) rfl (fun ls hl => ?_)
        refine lv_iconst (v := 0) hx hb dX11_still_50 (by decide) ?_
        refine lv_istore (lv' := [(9, .int 0), (8, .int 0), (6, .long v275), (4, .long v273), (0, .ref h0), (1, .int x1), (2, .int x2), (3, .int x3)]) hx hb dX11_still_51 hl (by decide) rfl (fun ls hl => ?_)
        exact lp53_223 ((v269.toInt + (-1) * (0 : Int32).toInt + 1).toNat + 1) (0) (0) v275 v273 v268 v269 v270 _ _ _ (by have := li_0; omega) (by have := li_0; omega) (by have := li_0; omega) (by have := li_0; omega) (by have := li_0; omega) (by have := li_0; omega) (by have := li_0; omega) (Nat.lt_succ_self _) hT hS (lv_sub hl [4, 5, 3, 2, 1, 0] rfl)
  · skip
    have c_266 := ni_eq c_266 rfl li_0
    refine lv_iconst (v := (-1)) hx hb dX11_still_9 (by decide) ?_
    exact tz_retI (B := B_cX11_stillL_70a1e D k h0 h1 h4 h5 h6 h10 h11 h12 h13 h2 h3 h7 h8 h9 h14 h15 h16 h17 h18 h19 h20 h21 x1 x2 x3 h0f0 h0f1 h0f2 h0f3 h0f4 h0f5 h0f8 h0f9 h0f17 h0f18 h0f19 h0f24 h0f25 h0f30 h0f31) (v := (-1)) hQ hx hb hr hlocks hS (Nat.le_of_ble_eq_true rfl) (Nat.le_of_ble_eq_true rfl) dX11_still_10 (⟨h0f9, h0f24, h0f25, (by have := li_m1; omega), (by have := li_m1; omega), (by have := li_m1; omega), (by have := li_m1; omega), hT⟩)
abbrev Rm_cJ7_fill_53178_67fcf : Room := { frames := 0, cells := 0, slots := 0, locals := 0 }
abbrev B_cJ7_fill_53178_67fcf (D : va_G) (k : Nat → ClassId) (h0 : Nat) (x1 : Int32) (A : Nat → Prop) (H : Heap) : Prop := TP D A [(h0, aI (k 0) 8 (rgI 0 0))] H
set_option maxHeartbeats 4000000 in
set_option maxRecDepth 100000 in
theorem cJ7_fill_53178_67fcf (l : Launch) (D : va_G) (k : Nat → ClassId) (sz : Nat) (h0 : Nat) (x1 : Int32) (b_x1 : 0 ≤ x1.toInt ∧ x1.toInt ≤ 0) : Met l yJ7_fill_53178 (Cond.code yJ7_fill_53178 cJ7_fill_53178 4 none :: uw) Rm_cJ7_fill_53178_67fcf (pT D k sz [.ref h0, .int x1] [(h0, aI (k 0) 8 (rgI 0 0))]) (qV (B_cJ7_fill_53178_67fcf D k h0 x1 (zA [h0] sz)) (zA [h0] sz)) 0 0 (zA [h0] sz) := by
  refine tz_begin (as := [h0]) (Qc := fun A => qV (B_cJ7_fill_53178_67fcf D k h0 x1 A) A) (by decide +kernel) rfl (Nat.le_of_ble_eq_true rfl) ?_
  intro p e s m args below meth c ls A Q hx hb hr hml hown hlocks hin hU hK hT hS hA hl hQ
  have hl : lv_has ls 4 [(0, .ref h0), (1, .int x1)] := hl
  have hT : TP D A [(h0, aI (k 0) 8 (rgI 0 0))] s.heap := hT
  refine lv_iconst (v := 0) hx hb dJ7_fill_53178_0 (by decide) ?_
  refine lv_istore_n (lv' := [(2, .int 0), (0, .ref h0), (1, .int x1)]) hx hb dJ7_fill_53178_1 rfl hl (by decide) rfl (fun ls hl => ?_)
  refine lv_aload_n hx hb dJ7_fill_53178_2 rfl (lv_at hl 1 rfl) ?_
  refine tz_aleni (v := 8) hx hb hK hT 0 rfl (by decide +kernel) dJ7_fill_53178_3 ?_
  refine lv_istore_n (lv' := [(3, .int 8), (2, .int 0), (0, .ref h0), (1, .int x1)]) hx hb dJ7_fill_53178_4 rfl hl (by decide) rfl (fun ls hl => ?_)
  have lp5_7 : ∀ (n : Nat) (y6 : Int32) (H : Heap) (locs : List Loc) (ls : Array Slot), (0 ≤ y6.toInt ∧ y6.toInt ≤ 8) → ((-1) * y6.toInt + 8 + 1).toNat < n → TP D A [(h0, aI (k 0) 8 (rgI 0 0))] H → va_S A s.heap H locs → lv_has ls 4 [(0, .ref h0), (1, .int x1), (2, .int y6), (3, .int 8)] → W p l e Rm_cJ7_fill_53178_67fcf s m args below meth c H locs 0 0 Q (F0 m 5 ls []) := by
    intro n
    induction n with
    | zero => intro y6 H locs ls b_y6 hm hT hS hl; exact absurd hm (Nat.not_lt_zero _)
    | succ n ih =>
      intro y6 H locs ls b_y6 hm hT hS hl
      have ih5_7 := ih
      clear ih
      refine lv_iload_n hx hb dJ7_fill_53178_5 rfl (lv_at hl 2 rfl) ?_
      refine lv_iload_n hx hb dJ7_fill_53178_6 rfl (lv_at hl 3 rfl) ?_
      refine lv_icmp_ge (tgt := 20) hx hb dJ7_fill_53178_7 (by decide) (fun c_8 => ?_) (fun c_8 => ?_)
      · skip
        have c_8 := ni_le c_8 li_8 rfl
        exact tz_retV (B := B_cJ7_fill_53178_67fcf D k h0 x1) hQ hx hb hr hlocks hS (Nat.le_of_ble_eq_true rfl) (Nat.le_of_ble_eq_true rfl) dJ7_fill_53178_20 (hT)
      · skip
        have c_8 := ni_nle c_8 li_8 rfl
        refine lv_aload_n hx hb dJ7_fill_53178_10 rfl (lv_at hl 0 rfl) ?_
        refine lv_iload_n hx hb dJ7_fill_53178_11 rfl (lv_at hl 2 rfl) ?_
        refine lv_iload_n hx hb dJ7_fill_53178_12 rfl (lv_at hl 1 rfl) ?_
        refine tz_iast hx hb hK hT hS 0 rfl (by omega) (rg_put (by omega)) dJ7_fill_53178_13 (fun H locs hT hS => ?_)
        obtain ⟨v9, e_v9⟩ : ∃ x : Int32, x = y6 + Int32.ofInt 1 := ⟨_, rfl⟩
        have f_v9 := e_v9.symm
        have e_v9 : v9.toInt = y6.toInt + 1 := ai_add e_v9 rfl (show (Int32.ofInt 1).toInt = 1 from (by decide +kernel)) (by omega)
        refine lv_iinc (v := v9) (lv' := [(2, .int v9), (0, .ref h0), (1, .int x1), (3, .int 8)]) hx hb dJ7_fill_53178_14 hl (k := 2) rfl f_v9 (by decide) rfl (fun ls hl => ?_)
        refine lv_goto (tgt := 5) hx hb dJ7_fill_53178_17 (by decide) ?_
        exact ih5_7 v9 _ _ _ (by omega)  (by omega) hT hS (lv_sub hl [1, 2, 0, 3] rfl)
  exact lp5_7 (((-1) * (0 : Int32).toInt + 8 + 1).toNat + 1) (0) _ _ _ (by have := li_0; omega)  (Nat.lt_succ_self _) hT hS (lv_sub hl [2, 3, 1, 0] rfl)
abbrev Rm_cX10_forgetWhatCame_68566 : Room := { frames := 1, cells := 0, slots := 0, locals := 23 }
abbrev B_cX10_forgetWhatCame_68566 (D : va_G) (k : Nat → ClassId) (h0 h7 h1 h2 h3 h4 h5 h6 h8 h9 h10 h11 h12 : Nat) (h0f2 : Int32) (h0f6 : Int32) (h0f8 : Int32) (h0f11 : Int32) (A : Nat → Prop) (H : Heap) : Prop := TP D A [(h0, ob 7 [.ref h1, .ref h2, .int h0f2, .ref h3, .ref h4, .ref h5, .int 0, .ref h6, .int 0, .null, .ref h7, .int h0f11, .ref h8, .ref h9, .ref h10, .ref h11, .ref h12]), (h7, aI (k 0) 8 (rgI 0 0))] H
set_option maxHeartbeats 4000000 in
set_option maxRecDepth 100000 in
theorem cX10_forgetWhatCame_68566 (l : Launch) (D : va_G) (k : Nat → ClassId) (sz : Nat) (h0 h7 h1 h2 h3 h4 h5 h6 h8 h9 h10 h11 h12 : Nat) (h0f2 : Int32) (h0f6 : Int32) (h0f8 : Int32) (h0f11 : Int32) (b_h0f2 : 0 ≤ h0f2.toInt ∧ h0f2.toInt ≤ 1) (b_h0f6 : 0 ≤ h0f6.toInt ∧ h0f6.toInt ≤ 1) (b_h0f8 : 0 ≤ h0f8.toInt ∧ h0f8.toInt ≤ 1) (b_h0f11 : 0 ≤ h0f11.toInt ∧ h0f11.toInt ≤ 200) : Met l yX10_forgetWhatCame (Cond.code yX10_forgetWhatCame cX10_forgetWhatCame 1 none :: uw) Rm_cX10_forgetWhatCame_68566 (pT D k sz [.ref h0] [(h0, ob 7 [.ref h1, .ref h2, .int h0f2, .ref h3, .ref h4, .ref h5, .int h0f6, .ref h6, .int h0f8, .null, .ref h7, .int h0f11, .ref h8, .ref h9, .ref h10, .ref h11, .ref h12]), (h7, aI (k 0) 8 (rgI 0 0))]) (qV (B_cX10_forgetWhatCame_68566 D k h0 h7 h1 h2 h3 h4 h5 h6 h8 h9 h10 h11 h12 h0f2 h0f6 h0f8 h0f11 (zA [h0, h7] sz)) (zA [h0, h7] sz)) 0 0 (zA [h0, h7] sz) := by
  refine tz_begin (as := [h0, h7]) (Qc := fun A => qV (B_cX10_forgetWhatCame_68566 D k h0 h7 h1 h2 h3 h4 h5 h6 h8 h9 h10 h11 h12 h0f2 h0f6 h0f8 h0f11 A) A) (by decide +kernel) rfl (Nat.le_of_ble_eq_true rfl) ?_
  intro p e s m args below meth c ls A Q hx hb hr hml hown hlocks hin hU hK hT hS hA hl hQ
  have hl : lv_has ls 1 [(0, .ref h0)] := hl
  have hT : TP D A [(h0, ob 7 [.ref h1, .ref h2, .int h0f2, .ref h3, .ref h4, .ref h5, .int h0f6, .ref h6, .int h0f8, .null, .ref h7, .int h0f11, .ref h8, .ref h9, .ref h10, .ref h11, .ref h12]), (h7, aI (k 0) 8 (rgI 0 0))] s.heap := hT
  refine lv_aload_n hx hb dX10_forgetWhatCame_0 rfl (lv_at hl 0 rfl) ?_
  refine lv_iconst (v := 0) hx hb dX10_forgetWhatCame_1 (by decide) ?_
  refine tz_put (ci := 7) (v := .int 0) (ty := .boolean) (C := RX10) (F := TX10) (N := 17) hx hb hU iX10 tyX10 tyX10_ok nmX10 hown hK hT hS 0 rfl rfl 6 (by decide) w255 (fun _ h9 => h9) rfl (by decide +kernel) rfl rfl (Nat.le_of_ble_eq_true rfl) dX10_forgetWhatCame_2 (fun H locs hT hS => ?_)
  have hT : TP D A [(h0, ob 7 [.ref h1, .ref h2, .int h0f2, .ref h3, .ref h4, .ref h5, .int 0, .ref h6, .int h0f8, .null, .ref h7, .int h0f11, .ref h8, .ref h9, .ref h10, .ref h11, .ref h12]), (h7, aI (k 0) 8 (rgI 0 0))] _ := hT
  refine lv_aload_n hx hb dX10_forgetWhatCame_5 rfl (lv_at hl 0 rfl) ?_
  refine lv_iconst (v := 0) hx hb dX10_forgetWhatCame_6 (by decide) ?_
  refine tz_put (ci := 7) (v := .int 0) (ty := .boolean) (C := RX10) (F := TX10) (N := 17) hx hb hU iX10 tyX10 tyX10_ok nmX10 hown hK hT hS 0 rfl rfl 8 (by decide) w257 (fun _ h9 => h9) rfl (by decide +kernel) rfl rfl (Nat.le_of_ble_eq_true rfl) dX10_forgetWhatCame_7 (fun H locs hT hS => ?_)
  have hT : TP D A [(h0, ob 7 [.ref h1, .ref h2, .int h0f2, .ref h3, .ref h4, .ref h5, .int 0, .ref h6, .int 0, .null, .ref h7, .int h0f11, .ref h8, .ref h9, .ref h10, .ref h11, .ref h12]), (h7, aI (k 0) 8 (rgI 0 0))] _ := hT
  refine lv_aload_n hx hb dX10_forgetWhatCame_10 rfl (lv_at hl 0 rfl) ?_
  refine tz_get (ci := 7) (v := .ref h7) (C := RX10) (F := TX10) (N := 17) hx hb hU iX10 hown hK hT 0 rfl rfl 10 (by decide) w259 (fun _ h9 => h9) rfl dX10_forgetWhatCame_11 ?_
  refine lv_iconst (v := 0) hx hb dX10_forgetWhatCame_14 (by decide) ?_
  have q_q2 := li_0
  refine tcV (Tc := [(h7, aI (k 0) 8 (rgI 0 0))]) (Tr := [(h0, ob 7 [.ref h1, .ref h2, .int h0f2, .ref h3, .ref h4, .ref h5, .int 0, .ref h6, .int 0, .null, .ref h7, .int h0f11, .ref h8, .ref h9, .ref h10, .ref h11, .ref h12])]) (as := [h7]) (zcS (As := [.ref h7, .int 0]) (rest := []) (Tc := [(h7, aI (k 0) 8 (rgI 0 0))]) hx hb hml hown hU hK hT [1] rfl (by decide) (cJ7_fill_53178_67fcf l D k _ h7 (0) (by have := li_0; omega)) w311 w309 w310 w73 hdJ7_fill_53178 ⟨rfl, rfl⟩ ⟨Nat.le_of_ble_eq_true rfl, Nat.le_of_ble_eq_true rfl⟩ rfl hl.1 (Nat.le_of_ble_eq_true rfl) dX10_forgetWhatCame_15 ⟨Nat.le_of_ble_eq_true rfl, Nat.le_of_ble_eq_true rfl⟩) hT hS hA [1] [0] rfl rfl rfl (by decide) (by decide) (fun H locs hB J hS => ?_)
  have hT1 := hB
  have hT := J _ hT1
  have hT : TP D A [(h0, ob 7 [.ref h1, .ref h2, .int h0f2, .ref h3, .ref h4, .ref h5, .int 0, .ref h6, .int 0, .null, .ref h7, .int h0f11, .ref h8, .ref h9, .ref h10, .ref h11, .ref h12]), (h7, aI (k 0) 8 (rgI 0 0))] _ := hT
  exact tz_retV (B := B_cX10_forgetWhatCame_68566 D k h0 h7 h1 h2 h3 h4 h5 h6 h8 h9 h10 h11 h12 h0f2 h0f6 h0f8 h0f11) hQ hx hb hr hlocks hS (Nat.le_of_ble_eq_true rfl) (Nat.le_of_ble_eq_true rfl) dX10_forgetWhatCame_18 (hT)
abbrev Rm_cX10_size_65a11 : Room := { frames := 2, cells := 0, slots := 0, locals := 43 }
abbrev B_cX10_size_65a11 (D : va_G) (k : Nat → ClassId) (h0 h1 h7 h2 h3 h4 h5 h6 h8 h9 h10 h11 h12 h13 : Nat) (x1 : Int32) (h0f2 : Int32) (h0f6 : Int32) (h0f8 : Int32) (h0f11 : Int32) (h1f0 : Int32) (h1f1 : Int32) (h1f2 : Int32) (A : Nat → Prop) (r : Int32) (H : Heap) : Prop := ∃ o0 : Int32, ∃ o1 : Int32, ∃ o2 : Int32, ∃ o3 : Int32, (0 ≤ o0.toInt ∧ o0.toInt ≤ 1) ∧ (0 ≤ o1.toInt ∧ o1.toInt ≤ 1) ∧ (1 ≤ o2.toInt ∧ o2.toInt ≤ 3) ∧ (0 ≤ o3.toInt ∧ o3.toInt ≤ 4) ∧ ((-1) ≤ r.toInt ∧ r.toInt ≤ 3) ∧ TP D A [(h0, ob 7 [.ref h1, .ref h2, .int h0f2, .ref h3, .ref h4, .ref h5, .int o0, .ref h6, .int o1, .null, .ref h7, .int h0f11, .ref h8, .ref h9, .ref h10, .ref h11, .ref h12]), (h1, ob 4 [.int o2, .int o3, .int h1f2, .ref h13]), (h7, aI (k 0) 8 (rgI 0 0))] H
set_option maxHeartbeats 4000000 in
set_option maxRecDepth 100000 in
theorem cX10_size_65a11 (l : Launch) (D : va_G) (k : Nat → ClassId) (sz : Nat) (h0 h1 h7 h2 h3 h4 h5 h6 h8 h9 h10 h11 h12 h13 : Nat) (x1 : Int32) (h0f2 : Int32) (h0f6 : Int32) (h0f8 : Int32) (h0f11 : Int32) (h1f0 : Int32) (h1f1 : Int32) (h1f2 : Int32) (b_h0f2 : 0 ≤ h0f2.toInt ∧ h0f2.toInt ≤ 1) (b_h0f6 : 0 ≤ h0f6.toInt ∧ h0f6.toInt ≤ 1) (b_h0f8 : 0 ≤ h0f8.toInt ∧ h0f8.toInt ≤ 1) (b_h0f11 : 0 ≤ h0f11.toInt ∧ h0f11.toInt ≤ 200) (b_h1f0 : 1 ≤ h1f0.toInt ∧ h1f0.toInt ≤ 3) (b_h1f1 : 0 ≤ h1f1.toInt ∧ h1f1.toInt ≤ 4) : Met l yX10_size (Cond.code yX10_size cX10_size 3 (some .int) :: uw) Rm_cX10_size_65a11 (pT D k sz [.ref h0, .int x1] [(h0, ob 7 [.ref h1, .ref h2, .int h0f2, .ref h3, .ref h4, .ref h5, .int h0f6, .ref h6, .int h0f8, .null, .ref h7, .int h0f11, .ref h8, .ref h9, .ref h10, .ref h11, .ref h12]), (h1, ob 4 [.int h1f0, .int h1f1, .int h1f2, .ref h13]), (h7, aI (k 0) 8 (rgI 0 0))]) (qI (B_cX10_size_65a11 D k h0 h1 h7 h2 h3 h4 h5 h6 h8 h9 h10 h11 h12 h13 x1 h0f2 h0f6 h0f8 h0f11 h1f0 h1f1 h1f2 (zA [h0, h1, h7] sz)) (zA [h0, h1, h7] sz)) 0 0 (zA [h0, h1, h7] sz) := by
  refine tz_begin (as := [h0, h1, h7]) (Qc := fun A => qI (B_cX10_size_65a11 D k h0 h1 h7 h2 h3 h4 h5 h6 h8 h9 h10 h11 h12 h13 x1 h0f2 h0f6 h0f8 h0f11 h1f0 h1f1 h1f2 A) A) (by decide +kernel) rfl (Nat.le_of_ble_eq_true rfl) ?_
  intro p e s m args below meth c ls A Q hx hb hr hml hown hlocks hin hU hK hT hS hA hl hQ
  have hl : lv_has ls 3 [(0, .ref h0), (1, .int x1)] := hl
  have hT : TP D A [(h0, ob 7 [.ref h1, .ref h2, .int h0f2, .ref h3, .ref h4, .ref h5, .int h0f6, .ref h6, .int h0f8, .null, .ref h7, .int h0f11, .ref h8, .ref h9, .ref h10, .ref h11, .ref h12]), (h1, ob 4 [.int h1f0, .int h1f1, .int h1f2, .ref h13]), (h7, aI (k 0) 8 (rgI 0 0))] s.heap := hT
  refine lv_iload_n hx hb dX10_size_0 rfl (lv_at hl 1 rfl) ?_
  refine lv_iconst (v := 1) hx hb dX10_size_1 (by decide) ?_
  refine lv_icmp_lt (tgt := 10) hx hb dX10_size_2 (by decide) (fun c_1 => ?_) (fun c_1 => ?_)
  · skip
    have c_1 := ni_lt c_1 rfl li_1
    refine lv_iconst (v := (-1)) hx hb dX10_size_10 (by decide) ?_
    exact tz_retI (B := B_cX10_size_65a11 D k h0 h1 h7 h2 h3 h4 h5 h6 h8 h9 h10 h11 h12 h13 x1 h0f2 h0f6 h0f8 h0f11 h1f0 h1f1 h1f2) (v := (-1)) hQ hx hb hr hlocks hS (Nat.le_of_ble_eq_true rfl) (Nat.le_of_ble_eq_true rfl) dX10_size_11 (⟨h0f6, h0f8, h1f0, h1f1, (by have := li_m1; omega), (by have := li_m1; omega), (by have := li_m1; omega), (by have := li_m1; omega), (by have := li_m1; omega), hT⟩)
  · skip
    have c_1 := ni_nlt c_1 rfl li_1
    refine lv_iload_n hx hb dX10_size_5 rfl (lv_at hl 1 rfl) ?_
    refine lv_iconst (v := 3) hx hb dX10_size_6 (by decide) ?_
    refine lv_icmp_le (tgt := 12) hx hb dX10_size_7 (by decide) (fun c_2 => ?_) (fun c_2 => ?_)
    · skip
      have c_2 := ni_le c_2 rfl li_3
      refine lv_aload_n hx hb dX10_size_12 rfl (lv_at hl 0 rfl) ?_
      refine tz_get (ci := 7) (v := .ref h1) (C := RX10) (F := TX10) (N := 17) hx hb hU iX10 hown hK hT 0 rfl rfl 0 (by decide) w249 (fun _ h9 => h9) rfl dX10_size_13 ?_
      refine tz_get (ci := 4) (v := .int h1f0) (C := RX5) (F := TX5) (N := 4) hx hb hU iX5 hown hK hT 1 rfl rfl 0 (by decide) w93 (fun _ h9 => h9) rfl dX10_size_16 ?_
      refine lv_istore_n (lv' := [(2, .int h1f0), (0, .ref h0), (1, .int x1)]) hx hb dX10_size_19 rfl hl (by decide) rfl (fun ls hl => ?_)
      refine lv_iload_n hx hb dX10_size_20 rfl (lv_at hl 2 rfl) ?_
      refine lv_iload_n hx hb dX10_size_21 rfl (lv_at hl 0 rfl) ?_
      refine lv_icmp_eq (tgt := 45) hx hb dX10_size_22 (by decide) (fun c_3 => ?_) (fun c_3 => ?_)
      · skip
        have c_3 := ni_eq c_3 rfl rfl
        refine lv_iload_n hx hb dX10_size_45 rfl (lv_at hl 0 rfl) ?_
        exact tz_retI (B := B_cX10_size_65a11 D k h0 h1 h7 h2 h3 h4 h5 h6 h8 h9 h10 h11 h12 h13 x1 h0f2 h0f6 h0f8 h0f11 h1f0 h1f1 h1f2) (v := h1f0) hQ hx hb hr hlocks hS (Nat.le_of_ble_eq_true rfl) (Nat.le_of_ble_eq_true rfl) dX10_size_46 (⟨h0f6, h0f8, h1f0, h1f1, (by omega), (by omega), (by omega), (by omega), (by omega), hT⟩)
      · skip
        have c_3 := ni_ne c_3 rfl rfl
        refine lv_aload_n hx hb dX10_size_25 rfl (lv_at hl 1 rfl) ?_
        refine tz_get (ci := 7) (v := .ref h1) (C := RX10) (F := TX10) (N := 17) hx hb hU iX10 hown hK hT 0 rfl rfl 0 (by decide) w249 (fun _ h9 => h9) rfl dX10_size_26 ?_
        refine lv_iload_n hx hb dX10_size_29 rfl (lv_at hl 2 rfl) ?_
        refine tz_put (ci := 4) (v := .int x1) (ty := .int) (C := RX5) (F := TX5) (N := 4) hx hb hU iX5 tyX5 tyX5_ok nmX5 hown hK hT hS 1 rfl rfl 0 (by decide) w93 (fun _ h9 => h9) rfl (by decide +kernel) rfl rfl (Nat.le_of_ble_eq_true rfl) dX10_size_30 (fun H locs hT hS => ?_)
        have hT : TP D A [(h0, ob 7 [.ref h1, .ref h2, .int h0f2, .ref h3, .ref h4, .ref h5, .int h0f6, .ref h6, .int h0f8, .null, .ref h7, .int h0f11, .ref h8, .ref h9, .ref h10, .ref h11, .ref h12]), (h1, ob 4 [.int x1, .int h1f1, .int h1f2, .ref h13]), (h7, aI (k 0) 8 (rgI 0 0))] _ := hT
        refine lv_aload_n hx hb dX10_size_33 rfl (lv_at hl 1 rfl) ?_
        refine tz_get (ci := 7) (v := .ref h1) (C := RX10) (F := TX10) (N := 17) hx hb hU iX10 hown hK hT 0 rfl rfl 0 (by decide) w249 (fun _ h9 => h9) rfl dX10_size_34 ?_
        refine lv_iconst (v := 0) hx hb dX10_size_37 (by decide) ?_
        refine tz_put (ci := 4) (v := .int 0) (ty := .int) (C := RX5) (F := TX5) (N := 4) hx hb hU iX5 tyX5 tyX5_ok nmX5 hown hK hT hS 1 rfl rfl 1 (by decide) w97 (fun _ h9 => h9) rfl (by decide +kernel) rfl rfl (Nat.le_of_ble_eq_true rfl) dX10_size_38 (fun H locs hT hS => ?_)
        have hT : TP D A [(h0, ob 7 [.ref h1, .ref h2, .int h0f2, .ref h3, .ref h4, .ref h5, .int h0f6, .ref h6, .int h0f8, .null, .ref h7, .int h0f11, .ref h8, .ref h9, .ref h10, .ref h11, .ref h12]), (h1, ob 4 [.int x1, .int 0, .int h1f2, .ref h13]), (h7, aI (k 0) 8 (rgI 0 0))] _ := hT
        refine lv_aload_n hx hb dX10_size_41 rfl (lv_at hl 1 rfl) ?_
        refine tcV (Tc := [(h0, ob 7 [.ref h1, .ref h2, .int h0f2, .ref h3, .ref h4, .ref h5, .int h0f6, .ref h6, .int h0f8, .null, .ref h7, .int h0f11, .ref h8, .ref h9, .ref h10, .ref h11, .ref h12]), (h7, aI (k 0) 8 (rgI 0 0))]) (Tr := [(h1, ob 4 [.int x1, .int 0, .int h1f2, .ref h13])]) (as := [h0, h7]) (zcV (q0 := 0) (ci := 7) (As := []) (rest := []) (Tc := [(h0, ob 7 [.ref h1, .ref h2, .int h0f2, .ref h3, .ref h4, .ref h5, .int h0f6, .ref h6, .int h0f8, .null, .ref h7, .int h0f11, .ref h8, .ref h9, .ref h10, .ref h11, .ref h12]), (h7, aI (k 0) 8 (rgI 0 0))]) hx hb hml hown hU hK hT rfl rfl [0, 2] rfl (by decide) (cX10_forgetWhatCame_68566 l D k _ h0 h7 h1 h2 h3 h4 h5 h6 h8 h9 h10 h11 h12 h0f2 h0f6 h0f8 h0f11 (by omega) (by omega) (by omega) (by omega)) w308 w305 w307 w0 w63 hdX10_forgetWhatCame ⟨rfl, rfl⟩ ⟨Nat.le_of_ble_eq_true rfl, Nat.le_of_ble_eq_true rfl⟩ rfl hl.1 (Nat.le_of_ble_eq_true rfl) dX10_size_42 ⟨Nat.le_of_ble_eq_true rfl, Nat.le_of_ble_eq_true rfl⟩) hT hS hA [0, 2] [1] rfl rfl rfl (by decide) (by decide) (fun H locs hB J hS => ?_)
        have hT1 := hB
        have hT := J _ hT1
        have hT : TP D A [(h1, ob 4 [.int x1, .int 0, .int h1f2, .ref h13]), (h0, ob 7 [.ref h1, .ref h2, .int h0f2, .ref h3, .ref h4, .ref h5, .int 0, .ref h6, .int 0, .null, .ref h7, .int h0f11, .ref h8, .ref h9, .ref h10, .ref h11, .ref h12]), (h7, aI (k 0) 8 (rgI 0 0))] _ := hT
        refine lv_iload_n hx hb dX10_size_45 rfl (lv_at hl 0 rfl) ?_
        exact tz_retI (B := B_cX10_size_65a11 D k h0 h1 h7 h2 h3 h4 h5 h6 h8 h9 h10 h11 h12 h13 x1 h0f2 h0f6 h0f8 h0f11 h1f0 h1f1 h1f2) (v := h1f0) hQ hx hb hr hlocks hS (Nat.le_of_ble_eq_true rfl) (Nat.le_of_ble_eq_true rfl) dX10_size_46 (⟨0, 0, x1, 0, (by have := li_0; omega), (by have := li_0; omega), (by have := li_0; omega), (by have := li_0; omega), (by have := li_0; omega), (hT.sub [1, 0, 2] (by decide) rfl)⟩)
    · skip
      have c_2 := ni_nle c_2 rfl li_3
      refine lv_iconst (v := (-1)) hx hb dX10_size_10 (by decide) ?_
      exact tz_retI (B := B_cX10_size_65a11 D k h0 h1 h7 h2 h3 h4 h5 h6 h8 h9 h10 h11 h12 h13 x1 h0f2 h0f6 h0f8 h0f11 h1f0 h1f1 h1f2) (v := (-1)) hQ hx hb hr hlocks hS (Nat.le_of_ble_eq_true rfl) (Nat.le_of_ble_eq_true rfl) dX10_size_11 (⟨h0f6, h0f8, h1f0, h1f1, (by have := li_m1; omega), (by have := li_m1; omega), (by have := li_m1; omega), (by have := li_m1; omega), (by have := li_m1; omega), hT⟩)
abbrev Rm_cX10_addSquare_58103 : Room := { frames := 2, cells := 0, slots := 0, locals := 47 }
abbrev B_cX10_addSquare_58103 (D : va_G) (k : Nat → ClassId) (h0 h1 h7 h11 h13 h2 h3 h4 h5 h6 h8 h9 h10 h12 : Nat) (h0f2 : Int32) (h0f6 : Int32) (h0f8 : Int32) (h0f11 : Int32) (h1f0 : Int32) (h1f1 : Int32) (h1f2 : Int32) (A : Nat → Prop) (r : Int32) (H : Heap) : Prop := ∃ o0 : Int32, (0 ≤ o0.toInt ∧ o0.toInt ≤ 4) ∧ ((-2) ≤ r.toInt ∧ r.toInt ≤ 3) ∧ TP D A [(h0, ob 7 [.ref h1, .ref h2, .int h0f2, .ref h3, .ref h4, .ref h5, .int 0, .ref h6, .int 0, .null, .ref h7, .int h0f11, .ref h8, .ref h9, .ref h10, .ref h11, .ref h12]), (h1, ob 4 [.int h1f0, .int o0, .int h1f2, .ref h13]), (h7, aI (k 0) 8 (rgI 0 0)), (h11, aJ (k 1) 9 anJ), (h13, aJ (k 1) 36 anJ)] H
set_option maxHeartbeats 4000000 in
set_option maxRecDepth 100000 in
theorem cX10_addSquare_58103 (l : Launch) (D : va_G) (k : Nat → ClassId) (sz : Nat) (h0 h1 h7 h11 h13 h2 h3 h4 h5 h6 h8 h9 h10 h12 : Nat) (h0f2 : Int32) (h0f6 : Int32) (h0f8 : Int32) (h0f11 : Int32) (h1f0 : Int32) (h1f1 : Int32) (h1f2 : Int32) (b_h0f2 : 0 ≤ h0f2.toInt ∧ h0f2.toInt ≤ 1) (b_h0f6 : 0 ≤ h0f6.toInt ∧ h0f6.toInt ≤ 1) (b_h0f8 : 0 ≤ h0f8.toInt ∧ h0f8.toInt ≤ 1) (b_h0f11 : 0 ≤ h0f11.toInt ∧ h0f11.toInt ≤ 200) (b_h1f0 : 1 ≤ h1f0.toInt ∧ h1f0.toInt ≤ 3) (b_h1f1 : 0 ≤ h1f1.toInt ∧ h1f1.toInt ≤ 3) : Met l yX10_addSquare (Cond.code yX10_addSquare cX10_addSquare 2 (some .int) :: uw) Rm_cX10_addSquare_58103 (pT D k sz [.ref h0] [(h0, ob 7 [.ref h1, .ref h2, .int h0f2, .ref h3, .ref h4, .ref h5, .int h0f6, .ref h6, .int h0f8, .null, .ref h7, .int h0f11, .ref h8, .ref h9, .ref h10, .ref h11, .ref h12]), (h1, ob 4 [.int h1f0, .int h1f1, .int h1f2, .ref h13]), (h7, aI (k 0) 8 (rgI 0 0)), (h11, aJ (k 1) 9 anJ), (h13, aJ (k 1) 36 anJ)]) (qI (B_cX10_addSquare_58103 D k h0 h1 h7 h11 h13 h2 h3 h4 h5 h6 h8 h9 h10 h12 h0f2 h0f6 h0f8 h0f11 h1f0 h1f1 h1f2 (zA [h0, h1, h7, h11, h13] sz)) (zA [h0, h1, h7, h11, h13] sz)) 0 0 (zA [h0, h1, h7, h11, h13] sz) := by
  refine tz_begin (as := [h0, h1, h7, h11, h13]) (Qc := fun A => qI (B_cX10_addSquare_58103 D k h0 h1 h7 h11 h13 h2 h3 h4 h5 h6 h8 h9 h10 h12 h0f2 h0f6 h0f8 h0f11 h1f0 h1f1 h1f2 A) A) (by decide +kernel) rfl (Nat.le_of_ble_eq_true rfl) ?_
  intro p e s m args below meth c ls A Q hx hb hr hml hown hlocks hin hU hK hT hS hA hl hQ
  have hl : lv_has ls 2 [(0, .ref h0)] := hl
  have hT : TP D A [(h0, ob 7 [.ref h1, .ref h2, .int h0f2, .ref h3, .ref h4, .ref h5, .int h0f6, .ref h6, .int h0f8, .null, .ref h7, .int h0f11, .ref h8, .ref h9, .ref h10, .ref h11, .ref h12]), (h1, ob 4 [.int h1f0, .int h1f1, .int h1f2, .ref h13]), (h7, aI (k 0) 8 (rgI 0 0)), (h11, aJ (k 1) 9 anJ), (h13, aJ (k 1) 36 anJ)] s.heap := hT
  refine lv_aload_n hx hb dX10_addSquare_0 rfl (lv_at hl 0 rfl) ?_
  refine tz_get (ci := 7) (v := .ref h1) (C := RX10) (F := TX10) (N := 17) hx hb hU iX10 hown hK hT 0 rfl rfl 0 (by decide) w249 (fun _ h9 => h9) rfl dX10_addSquare_1 ?_
  refine lv_aload_n hx hb dX10_addSquare_4 rfl (lv_at hl 0 rfl) ?_
  refine tz_get (ci := 7) (v := .ref h11) (C := RX10) (F := TX10) (N := 17) hx hb hU iX10 hown hK hT 0 rfl rfl 15 (by decide) w264 (fun _ h9 => h9) rfl dX10_addSquare_5 ?_
  refine tcI (Tc := [(h1, ob 4 [.int h1f0, .int h1f1, .int h1f2, .ref h13]), (h11, aJ (k 1) 9 anJ), (h13, aJ (k 1) 36 anJ)]) (Tr := [(h0, ob 7 [.ref h1, .ref h2, .int h0f2, .ref h3, .ref h4, .ref h5, .int h0f6, .ref h6, .int h0f8, .null, .ref h7, .int h0f11, .ref h8, .ref h9, .ref h10, .ref h11, .ref h12]), (h7, aI (k 0) 8 (rgI 0 0))]) (as := [h1, h11, h13]) (zcV (q0 := 1) (ci := 4) (As := [.ref h11]) (rest := []) (Tc := [(h1, ob 4 [.int h1f0, .int h1f1, .int h1f2, .ref h13]), (h11, aJ (k 1) 9 anJ), (h13, aJ (k 1) 36 anJ)]) hx hb hml hown hU hK hT rfl rfl [1, 3, 4] rfl (by decide) (cX5_append_eb78b l D k _ h1 h11 h13 h1f0 h1f1 h1f2 (by omega) (by omega)) w344 w341 w342 w343 w64 hdX5_append ⟨rfl, rfl⟩ ⟨Nat.le_of_ble_eq_true rfl, Nat.le_of_ble_eq_true rfl⟩ rfl hl.1 (Nat.le_of_ble_eq_true rfl) dX10_addSquare_8 ⟨Nat.le_of_ble_eq_true rfl, Nat.le_of_ble_eq_true rfl⟩) hT hS hA [1, 3, 4] [0, 2] rfl rfl rfl (by decide) (by decide) (fun r1 H locs hB J hS => ?_)
  obtain ⟨v2, b_v2, b_r1, hT1⟩ := hB
  have hT := J _ hT1
  have hT : TP D A [(h0, ob 7 [.ref h1, .ref h2, .int h0f2, .ref h3, .ref h4, .ref h5, .int h0f6, .ref h6, .int h0f8, .null, .ref h7, .int h0f11, .ref h8, .ref h9, .ref h10, .ref h11, .ref h12]), (h7, aI (k 0) 8 (rgI 0 0)), (h1, ob 4 [.int h1f0, .int v2, .int h1f2, .ref h13]), (h11, aJ (k 1) 9 anJ), (h13, aJ (k 1) 36 anJ)] _ := hT
  refine lv_istore_n (lv' := [(1, .int r1), (0, .ref h0)]) hx hb dX10_addSquare_11 rfl hl (by decide) rfl (fun ls hl => ?_)
  refine lv_aload_n hx hb dX10_addSquare_12 rfl (lv_at hl 1 rfl) ?_
  refine tcV (Tc := [(h0, ob 7 [.ref h1, .ref h2, .int h0f2, .ref h3, .ref h4, .ref h5, .int h0f6, .ref h6, .int h0f8, .null, .ref h7, .int h0f11, .ref h8, .ref h9, .ref h10, .ref h11, .ref h12]), (h7, aI (k 0) 8 (rgI 0 0))]) (Tr := [(h1, ob 4 [.int h1f0, .int v2, .int h1f2, .ref h13]), (h11, aJ (k 1) 9 anJ), (h13, aJ (k 1) 36 anJ)]) (as := [h0, h7]) (zcV (q0 := 0) (ci := 7) (As := []) (rest := []) (Tc := [(h0, ob 7 [.ref h1, .ref h2, .int h0f2, .ref h3, .ref h4, .ref h5, .int h0f6, .ref h6, .int h0f8, .null, .ref h7, .int h0f11, .ref h8, .ref h9, .ref h10, .ref h11, .ref h12]), (h7, aI (k 0) 8 (rgI 0 0))]) hx hb hml hown hU hK hT rfl rfl [0, 1] rfl (by decide) (cX10_forgetWhatCame_68566 l D k _ h0 h7 h1 h2 h3 h4 h5 h6 h8 h9 h10 h11 h12 h0f2 h0f6 h0f8 h0f11 (by omega) (by omega) (by omega) (by omega)) w308 w305 w307 w0 w63 hdX10_forgetWhatCame ⟨rfl, rfl⟩ ⟨Nat.le_of_ble_eq_true rfl, Nat.le_of_ble_eq_true rfl⟩ rfl hl.1 (Nat.le_of_ble_eq_true rfl) dX10_addSquare_13 ⟨Nat.le_of_ble_eq_true rfl, Nat.le_of_ble_eq_true rfl⟩) hT hS hA [0, 1] [2, 3, 4] rfl rfl rfl (by decide) (by decide) (fun H locs hB J hS => ?_)
  have hT1 := hB
  have hT := J _ hT1
  have hT : TP D A [(h1, ob 4 [.int h1f0, .int v2, .int h1f2, .ref h13]), (h11, aJ (k 1) 9 anJ), (h13, aJ (k 1) 36 anJ), (h0, ob 7 [.ref h1, .ref h2, .int h0f2, .ref h3, .ref h4, .ref h5, .int 0, .ref h6, .int 0, .null, .ref h7, .int h0f11, .ref h8, .ref h9, .ref h10, .ref h11, .ref h12]), (h7, aI (k 0) 8 (rgI 0 0))] _ := hT
  refine lv_iload_n hx hb dX10_addSquare_16 rfl (lv_at hl 0 rfl) ?_
  exact tz_retI (B := B_cX10_addSquare_58103 D k h0 h1 h7 h11 h13 h2 h3 h4 h5 h6 h8 h9 h10 h12 h0f2 h0f6 h0f8 h0f11 h1f0 h1f1 h1f2) (v := r1) hQ hx hb hr hlocks hS (Nat.le_of_ble_eq_true rfl) (Nat.le_of_ble_eq_true rfl) dX10_addSquare_17 (⟨v2, (by omega), (by omega), (hT.sub [3, 0, 4, 1, 2] (by decide) rfl)⟩)
abbrev Rm_cX10_addUnit_3acd1 : Room := { frames := 3, cells := 0, slots := 0, locals := 68 }
abbrev B_cX10_addUnit_3acd1 (D : va_G) (k : Nat → ClassId) (h0 h1 h7 h11 h13 h2 h3 h4 h5 h6 h8 h9 h10 h12 : Nat) (x1 : Int32) (x2 : Int32) (x3 : Int32) (h0f2 : Int32) (h0f6 : Int32) (h0f8 : Int32) (h0f11 : Int32) (h1f0 : Int32) (h1f1 : Int32) (h1f2 : Int32) (A : Nat → Prop) (r : Int32) (H : Heap) : Prop := ∃ o0 : Int32, (0 ≤ o0.toInt ∧ o0.toInt ≤ 4) ∧ ((-2) ≤ r.toInt ∧ r.toInt ≤ 3) ∧ TP D A [(h0, ob 7 [.ref h1, .ref h2, .int h0f2, .ref h3, .ref h4, .ref h5, .int 0, .ref h6, .int 0, .null, .ref h7, .int h0f11, .ref h8, .ref h9, .ref h10, .ref h11, .ref h12]), (h1, ob 4 [.int h1f0, .int o0, .int h1f2, .ref h13]), (h7, aI (k 0) 8 (rgI 0 0)), (h11, aJ (k 1) 9 anJ), (h13, aJ (k 1) 36 anJ)] H
set_option maxHeartbeats 4000000 in
set_option maxRecDepth 100000 in
theorem cX10_addUnit_3acd1 (l : Launch) (D : va_G) (k : Nat → ClassId) (sz : Nat) (h0 h1 h7 h11 h13 h2 h3 h4 h5 h6 h8 h9 h10 h12 : Nat) (x1 : Int32) (x2 : Int32) (x3 : Int32) (h0f2 : Int32) (h0f6 : Int32) (h0f8 : Int32) (h0f11 : Int32) (h1f0 : Int32) (h1f1 : Int32) (h1f2 : Int32) (b_x1 : 0 ≤ x1.toInt ∧ x1.toInt ≤ 2) (b_x2 : 0 ≤ x2.toInt ∧ x2.toInt ≤ 2) (b_h0f2 : 0 ≤ h0f2.toInt ∧ h0f2.toInt ≤ 1) (b_h0f6 : 0 ≤ h0f6.toInt ∧ h0f6.toInt ≤ 1) (b_h0f8 : 0 ≤ h0f8.toInt ∧ h0f8.toInt ≤ 1) (b_h0f11 : 0 ≤ h0f11.toInt ∧ h0f11.toInt ≤ 200) (b_h1f0 : 1 ≤ h1f0.toInt ∧ h1f0.toInt ≤ 3) (b_h1f1 : 0 ≤ h1f1.toInt ∧ h1f1.toInt ≤ 3) : Met l yX10_addUnit (Cond.code yX10_addUnit cX10_addUnit 4 (some .int) :: uw) Rm_cX10_addUnit_3acd1 (pT D k sz [.ref h0, .int x1, .int x2, .int x3] [(h0, ob 7 [.ref h1, .ref h2, .int h0f2, .ref h3, .ref h4, .ref h5, .int h0f6, .ref h6, .int h0f8, .null, .ref h7, .int h0f11, .ref h8, .ref h9, .ref h10, .ref h11, .ref h12]), (h1, ob 4 [.int h1f0, .int h1f1, .int h1f2, .ref h13]), (h7, aI (k 0) 8 (rgI 0 0)), (h11, aJ (k 1) 9 anJ), (h13, aJ (k 1) 36 anJ)]) (qI (B_cX10_addUnit_3acd1 D k h0 h1 h7 h11 h13 h2 h3 h4 h5 h6 h8 h9 h10 h12 x1 x2 x3 h0f2 h0f6 h0f8 h0f11 h1f0 h1f1 h1f2 (zA [h0, h1, h7, h11, h13] sz)) (zA [h0, h1, h7, h11, h13] sz)) 0 0 (zA [h0, h1, h7, h11, h13] sz) := by
  refine tz_begin (as := [h0, h1, h7, h11, h13]) (Qc := fun A => qI (B_cX10_addUnit_3acd1 D k h0 h1 h7 h11 h13 h2 h3 h4 h5 h6 h8 h9 h10 h12 x1 x2 x3 h0f2 h0f6 h0f8 h0f11 h1f0 h1f1 h1f2 A) A) (by decide +kernel) rfl (Nat.le_of_ble_eq_true rfl) ?_
  intro p e s m args below meth c ls A Q hx hb hr hml hown hlocks hin hU hK hT hS hA hl hQ
  have hl : lv_has ls 4 [(0, .ref h0), (1, .int x1), (2, .int x2), (3, .int x3)] := hl
  have hT : TP D A [(h0, ob 7 [.ref h1, .ref h2, .int h0f2, .ref h3, .ref h4, .ref h5, .int h0f6, .ref h6, .int h0f8, .null, .ref h7, .int h0f11, .ref h8, .ref h9, .ref h10, .ref h11, .ref h12]), (h1, ob 4 [.int h1f0, .int h1f1, .int h1f2, .ref h13]), (h7, aI (k 0) 8 (rgI 0 0)), (h11, aJ (k 1) 9 anJ), (h13, aJ (k 1) 36 anJ)] s.heap := hT
  refine lv_aload_n hx hb dX10_addUnit_0 rfl (lv_at hl 0 rfl) ?_
  refine tz_get (ci := 7) (v := .ref h11) (C := RX10) (F := TX10) (N := 17) hx hb hU iX10 hown hK hT 0 rfl rfl 15 (by decide) w264 (fun _ h9 => h9) rfl dX10_addUnit_1 ?_
  refine lv_aload_n hx hb dX10_addUnit_4 rfl (lv_at hl 0 rfl) ?_
  refine tz_get (ci := 7) (v := .ref h1) (C := RX10) (F := TX10) (N := 17) hx hb hU iX10 hown hK hT 0 rfl rfl 0 (by decide) w249 (fun _ h9 => h9) rfl dX10_addUnit_5 ?_
  refine tz_get (ci := 4) (v := .int h1f0) (C := RX5) (F := TX5) (N := 4) hx hb hU iX5 hown hK hT 1 rfl rfl 0 (by decide) w93 (fun _ h9 => h9) rfl dX10_addUnit_8 ?_
  refine tcV (Tc := [(h11, aJ (k 1) 9 anJ)]) (Tr := [(h0, ob 7 [.ref h1, .ref h2, .int h0f2, .ref h3, .ref h4, .ref h5, .int h0f6, .ref h6, .int h0f8, .null, .ref h7, .int h0f11, .ref h8, .ref h9, .ref h10, .ref h11, .ref h12]), (h1, ob 4 [.int h1f0, .int h1f1, .int h1f2, .ref h13]), (h7, aI (k 0) 8 (rgI 0 0)), (h13, aJ (k 1) 36 anJ)]) (as := [h11]) (zcS (As := [.ref h11, .int h1f0]) (rest := []) (Tc := [(h11, aJ (k 1) 9 anJ)]) hx hb hml hown hU hK hT [3] rfl (by decide) (cX7_becomeOne_9e486 l D k _ h11 h1f0 (by omega)) w333 w331 w332 w74 hdX7_becomeOne ⟨rfl, rfl⟩ ⟨Nat.le_of_ble_eq_true rfl, Nat.le_of_ble_eq_true rfl⟩ rfl hl.1 (Nat.le_of_ble_eq_true rfl) dX10_addUnit_11 ⟨Nat.le_of_ble_eq_true rfl, Nat.le_of_ble_eq_true rfl⟩) hT hS hA [3] [0, 1, 2, 4] rfl rfl rfl (by decide) (by decide) (fun H locs hB J hS => ?_)
  have hT1 := hB
  have hT := J _ hT1
  have hT : TP D A [(h0, ob 7 [.ref h1, .ref h2, .int h0f2, .ref h3, .ref h4, .ref h5, .int h0f6, .ref h6, .int h0f8, .null, .ref h7, .int h0f11, .ref h8, .ref h9, .ref h10, .ref h11, .ref h12]), (h1, ob 4 [.int h1f0, .int h1f1, .int h1f2, .ref h13]), (h7, aI (k 0) 8 (rgI 0 0)), (h13, aJ (k 1) 36 anJ), (h11, aJ (k 1) 9 anJ)] _ := hT
  refine lv_aload_n hx hb dX10_addUnit_14 rfl (lv_at hl 0 rfl) ?_
  refine tz_get (ci := 7) (v := .ref h11) (C := RX10) (F := TX10) (N := 17) hx hb hU iX10 hown hK hT 0 rfl rfl 15 (by decide) w264 (fun _ h9 => h9) rfl dX10_addUnit_15 ?_
  refine lv_iload_n hx hb dX10_addUnit_18 rfl (lv_at hl 1 rfl) ?_
  refine lv_aload_n hx hb dX10_addUnit_19 rfl (lv_at hl 0 rfl) ?_
  refine tz_get (ci := 7) (v := .ref h1) (C := RX10) (F := TX10) (N := 17) hx hb hU iX10 hown hK hT 0 rfl rfl 0 (by decide) w249 (fun _ h9 => h9) rfl dX10_addUnit_20 ?_
  refine tz_get (ci := 4) (v := .int h1f0) (C := RX5) (F := TX5) (N := 4) hx hb hU iX5 hown hK hT 1 rfl rfl 0 (by decide) w93 (fun _ h9 => h9) rfl dX10_addUnit_23 ?_
  refine lv_imul hx hb dX10_addUnit_26 (lv_topi (fun v2 e_v2 => ?_))
  have e_v2 := ai_mm (la := 0) (ua := 2) (lb := 1) (ub := 3) e_v2 rfl rfl (by omega) (by decide)
  refine lv_iload_n hx hb dX10_addUnit_27 rfl (lv_at hl 2 rfl) ?_
  refine lv_iadd hx hb dX10_addUnit_28 (lv_topi (fun v3 e_v3 => ?_))
  have e_v3 := ai_add e_v3 rfl rfl (by omega)
  refine lv_iload_n hx hb dX10_addUnit_29 rfl (lv_at hl 3 rfl) ?_
  have tb_x3 := i32b x3
  obtain ⟨v4, e_v4⟩ : ∃ x : Int64, x3.toInt64 = x := ⟨_, rfl⟩
  refine lv_i2l (v := v4) hx hb dX10_addUnit_30 e_v4 ?_
  have e_v4 := ai_i2l e_v4 rfl
  refine tz_last hx hb hK hT hS 4 rfl (by omega) (fun _ _ => trivial) dX10_addUnit_31 (fun H locs hT hS => ?_)
  refine lv_aload_n hx hb dX10_addUnit_32 rfl (lv_at hl 0 rfl) ?_
  refine tcI (Tc := [(h0, ob 7 [.ref h1, .ref h2, .int h0f2, .ref h3, .ref h4, .ref h5, .int h0f6, .ref h6, .int h0f8, .null, .ref h7, .int h0f11, .ref h8, .ref h9, .ref h10, .ref h11, .ref h12]), (h1, ob 4 [.int h1f0, .int h1f1, .int h1f2, .ref h13]), (h7, aI (k 0) 8 (rgI 0 0)), (h11, aJ (k 1) 9 anJ), (h13, aJ (k 1) 36 anJ)]) (Tr := []) (as := [h0, h1, h7, h11, h13]) (zcV (q0 := 0) (ci := 7) (As := []) (rest := []) (Tc := [(h0, ob 7 [.ref h1, .ref h2, .int h0f2, .ref h3, .ref h4, .ref h5, .int h0f6, .ref h6, .int h0f8, .null, .ref h7, .int h0f11, .ref h8, .ref h9, .ref h10, .ref h11, .ref h12]), (h1, ob 4 [.int h1f0, .int h1f1, .int h1f2, .ref h13]), (h7, aI (k 0) 8 (rgI 0 0)), (h11, aJ (k 1) 9 anJ), (h13, aJ (k 1) 36 anJ)]) hx hb hml hown hU hK hT rfl rfl [0, 1, 2, 4, 3] rfl (by decide) (cX10_addSquare_58103 l D k _ h0 h1 h7 h11 h13 h2 h3 h4 h5 h6 h8 h9 h10 h12 h0f2 h0f6 h0f8 h0f11 h1f0 h1f1 h1f2 (by omega) (by omega) (by omega) (by omega) (by omega) (by omega)) w340 w337 w339 w2 w63 hdX10_addSquare ⟨rfl, rfl⟩ ⟨Nat.le_of_ble_eq_true rfl, Nat.le_of_ble_eq_true rfl⟩ rfl hl.1 (Nat.le_of_ble_eq_true rfl) dX10_addUnit_33 ⟨Nat.le_of_ble_eq_true rfl, Nat.le_of_ble_eq_true rfl⟩) hT hS hA [0, 1, 2, 4, 3] [] rfl rfl rfl (by decide) (by decide) (fun r5 H locs hB J hS => ?_)
  obtain ⟨v6, b_v6, b_r5, hT1⟩ := hB
  have hT := J _ hT1
  have hT : TP D A [(h0, ob 7 [.ref h1, .ref h2, .int h0f2, .ref h3, .ref h4, .ref h5, .int 0, .ref h6, .int 0, .null, .ref h7, .int h0f11, .ref h8, .ref h9, .ref h10, .ref h11, .ref h12]), (h1, ob 4 [.int h1f0, .int v6, .int h1f2, .ref h13]), (h7, aI (k 0) 8 (rgI 0 0)), (h11, aJ (k 1) 9 anJ), (h13, aJ (k 1) 36 anJ)] _ := hT
  exact tz_retI (B := B_cX10_addUnit_3acd1 D k h0 h1 h7 h11 h13 h2 h3 h4 h5 h6 h8 h9 h10 h12 x1 x2 x3 h0f2 h0f6 h0f8 h0f11 h1f0 h1f1 h1f2) (v := r5) hQ hx hb hr hlocks hS (Nat.le_of_ble_eq_true rfl) (Nat.le_of_ble_eq_true rfl) dX10_addUnit_36 (⟨v6, (by omega), (by omega), hT⟩)
abbrev Rm_cX10_unit_f7555 : Room := { frames := 4, cells := 0, slots := 0, locals := 91 }
abbrev B_cX10_unit_f7555 (D : va_G) (k : Nat → ClassId) (h0 h1 h7 h11 h13 h2 h3 h4 h5 h6 h8 h9 h10 h12 : Nat) (x1 : Int32) (x2 : Int32) (x3 : Int32) (h0f2 : Int32) (h0f6 : Int32) (h0f8 : Int32) (h0f11 : Int32) (h1f0 : Int32) (h1f1 : Int32) (h1f2 : Int32) (A : Nat → Prop) (r : Int32) (H : Heap) : Prop := ∃ o0 : Int32, ∃ o1 : Int32, ∃ o2 : Int32, (0 ≤ o0.toInt ∧ o0.toInt ≤ 1) ∧ (0 ≤ o1.toInt ∧ o1.toInt ≤ 1) ∧ (0 ≤ o2.toInt ∧ o2.toInt ≤ 4) ∧ ((-2) ≤ r.toInt ∧ r.toInt ≤ 3) ∧ TP D A [(h0, ob 7 [.ref h1, .ref h2, .int h0f2, .ref h3, .ref h4, .ref h5, .int o0, .ref h6, .int o1, .null, .ref h7, .int h0f11, .ref h8, .ref h9, .ref h10, .ref h11, .ref h12]), (h1, ob 4 [.int h1f0, .int o2, .int h1f2, .ref h13]), (h7, aI (k 0) 8 (rgI 0 0)), (h11, aJ (k 1) 9 anJ), (h13, aJ (k 1) 36 anJ)] H
set_option maxHeartbeats 4000000 in
set_option maxRecDepth 100000 in
theorem cX10_unit_f7555 (l : Launch) (D : va_G) (k : Nat → ClassId) (sz : Nat) (h0 h1 h7 h11 h13 h2 h3 h4 h5 h6 h8 h9 h10 h12 : Nat) (x1 : Int32) (x2 : Int32) (x3 : Int32) (h0f2 : Int32) (h0f6 : Int32) (h0f8 : Int32) (h0f11 : Int32) (h1f0 : Int32) (h1f1 : Int32) (h1f2 : Int32) (b_h0f2 : 0 ≤ h0f2.toInt ∧ h0f2.toInt ≤ 1) (b_h0f6 : 0 ≤ h0f6.toInt ∧ h0f6.toInt ≤ 1) (b_h0f8 : 0 ≤ h0f8.toInt ∧ h0f8.toInt ≤ 1) (b_h0f11 : 0 ≤ h0f11.toInt ∧ h0f11.toInt ≤ 200) (b_h1f0 : 1 ≤ h1f0.toInt ∧ h1f0.toInt ≤ 3) (b_h1f1 : 0 ≤ h1f1.toInt ∧ h1f1.toInt ≤ 4) : Met l yX10_unit (Cond.code yX10_unit cX10_unit 4 (some .int) :: uw) Rm_cX10_unit_f7555 (pT D k sz [.ref h0, .int x1, .int x2, .int x3] [(h0, ob 7 [.ref h1, .ref h2, .int h0f2, .ref h3, .ref h4, .ref h5, .int h0f6, .ref h6, .int h0f8, .null, .ref h7, .int h0f11, .ref h8, .ref h9, .ref h10, .ref h11, .ref h12]), (h1, ob 4 [.int h1f0, .int h1f1, .int h1f2, .ref h13]), (h7, aI (k 0) 8 (rgI 0 0)), (h11, aJ (k 1) 9 anJ), (h13, aJ (k 1) 36 anJ)]) (qI (B_cX10_unit_f7555 D k h0 h1 h7 h11 h13 h2 h3 h4 h5 h6 h8 h9 h10 h12 x1 x2 x3 h0f2 h0f6 h0f8 h0f11 h1f0 h1f1 h1f2 (zA [h0, h1, h7, h11, h13] sz)) (zA [h0, h1, h7, h11, h13] sz)) 0 0 (zA [h0, h1, h7, h11, h13] sz) := by
  refine tz_begin (as := [h0, h1, h7, h11, h13]) (Qc := fun A => qI (B_cX10_unit_f7555 D k h0 h1 h7 h11 h13 h2 h3 h4 h5 h6 h8 h9 h10 h12 x1 x2 x3 h0f2 h0f6 h0f8 h0f11 h1f0 h1f1 h1f2 A) A) (by decide +kernel) rfl (Nat.le_of_ble_eq_true rfl) ?_
  intro p e s m args below meth c ls A Q hx hb hr hml hown hlocks hin hU hK hT hS hA hl hQ
  have hl : lv_has ls 4 [(0, .ref h0), (1, .int x1), (2, .int x2), (3, .int x3)] := hl
  have hT : TP D A [(h0, ob 7 [.ref h1, .ref h2, .int h0f2, .ref h3, .ref h4, .ref h5, .int h0f6, .ref h6, .int h0f8, .null, .ref h7, .int h0f11, .ref h8, .ref h9, .ref h10, .ref h11, .ref h12]), (h1, ob 4 [.int h1f0, .int h1f1, .int h1f2, .ref h13]), (h7, aI (k 0) 8 (rgI 0 0)), (h11, aJ (k 1) 9 anJ), (h13, aJ (k 1) 36 anJ)] s.heap := hT
  refine lv_aload_n hx hb dX10_unit_0 rfl (lv_at hl 0 rfl) ?_
  refine tz_get (ci := 7) (v := .ref h1) (C := RX10) (F := TX10) (N := 17) hx hb hU iX10 hown hK hT 0 rfl rfl 0 (by decide) w249 (fun _ h9 => h9) rfl dX10_unit_1 ?_
  refine lv_iload_n hx hb dX10_unit_4 rfl (lv_at hl 1 rfl) ?_
  refine lv_iload_n hx hb dX10_unit_5 rfl (lv_at hl 2 rfl) ?_
  refine tcI (Tc := [(h1, ob 4 [.int h1f0, .int h1f1, .int h1f2, .ref h13])]) (Tr := [(h0, ob 7 [.ref h1, .ref h2, .int h0f2, .ref h3, .ref h4, .ref h5, .int h0f6, .ref h6, .int h0f8, .null, .ref h7, .int h0f11, .ref h8, .ref h9, .ref h10, .ref h11, .ref h12]), (h7, aI (k 0) 8 (rgI 0 0)), (h11, aJ (k 1) 9 anJ), (h13, aJ (k 1) 36 anJ)]) (as := [h1]) (zcV (q0 := 1) (ci := 4) (As := [.int x1, .int x2]) (rest := []) (Tc := [(h1, ob 4 [.int h1f0, .int h1f1, .int h1f2, .ref h13])]) hx hb hml hown hU hK hT rfl rfl [1] rfl (by decide) (cX5_isPlace_ce953 l D k _ h1 h13 x1 x2 h1f0 h1f1 h1f2 (by omega) (by omega)) w319 w316 w317 w318 w64 hdX5_isPlace ⟨rfl, rfl⟩ ⟨Nat.le_of_ble_eq_true rfl, Nat.le_of_ble_eq_true rfl⟩ rfl hl.1 (Nat.le_of_ble_eq_true rfl) dX10_unit_6 ⟨Nat.le_of_ble_eq_true rfl, Nat.le_of_ble_eq_true rfl⟩) hT hS hA [1] [0, 2, 3, 4] rfl rfl rfl (by decide) (by decide) (fun r1 H locs hB J hS => ?_)
  rcases hB with ⟨rfl, hT1⟩ | ⟨c_2, c_3, c_4, c_5, rfl, hT1⟩
  · skip
    have hT := J _ hT1
    have hT : TP D A [(h0, ob 7 [.ref h1, .ref h2, .int h0f2, .ref h3, .ref h4, .ref h5, .int h0f6, .ref h6, .int h0f8, .null, .ref h7, .int h0f11, .ref h8, .ref h9, .ref h10, .ref h11, .ref h12]), (h7, aI (k 0) 8 (rgI 0 0)), (h11, aJ (k 1) 9 anJ), (h13, aJ (k 1) 36 anJ), (h1, ob 4 [.int h1f0, .int h1f1, .int h1f2, .ref h13])] _ := hT
    refine lv_if_eq (tgt := 29) hx hb dX10_unit_9 (by decide) (fun _ => ?_) (fun cc => absurd (by decide +kernel) cc)
    refine lv_iconst (v := (-1)) hx hb dX10_unit_29 (by decide) ?_
    exact tz_retI (B := B_cX10_unit_f7555 D k h0 h1 h7 h11 h13 h2 h3 h4 h5 h6 h8 h9 h10 h12 x1 x2 x3 h0f2 h0f6 h0f8 h0f11 h1f0 h1f1 h1f2) (v := (-1)) hQ hx hb hr hlocks hS (Nat.le_of_ble_eq_true rfl) (Nat.le_of_ble_eq_true rfl) dX10_unit_30 (⟨h0f6, h0f8, h1f1, (by have := li_m1; omega), (by have := li_m1; omega), (by have := li_m1; omega), (by have := li_m1; omega), (hT.sub [0, 4, 1, 2, 3] (by decide) rfl)⟩)
  · skip
    have hT := J _ hT1
    have hT : TP D A [(h0, ob 7 [.ref h1, .ref h2, .int h0f2, .ref h3, .ref h4, .ref h5, .int h0f6, .ref h6, .int h0f8, .null, .ref h7, .int h0f11, .ref h8, .ref h9, .ref h10, .ref h11, .ref h12]), (h7, aI (k 0) 8 (rgI 0 0)), (h11, aJ (k 1) 9 anJ), (h13, aJ (k 1) 36 anJ), (h1, ob 4 [.int h1f0, .int h1f1, .int h1f2, .ref h13])] _ := hT
    refine lv_if_eq (tgt := 29) hx hb dX10_unit_9 (by decide) (fun cc => absurd cc (by decide +kernel)) (fun _ => ?_)
    refine lv_iload_n hx hb dX10_unit_12 rfl (lv_at hl 1 rfl) ?_
    refine lv_iload_n hx hb dX10_unit_13 rfl (lv_at hl 2 rfl) ?_
    refine lv_icmp_ne (tgt := 21) hx hb dX10_unit_14 (by decide) (fun c_6 => ?_) (fun c_6 => ?_)
    · skip
      have c_6 := ni_ne c_6 rfl rfl
      refine lv_iconst (v := 0) hx hb dX10_unit_21 (by decide) ?_
      refine lv_iload_n hx hb dX10_unit_22 rfl (lv_at hl 3 rfl) ?_
      have q_q8 := li_0
      refine tcI (Tc := []) (Tr := [(h0, ob 7 [.ref h1, .ref h2, .int h0f2, .ref h3, .ref h4, .ref h5, .int h0f6, .ref h6, .int h0f8, .null, .ref h7, .int h0f11, .ref h8, .ref h9, .ref h10, .ref h11, .ref h12]), (h7, aI (k 0) 8 (rgI 0 0)), (h11, aJ (k 1) 9 anJ), (h13, aJ (k 1) 36 anJ), (h1, ob 4 [.int h1f0, .int h1f1, .int h1f2, .ref h13])]) (as := []) (zcS (As := [.int 0, .int x3]) (rest := []) (Tc := []) hx hb hml hown hU hK hT [] rfl (by decide) (cX10_fitsUnit_ac2a1 l D k _ (0) x3 (by have := li_0; omega)) w322 w320 w321 w63 hdX10_fitsUnit ⟨rfl, rfl⟩ ⟨Nat.le_of_ble_eq_true rfl, Nat.le_of_ble_eq_true rfl⟩ rfl hl.1 (Nat.le_of_ble_eq_true rfl) dX10_unit_23 ⟨Nat.le_of_ble_eq_true rfl, Nat.le_of_ble_eq_true rfl⟩) hT hS hA [] [0, 1, 2, 3, 4] rfl rfl rfl (by decide) (by decide) (fun r7 H locs hB J hS => ?_)
      obtain ⟨b_r7, hT1⟩ := hB
      have hT := J _ hT1
      have hT : TP D A [(h0, ob 7 [.ref h1, .ref h2, .int h0f2, .ref h3, .ref h4, .ref h5, .int h0f6, .ref h6, .int h0f8, .null, .ref h7, .int h0f11, .ref h8, .ref h9, .ref h10, .ref h11, .ref h12]), (h7, aI (k 0) 8 (rgI 0 0)), (h11, aJ (k 1) 9 anJ), (h13, aJ (k 1) 36 anJ), (h1, ob 4 [.int h1f0, .int h1f1, .int h1f2, .ref h13])] _ := hT
      refine lv_if_ne (tgt := 31) hx hb dX10_unit_26 (by decide) (fun c_9 => ?_) (fun c_9 => ?_)
      · skip
        have c_9 := ni_ne c_9 rfl li_0
        refine lv_aload_n hx hb dX10_unit_31 rfl (lv_at hl 0 rfl) ?_
        refine tz_get (ci := 7) (v := .ref h1) (C := RX10) (F := TX10) (N := 17) hx hb hU iX10 hown hK hT 0 rfl rfl 0 (by decide) w249 (fun _ h9 => h9) rfl dX10_unit_32 ?_
        refine tcI (Tc := [(h1, ob 4 [.int h1f0, .int h1f1, .int h1f2, .ref h13])]) (Tr := [(h0, ob 7 [.ref h1, .ref h2, .int h0f2, .ref h3, .ref h4, .ref h5, .int h0f6, .ref h6, .int h0f8, .null, .ref h7, .int h0f11, .ref h8, .ref h9, .ref h10, .ref h11, .ref h12]), (h7, aI (k 0) 8 (rgI 0 0)), (h11, aJ (k 1) 9 anJ), (h13, aJ (k 1) 36 anJ)]) (as := [h1]) (zcV (q0 := 4) (ci := 4) (As := []) (rest := []) (Tc := [(h1, ob 4 [.int h1f0, .int h1f1, .int h1f2, .ref h13])]) hx hb hml hown hU hK hT rfl rfl [4] rfl (by decide) (cX5_isFull_cc49c l D k _ h1 h13 h1f0 h1f1 h1f2 (by omega) (by omega)) w326 w323 w324 w325 w64 hdX5_isFull ⟨rfl, rfl⟩ ⟨Nat.le_of_ble_eq_true rfl, Nat.le_of_ble_eq_true rfl⟩ rfl hl.1 (Nat.le_of_ble_eq_true rfl) dX10_unit_35 ⟨Nat.le_of_ble_eq_true rfl, Nat.le_of_ble_eq_true rfl⟩) hT hS hA [4] [0, 1, 2, 3] rfl rfl rfl (by decide) (by decide) (fun r10 H locs hB J hS => ?_)
        rcases hB with ⟨c_11, rfl, hT1⟩ | ⟨rfl, hT1⟩
        · skip
          have hT := J _ hT1
          have hT : TP D A [(h0, ob 7 [.ref h1, .ref h2, .int h0f2, .ref h3, .ref h4, .ref h5, .int h0f6, .ref h6, .int h0f8, .null, .ref h7, .int h0f11, .ref h8, .ref h9, .ref h10, .ref h11, .ref h12]), (h7, aI (k 0) 8 (rgI 0 0)), (h11, aJ (k 1) 9 anJ), (h13, aJ (k 1) 36 anJ), (h1, ob 4 [.int h1f0, .int h1f1, .int h1f2, .ref h13])] _ := hT
          refine lv_if_eq (tgt := 44) hx hb dX10_unit_38 (by decide) (fun _ => ?_) (fun cc => absurd (by decide +kernel) cc)
          refine lv_aload_n hx hb dX10_unit_44 rfl (lv_at hl 0 rfl) ?_
          refine lv_iload_n hx hb dX10_unit_45 rfl (lv_at hl 1 rfl) ?_
          refine lv_iload_n hx hb dX10_unit_46 rfl (lv_at hl 2 rfl) ?_
          refine lv_iload_n hx hb dX10_unit_47 rfl (lv_at hl 3 rfl) ?_
          refine tcI (Tc := [(h0, ob 7 [.ref h1, .ref h2, .int h0f2, .ref h3, .ref h4, .ref h5, .int h0f6, .ref h6, .int h0f8, .null, .ref h7, .int h0f11, .ref h8, .ref h9, .ref h10, .ref h11, .ref h12]), (h1, ob 4 [.int h1f0, .int h1f1, .int h1f2, .ref h13]), (h7, aI (k 0) 8 (rgI 0 0)), (h11, aJ (k 1) 9 anJ), (h13, aJ (k 1) 36 anJ)]) (Tr := []) (as := [h0, h1, h7, h11, h13]) (zcV (q0 := 0) (ci := 7) (As := [.int x1, .int x2, .int x3]) (rest := []) (Tc := [(h0, ob 7 [.ref h1, .ref h2, .int h0f2, .ref h3, .ref h4, .ref h5, .int h0f6, .ref h6, .int h0f8, .null, .ref h7, .int h0f11, .ref h8, .ref h9, .ref h10, .ref h11, .ref h12]), (h1, ob 4 [.int h1f0, .int h1f1, .int h1f2, .ref h13]), (h7, aI (k 0) 8 (rgI 0 0)), (h11, aJ (k 1) 9 anJ), (h13, aJ (k 1) 36 anJ)]) hx hb hml hown hU hK hT rfl rfl [0, 4, 1, 2, 3] rfl (by decide) (cX10_addUnit_3acd1 l D k _ h0 h1 h7 h11 h13 h2 h3 h4 h5 h6 h8 h9 h10 h12 x1 x2 x3 h0f2 h0f6 h0f8 h0f11 h1f0 h1f1 h1f2 (by omega) (by omega) (by omega) (by omega) (by omega) (by omega) (by omega) (by omega)) w330 w327 w329 w1 w63 hdX10_addUnit ⟨rfl, rfl⟩ ⟨Nat.le_of_ble_eq_true rfl, Nat.le_of_ble_eq_true rfl⟩ rfl hl.1 (Nat.le_of_ble_eq_true rfl) dX10_unit_48 ⟨Nat.le_of_ble_eq_true rfl, Nat.le_of_ble_eq_true rfl⟩) hT hS hA [0, 4, 1, 2, 3] [] rfl rfl rfl (by decide) (by decide) (fun r12 H locs hB J hS => ?_)
          obtain ⟨v13, b_v13, b_r12, hT1⟩ := hB
          have hT := J _ hT1
          have hT : TP D A [(h0, ob 7 [.ref h1, .ref h2, .int h0f2, .ref h3, .ref h4, .ref h5, .int 0, .ref h6, .int 0, .null, .ref h7, .int h0f11, .ref h8, .ref h9, .ref h10, .ref h11, .ref h12]), (h1, ob 4 [.int h1f0, .int v13, .int h1f2, .ref h13]), (h7, aI (k 0) 8 (rgI 0 0)), (h11, aJ (k 1) 9 anJ), (h13, aJ (k 1) 36 anJ)] _ := hT
          exact tz_retI (B := B_cX10_unit_f7555 D k h0 h1 h7 h11 h13 h2 h3 h4 h5 h6 h8 h9 h10 h12 x1 x2 x3 h0f2 h0f6 h0f8 h0f11 h1f0 h1f1 h1f2) (v := r12) hQ hx hb hr hlocks hS (Nat.le_of_ble_eq_true rfl) (Nat.le_of_ble_eq_true rfl) dX10_unit_51 (⟨0, 0, v13, (by have := li_0; omega), (by have := li_0; omega), (by have := li_0; omega), (by have := li_0; omega), hT⟩)
        · skip
          have hT := J _ hT1
          have hT : TP D A [(h0, ob 7 [.ref h1, .ref h2, .int h0f2, .ref h3, .ref h4, .ref h5, .int h0f6, .ref h6, .int h0f8, .null, .ref h7, .int h0f11, .ref h8, .ref h9, .ref h10, .ref h11, .ref h12]), (h7, aI (k 0) 8 (rgI 0 0)), (h11, aJ (k 1) 9 anJ), (h13, aJ (k 1) 36 anJ), (h1, ob 4 [.int h1f0, .int h1f1, .int h1f2, .ref h13])] _ := hT
          refine lv_if_eq (tgt := 44) hx hb dX10_unit_38 (by decide) (fun cc => absurd cc (by decide +kernel)) (fun _ => ?_)
          refine lv_bipush (v := (-2)) hx hb dX10_unit_41 (by decide) ?_
          exact tz_retI (B := B_cX10_unit_f7555 D k h0 h1 h7 h11 h13 h2 h3 h4 h5 h6 h8 h9 h10 h12 x1 x2 x3 h0f2 h0f6 h0f8 h0f11 h1f0 h1f1 h1f2) (v := (-2)) hQ hx hb hr hlocks hS (Nat.le_of_ble_eq_true rfl) (Nat.le_of_ble_eq_true rfl) dX10_unit_43 (⟨h0f6, h0f8, h1f1, (by have := li_m2; omega), (by have := li_m2; omega), (by have := li_m2; omega), (by have := li_m2; omega), (hT.sub [0, 4, 1, 2, 3] (by decide) rfl)⟩)
      · skip
        have c_9 := ni_eq c_9 rfl li_0
        refine lv_iconst (v := (-1)) hx hb dX10_unit_29 (by decide) ?_
        exact tz_retI (B := B_cX10_unit_f7555 D k h0 h1 h7 h11 h13 h2 h3 h4 h5 h6 h8 h9 h10 h12 x1 x2 x3 h0f2 h0f6 h0f8 h0f11 h1f0 h1f1 h1f2) (v := (-1)) hQ hx hb hr hlocks hS (Nat.le_of_ble_eq_true rfl) (Nat.le_of_ble_eq_true rfl) dX10_unit_30 (⟨h0f6, h0f8, h1f1, (by have := li_m1; omega), (by have := li_m1; omega), (by have := li_m1; omega), (by have := li_m1; omega), (hT.sub [0, 4, 1, 2, 3] (by decide) rfl)⟩)
    · skip
      have c_6 := ni_eq c_6 rfl rfl
      refine lv_iconst (v := 1) hx hb dX10_unit_17 (by decide) ?_
      refine lv_goto (tgt := 22) hx hb dX10_unit_18 (by decide) ?_
      refine lv_iload_n hx hb dX10_unit_22 rfl (lv_at hl 3 rfl) ?_
      have q_q15 := li_1
      refine tcI (Tc := []) (Tr := [(h0, ob 7 [.ref h1, .ref h2, .int h0f2, .ref h3, .ref h4, .ref h5, .int h0f6, .ref h6, .int h0f8, .null, .ref h7, .int h0f11, .ref h8, .ref h9, .ref h10, .ref h11, .ref h12]), (h7, aI (k 0) 8 (rgI 0 0)), (h11, aJ (k 1) 9 anJ), (h13, aJ (k 1) 36 anJ), (h1, ob 4 [.int h1f0, .int h1f1, .int h1f2, .ref h13])]) (as := []) (zcS (As := [.int 1, .int x3]) (rest := []) (Tc := []) hx hb hml hown hU hK hT [] rfl (by decide) (cX10_fitsUnit_ac2a1 l D k _ (1) x3 (by have := li_1; omega)) w322 w320 w321 w63 hdX10_fitsUnit ⟨rfl, rfl⟩ ⟨Nat.le_of_ble_eq_true rfl, Nat.le_of_ble_eq_true rfl⟩ rfl hl.1 (Nat.le_of_ble_eq_true rfl) dX10_unit_23 ⟨Nat.le_of_ble_eq_true rfl, Nat.le_of_ble_eq_true rfl⟩) hT hS hA [] [0, 1, 2, 3, 4] rfl rfl rfl (by decide) (by decide) (fun r14 H locs hB J hS => ?_)
      obtain ⟨b_r14, hT1⟩ := hB
      have hT := J _ hT1
      have hT : TP D A [(h0, ob 7 [.ref h1, .ref h2, .int h0f2, .ref h3, .ref h4, .ref h5, .int h0f6, .ref h6, .int h0f8, .null, .ref h7, .int h0f11, .ref h8, .ref h9, .ref h10, .ref h11, .ref h12]), (h7, aI (k 0) 8 (rgI 0 0)), (h11, aJ (k 1) 9 anJ), (h13, aJ (k 1) 36 anJ), (h1, ob 4 [.int h1f0, .int h1f1, .int h1f2, .ref h13])] _ := hT
      refine lv_if_ne (tgt := 31) hx hb dX10_unit_26 (by decide) (fun c_16 => ?_) (fun c_16 => ?_)
      · skip
        have c_16 := ni_ne c_16 rfl li_0
        refine lv_aload_n hx hb dX10_unit_31 rfl (lv_at hl 0 rfl) ?_
        refine tz_get (ci := 7) (v := .ref h1) (C := RX10) (F := TX10) (N := 17) hx hb hU iX10 hown hK hT 0 rfl rfl 0 (by decide) w249 (fun _ h9 => h9) rfl dX10_unit_32 ?_
        refine tcI (Tc := [(h1, ob 4 [.int h1f0, .int h1f1, .int h1f2, .ref h13])]) (Tr := [(h0, ob 7 [.ref h1, .ref h2, .int h0f2, .ref h3, .ref h4, .ref h5, .int h0f6, .ref h6, .int h0f8, .null, .ref h7, .int h0f11, .ref h8, .ref h9, .ref h10, .ref h11, .ref h12]), (h7, aI (k 0) 8 (rgI 0 0)), (h11, aJ (k 1) 9 anJ), (h13, aJ (k 1) 36 anJ)]) (as := [h1]) (zcV (q0 := 4) (ci := 4) (As := []) (rest := []) (Tc := [(h1, ob 4 [.int h1f0, .int h1f1, .int h1f2, .ref h13])]) hx hb hml hown hU hK hT rfl rfl [4] rfl (by decide) (cX5_isFull_cc49c l D k _ h1 h13 h1f0 h1f1 h1f2 (by omega) (by omega)) w326 w323 w324 w325 w64 hdX5_isFull ⟨rfl, rfl⟩ ⟨Nat.le_of_ble_eq_true rfl, Nat.le_of_ble_eq_true rfl⟩ rfl hl.1 (Nat.le_of_ble_eq_true rfl) dX10_unit_35 ⟨Nat.le_of_ble_eq_true rfl, Nat.le_of_ble_eq_true rfl⟩) hT hS hA [4] [0, 1, 2, 3] rfl rfl rfl (by decide) (by decide) (fun r17 H locs hB J hS => ?_)
        rcases hB with ⟨c_18, rfl, hT1⟩ | ⟨rfl, hT1⟩
        · skip
          have hT := J _ hT1
          have hT : TP D A [(h0, ob 7 [.ref h1, .ref h2, .int h0f2, .ref h3, .ref h4, .ref h5, .int h0f6, .ref h6, .int h0f8, .null, .ref h7, .int h0f11, .ref h8, .ref h9, .ref h10, .ref h11, .ref h12]), (h7, aI (k 0) 8 (rgI 0 0)), (h11, aJ (k 1) 9 anJ), (h13, aJ (k 1) 36 anJ), (h1, ob 4 [.int h1f0, .int h1f1, .int h1f2, .ref h13])] _ := hT
          refine lv_if_eq (tgt := 44) hx hb dX10_unit_38 (by decide) (fun _ => ?_) (fun cc => absurd (by decide +kernel) cc)
          refine lv_aload_n hx hb dX10_unit_44 rfl (lv_at hl 0 rfl) ?_
          refine lv_iload_n hx hb dX10_unit_45 rfl (lv_at hl 1 rfl) ?_
          refine lv_iload_n hx hb dX10_unit_46 rfl (lv_at hl 2 rfl) ?_
          refine lv_iload_n hx hb dX10_unit_47 rfl (lv_at hl 3 rfl) ?_
          refine tcI (Tc := [(h0, ob 7 [.ref h1, .ref h2, .int h0f2, .ref h3, .ref h4, .ref h5, .int h0f6, .ref h6, .int h0f8, .null, .ref h7, .int h0f11, .ref h8, .ref h9, .ref h10, .ref h11, .ref h12]), (h1, ob 4 [.int h1f0, .int h1f1, .int h1f2, .ref h13]), (h7, aI (k 0) 8 (rgI 0 0)), (h11, aJ (k 1) 9 anJ), (h13, aJ (k 1) 36 anJ)]) (Tr := []) (as := [h0, h1, h7, h11, h13]) (zcV (q0 := 0) (ci := 7) (As := [.int x1, .int x2, .int x3]) (rest := []) (Tc := [(h0, ob 7 [.ref h1, .ref h2, .int h0f2, .ref h3, .ref h4, .ref h5, .int h0f6, .ref h6, .int h0f8, .null, .ref h7, .int h0f11, .ref h8, .ref h9, .ref h10, .ref h11, .ref h12]), (h1, ob 4 [.int h1f0, .int h1f1, .int h1f2, .ref h13]), (h7, aI (k 0) 8 (rgI 0 0)), (h11, aJ (k 1) 9 anJ), (h13, aJ (k 1) 36 anJ)]) hx hb hml hown hU hK hT rfl rfl [0, 4, 1, 2, 3] rfl (by decide) (cX10_addUnit_3acd1 l D k _ h0 h1 h7 h11 h13 h2 h3 h4 h5 h6 h8 h9 h10 h12 x1 x2 x3 h0f2 h0f6 h0f8 h0f11 h1f0 h1f1 h1f2 (by omega) (by omega) (by omega) (by omega) (by omega) (by omega) (by omega) (by omega)) w330 w327 w329 w1 w63 hdX10_addUnit ⟨rfl, rfl⟩ ⟨Nat.le_of_ble_eq_true rfl, Nat.le_of_ble_eq_true rfl⟩ rfl hl.1 (Nat.le_of_ble_eq_true rfl) dX10_unit_48 ⟨Nat.le_of_ble_eq_true rfl, Nat.le_of_ble_eq_true rfl⟩) hT hS hA [0, 4, 1, 2, 3] [] rfl rfl rfl (by decide) (by decide) (fun r19 H locs hB J hS => ?_)
          obtain ⟨v20, b_v20, b_r19, hT1⟩ := hB
          have hT := J _ hT1
          have hT : TP D A [(h0, ob 7 [.ref h1, .ref h2, .int h0f2, .ref h3, .ref h4, .ref h5, .int 0, .ref h6, .int 0, .null, .ref h7, .int h0f11, .ref h8, .ref h9, .ref h10, .ref h11, .ref h12]), (h1, ob 4 [.int h1f0, .int v20, .int h1f2, .ref h13]), (h7, aI (k 0) 8 (rgI 0 0)), (h11, aJ (k 1) 9 anJ), (h13, aJ (k 1) 36 anJ)] _ := hT
          exact tz_retI (B := B_cX10_unit_f7555 D k h0 h1 h7 h11 h13 h2 h3 h4 h5 h6 h8 h9 h10 h12 x1 x2 x3 h0f2 h0f6 h0f8 h0f11 h1f0 h1f1 h1f2) (v := r19) hQ hx hb hr hlocks hS (Nat.le_of_ble_eq_true rfl) (Nat.le_of_ble_eq_true rfl) dX10_unit_51 (⟨0, 0, v20, (by have := li_0; omega), (by have := li_0; omega), (by have := li_0; omega), (by have := li_0; omega), hT⟩)
        · skip
          have hT := J _ hT1
          have hT : TP D A [(h0, ob 7 [.ref h1, .ref h2, .int h0f2, .ref h3, .ref h4, .ref h5, .int h0f6, .ref h6, .int h0f8, .null, .ref h7, .int h0f11, .ref h8, .ref h9, .ref h10, .ref h11, .ref h12]), (h7, aI (k 0) 8 (rgI 0 0)), (h11, aJ (k 1) 9 anJ), (h13, aJ (k 1) 36 anJ), (h1, ob 4 [.int h1f0, .int h1f1, .int h1f2, .ref h13])] _ := hT
          refine lv_if_eq (tgt := 44) hx hb dX10_unit_38 (by decide) (fun cc => absurd cc (by decide +kernel)) (fun _ => ?_)
          refine lv_bipush (v := (-2)) hx hb dX10_unit_41 (by decide) ?_
          exact tz_retI (B := B_cX10_unit_f7555 D k h0 h1 h7 h11 h13 h2 h3 h4 h5 h6 h8 h9 h10 h12 x1 x2 x3 h0f2 h0f6 h0f8 h0f11 h1f0 h1f1 h1f2) (v := (-2)) hQ hx hb hr hlocks hS (Nat.le_of_ble_eq_true rfl) (Nat.le_of_ble_eq_true rfl) dX10_unit_43 (⟨h0f6, h0f8, h1f1, (by have := li_m2; omega), (by have := li_m2; omega), (by have := li_m2; omega), (by have := li_m2; omega), (hT.sub [0, 4, 1, 2, 3] (by decide) rfl)⟩)
      · skip
        have c_16 := ni_eq c_16 rfl li_0
        refine lv_iconst (v := (-1)) hx hb dX10_unit_29 (by decide) ?_
        exact tz_retI (B := B_cX10_unit_f7555 D k h0 h1 h7 h11 h13 h2 h3 h4 h5 h6 h8 h9 h10 h12 x1 x2 x3 h0f2 h0f6 h0f8 h0f11 h1f0 h1f1 h1f2) (v := (-1)) hQ hx hb hr hlocks hS (Nat.le_of_ble_eq_true rfl) (Nat.le_of_ble_eq_true rfl) dX10_unit_30 (⟨h0f6, h0f8, h1f1, (by have := li_m1; omega), (by have := li_m1; omega), (by have := li_m1; omega), (by have := li_m1; omega), (hT.sub [0, 4, 1, 2, 3] (by decide) rfl)⟩)
abbrev Rm_cX10_made_9822f : Room := { frames := 4, cells := 0, slots := 0, locals := 105 }
abbrev B_cX10_made_9822f (D : va_G) (k : Nat → ClassId) (h0 h1 h7 h11 h13 h2 h3 h4 h5 h6 h8 h9 h10 h12 : Nat) (x1 : Int32) (x2 : Int32) (x3 : Int32) (h0f2 : Int32) (h0f6 : Int32) (h0f8 : Int32) (h0f11 : Int32) (h1f0 : Int32) (h1f1 : Int32) (h1f2 : Int32) (A : Nat → Prop) (r : Int32) (H : Heap) : Prop := ∃ o0 : Int32, ∃ o1 : Int32, ∃ o2 : Int32, (0 ≤ o0.toInt ∧ o0.toInt ≤ 1) ∧ (0 ≤ o1.toInt ∧ o1.toInt ≤ 1) ∧ (0 ≤ o2.toInt ∧ o2.toInt ≤ 4) ∧ ((-16) ≤ r.toInt ∧ r.toInt ≤ 3) ∧ TP D A [(h0, ob 7 [.ref h1, .ref h2, .int h0f2, .ref h3, .ref h4, .ref h5, .int o0, .ref h6, .int o1, .null, .ref h7, .int h0f11, .ref h8, .ref h9, .ref h10, .ref h11, .ref h12]), (h1, ob 4 [.int h1f0, .int o2, .int h1f2, .ref h13]), (h7, aI (k 0) 8 (rgI 0 0)), (h11, aJ (k 1) 9 anJ), (h13, aJ (k 1) 36 anJ)] H
set_option maxHeartbeats 4000000 in
set_option maxRecDepth 100000 in
theorem cX10_made_9822f (l : Launch) (D : va_G) (k : Nat → ClassId) (sz : Nat) (h0 h1 h7 h11 h13 h2 h3 h4 h5 h6 h8 h9 h10 h12 : Nat) (x1 : Int32) (x2 : Int32) (x3 : Int32) (h0f2 : Int32) (h0f6 : Int32) (h0f8 : Int32) (h0f11 : Int32) (h1f0 : Int32) (h1f1 : Int32) (h1f2 : Int32) (b_h0f2 : 0 ≤ h0f2.toInt ∧ h0f2.toInt ≤ 1) (b_h0f6 : 0 ≤ h0f6.toInt ∧ h0f6.toInt ≤ 1) (b_h0f8 : 0 ≤ h0f8.toInt ∧ h0f8.toInt ≤ 1) (b_h0f11 : 0 ≤ h0f11.toInt ∧ h0f11.toInt ≤ 200) (b_h1f0 : 1 ≤ h1f0.toInt ∧ h1f0.toInt ≤ 3) (b_h1f1 : 0 ≤ h1f1.toInt ∧ h1f1.toInt ≤ 4) : Met l yX10_made (Cond.code yX10_made cX10_made 4 (some .int) :: uw) Rm_cX10_made_9822f (pT D k sz [.ref h0, .int x1, .int x2, .int x3] [(h0, ob 7 [.ref h1, .ref h2, .int h0f2, .ref h3, .ref h4, .ref h5, .int h0f6, .ref h6, .int h0f8, .null, .ref h7, .int h0f11, .ref h8, .ref h9, .ref h10, .ref h11, .ref h12]), (h1, ob 4 [.int h1f0, .int h1f1, .int h1f2, .ref h13]), (h7, aI (k 0) 8 (rgI 0 0)), (h11, aJ (k 1) 9 anJ), (h13, aJ (k 1) 36 anJ)]) (qI (B_cX10_made_9822f D k h0 h1 h7 h11 h13 h2 h3 h4 h5 h6 h8 h9 h10 h12 x1 x2 x3 h0f2 h0f6 h0f8 h0f11 h1f0 h1f1 h1f2 (zA [h0, h1, h7, h11, h13] sz)) (zA [h0, h1, h7, h11, h13] sz)) 0 0 (zA [h0, h1, h7, h11, h13] sz) := by
  refine tz_begin (as := [h0, h1, h7, h11, h13]) (Qc := fun A => qI (B_cX10_made_9822f D k h0 h1 h7 h11 h13 h2 h3 h4 h5 h6 h8 h9 h10 h12 x1 x2 x3 h0f2 h0f6 h0f8 h0f11 h1f0 h1f1 h1f2 A) A) (by decide +kernel) rfl (Nat.le_of_ble_eq_true rfl) ?_
  intro p e s m args below meth c ls A Q hx hb hr hml hown hlocks hin hU hK hT hS hA hl hQ
  have hl : lv_has ls 4 [(0, .ref h0), (1, .int x1), (2, .int x2), (3, .int x3)] := hl
  have hT : TP D A [(h0, ob 7 [.ref h1, .ref h2, .int h0f2, .ref h3, .ref h4, .ref h5, .int h0f6, .ref h6, .int h0f8, .null, .ref h7, .int h0f11, .ref h8, .ref h9, .ref h10, .ref h11, .ref h12]), (h1, ob 4 [.int h1f0, .int h1f1, .int h1f2, .ref h13]), (h7, aI (k 0) 8 (rgI 0 0)), (h11, aJ (k 1) 9 anJ), (h13, aJ (k 1) 36 anJ)] s.heap := hT
  refine lv_iload_n hx hb dX10_made_0 rfl (lv_at hl 1 rfl) ?_
  refine lv_if_lt (tgt := 35) hx hb dX10_made_1 (by decide) (fun c_1 => ?_) (fun c_1 => ?_)
  · skip
    have c_1 := ni_lt c_1 rfl li_0
    refine lv_iconst (v := (-1)) hx hb dX10_made_35 (by decide) ?_
    exact tz_retI (B := B_cX10_made_9822f D k h0 h1 h7 h11 h13 h2 h3 h4 h5 h6 h8 h9 h10 h12 x1 x2 x3 h0f2 h0f6 h0f8 h0f11 h1f0 h1f1 h1f2) (v := (-1)) hQ hx hb hr hlocks hS (Nat.le_of_ble_eq_true rfl) (Nat.le_of_ble_eq_true rfl) dX10_made_36 (⟨h0f6, h0f8, h1f1, (by have := li_m1; omega), (by have := li_m1; omega), (by have := li_m1; omega), (by have := li_m1; omega), hT⟩)
  · skip
    have c_1 := ni_nlt c_1 rfl li_0
    refine lv_iload_n hx hb dX10_made_4 rfl (lv_at hl 1 rfl) ?_
    refine lv_iconst (v := 3) hx hb dX10_made_5 (by decide) ?_
    refine lv_icmp_gt (tgt := 35) hx hb dX10_made_6 (by decide) (fun c_2 => ?_) (fun c_2 => ?_)
    · skip
      have c_2 := ni_lt c_2 li_3 rfl
      refine lv_iconst (v := (-1)) hx hb dX10_made_35 (by decide) ?_
      exact tz_retI (B := B_cX10_made_9822f D k h0 h1 h7 h11 h13 h2 h3 h4 h5 h6 h8 h9 h10 h12 x1 x2 x3 h0f2 h0f6 h0f8 h0f11 h1f0 h1f1 h1f2) (v := (-1)) hQ hx hb hr hlocks hS (Nat.le_of_ble_eq_true rfl) (Nat.le_of_ble_eq_true rfl) dX10_made_36 (⟨h0f6, h0f8, h1f1, (by have := li_m1; omega), (by have := li_m1; omega), (by have := li_m1; omega), (by have := li_m1; omega), hT⟩)
    · skip
      have c_2 := ni_nlt c_2 li_3 rfl
      refine lv_aload_n hx hb dX10_made_9 rfl (lv_at hl 0 rfl) ?_
      refine tz_get (ci := 7) (v := .ref h1) (C := RX10) (F := TX10) (N := 17) hx hb hU iX10 hown hK hT 0 rfl rfl 0 (by decide) w249 (fun _ h9 => h9) rfl dX10_made_10 ?_
      refine lv_iload_n hx hb dX10_made_13 rfl (lv_at hl 2 rfl) ?_
      refine tcI (Tc := [(h1, ob 4 [.int h1f0, .int h1f1, .int h1f2, .ref h13])]) (Tr := [(h0, ob 7 [.ref h1, .ref h2, .int h0f2, .ref h3, .ref h4, .ref h5, .int h0f6, .ref h6, .int h0f8, .null, .ref h7, .int h0f11, .ref h8, .ref h9, .ref h10, .ref h11, .ref h12]), (h7, aI (k 0) 8 (rgI 0 0)), (h11, aJ (k 1) 9 anJ), (h13, aJ (k 1) 36 anJ)]) (as := [h1]) (zcV (q0 := 1) (ci := 4) (As := [.int x2]) (rest := []) (Tc := [(h1, ob 4 [.int h1f0, .int h1f1, .int h1f2, .ref h13])]) hx hb hml hown hU hK hT rfl rfl [1] rfl (by decide) (cX5_has_64567 l D k _ h1 h13 x2 h1f0 h1f1 h1f2 (by omega) (by omega)) w356 w353 w354 w355 w64 hdX5_has ⟨rfl, rfl⟩ ⟨Nat.le_of_ble_eq_true rfl, Nat.le_of_ble_eq_true rfl⟩ rfl hl.1 (Nat.le_of_ble_eq_true rfl) dX10_made_14 ⟨Nat.le_of_ble_eq_true rfl, Nat.le_of_ble_eq_true rfl⟩) hT hS hA [1] [0, 2, 3, 4] rfl rfl rfl (by decide) (by decide) (fun r3 H locs hB J hS => ?_)
      rcases hB with ⟨rfl, hT1⟩ | ⟨c_4, c_5, rfl, hT1⟩
      · skip
        have hT := J _ hT1
        have hT : TP D A [(h0, ob 7 [.ref h1, .ref h2, .int h0f2, .ref h3, .ref h4, .ref h5, .int h0f6, .ref h6, .int h0f8, .null, .ref h7, .int h0f11, .ref h8, .ref h9, .ref h10, .ref h11, .ref h12]), (h7, aI (k 0) 8 (rgI 0 0)), (h11, aJ (k 1) 9 anJ), (h13, aJ (k 1) 36 anJ), (h1, ob 4 [.int h1f0, .int h1f1, .int h1f2, .ref h13])] _ := hT
        refine lv_if_eq (tgt := 35) hx hb dX10_made_17 (by decide) (fun _ => ?_) (fun cc => absurd (by decide +kernel) cc)
        refine lv_iconst (v := (-1)) hx hb dX10_made_35 (by decide) ?_
        exact tz_retI (B := B_cX10_made_9822f D k h0 h1 h7 h11 h13 h2 h3 h4 h5 h6 h8 h9 h10 h12 x1 x2 x3 h0f2 h0f6 h0f8 h0f11 h1f0 h1f1 h1f2) (v := (-1)) hQ hx hb hr hlocks hS (Nat.le_of_ble_eq_true rfl) (Nat.le_of_ble_eq_true rfl) dX10_made_36 (⟨h0f6, h0f8, h1f1, (by have := li_m1; omega), (by have := li_m1; omega), (by have := li_m1; omega), (by have := li_m1; omega), (hT.sub [0, 4, 1, 2, 3] (by decide) rfl)⟩)
      · skip
        have hT := J _ hT1
        have hT : TP D A [(h0, ob 7 [.ref h1, .ref h2, .int h0f2, .ref h3, .ref h4, .ref h5, .int h0f6, .ref h6, .int h0f8, .null, .ref h7, .int h0f11, .ref h8, .ref h9, .ref h10, .ref h11, .ref h12]), (h7, aI (k 0) 8 (rgI 0 0)), (h11, aJ (k 1) 9 anJ), (h13, aJ (k 1) 36 anJ), (h1, ob 4 [.int h1f0, .int h1f1, .int h1f2, .ref h13])] _ := hT
        refine lv_if_eq (tgt := 35) hx hb dX10_made_17 (by decide) (fun cc => absurd cc (by decide +kernel)) (fun _ => ?_)
        refine lv_iload_n hx hb dX10_made_20 rfl (lv_at hl 1 rfl) ?_
        refine lv_if_ne (tgt := 37) hx hb dX10_made_21 (by decide) (fun c_6 => ?_) (fun c_6 => ?_)
        · skip
          have c_6 := ni_ne c_6 rfl li_0
          refine lv_aload_n hx hb dX10_made_37 rfl (lv_at hl 0 rfl) ?_
          refine tz_get (ci := 7) (v := .ref h1) (C := RX10) (F := TX10) (N := 17) hx hb hU iX10 hown hK hT 0 rfl rfl 0 (by decide) w249 (fun _ h9 => h9) rfl dX10_made_38 ?_
          refine tcI (Tc := [(h1, ob 4 [.int h1f0, .int h1f1, .int h1f2, .ref h13])]) (Tr := [(h0, ob 7 [.ref h1, .ref h2, .int h0f2, .ref h3, .ref h4, .ref h5, .int h0f6, .ref h6, .int h0f8, .null, .ref h7, .int h0f11, .ref h8, .ref h9, .ref h10, .ref h11, .ref h12]), (h7, aI (k 0) 8 (rgI 0 0)), (h11, aJ (k 1) 9 anJ), (h13, aJ (k 1) 36 anJ)]) (as := [h1]) (zcV (q0 := 4) (ci := 4) (As := []) (rest := []) (Tc := [(h1, ob 4 [.int h1f0, .int h1f1, .int h1f2, .ref h13])]) hx hb hml hown hU hK hT rfl rfl [4] rfl (by decide) (cX5_isFull_cc49c l D k _ h1 h13 h1f0 h1f1 h1f2 (by omega) (by omega)) w326 w323 w324 w325 w64 hdX5_isFull ⟨rfl, rfl⟩ ⟨Nat.le_of_ble_eq_true rfl, Nat.le_of_ble_eq_true rfl⟩ rfl hl.1 (Nat.le_of_ble_eq_true rfl) dX10_made_41 ⟨Nat.le_of_ble_eq_true rfl, Nat.le_of_ble_eq_true rfl⟩) hT hS hA [4] [0, 1, 2, 3] rfl rfl rfl (by decide) (by decide) (fun r7 H locs hB J hS => ?_)
          rcases hB with ⟨c_8, rfl, hT1⟩ | ⟨rfl, hT1⟩
          · skip
            have hT := J _ hT1
            have hT : TP D A [(h0, ob 7 [.ref h1, .ref h2, .int h0f2, .ref h3, .ref h4, .ref h5, .int h0f6, .ref h6, .int h0f8, .null, .ref h7, .int h0f11, .ref h8, .ref h9, .ref h10, .ref h11, .ref h12]), (h7, aI (k 0) 8 (rgI 0 0)), (h11, aJ (k 1) 9 anJ), (h13, aJ (k 1) 36 anJ), (h1, ob 4 [.int h1f0, .int h1f1, .int h1f2, .ref h13])] _ := hT
            refine lv_if_eq (tgt := 50) hx hb dX10_made_44 (by decide) (fun _ => ?_) (fun cc => absurd (by decide +kernel) cc)
            refine lv_aload_n hx hb dX10_made_50 rfl (lv_at hl 0 rfl) ?_
            refine lv_iload_n hx hb dX10_made_51 rfl (lv_at hl 1 rfl) ?_
            refine lv_iload_n hx hb dX10_made_52 rfl (lv_at hl 2 rfl) ?_
            refine lv_iload_n hx hb dX10_made_53 rfl (lv_at hl 3 rfl) ?_
            refine tcV (Tc := [(h0, ob 7 [.ref h1, .ref h2, .int h0f2, .ref h3, .ref h4, .ref h5, .int h0f6, .ref h6, .int h0f8, .null, .ref h7, .int h0f11, .ref h8, .ref h9, .ref h10, .ref h11, .ref h12]), (h1, ob 4 [.int h1f0, .int h1f1, .int h1f2, .ref h13]), (h11, aJ (k 1) 9 anJ), (h13, aJ (k 1) 36 anJ)]) (Tr := [(h7, aI (k 0) 8 (rgI 0 0))]) (as := [h0, h1, h11, h13]) (zcV (q0 := 0) (ci := 7) (As := [.int x1, .int x2, .int x3]) (rest := []) (Tc := [(h0, ob 7 [.ref h1, .ref h2, .int h0f2, .ref h3, .ref h4, .ref h5, .int h0f6, .ref h6, .int h0f8, .null, .ref h7, .int h0f11, .ref h8, .ref h9, .ref h10, .ref h11, .ref h12]), (h1, ob 4 [.int h1f0, .int h1f1, .int h1f2, .ref h13]), (h11, aJ (k 1) 9 anJ), (h13, aJ (k 1) 36 anJ)]) hx hb hml hown hU hK hT rfl rfl [0, 4, 2, 3] rfl (by decide) (cX10_makeOf_303fc l D k _ h0 h1 h11 h13 h2 h3 h4 h5 h6 h7 h8 h9 h10 h12 x1 x2 x3 h0f2 h0f6 h0f8 h0f11 h1f0 h1f1 h1f2 (by omega) (by omega) (by omega) (by omega) (by omega) (by omega) (by omega) (by omega)) w360 w357 w359 w3 w63 hdX10_makeOf ⟨rfl, rfl⟩ ⟨Nat.le_of_ble_eq_true rfl, Nat.le_of_ble_eq_true rfl⟩ rfl hl.1 (Nat.le_of_ble_eq_true rfl) dX10_made_54 ⟨Nat.le_of_ble_eq_true rfl, Nat.le_of_ble_eq_true rfl⟩) hT hS hA [0, 4, 2, 3] [1] rfl rfl rfl (by decide) (by decide) (fun H locs hB J hS => ?_)
            have hT1 := hB
            have hT := J _ hT1
            have hT : TP D A [(h7, aI (k 0) 8 (rgI 0 0)), (h0, ob 7 [.ref h1, .ref h2, .int h0f2, .ref h3, .ref h4, .ref h5, .int h0f6, .ref h6, .int h0f8, .null, .ref h7, .int h0f11, .ref h8, .ref h9, .ref h10, .ref h11, .ref h12]), (h1, ob 4 [.int h1f0, .int h1f1, .int h1f2, .ref h13]), (h11, aJ (k 1) 9 anJ), (h13, aJ (k 1) 36 anJ)] _ := hT
            refine lv_aload_n hx hb dX10_made_57 rfl (lv_at hl 0 rfl) ?_
            refine tz_get (ci := 7) (v := .ref h11) (C := RX10) (F := TX10) (N := 17) hx hb hU iX10 hown hK hT 1 rfl rfl 15 (by decide) w264 (fun _ h9 => h9) rfl dX10_made_58 ?_
            refine lv_aload_n hx hb dX10_made_61 rfl (lv_at hl 0 rfl) ?_
            refine tz_get (ci := 7) (v := .ref h1) (C := RX10) (F := TX10) (N := 17) hx hb hU iX10 hown hK hT 1 rfl rfl 0 (by decide) w249 (fun _ h9 => h9) rfl dX10_made_62 ?_
            refine tcI (Tc := [(h1, ob 4 [.int h1f0, .int h1f1, .int h1f2, .ref h13])]) (Tr := [(h7, aI (k 0) 8 (rgI 0 0)), (h0, ob 7 [.ref h1, .ref h2, .int h0f2, .ref h3, .ref h4, .ref h5, .int h0f6, .ref h6, .int h0f8, .null, .ref h7, .int h0f11, .ref h8, .ref h9, .ref h10, .ref h11, .ref h12]), (h11, aJ (k 1) 9 anJ), (h13, aJ (k 1) 36 anJ)]) (as := [h1]) (zcV (q0 := 2) (ci := 4) (As := []) (rest := [.ref h11]) (Tc := [(h1, ob 4 [.int h1f0, .int h1f1, .int h1f2, .ref h13])]) hx hb hml hown hU hK hT rfl rfl [2] rfl (by decide) (cX5_cellCount_642c9 l D k _ h1 h13 h1f0 h1f1 h1f2 (by omega) (by omega)) w385 w382 w383 w384 w64 hdX5_cellCount ⟨rfl, rfl⟩ ⟨Nat.le_of_ble_eq_true rfl, Nat.le_of_ble_eq_true rfl⟩ rfl hl.1 (Nat.le_of_ble_eq_true rfl) dX10_made_65 ⟨Nat.le_of_ble_eq_true rfl, Nat.le_of_ble_eq_true rfl⟩) hT hS hA [2] [0, 1, 3, 4] rfl rfl rfl (by decide) (by decide) (fun r10 H locs hB J hS => ?_)
            obtain ⟨b_r10, hT1⟩ := hB
            have hT := J _ hT1
            have hT : TP D A [(h7, aI (k 0) 8 (rgI 0 0)), (h0, ob 7 [.ref h1, .ref h2, .int h0f2, .ref h3, .ref h4, .ref h5, .int h0f6, .ref h6, .int h0f8, .null, .ref h7, .int h0f11, .ref h8, .ref h9, .ref h10, .ref h11, .ref h12]), (h11, aJ (k 1) 9 anJ), (h13, aJ (k 1) 36 anJ), (h1, ob 4 [.int h1f0, .int h1f1, .int h1f2, .ref h13])] _ := hT
            refine lv_ldc2 hx hb hown (hU _ w386) dX10_made_68 ?_
            have q_q12 := ll_99
            refine tcI (Tc := [(h11, aJ (k 1) 9 anJ)]) (Tr := [(h7, aI (k 0) 8 (rgI 0 0)), (h0, ob 7 [.ref h1, .ref h2, .int h0f2, .ref h3, .ref h4, .ref h5, .int h0f6, .ref h6, .int h0f8, .null, .ref h7, .int h0f11, .ref h8, .ref h9, .ref h10, .ref h11, .ref h12]), (h13, aJ (k 1) 36 anJ), (h1, ob 4 [.int h1f0, .int h1f1, .int h1f2, .ref h13])]) (as := [h11]) (zcS (As := [.ref h11, .int r10, .long 99]) (rest := []) (Tc := [(h11, aJ (k 1) 9 anJ)]) hx hb hml hown hU hK hT [2] rfl (by decide) (cX7_isWithin_443ab l D k _ h11 r10 (99) (by omega) (by have := ll_99; omega)) w389 w387 w388 w74 hdX7_isWithin ⟨rfl, rfl⟩ ⟨Nat.le_of_ble_eq_true rfl, Nat.le_of_ble_eq_true rfl⟩ rfl hl.1 (Nat.le_of_ble_eq_true rfl) dX10_made_71 ⟨Nat.le_of_ble_eq_true rfl, Nat.le_of_ble_eq_true rfl⟩) hT hS hA [2] [0, 1, 3, 4] rfl rfl rfl (by decide) (by decide) (fun r11 H locs hB J hS => ?_)
            obtain ⟨b_r11, hT1⟩ := hB
            have hT := J _ hT1
            have hT : TP D A [(h7, aI (k 0) 8 (rgI 0 0)), (h0, ob 7 [.ref h1, .ref h2, .int h0f2, .ref h3, .ref h4, .ref h5, .int h0f6, .ref h6, .int h0f8, .null, .ref h7, .int h0f11, .ref h8, .ref h9, .ref h10, .ref h11, .ref h12]), (h13, aJ (k 1) 36 anJ), (h1, ob 4 [.int h1f0, .int h1f1, .int h1f2, .ref h13]), (h11, aJ (k 1) 9 anJ)] _ := hT
            refine lv_if_ne (tgt := 80) hx hb dX10_made_74 (by decide) (fun c_13 => ?_) (fun c_13 => ?_)
            · skip
              have c_13 := ni_ne c_13 rfl li_0
              refine lv_aload_n hx hb dX10_made_80 rfl (lv_at hl 0 rfl) ?_
              refine tcI (Tc := [(h0, ob 7 [.ref h1, .ref h2, .int h0f2, .ref h3, .ref h4, .ref h5, .int h0f6, .ref h6, .int h0f8, .null, .ref h7, .int h0f11, .ref h8, .ref h9, .ref h10, .ref h11, .ref h12]), (h1, ob 4 [.int h1f0, .int h1f1, .int h1f2, .ref h13]), (h7, aI (k 0) 8 (rgI 0 0)), (h11, aJ (k 1) 9 anJ), (h13, aJ (k 1) 36 anJ)]) (Tr := []) (as := [h0, h1, h7, h11, h13]) (zcV (q0 := 1) (ci := 7) (As := []) (rest := []) (Tc := [(h0, ob 7 [.ref h1, .ref h2, .int h0f2, .ref h3, .ref h4, .ref h5, .int h0f6, .ref h6, .int h0f8, .null, .ref h7, .int h0f11, .ref h8, .ref h9, .ref h10, .ref h11, .ref h12]), (h1, ob 4 [.int h1f0, .int h1f1, .int h1f2, .ref h13]), (h7, aI (k 0) 8 (rgI 0 0)), (h11, aJ (k 1) 9 anJ), (h13, aJ (k 1) 36 anJ)]) hx hb hml hown hU hK hT rfl rfl [1, 3, 0, 4, 2] rfl (by decide) (cX10_addSquare_58103 l D k _ h0 h1 h7 h11 h13 h2 h3 h4 h5 h6 h8 h9 h10 h12 h0f2 h0f6 h0f8 h0f11 h1f0 h1f1 h1f2 (by omega) (by omega) (by omega) (by omega) (by omega) (by omega)) w340 w337 w339 w2 w63 hdX10_addSquare ⟨rfl, rfl⟩ ⟨Nat.le_of_ble_eq_true rfl, Nat.le_of_ble_eq_true rfl⟩ rfl hl.1 (Nat.le_of_ble_eq_true rfl) dX10_made_81 ⟨Nat.le_of_ble_eq_true rfl, Nat.le_of_ble_eq_true rfl⟩) hT hS hA [1, 3, 0, 4, 2] [] rfl rfl rfl (by decide) (by decide) (fun r14 H locs hB J hS => ?_)
              obtain ⟨v15, b_v15, b_r14, hT1⟩ := hB
              have hT := J _ hT1
              have hT : TP D A [(h0, ob 7 [.ref h1, .ref h2, .int h0f2, .ref h3, .ref h4, .ref h5, .int 0, .ref h6, .int 0, .null, .ref h7, .int h0f11, .ref h8, .ref h9, .ref h10, .ref h11, .ref h12]), (h1, ob 4 [.int h1f0, .int v15, .int h1f2, .ref h13]), (h7, aI (k 0) 8 (rgI 0 0)), (h11, aJ (k 1) 9 anJ), (h13, aJ (k 1) 36 anJ)] _ := hT
              exact tz_retI (B := B_cX10_made_9822f D k h0 h1 h7 h11 h13 h2 h3 h4 h5 h6 h8 h9 h10 h12 x1 x2 x3 h0f2 h0f6 h0f8 h0f11 h1f0 h1f1 h1f2) (v := r14) hQ hx hb hr hlocks hS (Nat.le_of_ble_eq_true rfl) (Nat.le_of_ble_eq_true rfl) dX10_made_84 (⟨0, 0, v15, (by have := li_0; omega), (by have := li_0; omega), (by have := li_0; omega), (by have := li_0; omega), hT⟩)
            · skip
              have c_13 := ni_eq c_13 rfl li_0
              refine lv_bipush (v := (-16)) hx hb dX10_made_77 (by decide) ?_
              exact tz_retI (B := B_cX10_made_9822f D k h0 h1 h7 h11 h13 h2 h3 h4 h5 h6 h8 h9 h10 h12 x1 x2 x3 h0f2 h0f6 h0f8 h0f11 h1f0 h1f1 h1f2) (v := (-16)) hQ hx hb hr hlocks hS (Nat.le_of_ble_eq_true rfl) (Nat.le_of_ble_eq_true rfl) dX10_made_79 (⟨h0f6, h0f8, h1f1, (by have := li_m16; omega), (by have := li_m16; omega), (by have := li_m16; omega), (by have := li_m16; omega), (hT.sub [1, 3, 0, 4, 2] (by decide) rfl)⟩)
          · skip
            have hT := J _ hT1
            have hT : TP D A [(h0, ob 7 [.ref h1, .ref h2, .int h0f2, .ref h3, .ref h4, .ref h5, .int h0f6, .ref h6, .int h0f8, .null, .ref h7, .int h0f11, .ref h8, .ref h9, .ref h10, .ref h11, .ref h12]), (h7, aI (k 0) 8 (rgI 0 0)), (h11, aJ (k 1) 9 anJ), (h13, aJ (k 1) 36 anJ), (h1, ob 4 [.int h1f0, .int h1f1, .int h1f2, .ref h13])] _ := hT
            refine lv_if_eq (tgt := 50) hx hb dX10_made_44 (by decide) (fun cc => absurd cc (by decide +kernel)) (fun _ => ?_)
            refine lv_bipush (v := (-2)) hx hb dX10_made_47 (by decide) ?_
            exact tz_retI (B := B_cX10_made_9822f D k h0 h1 h7 h11 h13 h2 h3 h4 h5 h6 h8 h9 h10 h12 x1 x2 x3 h0f2 h0f6 h0f8 h0f11 h1f0 h1f1 h1f2) (v := (-2)) hQ hx hb hr hlocks hS (Nat.le_of_ble_eq_true rfl) (Nat.le_of_ble_eq_true rfl) dX10_made_49 (⟨h0f6, h0f8, h1f1, (by have := li_m2; omega), (by have := li_m2; omega), (by have := li_m2; omega), (by have := li_m2; omega), (hT.sub [0, 4, 1, 2, 3] (by decide) rfl)⟩)
        · skip
          have c_6 := ni_eq c_6 rfl li_0
          refine lv_aload_n hx hb dX10_made_24 rfl (lv_at hl 0 rfl) ?_
          refine tz_get (ci := 7) (v := .ref h1) (C := RX10) (F := TX10) (N := 17) hx hb hU iX10 hown hK hT 0 rfl rfl 0 (by decide) w249 (fun _ h9 => h9) rfl dX10_made_25 ?_
          refine lv_iload_n hx hb dX10_made_28 rfl (lv_at hl 3 rfl) ?_
          refine tcI (Tc := [(h1, ob 4 [.int h1f0, .int h1f1, .int h1f2, .ref h13])]) (Tr := [(h0, ob 7 [.ref h1, .ref h2, .int h0f2, .ref h3, .ref h4, .ref h5, .int h0f6, .ref h6, .int h0f8, .null, .ref h7, .int h0f11, .ref h8, .ref h9, .ref h10, .ref h11, .ref h12]), (h7, aI (k 0) 8 (rgI 0 0)), (h11, aJ (k 1) 9 anJ), (h13, aJ (k 1) 36 anJ)]) (as := [h1]) (zcV (q0 := 4) (ci := 4) (As := [.int x3]) (rest := []) (Tc := [(h1, ob 4 [.int h1f0, .int h1f1, .int h1f2, .ref h13])]) hx hb hml hown hU hK hT rfl rfl [4] rfl (by decide) (cX5_has_64567 l D k _ h1 h13 x3 h1f0 h1f1 h1f2 (by omega) (by omega)) w356 w353 w354 w355 w64 hdX5_has ⟨rfl, rfl⟩ ⟨Nat.le_of_ble_eq_true rfl, Nat.le_of_ble_eq_true rfl⟩ rfl hl.1 (Nat.le_of_ble_eq_true rfl) dX10_made_29 ⟨Nat.le_of_ble_eq_true rfl, Nat.le_of_ble_eq_true rfl⟩) hT hS hA [4] [0, 1, 2, 3] rfl rfl rfl (by decide) (by decide) (fun r16 H locs hB J hS => ?_)
          rcases hB with ⟨rfl, hT1⟩ | ⟨c_17, c_18, rfl, hT1⟩
          · skip
            have hT := J _ hT1
            have hT : TP D A [(h0, ob 7 [.ref h1, .ref h2, .int h0f2, .ref h3, .ref h4, .ref h5, .int h0f6, .ref h6, .int h0f8, .null, .ref h7, .int h0f11, .ref h8, .ref h9, .ref h10, .ref h11, .ref h12]), (h7, aI (k 0) 8 (rgI 0 0)), (h11, aJ (k 1) 9 anJ), (h13, aJ (k 1) 36 anJ), (h1, ob 4 [.int h1f0, .int h1f1, .int h1f2, .ref h13])] _ := hT
            refine lv_if_ne (tgt := 37) hx hb dX10_made_32 (by decide) (fun cc => absurd (by decide +kernel) cc) (fun _ => ?_)
            refine lv_iconst (v := (-1)) hx hb dX10_made_35 (by decide) ?_
            exact tz_retI (B := B_cX10_made_9822f D k h0 h1 h7 h11 h13 h2 h3 h4 h5 h6 h8 h9 h10 h12 x1 x2 x3 h0f2 h0f6 h0f8 h0f11 h1f0 h1f1 h1f2) (v := (-1)) hQ hx hb hr hlocks hS (Nat.le_of_ble_eq_true rfl) (Nat.le_of_ble_eq_true rfl) dX10_made_36 (⟨h0f6, h0f8, h1f1, (by have := li_m1; omega), (by have := li_m1; omega), (by have := li_m1; omega), (by have := li_m1; omega), (hT.sub [0, 4, 1, 2, 3] (by decide) rfl)⟩)
          · skip
            have hT := J _ hT1
            have hT : TP D A [(h0, ob 7 [.ref h1, .ref h2, .int h0f2, .ref h3, .ref h4, .ref h5, .int h0f6, .ref h6, .int h0f8, .null, .ref h7, .int h0f11, .ref h8, .ref h9, .ref h10, .ref h11, .ref h12]), (h7, aI (k 0) 8 (rgI 0 0)), (h11, aJ (k 1) 9 anJ), (h13, aJ (k 1) 36 anJ), (h1, ob 4 [.int h1f0, .int h1f1, .int h1f2, .ref h13])] _ := hT
            refine lv_if_ne (tgt := 37) hx hb dX10_made_32 (by decide) (fun _ => ?_) (fun cc => absurd cc (by decide +kernel))
            refine lv_aload_n hx hb dX10_made_37 rfl (lv_at hl 0 rfl) ?_
            refine tz_get (ci := 7) (v := .ref h1) (C := RX10) (F := TX10) (N := 17) hx hb hU iX10 hown hK hT 0 rfl rfl 0 (by decide) w249 (fun _ h9 => h9) rfl dX10_made_38 ?_
            refine tcI (Tc := [(h1, ob 4 [.int h1f0, .int h1f1, .int h1f2, .ref h13])]) (Tr := [(h0, ob 7 [.ref h1, .ref h2, .int h0f2, .ref h3, .ref h4, .ref h5, .int h0f6, .ref h6, .int h0f8, .null, .ref h7, .int h0f11, .ref h8, .ref h9, .ref h10, .ref h11, .ref h12]), (h7, aI (k 0) 8 (rgI 0 0)), (h11, aJ (k 1) 9 anJ), (h13, aJ (k 1) 36 anJ)]) (as := [h1]) (zcV (q0 := 4) (ci := 4) (As := []) (rest := []) (Tc := [(h1, ob 4 [.int h1f0, .int h1f1, .int h1f2, .ref h13])]) hx hb hml hown hU hK hT rfl rfl [4] rfl (by decide) (cX5_isFull_cc49c l D k _ h1 h13 h1f0 h1f1 h1f2 (by omega) (by omega)) w326 w323 w324 w325 w64 hdX5_isFull ⟨rfl, rfl⟩ ⟨Nat.le_of_ble_eq_true rfl, Nat.le_of_ble_eq_true rfl⟩ rfl hl.1 (Nat.le_of_ble_eq_true rfl) dX10_made_41 ⟨Nat.le_of_ble_eq_true rfl, Nat.le_of_ble_eq_true rfl⟩) hT hS hA [4] [0, 1, 2, 3] rfl rfl rfl (by decide) (by decide) (fun r19 H locs hB J hS => ?_)
            rcases hB with ⟨c_20, rfl, hT1⟩ | ⟨rfl, hT1⟩
            · skip
              have hT := J _ hT1
              have hT : TP D A [(h0, ob 7 [.ref h1, .ref h2, .int h0f2, .ref h3, .ref h4, .ref h5, .int h0f6, .ref h6, .int h0f8, .null, .ref h7, .int h0f11, .ref h8, .ref h9, .ref h10, .ref h11, .ref h12]), (h7, aI (k 0) 8 (rgI 0 0)), (h11, aJ (k 1) 9 anJ), (h13, aJ (k 1) 36 anJ), (h1, ob 4 [.int h1f0, .int h1f1, .int h1f2, .ref h13])] _ := hT
              refine lv_if_eq (tgt := 50) hx hb dX10_made_44 (by decide) (fun _ => ?_) (fun cc => absurd (by decide +kernel) cc)
              refine lv_aload_n hx hb dX10_made_50 rfl (lv_at hl 0 rfl) ?_
              refine lv_iload_n hx hb dX10_made_51 rfl (lv_at hl 1 rfl) ?_
              refine lv_iload_n hx hb dX10_made_52 rfl (lv_at hl 2 rfl) ?_
              refine lv_iload_n hx hb dX10_made_53 rfl (lv_at hl 3 rfl) ?_
              refine tcV (Tc := [(h0, ob 7 [.ref h1, .ref h2, .int h0f2, .ref h3, .ref h4, .ref h5, .int h0f6, .ref h6, .int h0f8, .null, .ref h7, .int h0f11, .ref h8, .ref h9, .ref h10, .ref h11, .ref h12]), (h1, ob 4 [.int h1f0, .int h1f1, .int h1f2, .ref h13]), (h11, aJ (k 1) 9 anJ), (h13, aJ (k 1) 36 anJ)]) (Tr := [(h7, aI (k 0) 8 (rgI 0 0))]) (as := [h0, h1, h11, h13]) (zcV (q0 := 0) (ci := 7) (As := [.int x1, .int x2, .int x3]) (rest := []) (Tc := [(h0, ob 7 [.ref h1, .ref h2, .int h0f2, .ref h3, .ref h4, .ref h5, .int h0f6, .ref h6, .int h0f8, .null, .ref h7, .int h0f11, .ref h8, .ref h9, .ref h10, .ref h11, .ref h12]), (h1, ob 4 [.int h1f0, .int h1f1, .int h1f2, .ref h13]), (h11, aJ (k 1) 9 anJ), (h13, aJ (k 1) 36 anJ)]) hx hb hml hown hU hK hT rfl rfl [0, 4, 2, 3] rfl (by decide) (cX10_makeOf_0e41d l D k _ h0 h1 h11 h13 h2 h3 h4 h5 h6 h7 h8 h9 h10 h12 x1 x2 x3 h0f2 h0f6 h0f8 h0f11 h1f0 h1f1 h1f2 (by omega) (by omega) (by omega) (by omega) (by omega) (by omega) (by omega) (by omega) (by omega)) w360 w357 w359 w3 w63 hdX10_makeOf ⟨rfl, rfl⟩ ⟨Nat.le_of_ble_eq_true rfl, Nat.le_of_ble_eq_true rfl⟩ rfl hl.1 (Nat.le_of_ble_eq_true rfl) dX10_made_54 ⟨Nat.le_of_ble_eq_true rfl, Nat.le_of_ble_eq_true rfl⟩) hT hS hA [0, 4, 2, 3] [1] rfl rfl rfl (by decide) (by decide) (fun H locs hB J hS => ?_)
              have hT1 := hB
              have hT := J _ hT1
              have hT : TP D A [(h7, aI (k 0) 8 (rgI 0 0)), (h0, ob 7 [.ref h1, .ref h2, .int h0f2, .ref h3, .ref h4, .ref h5, .int h0f6, .ref h6, .int h0f8, .null, .ref h7, .int h0f11, .ref h8, .ref h9, .ref h10, .ref h11, .ref h12]), (h1, ob 4 [.int h1f0, .int h1f1, .int h1f2, .ref h13]), (h11, aJ (k 1) 9 anJ), (h13, aJ (k 1) 36 anJ)] _ := hT
              refine lv_aload_n hx hb dX10_made_57 rfl (lv_at hl 0 rfl) ?_
              refine tz_get (ci := 7) (v := .ref h11) (C := RX10) (F := TX10) (N := 17) hx hb hU iX10 hown hK hT 1 rfl rfl 15 (by decide) w264 (fun _ h9 => h9) rfl dX10_made_58 ?_
              refine lv_aload_n hx hb dX10_made_61 rfl (lv_at hl 0 rfl) ?_
              refine tz_get (ci := 7) (v := .ref h1) (C := RX10) (F := TX10) (N := 17) hx hb hU iX10 hown hK hT 1 rfl rfl 0 (by decide) w249 (fun _ h9 => h9) rfl dX10_made_62 ?_
              refine tcI (Tc := [(h1, ob 4 [.int h1f0, .int h1f1, .int h1f2, .ref h13])]) (Tr := [(h7, aI (k 0) 8 (rgI 0 0)), (h0, ob 7 [.ref h1, .ref h2, .int h0f2, .ref h3, .ref h4, .ref h5, .int h0f6, .ref h6, .int h0f8, .null, .ref h7, .int h0f11, .ref h8, .ref h9, .ref h10, .ref h11, .ref h12]), (h11, aJ (k 1) 9 anJ), (h13, aJ (k 1) 36 anJ)]) (as := [h1]) (zcV (q0 := 2) (ci := 4) (As := []) (rest := [.ref h11]) (Tc := [(h1, ob 4 [.int h1f0, .int h1f1, .int h1f2, .ref h13])]) hx hb hml hown hU hK hT rfl rfl [2] rfl (by decide) (cX5_cellCount_642c9 l D k _ h1 h13 h1f0 h1f1 h1f2 (by omega) (by omega)) w385 w382 w383 w384 w64 hdX5_cellCount ⟨rfl, rfl⟩ ⟨Nat.le_of_ble_eq_true rfl, Nat.le_of_ble_eq_true rfl⟩ rfl hl.1 (Nat.le_of_ble_eq_true rfl) dX10_made_65 ⟨Nat.le_of_ble_eq_true rfl, Nat.le_of_ble_eq_true rfl⟩) hT hS hA [2] [0, 1, 3, 4] rfl rfl rfl (by decide) (by decide) (fun r22 H locs hB J hS => ?_)
              obtain ⟨b_r22, hT1⟩ := hB
              have hT := J _ hT1
              have hT : TP D A [(h7, aI (k 0) 8 (rgI 0 0)), (h0, ob 7 [.ref h1, .ref h2, .int h0f2, .ref h3, .ref h4, .ref h5, .int h0f6, .ref h6, .int h0f8, .null, .ref h7, .int h0f11, .ref h8, .ref h9, .ref h10, .ref h11, .ref h12]), (h11, aJ (k 1) 9 anJ), (h13, aJ (k 1) 36 anJ), (h1, ob 4 [.int h1f0, .int h1f1, .int h1f2, .ref h13])] _ := hT
              refine lv_ldc2 hx hb hown (hU _ w386) dX10_made_68 ?_
              have q_q24 := ll_99
              refine tcI (Tc := [(h11, aJ (k 1) 9 anJ)]) (Tr := [(h7, aI (k 0) 8 (rgI 0 0)), (h0, ob 7 [.ref h1, .ref h2, .int h0f2, .ref h3, .ref h4, .ref h5, .int h0f6, .ref h6, .int h0f8, .null, .ref h7, .int h0f11, .ref h8, .ref h9, .ref h10, .ref h11, .ref h12]), (h13, aJ (k 1) 36 anJ), (h1, ob 4 [.int h1f0, .int h1f1, .int h1f2, .ref h13])]) (as := [h11]) (zcS (As := [.ref h11, .int r22, .long 99]) (rest := []) (Tc := [(h11, aJ (k 1) 9 anJ)]) hx hb hml hown hU hK hT [2] rfl (by decide) (cX7_isWithin_443ab l D k _ h11 r22 (99) (by omega) (by have := ll_99; omega)) w389 w387 w388 w74 hdX7_isWithin ⟨rfl, rfl⟩ ⟨Nat.le_of_ble_eq_true rfl, Nat.le_of_ble_eq_true rfl⟩ rfl hl.1 (Nat.le_of_ble_eq_true rfl) dX10_made_71 ⟨Nat.le_of_ble_eq_true rfl, Nat.le_of_ble_eq_true rfl⟩) hT hS hA [2] [0, 1, 3, 4] rfl rfl rfl (by decide) (by decide) (fun r23 H locs hB J hS => ?_)
              obtain ⟨b_r23, hT1⟩ := hB
              have hT := J _ hT1
              have hT : TP D A [(h7, aI (k 0) 8 (rgI 0 0)), (h0, ob 7 [.ref h1, .ref h2, .int h0f2, .ref h3, .ref h4, .ref h5, .int h0f6, .ref h6, .int h0f8, .null, .ref h7, .int h0f11, .ref h8, .ref h9, .ref h10, .ref h11, .ref h12]), (h13, aJ (k 1) 36 anJ), (h1, ob 4 [.int h1f0, .int h1f1, .int h1f2, .ref h13]), (h11, aJ (k 1) 9 anJ)] _ := hT
              refine lv_if_ne (tgt := 80) hx hb dX10_made_74 (by decide) (fun c_25 => ?_) (fun c_25 => ?_)
              · skip
                have c_25 := ni_ne c_25 rfl li_0
                refine lv_aload_n hx hb dX10_made_80 rfl (lv_at hl 0 rfl) ?_
                refine tcI (Tc := [(h0, ob 7 [.ref h1, .ref h2, .int h0f2, .ref h3, .ref h4, .ref h5, .int h0f6, .ref h6, .int h0f8, .null, .ref h7, .int h0f11, .ref h8, .ref h9, .ref h10, .ref h11, .ref h12]), (h1, ob 4 [.int h1f0, .int h1f1, .int h1f2, .ref h13]), (h7, aI (k 0) 8 (rgI 0 0)), (h11, aJ (k 1) 9 anJ), (h13, aJ (k 1) 36 anJ)]) (Tr := []) (as := [h0, h1, h7, h11, h13]) (zcV (q0 := 1) (ci := 7) (As := []) (rest := []) (Tc := [(h0, ob 7 [.ref h1, .ref h2, .int h0f2, .ref h3, .ref h4, .ref h5, .int h0f6, .ref h6, .int h0f8, .null, .ref h7, .int h0f11, .ref h8, .ref h9, .ref h10, .ref h11, .ref h12]), (h1, ob 4 [.int h1f0, .int h1f1, .int h1f2, .ref h13]), (h7, aI (k 0) 8 (rgI 0 0)), (h11, aJ (k 1) 9 anJ), (h13, aJ (k 1) 36 anJ)]) hx hb hml hown hU hK hT rfl rfl [1, 3, 0, 4, 2] rfl (by decide) (cX10_addSquare_58103 l D k _ h0 h1 h7 h11 h13 h2 h3 h4 h5 h6 h8 h9 h10 h12 h0f2 h0f6 h0f8 h0f11 h1f0 h1f1 h1f2 (by omega) (by omega) (by omega) (by omega) (by omega) (by omega)) w340 w337 w339 w2 w63 hdX10_addSquare ⟨rfl, rfl⟩ ⟨Nat.le_of_ble_eq_true rfl, Nat.le_of_ble_eq_true rfl⟩ rfl hl.1 (Nat.le_of_ble_eq_true rfl) dX10_made_81 ⟨Nat.le_of_ble_eq_true rfl, Nat.le_of_ble_eq_true rfl⟩) hT hS hA [1, 3, 0, 4, 2] [] rfl rfl rfl (by decide) (by decide) (fun r26 H locs hB J hS => ?_)
                obtain ⟨v27, b_v27, b_r26, hT1⟩ := hB
                have hT := J _ hT1
                have hT : TP D A [(h0, ob 7 [.ref h1, .ref h2, .int h0f2, .ref h3, .ref h4, .ref h5, .int 0, .ref h6, .int 0, .null, .ref h7, .int h0f11, .ref h8, .ref h9, .ref h10, .ref h11, .ref h12]), (h1, ob 4 [.int h1f0, .int v27, .int h1f2, .ref h13]), (h7, aI (k 0) 8 (rgI 0 0)), (h11, aJ (k 1) 9 anJ), (h13, aJ (k 1) 36 anJ)] _ := hT
                exact tz_retI (B := B_cX10_made_9822f D k h0 h1 h7 h11 h13 h2 h3 h4 h5 h6 h8 h9 h10 h12 x1 x2 x3 h0f2 h0f6 h0f8 h0f11 h1f0 h1f1 h1f2) (v := r26) hQ hx hb hr hlocks hS (Nat.le_of_ble_eq_true rfl) (Nat.le_of_ble_eq_true rfl) dX10_made_84 (⟨0, 0, v27, (by have := li_0; omega), (by have := li_0; omega), (by have := li_0; omega), (by have := li_0; omega), hT⟩)
              · skip
                have c_25 := ni_eq c_25 rfl li_0
                refine lv_bipush (v := (-16)) hx hb dX10_made_77 (by decide) ?_
                exact tz_retI (B := B_cX10_made_9822f D k h0 h1 h7 h11 h13 h2 h3 h4 h5 h6 h8 h9 h10 h12 x1 x2 x3 h0f2 h0f6 h0f8 h0f11 h1f0 h1f1 h1f2) (v := (-16)) hQ hx hb hr hlocks hS (Nat.le_of_ble_eq_true rfl) (Nat.le_of_ble_eq_true rfl) dX10_made_79 (⟨h0f6, h0f8, h1f1, (by have := li_m16; omega), (by have := li_m16; omega), (by have := li_m16; omega), (by have := li_m16; omega), (hT.sub [1, 3, 0, 4, 2] (by decide) rfl)⟩)
            · skip
              have hT := J _ hT1
              have hT : TP D A [(h0, ob 7 [.ref h1, .ref h2, .int h0f2, .ref h3, .ref h4, .ref h5, .int h0f6, .ref h6, .int h0f8, .null, .ref h7, .int h0f11, .ref h8, .ref h9, .ref h10, .ref h11, .ref h12]), (h7, aI (k 0) 8 (rgI 0 0)), (h11, aJ (k 1) 9 anJ), (h13, aJ (k 1) 36 anJ), (h1, ob 4 [.int h1f0, .int h1f1, .int h1f2, .ref h13])] _ := hT
              refine lv_if_eq (tgt := 50) hx hb dX10_made_44 (by decide) (fun cc => absurd cc (by decide +kernel)) (fun _ => ?_)
              refine lv_bipush (v := (-2)) hx hb dX10_made_47 (by decide) ?_
              exact tz_retI (B := B_cX10_made_9822f D k h0 h1 h7 h11 h13 h2 h3 h4 h5 h6 h8 h9 h10 h12 x1 x2 x3 h0f2 h0f6 h0f8 h0f11 h1f0 h1f1 h1f2) (v := (-2)) hQ hx hb hr hlocks hS (Nat.le_of_ble_eq_true rfl) (Nat.le_of_ble_eq_true rfl) dX10_made_49 (⟨h0f6, h0f8, h1f1, (by have := li_m2; omega), (by have := li_m2; omega), (by have := li_m2; omega), (by have := li_m2; omega), (hT.sub [0, 4, 1, 2, 3] (by decide) rfl)⟩)
abbrev Rm_cX10_drop_7b468 : Room := { frames := 2, cells := 0, slots := 0, locals := 43 }
abbrev B_cX10_drop_7b468 (D : va_G) (k : Nat → ClassId) (h0 h1 h7 h2 h3 h4 h5 h6 h8 h9 h10 h11 h12 h13 : Nat) (h0f2 : Int32) (h0f6 : Int32) (h0f8 : Int32) (h0f11 : Int32) (h1f0 : Int32) (h1f1 : Int32) (h1f2 : Int32) (A : Nat → Prop) (r : Int32) (H : Heap) : Prop := ∃ o0 : Int32, ∃ o1 : Int32, ∃ o2 : Int32, (0 ≤ o0.toInt ∧ o0.toInt ≤ 1) ∧ (0 ≤ o1.toInt ∧ o1.toInt ≤ 1) ∧ (0 ≤ o2.toInt ∧ o2.toInt ≤ 3) ∧ ((-3) ≤ r.toInt ∧ r.toInt ≤ 3) ∧ TP D A [(h0, ob 7 [.ref h1, .ref h2, .int h0f2, .ref h3, .ref h4, .ref h5, .int o0, .ref h6, .int o1, .null, .ref h7, .int h0f11, .ref h8, .ref h9, .ref h10, .ref h11, .ref h12]), (h1, ob 4 [.int h1f0, .int o2, .int h1f2, .ref h13]), (h7, aI (k 0) 8 (rgI 0 0))] H
set_option maxHeartbeats 4000000 in
set_option maxRecDepth 100000 in
theorem cX10_drop_7b468 (l : Launch) (D : va_G) (k : Nat → ClassId) (sz : Nat) (h0 h1 h7 h2 h3 h4 h5 h6 h8 h9 h10 h11 h12 h13 : Nat) (h0f2 : Int32) (h0f6 : Int32) (h0f8 : Int32) (h0f11 : Int32) (h1f0 : Int32) (h1f1 : Int32) (h1f2 : Int32) (b_h0f2 : 0 ≤ h0f2.toInt ∧ h0f2.toInt ≤ 1) (b_h0f6 : 0 ≤ h0f6.toInt ∧ h0f6.toInt ≤ 1) (b_h0f8 : 0 ≤ h0f8.toInt ∧ h0f8.toInt ≤ 1) (b_h0f11 : 0 ≤ h0f11.toInt ∧ h0f11.toInt ≤ 200) (b_h1f0 : 1 ≤ h1f0.toInt ∧ h1f0.toInt ≤ 3) (b_h1f1 : 0 ≤ h1f1.toInt ∧ h1f1.toInt ≤ 4) : Met l yX10_drop (Cond.code yX10_drop cX10_drop 1 (some .int) :: uw) Rm_cX10_drop_7b468 (pT D k sz [.ref h0] [(h0, ob 7 [.ref h1, .ref h2, .int h0f2, .ref h3, .ref h4, .ref h5, .int h0f6, .ref h6, .int h0f8, .null, .ref h7, .int h0f11, .ref h8, .ref h9, .ref h10, .ref h11, .ref h12]), (h1, ob 4 [.int h1f0, .int h1f1, .int h1f2, .ref h13]), (h7, aI (k 0) 8 (rgI 0 0))]) (qI (B_cX10_drop_7b468 D k h0 h1 h7 h2 h3 h4 h5 h6 h8 h9 h10 h11 h12 h13 h0f2 h0f6 h0f8 h0f11 h1f0 h1f1 h1f2 (zA [h0, h1, h7] sz)) (zA [h0, h1, h7] sz)) 0 0 (zA [h0, h1, h7] sz) := by
  refine tz_begin (as := [h0, h1, h7]) (Qc := fun A => qI (B_cX10_drop_7b468 D k h0 h1 h7 h2 h3 h4 h5 h6 h8 h9 h10 h11 h12 h13 h0f2 h0f6 h0f8 h0f11 h1f0 h1f1 h1f2 A) A) (by decide +kernel) rfl (Nat.le_of_ble_eq_true rfl) ?_
  intro p e s m args below meth c ls A Q hx hb hr hml hown hlocks hin hU hK hT hS hA hl hQ
  have hl : lv_has ls 1 [(0, .ref h0)] := hl
  have hT : TP D A [(h0, ob 7 [.ref h1, .ref h2, .int h0f2, .ref h3, .ref h4, .ref h5, .int h0f6, .ref h6, .int h0f8, .null, .ref h7, .int h0f11, .ref h8, .ref h9, .ref h10, .ref h11, .ref h12]), (h1, ob 4 [.int h1f0, .int h1f1, .int h1f2, .ref h13]), (h7, aI (k 0) 8 (rgI 0 0))] s.heap := hT
  refine lv_aload_n hx hb dX10_drop_0 rfl (lv_at hl 0 rfl) ?_
  refine tz_get (ci := 7) (v := .ref h1) (C := RX10) (F := TX10) (N := 17) hx hb hU iX10 hown hK hT 0 rfl rfl 0 (by decide) w249 (fun _ h9 => h9) rfl dX10_drop_1 ?_
  refine tz_get (ci := 4) (v := .int h1f1) (C := RX5) (F := TX5) (N := 4) hx hb hU iX5 hown hK hT 1 rfl rfl 1 (by decide) w97 (fun _ h9 => h9) rfl dX10_drop_4 ?_
  refine lv_if_ne (tgt := 13) hx hb dX10_drop_7 (by decide) (fun c_1 => ?_) (fun c_1 => ?_)
  · skip
    have c_1 := ni_ne c_1 rfl li_0
    refine lv_aload_n hx hb dX10_drop_13 rfl (lv_at hl 0 rfl) ?_
    refine tz_get (ci := 7) (v := .ref h1) (C := RX10) (F := TX10) (N := 17) hx hb hU iX10 hown hK hT 0 rfl rfl 0 (by decide) w249 (fun _ h9 => h9) rfl dX10_drop_14 ?_
    refine lv_dup hx hb dX10_drop_17 rfl ?_
    refine tz_get (ci := 4) (v := .int h1f1) (C := RX5) (F := TX5) (N := 4) hx hb hU iX5 hown hK hT 1 rfl rfl 1 (by decide) w97 (fun _ h9 => h9) rfl dX10_drop_18 ?_
    refine lv_iconst (v := 1) hx hb dX10_drop_21 (by decide) ?_
    refine lv_isub hx hb dX10_drop_22 (lv_topi (fun v2 e_v2 => ?_))
    have e_v2 := ai_sub e_v2 rfl li_1 (by omega)
    refine tz_put (ci := 4) (v := .int v2) (ty := .int) (C := RX5) (F := TX5) (N := 4) hx hb hU iX5 tyX5 tyX5_ok nmX5 hown hK hT hS 1 rfl rfl 1 (by decide) w97 (fun _ h9 => h9) rfl (by decide +kernel) rfl rfl (Nat.le_of_ble_eq_true rfl) dX10_drop_23 (fun H locs hT hS => ?_)
    have hT : TP D A [(h0, ob 7 [.ref h1, .ref h2, .int h0f2, .ref h3, .ref h4, .ref h5, .int h0f6, .ref h6, .int h0f8, .null, .ref h7, .int h0f11, .ref h8, .ref h9, .ref h10, .ref h11, .ref h12]), (h1, ob 4 [.int h1f0, .int v2, .int h1f2, .ref h13]), (h7, aI (k 0) 8 (rgI 0 0))] _ := hT
    refine lv_aload_n hx hb dX10_drop_26 rfl (lv_at hl 0 rfl) ?_
    refine tcV (Tc := [(h0, ob 7 [.ref h1, .ref h2, .int h0f2, .ref h3, .ref h4, .ref h5, .int h0f6, .ref h6, .int h0f8, .null, .ref h7, .int h0f11, .ref h8, .ref h9, .ref h10, .ref h11, .ref h12]), (h7, aI (k 0) 8 (rgI 0 0))]) (Tr := [(h1, ob 4 [.int h1f0, .int v2, .int h1f2, .ref h13])]) (as := [h0, h7]) (zcV (q0 := 0) (ci := 7) (As := []) (rest := []) (Tc := [(h0, ob 7 [.ref h1, .ref h2, .int h0f2, .ref h3, .ref h4, .ref h5, .int h0f6, .ref h6, .int h0f8, .null, .ref h7, .int h0f11, .ref h8, .ref h9, .ref h10, .ref h11, .ref h12]), (h7, aI (k 0) 8 (rgI 0 0))]) hx hb hml hown hU hK hT rfl rfl [0, 2] rfl (by decide) (cX10_forgetWhatCame_68566 l D k _ h0 h7 h1 h2 h3 h4 h5 h6 h8 h9 h10 h11 h12 h0f2 h0f6 h0f8 h0f11 (by omega) (by omega) (by omega) (by omega)) w308 w305 w307 w0 w63 hdX10_forgetWhatCame ⟨rfl, rfl⟩ ⟨Nat.le_of_ble_eq_true rfl, Nat.le_of_ble_eq_true rfl⟩ rfl hl.1 (Nat.le_of_ble_eq_true rfl) dX10_drop_27 ⟨Nat.le_of_ble_eq_true rfl, Nat.le_of_ble_eq_true rfl⟩) hT hS hA [0, 2] [1] rfl rfl rfl (by decide) (by decide) (fun H locs hB J hS => ?_)
    have hT1 := hB
    have hT := J _ hT1
    have hT : TP D A [(h1, ob 4 [.int h1f0, .int v2, .int h1f2, .ref h13]), (h0, ob 7 [.ref h1, .ref h2, .int h0f2, .ref h3, .ref h4, .ref h5, .int 0, .ref h6, .int 0, .null, .ref h7, .int h0f11, .ref h8, .ref h9, .ref h10, .ref h11, .ref h12]), (h7, aI (k 0) 8 (rgI 0 0))] _ := hT
    refine lv_aload_n hx hb dX10_drop_30 rfl (lv_at hl 0 rfl) ?_
    refine tz_get (ci := 7) (v := .ref h1) (C := RX10) (F := TX10) (N := 17) hx hb hU iX10 hown hK hT 1 rfl rfl 0 (by decide) w249 (fun _ h9 => h9) rfl dX10_drop_31 ?_
    refine tz_get (ci := 4) (v := .int v2) (C := RX5) (F := TX5) (N := 4) hx hb hU iX5 hown hK hT 0 rfl rfl 1 (by decide) w97 (fun _ h9 => h9) rfl dX10_drop_34 ?_
    exact tz_retI (B := B_cX10_drop_7b468 D k h0 h1 h7 h2 h3 h4 h5 h6 h8 h9 h10 h11 h12 h13 h0f2 h0f6 h0f8 h0f11 h1f0 h1f1 h1f2) (v := v2) hQ hx hb hr hlocks hS (Nat.le_of_ble_eq_true rfl) (Nat.le_of_ble_eq_true rfl) dX10_drop_37 (⟨0, 0, v2, (by have := li_0; omega), (by have := li_0; omega), (by have := li_0; omega), (by have := li_0; omega), (hT.sub [1, 0, 2] (by decide) rfl)⟩)
  · skip
    have c_1 := ni_eq c_1 rfl li_0
    refine lv_bipush (v := (-3)) hx hb dX10_drop_10 (by decide) ?_
    exact tz_retI (B := B_cX10_drop_7b468 D k h0 h1 h7 h2 h3 h4 h5 h6 h8 h9 h10 h11 h12 h13 h0f2 h0f6 h0f8 h0f11 h1f0 h1f1 h1f2) (v := (-3)) hQ hx hb hr hlocks hS (Nat.le_of_ble_eq_true rfl) (Nat.le_of_ble_eq_true rfl) dX10_drop_12 (⟨h0f6, h0f8, h1f1, (by have := li_m3; omega), (by have := li_m3; omega), (by have := li_m3; omega), (by have := li_m3; omega), hT⟩)
abbrev Rm_cX10_text_c0fb2 : Room := { frames := 5, cells := 0, slots := 0, locals := 122 }
abbrev B_cX10_text_c0fb2 (D : va_G) (k : Nat → ClassId) (h0 h1 h3 h7 h13 h15 h16 h2 h4 h5 h6 h8 h9 h10 h11 h12 : Nat) (h0f2 : Int32) (h0f6 : Int32) (h0f8 : Int32) (h0f11 : Int32) (h1f0 : Int32) (h1f1 : Int32) (h1f2 : Int32) (h3f1 : Int32) (h3f2 : Int32) (h3f3 : Int32) (A : Nat → Prop) (r : Int32) (H : Heap) : Prop := ∃ o0 : Int32, ∃ o1 : Int32, ∃ o2 : Int32, ∃ o3 : Int32, ∃ o4 : Int32, (0 ≤ o0.toInt ∧ o0.toInt ≤ 1) ∧ (0 ≤ o1.toInt ∧ o1.toInt ≤ 1) ∧ (0 ≤ o2.toInt ∧ o2.toInt ≤ 4) ∧ (0 ≤ o3.toInt ∧ o3.toInt ≤ 120) ∧ (0 ≤ o4.toInt ∧ o4.toInt ≤ 4) ∧ ((-220) ≤ r.toInt ∧ r.toInt ≤ 4) ∧ TP D A [(h0, ob 7 [.ref h1, .ref h2, .int h0f2, .ref h3, .ref h4, .ref h5, .int o0, .ref h6, .int o1, .null, .ref h7, .int h0f11, .ref h8, .ref h9, .ref h10, .ref h11, .ref h12]), (h1, ob 4 [.int h1f0, .int o2, .int h1f2, .ref h13]), (h3, ob 6 [.ref h15, .int 0, .int o3, .int o4, .ref h16]), (h7, aI (k 0) 8 (rgI 0 0)), (h13, aJ (k 1) 36 anJ), (h15, aI (k 2) 120 anI), (h16, aJ (k 1) 36 anJ)] H
set_option maxHeartbeats 4000000 in
set_option maxRecDepth 100000 in
theorem cX10_text_c0fb2 (l : Launch) (D : va_G) (k : Nat → ClassId) (sz : Nat) (h0 h1 h3 h7 h13 h15 h16 h2 h4 h5 h6 h8 h9 h10 h11 h12 : Nat) (h0f2 : Int32) (h0f6 : Int32) (h0f8 : Int32) (h0f11 : Int32) (h1f0 : Int32) (h1f1 : Int32) (h1f2 : Int32) (h3f1 : Int32) (h3f2 : Int32) (h3f3 : Int32) (b_h0f2 : 0 ≤ h0f2.toInt ∧ h0f2.toInt ≤ 1) (b_h0f6 : 0 ≤ h0f6.toInt ∧ h0f6.toInt ≤ 1) (b_h0f8 : 0 ≤ h0f8.toInt ∧ h0f8.toInt ≤ 1) (b_h0f11 : 0 ≤ h0f11.toInt ∧ h0f11.toInt ≤ 200) (b_h1f0 : 1 ≤ h1f0.toInt ∧ h1f0.toInt ≤ 3) (b_h1f1 : 0 ≤ h1f1.toInt ∧ h1f1.toInt ≤ 4) (b_h3f1 : 0 ≤ h3f1.toInt ∧ h3f1.toInt ≤ 120) (b_h3f2 : 0 ≤ h3f2.toInt ∧ h3f2.toInt ≤ 120) (b_h3f3 : 0 ≤ h3f3.toInt ∧ h3f3.toInt ≤ 4) : Met l yX10_text (Cond.code yX10_text cX10_text 2 (some .int) :: uw) Rm_cX10_text_c0fb2 (pT D k sz [.ref h0] [(h0, ob 7 [.ref h1, .ref h2, .int h0f2, .ref h3, .ref h4, .ref h5, .int h0f6, .ref h6, .int h0f8, .null, .ref h7, .int h0f11, .ref h8, .ref h9, .ref h10, .ref h11, .ref h12]), (h1, ob 4 [.int h1f0, .int h1f1, .int h1f2, .ref h13]), (h3, ob 6 [.ref h15, .int h3f1, .int h3f2, .int h3f3, .ref h16]), (h7, aI (k 0) 8 (rgI 0 0)), (h13, aJ (k 1) 36 anJ), (h15, aI (k 2) 120 anI), (h16, aJ (k 1) 36 anJ)]) (qI (B_cX10_text_c0fb2 D k h0 h1 h3 h7 h13 h15 h16 h2 h4 h5 h6 h8 h9 h10 h11 h12 h0f2 h0f6 h0f8 h0f11 h1f0 h1f1 h1f2 h3f1 h3f2 h3f3 (zA [h0, h1, h3, h7, h13, h15, h16] sz)) (zA [h0, h1, h3, h7, h13, h15, h16] sz)) 0 0 (zA [h0, h1, h3, h7, h13, h15, h16] sz) := by
  refine tz_begin (as := [h0, h1, h3, h7, h13, h15, h16]) (Qc := fun A => qI (B_cX10_text_c0fb2 D k h0 h1 h3 h7 h13 h15 h16 h2 h4 h5 h6 h8 h9 h10 h11 h12 h0f2 h0f6 h0f8 h0f11 h1f0 h1f1 h1f2 h3f1 h3f2 h3f3 A) A) (by decide +kernel) rfl (Nat.le_of_ble_eq_true rfl) ?_
  intro p e s m args below meth c ls A Q hx hb hr hml hown hlocks hin hU hK hT hS hA hl hQ
  have hl : lv_has ls 2 [(0, .ref h0)] := hl
  have hT : TP D A [(h0, ob 7 [.ref h1, .ref h2, .int h0f2, .ref h3, .ref h4, .ref h5, .int h0f6, .ref h6, .int h0f8, .null, .ref h7, .int h0f11, .ref h8, .ref h9, .ref h10, .ref h11, .ref h12]), (h1, ob 4 [.int h1f0, .int h1f1, .int h1f2, .ref h13]), (h3, ob 6 [.ref h15, .int h3f1, .int h3f2, .int h3f3, .ref h16]), (h7, aI (k 0) 8 (rgI 0 0)), (h13, aJ (k 1) 36 anJ), (h15, aI (k 2) 120 anI), (h16, aJ (k 1) 36 anJ)] s.heap := hT
  refine lv_aload_n hx hb dX10_text_0 rfl (lv_at hl 0 rfl) ?_
  refine tz_get (ci := 7) (v := .ref h3) (C := RX10) (F := TX10) (N := 17) hx hb hU iX10 hown hK hT 0 rfl rfl 3 (by decide) w252 (fun _ h9 => h9) rfl dX10_text_1 ?_
  refine lv_aload_n hx hb dX10_text_4 rfl (lv_at hl 0 rfl) ?_
  refine tz_get (ci := 7) (v := .ref h1) (C := RX10) (F := TX10) (N := 17) hx hb hU iX10 hown hK hT 0 rfl rfl 0 (by decide) w249 (fun _ h9 => h9) rfl dX10_text_5 ?_
  refine tz_get (ci := 4) (v := .int h1f0) (C := RX5) (F := TX5) (N := 4) hx hb hU iX5 hown hK hT 1 rfl rfl 0 (by decide) w93 (fun _ h9 => h9) rfl dX10_text_8 ?_
  refine tcI (Tc := [(h3, ob 6 [.ref h15, .int h3f1, .int h3f2, .int h3f3, .ref h16]), (h15, aI (k 2) 120 anI), (h16, aJ (k 1) 36 anJ)]) (Tr := [(h0, ob 7 [.ref h1, .ref h2, .int h0f2, .ref h3, .ref h4, .ref h5, .int h0f6, .ref h6, .int h0f8, .null, .ref h7, .int h0f11, .ref h8, .ref h9, .ref h10, .ref h11, .ref h12]), (h1, ob 4 [.int h1f0, .int h1f1, .int h1f2, .ref h13]), (h7, aI (k 0) 8 (rgI 0 0)), (h13, aJ (k 1) 36 anJ)]) (as := [h3, h15, h16]) (zcV (q0 := 2) (ci := 6) (As := [.int h1f0]) (rest := []) (Tc := [(h3, ob 6 [.ref h15, .int h3f1, .int h3f2, .int h3f3, .ref h16]), (h15, aI (k 2) 120 anI), (h16, aJ (k 1) 36 anJ)]) hx hb hml hown hU hK hT rfl rfl [2, 5, 6] rfl (by decide) (cX9_read_9e3bd l D k _ h3 h15 h16 h1f0 h3f1 h3f2 h3f3 (by omega) (by omega) (by omega) (by omega)) w460 w457 w458 w459 w65 hdX9_read ⟨rfl, rfl⟩ ⟨Nat.le_of_ble_eq_true rfl, Nat.le_of_ble_eq_true rfl⟩ rfl hl.1 (Nat.le_of_ble_eq_true rfl) dX10_text_11 ⟨Nat.le_of_ble_eq_true rfl, Nat.le_of_ble_eq_true rfl⟩) hT hS hA [2, 5, 6] [0, 1, 3, 4] rfl rfl rfl (by decide) (by decide) (fun r1 H locs hB J hS => ?_)
  obtain ⟨v2, v3, b_v2, b_v3, b_r1, hT1⟩ := hB
  have hT := J _ hT1
  have hT : TP D A [(h0, ob 7 [.ref h1, .ref h2, .int h0f2, .ref h3, .ref h4, .ref h5, .int h0f6, .ref h6, .int h0f8, .null, .ref h7, .int h0f11, .ref h8, .ref h9, .ref h10, .ref h11, .ref h12]), (h1, ob 4 [.int h1f0, .int h1f1, .int h1f2, .ref h13]), (h7, aI (k 0) 8 (rgI 0 0)), (h13, aJ (k 1) 36 anJ), (h3, ob 6 [.ref h15, .int h3f1, .int v2, .int v3, .ref h16]), (h15, aI (k 2) 120 anI), (h16, aJ (k 1) 36 anJ)] _ := hT
  refine lv_istore_n (lv' := [(1, .int r1), (0, .ref h0)]) hx hb dX10_text_14 rfl hl (by decide) rfl (fun ls hl => ?_)
  refine lv_aload_n hx hb dX10_text_15 rfl (lv_at hl 1 rfl) ?_
  refine tz_get (ci := 7) (v := .ref h3) (C := RX10) (F := TX10) (N := 17) hx hb hU iX10 hown hK hT 0 rfl rfl 3 (by decide) w252 (fun _ h9 => h9) rfl dX10_text_16 ?_
  refine lv_iconst (v := 0) hx hb dX10_text_19 (by decide) ?_
  refine tz_put (ci := 6) (v := .int 0) (ty := .int) (C := RX9) (F := TX9) (N := 5) hx hb hU iX9 tyX9 tyX9_ok nmX9 hown hK hT hS 4 rfl rfl 1 (by decide) w122 (fun _ h9 => h9) rfl (by decide +kernel) rfl rfl (Nat.le_of_ble_eq_true rfl) dX10_text_20 (fun H locs hT hS => ?_)
  have hT : TP D A [(h0, ob 7 [.ref h1, .ref h2, .int h0f2, .ref h3, .ref h4, .ref h5, .int h0f6, .ref h6, .int h0f8, .null, .ref h7, .int h0f11, .ref h8, .ref h9, .ref h10, .ref h11, .ref h12]), (h1, ob 4 [.int h1f0, .int h1f1, .int h1f2, .ref h13]), (h7, aI (k 0) 8 (rgI 0 0)), (h13, aJ (k 1) 36 anJ), (h3, ob 6 [.ref h15, .int 0, .int v2, .int v3, .ref h16]), (h15, aI (k 2) 120 anI), (h16, aJ (k 1) 36 anJ)] _ := hT
  refine lv_iload_n hx hb dX10_text_23 rfl (lv_at hl 0 rfl) ?_
  refine lv_if_ne (tgt := 38) hx hb dX10_text_24 (by decide) (fun c_4 => ?_) (fun c_4 => ?_)
  · skip
    have c_4 := ni_ne c_4 rfl li_0
    refine lv_aload_n hx hb dX10_text_38 rfl (lv_at hl 1 rfl) ?_
    refine tz_get (ci := 7) (v := .ref h1) (C := RX10) (F := TX10) (N := 17) hx hb hU iX10 hown hK hT 0 rfl rfl 0 (by decide) w249 (fun _ h9 => h9) rfl dX10_text_39 ?_
    refine lv_aload_n hx hb dX10_text_42 rfl (lv_at hl 1 rfl) ?_
    refine tz_get (ci := 7) (v := .ref h3) (C := RX10) (F := TX10) (N := 17) hx hb hU iX10 hown hK hT 0 rfl rfl 3 (by decide) w252 (fun _ h9 => h9) rfl dX10_text_43 ?_
    refine tz_get (ci := 6) (v := .int v3) (C := RX9) (F := TX9) (N := 5) hx hb hU iX9 hown hK hT 4 rfl rfl 3 (by decide) w126 (fun _ h9 => h9) rfl dX10_text_46 ?_
    refine tz_put (ci := 4) (v := .int v3) (ty := .int) (C := RX5) (F := TX5) (N := 4) hx hb hU iX5 tyX5 tyX5_ok nmX5 hown hK hT hS 1 rfl rfl 1 (by decide) w97 (fun _ h9 => h9) rfl (by decide +kernel) rfl rfl (Nat.le_of_ble_eq_true rfl) dX10_text_49 (fun H locs hT hS => ?_)
    have hT : TP D A [(h0, ob 7 [.ref h1, .ref h2, .int h0f2, .ref h3, .ref h4, .ref h5, .int h0f6, .ref h6, .int h0f8, .null, .ref h7, .int h0f11, .ref h8, .ref h9, .ref h10, .ref h11, .ref h12]), (h1, ob 4 [.int h1f0, .int v3, .int h1f2, .ref h13]), (h7, aI (k 0) 8 (rgI 0 0)), (h13, aJ (k 1) 36 anJ), (h3, ob 6 [.ref h15, .int 0, .int v2, .int v3, .ref h16]), (h15, aI (k 2) 120 anI), (h16, aJ (k 1) 36 anJ)] _ := hT
    refine lv_aload_n hx hb dX10_text_52 rfl (lv_at hl 1 rfl) ?_
    refine tz_get (ci := 7) (v := .ref h3) (C := RX10) (F := TX10) (N := 17) hx hb hU iX10 hown hK hT 0 rfl rfl 3 (by decide) w252 (fun _ h9 => h9) rfl dX10_text_53 ?_
    refine tz_get (ci := 6) (v := .ref h16) (C := RX9) (F := TX9) (N := 5) hx hb hU iX9 hown hK hT 4 rfl rfl 4 (by decide) w128 (fun _ h9 => h9) rfl dX10_text_56 ?_
    refine lv_iconst (v := 0) hx hb dX10_text_59 (by decide) ?_
    refine lv_aload_n hx hb dX10_text_60 rfl (lv_at hl 1 rfl) ?_
    refine tz_get (ci := 7) (v := .ref h1) (C := RX10) (F := TX10) (N := 17) hx hb hU iX10 hown hK hT 0 rfl rfl 0 (by decide) w249 (fun _ h9 => h9) rfl dX10_text_61 ?_
    refine tz_get (ci := 4) (v := .ref h13) (C := RX5) (F := TX5) (N := 4) hx hb hU iX5 hown hK hT 1 rfl rfl 3 (by decide) w103 (fun _ h9 => h9) rfl dX10_text_64 ?_
    refine lv_iconst (v := 0) hx hb dX10_text_67 (by decide) ?_
    refine lv_aload_n hx hb dX10_text_68 rfl (lv_at hl 1 rfl) ?_
    refine tz_get (ci := 7) (v := .ref h3) (C := RX10) (F := TX10) (N := 17) hx hb hU iX10 hown hK hT 0 rfl rfl 3 (by decide) w252 (fun _ h9 => h9) rfl dX10_text_69 ?_
    refine tz_get (ci := 6) (v := .int v3) (C := RX9) (F := TX9) (N := 5) hx hb hU iX9 hown hK hT 4 rfl rfl 3 (by decide) w126 (fun _ h9 => h9) rfl dX10_text_72 ?_
    refine lv_bipush (v := 9) hx hb dX10_text_75 (by decide) ?_
    refine lv_imul hx hb dX10_text_77 (lv_topi (fun v5 e_v5 => ?_))
    have e_v5 := ai_mul e_v5 rfl li_9 (by omega)
    refine tz_copyl hx hb (by rw [hml]; exact hl.1.symm) hown hU w410 w348 w347 w75 hK hT hS 6 3 rfl rfl (by have := li_0; omega) (fun _ _ _ _ => trivial) (Nat.le_of_ble_eq_true rfl) (Nat.le_of_ble_eq_true rfl) dX10_text_78 (fun H locs hT hS => ?_)
    refine lv_aload_n hx hb dX10_text_81 rfl (lv_at hl 1 rfl) ?_
    refine tcV (Tc := [(h0, ob 7 [.ref h1, .ref h2, .int h0f2, .ref h3, .ref h4, .ref h5, .int h0f6, .ref h6, .int h0f8, .null, .ref h7, .int h0f11, .ref h8, .ref h9, .ref h10, .ref h11, .ref h12]), (h7, aI (k 0) 8 (rgI 0 0))]) (Tr := [(h1, ob 4 [.int h1f0, .int v3, .int h1f2, .ref h13]), (h13, aJ (k 1) 36 anJ), (h3, ob 6 [.ref h15, .int 0, .int v2, .int v3, .ref h16]), (h15, aI (k 2) 120 anI), (h16, aJ (k 1) 36 anJ)]) (as := [h0, h7]) (zcV (q0 := 0) (ci := 7) (As := []) (rest := []) (Tc := [(h0, ob 7 [.ref h1, .ref h2, .int h0f2, .ref h3, .ref h4, .ref h5, .int h0f6, .ref h6, .int h0f8, .null, .ref h7, .int h0f11, .ref h8, .ref h9, .ref h10, .ref h11, .ref h12]), (h7, aI (k 0) 8 (rgI 0 0))]) hx hb hml hown hU hK hT rfl rfl [0, 2] rfl (by decide) (cX10_forgetWhatCame_68566 l D k _ h0 h7 h1 h2 h3 h4 h5 h6 h8 h9 h10 h11 h12 h0f2 h0f6 h0f8 h0f11 (by omega) (by omega) (by omega) (by omega)) w308 w305 w307 w0 w63 hdX10_forgetWhatCame ⟨rfl, rfl⟩ ⟨Nat.le_of_ble_eq_true rfl, Nat.le_of_ble_eq_true rfl⟩ rfl hl.1 (Nat.le_of_ble_eq_true rfl) dX10_text_82 ⟨Nat.le_of_ble_eq_true rfl, Nat.le_of_ble_eq_true rfl⟩) hT hS hA [0, 2] [1, 3, 4, 5, 6] rfl rfl rfl (by decide) (by decide) (fun H locs hB J hS => ?_)
    have hT1 := hB
    have hT := J _ hT1
    have hT : TP D A [(h1, ob 4 [.int h1f0, .int v3, .int h1f2, .ref h13]), (h13, aJ (k 1) 36 anJ), (h3, ob 6 [.ref h15, .int 0, .int v2, .int v3, .ref h16]), (h15, aI (k 2) 120 anI), (h16, aJ (k 1) 36 anJ), (h0, ob 7 [.ref h1, .ref h2, .int h0f2, .ref h3, .ref h4, .ref h5, .int 0, .ref h6, .int 0, .null, .ref h7, .int h0f11, .ref h8, .ref h9, .ref h10, .ref h11, .ref h12]), (h7, aI (k 0) 8 (rgI 0 0))] _ := hT
    refine lv_aload_n hx hb dX10_text_85 rfl (lv_at hl 1 rfl) ?_
    refine tz_get (ci := 7) (v := .ref h1) (C := RX10) (F := TX10) (N := 17) hx hb hU iX10 hown hK hT 5 rfl rfl 0 (by decide) w249 (fun _ h9 => h9) rfl dX10_text_86 ?_
    refine tz_get (ci := 4) (v := .int v3) (C := RX5) (F := TX5) (N := 4) hx hb hU iX5 hown hK hT 0 rfl rfl 1 (by decide) w97 (fun _ h9 => h9) rfl dX10_text_89 ?_
    exact tz_retI (B := B_cX10_text_c0fb2 D k h0 h1 h3 h7 h13 h15 h16 h2 h4 h5 h6 h8 h9 h10 h11 h12 h0f2 h0f6 h0f8 h0f11 h1f0 h1f1 h1f2 h3f1 h3f2 h3f3) (v := v3) hQ hx hb hr hlocks hS (Nat.le_of_ble_eq_true rfl) (Nat.le_of_ble_eq_true rfl) dX10_text_92 (⟨0, 0, v3, v2, v3, (by have := li_0; omega), (by have := li_0; omega), (by have := li_0; omega), (by have := li_0; omega), (by have := li_0; omega), (by have := li_0; omega), (hT.sub [5, 0, 2, 6, 1, 3, 4] (by decide) rfl)⟩)
  · skip
    have c_4 := ni_eq c_4 rfl li_0
    refine lv_bipush (v := (-100)) hx hb dX10_text_27 (by decide) ?_
    refine lv_aload_n hx hb dX10_text_29 rfl (lv_at hl 1 rfl) ?_
    refine tz_get (ci := 7) (v := .ref h3) (C := RX10) (F := TX10) (N := 17) hx hb hU iX10 hown hK hT 0 rfl rfl 3 (by decide) w252 (fun _ h9 => h9) rfl dX10_text_30 ?_
    refine tz_get (ci := 6) (v := .int v2) (C := RX9) (F := TX9) (N := 5) hx hb hU iX9 hown hK hT 4 rfl rfl 2 (by decide) w124 (fun _ h9 => h9) rfl dX10_text_33 ?_
    refine lv_isub hx hb dX10_text_36 (lv_topi (fun v7 e_v7 => ?_))
    have e_v7 := ai_sub e_v7 li_m100 rfl (by omega)
    exact tz_retI (B := B_cX10_text_c0fb2 D k h0 h1 h3 h7 h13 h15 h16 h2 h4 h5 h6 h8 h9 h10 h11 h12 h0f2 h0f6 h0f8 h0f11 h1f0 h1f1 h1f2 h3f1 h3f2 h3f3) (v := v7) hQ hx hb hr hlocks hS (Nat.le_of_ble_eq_true rfl) (Nat.le_of_ble_eq_true rfl) dX10_text_37 (⟨h0f6, h0f8, h1f1, v2, v3, (by omega), (by omega), (by omega), (by omega), (by omega), (by omega), (hT.sub [0, 1, 4, 2, 3, 5, 6] (by decide) rfl)⟩)
abbrev Rm_cX10_isPrimeTaken_a0e73 : Room := { frames := 0, cells := 0, slots := 0, locals := 0 }
abbrev B_cX10_isPrimeTaken_a0e73 (D : va_G) (k : Nat → ClassId) (x0 : Int32) (A : Nat → Prop) (r : Int32) (H : Heap) : Prop := (x0.toInt = 2 ∧ 1 = r ∧ TP D A [] H) ∨ (x0.toInt ≠ 2 ∧ x0.toInt = 3 ∧ 1 = r ∧ TP D A [] H) ∨ (x0.toInt ≠ 2 ∧ x0.toInt ≠ 3 ∧ x0.toInt = 5 ∧ 1 = r ∧ TP D A [] H) ∨ (x0.toInt ≠ 2 ∧ x0.toInt ≠ 3 ∧ x0.toInt ≠ 5 ∧ x0.toInt ≠ 7 ∧ 0 = r ∧ TP D A [] H) ∨ (x0.toInt ≠ 2 ∧ x0.toInt ≠ 3 ∧ x0.toInt ≠ 5 ∧ x0.toInt = 7 ∧ 1 = r ∧ TP D A [] H)
set_option maxHeartbeats 4000000 in
set_option maxRecDepth 100000 in
theorem cX10_isPrimeTaken_a0e73 (l : Launch) (D : va_G) (k : Nat → ClassId) (sz : Nat) (x0 : Int32) : Met l yX10_isPrimeTaken (Cond.code yX10_isPrimeTaken cX10_isPrimeTaken 1 (some .boolean) :: uw) Rm_cX10_isPrimeTaken_a0e73 (pT D k sz [.int x0] []) (qI (B_cX10_isPrimeTaken_a0e73 D k x0 (zA [] sz)) (zA [] sz)) 0 0 (zA [] sz) := by
  refine tz_begin (as := []) (Qc := fun A => qI (B_cX10_isPrimeTaken_a0e73 D k x0 A) A) (by decide +kernel) rfl (Nat.le_of_ble_eq_true rfl) ?_
  intro p e s m args below meth c ls A Q hx hb hr hml hown hlocks hin hU hK hT hS hA hl hQ
  have hl : lv_has ls 1 [(0, .int x0)] := hl
  have hT : TP D A [] s.heap := hT
  refine lv_iload_n hx hb dX10_isPrimeTaken_0 rfl (lv_at hl 0 rfl) ?_
  refine lv_iconst (v := 2) hx hb dX10_isPrimeTaken_1 (by decide) ?_
  refine lv_icmp_eq (tgt := 21) hx hb dX10_isPrimeTaken_2 (by decide) (fun c_1 => ?_) (fun c_1 => ?_)
  · skip
    have c_1 := ni_eq c_1 rfl li_2
    refine lv_iconst (v := 1) hx hb dX10_isPrimeTaken_21 (by decide) ?_
    refine lv_goto (tgt := 26) hx hb dX10_isPrimeTaken_22 (by decide) ?_
    exact tz_retZ (B := B_cX10_isPrimeTaken_a0e73 D k x0) (v := 1) hQ hx hb hr hlocks hS (Nat.le_of_ble_eq_true rfl) (Nat.le_of_ble_eq_true rfl) dX10_isPrimeTaken_26 (by have := li_1; omega) (Or.inl ⟨(by have := li_1; omega), rfl, hT⟩)
  · skip
    have c_1 := ni_ne c_1 rfl li_2
    refine lv_iload_n hx hb dX10_isPrimeTaken_5 rfl (lv_at hl 0 rfl) ?_
    refine lv_iconst (v := 3) hx hb dX10_isPrimeTaken_6 (by decide) ?_
    refine lv_icmp_eq (tgt := 21) hx hb dX10_isPrimeTaken_7 (by decide) (fun c_2 => ?_) (fun c_2 => ?_)
    · skip
      have c_2 := ni_eq c_2 rfl li_3
      refine lv_iconst (v := 1) hx hb dX10_isPrimeTaken_21 (by decide) ?_
      refine lv_goto (tgt := 26) hx hb dX10_isPrimeTaken_22 (by decide) ?_
      exact tz_retZ (B := B_cX10_isPrimeTaken_a0e73 D k x0) (v := 1) hQ hx hb hr hlocks hS (Nat.le_of_ble_eq_true rfl) (Nat.le_of_ble_eq_true rfl) dX10_isPrimeTaken_26 (by have := li_1; omega) (Or.inr (Or.inl ⟨(by have := li_1; omega), (by have := li_1; omega), rfl, hT⟩))
    · skip
      have c_2 := ni_ne c_2 rfl li_3
      refine lv_iload_n hx hb dX10_isPrimeTaken_10 rfl (lv_at hl 0 rfl) ?_
      refine lv_iconst (v := 5) hx hb dX10_isPrimeTaken_11 (by decide) ?_
      refine lv_icmp_eq (tgt := 21) hx hb dX10_isPrimeTaken_12 (by decide) (fun c_3 => ?_) (fun c_3 => ?_)
      · skip
        have c_3 := ni_eq c_3 rfl li_5
        refine lv_iconst (v := 1) hx hb dX10_isPrimeTaken_21 (by decide) ?_
        refine lv_goto (tgt := 26) hx hb dX10_isPrimeTaken_22 (by decide) ?_
        exact tz_retZ (B := B_cX10_isPrimeTaken_a0e73 D k x0) (v := 1) hQ hx hb hr hlocks hS (Nat.le_of_ble_eq_true rfl) (Nat.le_of_ble_eq_true rfl) dX10_isPrimeTaken_26 (by have := li_1; omega) (Or.inr (Or.inr (Or.inl ⟨(by have := li_1; omega), (by have := li_1; omega), (by have := li_1; omega), rfl, hT⟩)))
      · skip
        have c_3 := ni_ne c_3 rfl li_5
        refine lv_iload_n hx hb dX10_isPrimeTaken_15 rfl (lv_at hl 0 rfl) ?_
        refine lv_bipush (v := 7) hx hb dX10_isPrimeTaken_16 (by decide) ?_
        refine lv_icmp_ne (tgt := 25) hx hb dX10_isPrimeTaken_18 (by decide) (fun c_4 => ?_) (fun c_4 => ?_)
        · skip
          have c_4 := ni_ne c_4 rfl li_7
          refine lv_iconst (v := 0) hx hb dX10_isPrimeTaken_25 (by decide) ?_
          exact tz_retZ (B := B_cX10_isPrimeTaken_a0e73 D k x0) (v := 0) hQ hx hb hr hlocks hS (Nat.le_of_ble_eq_true rfl) (Nat.le_of_ble_eq_true rfl) dX10_isPrimeTaken_26 (by have := li_0; omega) (Or.inr (Or.inr (Or.inr (Or.inl ⟨(by have := li_0; omega), (by have := li_0; omega), (by have := li_0; omega), (by have := li_0; omega), rfl, hT⟩))))
        · skip
          have c_4 := ni_eq c_4 rfl li_7
          refine lv_iconst (v := 1) hx hb dX10_isPrimeTaken_21 (by decide) ?_
          refine lv_goto (tgt := 26) hx hb dX10_isPrimeTaken_22 (by decide) ?_
          exact tz_retZ (B := B_cX10_isPrimeTaken_a0e73 D k x0) (v := 1) hQ hx hb hr hlocks hS (Nat.le_of_ble_eq_true rfl) (Nat.le_of_ble_eq_true rfl) dX10_isPrimeTaken_26 (by have := li_1; omega) (Or.inr (Or.inr (Or.inr (Or.inr (⟨(by have := li_1; omega), (by have := li_1; omega), (by have := li_1; omega), (by have := li_1; omega), rfl, hT⟩)))))
abbrev Rm_cX10_imageL_0f6cf : Room := { frames := 1, cells := 0, slots := 0, locals := 20 }
abbrev B_cX10_imageL_0f6cf (D : va_G) (k : Nat → ClassId) (h0 h1 h2 h3 h4 h5 h6 h7 h8 h9 h10 h11 h12 : Nat) (x1 : Int32) (h0f2 : Int32) (h0f6 : Int32) (h0f8 : Int32) (h0f11 : Int32) (A : Nat → Prop) (r : Int32) (H : Heap) : Prop := (-1) = r ∧ TP D A [(h0, ob 7 [.ref h1, .ref h2, .int h0f2, .ref h3, .ref h4, .ref h5, .int h0f6, .ref h6, .int h0f8, .null, .ref h7, .int h0f11, .ref h8, .ref h9, .ref h10, .ref h11, .ref h12])] H
set_option maxHeartbeats 4000000 in
set_option maxRecDepth 100000 in
theorem cX10_imageL_0f6cf (l : Launch) (D : va_G) (k : Nat → ClassId) (sz : Nat) (h0 h1 h2 h3 h4 h5 h6 h7 h8 h9 h10 h11 h12 : Nat) (x1 : Int32) (h0f2 : Int32) (h0f6 : Int32) (h0f8 : Int32) (h0f11 : Int32) (b_x1 : x1.toInt ≤ 1) (b_h0f2 : 0 ≤ h0f2.toInt ∧ h0f2.toInt ≤ 1) (b_h0f6 : 0 ≤ h0f6.toInt ∧ h0f6.toInt ≤ 1) (b_h0f8 : 0 ≤ h0f8.toInt ∧ h0f8.toInt ≤ 1) (b_h0f11 : 0 ≤ h0f11.toInt ∧ h0f11.toInt ≤ 200) : Met l yX10_image (Cond.code yX10_image cX10_image 2 (some .int) :: uw) Rm_cX10_imageL_0f6cf (pT D k sz [.ref h0, .int x1] [(h0, ob 7 [.ref h1, .ref h2, .int h0f2, .ref h3, .ref h4, .ref h5, .int h0f6, .ref h6, .int h0f8, .null, .ref h7, .int h0f11, .ref h8, .ref h9, .ref h10, .ref h11, .ref h12])]) (qI (B_cX10_imageL_0f6cf D k h0 h1 h2 h3 h4 h5 h6 h7 h8 h9 h10 h11 h12 x1 h0f2 h0f6 h0f8 h0f11 (zA [h0] sz)) (zA [h0] sz)) 0 0 (zA [h0] sz) := by
  refine tz_begin (as := [h0]) (Qc := fun A => qI (B_cX10_imageL_0f6cf D k h0 h1 h2 h3 h4 h5 h6 h7 h8 h9 h10 h11 h12 x1 h0f2 h0f6 h0f8 h0f11 A) A) (by decide +kernel) rfl (Nat.le_of_ble_eq_true rfl) ?_
  intro p e s m args below meth c ls A Q hx hb hr hml hown hlocks hin hU hK hT hS hA hl hQ
  have hl : lv_has ls 2 [(0, .ref h0), (1, .int x1)] := hl
  have hT : TP D A [(h0, ob 7 [.ref h1, .ref h2, .int h0f2, .ref h3, .ref h4, .ref h5, .int h0f6, .ref h6, .int h0f8, .null, .ref h7, .int h0f11, .ref h8, .ref h9, .ref h10, .ref h11, .ref h12])] s.heap := hT
  refine lv_iload_n hx hb dX10_image_0 rfl (lv_at hl 1 rfl) ?_
  refine tcI (Tc := []) (Tr := [(h0, ob 7 [.ref h1, .ref h2, .int h0f2, .ref h3, .ref h4, .ref h5, .int h0f6, .ref h6, .int h0f8, .null, .ref h7, .int h0f11, .ref h8, .ref h9, .ref h10, .ref h11, .ref h12])]) (as := []) (zcS (As := [.int x1]) (rest := []) (Tc := []) hx hb hml hown hU hK hT [] rfl (by decide) (cX10_isPrimeTaken_a0e73 l D k _ x1) w664 w662 w663 w63 hdX10_isPrimeTaken ⟨rfl, rfl⟩ ⟨Nat.le_of_ble_eq_true rfl, Nat.le_of_ble_eq_true rfl⟩ rfl hl.1 (Nat.le_of_ble_eq_true rfl) dX10_image_1 ⟨Nat.le_of_ble_eq_true rfl, Nat.le_of_ble_eq_true rfl⟩) hT hS hA [] [0] rfl rfl rfl (by decide) (by decide) (fun r1 H locs hB J hS => ?_)
  rcases hB with ⟨c_2, rfl, hT1⟩ | ⟨c_3, c_4, rfl, hT1⟩ | ⟨c_5, c_6, c_7, rfl, hT1⟩ | ⟨c_8, c_9, c_10, c_11, rfl, hT1⟩ | ⟨c_12, c_13, c_14, c_15, rfl, hT1⟩
  · skip
    have hT := J _ hT1
    have hT : TP D A [(h0, ob 7 [.ref h1, .ref h2, .int h0f2, .ref h3, .ref h4, .ref h5, .int h0f6, .ref h6, .int h0f8, .null, .ref h7, .int h0f11, .ref h8, .ref h9, .ref h10, .ref h11, .ref h12])] _ := hT
    exfalso; omega
  · skip
    have hT := J _ hT1
    have hT : TP D A [(h0, ob 7 [.ref h1, .ref h2, .int h0f2, .ref h3, .ref h4, .ref h5, .int h0f6, .ref h6, .int h0f8, .null, .ref h7, .int h0f11, .ref h8, .ref h9, .ref h10, .ref h11, .ref h12])] _ := hT
    exfalso; omega
  · skip
    have hT := J _ hT1
    have hT : TP D A [(h0, ob 7 [.ref h1, .ref h2, .int h0f2, .ref h3, .ref h4, .ref h5, .int h0f6, .ref h6, .int h0f8, .null, .ref h7, .int h0f11, .ref h8, .ref h9, .ref h10, .ref h11, .ref h12])] _ := hT
    exfalso; omega
  · skip
    have hT := J _ hT1
    have hT : TP D A [(h0, ob 7 [.ref h1, .ref h2, .int h0f2, .ref h3, .ref h4, .ref h5, .int h0f6, .ref h6, .int h0f8, .null, .ref h7, .int h0f11, .ref h8, .ref h9, .ref h10, .ref h11, .ref h12])] _ := hT
    refine lv_if_ne (tgt := 9) hx hb dX10_image_4 (by decide) (fun cc => absurd (by decide +kernel) cc) (fun _ => ?_)
    refine lv_iconst (v := (-1)) hx hb dX10_image_7 (by decide) ?_
    exact tz_retI (B := B_cX10_imageL_0f6cf D k h0 h1 h2 h3 h4 h5 h6 h7 h8 h9 h10 h11 h12 x1 h0f2 h0f6 h0f8 h0f11) (v := (-1)) hQ hx hb hr hlocks hS (Nat.le_of_ble_eq_true rfl) (Nat.le_of_ble_eq_true rfl) dX10_image_8 (⟨rfl, hT⟩)
  · skip
    have hT := J _ hT1
    have hT : TP D A [(h0, ob 7 [.ref h1, .ref h2, .int h0f2, .ref h3, .ref h4, .ref h5, .int h0f6, .ref h6, .int h0f8, .null, .ref h7, .int h0f11, .ref h8, .ref h9, .ref h10, .ref h11, .ref h12])] _ := hT
    exfalso; omega
abbrev Rm_cX10_imageL_8dc01 : Room := { frames := 6, cells := 9, slots := 16296, locals := 151 }
abbrev B_cX10_imageL_8dc01 (D : va_G) (k : Nat → ClassId) (h0 h1 h7 h8 h11 h13 h2 h3 h4 h5 h6 h9 h10 h12 : Nat) (x1 : Int32) (h0f2 : Int32) (h0f6 : Int32) (h0f8 : Int32) (h0f11 : Int32) (h1f0 : Int32) (h1f1 : Int32) (h1f2 : Int32) (h8f1 : Int32) (A : Nat → Prop) (r : Int32) (H : Heap) : Prop := ∃ n0 : Nat, ∃ n1 : Nat, ∃ n2 : Nat, ∃ n3 : Nat, ∃ n4 : Nat, ∃ n5 : Nat, ∃ n6 : Nat, ∃ n7 : Nat, ∃ n8 : Nat, ∃ o0 : Int32, ∃ o1 : Int32, ∃ o2 : Int32, (1 ≤ o0.toInt ∧ o0.toInt ≤ 9) ∧ (1 ≤ o1.toInt ∧ o1.toInt ≤ 400) ∧ (0 ≤ o2.toInt ∧ o2.toInt ≤ 1) ∧ (0 ≤ x1.toInt ∧ x1.toInt ≤ 7) ∧ TP D A [(h0, ob 7 [.ref h1, .ref h2, .int h0f2, .ref h3, .ref h4, .ref h5, .int h0f6, .ref h6, .int h0f8, .ref n0, .ref h7, .int h0f11, .ref h8, .ref h9, .ref h10, .ref h11, .ref h12]), (h1, ob 4 [.int h1f0, .int h1f1, .int h1f2, .ref h13]), (h7, aI (k 0) 8 anI), (h8, ob 2 [.ref h1, .int x1]), (h11, aJ (k 1) 9 anJ), (h13, aJ (k 1) 36 anJ), (n0, ob 3 [.ref n1, .ref n2, .ref n3, .ref n4, .ref n5, .ref n6, .ref n7, .ref n8, .int o0, .int 400, .int o1, .int o2]), (n1, aJ (k 1) 12000 anJ), (n2, aI (k 0) 400 anI), (n3, aI (k 0) 400 anI), (n4, aI (k 0) 400 anI), (n5, aI (k 0) 1600 anI), (n6, aI (k 0) 1024 anI), (n7, aI (k 0) 400 anI), (n8, aJ (k 1) 60 anJ)] H
set_option maxHeartbeats 4000000 in
set_option maxRecDepth 100000 in
theorem cX10_imageL_8dc01 (l : Launch) (D : va_G) (k : Nat → ClassId) (sz : Nat) (h0 h1 h7 h8 h11 h13 h2 h3 h4 h5 h6 h9 h10 h12 : Nat) (x1 : Int32) (h0f2 : Int32) (h0f6 : Int32) (h0f8 : Int32) (h0f11 : Int32) (h1f0 : Int32) (h1f1 : Int32) (h1f2 : Int32) (h8f1 : Int32) (b_x1 : 2 ≤ x1.toInt ∧ x1.toInt ≤ 2) (b_h0f2 : 0 ≤ h0f2.toInt ∧ h0f2.toInt ≤ 1) (b_h0f6 : 0 ≤ h0f6.toInt ∧ h0f6.toInt ≤ 1) (b_h0f8 : 0 ≤ h0f8.toInt ∧ h0f8.toInt ≤ 1) (b_h0f11 : 0 ≤ h0f11.toInt ∧ h0f11.toInt ≤ 200) (b_h1f0 : 1 ≤ h1f0.toInt ∧ h1f0.toInt ≤ 3) (b_h1f1 : 0 ≤ h1f1.toInt ∧ h1f1.toInt ≤ 4) (b_h8f1 : 0 ≤ h8f1.toInt ∧ h8f1.toInt ≤ 7) : Met l yX10_image (Cond.code yX10_image cX10_image 2 (some .int) :: uw) Rm_cX10_imageL_8dc01 (pT D k sz [.ref h0, .int x1] [(h0, ob 7 [.ref h1, .ref h2, .int h0f2, .ref h3, .ref h4, .ref h5, .int h0f6, .ref h6, .int h0f8, .null, .ref h7, .int h0f11, .ref h8, .ref h9, .ref h10, .ref h11, .ref h12]), (h1, ob 4 [.int h1f0, .int h1f1, .int h1f2, .ref h13]), (h7, aI (k 0) 8 (rgI 0 0)), (h8, ob 2 [.ref h1, .int h8f1]), (h11, aJ (k 1) 9 anJ), (h13, aJ (k 1) 36 anJ)]) (qI (B_cX10_imageL_8dc01 D k h0 h1 h7 h8 h11 h13 h2 h3 h4 h5 h6 h9 h10 h12 x1 h0f2 h0f6 h0f8 h0f11 h1f0 h1f1 h1f2 h8f1 (zA [h0, h1, h7, h8, h11, h13] sz)) (zA [h0, h1, h7, h8, h11, h13] sz)) 9 16296 (zA [h0, h1, h7, h8, h11, h13] sz) := by
  refine tz_begin (as := [h0, h1, h7, h8, h11, h13]) (Qc := fun A => qI (B_cX10_imageL_8dc01 D k h0 h1 h7 h8 h11 h13 h2 h3 h4 h5 h6 h9 h10 h12 x1 h0f2 h0f6 h0f8 h0f11 h1f0 h1f1 h1f2 h8f1 A) A) (by decide +kernel) rfl (Nat.le_of_ble_eq_true rfl) ?_
  intro p e s m args below meth c ls A Q hx hb hr hml hown hlocks hin hU hK hT hS hA hl hQ
  have hl : lv_has ls 2 [(0, .ref h0), (1, .int x1)] := hl
  have hT : TP D A [(h0, ob 7 [.ref h1, .ref h2, .int h0f2, .ref h3, .ref h4, .ref h5, .int h0f6, .ref h6, .int h0f8, .null, .ref h7, .int h0f11, .ref h8, .ref h9, .ref h10, .ref h11, .ref h12]), (h1, ob 4 [.int h1f0, .int h1f1, .int h1f2, .ref h13]), (h7, aI (k 0) 8 (rgI 0 0)), (h8, ob 2 [.ref h1, .int h8f1]), (h11, aJ (k 1) 9 anJ), (h13, aJ (k 1) 36 anJ)] s.heap := hT
  refine lv_iload_n hx hb dX10_image_0 rfl (lv_at hl 1 rfl) ?_
  refine tcI (Tc := []) (Tr := [(h0, ob 7 [.ref h1, .ref h2, .int h0f2, .ref h3, .ref h4, .ref h5, .int h0f6, .ref h6, .int h0f8, .null, .ref h7, .int h0f11, .ref h8, .ref h9, .ref h10, .ref h11, .ref h12]), (h1, ob 4 [.int h1f0, .int h1f1, .int h1f2, .ref h13]), (h7, aI (k 0) 8 (rgI 0 0)), (h8, ob 2 [.ref h1, .int h8f1]), (h11, aJ (k 1) 9 anJ), (h13, aJ (k 1) 36 anJ)]) (as := []) (zcS (As := [.int x1]) (rest := []) (Tc := []) hx hb hml hown hU hK hT [] rfl (by decide) (cX10_isPrimeTaken_a0e73 l D k _ x1) w664 w662 w663 w63 hdX10_isPrimeTaken ⟨rfl, rfl⟩ ⟨Nat.le_of_ble_eq_true rfl, Nat.le_of_ble_eq_true rfl⟩ rfl hl.1 (Nat.le_of_ble_eq_true rfl) dX10_image_1 ⟨Nat.le_of_ble_eq_true rfl, Nat.le_of_ble_eq_true rfl⟩) hT hS hA [] [0, 1, 2, 3, 4, 5] rfl rfl rfl (by decide) (by decide) (fun r1 H locs hB J hS => ?_)
  rcases hB with ⟨c_2, rfl, hT1⟩ | ⟨c_3, c_4, rfl, hT1⟩ | ⟨c_5, c_6, c_7, rfl, hT1⟩ | ⟨c_8, c_9, c_10, c_11, rfl, hT1⟩ | ⟨c_12, c_13, c_14, c_15, rfl, hT1⟩
  · skip
    have hT := J _ hT1
    have hT : TP D A [(h0, ob 7 [.ref h1, .ref h2, .int h0f2, .ref h3, .ref h4, .ref h5, .int h0f6, .ref h6, .int h0f8, .null, .ref h7, .int h0f11, .ref h8, .ref h9, .ref h10, .ref h11, .ref h12]), (h1, ob 4 [.int h1f0, .int h1f1, .int h1f2, .ref h13]), (h7, aI (k 0) 8 (rgI 0 0)), (h8, ob 2 [.ref h1, .int h8f1]), (h11, aJ (k 1) 9 anJ), (h13, aJ (k 1) 36 anJ)] _ := hT
    refine lv_if_ne (tgt := 9) hx hb dX10_image_4 (by decide) (fun _ => ?_) (fun cc => absurd cc (by decide +kernel))
    refine lv_aload_n hx hb dX10_image_9 rfl (lv_at hl 0 rfl) ?_
    refine tz_get (ci := 7) (v := .ref h7) (C := RX10) (F := TX10) (N := 17) hx hb hU iX10 hown hK hT 0 rfl rfl 10 (by decide) w259 (fun _ h9 => h9) rfl dX10_image_10 ?_
    refine lv_iload_n hx hb dX10_image_13 rfl (lv_at hl 1 rfl) ?_
    refine tz_iald hx hb hK hT 2 rfl (by omega) dX10_image_14 (fun v16 e_v16 => ?_)
    have e_v16 := rg_get e_v16
    refine lv_if_ne (tgt := 29) hx hb dX10_image_15 (by decide) (fun c_17 => ?_) (fun c_17 => ?_)
    · skip
      have c_17 := ni_ne c_17 rfl li_0
      exfalso; omega
    · skip
      have c_17 := ni_eq c_17 rfl li_0
      refine lv_aload_n hx hb dX10_image_18 rfl (lv_at hl 0 rfl) ?_
      refine tz_get (ci := 7) (v := .ref h7) (C := RX10) (F := TX10) (N := 17) hx hb hU iX10 hown hK hT 0 rfl rfl 10 (by decide) w259 (fun _ h9 => h9) rfl dX10_image_19 ?_
      refine lv_iload_n hx hb dX10_image_22 rfl (lv_at hl 1 rfl) ?_
      refine lv_aload_n hx hb dX10_image_23 rfl (lv_at hl 0 rfl) ?_
      refine lv_iload_n hx hb dX10_image_24 rfl (lv_at hl 1 rfl) ?_
      refine tcI (Tc := [(h0, ob 7 [.ref h1, .ref h2, .int h0f2, .ref h3, .ref h4, .ref h5, .int h0f6, .ref h6, .int h0f8, .null, .ref h7, .int h0f11, .ref h8, .ref h9, .ref h10, .ref h11, .ref h12]), (h1, ob 4 [.int h1f0, .int h1f1, .int h1f2, .ref h13]), (h8, ob 2 [.ref h1, .int h8f1]), (h11, aJ (k 1) 9 anJ), (h13, aJ (k 1) 36 anJ)]) (Tr := [(h7, aI (k 0) 8 (rgI 0 0))]) (as := [h0, h1, h8, h11, h13]) (zcV (q0 := 0) (ci := 7) (As := [.int x1]) (rest := [.int x1, .ref h7]) (Tc := [(h0, ob 7 [.ref h1, .ref h2, .int h0f2, .ref h3, .ref h4, .ref h5, .int h0f6, .ref h6, .int h0f8, .null, .ref h7, .int h0f11, .ref h8, .ref h9, .ref h10, .ref h11, .ref h12]), (h1, ob 4 [.int h1f0, .int h1f1, .int h1f2, .ref h13]), (h8, ob 2 [.ref h1, .int h8f1]), (h11, aJ (k 1) 9 anJ), (h13, aJ (k 1) 36 anJ)]) hx hb hml hown hU hK hT rfl rfl [0, 1, 3, 4, 5] rfl (by decide) (cX10_countImage_a81f2 l D k _ h0 h1 h8 h11 h13 h2 h3 h4 h5 h6 h7 h9 h10 h12 x1 h0f2 h0f6 h0f8 h0f11 h1f0 h1f1 h1f2 h8f1 (by omega) (by omega) (by omega) (by omega) (by omega) (by omega) (by omega) (by omega)) w668 w665 w667 w21 w63 hdX10_countImage ⟨rfl, rfl⟩ ⟨Nat.le_of_ble_eq_true rfl, Nat.le_of_ble_eq_true rfl⟩ rfl hl.1 (Nat.le_of_ble_eq_true rfl) dX10_image_25 ⟨Nat.le_of_ble_eq_true rfl, Nat.le_of_ble_eq_true rfl⟩) hT hS hA [0, 1, 3, 4, 5] [2] rfl rfl rfl (by decide) (by decide) (fun r18 H locs hB J hS => ?_)
      obtain ⟨q19, q20, q21, q22, q23, q24, q25, q26, q27, v28, v29, v30, b_v28, b_v29, b_v30, b_r18, hT1⟩ := hB
      have hT := J _ hT1
      have hT : TP D A [(h7, aI (k 0) 8 (rgI 0 0)), (h0, ob 7 [.ref h1, .ref h2, .int h0f2, .ref h3, .ref h4, .ref h5, .int h0f6, .ref h6, .int h0f8, .ref q19, .ref h7, .int h0f11, .ref h8, .ref h9, .ref h10, .ref h11, .ref h12]), (h1, ob 4 [.int h1f0, .int h1f1, .int h1f2, .ref h13]), (h8, ob 2 [.ref h1, .int x1]), (h11, aJ (k 1) 9 anJ), (h13, aJ (k 1) 36 anJ), (q19, ob 3 [.ref q20, .ref q21, .ref q22, .ref q23, .ref q24, .ref q25, .ref q26, .ref q27, .int v28, .int 400, .int v29, .int v30]), (q20, aJ (k 1) 12000 anJ), (q21, aI (k 0) 400 anI), (q22, aI (k 0) 400 anI), (q23, aI (k 0) 400 anI), (q24, aI (k 0) 1600 anI), (q25, aI (k 0) 1024 anI), (q26, aI (k 0) 400 anI), (q27, aJ (k 1) 60 anJ)] _ := hT
      have hT := hT.wk (q := 0) (P' := aI (k 0) 8 anI) rfl (an_I)
      have hT : TP D A [(h7, aI (k 0) 8 anI), (h0, ob 7 [.ref h1, .ref h2, .int h0f2, .ref h3, .ref h4, .ref h5, .int h0f6, .ref h6, .int h0f8, .ref q19, .ref h7, .int h0f11, .ref h8, .ref h9, .ref h10, .ref h11, .ref h12]), (h1, ob 4 [.int h1f0, .int h1f1, .int h1f2, .ref h13]), (h8, ob 2 [.ref h1, .int x1]), (h11, aJ (k 1) 9 anJ), (h13, aJ (k 1) 36 anJ), (q19, ob 3 [.ref q20, .ref q21, .ref q22, .ref q23, .ref q24, .ref q25, .ref q26, .ref q27, .int v28, .int 400, .int v29, .int v30]), (q20, aJ (k 1) 12000 anJ), (q21, aI (k 0) 400 anI), (q22, aI (k 0) 400 anI), (q23, aI (k 0) 400 anI), (q24, aI (k 0) 1600 anI), (q25, aI (k 0) 1024 anI), (q26, aI (k 0) 400 anI), (q27, aJ (k 1) 60 anJ)] _ := hT
      refine tz_iast hx hb hK hT hS 0 rfl (by omega) (fun _ _ => trivial) dX10_image_28 (fun H locs hT hS => ?_)
      refine lv_aload_n hx hb dX10_image_29 rfl (lv_at hl 0 rfl) ?_
      refine tz_get (ci := 7) (v := .ref h7) (C := RX10) (F := TX10) (N := 17) hx hb hU iX10 hown hK hT 1 rfl rfl 10 (by decide) w259 (fun _ h9 => h9) rfl dX10_image_30 ?_
      refine lv_iload_n hx hb dX10_image_33 rfl (lv_at hl 1 rfl) ?_
      refine tz_iald hx hb hK hT 0 rfl (by omega) dX10_image_34 (fun v31 e_v31 => ?_)
      clear e_v31
      exact tz_retI (B := B_cX10_imageL_8dc01 D k h0 h1 h7 h8 h11 h13 h2 h3 h4 h5 h6 h9 h10 h12 x1 h0f2 h0f6 h0f8 h0f11 h1f0 h1f1 h1f2 h8f1) (v := v31) hQ hx hb hr hlocks hS (Nat.le_of_ble_eq_true rfl) (Nat.le_of_ble_eq_true rfl) dX10_image_35 (⟨q19, q20, q21, q22, q23, q24, q25, q26, q27, v28, v29, v30, (by omega), (by omega), (by omega), (by omega), (hT.sub [1, 2, 0, 3, 4, 5, 6, 7, 8, 9, 10, 11, 12, 13, 14] (by decide) rfl)⟩)
  · skip
    have hT := J _ hT1
    have hT : TP D A [(h0, ob 7 [.ref h1, .ref h2, .int h0f2, .ref h3, .ref h4, .ref h5, .int h0f6, .ref h6, .int h0f8, .null, .ref h7, .int h0f11, .ref h8, .ref h9, .ref h10, .ref h11, .ref h12]), (h1, ob 4 [.int h1f0, .int h1f1, .int h1f2, .ref h13]), (h7, aI (k 0) 8 (rgI 0 0)), (h8, ob 2 [.ref h1, .int h8f1]), (h11, aJ (k 1) 9 anJ), (h13, aJ (k 1) 36 anJ)] _ := hT
    exfalso; omega
  · skip
    have hT := J _ hT1
    have hT : TP D A [(h0, ob 7 [.ref h1, .ref h2, .int h0f2, .ref h3, .ref h4, .ref h5, .int h0f6, .ref h6, .int h0f8, .null, .ref h7, .int h0f11, .ref h8, .ref h9, .ref h10, .ref h11, .ref h12]), (h1, ob 4 [.int h1f0, .int h1f1, .int h1f2, .ref h13]), (h7, aI (k 0) 8 (rgI 0 0)), (h8, ob 2 [.ref h1, .int h8f1]), (h11, aJ (k 1) 9 anJ), (h13, aJ (k 1) 36 anJ)] _ := hT
    exfalso; omega
  · skip
    have hT := J _ hT1
    have hT : TP D A [(h0, ob 7 [.ref h1, .ref h2, .int h0f2, .ref h3, .ref h4, .ref h5, .int h0f6, .ref h6, .int h0f8, .null, .ref h7, .int h0f11, .ref h8, .ref h9, .ref h10, .ref h11, .ref h12]), (h1, ob 4 [.int h1f0, .int h1f1, .int h1f2, .ref h13]), (h7, aI (k 0) 8 (rgI 0 0)), (h8, ob 2 [.ref h1, .int h8f1]), (h11, aJ (k 1) 9 anJ), (h13, aJ (k 1) 36 anJ)] _ := hT
    exfalso; omega
  · skip
    have hT := J _ hT1
    have hT : TP D A [(h0, ob 7 [.ref h1, .ref h2, .int h0f2, .ref h3, .ref h4, .ref h5, .int h0f6, .ref h6, .int h0f8, .null, .ref h7, .int h0f11, .ref h8, .ref h9, .ref h10, .ref h11, .ref h12]), (h1, ob 4 [.int h1f0, .int h1f1, .int h1f2, .ref h13]), (h7, aI (k 0) 8 (rgI 0 0)), (h8, ob 2 [.ref h1, .int h8f1]), (h11, aJ (k 1) 9 anJ), (h13, aJ (k 1) 36 anJ)] _ := hT
    exfalso; omega
abbrev Rm_cX10_imageL_dadb4 : Room := { frames := 6, cells := 9, slots := 16296, locals := 151 }
abbrev B_cX10_imageL_dadb4 (D : va_G) (k : Nat → ClassId) (h0 h1 h7 h8 h11 h13 h2 h3 h4 h5 h6 h9 h10 h12 : Nat) (x1 : Int32) (h0f2 : Int32) (h0f6 : Int32) (h0f8 : Int32) (h0f11 : Int32) (h1f0 : Int32) (h1f1 : Int32) (h1f2 : Int32) (h8f1 : Int32) (A : Nat → Prop) (r : Int32) (H : Heap) : Prop := ∃ n0 : Nat, ∃ n1 : Nat, ∃ n2 : Nat, ∃ n3 : Nat, ∃ n4 : Nat, ∃ n5 : Nat, ∃ n6 : Nat, ∃ n7 : Nat, ∃ n8 : Nat, ∃ o0 : Int32, ∃ o1 : Int32, ∃ o2 : Int32, (1 ≤ o0.toInt ∧ o0.toInt ≤ 9) ∧ (1 ≤ o1.toInt ∧ o1.toInt ≤ 400) ∧ (0 ≤ o2.toInt ∧ o2.toInt ≤ 1) ∧ (0 ≤ x1.toInt ∧ x1.toInt ≤ 7) ∧ TP D A [(h0, ob 7 [.ref h1, .ref h2, .int h0f2, .ref h3, .ref h4, .ref h5, .int h0f6, .ref h6, .int h0f8, .ref n0, .ref h7, .int h0f11, .ref h8, .ref h9, .ref h10, .ref h11, .ref h12]), (h1, ob 4 [.int h1f0, .int h1f1, .int h1f2, .ref h13]), (h7, aI (k 0) 8 anI), (h8, ob 2 [.ref h1, .int x1]), (h11, aJ (k 1) 9 anJ), (h13, aJ (k 1) 36 anJ), (n0, ob 3 [.ref n1, .ref n2, .ref n3, .ref n4, .ref n5, .ref n6, .ref n7, .ref n8, .int o0, .int 400, .int o1, .int o2]), (n1, aJ (k 1) 12000 anJ), (n2, aI (k 0) 400 anI), (n3, aI (k 0) 400 anI), (n4, aI (k 0) 400 anI), (n5, aI (k 0) 1600 anI), (n6, aI (k 0) 1024 anI), (n7, aI (k 0) 400 anI), (n8, aJ (k 1) 60 anJ)] H
set_option maxHeartbeats 4000000 in
set_option maxRecDepth 100000 in
theorem cX10_imageL_dadb4 (l : Launch) (D : va_G) (k : Nat → ClassId) (sz : Nat) (h0 h1 h7 h8 h11 h13 h2 h3 h4 h5 h6 h9 h10 h12 : Nat) (x1 : Int32) (h0f2 : Int32) (h0f6 : Int32) (h0f8 : Int32) (h0f11 : Int32) (h1f0 : Int32) (h1f1 : Int32) (h1f2 : Int32) (h8f1 : Int32) (b_x1 : 3 ≤ x1.toInt ∧ x1.toInt ≤ 3) (b_h0f2 : 0 ≤ h0f2.toInt ∧ h0f2.toInt ≤ 1) (b_h0f6 : 0 ≤ h0f6.toInt ∧ h0f6.toInt ≤ 1) (b_h0f8 : 0 ≤ h0f8.toInt ∧ h0f8.toInt ≤ 1) (b_h0f11 : 0 ≤ h0f11.toInt ∧ h0f11.toInt ≤ 200) (b_h1f0 : 1 ≤ h1f0.toInt ∧ h1f0.toInt ≤ 3) (b_h1f1 : 0 ≤ h1f1.toInt ∧ h1f1.toInt ≤ 4) (b_h8f1 : 0 ≤ h8f1.toInt ∧ h8f1.toInt ≤ 7) : Met l yX10_image (Cond.code yX10_image cX10_image 2 (some .int) :: uw) Rm_cX10_imageL_dadb4 (pT D k sz [.ref h0, .int x1] [(h0, ob 7 [.ref h1, .ref h2, .int h0f2, .ref h3, .ref h4, .ref h5, .int h0f6, .ref h6, .int h0f8, .null, .ref h7, .int h0f11, .ref h8, .ref h9, .ref h10, .ref h11, .ref h12]), (h1, ob 4 [.int h1f0, .int h1f1, .int h1f2, .ref h13]), (h7, aI (k 0) 8 (rgI 0 0)), (h8, ob 2 [.ref h1, .int h8f1]), (h11, aJ (k 1) 9 anJ), (h13, aJ (k 1) 36 anJ)]) (qI (B_cX10_imageL_dadb4 D k h0 h1 h7 h8 h11 h13 h2 h3 h4 h5 h6 h9 h10 h12 x1 h0f2 h0f6 h0f8 h0f11 h1f0 h1f1 h1f2 h8f1 (zA [h0, h1, h7, h8, h11, h13] sz)) (zA [h0, h1, h7, h8, h11, h13] sz)) 9 16296 (zA [h0, h1, h7, h8, h11, h13] sz) := by
  refine tz_begin (as := [h0, h1, h7, h8, h11, h13]) (Qc := fun A => qI (B_cX10_imageL_dadb4 D k h0 h1 h7 h8 h11 h13 h2 h3 h4 h5 h6 h9 h10 h12 x1 h0f2 h0f6 h0f8 h0f11 h1f0 h1f1 h1f2 h8f1 A) A) (by decide +kernel) rfl (Nat.le_of_ble_eq_true rfl) ?_
  intro p e s m args below meth c ls A Q hx hb hr hml hown hlocks hin hU hK hT hS hA hl hQ
  have hl : lv_has ls 2 [(0, .ref h0), (1, .int x1)] := hl
  have hT : TP D A [(h0, ob 7 [.ref h1, .ref h2, .int h0f2, .ref h3, .ref h4, .ref h5, .int h0f6, .ref h6, .int h0f8, .null, .ref h7, .int h0f11, .ref h8, .ref h9, .ref h10, .ref h11, .ref h12]), (h1, ob 4 [.int h1f0, .int h1f1, .int h1f2, .ref h13]), (h7, aI (k 0) 8 (rgI 0 0)), (h8, ob 2 [.ref h1, .int h8f1]), (h11, aJ (k 1) 9 anJ), (h13, aJ (k 1) 36 anJ)] s.heap := hT
  refine lv_iload_n hx hb dX10_image_0 rfl (lv_at hl 1 rfl) ?_
  refine tcI (Tc := []) (Tr := [(h0, ob 7 [.ref h1, .ref h2, .int h0f2, .ref h3, .ref h4, .ref h5, .int h0f6, .ref h6, .int h0f8, .null, .ref h7, .int h0f11, .ref h8, .ref h9, .ref h10, .ref h11, .ref h12]), (h1, ob 4 [.int h1f0, .int h1f1, .int h1f2, .ref h13]), (h7, aI (k 0) 8 (rgI 0 0)), (h8, ob 2 [.ref h1, .int h8f1]), (h11, aJ (k 1) 9 anJ), (h13, aJ (k 1) 36 anJ)]) (as := []) (zcS (As := [.int x1]) (rest := []) (Tc := []) hx hb hml hown hU hK hT [] rfl (by decide) (cX10_isPrimeTaken_a0e73 l D k _ x1) w664 w662 w663 w63 hdX10_isPrimeTaken ⟨rfl, rfl⟩ ⟨Nat.le_of_ble_eq_true rfl, Nat.le_of_ble_eq_true rfl⟩ rfl hl.1 (Nat.le_of_ble_eq_true rfl) dX10_image_1 ⟨Nat.le_of_ble_eq_true rfl, Nat.le_of_ble_eq_true rfl⟩) hT hS hA [] [0, 1, 2, 3, 4, 5] rfl rfl rfl (by decide) (by decide) (fun r1 H locs hB J hS => ?_)
  rcases hB with ⟨c_2, rfl, hT1⟩ | ⟨c_3, c_4, rfl, hT1⟩ | ⟨c_5, c_6, c_7, rfl, hT1⟩ | ⟨c_8, c_9, c_10, c_11, rfl, hT1⟩ | ⟨c_12, c_13, c_14, c_15, rfl, hT1⟩
  · skip
    have hT := J _ hT1
    have hT : TP D A [(h0, ob 7 [.ref h1, .ref h2, .int h0f2, .ref h3, .ref h4, .ref h5, .int h0f6, .ref h6, .int h0f8, .null, .ref h7, .int h0f11, .ref h8, .ref h9, .ref h10, .ref h11, .ref h12]), (h1, ob 4 [.int h1f0, .int h1f1, .int h1f2, .ref h13]), (h7, aI (k 0) 8 (rgI 0 0)), (h8, ob 2 [.ref h1, .int h8f1]), (h11, aJ (k 1) 9 anJ), (h13, aJ (k 1) 36 anJ)] _ := hT
    exfalso; omega
  · skip
    have hT := J _ hT1
    have hT : TP D A [(h0, ob 7 [.ref h1, .ref h2, .int h0f2, .ref h3, .ref h4, .ref h5, .int h0f6, .ref h6, .int h0f8, .null, .ref h7, .int h0f11, .ref h8, .ref h9, .ref h10, .ref h11, .ref h12]), (h1, ob 4 [.int h1f0, .int h1f1, .int h1f2, .ref h13]), (h7, aI (k 0) 8 (rgI 0 0)), (h8, ob 2 [.ref h1, .int h8f1]), (h11, aJ (k 1) 9 anJ), (h13, aJ (k 1) 36 anJ)] _ := hT
    refine lv_if_ne (tgt := 9) hx hb dX10_image_4 (by decide) (fun _ => ?_) (fun cc => absurd cc (by decide +kernel))
    refine lv_aload_n hx hb dX10_image_9 rfl (lv_at hl 0 rfl) ?_
    refine tz_get (ci := 7) (v := .ref h7) (C := RX10) (F := TX10) (N := 17) hx hb hU iX10 hown hK hT 0 rfl rfl 10 (by decide) w259 (fun _ h9 => h9) rfl dX10_image_10 ?_
    refine lv_iload_n hx hb dX10_image_13 rfl (lv_at hl 1 rfl) ?_
    refine tz_iald hx hb hK hT 2 rfl (by omega) dX10_image_14 (fun v16 e_v16 => ?_)
    have e_v16 := rg_get e_v16
    refine lv_if_ne (tgt := 29) hx hb dX10_image_15 (by decide) (fun c_17 => ?_) (fun c_17 => ?_)
    · skip
      have c_17 := ni_ne c_17 rfl li_0
      exfalso; omega
    · skip
      have c_17 := ni_eq c_17 rfl li_0
      refine lv_aload_n hx hb dX10_image_18 rfl (lv_at hl 0 rfl) ?_
      refine tz_get (ci := 7) (v := .ref h7) (C := RX10) (F := TX10) (N := 17) hx hb hU iX10 hown hK hT 0 rfl rfl 10 (by decide) w259 (fun _ h9 => h9) rfl dX10_image_19 ?_
      refine lv_iload_n hx hb dX10_image_22 rfl (lv_at hl 1 rfl) ?_
      refine lv_aload_n hx hb dX10_image_23 rfl (lv_at hl 0 rfl) ?_
      refine lv_iload_n hx hb dX10_image_24 rfl (lv_at hl 1 rfl) ?_
      refine tcI (Tc := [(h0, ob 7 [.ref h1, .ref h2, .int h0f2, .ref h3, .ref h4, .ref h5, .int h0f6, .ref h6, .int h0f8, .null, .ref h7, .int h0f11, .ref h8, .ref h9, .ref h10, .ref h11, .ref h12]), (h1, ob 4 [.int h1f0, .int h1f1, .int h1f2, .ref h13]), (h8, ob 2 [.ref h1, .int h8f1]), (h11, aJ (k 1) 9 anJ), (h13, aJ (k 1) 36 anJ)]) (Tr := [(h7, aI (k 0) 8 (rgI 0 0))]) (as := [h0, h1, h8, h11, h13]) (zcV (q0 := 0) (ci := 7) (As := [.int x1]) (rest := [.int x1, .ref h7]) (Tc := [(h0, ob 7 [.ref h1, .ref h2, .int h0f2, .ref h3, .ref h4, .ref h5, .int h0f6, .ref h6, .int h0f8, .null, .ref h7, .int h0f11, .ref h8, .ref h9, .ref h10, .ref h11, .ref h12]), (h1, ob 4 [.int h1f0, .int h1f1, .int h1f2, .ref h13]), (h8, ob 2 [.ref h1, .int h8f1]), (h11, aJ (k 1) 9 anJ), (h13, aJ (k 1) 36 anJ)]) hx hb hml hown hU hK hT rfl rfl [0, 1, 3, 4, 5] rfl (by decide) (cX10_countImage_a81f2 l D k _ h0 h1 h8 h11 h13 h2 h3 h4 h5 h6 h7 h9 h10 h12 x1 h0f2 h0f6 h0f8 h0f11 h1f0 h1f1 h1f2 h8f1 (by omega) (by omega) (by omega) (by omega) (by omega) (by omega) (by omega) (by omega)) w668 w665 w667 w21 w63 hdX10_countImage ⟨rfl, rfl⟩ ⟨Nat.le_of_ble_eq_true rfl, Nat.le_of_ble_eq_true rfl⟩ rfl hl.1 (Nat.le_of_ble_eq_true rfl) dX10_image_25 ⟨Nat.le_of_ble_eq_true rfl, Nat.le_of_ble_eq_true rfl⟩) hT hS hA [0, 1, 3, 4, 5] [2] rfl rfl rfl (by decide) (by decide) (fun r18 H locs hB J hS => ?_)
      obtain ⟨q19, q20, q21, q22, q23, q24, q25, q26, q27, v28, v29, v30, b_v28, b_v29, b_v30, b_r18, hT1⟩ := hB
      have hT := J _ hT1
      have hT : TP D A [(h7, aI (k 0) 8 (rgI 0 0)), (h0, ob 7 [.ref h1, .ref h2, .int h0f2, .ref h3, .ref h4, .ref h5, .int h0f6, .ref h6, .int h0f8, .ref q19, .ref h7, .int h0f11, .ref h8, .ref h9, .ref h10, .ref h11, .ref h12]), (h1, ob 4 [.int h1f0, .int h1f1, .int h1f2, .ref h13]), (h8, ob 2 [.ref h1, .int x1]), (h11, aJ (k 1) 9 anJ), (h13, aJ (k 1) 36 anJ), (q19, ob 3 [.ref q20, .ref q21, .ref q22, .ref q23, .ref q24, .ref q25, .ref q26, .ref q27, .int v28, .int 400, .int v29, .int v30]), (q20, aJ (k 1) 12000 anJ), (q21, aI (k 0) 400 anI), (q22, aI (k 0) 400 anI), (q23, aI (k 0) 400 anI), (q24, aI (k 0) 1600 anI), (q25, aI (k 0) 1024 anI), (q26, aI (k 0) 400 anI), (q27, aJ (k 1) 60 anJ)] _ := hT
      have hT := hT.wk (q := 0) (P' := aI (k 0) 8 anI) rfl (an_I)
      have hT : TP D A [(h7, aI (k 0) 8 anI), (h0, ob 7 [.ref h1, .ref h2, .int h0f2, .ref h3, .ref h4, .ref h5, .int h0f6, .ref h6, .int h0f8, .ref q19, .ref h7, .int h0f11, .ref h8, .ref h9, .ref h10, .ref h11, .ref h12]), (h1, ob 4 [.int h1f0, .int h1f1, .int h1f2, .ref h13]), (h8, ob 2 [.ref h1, .int x1]), (h11, aJ (k 1) 9 anJ), (h13, aJ (k 1) 36 anJ), (q19, ob 3 [.ref q20, .ref q21, .ref q22, .ref q23, .ref q24, .ref q25, .ref q26, .ref q27, .int v28, .int 400, .int v29, .int v30]), (q20, aJ (k 1) 12000 anJ), (q21, aI (k 0) 400 anI), (q22, aI (k 0) 400 anI), (q23, aI (k 0) 400 anI), (q24, aI (k 0) 1600 anI), (q25, aI (k 0) 1024 anI), (q26, aI (k 0) 400 anI), (q27, aJ (k 1) 60 anJ)] _ := hT
      refine tz_iast hx hb hK hT hS 0 rfl (by omega) (fun _ _ => trivial) dX10_image_28 (fun H locs hT hS => ?_)
      refine lv_aload_n hx hb dX10_image_29 rfl (lv_at hl 0 rfl) ?_
      refine tz_get (ci := 7) (v := .ref h7) (C := RX10) (F := TX10) (N := 17) hx hb hU iX10 hown hK hT 1 rfl rfl 10 (by decide) w259 (fun _ h9 => h9) rfl dX10_image_30 ?_
      refine lv_iload_n hx hb dX10_image_33 rfl (lv_at hl 1 rfl) ?_
      refine tz_iald hx hb hK hT 0 rfl (by omega) dX10_image_34 (fun v31 e_v31 => ?_)
      clear e_v31
      exact tz_retI (B := B_cX10_imageL_dadb4 D k h0 h1 h7 h8 h11 h13 h2 h3 h4 h5 h6 h9 h10 h12 x1 h0f2 h0f6 h0f8 h0f11 h1f0 h1f1 h1f2 h8f1) (v := v31) hQ hx hb hr hlocks hS (Nat.le_of_ble_eq_true rfl) (Nat.le_of_ble_eq_true rfl) dX10_image_35 (⟨q19, q20, q21, q22, q23, q24, q25, q26, q27, v28, v29, v30, (by omega), (by omega), (by omega), (by omega), (hT.sub [1, 2, 0, 3, 4, 5, 6, 7, 8, 9, 10, 11, 12, 13, 14] (by decide) rfl)⟩)
  · skip
    have hT := J _ hT1
    have hT : TP D A [(h0, ob 7 [.ref h1, .ref h2, .int h0f2, .ref h3, .ref h4, .ref h5, .int h0f6, .ref h6, .int h0f8, .null, .ref h7, .int h0f11, .ref h8, .ref h9, .ref h10, .ref h11, .ref h12]), (h1, ob 4 [.int h1f0, .int h1f1, .int h1f2, .ref h13]), (h7, aI (k 0) 8 (rgI 0 0)), (h8, ob 2 [.ref h1, .int h8f1]), (h11, aJ (k 1) 9 anJ), (h13, aJ (k 1) 36 anJ)] _ := hT
    exfalso; omega
  · skip
    have hT := J _ hT1
    have hT : TP D A [(h0, ob 7 [.ref h1, .ref h2, .int h0f2, .ref h3, .ref h4, .ref h5, .int h0f6, .ref h6, .int h0f8, .null, .ref h7, .int h0f11, .ref h8, .ref h9, .ref h10, .ref h11, .ref h12]), (h1, ob 4 [.int h1f0, .int h1f1, .int h1f2, .ref h13]), (h7, aI (k 0) 8 (rgI 0 0)), (h8, ob 2 [.ref h1, .int h8f1]), (h11, aJ (k 1) 9 anJ), (h13, aJ (k 1) 36 anJ)] _ := hT
    exfalso; omega
  · skip
    have hT := J _ hT1
    have hT : TP D A [(h0, ob 7 [.ref h1, .ref h2, .int h0f2, .ref h3, .ref h4, .ref h5, .int h0f6, .ref h6, .int h0f8, .null, .ref h7, .int h0f11, .ref h8, .ref h9, .ref h10, .ref h11, .ref h12]), (h1, ob 4 [.int h1f0, .int h1f1, .int h1f2, .ref h13]), (h7, aI (k 0) 8 (rgI 0 0)), (h8, ob 2 [.ref h1, .int h8f1]), (h11, aJ (k 1) 9 anJ), (h13, aJ (k 1) 36 anJ)] _ := hT
    exfalso; omega
abbrev Rm_cX10_imageL_5f365 : Room := { frames := 1, cells := 0, slots := 0, locals := 20 }
abbrev B_cX10_imageL_5f365 (D : va_G) (k : Nat → ClassId) (h0 h1 h2 h3 h4 h5 h6 h7 h8 h9 h10 h11 h12 : Nat) (x1 : Int32) (h0f2 : Int32) (h0f6 : Int32) (h0f8 : Int32) (h0f11 : Int32) (A : Nat → Prop) (r : Int32) (H : Heap) : Prop := (-1) = r ∧ TP D A [(h0, ob 7 [.ref h1, .ref h2, .int h0f2, .ref h3, .ref h4, .ref h5, .int h0f6, .ref h6, .int h0f8, .null, .ref h7, .int h0f11, .ref h8, .ref h9, .ref h10, .ref h11, .ref h12])] H
set_option maxHeartbeats 4000000 in
set_option maxRecDepth 100000 in
theorem cX10_imageL_5f365 (l : Launch) (D : va_G) (k : Nat → ClassId) (sz : Nat) (h0 h1 h2 h3 h4 h5 h6 h7 h8 h9 h10 h11 h12 : Nat) (x1 : Int32) (h0f2 : Int32) (h0f6 : Int32) (h0f8 : Int32) (h0f11 : Int32) (b_x1 : 4 ≤ x1.toInt ∧ x1.toInt ≤ 4) (b_h0f2 : 0 ≤ h0f2.toInt ∧ h0f2.toInt ≤ 1) (b_h0f6 : 0 ≤ h0f6.toInt ∧ h0f6.toInt ≤ 1) (b_h0f8 : 0 ≤ h0f8.toInt ∧ h0f8.toInt ≤ 1) (b_h0f11 : 0 ≤ h0f11.toInt ∧ h0f11.toInt ≤ 200) : Met l yX10_image (Cond.code yX10_image cX10_image 2 (some .int) :: uw) Rm_cX10_imageL_5f365 (pT D k sz [.ref h0, .int x1] [(h0, ob 7 [.ref h1, .ref h2, .int h0f2, .ref h3, .ref h4, .ref h5, .int h0f6, .ref h6, .int h0f8, .null, .ref h7, .int h0f11, .ref h8, .ref h9, .ref h10, .ref h11, .ref h12])]) (qI (B_cX10_imageL_5f365 D k h0 h1 h2 h3 h4 h5 h6 h7 h8 h9 h10 h11 h12 x1 h0f2 h0f6 h0f8 h0f11 (zA [h0] sz)) (zA [h0] sz)) 0 0 (zA [h0] sz) := by
  refine tz_begin (as := [h0]) (Qc := fun A => qI (B_cX10_imageL_5f365 D k h0 h1 h2 h3 h4 h5 h6 h7 h8 h9 h10 h11 h12 x1 h0f2 h0f6 h0f8 h0f11 A) A) (by decide +kernel) rfl (Nat.le_of_ble_eq_true rfl) ?_
  intro p e s m args below meth c ls A Q hx hb hr hml hown hlocks hin hU hK hT hS hA hl hQ
  have hl : lv_has ls 2 [(0, .ref h0), (1, .int x1)] := hl
  have hT : TP D A [(h0, ob 7 [.ref h1, .ref h2, .int h0f2, .ref h3, .ref h4, .ref h5, .int h0f6, .ref h6, .int h0f8, .null, .ref h7, .int h0f11, .ref h8, .ref h9, .ref h10, .ref h11, .ref h12])] s.heap := hT
  refine lv_iload_n hx hb dX10_image_0 rfl (lv_at hl 1 rfl) ?_
  refine tcI (Tc := []) (Tr := [(h0, ob 7 [.ref h1, .ref h2, .int h0f2, .ref h3, .ref h4, .ref h5, .int h0f6, .ref h6, .int h0f8, .null, .ref h7, .int h0f11, .ref h8, .ref h9, .ref h10, .ref h11, .ref h12])]) (as := []) (zcS (As := [.int x1]) (rest := []) (Tc := []) hx hb hml hown hU hK hT [] rfl (by decide) (cX10_isPrimeTaken_a0e73 l D k _ x1) w664 w662 w663 w63 hdX10_isPrimeTaken ⟨rfl, rfl⟩ ⟨Nat.le_of_ble_eq_true rfl, Nat.le_of_ble_eq_true rfl⟩ rfl hl.1 (Nat.le_of_ble_eq_true rfl) dX10_image_1 ⟨Nat.le_of_ble_eq_true rfl, Nat.le_of_ble_eq_true rfl⟩) hT hS hA [] [0] rfl rfl rfl (by decide) (by decide) (fun r1 H locs hB J hS => ?_)
  rcases hB with ⟨c_2, rfl, hT1⟩ | ⟨c_3, c_4, rfl, hT1⟩ | ⟨c_5, c_6, c_7, rfl, hT1⟩ | ⟨c_8, c_9, c_10, c_11, rfl, hT1⟩ | ⟨c_12, c_13, c_14, c_15, rfl, hT1⟩
  · skip
    have hT := J _ hT1
    have hT : TP D A [(h0, ob 7 [.ref h1, .ref h2, .int h0f2, .ref h3, .ref h4, .ref h5, .int h0f6, .ref h6, .int h0f8, .null, .ref h7, .int h0f11, .ref h8, .ref h9, .ref h10, .ref h11, .ref h12])] _ := hT
    exfalso; omega
  · skip
    have hT := J _ hT1
    have hT : TP D A [(h0, ob 7 [.ref h1, .ref h2, .int h0f2, .ref h3, .ref h4, .ref h5, .int h0f6, .ref h6, .int h0f8, .null, .ref h7, .int h0f11, .ref h8, .ref h9, .ref h10, .ref h11, .ref h12])] _ := hT
    exfalso; omega
  · skip
    have hT := J _ hT1
    have hT : TP D A [(h0, ob 7 [.ref h1, .ref h2, .int h0f2, .ref h3, .ref h4, .ref h5, .int h0f6, .ref h6, .int h0f8, .null, .ref h7, .int h0f11, .ref h8, .ref h9, .ref h10, .ref h11, .ref h12])] _ := hT
    exfalso; omega
  · skip
    have hT := J _ hT1
    have hT : TP D A [(h0, ob 7 [.ref h1, .ref h2, .int h0f2, .ref h3, .ref h4, .ref h5, .int h0f6, .ref h6, .int h0f8, .null, .ref h7, .int h0f11, .ref h8, .ref h9, .ref h10, .ref h11, .ref h12])] _ := hT
    refine lv_if_ne (tgt := 9) hx hb dX10_image_4 (by decide) (fun cc => absurd (by decide +kernel) cc) (fun _ => ?_)
    refine lv_iconst (v := (-1)) hx hb dX10_image_7 (by decide) ?_
    exact tz_retI (B := B_cX10_imageL_5f365 D k h0 h1 h2 h3 h4 h5 h6 h7 h8 h9 h10 h11 h12 x1 h0f2 h0f6 h0f8 h0f11) (v := (-1)) hQ hx hb hr hlocks hS (Nat.le_of_ble_eq_true rfl) (Nat.le_of_ble_eq_true rfl) dX10_image_8 (⟨rfl, hT⟩)
  · skip
    have hT := J _ hT1
    have hT : TP D A [(h0, ob 7 [.ref h1, .ref h2, .int h0f2, .ref h3, .ref h4, .ref h5, .int h0f6, .ref h6, .int h0f8, .null, .ref h7, .int h0f11, .ref h8, .ref h9, .ref h10, .ref h11, .ref h12])] _ := hT
    exfalso; omega
abbrev Rm_cX10_imageL_8b9a5 : Room := { frames := 6, cells := 9, slots := 16296, locals := 151 }
abbrev B_cX10_imageL_8b9a5 (D : va_G) (k : Nat → ClassId) (h0 h1 h7 h8 h11 h13 h2 h3 h4 h5 h6 h9 h10 h12 : Nat) (x1 : Int32) (h0f2 : Int32) (h0f6 : Int32) (h0f8 : Int32) (h0f11 : Int32) (h1f0 : Int32) (h1f1 : Int32) (h1f2 : Int32) (h8f1 : Int32) (A : Nat → Prop) (r : Int32) (H : Heap) : Prop := ∃ n0 : Nat, ∃ n1 : Nat, ∃ n2 : Nat, ∃ n3 : Nat, ∃ n4 : Nat, ∃ n5 : Nat, ∃ n6 : Nat, ∃ n7 : Nat, ∃ n8 : Nat, ∃ o0 : Int32, ∃ o1 : Int32, ∃ o2 : Int32, (1 ≤ o0.toInt ∧ o0.toInt ≤ 9) ∧ (1 ≤ o1.toInt ∧ o1.toInt ≤ 400) ∧ (0 ≤ o2.toInt ∧ o2.toInt ≤ 1) ∧ (0 ≤ x1.toInt ∧ x1.toInt ≤ 7) ∧ TP D A [(h0, ob 7 [.ref h1, .ref h2, .int h0f2, .ref h3, .ref h4, .ref h5, .int h0f6, .ref h6, .int h0f8, .ref n0, .ref h7, .int h0f11, .ref h8, .ref h9, .ref h10, .ref h11, .ref h12]), (h1, ob 4 [.int h1f0, .int h1f1, .int h1f2, .ref h13]), (h7, aI (k 0) 8 anI), (h8, ob 2 [.ref h1, .int x1]), (h11, aJ (k 1) 9 anJ), (h13, aJ (k 1) 36 anJ), (n0, ob 3 [.ref n1, .ref n2, .ref n3, .ref n4, .ref n5, .ref n6, .ref n7, .ref n8, .int o0, .int 400, .int o1, .int o2]), (n1, aJ (k 1) 12000 anJ), (n2, aI (k 0) 400 anI), (n3, aI (k 0) 400 anI), (n4, aI (k 0) 400 anI), (n5, aI (k 0) 1600 anI), (n6, aI (k 0) 1024 anI), (n7, aI (k 0) 400 anI), (n8, aJ (k 1) 60 anJ)] H
set_option maxHeartbeats 4000000 in
set_option maxRecDepth 100000 in
theorem cX10_imageL_8b9a5 (l : Launch) (D : va_G) (k : Nat → ClassId) (sz : Nat) (h0 h1 h7 h8 h11 h13 h2 h3 h4 h5 h6 h9 h10 h12 : Nat) (x1 : Int32) (h0f2 : Int32) (h0f6 : Int32) (h0f8 : Int32) (h0f11 : Int32) (h1f0 : Int32) (h1f1 : Int32) (h1f2 : Int32) (h8f1 : Int32) (b_x1 : 5 ≤ x1.toInt ∧ x1.toInt ≤ 5) (b_h0f2 : 0 ≤ h0f2.toInt ∧ h0f2.toInt ≤ 1) (b_h0f6 : 0 ≤ h0f6.toInt ∧ h0f6.toInt ≤ 1) (b_h0f8 : 0 ≤ h0f8.toInt ∧ h0f8.toInt ≤ 1) (b_h0f11 : 0 ≤ h0f11.toInt ∧ h0f11.toInt ≤ 200) (b_h1f0 : 1 ≤ h1f0.toInt ∧ h1f0.toInt ≤ 3) (b_h1f1 : 0 ≤ h1f1.toInt ∧ h1f1.toInt ≤ 4) (b_h8f1 : 0 ≤ h8f1.toInt ∧ h8f1.toInt ≤ 7) : Met l yX10_image (Cond.code yX10_image cX10_image 2 (some .int) :: uw) Rm_cX10_imageL_8b9a5 (pT D k sz [.ref h0, .int x1] [(h0, ob 7 [.ref h1, .ref h2, .int h0f2, .ref h3, .ref h4, .ref h5, .int h0f6, .ref h6, .int h0f8, .null, .ref h7, .int h0f11, .ref h8, .ref h9, .ref h10, .ref h11, .ref h12]), (h1, ob 4 [.int h1f0, .int h1f1, .int h1f2, .ref h13]), (h7, aI (k 0) 8 (rgI 0 0)), (h8, ob 2 [.ref h1, .int h8f1]), (h11, aJ (k 1) 9 anJ), (h13, aJ (k 1) 36 anJ)]) (qI (B_cX10_imageL_8b9a5 D k h0 h1 h7 h8 h11 h13 h2 h3 h4 h5 h6 h9 h10 h12 x1 h0f2 h0f6 h0f8 h0f11 h1f0 h1f1 h1f2 h8f1 (zA [h0, h1, h7, h8, h11, h13] sz)) (zA [h0, h1, h7, h8, h11, h13] sz)) 9 16296 (zA [h0, h1, h7, h8, h11, h13] sz) := by
  refine tz_begin (as := [h0, h1, h7, h8, h11, h13]) (Qc := fun A => qI (B_cX10_imageL_8b9a5 D k h0 h1 h7 h8 h11 h13 h2 h3 h4 h5 h6 h9 h10 h12 x1 h0f2 h0f6 h0f8 h0f11 h1f0 h1f1 h1f2 h8f1 A) A) (by decide +kernel) rfl (Nat.le_of_ble_eq_true rfl) ?_
  intro p e s m args below meth c ls A Q hx hb hr hml hown hlocks hin hU hK hT hS hA hl hQ
  have hl : lv_has ls 2 [(0, .ref h0), (1, .int x1)] := hl
  have hT : TP D A [(h0, ob 7 [.ref h1, .ref h2, .int h0f2, .ref h3, .ref h4, .ref h5, .int h0f6, .ref h6, .int h0f8, .null, .ref h7, .int h0f11, .ref h8, .ref h9, .ref h10, .ref h11, .ref h12]), (h1, ob 4 [.int h1f0, .int h1f1, .int h1f2, .ref h13]), (h7, aI (k 0) 8 (rgI 0 0)), (h8, ob 2 [.ref h1, .int h8f1]), (h11, aJ (k 1) 9 anJ), (h13, aJ (k 1) 36 anJ)] s.heap := hT
  refine lv_iload_n hx hb dX10_image_0 rfl (lv_at hl 1 rfl) ?_
  refine tcI (Tc := []) (Tr := [(h0, ob 7 [.ref h1, .ref h2, .int h0f2, .ref h3, .ref h4, .ref h5, .int h0f6, .ref h6, .int h0f8, .null, .ref h7, .int h0f11, .ref h8, .ref h9, .ref h10, .ref h11, .ref h12]), (h1, ob 4 [.int h1f0, .int h1f1, .int h1f2, .ref h13]), (h7, aI (k 0) 8 (rgI 0 0)), (h8, ob 2 [.ref h1, .int h8f1]), (h11, aJ (k 1) 9 anJ), (h13, aJ (k 1) 36 anJ)]) (as := []) (zcS (As := [.int x1]) (rest := []) (Tc := []) hx hb hml hown hU hK hT [] rfl (by decide) (cX10_isPrimeTaken_a0e73 l D k _ x1) w664 w662 w663 w63 hdX10_isPrimeTaken ⟨rfl, rfl⟩ ⟨Nat.le_of_ble_eq_true rfl, Nat.le_of_ble_eq_true rfl⟩ rfl hl.1 (Nat.le_of_ble_eq_true rfl) dX10_image_1 ⟨Nat.le_of_ble_eq_true rfl, Nat.le_of_ble_eq_true rfl⟩) hT hS hA [] [0, 1, 2, 3, 4, 5] rfl rfl rfl (by decide) (by decide) (fun r1 H locs hB J hS => ?_)
  rcases hB with ⟨c_2, rfl, hT1⟩ | ⟨c_3, c_4, rfl, hT1⟩ | ⟨c_5, c_6, c_7, rfl, hT1⟩ | ⟨c_8, c_9, c_10, c_11, rfl, hT1⟩ | ⟨c_12, c_13, c_14, c_15, rfl, hT1⟩
  · skip
    have hT := J _ hT1
    have hT : TP D A [(h0, ob 7 [.ref h1, .ref h2, .int h0f2, .ref h3, .ref h4, .ref h5, .int h0f6, .ref h6, .int h0f8, .null, .ref h7, .int h0f11, .ref h8, .ref h9, .ref h10, .ref h11, .ref h12]), (h1, ob 4 [.int h1f0, .int h1f1, .int h1f2, .ref h13]), (h7, aI (k 0) 8 (rgI 0 0)), (h8, ob 2 [.ref h1, .int h8f1]), (h11, aJ (k 1) 9 anJ), (h13, aJ (k 1) 36 anJ)] _ := hT
    exfalso; omega
  · skip
    have hT := J _ hT1
    have hT : TP D A [(h0, ob 7 [.ref h1, .ref h2, .int h0f2, .ref h3, .ref h4, .ref h5, .int h0f6, .ref h6, .int h0f8, .null, .ref h7, .int h0f11, .ref h8, .ref h9, .ref h10, .ref h11, .ref h12]), (h1, ob 4 [.int h1f0, .int h1f1, .int h1f2, .ref h13]), (h7, aI (k 0) 8 (rgI 0 0)), (h8, ob 2 [.ref h1, .int h8f1]), (h11, aJ (k 1) 9 anJ), (h13, aJ (k 1) 36 anJ)] _ := hT
    exfalso; omega
  · skip
    have hT := J _ hT1
    have hT : TP D A [(h0, ob 7 [.ref h1, .ref h2, .int h0f2, .ref h3, .ref h4, .ref h5, .int h0f6, .ref h6, .int h0f8, .null, .ref h7, .int h0f11, .ref h8, .ref h9, .ref h10, .ref h11, .ref h12]), (h1, ob 4 [.int h1f0, .int h1f1, .int h1f2, .ref h13]), (h7, aI (k 0) 8 (rgI 0 0)), (h8, ob 2 [.ref h1, .int h8f1]), (h11, aJ (k 1) 9 anJ), (h13, aJ (k 1) 36 anJ)] _ := hT
    refine lv_if_ne (tgt := 9) hx hb dX10_image_4 (by decide) (fun _ => ?_) (fun cc => absurd cc (by decide +kernel))
    refine lv_aload_n hx hb dX10_image_9 rfl (lv_at hl 0 rfl) ?_
    refine tz_get (ci := 7) (v := .ref h7) (C := RX10) (F := TX10) (N := 17) hx hb hU iX10 hown hK hT 0 rfl rfl 10 (by decide) w259 (fun _ h9 => h9) rfl dX10_image_10 ?_
    refine lv_iload_n hx hb dX10_image_13 rfl (lv_at hl 1 rfl) ?_
    refine tz_iald hx hb hK hT 2 rfl (by omega) dX10_image_14 (fun v16 e_v16 => ?_)
    have e_v16 := rg_get e_v16
    refine lv_if_ne (tgt := 29) hx hb dX10_image_15 (by decide) (fun c_17 => ?_) (fun c_17 => ?_)
    · skip
      have c_17 := ni_ne c_17 rfl li_0
      exfalso; omega
    · skip
      have c_17 := ni_eq c_17 rfl li_0
      refine lv_aload_n hx hb dX10_image_18 rfl (lv_at hl 0 rfl) ?_
      refine tz_get (ci := 7) (v := .ref h7) (C := RX10) (F := TX10) (N := 17) hx hb hU iX10 hown hK hT 0 rfl rfl 10 (by decide) w259 (fun _ h9 => h9) rfl dX10_image_19 ?_
      refine lv_iload_n hx hb dX10_image_22 rfl (lv_at hl 1 rfl) ?_
      refine lv_aload_n hx hb dX10_image_23 rfl (lv_at hl 0 rfl) ?_
      refine lv_iload_n hx hb dX10_image_24 rfl (lv_at hl 1 rfl) ?_
      refine tcI (Tc := [(h0, ob 7 [.ref h1, .ref h2, .int h0f2, .ref h3, .ref h4, .ref h5, .int h0f6, .ref h6, .int h0f8, .null, .ref h7, .int h0f11, .ref h8, .ref h9, .ref h10, .ref h11, .ref h12]), (h1, ob 4 [.int h1f0, .int h1f1, .int h1f2, .ref h13]), (h8, ob 2 [.ref h1, .int h8f1]), (h11, aJ (k 1) 9 anJ), (h13, aJ (k 1) 36 anJ)]) (Tr := [(h7, aI (k 0) 8 (rgI 0 0))]) (as := [h0, h1, h8, h11, h13]) (zcV (q0 := 0) (ci := 7) (As := [.int x1]) (rest := [.int x1, .ref h7]) (Tc := [(h0, ob 7 [.ref h1, .ref h2, .int h0f2, .ref h3, .ref h4, .ref h5, .int h0f6, .ref h6, .int h0f8, .null, .ref h7, .int h0f11, .ref h8, .ref h9, .ref h10, .ref h11, .ref h12]), (h1, ob 4 [.int h1f0, .int h1f1, .int h1f2, .ref h13]), (h8, ob 2 [.ref h1, .int h8f1]), (h11, aJ (k 1) 9 anJ), (h13, aJ (k 1) 36 anJ)]) hx hb hml hown hU hK hT rfl rfl [0, 1, 3, 4, 5] rfl (by decide) (cX10_countImage_a81f2 l D k _ h0 h1 h8 h11 h13 h2 h3 h4 h5 h6 h7 h9 h10 h12 x1 h0f2 h0f6 h0f8 h0f11 h1f0 h1f1 h1f2 h8f1 (by omega) (by omega) (by omega) (by omega) (by omega) (by omega) (by omega) (by omega)) w668 w665 w667 w21 w63 hdX10_countImage ⟨rfl, rfl⟩ ⟨Nat.le_of_ble_eq_true rfl, Nat.le_of_ble_eq_true rfl⟩ rfl hl.1 (Nat.le_of_ble_eq_true rfl) dX10_image_25 ⟨Nat.le_of_ble_eq_true rfl, Nat.le_of_ble_eq_true rfl⟩) hT hS hA [0, 1, 3, 4, 5] [2] rfl rfl rfl (by decide) (by decide) (fun r18 H locs hB J hS => ?_)
      obtain ⟨q19, q20, q21, q22, q23, q24, q25, q26, q27, v28, v29, v30, b_v28, b_v29, b_v30, b_r18, hT1⟩ := hB
      have hT := J _ hT1
      have hT : TP D A [(h7, aI (k 0) 8 (rgI 0 0)), (h0, ob 7 [.ref h1, .ref h2, .int h0f2, .ref h3, .ref h4, .ref h5, .int h0f6, .ref h6, .int h0f8, .ref q19, .ref h7, .int h0f11, .ref h8, .ref h9, .ref h10, .ref h11, .ref h12]), (h1, ob 4 [.int h1f0, .int h1f1, .int h1f2, .ref h13]), (h8, ob 2 [.ref h1, .int x1]), (h11, aJ (k 1) 9 anJ), (h13, aJ (k 1) 36 anJ), (q19, ob 3 [.ref q20, .ref q21, .ref q22, .ref q23, .ref q24, .ref q25, .ref q26, .ref q27, .int v28, .int 400, .int v29, .int v30]), (q20, aJ (k 1) 12000 anJ), (q21, aI (k 0) 400 anI), (q22, aI (k 0) 400 anI), (q23, aI (k 0) 400 anI), (q24, aI (k 0) 1600 anI), (q25, aI (k 0) 1024 anI), (q26, aI (k 0) 400 anI), (q27, aJ (k 1) 60 anJ)] _ := hT
      have hT := hT.wk (q := 0) (P' := aI (k 0) 8 anI) rfl (an_I)
      have hT : TP D A [(h7, aI (k 0) 8 anI), (h0, ob 7 [.ref h1, .ref h2, .int h0f2, .ref h3, .ref h4, .ref h5, .int h0f6, .ref h6, .int h0f8, .ref q19, .ref h7, .int h0f11, .ref h8, .ref h9, .ref h10, .ref h11, .ref h12]), (h1, ob 4 [.int h1f0, .int h1f1, .int h1f2, .ref h13]), (h8, ob 2 [.ref h1, .int x1]), (h11, aJ (k 1) 9 anJ), (h13, aJ (k 1) 36 anJ), (q19, ob 3 [.ref q20, .ref q21, .ref q22, .ref q23, .ref q24, .ref q25, .ref q26, .ref q27, .int v28, .int 400, .int v29, .int v30]), (q20, aJ (k 1) 12000 anJ), (q21, aI (k 0) 400 anI), (q22, aI (k 0) 400 anI), (q23, aI (k 0) 400 anI), (q24, aI (k 0) 1600 anI), (q25, aI (k 0) 1024 anI), (q26, aI (k 0) 400 anI), (q27, aJ (k 1) 60 anJ)] _ := hT
      refine tz_iast hx hb hK hT hS 0 rfl (by omega) (fun _ _ => trivial) dX10_image_28 (fun H locs hT hS => ?_)
      refine lv_aload_n hx hb dX10_image_29 rfl (lv_at hl 0 rfl) ?_
      refine tz_get (ci := 7) (v := .ref h7) (C := RX10) (F := TX10) (N := 17) hx hb hU iX10 hown hK hT 1 rfl rfl 10 (by decide) w259 (fun _ h9 => h9) rfl dX10_image_30 ?_
      refine lv_iload_n hx hb dX10_image_33 rfl (lv_at hl 1 rfl) ?_
      refine tz_iald hx hb hK hT 0 rfl (by omega) dX10_image_34 (fun v31 e_v31 => ?_)
      clear e_v31
      exact tz_retI (B := B_cX10_imageL_8b9a5 D k h0 h1 h7 h8 h11 h13 h2 h3 h4 h5 h6 h9 h10 h12 x1 h0f2 h0f6 h0f8 h0f11 h1f0 h1f1 h1f2 h8f1) (v := v31) hQ hx hb hr hlocks hS (Nat.le_of_ble_eq_true rfl) (Nat.le_of_ble_eq_true rfl) dX10_image_35 (⟨q19, q20, q21, q22, q23, q24, q25, q26, q27, v28, v29, v30, (by omega), (by omega), (by omega), (by omega), (hT.sub [1, 2, 0, 3, 4, 5, 6, 7, 8, 9, 10, 11, 12, 13, 14] (by decide) rfl)⟩)
  · skip
    have hT := J _ hT1
    have hT : TP D A [(h0, ob 7 [.ref h1, .ref h2, .int h0f2, .ref h3, .ref h4, .ref h5, .int h0f6, .ref h6, .int h0f8, .null, .ref h7, .int h0f11, .ref h8, .ref h9, .ref h10, .ref h11, .ref h12]), (h1, ob 4 [.int h1f0, .int h1f1, .int h1f2, .ref h13]), (h7, aI (k 0) 8 (rgI 0 0)), (h8, ob 2 [.ref h1, .int h8f1]), (h11, aJ (k 1) 9 anJ), (h13, aJ (k 1) 36 anJ)] _ := hT
    exfalso; omega
  · skip
    have hT := J _ hT1
    have hT : TP D A [(h0, ob 7 [.ref h1, .ref h2, .int h0f2, .ref h3, .ref h4, .ref h5, .int h0f6, .ref h6, .int h0f8, .null, .ref h7, .int h0f11, .ref h8, .ref h9, .ref h10, .ref h11, .ref h12]), (h1, ob 4 [.int h1f0, .int h1f1, .int h1f2, .ref h13]), (h7, aI (k 0) 8 (rgI 0 0)), (h8, ob 2 [.ref h1, .int h8f1]), (h11, aJ (k 1) 9 anJ), (h13, aJ (k 1) 36 anJ)] _ := hT
    exfalso; omega
abbrev Rm_cX10_imageL_fa555 : Room := { frames := 1, cells := 0, slots := 0, locals := 20 }
abbrev B_cX10_imageL_fa555 (D : va_G) (k : Nat → ClassId) (h0 h1 h2 h3 h4 h5 h6 h7 h8 h9 h10 h11 h12 : Nat) (x1 : Int32) (h0f2 : Int32) (h0f6 : Int32) (h0f8 : Int32) (h0f11 : Int32) (A : Nat → Prop) (r : Int32) (H : Heap) : Prop := (-1) = r ∧ TP D A [(h0, ob 7 [.ref h1, .ref h2, .int h0f2, .ref h3, .ref h4, .ref h5, .int h0f6, .ref h6, .int h0f8, .null, .ref h7, .int h0f11, .ref h8, .ref h9, .ref h10, .ref h11, .ref h12])] H
set_option maxHeartbeats 4000000 in
set_option maxRecDepth 100000 in
theorem cX10_imageL_fa555 (l : Launch) (D : va_G) (k : Nat → ClassId) (sz : Nat) (h0 h1 h2 h3 h4 h5 h6 h7 h8 h9 h10 h11 h12 : Nat) (x1 : Int32) (h0f2 : Int32) (h0f6 : Int32) (h0f8 : Int32) (h0f11 : Int32) (b_x1 : 6 ≤ x1.toInt ∧ x1.toInt ≤ 6) (b_h0f2 : 0 ≤ h0f2.toInt ∧ h0f2.toInt ≤ 1) (b_h0f6 : 0 ≤ h0f6.toInt ∧ h0f6.toInt ≤ 1) (b_h0f8 : 0 ≤ h0f8.toInt ∧ h0f8.toInt ≤ 1) (b_h0f11 : 0 ≤ h0f11.toInt ∧ h0f11.toInt ≤ 200) : Met l yX10_image (Cond.code yX10_image cX10_image 2 (some .int) :: uw) Rm_cX10_imageL_fa555 (pT D k sz [.ref h0, .int x1] [(h0, ob 7 [.ref h1, .ref h2, .int h0f2, .ref h3, .ref h4, .ref h5, .int h0f6, .ref h6, .int h0f8, .null, .ref h7, .int h0f11, .ref h8, .ref h9, .ref h10, .ref h11, .ref h12])]) (qI (B_cX10_imageL_fa555 D k h0 h1 h2 h3 h4 h5 h6 h7 h8 h9 h10 h11 h12 x1 h0f2 h0f6 h0f8 h0f11 (zA [h0] sz)) (zA [h0] sz)) 0 0 (zA [h0] sz) := by
  refine tz_begin (as := [h0]) (Qc := fun A => qI (B_cX10_imageL_fa555 D k h0 h1 h2 h3 h4 h5 h6 h7 h8 h9 h10 h11 h12 x1 h0f2 h0f6 h0f8 h0f11 A) A) (by decide +kernel) rfl (Nat.le_of_ble_eq_true rfl) ?_
  intro p e s m args below meth c ls A Q hx hb hr hml hown hlocks hin hU hK hT hS hA hl hQ
  have hl : lv_has ls 2 [(0, .ref h0), (1, .int x1)] := hl
  have hT : TP D A [(h0, ob 7 [.ref h1, .ref h2, .int h0f2, .ref h3, .ref h4, .ref h5, .int h0f6, .ref h6, .int h0f8, .null, .ref h7, .int h0f11, .ref h8, .ref h9, .ref h10, .ref h11, .ref h12])] s.heap := hT
  refine lv_iload_n hx hb dX10_image_0 rfl (lv_at hl 1 rfl) ?_
  refine tcI (Tc := []) (Tr := [(h0, ob 7 [.ref h1, .ref h2, .int h0f2, .ref h3, .ref h4, .ref h5, .int h0f6, .ref h6, .int h0f8, .null, .ref h7, .int h0f11, .ref h8, .ref h9, .ref h10, .ref h11, .ref h12])]) (as := []) (zcS (As := [.int x1]) (rest := []) (Tc := []) hx hb hml hown hU hK hT [] rfl (by decide) (cX10_isPrimeTaken_a0e73 l D k _ x1) w664 w662 w663 w63 hdX10_isPrimeTaken ⟨rfl, rfl⟩ ⟨Nat.le_of_ble_eq_true rfl, Nat.le_of_ble_eq_true rfl⟩ rfl hl.1 (Nat.le_of_ble_eq_true rfl) dX10_image_1 ⟨Nat.le_of_ble_eq_true rfl, Nat.le_of_ble_eq_true rfl⟩) hT hS hA [] [0] rfl rfl rfl (by decide) (by decide) (fun r1 H locs hB J hS => ?_)
  rcases hB with ⟨c_2, rfl, hT1⟩ | ⟨c_3, c_4, rfl, hT1⟩ | ⟨c_5, c_6, c_7, rfl, hT1⟩ | ⟨c_8, c_9, c_10, c_11, rfl, hT1⟩ | ⟨c_12, c_13, c_14, c_15, rfl, hT1⟩
  · skip
    have hT := J _ hT1
    have hT : TP D A [(h0, ob 7 [.ref h1, .ref h2, .int h0f2, .ref h3, .ref h4, .ref h5, .int h0f6, .ref h6, .int h0f8, .null, .ref h7, .int h0f11, .ref h8, .ref h9, .ref h10, .ref h11, .ref h12])] _ := hT
    exfalso; omega
  · skip
    have hT := J _ hT1
    have hT : TP D A [(h0, ob 7 [.ref h1, .ref h2, .int h0f2, .ref h3, .ref h4, .ref h5, .int h0f6, .ref h6, .int h0f8, .null, .ref h7, .int h0f11, .ref h8, .ref h9, .ref h10, .ref h11, .ref h12])] _ := hT
    exfalso; omega
  · skip
    have hT := J _ hT1
    have hT : TP D A [(h0, ob 7 [.ref h1, .ref h2, .int h0f2, .ref h3, .ref h4, .ref h5, .int h0f6, .ref h6, .int h0f8, .null, .ref h7, .int h0f11, .ref h8, .ref h9, .ref h10, .ref h11, .ref h12])] _ := hT
    exfalso; omega
  · skip
    have hT := J _ hT1
    have hT : TP D A [(h0, ob 7 [.ref h1, .ref h2, .int h0f2, .ref h3, .ref h4, .ref h5, .int h0f6, .ref h6, .int h0f8, .null, .ref h7, .int h0f11, .ref h8, .ref h9, .ref h10, .ref h11, .ref h12])] _ := hT
    refine lv_if_ne (tgt := 9) hx hb dX10_image_4 (by decide) (fun cc => absurd (by decide +kernel) cc) (fun _ => ?_)
    refine lv_iconst (v := (-1)) hx hb dX10_image_7 (by decide) ?_
    exact tz_retI (B := B_cX10_imageL_fa555 D k h0 h1 h2 h3 h4 h5 h6 h7 h8 h9 h10 h11 h12 x1 h0f2 h0f6 h0f8 h0f11) (v := (-1)) hQ hx hb hr hlocks hS (Nat.le_of_ble_eq_true rfl) (Nat.le_of_ble_eq_true rfl) dX10_image_8 (⟨rfl, hT⟩)
  · skip
    have hT := J _ hT1
    have hT : TP D A [(h0, ob 7 [.ref h1, .ref h2, .int h0f2, .ref h3, .ref h4, .ref h5, .int h0f6, .ref h6, .int h0f8, .null, .ref h7, .int h0f11, .ref h8, .ref h9, .ref h10, .ref h11, .ref h12])] _ := hT
    exfalso; omega
abbrev Rm_cX10_imageL_9853c : Room := { frames := 6, cells := 9, slots := 16296, locals := 151 }
abbrev B_cX10_imageL_9853c (D : va_G) (k : Nat → ClassId) (h0 h1 h7 h8 h11 h13 h2 h3 h4 h5 h6 h9 h10 h12 : Nat) (x1 : Int32) (h0f2 : Int32) (h0f6 : Int32) (h0f8 : Int32) (h0f11 : Int32) (h1f0 : Int32) (h1f1 : Int32) (h1f2 : Int32) (h8f1 : Int32) (A : Nat → Prop) (r : Int32) (H : Heap) : Prop := ∃ n0 : Nat, ∃ n1 : Nat, ∃ n2 : Nat, ∃ n3 : Nat, ∃ n4 : Nat, ∃ n5 : Nat, ∃ n6 : Nat, ∃ n7 : Nat, ∃ n8 : Nat, ∃ o0 : Int32, ∃ o1 : Int32, ∃ o2 : Int32, (1 ≤ o0.toInt ∧ o0.toInt ≤ 9) ∧ (1 ≤ o1.toInt ∧ o1.toInt ≤ 400) ∧ (0 ≤ o2.toInt ∧ o2.toInt ≤ 1) ∧ (0 ≤ x1.toInt ∧ x1.toInt ≤ 7) ∧ TP D A [(h0, ob 7 [.ref h1, .ref h2, .int h0f2, .ref h3, .ref h4, .ref h5, .int h0f6, .ref h6, .int h0f8, .ref n0, .ref h7, .int h0f11, .ref h8, .ref h9, .ref h10, .ref h11, .ref h12]), (h1, ob 4 [.int h1f0, .int h1f1, .int h1f2, .ref h13]), (h7, aI (k 0) 8 anI), (h8, ob 2 [.ref h1, .int x1]), (h11, aJ (k 1) 9 anJ), (h13, aJ (k 1) 36 anJ), (n0, ob 3 [.ref n1, .ref n2, .ref n3, .ref n4, .ref n5, .ref n6, .ref n7, .ref n8, .int o0, .int 400, .int o1, .int o2]), (n1, aJ (k 1) 12000 anJ), (n2, aI (k 0) 400 anI), (n3, aI (k 0) 400 anI), (n4, aI (k 0) 400 anI), (n5, aI (k 0) 1600 anI), (n6, aI (k 0) 1024 anI), (n7, aI (k 0) 400 anI), (n8, aJ (k 1) 60 anJ)] H
set_option maxHeartbeats 4000000 in
set_option maxRecDepth 100000 in
theorem cX10_imageL_9853c (l : Launch) (D : va_G) (k : Nat → ClassId) (sz : Nat) (h0 h1 h7 h8 h11 h13 h2 h3 h4 h5 h6 h9 h10 h12 : Nat) (x1 : Int32) (h0f2 : Int32) (h0f6 : Int32) (h0f8 : Int32) (h0f11 : Int32) (h1f0 : Int32) (h1f1 : Int32) (h1f2 : Int32) (h8f1 : Int32) (b_x1 : 7 ≤ x1.toInt ∧ x1.toInt ≤ 7) (b_h0f2 : 0 ≤ h0f2.toInt ∧ h0f2.toInt ≤ 1) (b_h0f6 : 0 ≤ h0f6.toInt ∧ h0f6.toInt ≤ 1) (b_h0f8 : 0 ≤ h0f8.toInt ∧ h0f8.toInt ≤ 1) (b_h0f11 : 0 ≤ h0f11.toInt ∧ h0f11.toInt ≤ 200) (b_h1f0 : 1 ≤ h1f0.toInt ∧ h1f0.toInt ≤ 3) (b_h1f1 : 0 ≤ h1f1.toInt ∧ h1f1.toInt ≤ 4) (b_h8f1 : 0 ≤ h8f1.toInt ∧ h8f1.toInt ≤ 7) : Met l yX10_image (Cond.code yX10_image cX10_image 2 (some .int) :: uw) Rm_cX10_imageL_9853c (pT D k sz [.ref h0, .int x1] [(h0, ob 7 [.ref h1, .ref h2, .int h0f2, .ref h3, .ref h4, .ref h5, .int h0f6, .ref h6, .int h0f8, .null, .ref h7, .int h0f11, .ref h8, .ref h9, .ref h10, .ref h11, .ref h12]), (h1, ob 4 [.int h1f0, .int h1f1, .int h1f2, .ref h13]), (h7, aI (k 0) 8 (rgI 0 0)), (h8, ob 2 [.ref h1, .int h8f1]), (h11, aJ (k 1) 9 anJ), (h13, aJ (k 1) 36 anJ)]) (qI (B_cX10_imageL_9853c D k h0 h1 h7 h8 h11 h13 h2 h3 h4 h5 h6 h9 h10 h12 x1 h0f2 h0f6 h0f8 h0f11 h1f0 h1f1 h1f2 h8f1 (zA [h0, h1, h7, h8, h11, h13] sz)) (zA [h0, h1, h7, h8, h11, h13] sz)) 9 16296 (zA [h0, h1, h7, h8, h11, h13] sz) := by
  refine tz_begin (as := [h0, h1, h7, h8, h11, h13]) (Qc := fun A => qI (B_cX10_imageL_9853c D k h0 h1 h7 h8 h11 h13 h2 h3 h4 h5 h6 h9 h10 h12 x1 h0f2 h0f6 h0f8 h0f11 h1f0 h1f1 h1f2 h8f1 A) A) (by decide +kernel) rfl (Nat.le_of_ble_eq_true rfl) ?_
  intro p e s m args below meth c ls A Q hx hb hr hml hown hlocks hin hU hK hT hS hA hl hQ
  have hl : lv_has ls 2 [(0, .ref h0), (1, .int x1)] := hl
  have hT : TP D A [(h0, ob 7 [.ref h1, .ref h2, .int h0f2, .ref h3, .ref h4, .ref h5, .int h0f6, .ref h6, .int h0f8, .null, .ref h7, .int h0f11, .ref h8, .ref h9, .ref h10, .ref h11, .ref h12]), (h1, ob 4 [.int h1f0, .int h1f1, .int h1f2, .ref h13]), (h7, aI (k 0) 8 (rgI 0 0)), (h8, ob 2 [.ref h1, .int h8f1]), (h11, aJ (k 1) 9 anJ), (h13, aJ (k 1) 36 anJ)] s.heap := hT
  refine lv_iload_n hx hb dX10_image_0 rfl (lv_at hl 1 rfl) ?_
  refine tcI (Tc := []) (Tr := [(h0, ob 7 [.ref h1, .ref h2, .int h0f2, .ref h3, .ref h4, .ref h5, .int h0f6, .ref h6, .int h0f8, .null, .ref h7, .int h0f11, .ref h8, .ref h9, .ref h10, .ref h11, .ref h12]), (h1, ob 4 [.int h1f0, .int h1f1, .int h1f2, .ref h13]), (h7, aI (k 0) 8 (rgI 0 0)), (h8, ob 2 [.ref h1, .int h8f1]), (h11, aJ (k 1) 9 anJ), (h13, aJ (k 1) 36 anJ)]) (as := []) (zcS (As := [.int x1]) (rest := []) (Tc := []) hx hb hml hown hU hK hT [] rfl (by decide) (cX10_isPrimeTaken_a0e73 l D k _ x1) w664 w662 w663 w63 hdX10_isPrimeTaken ⟨rfl, rfl⟩ ⟨Nat.le_of_ble_eq_true rfl, Nat.le_of_ble_eq_true rfl⟩ rfl hl.1 (Nat.le_of_ble_eq_true rfl) dX10_image_1 ⟨Nat.le_of_ble_eq_true rfl, Nat.le_of_ble_eq_true rfl⟩) hT hS hA [] [0, 1, 2, 3, 4, 5] rfl rfl rfl (by decide) (by decide) (fun r1 H locs hB J hS => ?_)
  rcases hB with ⟨c_2, rfl, hT1⟩ | ⟨c_3, c_4, rfl, hT1⟩ | ⟨c_5, c_6, c_7, rfl, hT1⟩ | ⟨c_8, c_9, c_10, c_11, rfl, hT1⟩ | ⟨c_12, c_13, c_14, c_15, rfl, hT1⟩
  · skip
    have hT := J _ hT1
    have hT : TP D A [(h0, ob 7 [.ref h1, .ref h2, .int h0f2, .ref h3, .ref h4, .ref h5, .int h0f6, .ref h6, .int h0f8, .null, .ref h7, .int h0f11, .ref h8, .ref h9, .ref h10, .ref h11, .ref h12]), (h1, ob 4 [.int h1f0, .int h1f1, .int h1f2, .ref h13]), (h7, aI (k 0) 8 (rgI 0 0)), (h8, ob 2 [.ref h1, .int h8f1]), (h11, aJ (k 1) 9 anJ), (h13, aJ (k 1) 36 anJ)] _ := hT
    exfalso; omega
  · skip
    have hT := J _ hT1
    have hT : TP D A [(h0, ob 7 [.ref h1, .ref h2, .int h0f2, .ref h3, .ref h4, .ref h5, .int h0f6, .ref h6, .int h0f8, .null, .ref h7, .int h0f11, .ref h8, .ref h9, .ref h10, .ref h11, .ref h12]), (h1, ob 4 [.int h1f0, .int h1f1, .int h1f2, .ref h13]), (h7, aI (k 0) 8 (rgI 0 0)), (h8, ob 2 [.ref h1, .int h8f1]), (h11, aJ (k 1) 9 anJ), (h13, aJ (k 1) 36 anJ)] _ := hT
    exfalso; omega
  · skip
    have hT := J _ hT1
    have hT : TP D A [(h0, ob 7 [.ref h1, .ref h2, .int h0f2, .ref h3, .ref h4, .ref h5, .int h0f6, .ref h6, .int h0f8, .null, .ref h7, .int h0f11, .ref h8, .ref h9, .ref h10, .ref h11, .ref h12]), (h1, ob 4 [.int h1f0, .int h1f1, .int h1f2, .ref h13]), (h7, aI (k 0) 8 (rgI 0 0)), (h8, ob 2 [.ref h1, .int h8f1]), (h11, aJ (k 1) 9 anJ), (h13, aJ (k 1) 36 anJ)] _ := hT
    exfalso; omega
  · skip
    have hT := J _ hT1
    have hT : TP D A [(h0, ob 7 [.ref h1, .ref h2, .int h0f2, .ref h3, .ref h4, .ref h5, .int h0f6, .ref h6, .int h0f8, .null, .ref h7, .int h0f11, .ref h8, .ref h9, .ref h10, .ref h11, .ref h12]), (h1, ob 4 [.int h1f0, .int h1f1, .int h1f2, .ref h13]), (h7, aI (k 0) 8 (rgI 0 0)), (h8, ob 2 [.ref h1, .int h8f1]), (h11, aJ (k 1) 9 anJ), (h13, aJ (k 1) 36 anJ)] _ := hT
    exfalso; omega
  · skip
    have hT := J _ hT1
    have hT : TP D A [(h0, ob 7 [.ref h1, .ref h2, .int h0f2, .ref h3, .ref h4, .ref h5, .int h0f6, .ref h6, .int h0f8, .null, .ref h7, .int h0f11, .ref h8, .ref h9, .ref h10, .ref h11, .ref h12]), (h1, ob 4 [.int h1f0, .int h1f1, .int h1f2, .ref h13]), (h7, aI (k 0) 8 (rgI 0 0)), (h8, ob 2 [.ref h1, .int h8f1]), (h11, aJ (k 1) 9 anJ), (h13, aJ (k 1) 36 anJ)] _ := hT
    refine lv_if_ne (tgt := 9) hx hb dX10_image_4 (by decide) (fun _ => ?_) (fun cc => absurd cc (by decide +kernel))
    refine lv_aload_n hx hb dX10_image_9 rfl (lv_at hl 0 rfl) ?_
    refine tz_get (ci := 7) (v := .ref h7) (C := RX10) (F := TX10) (N := 17) hx hb hU iX10 hown hK hT 0 rfl rfl 10 (by decide) w259 (fun _ h9 => h9) rfl dX10_image_10 ?_
    refine lv_iload_n hx hb dX10_image_13 rfl (lv_at hl 1 rfl) ?_
    refine tz_iald hx hb hK hT 2 rfl (by omega) dX10_image_14 (fun v16 e_v16 => ?_)
    have e_v16 := rg_get e_v16
    refine lv_if_ne (tgt := 29) hx hb dX10_image_15 (by decide) (fun c_17 => ?_) (fun c_17 => ?_)
    · skip
      have c_17 := ni_ne c_17 rfl li_0
      exfalso; omega
    · skip
      have c_17 := ni_eq c_17 rfl li_0
      refine lv_aload_n hx hb dX10_image_18 rfl (lv_at hl 0 rfl) ?_
      refine tz_get (ci := 7) (v := .ref h7) (C := RX10) (F := TX10) (N := 17) hx hb hU iX10 hown hK hT 0 rfl rfl 10 (by decide) w259 (fun _ h9 => h9) rfl dX10_image_19 ?_
      refine lv_iload_n hx hb dX10_image_22 rfl (lv_at hl 1 rfl) ?_
      refine lv_aload_n hx hb dX10_image_23 rfl (lv_at hl 0 rfl) ?_
      refine lv_iload_n hx hb dX10_image_24 rfl (lv_at hl 1 rfl) ?_
      refine tcI (Tc := [(h0, ob 7 [.ref h1, .ref h2, .int h0f2, .ref h3, .ref h4, .ref h5, .int h0f6, .ref h6, .int h0f8, .null, .ref h7, .int h0f11, .ref h8, .ref h9, .ref h10, .ref h11, .ref h12]), (h1, ob 4 [.int h1f0, .int h1f1, .int h1f2, .ref h13]), (h8, ob 2 [.ref h1, .int h8f1]), (h11, aJ (k 1) 9 anJ), (h13, aJ (k 1) 36 anJ)]) (Tr := [(h7, aI (k 0) 8 (rgI 0 0))]) (as := [h0, h1, h8, h11, h13]) (zcV (q0 := 0) (ci := 7) (As := [.int x1]) (rest := [.int x1, .ref h7]) (Tc := [(h0, ob 7 [.ref h1, .ref h2, .int h0f2, .ref h3, .ref h4, .ref h5, .int h0f6, .ref h6, .int h0f8, .null, .ref h7, .int h0f11, .ref h8, .ref h9, .ref h10, .ref h11, .ref h12]), (h1, ob 4 [.int h1f0, .int h1f1, .int h1f2, .ref h13]), (h8, ob 2 [.ref h1, .int h8f1]), (h11, aJ (k 1) 9 anJ), (h13, aJ (k 1) 36 anJ)]) hx hb hml hown hU hK hT rfl rfl [0, 1, 3, 4, 5] rfl (by decide) (cX10_countImage_a81f2 l D k _ h0 h1 h8 h11 h13 h2 h3 h4 h5 h6 h7 h9 h10 h12 x1 h0f2 h0f6 h0f8 h0f11 h1f0 h1f1 h1f2 h8f1 (by omega) (by omega) (by omega) (by omega) (by omega) (by omega) (by omega) (by omega)) w668 w665 w667 w21 w63 hdX10_countImage ⟨rfl, rfl⟩ ⟨Nat.le_of_ble_eq_true rfl, Nat.le_of_ble_eq_true rfl⟩ rfl hl.1 (Nat.le_of_ble_eq_true rfl) dX10_image_25 ⟨Nat.le_of_ble_eq_true rfl, Nat.le_of_ble_eq_true rfl⟩) hT hS hA [0, 1, 3, 4, 5] [2] rfl rfl rfl (by decide) (by decide) (fun r18 H locs hB J hS => ?_)
      obtain ⟨q19, q20, q21, q22, q23, q24, q25, q26, q27, v28, v29, v30, b_v28, b_v29, b_v30, b_r18, hT1⟩ := hB
      have hT := J _ hT1
      have hT : TP D A [(h7, aI (k 0) 8 (rgI 0 0)), (h0, ob 7 [.ref h1, .ref h2, .int h0f2, .ref h3, .ref h4, .ref h5, .int h0f6, .ref h6, .int h0f8, .ref q19, .ref h7, .int h0f11, .ref h8, .ref h9, .ref h10, .ref h11, .ref h12]), (h1, ob 4 [.int h1f0, .int h1f1, .int h1f2, .ref h13]), (h8, ob 2 [.ref h1, .int x1]), (h11, aJ (k 1) 9 anJ), (h13, aJ (k 1) 36 anJ), (q19, ob 3 [.ref q20, .ref q21, .ref q22, .ref q23, .ref q24, .ref q25, .ref q26, .ref q27, .int v28, .int 400, .int v29, .int v30]), (q20, aJ (k 1) 12000 anJ), (q21, aI (k 0) 400 anI), (q22, aI (k 0) 400 anI), (q23, aI (k 0) 400 anI), (q24, aI (k 0) 1600 anI), (q25, aI (k 0) 1024 anI), (q26, aI (k 0) 400 anI), (q27, aJ (k 1) 60 anJ)] _ := hT
      have hT := hT.wk (q := 0) (P' := aI (k 0) 8 anI) rfl (an_I)
      have hT : TP D A [(h7, aI (k 0) 8 anI), (h0, ob 7 [.ref h1, .ref h2, .int h0f2, .ref h3, .ref h4, .ref h5, .int h0f6, .ref h6, .int h0f8, .ref q19, .ref h7, .int h0f11, .ref h8, .ref h9, .ref h10, .ref h11, .ref h12]), (h1, ob 4 [.int h1f0, .int h1f1, .int h1f2, .ref h13]), (h8, ob 2 [.ref h1, .int x1]), (h11, aJ (k 1) 9 anJ), (h13, aJ (k 1) 36 anJ), (q19, ob 3 [.ref q20, .ref q21, .ref q22, .ref q23, .ref q24, .ref q25, .ref q26, .ref q27, .int v28, .int 400, .int v29, .int v30]), (q20, aJ (k 1) 12000 anJ), (q21, aI (k 0) 400 anI), (q22, aI (k 0) 400 anI), (q23, aI (k 0) 400 anI), (q24, aI (k 0) 1600 anI), (q25, aI (k 0) 1024 anI), (q26, aI (k 0) 400 anI), (q27, aJ (k 1) 60 anJ)] _ := hT
      refine tz_iast hx hb hK hT hS 0 rfl (by omega) (fun _ _ => trivial) dX10_image_28 (fun H locs hT hS => ?_)
      refine lv_aload_n hx hb dX10_image_29 rfl (lv_at hl 0 rfl) ?_
      refine tz_get (ci := 7) (v := .ref h7) (C := RX10) (F := TX10) (N := 17) hx hb hU iX10 hown hK hT 1 rfl rfl 10 (by decide) w259 (fun _ h9 => h9) rfl dX10_image_30 ?_
      refine lv_iload_n hx hb dX10_image_33 rfl (lv_at hl 1 rfl) ?_
      refine tz_iald hx hb hK hT 0 rfl (by omega) dX10_image_34 (fun v31 e_v31 => ?_)
      clear e_v31
      exact tz_retI (B := B_cX10_imageL_9853c D k h0 h1 h7 h8 h11 h13 h2 h3 h4 h5 h6 h9 h10 h12 x1 h0f2 h0f6 h0f8 h0f11 h1f0 h1f1 h1f2 h8f1) (v := v31) hQ hx hb hr hlocks hS (Nat.le_of_ble_eq_true rfl) (Nat.le_of_ble_eq_true rfl) dX10_image_35 (⟨q19, q20, q21, q22, q23, q24, q25, q26, q27, v28, v29, v30, (by omega), (by omega), (by omega), (by omega), (hT.sub [1, 2, 0, 3, 4, 5, 6, 7, 8, 9, 10, 11, 12, 13, 14] (by decide) rfl)⟩)
abbrev Rm_cX10_imageL_924b5 : Room := { frames := 1, cells := 0, slots := 0, locals := 20 }
abbrev B_cX10_imageL_924b5 (D : va_G) (k : Nat → ClassId) (h0 h1 h2 h3 h4 h5 h6 h7 h8 h9 h10 h11 h12 : Nat) (x1 : Int32) (h0f2 : Int32) (h0f6 : Int32) (h0f8 : Int32) (h0f11 : Int32) (A : Nat → Prop) (r : Int32) (H : Heap) : Prop := (-1) = r ∧ TP D A [(h0, ob 7 [.ref h1, .ref h2, .int h0f2, .ref h3, .ref h4, .ref h5, .int h0f6, .ref h6, .int h0f8, .null, .ref h7, .int h0f11, .ref h8, .ref h9, .ref h10, .ref h11, .ref h12])] H
set_option maxHeartbeats 4000000 in
set_option maxRecDepth 100000 in
theorem cX10_imageL_924b5 (l : Launch) (D : va_G) (k : Nat → ClassId) (sz : Nat) (h0 h1 h2 h3 h4 h5 h6 h7 h8 h9 h10 h11 h12 : Nat) (x1 : Int32) (h0f2 : Int32) (h0f6 : Int32) (h0f8 : Int32) (h0f11 : Int32) (b_x1 : 8 ≤ x1.toInt) (b_h0f2 : 0 ≤ h0f2.toInt ∧ h0f2.toInt ≤ 1) (b_h0f6 : 0 ≤ h0f6.toInt ∧ h0f6.toInt ≤ 1) (b_h0f8 : 0 ≤ h0f8.toInt ∧ h0f8.toInt ≤ 1) (b_h0f11 : 0 ≤ h0f11.toInt ∧ h0f11.toInt ≤ 200) : Met l yX10_image (Cond.code yX10_image cX10_image 2 (some .int) :: uw) Rm_cX10_imageL_924b5 (pT D k sz [.ref h0, .int x1] [(h0, ob 7 [.ref h1, .ref h2, .int h0f2, .ref h3, .ref h4, .ref h5, .int h0f6, .ref h6, .int h0f8, .null, .ref h7, .int h0f11, .ref h8, .ref h9, .ref h10, .ref h11, .ref h12])]) (qI (B_cX10_imageL_924b5 D k h0 h1 h2 h3 h4 h5 h6 h7 h8 h9 h10 h11 h12 x1 h0f2 h0f6 h0f8 h0f11 (zA [h0] sz)) (zA [h0] sz)) 0 0 (zA [h0] sz) := by
  refine tz_begin (as := [h0]) (Qc := fun A => qI (B_cX10_imageL_924b5 D k h0 h1 h2 h3 h4 h5 h6 h7 h8 h9 h10 h11 h12 x1 h0f2 h0f6 h0f8 h0f11 A) A) (by decide +kernel) rfl (Nat.le_of_ble_eq_true rfl) ?_
  intro p e s m args below meth c ls A Q hx hb hr hml hown hlocks hin hU hK hT hS hA hl hQ
  have hl : lv_has ls 2 [(0, .ref h0), (1, .int x1)] := hl
  have hT : TP D A [(h0, ob 7 [.ref h1, .ref h2, .int h0f2, .ref h3, .ref h4, .ref h5, .int h0f6, .ref h6, .int h0f8, .null, .ref h7, .int h0f11, .ref h8, .ref h9, .ref h10, .ref h11, .ref h12])] s.heap := hT
  refine lv_iload_n hx hb dX10_image_0 rfl (lv_at hl 1 rfl) ?_
  refine tcI (Tc := []) (Tr := [(h0, ob 7 [.ref h1, .ref h2, .int h0f2, .ref h3, .ref h4, .ref h5, .int h0f6, .ref h6, .int h0f8, .null, .ref h7, .int h0f11, .ref h8, .ref h9, .ref h10, .ref h11, .ref h12])]) (as := []) (zcS (As := [.int x1]) (rest := []) (Tc := []) hx hb hml hown hU hK hT [] rfl (by decide) (cX10_isPrimeTaken_a0e73 l D k _ x1) w664 w662 w663 w63 hdX10_isPrimeTaken ⟨rfl, rfl⟩ ⟨Nat.le_of_ble_eq_true rfl, Nat.le_of_ble_eq_true rfl⟩ rfl hl.1 (Nat.le_of_ble_eq_true rfl) dX10_image_1 ⟨Nat.le_of_ble_eq_true rfl, Nat.le_of_ble_eq_true rfl⟩) hT hS hA [] [0] rfl rfl rfl (by decide) (by decide) (fun r1 H locs hB J hS => ?_)
  rcases hB with ⟨c_2, rfl, hT1⟩ | ⟨c_3, c_4, rfl, hT1⟩ | ⟨c_5, c_6, c_7, rfl, hT1⟩ | ⟨c_8, c_9, c_10, c_11, rfl, hT1⟩ | ⟨c_12, c_13, c_14, c_15, rfl, hT1⟩
  · skip
    have hT := J _ hT1
    have hT : TP D A [(h0, ob 7 [.ref h1, .ref h2, .int h0f2, .ref h3, .ref h4, .ref h5, .int h0f6, .ref h6, .int h0f8, .null, .ref h7, .int h0f11, .ref h8, .ref h9, .ref h10, .ref h11, .ref h12])] _ := hT
    exfalso; omega
  · skip
    have hT := J _ hT1
    have hT : TP D A [(h0, ob 7 [.ref h1, .ref h2, .int h0f2, .ref h3, .ref h4, .ref h5, .int h0f6, .ref h6, .int h0f8, .null, .ref h7, .int h0f11, .ref h8, .ref h9, .ref h10, .ref h11, .ref h12])] _ := hT
    exfalso; omega
  · skip
    have hT := J _ hT1
    have hT : TP D A [(h0, ob 7 [.ref h1, .ref h2, .int h0f2, .ref h3, .ref h4, .ref h5, .int h0f6, .ref h6, .int h0f8, .null, .ref h7, .int h0f11, .ref h8, .ref h9, .ref h10, .ref h11, .ref h12])] _ := hT
    exfalso; omega
  · skip
    have hT := J _ hT1
    have hT : TP D A [(h0, ob 7 [.ref h1, .ref h2, .int h0f2, .ref h3, .ref h4, .ref h5, .int h0f6, .ref h6, .int h0f8, .null, .ref h7, .int h0f11, .ref h8, .ref h9, .ref h10, .ref h11, .ref h12])] _ := hT
    refine lv_if_ne (tgt := 9) hx hb dX10_image_4 (by decide) (fun cc => absurd (by decide +kernel) cc) (fun _ => ?_)
    refine lv_iconst (v := (-1)) hx hb dX10_image_7 (by decide) ?_
    exact tz_retI (B := B_cX10_imageL_924b5 D k h0 h1 h2 h3 h4 h5 h6 h7 h8 h9 h10 h11 h12 x1 h0f2 h0f6 h0f8 h0f11) (v := (-1)) hQ hx hb hr hlocks hS (Nat.le_of_ble_eq_true rfl) (Nat.le_of_ble_eq_true rfl) dX10_image_8 (⟨rfl, hT⟩)
  · skip
    have hT := J _ hT1
    have hT : TP D A [(h0, ob 7 [.ref h1, .ref h2, .int h0f2, .ref h3, .ref h4, .ref h5, .int h0f6, .ref h6, .int h0f8, .null, .ref h7, .int h0f11, .ref h8, .ref h9, .ref h10, .ref h11, .ref h12])] _ := hT
    exfalso; omega
abbrev Rm_cX10_faithful_222cf : Room := { frames := 1, cells := 0, slots := 0, locals := 20 }
abbrev B_cX10_faithful_222cf (D : va_G) (k : Nat → ClassId) (h0 h1 h2 h3 h4 h5 h6 h7 h8 h9 h10 h11 h12 : Nat) (x1 : Int32) (h0f2 : Int32) (h0f6 : Int32) (h0f8 : Int32) (h0f11 : Int32) (A : Nat → Prop) (r : Int32) (H : Heap) : Prop := (-1) = r ∧ TP D A [(h0, ob 7 [.ref h1, .ref h2, .int h0f2, .ref h3, .ref h4, .ref h5, .int h0f6, .ref h6, .int h0f8, .null, .ref h7, .int h0f11, .ref h8, .ref h9, .ref h10, .ref h11, .ref h12])] H
set_option maxHeartbeats 4000000 in
set_option maxRecDepth 100000 in
theorem cX10_faithful_222cf (l : Launch) (D : va_G) (k : Nat → ClassId) (sz : Nat) (h0 h1 h2 h3 h4 h5 h6 h7 h8 h9 h10 h11 h12 : Nat) (x1 : Int32) (h0f2 : Int32) (h0f6 : Int32) (h0f8 : Int32) (h0f11 : Int32) (b_x1 : x1.toInt ≤ 1) (b_h0f2 : 0 ≤ h0f2.toInt ∧ h0f2.toInt ≤ 1) (b_h0f6 : 0 ≤ h0f6.toInt ∧ h0f6.toInt ≤ 1) (b_h0f8 : 0 ≤ h0f8.toInt ∧ h0f8.toInt ≤ 1) (b_h0f11 : 0 ≤ h0f11.toInt ∧ h0f11.toInt ≤ 200) : Met l yX10_faithful (Cond.code yX10_faithful cX10_faithful 2 (some .int) :: uw) Rm_cX10_faithful_222cf (pT D k sz [.ref h0, .int x1] [(h0, ob 7 [.ref h1, .ref h2, .int h0f2, .ref h3, .ref h4, .ref h5, .int h0f6, .ref h6, .int h0f8, .null, .ref h7, .int h0f11, .ref h8, .ref h9, .ref h10, .ref h11, .ref h12])]) (qI (B_cX10_faithful_222cf D k h0 h1 h2 h3 h4 h5 h6 h7 h8 h9 h10 h11 h12 x1 h0f2 h0f6 h0f8 h0f11 (zA [h0] sz)) (zA [h0] sz)) 0 0 (zA [h0] sz) := by
  refine tz_begin (as := [h0]) (Qc := fun A => qI (B_cX10_faithful_222cf D k h0 h1 h2 h3 h4 h5 h6 h7 h8 h9 h10 h11 h12 x1 h0f2 h0f6 h0f8 h0f11 A) A) (by decide +kernel) rfl (Nat.le_of_ble_eq_true rfl) ?_
  intro p e s m args below meth c ls A Q hx hb hr hml hown hlocks hin hU hK hT hS hA hl hQ
  have hl : lv_has ls 2 [(0, .ref h0), (1, .int x1)] := hl
  have hT : TP D A [(h0, ob 7 [.ref h1, .ref h2, .int h0f2, .ref h3, .ref h4, .ref h5, .int h0f6, .ref h6, .int h0f8, .null, .ref h7, .int h0f11, .ref h8, .ref h9, .ref h10, .ref h11, .ref h12])] s.heap := hT
  refine lv_iload_n hx hb dX10_faithful_0 rfl (lv_at hl 1 rfl) ?_
  refine tcI (Tc := []) (Tr := [(h0, ob 7 [.ref h1, .ref h2, .int h0f2, .ref h3, .ref h4, .ref h5, .int h0f6, .ref h6, .int h0f8, .null, .ref h7, .int h0f11, .ref h8, .ref h9, .ref h10, .ref h11, .ref h12])]) (as := []) (zcS (As := [.int x1]) (rest := []) (Tc := []) hx hb hml hown hU hK hT [] rfl (by decide) (cX10_isPrimeTaken_a0e73 l D k _ x1) w664 w662 w663 w63 hdX10_isPrimeTaken ⟨rfl, rfl⟩ ⟨Nat.le_of_ble_eq_true rfl, Nat.le_of_ble_eq_true rfl⟩ rfl hl.1 (Nat.le_of_ble_eq_true rfl) dX10_faithful_1 ⟨Nat.le_of_ble_eq_true rfl, Nat.le_of_ble_eq_true rfl⟩) hT hS hA [] [0] rfl rfl rfl (by decide) (by decide) (fun r1 H locs hB J hS => ?_)
  rcases hB with ⟨c_2, rfl, hT1⟩ | ⟨c_3, c_4, rfl, hT1⟩ | ⟨c_5, c_6, c_7, rfl, hT1⟩ | ⟨c_8, c_9, c_10, c_11, rfl, hT1⟩ | ⟨c_12, c_13, c_14, c_15, rfl, hT1⟩
  · skip
    have hT := J _ hT1
    have hT : TP D A [(h0, ob 7 [.ref h1, .ref h2, .int h0f2, .ref h3, .ref h4, .ref h5, .int h0f6, .ref h6, .int h0f8, .null, .ref h7, .int h0f11, .ref h8, .ref h9, .ref h10, .ref h11, .ref h12])] _ := hT
    exfalso; omega
  · skip
    have hT := J _ hT1
    have hT : TP D A [(h0, ob 7 [.ref h1, .ref h2, .int h0f2, .ref h3, .ref h4, .ref h5, .int h0f6, .ref h6, .int h0f8, .null, .ref h7, .int h0f11, .ref h8, .ref h9, .ref h10, .ref h11, .ref h12])] _ := hT
    exfalso; omega
  · skip
    have hT := J _ hT1
    have hT : TP D A [(h0, ob 7 [.ref h1, .ref h2, .int h0f2, .ref h3, .ref h4, .ref h5, .int h0f6, .ref h6, .int h0f8, .null, .ref h7, .int h0f11, .ref h8, .ref h9, .ref h10, .ref h11, .ref h12])] _ := hT
    exfalso; omega
  · skip
    have hT := J _ hT1
    have hT : TP D A [(h0, ob 7 [.ref h1, .ref h2, .int h0f2, .ref h3, .ref h4, .ref h5, .int h0f6, .ref h6, .int h0f8, .null, .ref h7, .int h0f11, .ref h8, .ref h9, .ref h10, .ref h11, .ref h12])] _ := hT
    refine lv_if_ne (tgt := 9) hx hb dX10_faithful_4 (by decide) (fun cc => absurd (by decide +kernel) cc) (fun _ => ?_)
    refine lv_iconst (v := (-1)) hx hb dX10_faithful_7 (by decide) ?_
    exact tz_retI (B := B_cX10_faithful_222cf D k h0 h1 h2 h3 h4 h5 h6 h7 h8 h9 h10 h11 h12 x1 h0f2 h0f6 h0f8 h0f11) (v := (-1)) hQ hx hb hr hlocks hS (Nat.le_of_ble_eq_true rfl) (Nat.le_of_ble_eq_true rfl) dX10_faithful_8 (⟨rfl, hT⟩)
  · skip
    have hT := J _ hT1
    have hT : TP D A [(h0, ob 7 [.ref h1, .ref h2, .int h0f2, .ref h3, .ref h4, .ref h5, .int h0f6, .ref h6, .int h0f8, .null, .ref h7, .int h0f11, .ref h8, .ref h9, .ref h10, .ref h11, .ref h12])] _ := hT
    exfalso; omega
abbrev Rm_cX10_faithful_31597 : Room := { frames := 6, cells := 9, slots := 16296, locals := 149 }
abbrev B_cX10_faithful_31597 (D : va_G) (k : Nat → ClassId) (h0 h1 h5 h8 h11 h13 h21 h22 h23 h24 h25 h26 h27 h28 h2 h3 h4 h6 h7 h9 h10 h12 : Nat) (x1 : Int32) (h0f2 : Int32) (h0f6 : Int32) (h0f8 : Int32) (h0f11 : Int32) (h1f0 : Int32) (h1f1 : Int32) (h1f2 : Int32) (h5f8 : Int32) (h5f9 : Int32) (h5f10 : Int32) (h5f11 : Int32) (h8f1 : Int32) (A : Nat → Prop) (r : Int32) (H : Heap) : Prop := ∃ n0 : Nat, ∃ n1 : Nat, ∃ n2 : Nat, ∃ n3 : Nat, ∃ n4 : Nat, ∃ n5 : Nat, ∃ n6 : Nat, ∃ n7 : Nat, ∃ n8 : Nat, ∃ o0 : Int32, ∃ o1 : Int32, ∃ o2 : Int32, ∃ o3 : Int32, ∃ o4 : Int32, ∃ o5 : Int32, ∃ o6 : Int32, ∃ o7 : Int32, (1 ≤ o0.toInt ∧ o0.toInt ≤ 1) ∧ (0 ≤ o1.toInt ∧ o1.toInt ≤ 9) ∧ (0 ≤ o2.toInt ∧ o2.toInt ≤ 100) ∧ (0 ≤ o3.toInt ∧ o3.toInt ≤ 100) ∧ (0 ≤ o4.toInt ∧ o4.toInt ≤ 1) ∧ (0 ≤ o5.toInt ∧ o5.toInt ≤ 7) ∧ (1 ≤ o6.toInt ∧ o6.toInt ≤ 9) ∧ (0 ≤ o7.toInt ∧ o7.toInt ≤ 400) ∧ (0 ≤ r.toInt ∧ r.toInt ≤ 1) ∧ TP D A [(h0, ob 7 [.ref h1, .ref h2, .int h0f2, .ref h3, .ref h4, .ref h5, .int o0, .ref h6, .int h0f8, .ref n0, .ref h7, .int h0f11, .ref h8, .ref h9, .ref h10, .ref h11, .ref h12]), (h1, ob 4 [.int h1f0, .int h1f1, .int h1f2, .ref h13]), (h5, ob 3 [.ref h21, .ref h22, .ref h23, .ref h24, .ref h25, .ref h26, .ref h27, .ref h28, .int o1, .int o2, .int o3, .int o4]), (h8, ob 2 [.ref h1, .int o5]), (h11, aJ (k 1) 9 anJ), (h13, aJ (k 1) 36 anJ), (h21, aJ (k 1) 900 anJ), (h22, aI (k 0) 100 anI), (h23, aI (k 0) 100 anI), (h24, aI (k 0) 100 anI), (h25, aI (k 0) 400 anI), (h26, aI (k 0) 256 (rgI (-1) 99)), (h27, aI (k 0) 100 (rgI (-1) 99)), (h28, aJ (k 1) 60 anJ), (n0, ob 3 [.ref n1, .ref n2, .ref n3, .ref n4, .ref n5, .ref n6, .ref n7, .ref n8, .int o6, .int 400, .int o7, .int 0]), (n1, aJ (k 1) 12000 anJ), (n2, aI (k 0) 400 anI), (n3, aI (k 0) 400 anI), (n4, aI (k 0) 400 anI), (n5, aI (k 0) 1600 anI), (n6, aI (k 0) 1024 anI), (n7, aI (k 0) 400 anI), (n8, aJ (k 1) 60 anJ)] H
set_option maxHeartbeats 4000000 in
set_option maxRecDepth 100000 in
theorem cX10_faithful_31597 (l : Launch) (D : va_G) (k : Nat → ClassId) (sz : Nat) (h0 h1 h5 h8 h11 h13 h21 h22 h23 h24 h25 h26 h27 h28 h2 h3 h4 h6 h7 h9 h10 h12 : Nat) (x1 : Int32) (h0f2 : Int32) (h0f6 : Int32) (h0f8 : Int32) (h0f11 : Int32) (h1f0 : Int32) (h1f1 : Int32) (h1f2 : Int32) (h5f8 : Int32) (h5f9 : Int32) (h5f10 : Int32) (h5f11 : Int32) (h8f1 : Int32) (b_x1 : 2 ≤ x1.toInt ∧ x1.toInt ≤ 2) (b_h0f2 : 0 ≤ h0f2.toInt ∧ h0f2.toInt ≤ 1) (b_h0f6 : 0 ≤ h0f6.toInt ∧ h0f6.toInt ≤ 1) (b_h0f8 : 0 ≤ h0f8.toInt ∧ h0f8.toInt ≤ 1) (b_h0f11 : 0 ≤ h0f11.toInt ∧ h0f11.toInt ≤ 200) (b_h1f0 : 1 ≤ h1f0.toInt ∧ h1f0.toInt ≤ 3) (b_h1f1 : 0 ≤ h1f1.toInt ∧ h1f1.toInt ≤ 4) (b_h5f8 : 0 ≤ h5f8.toInt ∧ h5f8.toInt ≤ 9) (b_h5f9 : 0 ≤ h5f9.toInt ∧ h5f9.toInt ≤ 100) (b_h5f10 : 0 ≤ h5f10.toInt ∧ h5f10.toInt ≤ 100) (b_h5f11 : 0 ≤ h5f11.toInt ∧ h5f11.toInt ≤ 1) (b_h8f1 : 0 ≤ h8f1.toInt ∧ h8f1.toInt ≤ 7) : Met l yX10_faithful (Cond.code yX10_faithful cX10_faithful 2 (some .int) :: uw) Rm_cX10_faithful_31597 (pT D k sz [.ref h0, .int x1] [(h0, ob 7 [.ref h1, .ref h2, .int h0f2, .ref h3, .ref h4, .ref h5, .int h0f6, .ref h6, .int h0f8, .null, .ref h7, .int h0f11, .ref h8, .ref h9, .ref h10, .ref h11, .ref h12]), (h1, ob 4 [.int h1f0, .int h1f1, .int h1f2, .ref h13]), (h5, ob 3 [.ref h21, .ref h22, .ref h23, .ref h24, .ref h25, .ref h26, .ref h27, .ref h28, .int h5f8, .int h5f9, .int h5f10, .int h5f11]), (h8, ob 2 [.ref h1, .int h8f1]), (h11, aJ (k 1) 9 anJ), (h13, aJ (k 1) 36 anJ), (h21, aJ (k 1) 900 anJ), (h22, aI (k 0) 100 anI), (h23, aI (k 0) 100 anI), (h24, aI (k 0) 100 anI), (h25, aI (k 0) 400 anI), (h26, aI (k 0) 256 (rgI (-1) 99)), (h27, aI (k 0) 100 (rgI (-1) 99)), (h28, aJ (k 1) 60 anJ)]) (qI (B_cX10_faithful_31597 D k h0 h1 h5 h8 h11 h13 h21 h22 h23 h24 h25 h26 h27 h28 h2 h3 h4 h6 h7 h9 h10 h12 x1 h0f2 h0f6 h0f8 h0f11 h1f0 h1f1 h1f2 h5f8 h5f9 h5f10 h5f11 h8f1 (zA [h0, h1, h5, h8, h11, h13, h21, h22, h23, h24, h25, h26, h27, h28] sz)) (zA [h0, h1, h5, h8, h11, h13, h21, h22, h23, h24, h25, h26, h27, h28] sz)) 9 16296 (zA [h0, h1, h5, h8, h11, h13, h21, h22, h23, h24, h25, h26, h27, h28] sz) := by
  refine tz_begin (as := [h0, h1, h5, h8, h11, h13, h21, h22, h23, h24, h25, h26, h27, h28]) (Qc := fun A => qI (B_cX10_faithful_31597 D k h0 h1 h5 h8 h11 h13 h21 h22 h23 h24 h25 h26 h27 h28 h2 h3 h4 h6 h7 h9 h10 h12 x1 h0f2 h0f6 h0f8 h0f11 h1f0 h1f1 h1f2 h5f8 h5f9 h5f10 h5f11 h8f1 A) A) (by decide +kernel) rfl (Nat.le_of_ble_eq_true rfl) ?_
  intro p e s m args below meth c ls A Q hx hb hr hml hown hlocks hin hU hK hT hS hA hl hQ
  have hl : lv_has ls 2 [(0, .ref h0), (1, .int x1)] := hl
  have hT : TP D A [(h0, ob 7 [.ref h1, .ref h2, .int h0f2, .ref h3, .ref h4, .ref h5, .int h0f6, .ref h6, .int h0f8, .null, .ref h7, .int h0f11, .ref h8, .ref h9, .ref h10, .ref h11, .ref h12]), (h1, ob 4 [.int h1f0, .int h1f1, .int h1f2, .ref h13]), (h5, ob 3 [.ref h21, .ref h22, .ref h23, .ref h24, .ref h25, .ref h26, .ref h27, .ref h28, .int h5f8, .int h5f9, .int h5f10, .int h5f11]), (h8, ob 2 [.ref h1, .int h8f1]), (h11, aJ (k 1) 9 anJ), (h13, aJ (k 1) 36 anJ), (h21, aJ (k 1) 900 anJ), (h22, aI (k 0) 100 anI), (h23, aI (k 0) 100 anI), (h24, aI (k 0) 100 anI), (h25, aI (k 0) 400 anI), (h26, aI (k 0) 256 (rgI (-1) 99)), (h27, aI (k 0) 100 (rgI (-1) 99)), (h28, aJ (k 1) 60 anJ)] s.heap := hT
  refine lv_iload_n hx hb dX10_faithful_0 rfl (lv_at hl 1 rfl) ?_
  refine tcI (Tc := []) (Tr := [(h0, ob 7 [.ref h1, .ref h2, .int h0f2, .ref h3, .ref h4, .ref h5, .int h0f6, .ref h6, .int h0f8, .null, .ref h7, .int h0f11, .ref h8, .ref h9, .ref h10, .ref h11, .ref h12]), (h1, ob 4 [.int h1f0, .int h1f1, .int h1f2, .ref h13]), (h5, ob 3 [.ref h21, .ref h22, .ref h23, .ref h24, .ref h25, .ref h26, .ref h27, .ref h28, .int h5f8, .int h5f9, .int h5f10, .int h5f11]), (h8, ob 2 [.ref h1, .int h8f1]), (h11, aJ (k 1) 9 anJ), (h13, aJ (k 1) 36 anJ), (h21, aJ (k 1) 900 anJ), (h22, aI (k 0) 100 anI), (h23, aI (k 0) 100 anI), (h24, aI (k 0) 100 anI), (h25, aI (k 0) 400 anI), (h26, aI (k 0) 256 (rgI (-1) 99)), (h27, aI (k 0) 100 (rgI (-1) 99)), (h28, aJ (k 1) 60 anJ)]) (as := []) (zcS (As := [.int x1]) (rest := []) (Tc := []) hx hb hml hown hU hK hT [] rfl (by decide) (cX10_isPrimeTaken_a0e73 l D k _ x1) w664 w662 w663 w63 hdX10_isPrimeTaken ⟨rfl, rfl⟩ ⟨Nat.le_of_ble_eq_true rfl, Nat.le_of_ble_eq_true rfl⟩ rfl hl.1 (Nat.le_of_ble_eq_true rfl) dX10_faithful_1 ⟨Nat.le_of_ble_eq_true rfl, Nat.le_of_ble_eq_true rfl⟩) hT hS hA [] [0, 1, 2, 3, 4, 5, 6, 7, 8, 9, 10, 11, 12, 13] rfl rfl rfl (by decide) (by decide) (fun r1 H locs hB J hS => ?_)
  rcases hB with ⟨c_2, rfl, hT1⟩ | ⟨c_3, c_4, rfl, hT1⟩ | ⟨c_5, c_6, c_7, rfl, hT1⟩ | ⟨c_8, c_9, c_10, c_11, rfl, hT1⟩ | ⟨c_12, c_13, c_14, c_15, rfl, hT1⟩
  · skip
    have hT := J _ hT1
    have hT : TP D A [(h0, ob 7 [.ref h1, .ref h2, .int h0f2, .ref h3, .ref h4, .ref h5, .int h0f6, .ref h6, .int h0f8, .null, .ref h7, .int h0f11, .ref h8, .ref h9, .ref h10, .ref h11, .ref h12]), (h1, ob 4 [.int h1f0, .int h1f1, .int h1f2, .ref h13]), (h5, ob 3 [.ref h21, .ref h22, .ref h23, .ref h24, .ref h25, .ref h26, .ref h27, .ref h28, .int h5f8, .int h5f9, .int h5f10, .int h5f11]), (h8, ob 2 [.ref h1, .int h8f1]), (h11, aJ (k 1) 9 anJ), (h13, aJ (k 1) 36 anJ), (h21, aJ (k 1) 900 anJ), (h22, aI (k 0) 100 anI), (h23, aI (k 0) 100 anI), (h24, aI (k 0) 100 anI), (h25, aI (k 0) 400 anI), (h26, aI (k 0) 256 (rgI (-1) 99)), (h27, aI (k 0) 100 (rgI (-1) 99)), (h28, aJ (k 1) 60 anJ)] _ := hT
    refine lv_if_ne (tgt := 9) hx hb dX10_faithful_4 (by decide) (fun _ => ?_) (fun cc => absurd cc (by decide +kernel))
    refine lv_aload_n hx hb dX10_faithful_9 rfl (lv_at hl 0 rfl) ?_
    refine tcV (Tc := [(h0, ob 7 [.ref h1, .ref h2, .int h0f2, .ref h3, .ref h4, .ref h5, .int h0f6, .ref h6, .int h0f8, .null, .ref h7, .int h0f11, .ref h8, .ref h9, .ref h10, .ref h11, .ref h12]), (h1, ob 4 [.int h1f0, .int h1f1, .int h1f2, .ref h13]), (h5, ob 3 [.ref h21, .ref h22, .ref h23, .ref h24, .ref h25, .ref h26, .ref h27, .ref h28, .int h5f8, .int h5f9, .int h5f10, .int h5f11]), (h8, ob 2 [.ref h1, .int h8f1]), (h11, aJ (k 1) 9 anJ), (h13, aJ (k 1) 36 anJ), (h21, aJ (k 1) 900 anJ), (h22, aI (k 0) 100 anI), (h23, aI (k 0) 100 anI), (h24, aI (k 0) 100 anI), (h25, aI (k 0) 400 anI), (h26, aI (k 0) 256 (rgI (-1) 99)), (h27, aI (k 0) 100 (rgI (-1) 99)), (h28, aJ (k 1) 60 anJ)]) (Tr := []) (as := [h0, h1, h5, h8, h11, h13, h21, h22, h23, h24, h25, h26, h27, h28]) (zcV (q0 := 0) (ci := 7) (As := []) (rest := []) (Tc := [(h0, ob 7 [.ref h1, .ref h2, .int h0f2, .ref h3, .ref h4, .ref h5, .int h0f6, .ref h6, .int h0f8, .null, .ref h7, .int h0f11, .ref h8, .ref h9, .ref h10, .ref h11, .ref h12]), (h1, ob 4 [.int h1f0, .int h1f1, .int h1f2, .ref h13]), (h5, ob 3 [.ref h21, .ref h22, .ref h23, .ref h24, .ref h25, .ref h26, .ref h27, .ref h28, .int h5f8, .int h5f9, .int h5f10, .int h5f11]), (h8, ob 2 [.ref h1, .int h8f1]), (h11, aJ (k 1) 9 anJ), (h13, aJ (k 1) 36 anJ), (h21, aJ (k 1) 900 anJ), (h22, aI (k 0) 100 anI), (h23, aI (k 0) 100 anI), (h24, aI (k 0) 100 anI), (h25, aI (k 0) 400 anI), (h26, aI (k 0) 256 (rgI (-1) 99)), (h27, aI (k 0) 100 (rgI (-1) 99)), (h28, aJ (k 1) 60 anJ)]) hx hb hml hown hU hK hT rfl rfl [0, 1, 2, 3, 4, 5, 6, 7, 8, 9, 10, 11, 12, 13] rfl (by decide) (cX10_listAll_fe300 l D k _ h0 h1 h5 h8 h11 h13 h21 h22 h23 h24 h25 h26 h27 h28 h2 h3 h4 h6 h7 h9 h10 h12 h0f2 h0f6 h0f8 h0f11 h1f0 h1f1 h1f2 h5f8 h5f9 h5f10 h5f11 h8f1 (by omega) (by omega) (by omega) (by omega) (by omega) (by omega) (by omega) (by omega) (by omega) (by omega) (by omega)) w492 w489 w491 w10 w63 hdX10_listAll ⟨rfl, rfl⟩ ⟨Nat.le_of_ble_eq_true rfl, Nat.le_of_ble_eq_true rfl⟩ rfl hl.1 (Nat.le_of_ble_eq_true rfl) dX10_faithful_10 ⟨Nat.le_of_ble_eq_true rfl, Nat.le_of_ble_eq_true rfl⟩) hT hS hA [0, 1, 2, 3, 4, 5, 6, 7, 8, 9, 10, 11, 12, 13] [] rfl rfl rfl (by decide) (by decide) (fun H locs hB J hS => ?_)
    obtain ⟨v17, v18, v19, v20, v21, v22, b_v17, b_v18, b_v19, b_v20, b_v21, b_v22, hT1⟩ := hB
    have hT := J _ hT1
    have hT : TP D A [(h0, ob 7 [.ref h1, .ref h2, .int h0f2, .ref h3, .ref h4, .ref h5, .int v17, .ref h6, .int h0f8, .null, .ref h7, .int h0f11, .ref h8, .ref h9, .ref h10, .ref h11, .ref h12]), (h1, ob 4 [.int h1f0, .int h1f1, .int h1f2, .ref h13]), (h5, ob 3 [.ref h21, .ref h22, .ref h23, .ref h24, .ref h25, .ref h26, .ref h27, .ref h28, .int v18, .int v19, .int v20, .int v21]), (h8, ob 2 [.ref h1, .int v22]), (h11, aJ (k 1) 9 anJ), (h13, aJ (k 1) 36 anJ), (h21, aJ (k 1) 900 anJ), (h22, aI (k 0) 100 anI), (h23, aI (k 0) 100 anI), (h24, aI (k 0) 100 anI), (h25, aI (k 0) 400 anI), (h26, aI (k 0) 256 (rgI (-1) 99)), (h27, aI (k 0) 100 (rgI (-1) 99)), (h28, aJ (k 1) 60 anJ)] _ := hT
    refine lv_aload_n hx hb dX10_faithful_13 rfl (lv_at hl 0 rfl) ?_
    refine lv_iload_n hx hb dX10_faithful_14 rfl (lv_at hl 1 rfl) ?_
    refine tcI (Tc := [(h0, ob 7 [.ref h1, .ref h2, .int h0f2, .ref h3, .ref h4, .ref h5, .int v17, .ref h6, .int h0f8, .null, .ref h7, .int h0f11, .ref h8, .ref h9, .ref h10, .ref h11, .ref h12]), (h1, ob 4 [.int h1f0, .int h1f1, .int h1f2, .ref h13]), (h5, ob 3 [.ref h21, .ref h22, .ref h23, .ref h24, .ref h25, .ref h26, .ref h27, .ref h28, .int v18, .int v19, .int v20, .int v21]), (h11, aJ (k 1) 9 anJ), (h21, aJ (k 1) 900 anJ)]) (Tr := [(h8, ob 2 [.ref h1, .int v22]), (h13, aJ (k 1) 36 anJ), (h22, aI (k 0) 100 anI), (h23, aI (k 0) 100 anI), (h24, aI (k 0) 100 anI), (h25, aI (k 0) 400 anI), (h26, aI (k 0) 256 (rgI (-1) 99)), (h27, aI (k 0) 100 (rgI (-1) 99)), (h28, aJ (k 1) 60 anJ)]) (as := [h0, h1, h5, h11, h21]) (zcV (q0 := 0) (ci := 7) (As := [.int x1]) (rest := []) (Tc := [(h0, ob 7 [.ref h1, .ref h2, .int h0f2, .ref h3, .ref h4, .ref h5, .int v17, .ref h6, .int h0f8, .null, .ref h7, .int h0f11, .ref h8, .ref h9, .ref h10, .ref h11, .ref h12]), (h1, ob 4 [.int h1f0, .int h1f1, .int h1f2, .ref h13]), (h5, ob 3 [.ref h21, .ref h22, .ref h23, .ref h24, .ref h25, .ref h26, .ref h27, .ref h28, .int v18, .int v19, .int v20, .int v21]), (h11, aJ (k 1) 9 anJ), (h21, aJ (k 1) 900 anJ)]) hx hb hml hown hU hK hT rfl rfl [0, 1, 2, 4, 6] rfl (by decide) (cX10_areApartBy_0198b l D k _ h0 h1 h5 h11 h21 h2 h3 h4 h6 h7 h8 h9 h10 h12 h13 h22 h23 h24 h25 h26 h27 h28 x1 h0f2 v17 h0f8 h0f11 h1f0 h1f1 h1f2 v18 v19 v20 v21 (by omega) (by omega) (by omega) (by omega) (by omega) (by omega) (by omega) (by omega) (by omega) (by omega) (by omega)) w680 w677 w679 w23 w63 hdX10_areApartBy ⟨rfl, rfl⟩ ⟨Nat.le_of_ble_eq_true rfl, Nat.le_of_ble_eq_true rfl⟩ rfl hl.1 (Nat.le_of_ble_eq_true rfl) dX10_faithful_15 ⟨Nat.le_of_ble_eq_true rfl, Nat.le_of_ble_eq_true rfl⟩) hT hS hA [0, 1, 2, 4, 6] [3, 5, 7, 8, 9, 10, 11, 12, 13] rfl rfl rfl (by decide) (by decide) (fun r23 H locs hB J hS => ?_)
    obtain ⟨q24, q25, q26, q27, q28, q29, q30, q31, q32, v33, v34, b_v33, b_v34, b_r23, hT1⟩ := hB
    have hT := J _ hT1
    have hT : TP D A [(h8, ob 2 [.ref h1, .int v22]), (h13, aJ (k 1) 36 anJ), (h22, aI (k 0) 100 anI), (h23, aI (k 0) 100 anI), (h24, aI (k 0) 100 anI), (h25, aI (k 0) 400 anI), (h26, aI (k 0) 256 (rgI (-1) 99)), (h27, aI (k 0) 100 (rgI (-1) 99)), (h28, aJ (k 1) 60 anJ), (h0, ob 7 [.ref h1, .ref h2, .int h0f2, .ref h3, .ref h4, .ref h5, .int v17, .ref h6, .int h0f8, .ref q24, .ref h7, .int h0f11, .ref h8, .ref h9, .ref h10, .ref h11, .ref h12]), (h1, ob 4 [.int h1f0, .int h1f1, .int h1f2, .ref h13]), (h5, ob 3 [.ref h21, .ref h22, .ref h23, .ref h24, .ref h25, .ref h26, .ref h27, .ref h28, .int v18, .int v19, .int v20, .int v21]), (h11, aJ (k 1) 9 anJ), (h21, aJ (k 1) 900 anJ), (q24, ob 3 [.ref q25, .ref q26, .ref q27, .ref q28, .ref q29, .ref q30, .ref q31, .ref q32, .int v33, .int 400, .int v34, .int 0]), (q25, aJ (k 1) 12000 anJ), (q26, aI (k 0) 400 anI), (q27, aI (k 0) 400 anI), (q28, aI (k 0) 400 anI), (q29, aI (k 0) 1600 anI), (q30, aI (k 0) 1024 anI), (q31, aI (k 0) 400 anI), (q32, aJ (k 1) 60 anJ)] _ := hT
    refine lv_if_eq (tgt := 25) hx hb dX10_faithful_18 (by decide) (fun c_35 => ?_) (fun c_35 => ?_)
    · skip
      have c_35 := ni_eq c_35 rfl li_0
      refine lv_iconst (v := 0) hx hb dX10_faithful_25 (by decide) ?_
      exact tz_retI (B := B_cX10_faithful_31597 D k h0 h1 h5 h8 h11 h13 h21 h22 h23 h24 h25 h26 h27 h28 h2 h3 h4 h6 h7 h9 h10 h12 x1 h0f2 h0f6 h0f8 h0f11 h1f0 h1f1 h1f2 h5f8 h5f9 h5f10 h5f11 h8f1) (v := 0) hQ hx hb hr hlocks hS (Nat.le_of_ble_eq_true rfl) (Nat.le_of_ble_eq_true rfl) dX10_faithful_26 (⟨q24, q25, q26, q27, q28, q29, q30, q31, q32, v17, v18, v19, v20, v21, v22, v33, v34, (by have := li_0; omega), (by have := li_0; omega), (by have := li_0; omega), (by have := li_0; omega), (by have := li_0; omega), (by have := li_0; omega), (by have := li_0; omega), (by have := li_0; omega), (by have := li_0; omega), (hT.sub [9, 10, 11, 0, 12, 1, 13, 2, 3, 4, 5, 6, 7, 8, 14, 15, 16, 17, 18, 19, 20, 21, 22] (by decide) rfl)⟩)
    · skip
      have c_35 := ni_ne c_35 rfl li_0
      refine lv_iconst (v := 1) hx hb dX10_faithful_21 (by decide) ?_
      refine lv_goto (tgt := 26) hx hb dX10_faithful_22 (by decide) ?_
      exact tz_retI (B := B_cX10_faithful_31597 D k h0 h1 h5 h8 h11 h13 h21 h22 h23 h24 h25 h26 h27 h28 h2 h3 h4 h6 h7 h9 h10 h12 x1 h0f2 h0f6 h0f8 h0f11 h1f0 h1f1 h1f2 h5f8 h5f9 h5f10 h5f11 h8f1) (v := 1) hQ hx hb hr hlocks hS (Nat.le_of_ble_eq_true rfl) (Nat.le_of_ble_eq_true rfl) dX10_faithful_26 (⟨q24, q25, q26, q27, q28, q29, q30, q31, q32, v17, v18, v19, v20, v21, v22, v33, v34, (by have := li_1; omega), (by have := li_1; omega), (by have := li_1; omega), (by have := li_1; omega), (by have := li_1; omega), (by have := li_1; omega), (by have := li_1; omega), (by have := li_1; omega), (by have := li_1; omega), (hT.sub [9, 10, 11, 0, 12, 1, 13, 2, 3, 4, 5, 6, 7, 8, 14, 15, 16, 17, 18, 19, 20, 21, 22] (by decide) rfl)⟩)
  · skip
    have hT := J _ hT1
    have hT : TP D A [(h0, ob 7 [.ref h1, .ref h2, .int h0f2, .ref h3, .ref h4, .ref h5, .int h0f6, .ref h6, .int h0f8, .null, .ref h7, .int h0f11, .ref h8, .ref h9, .ref h10, .ref h11, .ref h12]), (h1, ob 4 [.int h1f0, .int h1f1, .int h1f2, .ref h13]), (h5, ob 3 [.ref h21, .ref h22, .ref h23, .ref h24, .ref h25, .ref h26, .ref h27, .ref h28, .int h5f8, .int h5f9, .int h5f10, .int h5f11]), (h8, ob 2 [.ref h1, .int h8f1]), (h11, aJ (k 1) 9 anJ), (h13, aJ (k 1) 36 anJ), (h21, aJ (k 1) 900 anJ), (h22, aI (k 0) 100 anI), (h23, aI (k 0) 100 anI), (h24, aI (k 0) 100 anI), (h25, aI (k 0) 400 anI), (h26, aI (k 0) 256 (rgI (-1) 99)), (h27, aI (k 0) 100 (rgI (-1) 99)), (h28, aJ (k 1) 60 anJ)] _ := hT
    exfalso; omega
  · skip
    have hT := J _ hT1
    have hT : TP D A [(h0, ob 7 [.ref h1, .ref h2, .int h0f2, .ref h3, .ref h4, .ref h5, .int h0f6, .ref h6, .int h0f8, .null, .ref h7, .int h0f11, .ref h8, .ref h9, .ref h10, .ref h11, .ref h12]), (h1, ob 4 [.int h1f0, .int h1f1, .int h1f2, .ref h13]), (h5, ob 3 [.ref h21, .ref h22, .ref h23, .ref h24, .ref h25, .ref h26, .ref h27, .ref h28, .int h5f8, .int h5f9, .int h5f10, .int h5f11]), (h8, ob 2 [.ref h1, .int h8f1]), (h11, aJ (k 1) 9 anJ), (h13, aJ (k 1) 36 anJ), (h21, aJ (k 1) 900 anJ), (h22, aI (k 0) 100 anI), (h23, aI (k 0) 100 anI), (h24, aI (k 0) 100 anI), (h25, aI (k 0) 400 anI), (h26, aI (k 0) 256 (rgI (-1) 99)), (h27, aI (k 0) 100 (rgI (-1) 99)), (h28, aJ (k 1) 60 anJ)] _ := hT
    exfalso; omega
  · skip
    have hT := J _ hT1
    have hT : TP D A [(h0, ob 7 [.ref h1, .ref h2, .int h0f2, .ref h3, .ref h4, .ref h5, .int h0f6, .ref h6, .int h0f8, .null, .ref h7, .int h0f11, .ref h8, .ref h9, .ref h10, .ref h11, .ref h12]), (h1, ob 4 [.int h1f0, .int h1f1, .int h1f2, .ref h13]), (h5, ob 3 [.ref h21, .ref h22, .ref h23, .ref h24, .ref h25, .ref h26, .ref h27, .ref h28, .int h5f8, .int h5f9, .int h5f10, .int h5f11]), (h8, ob 2 [.ref h1, .int h8f1]), (h11, aJ (k 1) 9 anJ), (h13, aJ (k 1) 36 anJ), (h21, aJ (k 1) 900 anJ), (h22, aI (k 0) 100 anI), (h23, aI (k 0) 100 anI), (h24, aI (k 0) 100 anI), (h25, aI (k 0) 400 anI), (h26, aI (k 0) 256 (rgI (-1) 99)), (h27, aI (k 0) 100 (rgI (-1) 99)), (h28, aJ (k 1) 60 anJ)] _ := hT
    exfalso; omega
  · skip
    have hT := J _ hT1
    have hT : TP D A [(h0, ob 7 [.ref h1, .ref h2, .int h0f2, .ref h3, .ref h4, .ref h5, .int h0f6, .ref h6, .int h0f8, .null, .ref h7, .int h0f11, .ref h8, .ref h9, .ref h10, .ref h11, .ref h12]), (h1, ob 4 [.int h1f0, .int h1f1, .int h1f2, .ref h13]), (h5, ob 3 [.ref h21, .ref h22, .ref h23, .ref h24, .ref h25, .ref h26, .ref h27, .ref h28, .int h5f8, .int h5f9, .int h5f10, .int h5f11]), (h8, ob 2 [.ref h1, .int h8f1]), (h11, aJ (k 1) 9 anJ), (h13, aJ (k 1) 36 anJ), (h21, aJ (k 1) 900 anJ), (h22, aI (k 0) 100 anI), (h23, aI (k 0) 100 anI), (h24, aI (k 0) 100 anI), (h25, aI (k 0) 400 anI), (h26, aI (k 0) 256 (rgI (-1) 99)), (h27, aI (k 0) 100 (rgI (-1) 99)), (h28, aJ (k 1) 60 anJ)] _ := hT
    exfalso; omega
abbrev Rm_cX10_faithful_56cd3 : Room := { frames := 6, cells := 9, slots := 16296, locals := 149 }
abbrev B_cX10_faithful_56cd3 (D : va_G) (k : Nat → ClassId) (h0 h1 h5 h8 h11 h13 h21 h22 h23 h24 h25 h26 h27 h28 h2 h3 h4 h6 h7 h9 h10 h12 : Nat) (x1 : Int32) (h0f2 : Int32) (h0f6 : Int32) (h0f8 : Int32) (h0f11 : Int32) (h1f0 : Int32) (h1f1 : Int32) (h1f2 : Int32) (h5f8 : Int32) (h5f9 : Int32) (h5f10 : Int32) (h5f11 : Int32) (h8f1 : Int32) (A : Nat → Prop) (r : Int32) (H : Heap) : Prop := ∃ n0 : Nat, ∃ n1 : Nat, ∃ n2 : Nat, ∃ n3 : Nat, ∃ n4 : Nat, ∃ n5 : Nat, ∃ n6 : Nat, ∃ n7 : Nat, ∃ n8 : Nat, ∃ o0 : Int32, ∃ o1 : Int32, ∃ o2 : Int32, ∃ o3 : Int32, ∃ o4 : Int32, ∃ o5 : Int32, ∃ o6 : Int32, ∃ o7 : Int32, (1 ≤ o0.toInt ∧ o0.toInt ≤ 1) ∧ (0 ≤ o1.toInt ∧ o1.toInt ≤ 9) ∧ (0 ≤ o2.toInt ∧ o2.toInt ≤ 100) ∧ (0 ≤ o3.toInt ∧ o3.toInt ≤ 100) ∧ (0 ≤ o4.toInt ∧ o4.toInt ≤ 1) ∧ (0 ≤ o5.toInt ∧ o5.toInt ≤ 7) ∧ (1 ≤ o6.toInt ∧ o6.toInt ≤ 9) ∧ (0 ≤ o7.toInt ∧ o7.toInt ≤ 400) ∧ (0 ≤ r.toInt ∧ r.toInt ≤ 1) ∧ TP D A [(h0, ob 7 [.ref h1, .ref h2, .int h0f2, .ref h3, .ref h4, .ref h5, .int o0, .ref h6, .int h0f8, .ref n0, .ref h7, .int h0f11, .ref h8, .ref h9, .ref h10, .ref h11, .ref h12]), (h1, ob 4 [.int h1f0, .int h1f1, .int h1f2, .ref h13]), (h5, ob 3 [.ref h21, .ref h22, .ref h23, .ref h24, .ref h25, .ref h26, .ref h27, .ref h28, .int o1, .int o2, .int o3, .int o4]), (h8, ob 2 [.ref h1, .int o5]), (h11, aJ (k 1) 9 anJ), (h13, aJ (k 1) 36 anJ), (h21, aJ (k 1) 900 anJ), (h22, aI (k 0) 100 anI), (h23, aI (k 0) 100 anI), (h24, aI (k 0) 100 anI), (h25, aI (k 0) 400 anI), (h26, aI (k 0) 256 (rgI (-1) 99)), (h27, aI (k 0) 100 (rgI (-1) 99)), (h28, aJ (k 1) 60 anJ), (n0, ob 3 [.ref n1, .ref n2, .ref n3, .ref n4, .ref n5, .ref n6, .ref n7, .ref n8, .int o6, .int 400, .int o7, .int 0]), (n1, aJ (k 1) 12000 anJ), (n2, aI (k 0) 400 anI), (n3, aI (k 0) 400 anI), (n4, aI (k 0) 400 anI), (n5, aI (k 0) 1600 anI), (n6, aI (k 0) 1024 anI), (n7, aI (k 0) 400 anI), (n8, aJ (k 1) 60 anJ)] H
set_option maxHeartbeats 4000000 in
set_option maxRecDepth 100000 in
theorem cX10_faithful_56cd3 (l : Launch) (D : va_G) (k : Nat → ClassId) (sz : Nat) (h0 h1 h5 h8 h11 h13 h21 h22 h23 h24 h25 h26 h27 h28 h2 h3 h4 h6 h7 h9 h10 h12 : Nat) (x1 : Int32) (h0f2 : Int32) (h0f6 : Int32) (h0f8 : Int32) (h0f11 : Int32) (h1f0 : Int32) (h1f1 : Int32) (h1f2 : Int32) (h5f8 : Int32) (h5f9 : Int32) (h5f10 : Int32) (h5f11 : Int32) (h8f1 : Int32) (b_x1 : 3 ≤ x1.toInt ∧ x1.toInt ≤ 3) (b_h0f2 : 0 ≤ h0f2.toInt ∧ h0f2.toInt ≤ 1) (b_h0f6 : 0 ≤ h0f6.toInt ∧ h0f6.toInt ≤ 1) (b_h0f8 : 0 ≤ h0f8.toInt ∧ h0f8.toInt ≤ 1) (b_h0f11 : 0 ≤ h0f11.toInt ∧ h0f11.toInt ≤ 200) (b_h1f0 : 1 ≤ h1f0.toInt ∧ h1f0.toInt ≤ 3) (b_h1f1 : 0 ≤ h1f1.toInt ∧ h1f1.toInt ≤ 4) (b_h5f8 : 0 ≤ h5f8.toInt ∧ h5f8.toInt ≤ 9) (b_h5f9 : 0 ≤ h5f9.toInt ∧ h5f9.toInt ≤ 100) (b_h5f10 : 0 ≤ h5f10.toInt ∧ h5f10.toInt ≤ 100) (b_h5f11 : 0 ≤ h5f11.toInt ∧ h5f11.toInt ≤ 1) (b_h8f1 : 0 ≤ h8f1.toInt ∧ h8f1.toInt ≤ 7) : Met l yX10_faithful (Cond.code yX10_faithful cX10_faithful 2 (some .int) :: uw) Rm_cX10_faithful_56cd3 (pT D k sz [.ref h0, .int x1] [(h0, ob 7 [.ref h1, .ref h2, .int h0f2, .ref h3, .ref h4, .ref h5, .int h0f6, .ref h6, .int h0f8, .null, .ref h7, .int h0f11, .ref h8, .ref h9, .ref h10, .ref h11, .ref h12]), (h1, ob 4 [.int h1f0, .int h1f1, .int h1f2, .ref h13]), (h5, ob 3 [.ref h21, .ref h22, .ref h23, .ref h24, .ref h25, .ref h26, .ref h27, .ref h28, .int h5f8, .int h5f9, .int h5f10, .int h5f11]), (h8, ob 2 [.ref h1, .int h8f1]), (h11, aJ (k 1) 9 anJ), (h13, aJ (k 1) 36 anJ), (h21, aJ (k 1) 900 anJ), (h22, aI (k 0) 100 anI), (h23, aI (k 0) 100 anI), (h24, aI (k 0) 100 anI), (h25, aI (k 0) 400 anI), (h26, aI (k 0) 256 (rgI (-1) 99)), (h27, aI (k 0) 100 (rgI (-1) 99)), (h28, aJ (k 1) 60 anJ)]) (qI (B_cX10_faithful_56cd3 D k h0 h1 h5 h8 h11 h13 h21 h22 h23 h24 h25 h26 h27 h28 h2 h3 h4 h6 h7 h9 h10 h12 x1 h0f2 h0f6 h0f8 h0f11 h1f0 h1f1 h1f2 h5f8 h5f9 h5f10 h5f11 h8f1 (zA [h0, h1, h5, h8, h11, h13, h21, h22, h23, h24, h25, h26, h27, h28] sz)) (zA [h0, h1, h5, h8, h11, h13, h21, h22, h23, h24, h25, h26, h27, h28] sz)) 9 16296 (zA [h0, h1, h5, h8, h11, h13, h21, h22, h23, h24, h25, h26, h27, h28] sz) := by
  refine tz_begin (as := [h0, h1, h5, h8, h11, h13, h21, h22, h23, h24, h25, h26, h27, h28]) (Qc := fun A => qI (B_cX10_faithful_56cd3 D k h0 h1 h5 h8 h11 h13 h21 h22 h23 h24 h25 h26 h27 h28 h2 h3 h4 h6 h7 h9 h10 h12 x1 h0f2 h0f6 h0f8 h0f11 h1f0 h1f1 h1f2 h5f8 h5f9 h5f10 h5f11 h8f1 A) A) (by decide +kernel) rfl (Nat.le_of_ble_eq_true rfl) ?_
  intro p e s m args below meth c ls A Q hx hb hr hml hown hlocks hin hU hK hT hS hA hl hQ
  have hl : lv_has ls 2 [(0, .ref h0), (1, .int x1)] := hl
  have hT : TP D A [(h0, ob 7 [.ref h1, .ref h2, .int h0f2, .ref h3, .ref h4, .ref h5, .int h0f6, .ref h6, .int h0f8, .null, .ref h7, .int h0f11, .ref h8, .ref h9, .ref h10, .ref h11, .ref h12]), (h1, ob 4 [.int h1f0, .int h1f1, .int h1f2, .ref h13]), (h5, ob 3 [.ref h21, .ref h22, .ref h23, .ref h24, .ref h25, .ref h26, .ref h27, .ref h28, .int h5f8, .int h5f9, .int h5f10, .int h5f11]), (h8, ob 2 [.ref h1, .int h8f1]), (h11, aJ (k 1) 9 anJ), (h13, aJ (k 1) 36 anJ), (h21, aJ (k 1) 900 anJ), (h22, aI (k 0) 100 anI), (h23, aI (k 0) 100 anI), (h24, aI (k 0) 100 anI), (h25, aI (k 0) 400 anI), (h26, aI (k 0) 256 (rgI (-1) 99)), (h27, aI (k 0) 100 (rgI (-1) 99)), (h28, aJ (k 1) 60 anJ)] s.heap := hT
  refine lv_iload_n hx hb dX10_faithful_0 rfl (lv_at hl 1 rfl) ?_
  refine tcI (Tc := []) (Tr := [(h0, ob 7 [.ref h1, .ref h2, .int h0f2, .ref h3, .ref h4, .ref h5, .int h0f6, .ref h6, .int h0f8, .null, .ref h7, .int h0f11, .ref h8, .ref h9, .ref h10, .ref h11, .ref h12]), (h1, ob 4 [.int h1f0, .int h1f1, .int h1f2, .ref h13]), (h5, ob 3 [.ref h21, .ref h22, .ref h23, .ref h24, .ref h25, .ref h26, .ref h27, .ref h28, .int h5f8, .int h5f9, .int h5f10, .int h5f11]), (h8, ob 2 [.ref h1, .int h8f1]), (h11, aJ (k 1) 9 anJ), (h13, aJ (k 1) 36 anJ), (h21, aJ (k 1) 900 anJ), (h22, aI (k 0) 100 anI), (h23, aI (k 0) 100 anI), (h24, aI (k 0) 100 anI), (h25, aI (k 0) 400 anI), (h26, aI (k 0) 256 (rgI (-1) 99)), (h27, aI (k 0) 100 (rgI (-1) 99)), (h28, aJ (k 1) 60 anJ)]) (as := []) (zcS (As := [.int x1]) (rest := []) (Tc := []) hx hb hml hown hU hK hT [] rfl (by decide) (cX10_isPrimeTaken_a0e73 l D k _ x1) w664 w662 w663 w63 hdX10_isPrimeTaken ⟨rfl, rfl⟩ ⟨Nat.le_of_ble_eq_true rfl, Nat.le_of_ble_eq_true rfl⟩ rfl hl.1 (Nat.le_of_ble_eq_true rfl) dX10_faithful_1 ⟨Nat.le_of_ble_eq_true rfl, Nat.le_of_ble_eq_true rfl⟩) hT hS hA [] [0, 1, 2, 3, 4, 5, 6, 7, 8, 9, 10, 11, 12, 13] rfl rfl rfl (by decide) (by decide) (fun r1 H locs hB J hS => ?_)
  rcases hB with ⟨c_2, rfl, hT1⟩ | ⟨c_3, c_4, rfl, hT1⟩ | ⟨c_5, c_6, c_7, rfl, hT1⟩ | ⟨c_8, c_9, c_10, c_11, rfl, hT1⟩ | ⟨c_12, c_13, c_14, c_15, rfl, hT1⟩
  · skip
    have hT := J _ hT1
    have hT : TP D A [(h0, ob 7 [.ref h1, .ref h2, .int h0f2, .ref h3, .ref h4, .ref h5, .int h0f6, .ref h6, .int h0f8, .null, .ref h7, .int h0f11, .ref h8, .ref h9, .ref h10, .ref h11, .ref h12]), (h1, ob 4 [.int h1f0, .int h1f1, .int h1f2, .ref h13]), (h5, ob 3 [.ref h21, .ref h22, .ref h23, .ref h24, .ref h25, .ref h26, .ref h27, .ref h28, .int h5f8, .int h5f9, .int h5f10, .int h5f11]), (h8, ob 2 [.ref h1, .int h8f1]), (h11, aJ (k 1) 9 anJ), (h13, aJ (k 1) 36 anJ), (h21, aJ (k 1) 900 anJ), (h22, aI (k 0) 100 anI), (h23, aI (k 0) 100 anI), (h24, aI (k 0) 100 anI), (h25, aI (k 0) 400 anI), (h26, aI (k 0) 256 (rgI (-1) 99)), (h27, aI (k 0) 100 (rgI (-1) 99)), (h28, aJ (k 1) 60 anJ)] _ := hT
    exfalso; omega
  · skip
    have hT := J _ hT1
    have hT : TP D A [(h0, ob 7 [.ref h1, .ref h2, .int h0f2, .ref h3, .ref h4, .ref h5, .int h0f6, .ref h6, .int h0f8, .null, .ref h7, .int h0f11, .ref h8, .ref h9, .ref h10, .ref h11, .ref h12]), (h1, ob 4 [.int h1f0, .int h1f1, .int h1f2, .ref h13]), (h5, ob 3 [.ref h21, .ref h22, .ref h23, .ref h24, .ref h25, .ref h26, .ref h27, .ref h28, .int h5f8, .int h5f9, .int h5f10, .int h5f11]), (h8, ob 2 [.ref h1, .int h8f1]), (h11, aJ (k 1) 9 anJ), (h13, aJ (k 1) 36 anJ), (h21, aJ (k 1) 900 anJ), (h22, aI (k 0) 100 anI), (h23, aI (k 0) 100 anI), (h24, aI (k 0) 100 anI), (h25, aI (k 0) 400 anI), (h26, aI (k 0) 256 (rgI (-1) 99)), (h27, aI (k 0) 100 (rgI (-1) 99)), (h28, aJ (k 1) 60 anJ)] _ := hT
    refine lv_if_ne (tgt := 9) hx hb dX10_faithful_4 (by decide) (fun _ => ?_) (fun cc => absurd cc (by decide +kernel))
    refine lv_aload_n hx hb dX10_faithful_9 rfl (lv_at hl 0 rfl) ?_
    refine tcV (Tc := [(h0, ob 7 [.ref h1, .ref h2, .int h0f2, .ref h3, .ref h4, .ref h5, .int h0f6, .ref h6, .int h0f8, .null, .ref h7, .int h0f11, .ref h8, .ref h9, .ref h10, .ref h11, .ref h12]), (h1, ob 4 [.int h1f0, .int h1f1, .int h1f2, .ref h13]), (h5, ob 3 [.ref h21, .ref h22, .ref h23, .ref h24, .ref h25, .ref h26, .ref h27, .ref h28, .int h5f8, .int h5f9, .int h5f10, .int h5f11]), (h8, ob 2 [.ref h1, .int h8f1]), (h11, aJ (k 1) 9 anJ), (h13, aJ (k 1) 36 anJ), (h21, aJ (k 1) 900 anJ), (h22, aI (k 0) 100 anI), (h23, aI (k 0) 100 anI), (h24, aI (k 0) 100 anI), (h25, aI (k 0) 400 anI), (h26, aI (k 0) 256 (rgI (-1) 99)), (h27, aI (k 0) 100 (rgI (-1) 99)), (h28, aJ (k 1) 60 anJ)]) (Tr := []) (as := [h0, h1, h5, h8, h11, h13, h21, h22, h23, h24, h25, h26, h27, h28]) (zcV (q0 := 0) (ci := 7) (As := []) (rest := []) (Tc := [(h0, ob 7 [.ref h1, .ref h2, .int h0f2, .ref h3, .ref h4, .ref h5, .int h0f6, .ref h6, .int h0f8, .null, .ref h7, .int h0f11, .ref h8, .ref h9, .ref h10, .ref h11, .ref h12]), (h1, ob 4 [.int h1f0, .int h1f1, .int h1f2, .ref h13]), (h5, ob 3 [.ref h21, .ref h22, .ref h23, .ref h24, .ref h25, .ref h26, .ref h27, .ref h28, .int h5f8, .int h5f9, .int h5f10, .int h5f11]), (h8, ob 2 [.ref h1, .int h8f1]), (h11, aJ (k 1) 9 anJ), (h13, aJ (k 1) 36 anJ), (h21, aJ (k 1) 900 anJ), (h22, aI (k 0) 100 anI), (h23, aI (k 0) 100 anI), (h24, aI (k 0) 100 anI), (h25, aI (k 0) 400 anI), (h26, aI (k 0) 256 (rgI (-1) 99)), (h27, aI (k 0) 100 (rgI (-1) 99)), (h28, aJ (k 1) 60 anJ)]) hx hb hml hown hU hK hT rfl rfl [0, 1, 2, 3, 4, 5, 6, 7, 8, 9, 10, 11, 12, 13] rfl (by decide) (cX10_listAll_fe300 l D k _ h0 h1 h5 h8 h11 h13 h21 h22 h23 h24 h25 h26 h27 h28 h2 h3 h4 h6 h7 h9 h10 h12 h0f2 h0f6 h0f8 h0f11 h1f0 h1f1 h1f2 h5f8 h5f9 h5f10 h5f11 h8f1 (by omega) (by omega) (by omega) (by omega) (by omega) (by omega) (by omega) (by omega) (by omega) (by omega) (by omega)) w492 w489 w491 w10 w63 hdX10_listAll ⟨rfl, rfl⟩ ⟨Nat.le_of_ble_eq_true rfl, Nat.le_of_ble_eq_true rfl⟩ rfl hl.1 (Nat.le_of_ble_eq_true rfl) dX10_faithful_10 ⟨Nat.le_of_ble_eq_true rfl, Nat.le_of_ble_eq_true rfl⟩) hT hS hA [0, 1, 2, 3, 4, 5, 6, 7, 8, 9, 10, 11, 12, 13] [] rfl rfl rfl (by decide) (by decide) (fun H locs hB J hS => ?_)
    obtain ⟨v17, v18, v19, v20, v21, v22, b_v17, b_v18, b_v19, b_v20, b_v21, b_v22, hT1⟩ := hB
    have hT := J _ hT1
    have hT : TP D A [(h0, ob 7 [.ref h1, .ref h2, .int h0f2, .ref h3, .ref h4, .ref h5, .int v17, .ref h6, .int h0f8, .null, .ref h7, .int h0f11, .ref h8, .ref h9, .ref h10, .ref h11, .ref h12]), (h1, ob 4 [.int h1f0, .int h1f1, .int h1f2, .ref h13]), (h5, ob 3 [.ref h21, .ref h22, .ref h23, .ref h24, .ref h25, .ref h26, .ref h27, .ref h28, .int v18, .int v19, .int v20, .int v21]), (h8, ob 2 [.ref h1, .int v22]), (h11, aJ (k 1) 9 anJ), (h13, aJ (k 1) 36 anJ), (h21, aJ (k 1) 900 anJ), (h22, aI (k 0) 100 anI), (h23, aI (k 0) 100 anI), (h24, aI (k 0) 100 anI), (h25, aI (k 0) 400 anI), (h26, aI (k 0) 256 (rgI (-1) 99)), (h27, aI (k 0) 100 (rgI (-1) 99)), (h28, aJ (k 1) 60 anJ)] _ := hT
    refine lv_aload_n hx hb dX10_faithful_13 rfl (lv_at hl 0 rfl) ?_
    refine lv_iload_n hx hb dX10_faithful_14 rfl (lv_at hl 1 rfl) ?_
    refine tcI (Tc := [(h0, ob 7 [.ref h1, .ref h2, .int h0f2, .ref h3, .ref h4, .ref h5, .int v17, .ref h6, .int h0f8, .null, .ref h7, .int h0f11, .ref h8, .ref h9, .ref h10, .ref h11, .ref h12]), (h1, ob 4 [.int h1f0, .int h1f1, .int h1f2, .ref h13]), (h5, ob 3 [.ref h21, .ref h22, .ref h23, .ref h24, .ref h25, .ref h26, .ref h27, .ref h28, .int v18, .int v19, .int v20, .int v21]), (h11, aJ (k 1) 9 anJ), (h21, aJ (k 1) 900 anJ)]) (Tr := [(h8, ob 2 [.ref h1, .int v22]), (h13, aJ (k 1) 36 anJ), (h22, aI (k 0) 100 anI), (h23, aI (k 0) 100 anI), (h24, aI (k 0) 100 anI), (h25, aI (k 0) 400 anI), (h26, aI (k 0) 256 (rgI (-1) 99)), (h27, aI (k 0) 100 (rgI (-1) 99)), (h28, aJ (k 1) 60 anJ)]) (as := [h0, h1, h5, h11, h21]) (zcV (q0 := 0) (ci := 7) (As := [.int x1]) (rest := []) (Tc := [(h0, ob 7 [.ref h1, .ref h2, .int h0f2, .ref h3, .ref h4, .ref h5, .int v17, .ref h6, .int h0f8, .null, .ref h7, .int h0f11, .ref h8, .ref h9, .ref h10, .ref h11, .ref h12]), (h1, ob 4 [.int h1f0, .int h1f1, .int h1f2, .ref h13]), (h5, ob 3 [.ref h21, .ref h22, .ref h23, .ref h24, .ref h25, .ref h26, .ref h27, .ref h28, .int v18, .int v19, .int v20, .int v21]), (h11, aJ (k 1) 9 anJ), (h21, aJ (k 1) 900 anJ)]) hx hb hml hown hU hK hT rfl rfl [0, 1, 2, 4, 6] rfl (by decide) (cX10_areApartBy_0198b l D k _ h0 h1 h5 h11 h21 h2 h3 h4 h6 h7 h8 h9 h10 h12 h13 h22 h23 h24 h25 h26 h27 h28 x1 h0f2 v17 h0f8 h0f11 h1f0 h1f1 h1f2 v18 v19 v20 v21 (by omega) (by omega) (by omega) (by omega) (by omega) (by omega) (by omega) (by omega) (by omega) (by omega) (by omega)) w680 w677 w679 w23 w63 hdX10_areApartBy ⟨rfl, rfl⟩ ⟨Nat.le_of_ble_eq_true rfl, Nat.le_of_ble_eq_true rfl⟩ rfl hl.1 (Nat.le_of_ble_eq_true rfl) dX10_faithful_15 ⟨Nat.le_of_ble_eq_true rfl, Nat.le_of_ble_eq_true rfl⟩) hT hS hA [0, 1, 2, 4, 6] [3, 5, 7, 8, 9, 10, 11, 12, 13] rfl rfl rfl (by decide) (by decide) (fun r23 H locs hB J hS => ?_)
    obtain ⟨q24, q25, q26, q27, q28, q29, q30, q31, q32, v33, v34, b_v33, b_v34, b_r23, hT1⟩ := hB
    have hT := J _ hT1
    have hT : TP D A [(h8, ob 2 [.ref h1, .int v22]), (h13, aJ (k 1) 36 anJ), (h22, aI (k 0) 100 anI), (h23, aI (k 0) 100 anI), (h24, aI (k 0) 100 anI), (h25, aI (k 0) 400 anI), (h26, aI (k 0) 256 (rgI (-1) 99)), (h27, aI (k 0) 100 (rgI (-1) 99)), (h28, aJ (k 1) 60 anJ), (h0, ob 7 [.ref h1, .ref h2, .int h0f2, .ref h3, .ref h4, .ref h5, .int v17, .ref h6, .int h0f8, .ref q24, .ref h7, .int h0f11, .ref h8, .ref h9, .ref h10, .ref h11, .ref h12]), (h1, ob 4 [.int h1f0, .int h1f1, .int h1f2, .ref h13]), (h5, ob 3 [.ref h21, .ref h22, .ref h23, .ref h24, .ref h25, .ref h26, .ref h27, .ref h28, .int v18, .int v19, .int v20, .int v21]), (h11, aJ (k 1) 9 anJ), (h21, aJ (k 1) 900 anJ), (q24, ob 3 [.ref q25, .ref q26, .ref q27, .ref q28, .ref q29, .ref q30, .ref q31, .ref q32, .int v33, .int 400, .int v34, .int 0]), (q25, aJ (k 1) 12000 anJ), (q26, aI (k 0) 400 anI), (q27, aI (k 0) 400 anI), (q28, aI (k 0) 400 anI), (q29, aI (k 0) 1600 anI), (q30, aI (k 0) 1024 anI), (q31, aI (k 0) 400 anI), (q32, aJ (k 1) 60 anJ)] _ := hT
    refine lv_if_eq (tgt := 25) hx hb dX10_faithful_18 (by decide) (fun c_35 => ?_) (fun c_35 => ?_)
    · skip
      have c_35 := ni_eq c_35 rfl li_0
      refine lv_iconst (v := 0) hx hb dX10_faithful_25 (by decide) ?_
      exact tz_retI (B := B_cX10_faithful_56cd3 D k h0 h1 h5 h8 h11 h13 h21 h22 h23 h24 h25 h26 h27 h28 h2 h3 h4 h6 h7 h9 h10 h12 x1 h0f2 h0f6 h0f8 h0f11 h1f0 h1f1 h1f2 h5f8 h5f9 h5f10 h5f11 h8f1) (v := 0) hQ hx hb hr hlocks hS (Nat.le_of_ble_eq_true rfl) (Nat.le_of_ble_eq_true rfl) dX10_faithful_26 (⟨q24, q25, q26, q27, q28, q29, q30, q31, q32, v17, v18, v19, v20, v21, v22, v33, v34, (by have := li_0; omega), (by have := li_0; omega), (by have := li_0; omega), (by have := li_0; omega), (by have := li_0; omega), (by have := li_0; omega), (by have := li_0; omega), (by have := li_0; omega), (by have := li_0; omega), (hT.sub [9, 10, 11, 0, 12, 1, 13, 2, 3, 4, 5, 6, 7, 8, 14, 15, 16, 17, 18, 19, 20, 21, 22] (by decide) rfl)⟩)
    · skip
      have c_35 := ni_ne c_35 rfl li_0
      refine lv_iconst (v := 1) hx hb dX10_faithful_21 (by decide) ?_
      refine lv_goto (tgt := 26) hx hb dX10_faithful_22 (by decide) ?_
      exact tz_retI (B := B_cX10_faithful_56cd3 D k h0 h1 h5 h8 h11 h13 h21 h22 h23 h24 h25 h26 h27 h28 h2 h3 h4 h6 h7 h9 h10 h12 x1 h0f2 h0f6 h0f8 h0f11 h1f0 h1f1 h1f2 h5f8 h5f9 h5f10 h5f11 h8f1) (v := 1) hQ hx hb hr hlocks hS (Nat.le_of_ble_eq_true rfl) (Nat.le_of_ble_eq_true rfl) dX10_faithful_26 (⟨q24, q25, q26, q27, q28, q29, q30, q31, q32, v17, v18, v19, v20, v21, v22, v33, v34, (by have := li_1; omega), (by have := li_1; omega), (by have := li_1; omega), (by have := li_1; omega), (by have := li_1; omega), (by have := li_1; omega), (by have := li_1; omega), (by have := li_1; omega), (by have := li_1; omega), (hT.sub [9, 10, 11, 0, 12, 1, 13, 2, 3, 4, 5, 6, 7, 8, 14, 15, 16, 17, 18, 19, 20, 21, 22] (by decide) rfl)⟩)
  · skip
    have hT := J _ hT1
    have hT : TP D A [(h0, ob 7 [.ref h1, .ref h2, .int h0f2, .ref h3, .ref h4, .ref h5, .int h0f6, .ref h6, .int h0f8, .null, .ref h7, .int h0f11, .ref h8, .ref h9, .ref h10, .ref h11, .ref h12]), (h1, ob 4 [.int h1f0, .int h1f1, .int h1f2, .ref h13]), (h5, ob 3 [.ref h21, .ref h22, .ref h23, .ref h24, .ref h25, .ref h26, .ref h27, .ref h28, .int h5f8, .int h5f9, .int h5f10, .int h5f11]), (h8, ob 2 [.ref h1, .int h8f1]), (h11, aJ (k 1) 9 anJ), (h13, aJ (k 1) 36 anJ), (h21, aJ (k 1) 900 anJ), (h22, aI (k 0) 100 anI), (h23, aI (k 0) 100 anI), (h24, aI (k 0) 100 anI), (h25, aI (k 0) 400 anI), (h26, aI (k 0) 256 (rgI (-1) 99)), (h27, aI (k 0) 100 (rgI (-1) 99)), (h28, aJ (k 1) 60 anJ)] _ := hT
    exfalso; omega
  · skip
    have hT := J _ hT1
    have hT : TP D A [(h0, ob 7 [.ref h1, .ref h2, .int h0f2, .ref h3, .ref h4, .ref h5, .int h0f6, .ref h6, .int h0f8, .null, .ref h7, .int h0f11, .ref h8, .ref h9, .ref h10, .ref h11, .ref h12]), (h1, ob 4 [.int h1f0, .int h1f1, .int h1f2, .ref h13]), (h5, ob 3 [.ref h21, .ref h22, .ref h23, .ref h24, .ref h25, .ref h26, .ref h27, .ref h28, .int h5f8, .int h5f9, .int h5f10, .int h5f11]), (h8, ob 2 [.ref h1, .int h8f1]), (h11, aJ (k 1) 9 anJ), (h13, aJ (k 1) 36 anJ), (h21, aJ (k 1) 900 anJ), (h22, aI (k 0) 100 anI), (h23, aI (k 0) 100 anI), (h24, aI (k 0) 100 anI), (h25, aI (k 0) 400 anI), (h26, aI (k 0) 256 (rgI (-1) 99)), (h27, aI (k 0) 100 (rgI (-1) 99)), (h28, aJ (k 1) 60 anJ)] _ := hT
    exfalso; omega
  · skip
    have hT := J _ hT1
    have hT : TP D A [(h0, ob 7 [.ref h1, .ref h2, .int h0f2, .ref h3, .ref h4, .ref h5, .int h0f6, .ref h6, .int h0f8, .null, .ref h7, .int h0f11, .ref h8, .ref h9, .ref h10, .ref h11, .ref h12]), (h1, ob 4 [.int h1f0, .int h1f1, .int h1f2, .ref h13]), (h5, ob 3 [.ref h21, .ref h22, .ref h23, .ref h24, .ref h25, .ref h26, .ref h27, .ref h28, .int h5f8, .int h5f9, .int h5f10, .int h5f11]), (h8, ob 2 [.ref h1, .int h8f1]), (h11, aJ (k 1) 9 anJ), (h13, aJ (k 1) 36 anJ), (h21, aJ (k 1) 900 anJ), (h22, aI (k 0) 100 anI), (h23, aI (k 0) 100 anI), (h24, aI (k 0) 100 anI), (h25, aI (k 0) 400 anI), (h26, aI (k 0) 256 (rgI (-1) 99)), (h27, aI (k 0) 100 (rgI (-1) 99)), (h28, aJ (k 1) 60 anJ)] _ := hT
    exfalso; omega
abbrev Rm_cX10_faithful_342b9 : Room := { frames := 1, cells := 0, slots := 0, locals := 20 }
abbrev B_cX10_faithful_342b9 (D : va_G) (k : Nat → ClassId) (h0 h1 h2 h3 h4 h5 h6 h7 h8 h9 h10 h11 h12 : Nat) (x1 : Int32) (h0f2 : Int32) (h0f6 : Int32) (h0f8 : Int32) (h0f11 : Int32) (A : Nat → Prop) (r : Int32) (H : Heap) : Prop := (-1) = r ∧ TP D A [(h0, ob 7 [.ref h1, .ref h2, .int h0f2, .ref h3, .ref h4, .ref h5, .int h0f6, .ref h6, .int h0f8, .null, .ref h7, .int h0f11, .ref h8, .ref h9, .ref h10, .ref h11, .ref h12])] H
set_option maxHeartbeats 4000000 in
set_option maxRecDepth 100000 in
theorem cX10_faithful_342b9 (l : Launch) (D : va_G) (k : Nat → ClassId) (sz : Nat) (h0 h1 h2 h3 h4 h5 h6 h7 h8 h9 h10 h11 h12 : Nat) (x1 : Int32) (h0f2 : Int32) (h0f6 : Int32) (h0f8 : Int32) (h0f11 : Int32) (b_x1 : 4 ≤ x1.toInt ∧ x1.toInt ≤ 4) (b_h0f2 : 0 ≤ h0f2.toInt ∧ h0f2.toInt ≤ 1) (b_h0f6 : 0 ≤ h0f6.toInt ∧ h0f6.toInt ≤ 1) (b_h0f8 : 0 ≤ h0f8.toInt ∧ h0f8.toInt ≤ 1) (b_h0f11 : 0 ≤ h0f11.toInt ∧ h0f11.toInt ≤ 200) : Met l yX10_faithful (Cond.code yX10_faithful cX10_faithful 2 (some .int) :: uw) Rm_cX10_faithful_342b9 (pT D k sz [.ref h0, .int x1] [(h0, ob 7 [.ref h1, .ref h2, .int h0f2, .ref h3, .ref h4, .ref h5, .int h0f6, .ref h6, .int h0f8, .null, .ref h7, .int h0f11, .ref h8, .ref h9, .ref h10, .ref h11, .ref h12])]) (qI (B_cX10_faithful_342b9 D k h0 h1 h2 h3 h4 h5 h6 h7 h8 h9 h10 h11 h12 x1 h0f2 h0f6 h0f8 h0f11 (zA [h0] sz)) (zA [h0] sz)) 0 0 (zA [h0] sz) := by
  refine tz_begin (as := [h0]) (Qc := fun A => qI (B_cX10_faithful_342b9 D k h0 h1 h2 h3 h4 h5 h6 h7 h8 h9 h10 h11 h12 x1 h0f2 h0f6 h0f8 h0f11 A) A) (by decide +kernel) rfl (Nat.le_of_ble_eq_true rfl) ?_
  intro p e s m args below meth c ls A Q hx hb hr hml hown hlocks hin hU hK hT hS hA hl hQ
  have hl : lv_has ls 2 [(0, .ref h0), (1, .int x1)] := hl
  have hT : TP D A [(h0, ob 7 [.ref h1, .ref h2, .int h0f2, .ref h3, .ref h4, .ref h5, .int h0f6, .ref h6, .int h0f8, .null, .ref h7, .int h0f11, .ref h8, .ref h9, .ref h10, .ref h11, .ref h12])] s.heap := hT
  refine lv_iload_n hx hb dX10_faithful_0 rfl (lv_at hl 1 rfl) ?_
  refine tcI (Tc := []) (Tr := [(h0, ob 7 [.ref h1, .ref h2, .int h0f2, .ref h3, .ref h4, .ref h5, .int h0f6, .ref h6, .int h0f8, .null, .ref h7, .int h0f11, .ref h8, .ref h9, .ref h10, .ref h11, .ref h12])]) (as := []) (zcS (As := [.int x1]) (rest := []) (Tc := []) hx hb hml hown hU hK hT [] rfl (by decide) (cX10_isPrimeTaken_a0e73 l D k _ x1) w664 w662 w663 w63 hdX10_isPrimeTaken ⟨rfl, rfl⟩ ⟨Nat.le_of_ble_eq_true rfl, Nat.le_of_ble_eq_true rfl⟩ rfl hl.1 (Nat.le_of_ble_eq_true rfl) dX10_faithful_1 ⟨Nat.le_of_ble_eq_true rfl, Nat.le_of_ble_eq_true rfl⟩) hT hS hA [] [0] rfl rfl rfl (by decide) (by decide) (fun r1 H locs hB J hS => ?_)
  rcases hB with ⟨c_2, rfl, hT1⟩ | ⟨c_3, c_4, rfl, hT1⟩ | ⟨c_5, c_6, c_7, rfl, hT1⟩ | ⟨c_8, c_9, c_10, c_11, rfl, hT1⟩ | ⟨c_12, c_13, c_14, c_15, rfl, hT1⟩
  · skip
    have hT := J _ hT1
    have hT : TP D A [(h0, ob 7 [.ref h1, .ref h2, .int h0f2, .ref h3, .ref h4, .ref h5, .int h0f6, .ref h6, .int h0f8, .null, .ref h7, .int h0f11, .ref h8, .ref h9, .ref h10, .ref h11, .ref h12])] _ := hT
    exfalso; omega
  · skip
    have hT := J _ hT1
    have hT : TP D A [(h0, ob 7 [.ref h1, .ref h2, .int h0f2, .ref h3, .ref h4, .ref h5, .int h0f6, .ref h6, .int h0f8, .null, .ref h7, .int h0f11, .ref h8, .ref h9, .ref h10, .ref h11, .ref h12])] _ := hT
    exfalso; omega
  · skip
    have hT := J _ hT1
    have hT : TP D A [(h0, ob 7 [.ref h1, .ref h2, .int h0f2, .ref h3, .ref h4, .ref h5, .int h0f6, .ref h6, .int h0f8, .null, .ref h7, .int h0f11, .ref h8, .ref h9, .ref h10, .ref h11, .ref h12])] _ := hT
    exfalso; omega
  · skip
    have hT := J _ hT1
    have hT : TP D A [(h0, ob 7 [.ref h1, .ref h2, .int h0f2, .ref h3, .ref h4, .ref h5, .int h0f6, .ref h6, .int h0f8, .null, .ref h7, .int h0f11, .ref h8, .ref h9, .ref h10, .ref h11, .ref h12])] _ := hT
    refine lv_if_ne (tgt := 9) hx hb dX10_faithful_4 (by decide) (fun cc => absurd (by decide +kernel) cc) (fun _ => ?_)
    refine lv_iconst (v := (-1)) hx hb dX10_faithful_7 (by decide) ?_
    exact tz_retI (B := B_cX10_faithful_342b9 D k h0 h1 h2 h3 h4 h5 h6 h7 h8 h9 h10 h11 h12 x1 h0f2 h0f6 h0f8 h0f11) (v := (-1)) hQ hx hb hr hlocks hS (Nat.le_of_ble_eq_true rfl) (Nat.le_of_ble_eq_true rfl) dX10_faithful_8 (⟨rfl, hT⟩)
  · skip
    have hT := J _ hT1
    have hT : TP D A [(h0, ob 7 [.ref h1, .ref h2, .int h0f2, .ref h3, .ref h4, .ref h5, .int h0f6, .ref h6, .int h0f8, .null, .ref h7, .int h0f11, .ref h8, .ref h9, .ref h10, .ref h11, .ref h12])] _ := hT
    exfalso; omega
abbrev Rm_cX10_faithful_cca6e : Room := { frames := 6, cells := 9, slots := 16296, locals := 149 }
abbrev B_cX10_faithful_cca6e (D : va_G) (k : Nat → ClassId) (h0 h1 h5 h8 h11 h13 h21 h22 h23 h24 h25 h26 h27 h28 h2 h3 h4 h6 h7 h9 h10 h12 : Nat) (x1 : Int32) (h0f2 : Int32) (h0f6 : Int32) (h0f8 : Int32) (h0f11 : Int32) (h1f0 : Int32) (h1f1 : Int32) (h1f2 : Int32) (h5f8 : Int32) (h5f9 : Int32) (h5f10 : Int32) (h5f11 : Int32) (h8f1 : Int32) (A : Nat → Prop) (r : Int32) (H : Heap) : Prop := ∃ n0 : Nat, ∃ n1 : Nat, ∃ n2 : Nat, ∃ n3 : Nat, ∃ n4 : Nat, ∃ n5 : Nat, ∃ n6 : Nat, ∃ n7 : Nat, ∃ n8 : Nat, ∃ o0 : Int32, ∃ o1 : Int32, ∃ o2 : Int32, ∃ o3 : Int32, ∃ o4 : Int32, ∃ o5 : Int32, ∃ o6 : Int32, ∃ o7 : Int32, (1 ≤ o0.toInt ∧ o0.toInt ≤ 1) ∧ (0 ≤ o1.toInt ∧ o1.toInt ≤ 9) ∧ (0 ≤ o2.toInt ∧ o2.toInt ≤ 100) ∧ (0 ≤ o3.toInt ∧ o3.toInt ≤ 100) ∧ (0 ≤ o4.toInt ∧ o4.toInt ≤ 1) ∧ (0 ≤ o5.toInt ∧ o5.toInt ≤ 7) ∧ (1 ≤ o6.toInt ∧ o6.toInt ≤ 9) ∧ (0 ≤ o7.toInt ∧ o7.toInt ≤ 400) ∧ (0 ≤ r.toInt ∧ r.toInt ≤ 1) ∧ TP D A [(h0, ob 7 [.ref h1, .ref h2, .int h0f2, .ref h3, .ref h4, .ref h5, .int o0, .ref h6, .int h0f8, .ref n0, .ref h7, .int h0f11, .ref h8, .ref h9, .ref h10, .ref h11, .ref h12]), (h1, ob 4 [.int h1f0, .int h1f1, .int h1f2, .ref h13]), (h5, ob 3 [.ref h21, .ref h22, .ref h23, .ref h24, .ref h25, .ref h26, .ref h27, .ref h28, .int o1, .int o2, .int o3, .int o4]), (h8, ob 2 [.ref h1, .int o5]), (h11, aJ (k 1) 9 anJ), (h13, aJ (k 1) 36 anJ), (h21, aJ (k 1) 900 anJ), (h22, aI (k 0) 100 anI), (h23, aI (k 0) 100 anI), (h24, aI (k 0) 100 anI), (h25, aI (k 0) 400 anI), (h26, aI (k 0) 256 (rgI (-1) 99)), (h27, aI (k 0) 100 (rgI (-1) 99)), (h28, aJ (k 1) 60 anJ), (n0, ob 3 [.ref n1, .ref n2, .ref n3, .ref n4, .ref n5, .ref n6, .ref n7, .ref n8, .int o6, .int 400, .int o7, .int 0]), (n1, aJ (k 1) 12000 anJ), (n2, aI (k 0) 400 anI), (n3, aI (k 0) 400 anI), (n4, aI (k 0) 400 anI), (n5, aI (k 0) 1600 anI), (n6, aI (k 0) 1024 anI), (n7, aI (k 0) 400 anI), (n8, aJ (k 1) 60 anJ)] H
set_option maxHeartbeats 4000000 in
set_option maxRecDepth 100000 in
theorem cX10_faithful_cca6e (l : Launch) (D : va_G) (k : Nat → ClassId) (sz : Nat) (h0 h1 h5 h8 h11 h13 h21 h22 h23 h24 h25 h26 h27 h28 h2 h3 h4 h6 h7 h9 h10 h12 : Nat) (x1 : Int32) (h0f2 : Int32) (h0f6 : Int32) (h0f8 : Int32) (h0f11 : Int32) (h1f0 : Int32) (h1f1 : Int32) (h1f2 : Int32) (h5f8 : Int32) (h5f9 : Int32) (h5f10 : Int32) (h5f11 : Int32) (h8f1 : Int32) (b_x1 : 5 ≤ x1.toInt ∧ x1.toInt ≤ 5) (b_h0f2 : 0 ≤ h0f2.toInt ∧ h0f2.toInt ≤ 1) (b_h0f6 : 0 ≤ h0f6.toInt ∧ h0f6.toInt ≤ 1) (b_h0f8 : 0 ≤ h0f8.toInt ∧ h0f8.toInt ≤ 1) (b_h0f11 : 0 ≤ h0f11.toInt ∧ h0f11.toInt ≤ 200) (b_h1f0 : 1 ≤ h1f0.toInt ∧ h1f0.toInt ≤ 3) (b_h1f1 : 0 ≤ h1f1.toInt ∧ h1f1.toInt ≤ 4) (b_h5f8 : 0 ≤ h5f8.toInt ∧ h5f8.toInt ≤ 9) (b_h5f9 : 0 ≤ h5f9.toInt ∧ h5f9.toInt ≤ 100) (b_h5f10 : 0 ≤ h5f10.toInt ∧ h5f10.toInt ≤ 100) (b_h5f11 : 0 ≤ h5f11.toInt ∧ h5f11.toInt ≤ 1) (b_h8f1 : 0 ≤ h8f1.toInt ∧ h8f1.toInt ≤ 7) : Met l yX10_faithful (Cond.code yX10_faithful cX10_faithful 2 (some .int) :: uw) Rm_cX10_faithful_cca6e (pT D k sz [.ref h0, .int x1] [(h0, ob 7 [.ref h1, .ref h2, .int h0f2, .ref h3, .ref h4, .ref h5, .int h0f6, .ref h6, .int h0f8, .null, .ref h7, .int h0f11, .ref h8, .ref h9, .ref h10, .ref h11, .ref h12]), (h1, ob 4 [.int h1f0, .int h1f1, .int h1f2, .ref h13]), (h5, ob 3 [.ref h21, .ref h22, .ref h23, .ref h24, .ref h25, .ref h26, .ref h27, .ref h28, .int h5f8, .int h5f9, .int h5f10, .int h5f11]), (h8, ob 2 [.ref h1, .int h8f1]), (h11, aJ (k 1) 9 anJ), (h13, aJ (k 1) 36 anJ), (h21, aJ (k 1) 900 anJ), (h22, aI (k 0) 100 anI), (h23, aI (k 0) 100 anI), (h24, aI (k 0) 100 anI), (h25, aI (k 0) 400 anI), (h26, aI (k 0) 256 (rgI (-1) 99)), (h27, aI (k 0) 100 (rgI (-1) 99)), (h28, aJ (k 1) 60 anJ)]) (qI (B_cX10_faithful_cca6e D k h0 h1 h5 h8 h11 h13 h21 h22 h23 h24 h25 h26 h27 h28 h2 h3 h4 h6 h7 h9 h10 h12 x1 h0f2 h0f6 h0f8 h0f11 h1f0 h1f1 h1f2 h5f8 h5f9 h5f10 h5f11 h8f1 (zA [h0, h1, h5, h8, h11, h13, h21, h22, h23, h24, h25, h26, h27, h28] sz)) (zA [h0, h1, h5, h8, h11, h13, h21, h22, h23, h24, h25, h26, h27, h28] sz)) 9 16296 (zA [h0, h1, h5, h8, h11, h13, h21, h22, h23, h24, h25, h26, h27, h28] sz) := by
  refine tz_begin (as := [h0, h1, h5, h8, h11, h13, h21, h22, h23, h24, h25, h26, h27, h28]) (Qc := fun A => qI (B_cX10_faithful_cca6e D k h0 h1 h5 h8 h11 h13 h21 h22 h23 h24 h25 h26 h27 h28 h2 h3 h4 h6 h7 h9 h10 h12 x1 h0f2 h0f6 h0f8 h0f11 h1f0 h1f1 h1f2 h5f8 h5f9 h5f10 h5f11 h8f1 A) A) (by decide +kernel) rfl (Nat.le_of_ble_eq_true rfl) ?_
  intro p e s m args below meth c ls A Q hx hb hr hml hown hlocks hin hU hK hT hS hA hl hQ
  have hl : lv_has ls 2 [(0, .ref h0), (1, .int x1)] := hl
  have hT : TP D A [(h0, ob 7 [.ref h1, .ref h2, .int h0f2, .ref h3, .ref h4, .ref h5, .int h0f6, .ref h6, .int h0f8, .null, .ref h7, .int h0f11, .ref h8, .ref h9, .ref h10, .ref h11, .ref h12]), (h1, ob 4 [.int h1f0, .int h1f1, .int h1f2, .ref h13]), (h5, ob 3 [.ref h21, .ref h22, .ref h23, .ref h24, .ref h25, .ref h26, .ref h27, .ref h28, .int h5f8, .int h5f9, .int h5f10, .int h5f11]), (h8, ob 2 [.ref h1, .int h8f1]), (h11, aJ (k 1) 9 anJ), (h13, aJ (k 1) 36 anJ), (h21, aJ (k 1) 900 anJ), (h22, aI (k 0) 100 anI), (h23, aI (k 0) 100 anI), (h24, aI (k 0) 100 anI), (h25, aI (k 0) 400 anI), (h26, aI (k 0) 256 (rgI (-1) 99)), (h27, aI (k 0) 100 (rgI (-1) 99)), (h28, aJ (k 1) 60 anJ)] s.heap := hT
  refine lv_iload_n hx hb dX10_faithful_0 rfl (lv_at hl 1 rfl) ?_
  refine tcI (Tc := []) (Tr := [(h0, ob 7 [.ref h1, .ref h2, .int h0f2, .ref h3, .ref h4, .ref h5, .int h0f6, .ref h6, .int h0f8, .null, .ref h7, .int h0f11, .ref h8, .ref h9, .ref h10, .ref h11, .ref h12]), (h1, ob 4 [.int h1f0, .int h1f1, .int h1f2, .ref h13]), (h5, ob 3 [.ref h21, .ref h22, .ref h23, .ref h24, .ref h25, .ref h26, .ref h27, .ref h28, .int h5f8, .int h5f9, .int h5f10, .int h5f11]), (h8, ob 2 [.ref h1, .int h8f1]), (h11, aJ (k 1) 9 anJ), (h13, aJ (k 1) 36 anJ), (h21, aJ (k 1) 900 anJ), (h22, aI (k 0) 100 anI), (h23, aI (k 0) 100 anI), (h24, aI (k 0) 100 anI), (h25, aI (k 0) 400 anI), (h26, aI (k 0) 256 (rgI (-1) 99)), (h27, aI (k 0) 100 (rgI (-1) 99)), (h28, aJ (k 1) 60 anJ)]) (as := []) (zcS (As := [.int x1]) (rest := []) (Tc := []) hx hb hml hown hU hK hT [] rfl (by decide) (cX10_isPrimeTaken_a0e73 l D k _ x1) w664 w662 w663 w63 hdX10_isPrimeTaken ⟨rfl, rfl⟩ ⟨Nat.le_of_ble_eq_true rfl, Nat.le_of_ble_eq_true rfl⟩ rfl hl.1 (Nat.le_of_ble_eq_true rfl) dX10_faithful_1 ⟨Nat.le_of_ble_eq_true rfl, Nat.le_of_ble_eq_true rfl⟩) hT hS hA [] [0, 1, 2, 3, 4, 5, 6, 7, 8, 9, 10, 11, 12, 13] rfl rfl rfl (by decide) (by decide) (fun r1 H locs hB J hS => ?_)
  rcases hB with ⟨c_2, rfl, hT1⟩ | ⟨c_3, c_4, rfl, hT1⟩ | ⟨c_5, c_6, c_7, rfl, hT1⟩ | ⟨c_8, c_9, c_10, c_11, rfl, hT1⟩ | ⟨c_12, c_13, c_14, c_15, rfl, hT1⟩
  · skip
    have hT := J _ hT1
    have hT : TP D A [(h0, ob 7 [.ref h1, .ref h2, .int h0f2, .ref h3, .ref h4, .ref h5, .int h0f6, .ref h6, .int h0f8, .null, .ref h7, .int h0f11, .ref h8, .ref h9, .ref h10, .ref h11, .ref h12]), (h1, ob 4 [.int h1f0, .int h1f1, .int h1f2, .ref h13]), (h5, ob 3 [.ref h21, .ref h22, .ref h23, .ref h24, .ref h25, .ref h26, .ref h27, .ref h28, .int h5f8, .int h5f9, .int h5f10, .int h5f11]), (h8, ob 2 [.ref h1, .int h8f1]), (h11, aJ (k 1) 9 anJ), (h13, aJ (k 1) 36 anJ), (h21, aJ (k 1) 900 anJ), (h22, aI (k 0) 100 anI), (h23, aI (k 0) 100 anI), (h24, aI (k 0) 100 anI), (h25, aI (k 0) 400 anI), (h26, aI (k 0) 256 (rgI (-1) 99)), (h27, aI (k 0) 100 (rgI (-1) 99)), (h28, aJ (k 1) 60 anJ)] _ := hT
    exfalso; omega
  · skip
    have hT := J _ hT1
    have hT : TP D A [(h0, ob 7 [.ref h1, .ref h2, .int h0f2, .ref h3, .ref h4, .ref h5, .int h0f6, .ref h6, .int h0f8, .null, .ref h7, .int h0f11, .ref h8, .ref h9, .ref h10, .ref h11, .ref h12]), (h1, ob 4 [.int h1f0, .int h1f1, .int h1f2, .ref h13]), (h5, ob 3 [.ref h21, .ref h22, .ref h23, .ref h24, .ref h25, .ref h26, .ref h27, .ref h28, .int h5f8, .int h5f9, .int h5f10, .int h5f11]), (h8, ob 2 [.ref h1, .int h8f1]), (h11, aJ (k 1) 9 anJ), (h13, aJ (k 1) 36 anJ), (h21, aJ (k 1) 900 anJ), (h22, aI (k 0) 100 anI), (h23, aI (k 0) 100 anI), (h24, aI (k 0) 100 anI), (h25, aI (k 0) 400 anI), (h26, aI (k 0) 256 (rgI (-1) 99)), (h27, aI (k 0) 100 (rgI (-1) 99)), (h28, aJ (k 1) 60 anJ)] _ := hT
    exfalso; omega
  · skip
    have hT := J _ hT1
    have hT : TP D A [(h0, ob 7 [.ref h1, .ref h2, .int h0f2, .ref h3, .ref h4, .ref h5, .int h0f6, .ref h6, .int h0f8, .null, .ref h7, .int h0f11, .ref h8, .ref h9, .ref h10, .ref h11, .ref h12]), (h1, ob 4 [.int h1f0, .int h1f1, .int h1f2, .ref h13]), (h5, ob 3 [.ref h21, .ref h22, .ref h23, .ref h24, .ref h25, .ref h26, .ref h27, .ref h28, .int h5f8, .int h5f9, .int h5f10, .int h5f11]), (h8, ob 2 [.ref h1, .int h8f1]), (h11, aJ (k 1) 9 anJ), (h13, aJ (k 1) 36 anJ), (h21, aJ (k 1) 900 anJ), (h22, aI (k 0) 100 anI), (h23, aI (k 0) 100 anI), (h24, aI (k 0) 100 anI), (h25, aI (k 0) 400 anI), (h26, aI (k 0) 256 (rgI (-1) 99)), (h27, aI (k 0) 100 (rgI (-1) 99)), (h28, aJ (k 1) 60 anJ)] _ := hT
    refine lv_if_ne (tgt := 9) hx hb dX10_faithful_4 (by decide) (fun _ => ?_) (fun cc => absurd cc (by decide +kernel))
    refine lv_aload_n hx hb dX10_faithful_9 rfl (lv_at hl 0 rfl) ?_
    refine tcV (Tc := [(h0, ob 7 [.ref h1, .ref h2, .int h0f2, .ref h3, .ref h4, .ref h5, .int h0f6, .ref h6, .int h0f8, .null, .ref h7, .int h0f11, .ref h8, .ref h9, .ref h10, .ref h11, .ref h12]), (h1, ob 4 [.int h1f0, .int h1f1, .int h1f2, .ref h13]), (h5, ob 3 [.ref h21, .ref h22, .ref h23, .ref h24, .ref h25, .ref h26, .ref h27, .ref h28, .int h5f8, .int h5f9, .int h5f10, .int h5f11]), (h8, ob 2 [.ref h1, .int h8f1]), (h11, aJ (k 1) 9 anJ), (h13, aJ (k 1) 36 anJ), (h21, aJ (k 1) 900 anJ), (h22, aI (k 0) 100 anI), (h23, aI (k 0) 100 anI), (h24, aI (k 0) 100 anI), (h25, aI (k 0) 400 anI), (h26, aI (k 0) 256 (rgI (-1) 99)), (h27, aI (k 0) 100 (rgI (-1) 99)), (h28, aJ (k 1) 60 anJ)]) (Tr := []) (as := [h0, h1, h5, h8, h11, h13, h21, h22, h23, h24, h25, h26, h27, h28]) (zcV (q0 := 0) (ci := 7) (As := []) (rest := []) (Tc := [(h0, ob 7 [.ref h1, .ref h2, .int h0f2, .ref h3, .ref h4, .ref h5, .int h0f6, .ref h6, .int h0f8, .null, .ref h7, .int h0f11, .ref h8, .ref h9, .ref h10, .ref h11, .ref h12]), (h1, ob 4 [.int h1f0, .int h1f1, .int h1f2, .ref h13]), (h5, ob 3 [.ref h21, .ref h22, .ref h23, .ref h24, .ref h25, .ref h26, .ref h27, .ref h28, .int h5f8, .int h5f9, .int h5f10, .int h5f11]), (h8, ob 2 [.ref h1, .int h8f1]), (h11, aJ (k 1) 9 anJ), (h13, aJ (k 1) 36 anJ), (h21, aJ (k 1) 900 anJ), (h22, aI (k 0) 100 anI), (h23, aI (k 0) 100 anI), (h24, aI (k 0) 100 anI), (h25, aI (k 0) 400 anI), (h26, aI (k 0) 256 (rgI (-1) 99)), (h27, aI (k 0) 100 (rgI (-1) 99)), (h28, aJ (k 1) 60 anJ)]) hx hb hml hown hU hK hT rfl rfl [0, 1, 2, 3, 4, 5, 6, 7, 8, 9, 10, 11, 12, 13] rfl (by decide) (cX10_listAll_fe300 l D k _ h0 h1 h5 h8 h11 h13 h21 h22 h23 h24 h25 h26 h27 h28 h2 h3 h4 h6 h7 h9 h10 h12 h0f2 h0f6 h0f8 h0f11 h1f0 h1f1 h1f2 h5f8 h5f9 h5f10 h5f11 h8f1 (by omega) (by omega) (by omega) (by omega) (by omega) (by omega) (by omega) (by omega) (by omega) (by omega) (by omega)) w492 w489 w491 w10 w63 hdX10_listAll ⟨rfl, rfl⟩ ⟨Nat.le_of_ble_eq_true rfl, Nat.le_of_ble_eq_true rfl⟩ rfl hl.1 (Nat.le_of_ble_eq_true rfl) dX10_faithful_10 ⟨Nat.le_of_ble_eq_true rfl, Nat.le_of_ble_eq_true rfl⟩) hT hS hA [0, 1, 2, 3, 4, 5, 6, 7, 8, 9, 10, 11, 12, 13] [] rfl rfl rfl (by decide) (by decide) (fun H locs hB J hS => ?_)
    obtain ⟨v17, v18, v19, v20, v21, v22, b_v17, b_v18, b_v19, b_v20, b_v21, b_v22, hT1⟩ := hB
    have hT := J _ hT1
    have hT : TP D A [(h0, ob 7 [.ref h1, .ref h2, .int h0f2, .ref h3, .ref h4, .ref h5, .int v17, .ref h6, .int h0f8, .null, .ref h7, .int h0f11, .ref h8, .ref h9, .ref h10, .ref h11, .ref h12]), (h1, ob 4 [.int h1f0, .int h1f1, .int h1f2, .ref h13]), (h5, ob 3 [.ref h21, .ref h22, .ref h23, .ref h24, .ref h25, .ref h26, .ref h27, .ref h28, .int v18, .int v19, .int v20, .int v21]), (h8, ob 2 [.ref h1, .int v22]), (h11, aJ (k 1) 9 anJ), (h13, aJ (k 1) 36 anJ), (h21, aJ (k 1) 900 anJ), (h22, aI (k 0) 100 anI), (h23, aI (k 0) 100 anI), (h24, aI (k 0) 100 anI), (h25, aI (k 0) 400 anI), (h26, aI (k 0) 256 (rgI (-1) 99)), (h27, aI (k 0) 100 (rgI (-1) 99)), (h28, aJ (k 1) 60 anJ)] _ := hT
    refine lv_aload_n hx hb dX10_faithful_13 rfl (lv_at hl 0 rfl) ?_
    refine lv_iload_n hx hb dX10_faithful_14 rfl (lv_at hl 1 rfl) ?_
    refine tcI (Tc := [(h0, ob 7 [.ref h1, .ref h2, .int h0f2, .ref h3, .ref h4, .ref h5, .int v17, .ref h6, .int h0f8, .null, .ref h7, .int h0f11, .ref h8, .ref h9, .ref h10, .ref h11, .ref h12]), (h1, ob 4 [.int h1f0, .int h1f1, .int h1f2, .ref h13]), (h5, ob 3 [.ref h21, .ref h22, .ref h23, .ref h24, .ref h25, .ref h26, .ref h27, .ref h28, .int v18, .int v19, .int v20, .int v21]), (h11, aJ (k 1) 9 anJ), (h21, aJ (k 1) 900 anJ)]) (Tr := [(h8, ob 2 [.ref h1, .int v22]), (h13, aJ (k 1) 36 anJ), (h22, aI (k 0) 100 anI), (h23, aI (k 0) 100 anI), (h24, aI (k 0) 100 anI), (h25, aI (k 0) 400 anI), (h26, aI (k 0) 256 (rgI (-1) 99)), (h27, aI (k 0) 100 (rgI (-1) 99)), (h28, aJ (k 1) 60 anJ)]) (as := [h0, h1, h5, h11, h21]) (zcV (q0 := 0) (ci := 7) (As := [.int x1]) (rest := []) (Tc := [(h0, ob 7 [.ref h1, .ref h2, .int h0f2, .ref h3, .ref h4, .ref h5, .int v17, .ref h6, .int h0f8, .null, .ref h7, .int h0f11, .ref h8, .ref h9, .ref h10, .ref h11, .ref h12]), (h1, ob 4 [.int h1f0, .int h1f1, .int h1f2, .ref h13]), (h5, ob 3 [.ref h21, .ref h22, .ref h23, .ref h24, .ref h25, .ref h26, .ref h27, .ref h28, .int v18, .int v19, .int v20, .int v21]), (h11, aJ (k 1) 9 anJ), (h21, aJ (k 1) 900 anJ)]) hx hb hml hown hU hK hT rfl rfl [0, 1, 2, 4, 6] rfl (by decide) (cX10_areApartBy_0198b l D k _ h0 h1 h5 h11 h21 h2 h3 h4 h6 h7 h8 h9 h10 h12 h13 h22 h23 h24 h25 h26 h27 h28 x1 h0f2 v17 h0f8 h0f11 h1f0 h1f1 h1f2 v18 v19 v20 v21 (by omega) (by omega) (by omega) (by omega) (by omega) (by omega) (by omega) (by omega) (by omega) (by omega) (by omega)) w680 w677 w679 w23 w63 hdX10_areApartBy ⟨rfl, rfl⟩ ⟨Nat.le_of_ble_eq_true rfl, Nat.le_of_ble_eq_true rfl⟩ rfl hl.1 (Nat.le_of_ble_eq_true rfl) dX10_faithful_15 ⟨Nat.le_of_ble_eq_true rfl, Nat.le_of_ble_eq_true rfl⟩) hT hS hA [0, 1, 2, 4, 6] [3, 5, 7, 8, 9, 10, 11, 12, 13] rfl rfl rfl (by decide) (by decide) (fun r23 H locs hB J hS => ?_)
    obtain ⟨q24, q25, q26, q27, q28, q29, q30, q31, q32, v33, v34, b_v33, b_v34, b_r23, hT1⟩ := hB
    have hT := J _ hT1
    have hT : TP D A [(h8, ob 2 [.ref h1, .int v22]), (h13, aJ (k 1) 36 anJ), (h22, aI (k 0) 100 anI), (h23, aI (k 0) 100 anI), (h24, aI (k 0) 100 anI), (h25, aI (k 0) 400 anI), (h26, aI (k 0) 256 (rgI (-1) 99)), (h27, aI (k 0) 100 (rgI (-1) 99)), (h28, aJ (k 1) 60 anJ), (h0, ob 7 [.ref h1, .ref h2, .int h0f2, .ref h3, .ref h4, .ref h5, .int v17, .ref h6, .int h0f8, .ref q24, .ref h7, .int h0f11, .ref h8, .ref h9, .ref h10, .ref h11, .ref h12]), (h1, ob 4 [.int h1f0, .int h1f1, .int h1f2, .ref h13]), (h5, ob 3 [.ref h21, .ref h22, .ref h23, .ref h24, .ref h25, .ref h26, .ref h27, .ref h28, .int v18, .int v19, .int v20, .int v21]), (h11, aJ (k 1) 9 anJ), (h21, aJ (k 1) 900 anJ), (q24, ob 3 [.ref q25, .ref q26, .ref q27, .ref q28, .ref q29, .ref q30, .ref q31, .ref q32, .int v33, .int 400, .int v34, .int 0]), (q25, aJ (k 1) 12000 anJ), (q26, aI (k 0) 400 anI), (q27, aI (k 0) 400 anI), (q28, aI (k 0) 400 anI), (q29, aI (k 0) 1600 anI), (q30, aI (k 0) 1024 anI), (q31, aI (k 0) 400 anI), (q32, aJ (k 1) 60 anJ)] _ := hT
    refine lv_if_eq (tgt := 25) hx hb dX10_faithful_18 (by decide) (fun c_35 => ?_) (fun c_35 => ?_)
    · skip
      have c_35 := ni_eq c_35 rfl li_0
      refine lv_iconst (v := 0) hx hb dX10_faithful_25 (by decide) ?_
      exact tz_retI (B := B_cX10_faithful_cca6e D k h0 h1 h5 h8 h11 h13 h21 h22 h23 h24 h25 h26 h27 h28 h2 h3 h4 h6 h7 h9 h10 h12 x1 h0f2 h0f6 h0f8 h0f11 h1f0 h1f1 h1f2 h5f8 h5f9 h5f10 h5f11 h8f1) (v := 0) hQ hx hb hr hlocks hS (Nat.le_of_ble_eq_true rfl) (Nat.le_of_ble_eq_true rfl) dX10_faithful_26 (⟨q24, q25, q26, q27, q28, q29, q30, q31, q32, v17, v18, v19, v20, v21, v22, v33, v34, (by have := li_0; omega), (by have := li_0; omega), (by have := li_0; omega), (by have := li_0; omega), (by have := li_0; omega), (by have := li_0; omega), (by have := li_0; omega), (by have := li_0; omega), (by have := li_0; omega), (hT.sub [9, 10, 11, 0, 12, 1, 13, 2, 3, 4, 5, 6, 7, 8, 14, 15, 16, 17, 18, 19, 20, 21, 22] (by decide) rfl)⟩)
    · skip
      have c_35 := ni_ne c_35 rfl li_0
      refine lv_iconst (v := 1) hx hb dX10_faithful_21 (by decide) ?_
      refine lv_goto (tgt := 26) hx hb dX10_faithful_22 (by decide) ?_
      exact tz_retI (B := B_cX10_faithful_cca6e D k h0 h1 h5 h8 h11 h13 h21 h22 h23 h24 h25 h26 h27 h28 h2 h3 h4 h6 h7 h9 h10 h12 x1 h0f2 h0f6 h0f8 h0f11 h1f0 h1f1 h1f2 h5f8 h5f9 h5f10 h5f11 h8f1) (v := 1) hQ hx hb hr hlocks hS (Nat.le_of_ble_eq_true rfl) (Nat.le_of_ble_eq_true rfl) dX10_faithful_26 (⟨q24, q25, q26, q27, q28, q29, q30, q31, q32, v17, v18, v19, v20, v21, v22, v33, v34, (by have := li_1; omega), (by have := li_1; omega), (by have := li_1; omega), (by have := li_1; omega), (by have := li_1; omega), (by have := li_1; omega), (by have := li_1; omega), (by have := li_1; omega), (by have := li_1; omega), (hT.sub [9, 10, 11, 0, 12, 1, 13, 2, 3, 4, 5, 6, 7, 8, 14, 15, 16, 17, 18, 19, 20, 21, 22] (by decide) rfl)⟩)
  · skip
    have hT := J _ hT1
    have hT : TP D A [(h0, ob 7 [.ref h1, .ref h2, .int h0f2, .ref h3, .ref h4, .ref h5, .int h0f6, .ref h6, .int h0f8, .null, .ref h7, .int h0f11, .ref h8, .ref h9, .ref h10, .ref h11, .ref h12]), (h1, ob 4 [.int h1f0, .int h1f1, .int h1f2, .ref h13]), (h5, ob 3 [.ref h21, .ref h22, .ref h23, .ref h24, .ref h25, .ref h26, .ref h27, .ref h28, .int h5f8, .int h5f9, .int h5f10, .int h5f11]), (h8, ob 2 [.ref h1, .int h8f1]), (h11, aJ (k 1) 9 anJ), (h13, aJ (k 1) 36 anJ), (h21, aJ (k 1) 900 anJ), (h22, aI (k 0) 100 anI), (h23, aI (k 0) 100 anI), (h24, aI (k 0) 100 anI), (h25, aI (k 0) 400 anI), (h26, aI (k 0) 256 (rgI (-1) 99)), (h27, aI (k 0) 100 (rgI (-1) 99)), (h28, aJ (k 1) 60 anJ)] _ := hT
    exfalso; omega
  · skip
    have hT := J _ hT1
    have hT : TP D A [(h0, ob 7 [.ref h1, .ref h2, .int h0f2, .ref h3, .ref h4, .ref h5, .int h0f6, .ref h6, .int h0f8, .null, .ref h7, .int h0f11, .ref h8, .ref h9, .ref h10, .ref h11, .ref h12]), (h1, ob 4 [.int h1f0, .int h1f1, .int h1f2, .ref h13]), (h5, ob 3 [.ref h21, .ref h22, .ref h23, .ref h24, .ref h25, .ref h26, .ref h27, .ref h28, .int h5f8, .int h5f9, .int h5f10, .int h5f11]), (h8, ob 2 [.ref h1, .int h8f1]), (h11, aJ (k 1) 9 anJ), (h13, aJ (k 1) 36 anJ), (h21, aJ (k 1) 900 anJ), (h22, aI (k 0) 100 anI), (h23, aI (k 0) 100 anI), (h24, aI (k 0) 100 anI), (h25, aI (k 0) 400 anI), (h26, aI (k 0) 256 (rgI (-1) 99)), (h27, aI (k 0) 100 (rgI (-1) 99)), (h28, aJ (k 1) 60 anJ)] _ := hT
    exfalso; omega
