abbrev Rm_cX11_takesOut_a13ae : Room := { frames := 0, cells := 0, slots := 0, locals := 0 }
abbrev B_cX11_takesOut_a13ae (D : va_G) (k : Nat → ClassId) (h0 h4 h5 h7 h1 h2 h3 h6 h8 h9 h10 h11 h12 h13 h14 h15 h16 h17 h18 h19 h20 h21 : Nat) (x1 : Int32) (x2 : Int32) (x3 : Int32) (h0f0 : Int32) (h0f1 : Int32) (h0f2 : Int32) (h0f3 : Int32) (h0f4 : Int32) (h0f5 : Int32) (h0f8 : Int32) (h0f9 : Int32) (h0f17 : Int32) (h0f18 : Int32) (h0f19 : Int32) (h0f24 : Int32) (h0f25 : Int32) (h0f30 : Int32) (h0f31 : Int32) (A : Nat → Prop) (r : Int32) (H : Heap) : Prop := (0 = r ∧ TP D A [(h0, ob 8 [.int h0f0, .int h0f1, .int h0f2, .int h0f3, .int h0f4, .int h0f5, .ref h1, .ref h2, .int h0f8, .int h0f9, .ref h3, .ref h4, .ref h5, .ref h6, .ref h7, .ref h8, .ref h9, .int h0f17, .int h0f18, .int h0f19, .ref h10, .ref h11, .ref h12, .ref h13, .int h0f24, .int h0f25, .ref h14, .ref h15, .ref h16, .ref h17, .int h0f30, .int h0f31, .ref h18, .ref h19, .ref h20, .ref h21]), (h4, aJ (k 1) 9 anJ), (h5, aJ (k 1) 9 anJ), (h7, aJ (k 1) 4 anJ)] H) ∨ (∃ o0 : Int64, ∃ o1 : Int64, (0 ≤ o1.toInt ∧ o1.toInt ≤ 0) ∧ h0f8.toInt ≤ h0f3.toInt ∧ h0f9.toInt ≤ h0f24.toInt ∧ x1.toInt = 1 ∧ o0.toInt ≠ 0 ∧ x1.toInt ≤ 2 ∧ x1.toInt ≠ 2 ∧ x1.toInt ≤ 1 ∧ 0 < x1.toInt ∧ o1.toInt = 0 ∧ 1 = r ∧ TP D A [(h0, ob 8 [.int h0f0, .int h0f1, .int h0f2, .int h0f3, .int h0f4, .int h0f5, .ref h1, .ref h2, .int h0f8, .int h0f9, .ref h3, .ref h4, .ref h5, .ref h6, .ref h7, .ref h8, .ref h9, .int h0f17, .int h0f18, .int h0f19, .ref h10, .ref h11, .ref h12, .ref h13, .int h0f24, .int h0f25, .ref h14, .ref h15, .ref h16, .ref h17, .int h0f30, .int h0f31, .ref h18, .ref h19, .ref h20, .ref h21]), (h4, aJ (k 1) 9 anJ), (h5, aJ (k 1) 9 anJ), (h7, aJ (k 1) 4 (zJ [2, 3]))] H) ∨ (∃ o0 : Int64, ∃ o1 : Int64, ∃ o2 : Int64, (0 ≤ o0.toInt ∧ o0.toInt ≤ 0) ∧ (0 ≤ o2.toInt ∧ o2.toInt ≤ 0) ∧ h0f8.toInt ≤ h0f3.toInt ∧ h0f9.toInt ≤ h0f24.toInt ∧ x1.toInt = 1 ∧ o0.toInt = 0 ∧ o1.toInt ≠ 0 ∧ x1.toInt ≤ 1 ∧ x1.toInt ≠ 2 ∧ 0 < x1.toInt ∧ o2.toInt = 0 ∧ 1 = r ∧ TP D A [(h0, ob 8 [.int h0f0, .int h0f1, .int h0f2, .int h0f3, .int h0f4, .int h0f5, .ref h1, .ref h2, .int h0f8, .int h0f9, .ref h3, .ref h4, .ref h5, .ref h6, .ref h7, .ref h8, .ref h9, .int h0f17, .int h0f18, .int h0f19, .ref h10, .ref h11, .ref h12, .ref h13, .int h0f24, .int h0f25, .ref h14, .ref h15, .ref h16, .ref h17, .int h0f30, .int h0f31, .ref h18, .ref h19, .ref h20, .ref h21]), (h4, aJ (k 1) 9 anJ), (h5, aJ (k 1) 9 anJ), (h7, aJ (k 1) 4 (zJ [2, 3]))] H) ∨ (∃ o0 : Int64, ∃ o1 : Int64, ∃ o2 : Int64, (0 ≤ o1.toInt ∧ o1.toInt ≤ 0) ∧ (0 ≤ o2.toInt ∧ o2.toInt ≤ 0) ∧ h0f8.toInt ≤ h0f3.toInt ∧ h0f9.toInt ≤ h0f24.toInt ∧ x1.toInt = 2 ∧ o0.toInt ≠ 0 ∧ x1.toInt ≤ 2 ∧ 1 < x1.toInt ∧ o1.toInt = 0 ∧ o2.toInt = 0 ∧ 1 = r ∧ TP D A [(h0, ob 8 [.int h0f0, .int h0f1, .int h0f2, .int h0f3, .int h0f4, .int h0f5, .ref h1, .ref h2, .int h0f8, .int h0f9, .ref h3, .ref h4, .ref h5, .ref h6, .ref h7, .ref h8, .ref h9, .int h0f17, .int h0f18, .int h0f19, .ref h10, .ref h11, .ref h12, .ref h13, .int h0f24, .int h0f25, .ref h14, .ref h15, .ref h16, .ref h17, .int h0f30, .int h0f31, .ref h18, .ref h19, .ref h20, .ref h21]), (h4, aJ (k 1) 9 anJ), (h5, aJ (k 1) 9 anJ), (h7, aJ (k 1) 4 (zJ [2, 3]))] H)
set_option maxHeartbeats 4000000 in
set_option maxRecDepth 100000 in
theorem cX11_takesOut_a13ae (l : Launch) (D : va_G) (k : Nat → ClassId) (sz : Nat) (h0 h4 h5 h7 h1 h2 h3 h6 h8 h9 h10 h11 h12 h13 h14 h15 h16 h17 h18 h19 h20 h21 : Nat) (x1 : Int32) (x2 : Int32) (x3 : Int32) (h0f0 : Int32) (h0f1 : Int32) (h0f2 : Int32) (h0f3 : Int32) (h0f4 : Int32) (h0f5 : Int32) (h0f8 : Int32) (h0f9 : Int32) (h0f17 : Int32) (h0f18 : Int32) (h0f19 : Int32) (h0f24 : Int32) (h0f25 : Int32) (h0f30 : Int32) (h0f31 : Int32) (b_x1 : 1 ≤ x1.toInt ∧ x1.toInt ≤ 2) (b_x2 : (-1) ≤ x2.toInt ∧ x2.toInt ≤ 1) (b_x3 : (-1) ≤ x3.toInt ∧ x3.toInt ≤ 1) (b_h0f0 : 1 ≤ h0f0.toInt ∧ h0f0.toInt ≤ 3) (b_h0f1 : 1 ≤ h0f1.toInt ∧ h0f1.toInt ≤ 4) (b_h0f3 : 0 ≤ h0f3.toInt ∧ h0f3.toInt ≤ 3) (b_h0f4 : 0 ≤ h0f4.toInt ∧ h0f4.toInt ≤ 4) (b_h0f8 : 0 ≤ h0f8.toInt ∧ h0f8.toInt ≤ 1) (b_h0f9 : 0 ≤ h0f9.toInt ∧ h0f9.toInt ≤ 1) (b_h0f17 : 0 ≤ h0f17.toInt ∧ h0f17.toInt ≤ 120) (b_h0f18 : 0 ≤ h0f18.toInt ∧ h0f18.toInt ≤ 120) (b_h0f19 : 0 ≤ h0f19.toInt ∧ h0f19.toInt ≤ 4) (b_h0f24 : 0 ≤ h0f24.toInt ∧ h0f24.toInt ≤ 100) (b_h0f25 : 0 ≤ h0f25.toInt ∧ h0f25.toInt ≤ 1) (b_h0f30 : 0 ≤ h0f30.toInt ∧ h0f30.toInt ≤ 60) (b_h0f31 : 0 ≤ h0f31.toInt ∧ h0f31.toInt ≤ 1) (i_0 : h0f8.toInt ≤ h0f3.toInt) (i_1 : h0f9.toInt ≤ h0f24.toInt) : Met l yX11_takesOut (Cond.code yX11_takesOut cX11_takesOut 8 (some .boolean) :: uw) Rm_cX11_takesOut_a13ae (pT D k sz [.ref h0, .int x1, .int x2, .int x3] [(h0, ob 8 [.int h0f0, .int h0f1, .int h0f2, .int h0f3, .int h0f4, .int h0f5, .ref h1, .ref h2, .int h0f8, .int h0f9, .ref h3, .ref h4, .ref h5, .ref h6, .ref h7, .ref h8, .ref h9, .int h0f17, .int h0f18, .int h0f19, .ref h10, .ref h11, .ref h12, .ref h13, .int h0f24, .int h0f25, .ref h14, .ref h15, .ref h16, .ref h17, .int h0f30, .int h0f31, .ref h18, .ref h19, .ref h20, .ref h21]), (h4, aJ (k 1) 9 anJ), (h5, aJ (k 1) 9 anJ), (h7, aJ (k 1) 4 (zJ [3]))]) (qI (B_cX11_takesOut_a13ae D k h0 h4 h5 h7 h1 h2 h3 h6 h8 h9 h10 h11 h12 h13 h14 h15 h16 h17 h18 h19 h20 h21 x1 x2 x3 h0f0 h0f1 h0f2 h0f3 h0f4 h0f5 h0f8 h0f9 h0f17 h0f18 h0f19 h0f24 h0f25 h0f30 h0f31 (zA [h0, h4, h5, h7] sz)) (zA [h0, h4, h5, h7] sz)) 0 0 (zA [h0, h4, h5, h7] sz) := by
  refine tz_begin (as := [h0, h4, h5, h7]) (Qc := fun A => qI (B_cX11_takesOut_a13ae D k h0 h4 h5 h7 h1 h2 h3 h6 h8 h9 h10 h11 h12 h13 h14 h15 h16 h17 h18 h19 h20 h21 x1 x2 x3 h0f0 h0f1 h0f2 h0f3 h0f4 h0f5 h0f8 h0f9 h0f17 h0f18 h0f19 h0f24 h0f25 h0f30 h0f31 A) A) (by decide +kernel) rfl (Nat.le_of_ble_eq_true rfl) ?_
  intro p e s m args below meth c ls A Q hx hb hr hml hown hlocks hin hU hK hT hS hA hl hQ
  have hl : lv_has ls 8 [(0, .ref h0), (1, .int x1), (2, .int x2), (3, .int x3)] := hl
  have hT : TP D A [(h0, ob 8 [.int h0f0, .int h0f1, .int h0f2, .int h0f3, .int h0f4, .int h0f5, .ref h1, .ref h2, .int h0f8, .int h0f9, .ref h3, .ref h4, .ref h5, .ref h6, .ref h7, .ref h8, .ref h9, .int h0f17, .int h0f18, .int h0f19, .ref h10, .ref h11, .ref h12, .ref h13, .int h0f24, .int h0f25, .ref h14, .ref h15, .ref h16, .ref h17, .int h0f30, .int h0f31, .ref h18, .ref h19, .ref h20, .ref h21]), (h4, aJ (k 1) 9 anJ), (h5, aJ (k 1) 9 anJ), (h7, aJ (k 1) 4 (zJ [3]))] s.heap := hT
  rcases (show x1.toInt = 1 ∨ x1.toInt = 2 by omega) with hq1 | hq1
  · skip
    refine lv_iconst (v := 3) hx hb dX11_takesOut_0 (by decide) ?_
    refine lv_istore (lv' := [(4, .int 3), (0, .ref h0), (1, .int x1), (2, .int x2), (3, .int x3)]) hx hb dX11_takesOut_1 hl (by decide) rfl (fun ls hl => ?_)
    refine lv_iload hx hb dX11_takesOut_3 (lv_at hl 0 rfl) ?_
    refine lv_if_le (tgt := 26) hx hb dX11_takesOut_5 (by decide) (fun cc => absurd cc (by decide +kernel)) (fun _ => ?_)
    refine lv_aload_n hx hb dX11_takesOut_8 rfl (lv_at hl 1 rfl) ?_
    refine tz_get (ci := 8) (v := .ref h7) (C := RX11) (F := TX11) (N := 36) hx hb hU iX11 hown hK hT 0 rfl rfl 14 (by decide) w799 (fun _ h9 => h9) rfl dX11_takesOut_9 ?_
    refine lv_iload hx hb dX11_takesOut_12 (lv_at hl 0 rfl) ?_
    refine tz_lald hx hb hK hT 3 rfl (by have := li_3; omega) dX11_takesOut_14 (fun v2 e_v2 => ?_)
    have e_v2 := z_get (z := 3) e_v2 li_3 (by decide)
    subst e_v2
    refine lv_lconst (v := 0) hx hb dX11_takesOut_15 (by decide) ?_
    refine W.lcmp hx hb dX11_takesOut_16 (sv_i (v := 0) (by decide +kernel) ?_)
    refine lv_if_ne (tgt := 26) hx hb dX11_takesOut_17 (by decide) (fun cc => absurd (by decide +kernel) cc) (fun _ => ?_)
    refine lv_iinc (v := 2) (lv' := [(4, .int 2), (0, .ref h0), (1, .int x1), (2, .int x2), (3, .int x3)]) hx hb dX11_takesOut_20 hl (k := 0) rfl (by decide) (by decide) rfl (fun ls hl => ?_)
    refine lv_goto (tgt := 3) hx hb dX11_takesOut_23 (by decide) ?_
    refine lv_iload hx hb dX11_takesOut_3 (lv_at hl 0 rfl) ?_
    refine lv_if_le (tgt := 26) hx hb dX11_takesOut_5 (by decide) (fun cc => absurd cc (by decide +kernel)) (fun _ => ?_)
    refine lv_aload_n hx hb dX11_takesOut_8 rfl (lv_at hl 1 rfl) ?_
    refine tz_get (ci := 8) (v := .ref h7) (C := RX11) (F := TX11) (N := 36) hx hb hU iX11 hown hK hT 0 rfl rfl 14 (by decide) w799 (fun _ h9 => h9) rfl dX11_takesOut_9 ?_
    refine lv_iload hx hb dX11_takesOut_12 (lv_at hl 0 rfl) ?_
    refine tz_lald hx hb hK hT 3 rfl (by have := li_2; omega) dX11_takesOut_14 (fun v3 e_v3 => ?_)
    clear e_v3
    refine lv_lconst (v := 0) hx hb dX11_takesOut_15 (by decide) ?_
    refine W.lcmp hx hb dX11_takesOut_16 ?_
    refine lv_if_ne (tgt := 26) hx hb dX11_takesOut_17 (by decide) (fun c_4 => ?_) (fun c_4 => ?_)
    · skip
      have c_4 := nl_ne c_4 rfl ll_0
      refine lv_iload hx hb dX11_takesOut_26 (lv_at hl 0 rfl) ?_
      refine lv_iload_n hx hb dX11_takesOut_28 rfl (lv_at hl 2 rfl) ?_
      refine lv_icmp_ge (tgt := 34) hx hb dX11_takesOut_29 (by decide) (fun c_5 => ?_) (fun c_5 => ?_)
      · skip
        have c_5 := ni_le c_5 hq1 li_2
        refine lv_iconst (v := 0) hx hb dX11_takesOut_34 (by decide) ?_
        refine lv_istore (lv' := [(5, .int 0), (4, .int 2), (0, .ref h0), (1, .int x1), (2, .int x2), (3, .int x3)]) hx hb dX11_takesOut_35 hl (by decide) rfl (fun ls hl => ?_)
        refine lv_iload hx hb dX11_takesOut_37 (lv_at hl 0 rfl) ?_
        refine lv_iconst (v := 4) hx hb dX11_takesOut_39 (by decide) ?_
        refine lv_icmp_ge (tgt := 71) hx hb dX11_takesOut_40 (by decide) (fun cc => absurd cc (by decide +kernel)) (fun _ => ?_)
        refine lv_aload_n hx hb dX11_takesOut_43 rfl (lv_at hl 2 rfl) ?_
        refine tz_get (ci := 8) (v := .ref h4) (C := RX11) (F := TX11) (N := 36) hx hb hU iX11 hown hK hT 0 rfl rfl 11 (by decide) w796 (fun _ h9 => h9) rfl dX11_takesOut_44 ?_
        refine lv_iload hx hb dX11_takesOut_47 (lv_at hl 0 rfl) ?_
        refine lv_aload_n hx hb dX11_takesOut_49 rfl (lv_at hl 2 rfl) ?_
        refine tz_get (ci := 8) (v := .ref h7) (C := RX11) (F := TX11) (N := 36) hx hb hU iX11 hown hK hT 0 rfl rfl 14 (by decide) w799 (fun _ h9 => h9) rfl dX11_takesOut_50 ?_
        refine lv_iload hx hb dX11_takesOut_53 (lv_at hl 0 rfl) ?_
        refine tz_lald hx hb hK hT 3 rfl (by have := li_0; omega) dX11_takesOut_55 (fun v6 e_v6 => ?_)
        clear e_v6
        have hT := hT.wk (q := 1) rfl (z_of (c := k 1) (n := 9))
        have hT : TP D A [(h0, ob 8 [.int h0f0, .int h0f1, .int h0f2, .int h0f3, .int h0f4, .int h0f5, .ref h1, .ref h2, .int h0f8, .int h0f9, .ref h3, .ref h4, .ref h5, .ref h6, .ref h7, .ref h8, .ref h9, .int h0f17, .int h0f18, .int h0f19, .ref h10, .ref h11, .ref h12, .ref h13, .int h0f24, .int h0f25, .ref h14, .ref h15, .ref h16, .ref h17, .int h0f30, .int h0f31, .ref h18, .ref h19, .ref h20, .ref h21]), (h4, aJ (k 1) 9 (zJ [])), (h5, aJ (k 1) 9 anJ), (h7, aJ (k 1) 4 (zJ [3]))] _ := hT
        refine tz_lastP hx hb hK hT hS 1 (zJ []) rfl (by have := li_0; omega) (z_putx (z := 0) li_0 (by decide)) dX11_takesOut_56 (fun H locs hT hS => ?_)
        have hT : TP D A [(h0, ob 8 [.int h0f0, .int h0f1, .int h0f2, .int h0f3, .int h0f4, .int h0f5, .ref h1, .ref h2, .int h0f8, .int h0f9, .ref h3, .ref h4, .ref h5, .ref h6, .ref h7, .ref h8, .ref h9, .int h0f17, .int h0f18, .int h0f19, .ref h10, .ref h11, .ref h12, .ref h13, .int h0f24, .int h0f25, .ref h14, .ref h15, .ref h16, .ref h17, .int h0f30, .int h0f31, .ref h18, .ref h19, .ref h20, .ref h21]), (h4, aJ (k 1) 9 (zJ [])), (h5, aJ (k 1) 9 anJ), (h7, aJ (k 1) 4 (zJ [3]))] _ := hT
        refine lv_aload_n hx hb dX11_takesOut_57 rfl (lv_at hl 2 rfl) ?_
        refine tz_get (ci := 8) (v := .ref h5) (C := RX11) (F := TX11) (N := 36) hx hb hU iX11 hown hK hT 0 rfl rfl 12 (by decide) w797 (fun _ h9 => h9) rfl dX11_takesOut_58 ?_
        refine lv_iload hx hb dX11_takesOut_61 (lv_at hl 0 rfl) ?_
        refine lv_lconst (v := 0) hx hb dX11_takesOut_63 (by decide) ?_
        have hT := hT.wk (q := 2) rfl (z_of (c := k 1) (n := 9))
        have hT : TP D A [(h0, ob 8 [.int h0f0, .int h0f1, .int h0f2, .int h0f3, .int h0f4, .int h0f5, .ref h1, .ref h2, .int h0f8, .int h0f9, .ref h3, .ref h4, .ref h5, .ref h6, .ref h7, .ref h8, .ref h9, .int h0f17, .int h0f18, .int h0f19, .ref h10, .ref h11, .ref h12, .ref h13, .int h0f24, .int h0f25, .ref h14, .ref h15, .ref h16, .ref h17, .int h0f30, .int h0f31, .ref h18, .ref h19, .ref h20, .ref h21]), (h4, aJ (k 1) 9 (zJ [])), (h5, aJ (k 1) 9 (zJ [])), (h7, aJ (k 1) 4 (zJ [3]))] _ := hT
        refine tz_lastP hx hb hK hT hS 2 (zJ [0]) rfl (by have := li_0; omega) (z_put0 (z := 0) li_0 (by decide)) dX11_takesOut_64 (fun H locs hT hS => ?_)
        have hT : TP D A [(h0, ob 8 [.int h0f0, .int h0f1, .int h0f2, .int h0f3, .int h0f4, .int h0f5, .ref h1, .ref h2, .int h0f8, .int h0f9, .ref h3, .ref h4, .ref h5, .ref h6, .ref h7, .ref h8, .ref h9, .int h0f17, .int h0f18, .int h0f19, .ref h10, .ref h11, .ref h12, .ref h13, .int h0f24, .int h0f25, .ref h14, .ref h15, .ref h16, .ref h17, .int h0f30, .int h0f31, .ref h18, .ref h19, .ref h20, .ref h21]), (h4, aJ (k 1) 9 (zJ [])), (h5, aJ (k 1) 9 (zJ [0])), (h7, aJ (k 1) 4 (zJ [3]))] _ := hT
        refine lv_iinc (v := 1) (lv' := [(5, .int 1), (4, .int 2), (0, .ref h0), (1, .int x1), (2, .int x2), (3, .int x3)]) hx hb dX11_takesOut_65 hl (k := 0) rfl (by decide) (by decide) rfl (fun ls hl => ?_)
        refine lv_goto (tgt := 37) hx hb dX11_takesOut_68 (by decide) ?_
        refine lv_iload hx hb dX11_takesOut_37 (lv_at hl 0 rfl) ?_
        refine lv_iconst (v := 4) hx hb dX11_takesOut_39 (by decide) ?_
        refine lv_icmp_ge (tgt := 71) hx hb dX11_takesOut_40 (by decide) (fun cc => absurd cc (by decide +kernel)) (fun _ => ?_)
        refine lv_aload_n hx hb dX11_takesOut_43 rfl (lv_at hl 2 rfl) ?_
        refine tz_get (ci := 8) (v := .ref h4) (C := RX11) (F := TX11) (N := 36) hx hb hU iX11 hown hK hT 0 rfl rfl 11 (by decide) w796 (fun _ h9 => h9) rfl dX11_takesOut_44 ?_
        refine lv_iload hx hb dX11_takesOut_47 (lv_at hl 0 rfl) ?_
        refine lv_aload_n hx hb dX11_takesOut_49 rfl (lv_at hl 2 rfl) ?_
        refine tz_get (ci := 8) (v := .ref h7) (C := RX11) (F := TX11) (N := 36) hx hb hU iX11 hown hK hT 0 rfl rfl 14 (by decide) w799 (fun _ h9 => h9) rfl dX11_takesOut_50 ?_
        refine lv_iload hx hb dX11_takesOut_53 (lv_at hl 0 rfl) ?_
        refine tz_lald hx hb hK hT 3 rfl (by have := li_1; omega) dX11_takesOut_55 (fun v7 e_v7 => ?_)
        clear e_v7
        refine tz_lastP hx hb hK hT hS 1 (zJ []) rfl (by have := li_1; omega) (z_putx (z := 1) li_1 (by decide)) dX11_takesOut_56 (fun H locs hT hS => ?_)
        have hT : TP D A [(h0, ob 8 [.int h0f0, .int h0f1, .int h0f2, .int h0f3, .int h0f4, .int h0f5, .ref h1, .ref h2, .int h0f8, .int h0f9, .ref h3, .ref h4, .ref h5, .ref h6, .ref h7, .ref h8, .ref h9, .int h0f17, .int h0f18, .int h0f19, .ref h10, .ref h11, .ref h12, .ref h13, .int h0f24, .int h0f25, .ref h14, .ref h15, .ref h16, .ref h17, .int h0f30, .int h0f31, .ref h18, .ref h19, .ref h20, .ref h21]), (h4, aJ (k 1) 9 (zJ [])), (h5, aJ (k 1) 9 (zJ [0])), (h7, aJ (k 1) 4 (zJ [3]))] _ := hT
        refine lv_aload_n hx hb dX11_takesOut_57 rfl (lv_at hl 2 rfl) ?_
        refine tz_get (ci := 8) (v := .ref h5) (C := RX11) (F := TX11) (N := 36) hx hb hU iX11 hown hK hT 0 rfl rfl 12 (by decide) w797 (fun _ h9 => h9) rfl dX11_takesOut_58 ?_
        refine lv_iload hx hb dX11_takesOut_61 (lv_at hl 0 rfl) ?_
        refine lv_lconst (v := 0) hx hb dX11_takesOut_63 (by decide) ?_
        refine tz_lastP hx hb hK hT hS 2 (zJ [0, 1]) rfl (by have := li_1; omega) (z_put0 (z := 1) li_1 (by decide)) dX11_takesOut_64 (fun H locs hT hS => ?_)
        have hT : TP D A [(h0, ob 8 [.int h0f0, .int h0f1, .int h0f2, .int h0f3, .int h0f4, .int h0f5, .ref h1, .ref h2, .int h0f8, .int h0f9, .ref h3, .ref h4, .ref h5, .ref h6, .ref h7, .ref h8, .ref h9, .int h0f17, .int h0f18, .int h0f19, .ref h10, .ref h11, .ref h12, .ref h13, .int h0f24, .int h0f25, .ref h14, .ref h15, .ref h16, .ref h17, .int h0f30, .int h0f31, .ref h18, .ref h19, .ref h20, .ref h21]), (h4, aJ (k 1) 9 (zJ [])), (h5, aJ (k 1) 9 (zJ [0, 1])), (h7, aJ (k 1) 4 (zJ [3]))] _ := hT
        refine lv_iinc (v := 2) (lv' := [(5, .int 2), (4, .int 2), (0, .ref h0), (1, .int x1), (2, .int x2), (3, .int x3)]) hx hb dX11_takesOut_65 hl (k := 0) rfl (by decide) (by decide) rfl (fun ls hl => ?_)
        refine lv_goto (tgt := 37) hx hb dX11_takesOut_68 (by decide) ?_
        refine lv_iload hx hb dX11_takesOut_37 (lv_at hl 0 rfl) ?_
        refine lv_iconst (v := 4) hx hb dX11_takesOut_39 (by decide) ?_
        refine lv_icmp_ge (tgt := 71) hx hb dX11_takesOut_40 (by decide) (fun cc => absurd cc (by decide +kernel)) (fun _ => ?_)
        refine lv_aload_n hx hb dX11_takesOut_43 rfl (lv_at hl 2 rfl) ?_
        refine tz_get (ci := 8) (v := .ref h4) (C := RX11) (F := TX11) (N := 36) hx hb hU iX11 hown hK hT 0 rfl rfl 11 (by decide) w796 (fun _ h9 => h9) rfl dX11_takesOut_44 ?_
        refine lv_iload hx hb dX11_takesOut_47 (lv_at hl 0 rfl) ?_
        refine lv_aload_n hx hb dX11_takesOut_49 rfl (lv_at hl 2 rfl) ?_
        refine tz_get (ci := 8) (v := .ref h7) (C := RX11) (F := TX11) (N := 36) hx hb hU iX11 hown hK hT 0 rfl rfl 14 (by decide) w799 (fun _ h9 => h9) rfl dX11_takesOut_50 ?_
        refine lv_iload hx hb dX11_takesOut_53 (lv_at hl 0 rfl) ?_
        refine tz_lald hx hb hK hT 3 rfl (by have := li_2; omega) dX11_takesOut_55 (fun v8 e_v8 => ?_)
        clear e_v8
        refine tz_lastP hx hb hK hT hS 1 (zJ []) rfl (by have := li_2; omega) (z_putx (z := 2) li_2 (by decide)) dX11_takesOut_56 (fun H locs hT hS => ?_)
        have hT : TP D A [(h0, ob 8 [.int h0f0, .int h0f1, .int h0f2, .int h0f3, .int h0f4, .int h0f5, .ref h1, .ref h2, .int h0f8, .int h0f9, .ref h3, .ref h4, .ref h5, .ref h6, .ref h7, .ref h8, .ref h9, .int h0f17, .int h0f18, .int h0f19, .ref h10, .ref h11, .ref h12, .ref h13, .int h0f24, .int h0f25, .ref h14, .ref h15, .ref h16, .ref h17, .int h0f30, .int h0f31, .ref h18, .ref h19, .ref h20, .ref h21]), (h4, aJ (k 1) 9 (zJ [])), (h5, aJ (k 1) 9 (zJ [0, 1])), (h7, aJ (k 1) 4 (zJ [3]))] _ := hT
        refine lv_aload_n hx hb dX11_takesOut_57 rfl (lv_at hl 2 rfl) ?_
        refine tz_get (ci := 8) (v := .ref h5) (C := RX11) (F := TX11) (N := 36) hx hb hU iX11 hown hK hT 0 rfl rfl 12 (by decide) w797 (fun _ h9 => h9) rfl dX11_takesOut_58 ?_
        refine lv_iload hx hb dX11_takesOut_61 (lv_at hl 0 rfl) ?_
        refine lv_lconst (v := 0) hx hb dX11_takesOut_63 (by decide) ?_
        refine tz_lastP hx hb hK hT hS 2 (zJ [0, 1, 2]) rfl (by have := li_2; omega) (z_put0 (z := 2) li_2 (by decide)) dX11_takesOut_64 (fun H locs hT hS => ?_)
        have hT : TP D A [(h0, ob 8 [.int h0f0, .int h0f1, .int h0f2, .int h0f3, .int h0f4, .int h0f5, .ref h1, .ref h2, .int h0f8, .int h0f9, .ref h3, .ref h4, .ref h5, .ref h6, .ref h7, .ref h8, .ref h9, .int h0f17, .int h0f18, .int h0f19, .ref h10, .ref h11, .ref h12, .ref h13, .int h0f24, .int h0f25, .ref h14, .ref h15, .ref h16, .ref h17, .int h0f30, .int h0f31, .ref h18, .ref h19, .ref h20, .ref h21]), (h4, aJ (k 1) 9 (zJ [])), (h5, aJ (k 1) 9 (zJ [0, 1, 2])), (h7, aJ (k 1) 4 (zJ [3]))] _ := hT
        refine lv_iinc (v := 3) (lv' := [(5, .int 3), (4, .int 2), (0, .ref h0), (1, .int x1), (2, .int x2), (3, .int x3)]) hx hb dX11_takesOut_65 hl (k := 0) rfl (by decide) (by decide) rfl (fun ls hl => ?_)
        refine lv_goto (tgt := 37) hx hb dX11_takesOut_68 (by decide) ?_
        refine lv_iload hx hb dX11_takesOut_37 (lv_at hl 0 rfl) ?_
        refine lv_iconst (v := 4) hx hb dX11_takesOut_39 (by decide) ?_
        refine lv_icmp_ge (tgt := 71) hx hb dX11_takesOut_40 (by decide) (fun cc => absurd cc (by decide +kernel)) (fun _ => ?_)
        refine lv_aload_n hx hb dX11_takesOut_43 rfl (lv_at hl 2 rfl) ?_
        refine tz_get (ci := 8) (v := .ref h4) (C := RX11) (F := TX11) (N := 36) hx hb hU iX11 hown hK hT 0 rfl rfl 11 (by decide) w796 (fun _ h9 => h9) rfl dX11_takesOut_44 ?_
        refine lv_iload hx hb dX11_takesOut_47 (lv_at hl 0 rfl) ?_
        refine lv_aload_n hx hb dX11_takesOut_49 rfl (lv_at hl 2 rfl) ?_
        refine tz_get (ci := 8) (v := .ref h7) (C := RX11) (F := TX11) (N := 36) hx hb hU iX11 hown hK hT 0 rfl rfl 14 (by decide) w799 (fun _ h9 => h9) rfl dX11_takesOut_50 ?_
        refine lv_iload hx hb dX11_takesOut_53 (lv_at hl 0 rfl) ?_
        refine tz_lald hx hb hK hT 3 rfl (by have := li_3; omega) dX11_takesOut_55 (fun v9 e_v9 => ?_)
        have e_v9 := z_get (z := 3) e_v9 li_3 (by decide)
        subst e_v9
        refine tz_lastP hx hb hK hT hS 1 (zJ [3]) rfl (by have := li_3; omega) (z_put0 (z := 3) li_3 (by decide)) dX11_takesOut_56 (fun H locs hT hS => ?_)
        have hT : TP D A [(h0, ob 8 [.int h0f0, .int h0f1, .int h0f2, .int h0f3, .int h0f4, .int h0f5, .ref h1, .ref h2, .int h0f8, .int h0f9, .ref h3, .ref h4, .ref h5, .ref h6, .ref h7, .ref h8, .ref h9, .int h0f17, .int h0f18, .int h0f19, .ref h10, .ref h11, .ref h12, .ref h13, .int h0f24, .int h0f25, .ref h14, .ref h15, .ref h16, .ref h17, .int h0f30, .int h0f31, .ref h18, .ref h19, .ref h20, .ref h21]), (h4, aJ (k 1) 9 (zJ [3])), (h5, aJ (k 1) 9 (zJ [0, 1, 2])), (h7, aJ (k 1) 4 (zJ [3]))] _ := hT
        refine lv_aload_n hx hb dX11_takesOut_57 rfl (lv_at hl 2 rfl) ?_
        refine tz_get (ci := 8) (v := .ref h5) (C := RX11) (F := TX11) (N := 36) hx hb hU iX11 hown hK hT 0 rfl rfl 12 (by decide) w797 (fun _ h9 => h9) rfl dX11_takesOut_58 ?_
        refine lv_iload hx hb dX11_takesOut_61 (lv_at hl 0 rfl) ?_
        refine lv_lconst (v := 0) hx hb dX11_takesOut_63 (by decide) ?_
        refine tz_lastP hx hb hK hT hS 2 (zJ [0, 1, 2, 3]) rfl (by have := li_3; omega) (z_put0 (z := 3) li_3 (by decide)) dX11_takesOut_64 (fun H locs hT hS => ?_)
        have hT : TP D A [(h0, ob 8 [.int h0f0, .int h0f1, .int h0f2, .int h0f3, .int h0f4, .int h0f5, .ref h1, .ref h2, .int h0f8, .int h0f9, .ref h3, .ref h4, .ref h5, .ref h6, .ref h7, .ref h8, .ref h9, .int h0f17, .int h0f18, .int h0f19, .ref h10, .ref h11, .ref h12, .ref h13, .int h0f24, .int h0f25, .ref h14, .ref h15, .ref h16, .ref h17, .int h0f30, .int h0f31, .ref h18, .ref h19, .ref h20, .ref h21]), (h4, aJ (k 1) 9 (zJ [3])), (h5, aJ (k 1) 9 (zJ [0, 1, 2, 3])), (h7, aJ (k 1) 4 (zJ [3]))] _ := hT
        refine lv_iinc (v := 4) (lv' := [(5, .int 4), (4, .int 2), (0, .ref h0), (1, .int x1), (2, .int x2), (3, .int x3)]) hx hb dX11_takesOut_65 hl (k := 0) rfl (by decide) (by decide) rfl (fun ls hl => ?_)
        refine lv_goto (tgt := 37) hx hb dX11_takesOut_68 (by decide) ?_
        refine lv_iload hx hb dX11_takesOut_37 (lv_at hl 0 rfl) ?_
        refine lv_iconst (v := 4) hx hb dX11_takesOut_39 (by decide) ?_
        refine lv_icmp_ge (tgt := 71) hx hb dX11_takesOut_40 (by decide) (fun _ => ?_) (fun cc => absurd (by decide +kernel) cc)
        refine lv_iload hx hb dX11_takesOut_71 (lv_at hl 1 rfl) ?_
        refine lv_istore (lv' := [(5, .int 2), (4, .int 2), (0, .ref h0), (1, .int x1), (2, .int x2), (3, .int x3)]) hx hb dX11_takesOut_73 hl (by decide) rfl (fun ls hl => ?_)
        refine lv_iload hx hb dX11_takesOut_75 (lv_at hl 0 rfl) ?_
        refine lv_iload_n hx hb dX11_takesOut_77 rfl (lv_at hl 3 rfl) ?_
        refine lv_icmp_lt (tgt := 154) hx hb dX11_takesOut_78 (by decide) (fun c_10 => ?_) (fun c_10 => ?_)
        · skip
          have c_10 := ni_lt c_10 li_2 hq1
          exfalso; omega
        · skip
          have c_10 := ni_nlt c_10 li_2 hq1
          refine lv_aload_n hx hb dX11_takesOut_81 rfl (lv_at hl 2 rfl) ?_
          refine tz_get (ci := 8) (v := .ref h4) (C := RX11) (F := TX11) (N := 36) hx hb hU iX11 hown hK hT 0 rfl rfl 11 (by decide) w796 (fun _ h9 => h9) rfl dX11_takesOut_82 ?_
          refine lv_iload hx hb dX11_takesOut_85 (lv_at hl 0 rfl) ?_
          refine tz_lald hx hb hK hT 1 rfl (by have := li_2; omega) dX11_takesOut_87 (fun v11 e_v11 => ?_)
          clear e_v11
          refine lv_lstore (lv' := [(6, .long v11), (5, .int 2), (4, .int 2), (0, .ref h0), (1, .int x1), (2, .int x2), (3, .int x3)]) hx hb dX11_takesOut_88 hl (by decide) rfl (fun ls hl => ?_)
          refine lv_aload_n hx hb dX11_takesOut_90 rfl (lv_at hl 3 rfl) ?_
          refine tz_get (ci := 8) (v := .ref h5) (C := RX11) (F := TX11) (N := 36) hx hb hU iX11 hown hK hT 0 rfl rfl 12 (by decide) w797 (fun _ h9 => h9) rfl dX11_takesOut_91 ?_
          refine lv_iload hx hb dX11_takesOut_94 (lv_at hl 1 rfl) ?_
          refine lv_iload_n hx hb dX11_takesOut_96 rfl (lv_at hl 4 rfl) ?_
          refine lv_isub hx hb dX11_takesOut_97 (lv_topi (fun v12 e_v12 => ?_))
          have e_v12 := ai_sub e_v12 li_2 hq1 (by omega)
          refine lv_lload hx hb dX11_takesOut_98 (lv_at hl 0 rfl) ?_
          refine tz_lastP hx hb hK hT hS 2 (zJ [0, 2, 3]) rfl (by omega) (z_putx (z := 1) (show v12.toInt = 1 by omega) (by decide)) dX11_takesOut_100 (fun H locs hT hS => ?_)
          have hT : TP D A [(h0, ob 8 [.int h0f0, .int h0f1, .int h0f2, .int h0f3, .int h0f4, .int h0f5, .ref h1, .ref h2, .int h0f8, .int h0f9, .ref h3, .ref h4, .ref h5, .ref h6, .ref h7, .ref h8, .ref h9, .int h0f17, .int h0f18, .int h0f19, .ref h10, .ref h11, .ref h12, .ref h13, .int h0f24, .int h0f25, .ref h14, .ref h15, .ref h16, .ref h17, .int h0f30, .int h0f31, .ref h18, .ref h19, .ref h20, .ref h21]), (h4, aJ (k 1) 9 (zJ [3])), (h5, aJ (k 1) 9 (zJ [0, 2, 3])), (h7, aJ (k 1) 4 (zJ [3]))] _ := hT
          refine lv_aload_n hx hb dX11_takesOut_101 rfl (lv_at hl 3 rfl) ?_
          refine tz_get (ci := 8) (v := .ref h4) (C := RX11) (F := TX11) (N := 36) hx hb hU iX11 hown hK hT 0 rfl rfl 11 (by decide) w796 (fun _ h9 => h9) rfl dX11_takesOut_102 ?_
          refine lv_iload hx hb dX11_takesOut_105 (lv_at hl 1 rfl) ?_
          refine lv_iload_n hx hb dX11_takesOut_107 rfl (lv_at hl 4 rfl) ?_
          refine lv_isub hx hb dX11_takesOut_108 (lv_topi (fun v13 e_v13 => ?_))
          have e_v13 := ai_sub e_v13 li_2 hq1 (by omega)
          refine lv_dup2_11 hx hb dX11_takesOut_109 rfl rfl ?_
          refine tz_lald hx hb hK hT 1 rfl (by omega) dX11_takesOut_110 (fun v14 e_v14 => ?_)
          clear e_v14
          refine lv_lload hx hb dX11_takesOut_111 (lv_at hl 0 rfl) ?_
          refine lv_iload_n hx hb dX11_takesOut_113 rfl (lv_at hl 5 rfl) ?_
          obtain ⟨v15, e_v15⟩ : ∃ x : Int64, x2.toInt64 = x := ⟨_, rfl⟩
          refine lv_i2l (v := v15) hx hb dX11_takesOut_114 e_v15 ?_
          have e_v15 := ai_i2l e_v15 rfl
          refine lv_lmul hx hb dX11_takesOut_115 (lv_topl (fun v16 e_v16 => ?_))
          refine lv_lsub hx hb dX11_takesOut_116 (lv_topl (fun v17 e_v17 => ?_))
          refine tz_lastP hx hb hK hT hS 1 (zJ [3]) rfl (by omega) (z_putx (z := 1) (show v13.toInt = 1 by omega) (by decide)) dX11_takesOut_117 (fun H locs hT hS => ?_)
          have hT : TP D A [(h0, ob 8 [.int h0f0, .int h0f1, .int h0f2, .int h0f3, .int h0f4, .int h0f5, .ref h1, .ref h2, .int h0f8, .int h0f9, .ref h3, .ref h4, .ref h5, .ref h6, .ref h7, .ref h8, .ref h9, .int h0f17, .int h0f18, .int h0f19, .ref h10, .ref h11, .ref h12, .ref h13, .int h0f24, .int h0f25, .ref h14, .ref h15, .ref h16, .ref h17, .int h0f30, .int h0f31, .ref h18, .ref h19, .ref h20, .ref h21]), (h4, aJ (k 1) 9 (zJ [3])), (h5, aJ (k 1) 9 (zJ [0, 2, 3])), (h7, aJ (k 1) 4 (zJ [3]))] _ := hT
          refine lv_iload_n hx hb dX11_takesOut_118 rfl (lv_at hl 4 rfl) ?_
          refine lv_iconst (v := 2) hx hb dX11_takesOut_119 (by decide) ?_
          refine lv_icmp_ne (tgt := 140) hx hb dX11_takesOut_120 (by decide) (fun c_18 => ?_) (fun c_18 => ?_)
          · skip
            have c_18 := ni_ne c_18 hq1 li_2
            refine lv_aload_n hx hb dX11_takesOut_140 rfl (lv_at hl 3 rfl) ?_
            refine tz_get (ci := 8) (v := .ref h4) (C := RX11) (F := TX11) (N := 36) hx hb hU iX11 hown hK hT 0 rfl rfl 11 (by decide) w796 (fun _ h9 => h9) rfl dX11_takesOut_141 ?_
            refine lv_iload hx hb dX11_takesOut_144 (lv_at hl 1 rfl) ?_
            refine lv_lconst (v := 0) hx hb dX11_takesOut_146 (by decide) ?_
            refine tz_lastP hx hb hK hT hS 1 (zJ [2, 3]) rfl (by have := li_2; omega) (z_put0 (z := 2) li_2 (by decide)) dX11_takesOut_147 (fun H locs hT hS => ?_)
            have hT : TP D A [(h0, ob 8 [.int h0f0, .int h0f1, .int h0f2, .int h0f3, .int h0f4, .int h0f5, .ref h1, .ref h2, .int h0f8, .int h0f9, .ref h3, .ref h4, .ref h5, .ref h6, .ref h7, .ref h8, .ref h9, .int h0f17, .int h0f18, .int h0f19, .ref h10, .ref h11, .ref h12, .ref h13, .int h0f24, .int h0f25, .ref h14, .ref h15, .ref h16, .ref h17, .int h0f30, .int h0f31, .ref h18, .ref h19, .ref h20, .ref h21]), (h4, aJ (k 1) 9 (zJ [2, 3])), (h5, aJ (k 1) 9 (zJ [0, 2, 3])), (h7, aJ (k 1) 4 (zJ [3]))] _ := hT
            refine lv_iinc (v := 1) (lv' := [(5, .int 1), (6, .long v11), (4, .int 2), (0, .ref h0), (1, .int x1), (2, .int x2), (3, .int x3)]) hx hb dX11_takesOut_148 hl (k := 1) rfl (by decide) (by decide) rfl (fun ls hl => ?_)
            refine lv_goto (tgt := 75) hx hb dX11_takesOut_151 (by decide) ?_
            refine lv_iload hx hb dX11_takesOut_75 (lv_at hl 0 rfl) ?_
            refine lv_iload_n hx hb dX11_takesOut_77 rfl (lv_at hl 4 rfl) ?_
            refine lv_icmp_lt (tgt := 154) hx hb dX11_takesOut_78 (by decide) (fun c_19 => ?_) (fun c_19 => ?_)
            · skip
              have c_19 := ni_lt c_19 li_1 hq1
              exfalso; omega
            · skip
              have c_19 := ni_nlt c_19 li_1 hq1
              refine lv_aload_n hx hb dX11_takesOut_81 rfl (lv_at hl 3 rfl) ?_
              refine tz_get (ci := 8) (v := .ref h4) (C := RX11) (F := TX11) (N := 36) hx hb hU iX11 hown hK hT 0 rfl rfl 11 (by decide) w796 (fun _ h9 => h9) rfl dX11_takesOut_82 ?_
              refine lv_iload hx hb dX11_takesOut_85 (lv_at hl 0 rfl) ?_
              refine tz_lald hx hb hK hT 1 rfl (by have := li_1; omega) dX11_takesOut_87 (fun v20 e_v20 => ?_)
              clear e_v20
              refine lv_lstore (lv' := [(6, .long v20), (5, .int 1), (4, .int 2), (0, .ref h0), (1, .int x1), (2, .int x2), (3, .int x3)]) hx hb dX11_takesOut_88 hl (by decide) rfl (fun ls hl => ?_)
              refine lv_aload_n hx hb dX11_takesOut_90 rfl (lv_at hl 3 rfl) ?_
              refine tz_get (ci := 8) (v := .ref h5) (C := RX11) (F := TX11) (N := 36) hx hb hU iX11 hown hK hT 0 rfl rfl 12 (by decide) w797 (fun _ h9 => h9) rfl dX11_takesOut_91 ?_
              refine lv_iload hx hb dX11_takesOut_94 (lv_at hl 1 rfl) ?_
              refine lv_iload_n hx hb dX11_takesOut_96 rfl (lv_at hl 4 rfl) ?_
              refine lv_isub hx hb dX11_takesOut_97 (lv_topi (fun v21 e_v21 => ?_))
              have e_v21 := ai_sub e_v21 li_1 hq1 (by omega)
              refine lv_lload hx hb dX11_takesOut_98 (lv_at hl 0 rfl) ?_
              refine tz_lastP hx hb hK hT hS 2 (zJ [2, 3]) rfl (by omega) (z_putx (z := 0) (show v21.toInt = 0 by omega) (by decide)) dX11_takesOut_100 (fun H locs hT hS => ?_)
              have hT : TP D A [(h0, ob 8 [.int h0f0, .int h0f1, .int h0f2, .int h0f3, .int h0f4, .int h0f5, .ref h1, .ref h2, .int h0f8, .int h0f9, .ref h3, .ref h4, .ref h5, .ref h6, .ref h7, .ref h8, .ref h9, .int h0f17, .int h0f18, .int h0f19, .ref h10, .ref h11, .ref h12, .ref h13, .int h0f24, .int h0f25, .ref h14, .ref h15, .ref h16, .ref h17, .int h0f30, .int h0f31, .ref h18, .ref h19, .ref h20, .ref h21]), (h4, aJ (k 1) 9 (zJ [2, 3])), (h5, aJ (k 1) 9 (zJ [2, 3])), (h7, aJ (k 1) 4 (zJ [3]))] _ := hT
              refine lv_aload_n hx hb dX11_takesOut_101 rfl (lv_at hl 3 rfl) ?_
              refine tz_get (ci := 8) (v := .ref h4) (C := RX11) (F := TX11) (N := 36) hx hb hU iX11 hown hK hT 0 rfl rfl 11 (by decide) w796 (fun _ h9 => h9) rfl dX11_takesOut_102 ?_
              refine lv_iload hx hb dX11_takesOut_105 (lv_at hl 1 rfl) ?_
              refine lv_iload_n hx hb dX11_takesOut_107 rfl (lv_at hl 4 rfl) ?_
              refine lv_isub hx hb dX11_takesOut_108 (lv_topi (fun v22 e_v22 => ?_))
              have e_v22 := ai_sub e_v22 li_1 hq1 (by omega)
              refine lv_dup2_11 hx hb dX11_takesOut_109 rfl rfl ?_
              refine tz_lald hx hb hK hT 1 rfl (by omega) dX11_takesOut_110 (fun v23 e_v23 => ?_)
              clear e_v23
              refine lv_lload hx hb dX11_takesOut_111 (lv_at hl 0 rfl) ?_
              refine lv_iload_n hx hb dX11_takesOut_113 rfl (lv_at hl 5 rfl) ?_
              obtain ⟨v24, e_v24⟩ : ∃ x : Int64, x2.toInt64 = x := ⟨_, rfl⟩
              refine lv_i2l (v := v24) hx hb dX11_takesOut_114 e_v24 ?_
              have e_v24 := ai_i2l e_v24 rfl
              refine lv_lmul hx hb dX11_takesOut_115 (lv_topl (fun v25 e_v25 => ?_))
              refine lv_lsub hx hb dX11_takesOut_116 (lv_topl (fun v26 e_v26 => ?_))
              refine tz_lastP hx hb hK hT hS 1 (zJ [2, 3]) rfl (by omega) (z_putx (z := 0) (show v22.toInt = 0 by omega) (by decide)) dX11_takesOut_117 (fun H locs hT hS => ?_)
              have hT : TP D A [(h0, ob 8 [.int h0f0, .int h0f1, .int h0f2, .int h0f3, .int h0f4, .int h0f5, .ref h1, .ref h2, .int h0f8, .int h0f9, .ref h3, .ref h4, .ref h5, .ref h6, .ref h7, .ref h8, .ref h9, .int h0f17, .int h0f18, .int h0f19, .ref h10, .ref h11, .ref h12, .ref h13, .int h0f24, .int h0f25, .ref h14, .ref h15, .ref h16, .ref h17, .int h0f30, .int h0f31, .ref h18, .ref h19, .ref h20, .ref h21]), (h4, aJ (k 1) 9 (zJ [2, 3])), (h5, aJ (k 1) 9 (zJ [2, 3])), (h7, aJ (k 1) 4 (zJ [3]))] _ := hT
              refine lv_iload_n hx hb dX11_takesOut_118 rfl (lv_at hl 4 rfl) ?_
              refine lv_iconst (v := 2) hx hb dX11_takesOut_119 (by decide) ?_
              refine lv_icmp_ne (tgt := 140) hx hb dX11_takesOut_120 (by decide) (fun c_27 => ?_) (fun c_27 => ?_)
              · skip
                have c_27 := ni_ne c_27 hq1 li_2
                refine lv_aload_n hx hb dX11_takesOut_140 rfl (lv_at hl 3 rfl) ?_
                refine tz_get (ci := 8) (v := .ref h4) (C := RX11) (F := TX11) (N := 36) hx hb hU iX11 hown hK hT 0 rfl rfl 11 (by decide) w796 (fun _ h9 => h9) rfl dX11_takesOut_141 ?_
                refine lv_iload hx hb dX11_takesOut_144 (lv_at hl 1 rfl) ?_
                refine lv_lconst (v := 0) hx hb dX11_takesOut_146 (by decide) ?_
                refine tz_lastP hx hb hK hT hS 1 (zJ [1, 2, 3]) rfl (by have := li_1; omega) (z_put0 (z := 1) li_1 (by decide)) dX11_takesOut_147 (fun H locs hT hS => ?_)
                have hT : TP D A [(h0, ob 8 [.int h0f0, .int h0f1, .int h0f2, .int h0f3, .int h0f4, .int h0f5, .ref h1, .ref h2, .int h0f8, .int h0f9, .ref h3, .ref h4, .ref h5, .ref h6, .ref h7, .ref h8, .ref h9, .int h0f17, .int h0f18, .int h0f19, .ref h10, .ref h11, .ref h12, .ref h13, .int h0f24, .int h0f25, .ref h14, .ref h15, .ref h16, .ref h17, .int h0f30, .int h0f31, .ref h18, .ref h19, .ref h20, .ref h21]), (h4, aJ (k 1) 9 (zJ [1, 2, 3])), (h5, aJ (k 1) 9 (zJ [2, 3])), (h7, aJ (k 1) 4 (zJ [3]))] _ := hT
                refine lv_iinc (v := 0) (lv' := [(5, .int 0), (6, .long v20), (4, .int 2), (0, .ref h0), (1, .int x1), (2, .int x2), (3, .int x3)]) hx hb dX11_takesOut_148 hl (k := 1) rfl (by decide) (by decide) rfl (fun ls hl => ?_)
                refine lv_goto (tgt := 75) hx hb dX11_takesOut_151 (by decide) ?_
                refine lv_iload hx hb dX11_takesOut_75 (lv_at hl 0 rfl) ?_
                refine lv_iload_n hx hb dX11_takesOut_77 rfl (lv_at hl 4 rfl) ?_
                refine lv_icmp_lt (tgt := 154) hx hb dX11_takesOut_78 (by decide) (fun c_28 => ?_) (fun c_28 => ?_)
                · skip
                  have c_28 := ni_lt c_28 li_0 hq1
                  refine lv_aload_n hx hb dX11_takesOut_154 rfl (lv_at hl 3 rfl) ?_
                  refine tz_get (ci := 8) (v := .ref h4) (C := RX11) (F := TX11) (N := 36) hx hb hU iX11 hown hK hT 0 rfl rfl 11 (by decide) w796 (fun _ h9 => h9) rfl dX11_takesOut_155 ?_
                  refine lv_iconst (v := 0) hx hb dX11_takesOut_158 (by decide) ?_
                  refine tz_lald hx hb hK hT 1 rfl (by have := li_0; omega) dX11_takesOut_159 (fun v29 e_v29 => ?_)
                  clear e_v29
                  refine lv_lconst (v := 0) hx hb dX11_takesOut_160 (by decide) ?_
                  refine W.lcmp hx hb dX11_takesOut_161 ?_
                  refine lv_if_ne (tgt := 176) hx hb dX11_takesOut_162 (by decide) (fun c_30 => ?_) (fun c_30 => ?_)
                  · skip
                    have c_30 := nl_ne c_30 rfl ll_0
                    refine lv_iconst (v := 0) hx hb dX11_takesOut_176 (by decide) ?_
                    have hT := hT.wk (q := 1) rfl (an_J (c := k 1) (n := 9))
                    have hT : TP D A [(h0, ob 8 [.int h0f0, .int h0f1, .int h0f2, .int h0f3, .int h0f4, .int h0f5, .ref h1, .ref h2, .int h0f8, .int h0f9, .ref h3, .ref h4, .ref h5, .ref h6, .ref h7, .ref h8, .ref h9, .int h0f17, .int h0f18, .int h0f19, .ref h10, .ref h11, .ref h12, .ref h13, .int h0f24, .int h0f25, .ref h14, .ref h15, .ref h16, .ref h17, .int h0f30, .int h0f31, .ref h18, .ref h19, .ref h20, .ref h21]), (h4, aJ (k 1) 9 anJ), (h5, aJ (k 1) 9 (zJ [2, 3])), (h7, aJ (k 1) 4 (zJ [3]))] _ := hT
                    have hT := hT.wk (q := 2) rfl (an_J (c := k 1) (n := 9))
                    have hT : TP D A [(h0, ob 8 [.int h0f0, .int h0f1, .int h0f2, .int h0f3, .int h0f4, .int h0f5, .ref h1, .ref h2, .int h0f8, .int h0f9, .ref h3, .ref h4, .ref h5, .ref h6, .ref h7, .ref h8, .ref h9, .int h0f17, .int h0f18, .int h0f19, .ref h10, .ref h11, .ref h12, .ref h13, .int h0f24, .int h0f25, .ref h14, .ref h15, .ref h16, .ref h17, .int h0f30, .int h0f31, .ref h18, .ref h19, .ref h20, .ref h21]), (h4, aJ (k 1) 9 anJ), (h5, aJ (k 1) 9 anJ), (h7, aJ (k 1) 4 (zJ [3]))] _ := hT
                    have hT := hT.wk (q := 3) rfl (an_J (c := k 1) (n := 4))
                    have hT : TP D A [(h0, ob 8 [.int h0f0, .int h0f1, .int h0f2, .int h0f3, .int h0f4, .int h0f5, .ref h1, .ref h2, .int h0f8, .int h0f9, .ref h3, .ref h4, .ref h5, .ref h6, .ref h7, .ref h8, .ref h9, .int h0f17, .int h0f18, .int h0f19, .ref h10, .ref h11, .ref h12, .ref h13, .int h0f24, .int h0f25, .ref h14, .ref h15, .ref h16, .ref h17, .int h0f30, .int h0f31, .ref h18, .ref h19, .ref h20, .ref h21]), (h4, aJ (k 1) 9 anJ), (h5, aJ (k 1) 9 anJ), (h7, aJ (k 1) 4 anJ)] _ := hT
                    exact tz_retZ (B := B_cX11_takesOut_a13ae D k h0 h4 h5 h7 h1 h2 h3 h6 h8 h9 h10 h11 h12 h13 h14 h15 h16 h17 h18 h19 h20 h21 x1 x2 x3 h0f0 h0f1 h0f2 h0f3 h0f4 h0f5 h0f8 h0f9 h0f17 h0f18 h0f19 h0f24 h0f25 h0f30 h0f31) (v := 0) hQ hx hb hr hlocks hS (Nat.le_of_ble_eq_true rfl) (Nat.le_of_ble_eq_true rfl) dX11_takesOut_177 (by have := li_0; omega) (Or.inl ⟨rfl, hT⟩)
                  · skip
                    have c_30 := nl_eq c_30 rfl ll_0
                    refine lv_aload_n hx hb dX11_takesOut_165 rfl (lv_at hl 3 rfl) ?_
                    refine tz_get (ci := 8) (v := .ref h4) (C := RX11) (F := TX11) (N := 36) hx hb hU iX11 hown hK hT 0 rfl rfl 11 (by decide) w796 (fun _ h9 => h9) rfl dX11_takesOut_166 ?_
                    refine lv_iconst (v := 1) hx hb dX11_takesOut_169 (by decide) ?_
                    refine tz_lald hx hb hK hT 1 rfl (by have := li_1; omega) dX11_takesOut_170 (fun v31 e_v31 => ?_)
                    have e_v31 := z_get (z := 1) e_v31 li_1 (by decide)
                    subst e_v31
                    refine lv_lconst (v := 0) hx hb dX11_takesOut_171 (by decide) ?_
                    refine W.lcmp hx hb dX11_takesOut_172 (sv_i (v := 0) (by decide +kernel) ?_)
                    refine lv_if_eq (tgt := 178) hx hb dX11_takesOut_173 (by decide) (fun _ => ?_) (fun cc => absurd (by decide +kernel) cc)
                    refine lv_iconst (v := 0) hx hb dX11_takesOut_178 (by decide) ?_
                    refine lv_istore (lv' := [(5, .int 0), (6, .long v20), (4, .int 2), (0, .ref h0), (1, .int x1), (2, .int x2), (3, .int x3)]) hx hb dX11_takesOut_179 hl (by decide) rfl (fun ls hl => ?_)
                    refine lv_iload hx hb dX11_takesOut_181 (lv_at hl 0 rfl) ?_
                    refine lv_iconst (v := 4) hx hb dX11_takesOut_183 (by decide) ?_
                    refine lv_icmp_ge (tgt := 207) hx hb dX11_takesOut_184 (by decide) (fun cc => absurd cc (by decide +kernel)) (fun _ => ?_)
                    refine lv_aload_n hx hb dX11_takesOut_187 rfl (lv_at hl 3 rfl) ?_
                    refine tz_get (ci := 8) (v := .ref h7) (C := RX11) (F := TX11) (N := 36) hx hb hU iX11 hown hK hT 0 rfl rfl 14 (by decide) w799 (fun _ h9 => h9) rfl dX11_takesOut_188 ?_
                    refine lv_iload hx hb dX11_takesOut_191 (lv_at hl 0 rfl) ?_
                    refine lv_aload_n hx hb dX11_takesOut_193 rfl (lv_at hl 3 rfl) ?_
                    refine tz_get (ci := 8) (v := .ref h5) (C := RX11) (F := TX11) (N := 36) hx hb hU iX11 hown hK hT 0 rfl rfl 12 (by decide) w797 (fun _ h9 => h9) rfl dX11_takesOut_194 ?_
                    refine lv_iload hx hb dX11_takesOut_197 (lv_at hl 0 rfl) ?_
                    refine tz_lald hx hb hK hT 2 rfl (by have := li_0; omega) dX11_takesOut_199 (fun v32 e_v32 => ?_)
                    clear e_v32
                    refine tz_lastP hx hb hK hT hS 3 (zJ [3]) rfl (by have := li_0; omega) (z_putx (z := 0) li_0 (by decide)) dX11_takesOut_200 (fun H locs hT hS => ?_)
                    have hT : TP D A [(h0, ob 8 [.int h0f0, .int h0f1, .int h0f2, .int h0f3, .int h0f4, .int h0f5, .ref h1, .ref h2, .int h0f8, .int h0f9, .ref h3, .ref h4, .ref h5, .ref h6, .ref h7, .ref h8, .ref h9, .int h0f17, .int h0f18, .int h0f19, .ref h10, .ref h11, .ref h12, .ref h13, .int h0f24, .int h0f25, .ref h14, .ref h15, .ref h16, .ref h17, .int h0f30, .int h0f31, .ref h18, .ref h19, .ref h20, .ref h21]), (h4, aJ (k 1) 9 (zJ [1, 2, 3])), (h5, aJ (k 1) 9 (zJ [2, 3])), (h7, aJ (k 1) 4 (zJ [3]))] _ := hT
                    refine lv_iinc (v := 1) (lv' := [(5, .int 1), (6, .long v20), (4, .int 2), (0, .ref h0), (1, .int x1), (2, .int x2), (3, .int x3)]) hx hb dX11_takesOut_201 hl (k := 0) rfl (by decide) (by decide) rfl (fun ls hl => ?_)
                    refine lv_goto (tgt := 181) hx hb dX11_takesOut_204 (by decide) ?_
                    refine lv_iload hx hb dX11_takesOut_181 (lv_at hl 0 rfl) ?_
                    refine lv_iconst (v := 4) hx hb dX11_takesOut_183 (by decide) ?_
                    refine lv_icmp_ge (tgt := 207) hx hb dX11_takesOut_184 (by decide) (fun cc => absurd cc (by decide +kernel)) (fun _ => ?_)
                    refine lv_aload_n hx hb dX11_takesOut_187 rfl (lv_at hl 3 rfl) ?_
                    refine tz_get (ci := 8) (v := .ref h7) (C := RX11) (F := TX11) (N := 36) hx hb hU iX11 hown hK hT 0 rfl rfl 14 (by decide) w799 (fun _ h9 => h9) rfl dX11_takesOut_188 ?_
                    refine lv_iload hx hb dX11_takesOut_191 (lv_at hl 0 rfl) ?_
                    refine lv_aload_n hx hb dX11_takesOut_193 rfl (lv_at hl 3 rfl) ?_
                    refine tz_get (ci := 8) (v := .ref h5) (C := RX11) (F := TX11) (N := 36) hx hb hU iX11 hown hK hT 0 rfl rfl 12 (by decide) w797 (fun _ h9 => h9) rfl dX11_takesOut_194 ?_
                    refine lv_iload hx hb dX11_takesOut_197 (lv_at hl 0 rfl) ?_
                    refine tz_lald hx hb hK hT 2 rfl (by have := li_1; omega) dX11_takesOut_199 (fun v33 e_v33 => ?_)
                    clear e_v33
                    refine tz_lastP hx hb hK hT hS 3 (zJ [3]) rfl (by have := li_1; omega) (z_putx (z := 1) li_1 (by decide)) dX11_takesOut_200 (fun H locs hT hS => ?_)
                    have hT : TP D A [(h0, ob 8 [.int h0f0, .int h0f1, .int h0f2, .int h0f3, .int h0f4, .int h0f5, .ref h1, .ref h2, .int h0f8, .int h0f9, .ref h3, .ref h4, .ref h5, .ref h6, .ref h7, .ref h8, .ref h9, .int h0f17, .int h0f18, .int h0f19, .ref h10, .ref h11, .ref h12, .ref h13, .int h0f24, .int h0f25, .ref h14, .ref h15, .ref h16, .ref h17, .int h0f30, .int h0f31, .ref h18, .ref h19, .ref h20, .ref h21]), (h4, aJ (k 1) 9 (zJ [1, 2, 3])), (h5, aJ (k 1) 9 (zJ [2, 3])), (h7, aJ (k 1) 4 (zJ [3]))] _ := hT
                    refine lv_iinc (v := 2) (lv' := [(5, .int 2), (6, .long v20), (4, .int 2), (0, .ref h0), (1, .int x1), (2, .int x2), (3, .int x3)]) hx hb dX11_takesOut_201 hl (k := 0) rfl (by decide) (by decide) rfl (fun ls hl => ?_)
                    refine lv_goto (tgt := 181) hx hb dX11_takesOut_204 (by decide) ?_
                    refine lv_iload hx hb dX11_takesOut_181 (lv_at hl 0 rfl) ?_
                    refine lv_iconst (v := 4) hx hb dX11_takesOut_183 (by decide) ?_
                    refine lv_icmp_ge (tgt := 207) hx hb dX11_takesOut_184 (by decide) (fun cc => absurd cc (by decide +kernel)) (fun _ => ?_)
                    refine lv_aload_n hx hb dX11_takesOut_187 rfl (lv_at hl 3 rfl) ?_
                    refine tz_get (ci := 8) (v := .ref h7) (C := RX11) (F := TX11) (N := 36) hx hb hU iX11 hown hK hT 0 rfl rfl 14 (by decide) w799 (fun _ h9 => h9) rfl dX11_takesOut_188 ?_
                    refine lv_iload hx hb dX11_takesOut_191 (lv_at hl 0 rfl) ?_
                    refine lv_aload_n hx hb dX11_takesOut_193 rfl (lv_at hl 3 rfl) ?_
                    refine tz_get (ci := 8) (v := .ref h5) (C := RX11) (F := TX11) (N := 36) hx hb hU iX11 hown hK hT 0 rfl rfl 12 (by decide) w797 (fun _ h9 => h9) rfl dX11_takesOut_194 ?_
                    refine lv_iload hx hb dX11_takesOut_197 (lv_at hl 0 rfl) ?_
                    refine tz_lald hx hb hK hT 2 rfl (by have := li_2; omega) dX11_takesOut_199 (fun v34 e_v34 => ?_)
                    have e_v34 := z_get (z := 2) e_v34 li_2 (by decide)
                    subst e_v34
                    refine tz_lastP hx hb hK hT hS 3 (zJ [2, 3]) rfl (by have := li_2; omega) (z_put0 (z := 2) li_2 (by decide)) dX11_takesOut_200 (fun H locs hT hS => ?_)
                    have hT : TP D A [(h0, ob 8 [.int h0f0, .int h0f1, .int h0f2, .int h0f3, .int h0f4, .int h0f5, .ref h1, .ref h2, .int h0f8, .int h0f9, .ref h3, .ref h4, .ref h5, .ref h6, .ref h7, .ref h8, .ref h9, .int h0f17, .int h0f18, .int h0f19, .ref h10, .ref h11, .ref h12, .ref h13, .int h0f24, .int h0f25, .ref h14, .ref h15, .ref h16, .ref h17, .int h0f30, .int h0f31, .ref h18, .ref h19, .ref h20, .ref h21]), (h4, aJ (k 1) 9 (zJ [1, 2, 3])), (h5, aJ (k 1) 9 (zJ [2, 3])), (h7, aJ (k 1) 4 (zJ [2, 3]))] _ := hT
                    refine lv_iinc (v := 3) (lv' := [(5, .int 3), (6, .long v20), (4, .int 2), (0, .ref h0), (1, .int x1), (2, .int x2), (3, .int x3)]) hx hb dX11_takesOut_201 hl (k := 0) rfl (by decide) (by decide) rfl (fun ls hl => ?_)
                    refine lv_goto (tgt := 181) hx hb dX11_takesOut_204 (by decide) ?_
                    refine lv_iload hx hb dX11_takesOut_181 (lv_at hl 0 rfl) ?_
                    refine lv_iconst (v := 4) hx hb dX11_takesOut_183 (by decide) ?_
                    refine lv_icmp_ge (tgt := 207) hx hb dX11_takesOut_184 (by decide) (fun cc => absurd cc (by decide +kernel)) (fun _ => ?_)
                    refine lv_aload_n hx hb dX11_takesOut_187 rfl (lv_at hl 3 rfl) ?_
                    refine tz_get (ci := 8) (v := .ref h7) (C := RX11) (F := TX11) (N := 36) hx hb hU iX11 hown hK hT 0 rfl rfl 14 (by decide) w799 (fun _ h9 => h9) rfl dX11_takesOut_188 ?_
                    refine lv_iload hx hb dX11_takesOut_191 (lv_at hl 0 rfl) ?_
                    refine lv_aload_n hx hb dX11_takesOut_193 rfl (lv_at hl 3 rfl) ?_
                    refine tz_get (ci := 8) (v := .ref h5) (C := RX11) (F := TX11) (N := 36) hx hb hU iX11 hown hK hT 0 rfl rfl 12 (by decide) w797 (fun _ h9 => h9) rfl dX11_takesOut_194 ?_
                    refine lv_iload hx hb dX11_takesOut_197 (lv_at hl 0 rfl) ?_
                    refine tz_lald hx hb hK hT 2 rfl (by have := li_3; omega) dX11_takesOut_199 (fun v35 e_v35 => ?_)
                    have e_v35 := z_get (z := 3) e_v35 li_3 (by decide)
                    subst e_v35
                    refine tz_lastP hx hb hK hT hS 3 (zJ [2, 3]) rfl (by have := li_3; omega) (z_put0 (z := 3) li_3 (by decide)) dX11_takesOut_200 (fun H locs hT hS => ?_)
                    have hT : TP D A [(h0, ob 8 [.int h0f0, .int h0f1, .int h0f2, .int h0f3, .int h0f4, .int h0f5, .ref h1, .ref h2, .int h0f8, .int h0f9, .ref h3, .ref h4, .ref h5, .ref h6, .ref h7, .ref h8, .ref h9, .int h0f17, .int h0f18, .int h0f19, .ref h10, .ref h11, .ref h12, .ref h13, .int h0f24, .int h0f25, .ref h14, .ref h15, .ref h16, .ref h17, .int h0f30, .int h0f31, .ref h18, .ref h19, .ref h20, .ref h21]), (h4, aJ (k 1) 9 (zJ [1, 2, 3])), (h5, aJ (k 1) 9 (zJ [2, 3])), (h7, aJ (k 1) 4 (zJ [2, 3]))] _ := hT
                    refine lv_iinc (v := 4) (lv' := [(5, .int 4), (6, .long v20), (4, .int 2), (0, .ref h0), (1, .int x1), (2, .int x2), (3, .int x3)]) hx hb dX11_takesOut_201 hl (k := 0) rfl (by decide) (by decide) rfl (fun ls hl => ?_)
                    refine lv_goto (tgt := 181) hx hb dX11_takesOut_204 (by decide) ?_
                    refine lv_iload hx hb dX11_takesOut_181 (lv_at hl 0 rfl) ?_
                    refine lv_iconst (v := 4) hx hb dX11_takesOut_183 (by decide) ?_
                    refine lv_icmp_ge (tgt := 207) hx hb dX11_takesOut_184 (by decide) (fun _ => ?_) (fun cc => absurd (by decide +kernel) cc)
                    refine lv_iconst (v := 1) hx hb dX11_takesOut_207 (by decide) ?_
                    have hT := hT.wk (q := 1) rfl (an_J (c := k 1) (n := 9))
                    have hT : TP D A [(h0, ob 8 [.int h0f0, .int h0f1, .int h0f2, .int h0f3, .int h0f4, .int h0f5, .ref h1, .ref h2, .int h0f8, .int h0f9, .ref h3, .ref h4, .ref h5, .ref h6, .ref h7, .ref h8, .ref h9, .int h0f17, .int h0f18, .int h0f19, .ref h10, .ref h11, .ref h12, .ref h13, .int h0f24, .int h0f25, .ref h14, .ref h15, .ref h16, .ref h17, .int h0f30, .int h0f31, .ref h18, .ref h19, .ref h20, .ref h21]), (h4, aJ (k 1) 9 anJ), (h5, aJ (k 1) 9 (zJ [2, 3])), (h7, aJ (k 1) 4 (zJ [2, 3]))] _ := hT
                    have hT := hT.wk (q := 2) rfl (an_J (c := k 1) (n := 9))
                    have hT : TP D A [(h0, ob 8 [.int h0f0, .int h0f1, .int h0f2, .int h0f3, .int h0f4, .int h0f5, .ref h1, .ref h2, .int h0f8, .int h0f9, .ref h3, .ref h4, .ref h5, .ref h6, .ref h7, .ref h8, .ref h9, .int h0f17, .int h0f18, .int h0f19, .ref h10, .ref h11, .ref h12, .ref h13, .int h0f24, .int h0f25, .ref h14, .ref h15, .ref h16, .ref h17, .int h0f30, .int h0f31, .ref h18, .ref h19, .ref h20, .ref h21]), (h4, aJ (k 1) 9 anJ), (h5, aJ (k 1) 9 anJ), (h7, aJ (k 1) 4 (zJ [2, 3]))] _ := hT
                    exact tz_retZ (B := B_cX11_takesOut_a13ae D k h0 h4 h5 h7 h1 h2 h3 h6 h8 h9 h10 h11 h12 h13 h14 h15 h16 h17 h18 h19 h20 h21 x1 x2 x3 h0f0 h0f1 h0f2 h0f3 h0f4 h0f5 h0f8 h0f9 h0f17 h0f18 h0f19 h0f24 h0f25 h0f30 h0f31) (v := 1) hQ hx hb hr hlocks hS (Nat.le_of_ble_eq_true rfl) (Nat.le_of_ble_eq_true rfl) dX11_takesOut_208 (by have := li_1; omega) (Or.inr (Or.inl ⟨v3, v29, (by have := li_1; omega), (by have := li_1; omega), (by have := li_1; omega), (by have := li_1; omega), (by have := li_1; omega), (by have := li_1; omega), (by have := li_1; omega), (by have := li_1; omega), (by have := li_1; omega), (by have := li_1; omega), rfl, hT⟩))
                · skip
                  have c_28 := ni_nlt c_28 li_0 hq1
                  exfalso; omega
              · skip
                have c_27 := ni_eq c_27 hq1 li_2
                exfalso; omega
          · skip
            have c_18 := ni_eq c_18 hq1 li_2
            exfalso; omega
      · skip
        have c_5 := ni_nle c_5 hq1 li_2
        exfalso; omega
    · skip
      have c_4 := nl_eq c_4 rfl ll_0
      refine lv_iinc (v := 1) (lv' := [(4, .int 1), (0, .ref h0), (1, .int x1), (2, .int x2), (3, .int x3)]) hx hb dX11_takesOut_20 hl (k := 0) rfl (by decide) (by decide) rfl (fun ls hl => ?_)
      refine lv_goto (tgt := 3) hx hb dX11_takesOut_23 (by decide) ?_
      refine lv_iload hx hb dX11_takesOut_3 (lv_at hl 0 rfl) ?_
      refine lv_if_le (tgt := 26) hx hb dX11_takesOut_5 (by decide) (fun cc => absurd cc (by decide +kernel)) (fun _ => ?_)
      refine lv_aload_n hx hb dX11_takesOut_8 rfl (lv_at hl 1 rfl) ?_
      refine tz_get (ci := 8) (v := .ref h7) (C := RX11) (F := TX11) (N := 36) hx hb hU iX11 hown hK hT 0 rfl rfl 14 (by decide) w799 (fun _ h9 => h9) rfl dX11_takesOut_9 ?_
      refine lv_iload hx hb dX11_takesOut_12 (lv_at hl 0 rfl) ?_
      refine tz_lald hx hb hK hT 3 rfl (by have := li_1; omega) dX11_takesOut_14 (fun v36 e_v36 => ?_)
      clear e_v36
      refine lv_lconst (v := 0) hx hb dX11_takesOut_15 (by decide) ?_
      refine W.lcmp hx hb dX11_takesOut_16 ?_
      refine lv_if_ne (tgt := 26) hx hb dX11_takesOut_17 (by decide) (fun c_37 => ?_) (fun c_37 => ?_)
      · skip
        have c_37 := nl_ne c_37 rfl ll_0
        refine lv_iload hx hb dX11_takesOut_26 (lv_at hl 0 rfl) ?_
        refine lv_iload_n hx hb dX11_takesOut_28 rfl (lv_at hl 2 rfl) ?_
        refine lv_icmp_ge (tgt := 34) hx hb dX11_takesOut_29 (by decide) (fun c_38 => ?_) (fun c_38 => ?_)
        · skip
          have c_38 := ni_le c_38 hq1 li_1
          refine lv_iconst (v := 0) hx hb dX11_takesOut_34 (by decide) ?_
          refine lv_istore (lv' := [(5, .int 0), (4, .int 1), (0, .ref h0), (1, .int x1), (2, .int x2), (3, .int x3)]) hx hb dX11_takesOut_35 hl (by decide) rfl (fun ls hl => ?_)
          refine lv_iload hx hb dX11_takesOut_37 (lv_at hl 0 rfl) ?_
          refine lv_iconst (v := 4) hx hb dX11_takesOut_39 (by decide) ?_
          refine lv_icmp_ge (tgt := 71) hx hb dX11_takesOut_40 (by decide) (fun cc => absurd cc (by decide +kernel)) (fun _ => ?_)
          refine lv_aload_n hx hb dX11_takesOut_43 rfl (lv_at hl 2 rfl) ?_
          refine tz_get (ci := 8) (v := .ref h4) (C := RX11) (F := TX11) (N := 36) hx hb hU iX11 hown hK hT 0 rfl rfl 11 (by decide) w796 (fun _ h9 => h9) rfl dX11_takesOut_44 ?_
          refine lv_iload hx hb dX11_takesOut_47 (lv_at hl 0 rfl) ?_
          refine lv_aload_n hx hb dX11_takesOut_49 rfl (lv_at hl 2 rfl) ?_
          refine tz_get (ci := 8) (v := .ref h7) (C := RX11) (F := TX11) (N := 36) hx hb hU iX11 hown hK hT 0 rfl rfl 14 (by decide) w799 (fun _ h9 => h9) rfl dX11_takesOut_50 ?_
          refine lv_iload hx hb dX11_takesOut_53 (lv_at hl 0 rfl) ?_
          refine tz_lald hx hb hK hT 3 rfl (by have := li_0; omega) dX11_takesOut_55 (fun v39 e_v39 => ?_)
          clear e_v39
          have hT := hT.wk (q := 1) rfl (z_of (c := k 1) (n := 9))
          have hT : TP D A [(h0, ob 8 [.int h0f0, .int h0f1, .int h0f2, .int h0f3, .int h0f4, .int h0f5, .ref h1, .ref h2, .int h0f8, .int h0f9, .ref h3, .ref h4, .ref h5, .ref h6, .ref h7, .ref h8, .ref h9, .int h0f17, .int h0f18, .int h0f19, .ref h10, .ref h11, .ref h12, .ref h13, .int h0f24, .int h0f25, .ref h14, .ref h15, .ref h16, .ref h17, .int h0f30, .int h0f31, .ref h18, .ref h19, .ref h20, .ref h21]), (h4, aJ (k 1) 9 (zJ [])), (h5, aJ (k 1) 9 anJ), (h7, aJ (k 1) 4 (zJ [3]))] _ := hT
          refine tz_lastP hx hb hK hT hS 1 (zJ []) rfl (by have := li_0; omega) (z_putx (z := 0) li_0 (by decide)) dX11_takesOut_56 (fun H locs hT hS => ?_)
          have hT : TP D A [(h0, ob 8 [.int h0f0, .int h0f1, .int h0f2, .int h0f3, .int h0f4, .int h0f5, .ref h1, .ref h2, .int h0f8, .int h0f9, .ref h3, .ref h4, .ref h5, .ref h6, .ref h7, .ref h8, .ref h9, .int h0f17, .int h0f18, .int h0f19, .ref h10, .ref h11, .ref h12, .ref h13, .int h0f24, .int h0f25, .ref h14, .ref h15, .ref h16, .ref h17, .int h0f30, .int h0f31, .ref h18, .ref h19, .ref h20, .ref h21]), (h4, aJ (k 1) 9 (zJ [])), (h5, aJ (k 1) 9 anJ), (h7, aJ (k 1) 4 (zJ [3]))] _ := hT
          refine lv_aload_n hx hb dX11_takesOut_57 rfl (lv_at hl 2 rfl) ?_
          refine tz_get (ci := 8) (v := .ref h5) (C := RX11) (F := TX11) (N := 36) hx hb hU iX11 hown hK hT 0 rfl rfl 12 (by decide) w797 (fun _ h9 => h9) rfl dX11_takesOut_58 ?_
          refine lv_iload hx hb dX11_takesOut_61 (lv_at hl 0 rfl) ?_
          refine lv_lconst (v := 0) hx hb dX11_takesOut_63 (by decide) ?_
          have hT := hT.wk (q := 2) rfl (z_of (c := k 1) (n := 9))
          have hT : TP D A [(h0, ob 8 [.int h0f0, .int h0f1, .int h0f2, .int h0f3, .int h0f4, .int h0f5, .ref h1, .ref h2, .int h0f8, .int h0f9, .ref h3, .ref h4, .ref h5, .ref h6, .ref h7, .ref h8, .ref h9, .int h0f17, .int h0f18, .int h0f19, .ref h10, .ref h11, .ref h12, .ref h13, .int h0f24, .int h0f25, .ref h14, .ref h15, .ref h16, .ref h17, .int h0f30, .int h0f31, .ref h18, .ref h19, .ref h20, .ref h21]), (h4, aJ (k 1) 9 (zJ [])), (h5, aJ (k 1) 9 (zJ [])), (h7, aJ (k 1) 4 (zJ [3]))] _ := hT
          refine tz_lastP hx hb hK hT hS 2 (zJ [0]) rfl (by have := li_0; omega) (z_put0 (z := 0) li_0 (by decide)) dX11_takesOut_64 (fun H locs hT hS => ?_)
          have hT : TP D A [(h0, ob 8 [.int h0f0, .int h0f1, .int h0f2, .int h0f3, .int h0f4, .int h0f5, .ref h1, .ref h2, .int h0f8, .int h0f9, .ref h3, .ref h4, .ref h5, .ref h6, .ref h7, .ref h8, .ref h9, .int h0f17, .int h0f18, .int h0f19, .ref h10, .ref h11, .ref h12, .ref h13, .int h0f24, .int h0f25, .ref h14, .ref h15, .ref h16, .ref h17, .int h0f30, .int h0f31, .ref h18, .ref h19, .ref h20, .ref h21]), (h4, aJ (k 1) 9 (zJ [])), (h5, aJ (k 1) 9 (zJ [0])), (h7, aJ (k 1) 4 (zJ [3]))] _ := hT
          refine lv_iinc (v := 1) (lv' := [(5, .int 1), (4, .int 1), (0, .ref h0), (1, .int x1), (2, .int x2), (3, .int x3)]) hx hb dX11_takesOut_65 hl (k := 0) rfl (by decide) (by decide) rfl (fun ls hl => ?_)
          refine lv_goto (tgt := 37) hx hb dX11_takesOut_68 (by decide) ?_
          refine lv_iload hx hb dX11_takesOut_37 (lv_at hl 0 rfl) ?_
          refine lv_iconst (v := 4) hx hb dX11_takesOut_39 (by decide) ?_
          refine lv_icmp_ge (tgt := 71) hx hb dX11_takesOut_40 (by decide) (fun cc => absurd cc (by decide +kernel)) (fun _ => ?_)
          refine lv_aload_n hx hb dX11_takesOut_43 rfl (lv_at hl 2 rfl) ?_
          refine tz_get (ci := 8) (v := .ref h4) (C := RX11) (F := TX11) (N := 36) hx hb hU iX11 hown hK hT 0 rfl rfl 11 (by decide) w796 (fun _ h9 => h9) rfl dX11_takesOut_44 ?_
          refine lv_iload hx hb dX11_takesOut_47 (lv_at hl 0 rfl) ?_
          refine lv_aload_n hx hb dX11_takesOut_49 rfl (lv_at hl 2 rfl) ?_
          refine tz_get (ci := 8) (v := .ref h7) (C := RX11) (F := TX11) (N := 36) hx hb hU iX11 hown hK hT 0 rfl rfl 14 (by decide) w799 (fun _ h9 => h9) rfl dX11_takesOut_50 ?_
          refine lv_iload hx hb dX11_takesOut_53 (lv_at hl 0 rfl) ?_
          refine tz_lald hx hb hK hT 3 rfl (by have := li_1; omega) dX11_takesOut_55 (fun v40 e_v40 => ?_)
          clear e_v40
          refine tz_lastP hx hb hK hT hS 1 (zJ []) rfl (by have := li_1; omega) (z_putx (z := 1) li_1 (by decide)) dX11_takesOut_56 (fun H locs hT hS => ?_)
          have hT : TP D A [(h0, ob 8 [.int h0f0, .int h0f1, .int h0f2, .int h0f3, .int h0f4, .int h0f5, .ref h1, .ref h2, .int h0f8, .int h0f9, .ref h3, .ref h4, .ref h5, .ref h6, .ref h7, .ref h8, .ref h9, .int h0f17, .int h0f18, .int h0f19, .ref h10, .ref h11, .ref h12, .ref h13, .int h0f24, .int h0f25, .ref h14, .ref h15, .ref h16, .ref h17, .int h0f30, .int h0f31, .ref h18, .ref h19, .ref h20, .ref h21]), (h4, aJ (k 1) 9 (zJ [])), (h5, aJ (k 1) 9 (zJ [0])), (h7, aJ (k 1) 4 (zJ [3]))] _ := hT
          refine lv_aload_n hx hb dX11_takesOut_57 rfl (lv_at hl 2 rfl) ?_
          refine tz_get (ci := 8) (v := .ref h5) (C := RX11) (F := TX11) (N := 36) hx hb hU iX11 hown hK hT 0 rfl rfl 12 (by decide) w797 (fun _ h9 => h9) rfl dX11_takesOut_58 ?_
          refine lv_iload hx hb dX11_takesOut_61 (lv_at hl 0 rfl) ?_
          refine lv_lconst (v := 0) hx hb dX11_takesOut_63 (by decide) ?_
          refine tz_lastP hx hb hK hT hS 2 (zJ [0, 1]) rfl (by have := li_1; omega) (z_put0 (z := 1) li_1 (by decide)) dX11_takesOut_64 (fun H locs hT hS => ?_)
          have hT : TP D A [(h0, ob 8 [.int h0f0, .int h0f1, .int h0f2, .int h0f3, .int h0f4, .int h0f5, .ref h1, .ref h2, .int h0f8, .int h0f9, .ref h3, .ref h4, .ref h5, .ref h6, .ref h7, .ref h8, .ref h9, .int h0f17, .int h0f18, .int h0f19, .ref h10, .ref h11, .ref h12, .ref h13, .int h0f24, .int h0f25, .ref h14, .ref h15, .ref h16, .ref h17, .int h0f30, .int h0f31, .ref h18, .ref h19, .ref h20, .ref h21]), (h4, aJ (k 1) 9 (zJ [])), (h5, aJ (k 1) 9 (zJ [0, 1])), (h7, aJ (k 1) 4 (zJ [3]))] _ := hT
          refine lv_iinc (v := 2) (lv' := [(5, .int 2), (4, .int 1), (0, .ref h0), (1, .int x1), (2, .int x2), (3, .int x3)]) hx hb dX11_takesOut_65 hl (k := 0) rfl (by decide) (by decide) rfl (fun ls hl => ?_)
          refine lv_goto (tgt := 37) hx hb dX11_takesOut_68 (by decide) ?_
          refine lv_iload hx hb dX11_takesOut_37 (lv_at hl 0 rfl) ?_
          refine lv_iconst (v := 4) hx hb dX11_takesOut_39 (by decide) ?_
          refine lv_icmp_ge (tgt := 71) hx hb dX11_takesOut_40 (by decide) (fun cc => absurd cc (by decide +kernel)) (fun _ => ?_)
          refine lv_aload_n hx hb dX11_takesOut_43 rfl (lv_at hl 2 rfl) ?_
          refine tz_get (ci := 8) (v := .ref h4) (C := RX11) (F := TX11) (N := 36) hx hb hU iX11 hown hK hT 0 rfl rfl 11 (by decide) w796 (fun _ h9 => h9) rfl dX11_takesOut_44 ?_
          refine lv_iload hx hb dX11_takesOut_47 (lv_at hl 0 rfl) ?_
          refine lv_aload_n hx hb dX11_takesOut_49 rfl (lv_at hl 2 rfl) ?_
          refine tz_get (ci := 8) (v := .ref h7) (C := RX11) (F := TX11) (N := 36) hx hb hU iX11 hown hK hT 0 rfl rfl 14 (by decide) w799 (fun _ h9 => h9) rfl dX11_takesOut_50 ?_
          refine lv_iload hx hb dX11_takesOut_53 (lv_at hl 0 rfl) ?_
          refine tz_lald hx hb hK hT 3 rfl (by have := li_2; omega) dX11_takesOut_55 (fun v41 e_v41 => ?_)
          clear e_v41
          refine tz_lastP hx hb hK hT hS 1 (zJ []) rfl (by have := li_2; omega) (z_putx (z := 2) li_2 (by decide)) dX11_takesOut_56 (fun H locs hT hS => ?_)
          have hT : TP D A [(h0, ob 8 [.int h0f0, .int h0f1, .int h0f2, .int h0f3, .int h0f4, .int h0f5, .ref h1, .ref h2, .int h0f8, .int h0f9, .ref h3, .ref h4, .ref h5, .ref h6, .ref h7, .ref h8, .ref h9, .int h0f17, .int h0f18, .int h0f19, .ref h10, .ref h11, .ref h12, .ref h13, .int h0f24, .int h0f25, .ref h14, .ref h15, .ref h16, .ref h17, .int h0f30, .int h0f31, .ref h18, .ref h19, .ref h20, .ref h21]), (h4, aJ (k 1) 9 (zJ [])), (h5, aJ (k 1) 9 (zJ [0, 1])), (h7, aJ (k 1) 4 (zJ [3]))] _ := hT
          refine lv_aload_n hx hb dX11_takesOut_57 rfl (lv_at hl 2 rfl) ?_
          refine tz_get (ci := 8) (v := .ref h5) (C := RX11) (F := TX11) (N := 36) hx hb hU iX11 hown hK hT 0 rfl rfl 12 (by decide) w797 (fun _ h9 => h9) rfl dX11_takesOut_58 ?_
          refine lv_iload hx hb dX11_takesOut_61 (lv_at hl 0 rfl) ?_
          refine lv_lconst (v := 0) hx hb dX11_takesOut_63 (by decide) ?_
          refine tz_lastP hx hb hK hT hS 2 (zJ [0, 1, 2]) rfl (by have := li_2; omega) (z_put0 (z := 2) li_2 (by decide)) dX11_takesOut_64 (fun H locs hT hS => ?_)
          have hT : TP D A [(h0, ob 8 [.int h0f0, .int h0f1, .int h0f2, .int h0f3, .int h0f4, .int h0f5, .ref h1, .ref h2, .int h0f8, .int h0f9, .ref h3, .ref h4, .ref h5, .ref h6, .ref h7, .ref h8, .ref h9, .int h0f17, .int h0f18, .int h0f19, .ref h10, .ref h11, .ref h12, .ref h13, .int h0f24, .int h0f25, .ref h14, .ref h15, .ref h16, .ref h17, .int h0f30, .int h0f31, .ref h18, .ref h19, .ref h20, .ref h21]), (h4, aJ (k 1) 9 (zJ [])), (h5, aJ (k 1) 9 (zJ [0, 1, 2])), (h7, aJ (k 1) 4 (zJ [3]))] _ := hT
          refine lv_iinc (v := 3) (lv' := [(5, .int 3), (4, .int 1), (0, .ref h0), (1, .int x1), (2, .int x2), (3, .int x3)]) hx hb dX11_takesOut_65 hl (k := 0) rfl (by decide) (by decide) rfl (fun ls hl => ?_)
          refine lv_goto (tgt := 37) hx hb dX11_takesOut_68 (by decide) ?_
          refine lv_iload hx hb dX11_takesOut_37 (lv_at hl 0 rfl) ?_
          refine lv_iconst (v := 4) hx hb dX11_takesOut_39 (by decide) ?_
          refine lv_icmp_ge (tgt := 71) hx hb dX11_takesOut_40 (by decide) (fun cc => absurd cc (by decide +kernel)) (fun _ => ?_)
          refine lv_aload_n hx hb dX11_takesOut_43 rfl (lv_at hl 2 rfl) ?_
          refine tz_get (ci := 8) (v := .ref h4) (C := RX11) (F := TX11) (N := 36) hx hb hU iX11 hown hK hT 0 rfl rfl 11 (by decide) w796 (fun _ h9 => h9) rfl dX11_takesOut_44 ?_
          refine lv_iload hx hb dX11_takesOut_47 (lv_at hl 0 rfl) ?_
          refine lv_aload_n hx hb dX11_takesOut_49 rfl (lv_at hl 2 rfl) ?_
          refine tz_get (ci := 8) (v := .ref h7) (C := RX11) (F := TX11) (N := 36) hx hb hU iX11 hown hK hT 0 rfl rfl 14 (by decide) w799 (fun _ h9 => h9) rfl dX11_takesOut_50 ?_
          refine lv_iload hx hb dX11_takesOut_53 (lv_at hl 0 rfl) ?_
          refine tz_lald hx hb hK hT 3 rfl (by have := li_3; omega) dX11_takesOut_55 (fun v42 e_v42 => ?_)
          have e_v42 := z_get (z := 3) e_v42 li_3 (by decide)
          subst e_v42
          refine tz_lastP hx hb hK hT hS 1 (zJ [3]) rfl (by have := li_3; omega) (z_put0 (z := 3) li_3 (by decide)) dX11_takesOut_56 (fun H locs hT hS => ?_)
          have hT : TP D A [(h0, ob 8 [.int h0f0, .int h0f1, .int h0f2, .int h0f3, .int h0f4, .int h0f5, .ref h1, .ref h2, .int h0f8, .int h0f9, .ref h3, .ref h4, .ref h5, .ref h6, .ref h7, .ref h8, .ref h9, .int h0f17, .int h0f18, .int h0f19, .ref h10, .ref h11, .ref h12, .ref h13, .int h0f24, .int h0f25, .ref h14, .ref h15, .ref h16, .ref h17, .int h0f30, .int h0f31, .ref h18, .ref h19, .ref h20, .ref h21]), (h4, aJ (k 1) 9 (zJ [3])), (h5, aJ (k 1) 9 (zJ [0, 1, 2])), (h7, aJ (k 1) 4 (zJ [3]))] _ := hT
          refine lv_aload_n hx hb dX11_takesOut_57 rfl (lv_at hl 2 rfl) ?_
          refine tz_get (ci := 8) (v := .ref h5) (C := RX11) (F := TX11) (N := 36) hx hb hU iX11 hown hK hT 0 rfl rfl 12 (by decide) w797 (fun _ h9 => h9) rfl dX11_takesOut_58 ?_
          refine lv_iload hx hb dX11_takesOut_61 (lv_at hl 0 rfl) ?_
          refine lv_lconst (v := 0) hx hb dX11_takesOut_63 (by decide) ?_
          refine tz_lastP hx hb hK hT hS 2 (zJ [0, 1, 2, 3]) rfl (by have := li_3; omega) (z_put0 (z := 3) li_3 (by decide)) dX11_takesOut_64 (fun H locs hT hS => ?_)
          have hT : TP D A [(h0, ob 8 [.int h0f0, .int h0f1, .int h0f2, .int h0f3, .int h0f4, .int h0f5, .ref h1, .ref h2, .int h0f8, .int h0f9, .ref h3, .ref h4, .ref h5, .ref h6, .ref h7, .ref h8, .ref h9, .int h0f17, .int h0f18, .int h0f19, .ref h10, .ref h11, .ref h12, .ref h13, .int h0f24, .int h0f25, .ref h14, .ref h15, .ref h16, .ref h17, .int h0f30, .int h0f31, .ref h18, .ref h19, .ref h20, .ref h21]), (h4, aJ (k 1) 9 (zJ [3])), (h5, aJ (k 1) 9 (zJ [0, 1, 2, 3])), (h7, aJ (k 1) 4 (zJ [3]))] _ := hT
          refine lv_iinc (v := 4) (lv' := [(5, .int 4), (4, .int 1), (0, .ref h0), (1, .int x1), (2, .int x2), (3, .int x3)]) hx hb dX11_takesOut_65 hl (k := 0) rfl (by decide) (by decide) rfl (fun ls hl => ?_)
          refine lv_goto (tgt := 37) hx hb dX11_takesOut_68 (by decide) ?_
          refine lv_iload hx hb dX11_takesOut_37 (lv_at hl 0 rfl) ?_
          refine lv_iconst (v := 4) hx hb dX11_takesOut_39 (by decide) ?_
          refine lv_icmp_ge (tgt := 71) hx hb dX11_takesOut_40 (by decide) (fun _ => ?_) (fun cc => absurd (by decide +kernel) cc)
          refine lv_iload hx hb dX11_takesOut_71 (lv_at hl 1 rfl) ?_
          refine lv_istore (lv' := [(5, .int 1), (4, .int 1), (0, .ref h0), (1, .int x1), (2, .int x2), (3, .int x3)]) hx hb dX11_takesOut_73 hl (by decide) rfl (fun ls hl => ?_)
          refine lv_iload hx hb dX11_takesOut_75 (lv_at hl 0 rfl) ?_
          refine lv_iload_n hx hb dX11_takesOut_77 rfl (lv_at hl 3 rfl) ?_
          refine lv_icmp_lt (tgt := 154) hx hb dX11_takesOut_78 (by decide) (fun c_43 => ?_) (fun c_43 => ?_)
          · skip
            have c_43 := ni_lt c_43 li_1 hq1
            exfalso; omega
          · skip
            have c_43 := ni_nlt c_43 li_1 hq1
            refine lv_aload_n hx hb dX11_takesOut_81 rfl (lv_at hl 2 rfl) ?_
            refine tz_get (ci := 8) (v := .ref h4) (C := RX11) (F := TX11) (N := 36) hx hb hU iX11 hown hK hT 0 rfl rfl 11 (by decide) w796 (fun _ h9 => h9) rfl dX11_takesOut_82 ?_
            refine lv_iload hx hb dX11_takesOut_85 (lv_at hl 0 rfl) ?_
            refine tz_lald hx hb hK hT 1 rfl (by have := li_1; omega) dX11_takesOut_87 (fun v44 e_v44 => ?_)
            clear e_v44
            refine lv_lstore (lv' := [(6, .long v44), (5, .int 1), (4, .int 1), (0, .ref h0), (1, .int x1), (2, .int x2), (3, .int x3)]) hx hb dX11_takesOut_88 hl (by decide) rfl (fun ls hl => ?_)
            refine lv_aload_n hx hb dX11_takesOut_90 rfl (lv_at hl 3 rfl) ?_
            refine tz_get (ci := 8) (v := .ref h5) (C := RX11) (F := TX11) (N := 36) hx hb hU iX11 hown hK hT 0 rfl rfl 12 (by decide) w797 (fun _ h9 => h9) rfl dX11_takesOut_91 ?_
            refine lv_iload hx hb dX11_takesOut_94 (lv_at hl 1 rfl) ?_
            refine lv_iload_n hx hb dX11_takesOut_96 rfl (lv_at hl 4 rfl) ?_
            refine lv_isub hx hb dX11_takesOut_97 (lv_topi (fun v45 e_v45 => ?_))
            have e_v45 := ai_sub e_v45 li_1 hq1 (by omega)
            refine lv_lload hx hb dX11_takesOut_98 (lv_at hl 0 rfl) ?_
            refine tz_lastP hx hb hK hT hS 2 (zJ [1, 2, 3]) rfl (by omega) (z_putx (z := 0) (show v45.toInt = 0 by omega) (by decide)) dX11_takesOut_100 (fun H locs hT hS => ?_)
            have hT : TP D A [(h0, ob 8 [.int h0f0, .int h0f1, .int h0f2, .int h0f3, .int h0f4, .int h0f5, .ref h1, .ref h2, .int h0f8, .int h0f9, .ref h3, .ref h4, .ref h5, .ref h6, .ref h7, .ref h8, .ref h9, .int h0f17, .int h0f18, .int h0f19, .ref h10, .ref h11, .ref h12, .ref h13, .int h0f24, .int h0f25, .ref h14, .ref h15, .ref h16, .ref h17, .int h0f30, .int h0f31, .ref h18, .ref h19, .ref h20, .ref h21]), (h4, aJ (k 1) 9 (zJ [3])), (h5, aJ (k 1) 9 (zJ [1, 2, 3])), (h7, aJ (k 1) 4 (zJ [3]))] _ := hT
            refine lv_aload_n hx hb dX11_takesOut_101 rfl (lv_at hl 3 rfl) ?_
            refine tz_get (ci := 8) (v := .ref h4) (C := RX11) (F := TX11) (N := 36) hx hb hU iX11 hown hK hT 0 rfl rfl 11 (by decide) w796 (fun _ h9 => h9) rfl dX11_takesOut_102 ?_
            refine lv_iload hx hb dX11_takesOut_105 (lv_at hl 1 rfl) ?_
            refine lv_iload_n hx hb dX11_takesOut_107 rfl (lv_at hl 4 rfl) ?_
            refine lv_isub hx hb dX11_takesOut_108 (lv_topi (fun v46 e_v46 => ?_))
            have e_v46 := ai_sub e_v46 li_1 hq1 (by omega)
            refine lv_dup2_11 hx hb dX11_takesOut_109 rfl rfl ?_
            refine tz_lald hx hb hK hT 1 rfl (by omega) dX11_takesOut_110 (fun v47 e_v47 => ?_)
            clear e_v47
            refine lv_lload hx hb dX11_takesOut_111 (lv_at hl 0 rfl) ?_
            refine lv_iload_n hx hb dX11_takesOut_113 rfl (lv_at hl 5 rfl) ?_
            obtain ⟨v48, e_v48⟩ : ∃ x : Int64, x2.toInt64 = x := ⟨_, rfl⟩
            refine lv_i2l (v := v48) hx hb dX11_takesOut_114 e_v48 ?_
            have e_v48 := ai_i2l e_v48 rfl
            refine lv_lmul hx hb dX11_takesOut_115 (lv_topl (fun v49 e_v49 => ?_))
            refine lv_lsub hx hb dX11_takesOut_116 (lv_topl (fun v50 e_v50 => ?_))
            refine tz_lastP hx hb hK hT hS 1 (zJ [3]) rfl (by omega) (z_putx (z := 0) (show v46.toInt = 0 by omega) (by decide)) dX11_takesOut_117 (fun H locs hT hS => ?_)
            have hT : TP D A [(h0, ob 8 [.int h0f0, .int h0f1, .int h0f2, .int h0f3, .int h0f4, .int h0f5, .ref h1, .ref h2, .int h0f8, .int h0f9, .ref h3, .ref h4, .ref h5, .ref h6, .ref h7, .ref h8, .ref h9, .int h0f17, .int h0f18, .int h0f19, .ref h10, .ref h11, .ref h12, .ref h13, .int h0f24, .int h0f25, .ref h14, .ref h15, .ref h16, .ref h17, .int h0f30, .int h0f31, .ref h18, .ref h19, .ref h20, .ref h21]), (h4, aJ (k 1) 9 (zJ [3])), (h5, aJ (k 1) 9 (zJ [1, 2, 3])), (h7, aJ (k 1) 4 (zJ [3]))] _ := hT
            refine lv_iload_n hx hb dX11_takesOut_118 rfl (lv_at hl 4 rfl) ?_
            refine lv_iconst (v := 2) hx hb dX11_takesOut_119 (by decide) ?_
            refine lv_icmp_ne (tgt := 140) hx hb dX11_takesOut_120 (by decide) (fun c_51 => ?_) (fun c_51 => ?_)
            · skip
              have c_51 := ni_ne c_51 hq1 li_2
              refine lv_aload_n hx hb dX11_takesOut_140 rfl (lv_at hl 3 rfl) ?_
              refine tz_get (ci := 8) (v := .ref h4) (C := RX11) (F := TX11) (N := 36) hx hb hU iX11 hown hK hT 0 rfl rfl 11 (by decide) w796 (fun _ h9 => h9) rfl dX11_takesOut_141 ?_
              refine lv_iload hx hb dX11_takesOut_144 (lv_at hl 1 rfl) ?_
              refine lv_lconst (v := 0) hx hb dX11_takesOut_146 (by decide) ?_
              refine tz_lastP hx hb hK hT hS 1 (zJ [1, 3]) rfl (by have := li_1; omega) (z_put0 (z := 1) li_1 (by decide)) dX11_takesOut_147 (fun H locs hT hS => ?_)
              have hT : TP D A [(h0, ob 8 [.int h0f0, .int h0f1, .int h0f2, .int h0f3, .int h0f4, .int h0f5, .ref h1, .ref h2, .int h0f8, .int h0f9, .ref h3, .ref h4, .ref h5, .ref h6, .ref h7, .ref h8, .ref h9, .int h0f17, .int h0f18, .int h0f19, .ref h10, .ref h11, .ref h12, .ref h13, .int h0f24, .int h0f25, .ref h14, .ref h15, .ref h16, .ref h17, .int h0f30, .int h0f31, .ref h18, .ref h19, .ref h20, .ref h21]), (h4, aJ (k 1) 9 (zJ [1, 3])), (h5, aJ (k 1) 9 (zJ [1, 2, 3])), (h7, aJ (k 1) 4 (zJ [3]))] _ := hT
              refine lv_iinc (v := 0) (lv' := [(5, .int 0), (6, .long v44), (4, .int 1), (0, .ref h0), (1, .int x1), (2, .int x2), (3, .int x3)]) hx hb dX11_takesOut_148 hl (k := 1) rfl (by decide) (by decide) rfl (fun ls hl => ?_)
              refine lv_goto (tgt := 75) hx hb dX11_takesOut_151 (by decide) ?_
              refine lv_iload hx hb dX11_takesOut_75 (lv_at hl 0 rfl) ?_
              refine lv_iload_n hx hb dX11_takesOut_77 rfl (lv_at hl 4 rfl) ?_
              refine lv_icmp_lt (tgt := 154) hx hb dX11_takesOut_78 (by decide) (fun c_52 => ?_) (fun c_52 => ?_)
              · skip
                have c_52 := ni_lt c_52 li_0 hq1
                refine lv_aload_n hx hb dX11_takesOut_154 rfl (lv_at hl 3 rfl) ?_
                refine tz_get (ci := 8) (v := .ref h4) (C := RX11) (F := TX11) (N := 36) hx hb hU iX11 hown hK hT 0 rfl rfl 11 (by decide) w796 (fun _ h9 => h9) rfl dX11_takesOut_155 ?_
                refine lv_iconst (v := 0) hx hb dX11_takesOut_158 (by decide) ?_
                refine tz_lald hx hb hK hT 1 rfl (by have := li_0; omega) dX11_takesOut_159 (fun v53 e_v53 => ?_)
                clear e_v53
                refine lv_lconst (v := 0) hx hb dX11_takesOut_160 (by decide) ?_
                refine W.lcmp hx hb dX11_takesOut_161 ?_
                refine lv_if_ne (tgt := 176) hx hb dX11_takesOut_162 (by decide) (fun c_54 => ?_) (fun c_54 => ?_)
                · skip
                  have c_54 := nl_ne c_54 rfl ll_0
                  refine lv_iconst (v := 0) hx hb dX11_takesOut_176 (by decide) ?_
                  have hT := hT.wk (q := 1) rfl (an_J (c := k 1) (n := 9))
                  have hT : TP D A [(h0, ob 8 [.int h0f0, .int h0f1, .int h0f2, .int h0f3, .int h0f4, .int h0f5, .ref h1, .ref h2, .int h0f8, .int h0f9, .ref h3, .ref h4, .ref h5, .ref h6, .ref h7, .ref h8, .ref h9, .int h0f17, .int h0f18, .int h0f19, .ref h10, .ref h11, .ref h12, .ref h13, .int h0f24, .int h0f25, .ref h14, .ref h15, .ref h16, .ref h17, .int h0f30, .int h0f31, .ref h18, .ref h19, .ref h20, .ref h21]), (h4, aJ (k 1) 9 anJ), (h5, aJ (k 1) 9 (zJ [1, 2, 3])), (h7, aJ (k 1) 4 (zJ [3]))] _ := hT
                  have hT := hT.wk (q := 2) rfl (an_J (c := k 1) (n := 9))
                  have hT : TP D A [(h0, ob 8 [.int h0f0, .int h0f1, .int h0f2, .int h0f3, .int h0f4, .int h0f5, .ref h1, .ref h2, .int h0f8, .int h0f9, .ref h3, .ref h4, .ref h5, .ref h6, .ref h7, .ref h8, .ref h9, .int h0f17, .int h0f18, .int h0f19, .ref h10, .ref h11, .ref h12, .ref h13, .int h0f24, .int h0f25, .ref h14, .ref h15, .ref h16, .ref h17, .int h0f30, .int h0f31, .ref h18, .ref h19, .ref h20, .ref h21]), (h4, aJ (k 1) 9 anJ), (h5, aJ (k 1) 9 anJ), (h7, aJ (k 1) 4 (zJ [3]))] _ := hT
                  have hT := hT.wk (q := 3) rfl (an_J (c := k 1) (n := 4))
                  have hT : TP D A [(h0, ob 8 [.int h0f0, .int h0f1, .int h0f2, .int h0f3, .int h0f4, .int h0f5, .ref h1, .ref h2, .int h0f8, .int h0f9, .ref h3, .ref h4, .ref h5, .ref h6, .ref h7, .ref h8, .ref h9, .int h0f17, .int h0f18, .int h0f19, .ref h10, .ref h11, .ref h12, .ref h13, .int h0f24, .int h0f25, .ref h14, .ref h15, .ref h16, .ref h17, .int h0f30, .int h0f31, .ref h18, .ref h19, .ref h20, .ref h21]), (h4, aJ (k 1) 9 anJ), (h5, aJ (k 1) 9 anJ), (h7, aJ (k 1) 4 anJ)] _ := hT
                  exact tz_retZ (B := B_cX11_takesOut_a13ae D k h0 h4 h5 h7 h1 h2 h3 h6 h8 h9 h10 h11 h12 h13 h14 h15 h16 h17 h18 h19 h20 h21 x1 x2 x3 h0f0 h0f1 h0f2 h0f3 h0f4 h0f5 h0f8 h0f9 h0f17 h0f18 h0f19 h0f24 h0f25 h0f30 h0f31) (v := 0) hQ hx hb hr hlocks hS (Nat.le_of_ble_eq_true rfl) (Nat.le_of_ble_eq_true rfl) dX11_takesOut_177 (by have := li_0; omega) (Or.inl ⟨rfl, hT⟩)
                · skip
                  have c_54 := nl_eq c_54 rfl ll_0
                  refine lv_aload_n hx hb dX11_takesOut_165 rfl (lv_at hl 3 rfl) ?_
                  refine tz_get (ci := 8) (v := .ref h4) (C := RX11) (F := TX11) (N := 36) hx hb hU iX11 hown hK hT 0 rfl rfl 11 (by decide) w796 (fun _ h9 => h9) rfl dX11_takesOut_166 ?_
                  refine lv_iconst (v := 1) hx hb dX11_takesOut_169 (by decide) ?_
                  refine tz_lald hx hb hK hT 1 rfl (by have := li_1; omega) dX11_takesOut_170 (fun v55 e_v55 => ?_)
                  have e_v55 := z_get (z := 1) e_v55 li_1 (by decide)
                  subst e_v55
                  refine lv_lconst (v := 0) hx hb dX11_takesOut_171 (by decide) ?_
                  refine W.lcmp hx hb dX11_takesOut_172 (sv_i (v := 0) (by decide +kernel) ?_)
                  refine lv_if_eq (tgt := 178) hx hb dX11_takesOut_173 (by decide) (fun _ => ?_) (fun cc => absurd (by decide +kernel) cc)
                  refine lv_iconst (v := 0) hx hb dX11_takesOut_178 (by decide) ?_
                  refine lv_istore (lv' := [(5, .int 0), (6, .long v44), (4, .int 1), (0, .ref h0), (1, .int x1), (2, .int x2), (3, .int x3)]) hx hb dX11_takesOut_179 hl (by decide) rfl (fun ls hl => ?_)
                  refine lv_iload hx hb dX11_takesOut_181 (lv_at hl 0 rfl) ?_
                  refine lv_iconst (v := 4) hx hb dX11_takesOut_183 (by decide) ?_
                  refine lv_icmp_ge (tgt := 207) hx hb dX11_takesOut_184 (by decide) (fun cc => absurd cc (by decide +kernel)) (fun _ => ?_)
                  refine lv_aload_n hx hb dX11_takesOut_187 rfl (lv_at hl 3 rfl) ?_
                  refine tz_get (ci := 8) (v := .ref h7) (C := RX11) (F := TX11) (N := 36) hx hb hU iX11 hown hK hT 0 rfl rfl 14 (by decide) w799 (fun _ h9 => h9) rfl dX11_takesOut_188 ?_
                  refine lv_iload hx hb dX11_takesOut_191 (lv_at hl 0 rfl) ?_
                  refine lv_aload_n hx hb dX11_takesOut_193 rfl (lv_at hl 3 rfl) ?_
                  refine tz_get (ci := 8) (v := .ref h5) (C := RX11) (F := TX11) (N := 36) hx hb hU iX11 hown hK hT 0 rfl rfl 12 (by decide) w797 (fun _ h9 => h9) rfl dX11_takesOut_194 ?_
                  refine lv_iload hx hb dX11_takesOut_197 (lv_at hl 0 rfl) ?_
                  refine tz_lald hx hb hK hT 2 rfl (by have := li_0; omega) dX11_takesOut_199 (fun v56 e_v56 => ?_)
                  clear e_v56
                  refine tz_lastP hx hb hK hT hS 3 (zJ [3]) rfl (by have := li_0; omega) (z_putx (z := 0) li_0 (by decide)) dX11_takesOut_200 (fun H locs hT hS => ?_)
                  have hT : TP D A [(h0, ob 8 [.int h0f0, .int h0f1, .int h0f2, .int h0f3, .int h0f4, .int h0f5, .ref h1, .ref h2, .int h0f8, .int h0f9, .ref h3, .ref h4, .ref h5, .ref h6, .ref h7, .ref h8, .ref h9, .int h0f17, .int h0f18, .int h0f19, .ref h10, .ref h11, .ref h12, .ref h13, .int h0f24, .int h0f25, .ref h14, .ref h15, .ref h16, .ref h17, .int h0f30, .int h0f31, .ref h18, .ref h19, .ref h20, .ref h21]), (h4, aJ (k 1) 9 (zJ [1, 3])), (h5, aJ (k 1) 9 (zJ [1, 2, 3])), (h7, aJ (k 1) 4 (zJ [3]))] _ := hT
                  refine lv_iinc (v := 1) (lv' := [(5, .int 1), (6, .long v44), (4, .int 1), (0, .ref h0), (1, .int x1), (2, .int x2), (3, .int x3)]) hx hb dX11_takesOut_201 hl (k := 0) rfl (by decide) (by decide) rfl (fun ls hl => ?_)
                  refine lv_goto (tgt := 181) hx hb dX11_takesOut_204 (by decide) ?_
                  refine lv_iload hx hb dX11_takesOut_181 (lv_at hl 0 rfl) ?_
                  refine lv_iconst (v := 4) hx hb dX11_takesOut_183 (by decide) ?_
                  refine lv_icmp_ge (tgt := 207) hx hb dX11_takesOut_184 (by decide) (fun cc => absurd cc (by decide +kernel)) (fun _ => ?_)
                  refine lv_aload_n hx hb dX11_takesOut_187 rfl (lv_at hl 3 rfl) ?_
                  refine tz_get (ci := 8) (v := .ref h7) (C := RX11) (F := TX11) (N := 36) hx hb hU iX11 hown hK hT 0 rfl rfl 14 (by decide) w799 (fun _ h9 => h9) rfl dX11_takesOut_188 ?_
                  refine lv_iload hx hb dX11_takesOut_191 (lv_at hl 0 rfl) ?_
                  refine lv_aload_n hx hb dX11_takesOut_193 rfl (lv_at hl 3 rfl) ?_
                  refine tz_get (ci := 8) (v := .ref h5) (C := RX11) (F := TX11) (N := 36) hx hb hU iX11 hown hK hT 0 rfl rfl 12 (by decide) w797 (fun _ h9 => h9) rfl dX11_takesOut_194 ?_
                  refine lv_iload hx hb dX11_takesOut_197 (lv_at hl 0 rfl) ?_
                  refine tz_lald hx hb hK hT 2 rfl (by have := li_1; omega) dX11_takesOut_199 (fun v57 e_v57 => ?_)
                  have e_v57 := z_get (z := 1) e_v57 li_1 (by decide)
                  subst e_v57
                  refine tz_lastP hx hb hK hT hS 3 (zJ [1, 3]) rfl (by have := li_1; omega) (z_put0 (z := 1) li_1 (by decide)) dX11_takesOut_200 (fun H locs hT hS => ?_)
                  have hT : TP D A [(h0, ob 8 [.int h0f0, .int h0f1, .int h0f2, .int h0f3, .int h0f4, .int h0f5, .ref h1, .ref h2, .int h0f8, .int h0f9, .ref h3, .ref h4, .ref h5, .ref h6, .ref h7, .ref h8, .ref h9, .int h0f17, .int h0f18, .int h0f19, .ref h10, .ref h11, .ref h12, .ref h13, .int h0f24, .int h0f25, .ref h14, .ref h15, .ref h16, .ref h17, .int h0f30, .int h0f31, .ref h18, .ref h19, .ref h20, .ref h21]), (h4, aJ (k 1) 9 (zJ [1, 3])), (h5, aJ (k 1) 9 (zJ [1, 2, 3])), (h7, aJ (k 1) 4 (zJ [1, 3]))] _ := hT
                  refine lv_iinc (v := 2) (lv' := [(5, .int 2), (6, .long v44), (4, .int 1), (0, .ref h0), (1, .int x1), (2, .int x2), (3, .int x3)]) hx hb dX11_takesOut_201 hl (k := 0) rfl (by decide) (by decide) rfl (fun ls hl => ?_)
                  refine lv_goto (tgt := 181) hx hb dX11_takesOut_204 (by decide) ?_
                  refine lv_iload hx hb dX11_takesOut_181 (lv_at hl 0 rfl) ?_
                  refine lv_iconst (v := 4) hx hb dX11_takesOut_183 (by decide) ?_
                  refine lv_icmp_ge (tgt := 207) hx hb dX11_takesOut_184 (by decide) (fun cc => absurd cc (by decide +kernel)) (fun _ => ?_)
                  refine lv_aload_n hx hb dX11_takesOut_187 rfl (lv_at hl 3 rfl) ?_
                  refine tz_get (ci := 8) (v := .ref h7) (C := RX11) (F := TX11) (N := 36) hx hb hU iX11 hown hK hT 0 rfl rfl 14 (by decide) w799 (fun _ h9 => h9) rfl dX11_takesOut_188 ?_
                  refine lv_iload hx hb dX11_takesOut_191 (lv_at hl 0 rfl) ?_
                  refine lv_aload_n hx hb dX11_takesOut_193 rfl (lv_at hl 3 rfl) ?_
                  refine tz_get (ci := 8) (v := .ref h5) (C := RX11) (F := TX11) (N := 36) hx hb hU iX11 hown hK hT 0 rfl rfl 12 (by decide) w797 (fun _ h9 => h9) rfl dX11_takesOut_194 ?_
                  refine lv_iload hx hb dX11_takesOut_197 (lv_at hl 0 rfl) ?_
                  refine tz_lald hx hb hK hT 2 rfl (by have := li_2; omega) dX11_takesOut_199 (fun v58 e_v58 => ?_)
                  have e_v58 := z_get (z := 2) e_v58 li_2 (by decide)
                  subst e_v58
                  refine tz_lastP hx hb hK hT hS 3 (zJ [1, 2, 3]) rfl (by have := li_2; omega) (z_put0 (z := 2) li_2 (by decide)) dX11_takesOut_200 (fun H locs hT hS => ?_)
                  have hT : TP D A [(h0, ob 8 [.int h0f0, .int h0f1, .int h0f2, .int h0f3, .int h0f4, .int h0f5, .ref h1, .ref h2, .int h0f8, .int h0f9, .ref h3, .ref h4, .ref h5, .ref h6, .ref h7, .ref h8, .ref h9, .int h0f17, .int h0f18, .int h0f19, .ref h10, .ref h11, .ref h12, .ref h13, .int h0f24, .int h0f25, .ref h14, .ref h15, .ref h16, .ref h17, .int h0f30, .int h0f31, .ref h18, .ref h19, .ref h20, .ref h21]), (h4, aJ (k 1) 9 (zJ [1, 3])), (h5, aJ (k 1) 9 (zJ [1, 2, 3])), (h7, aJ (k 1) 4 (zJ [1, 2, 3]))] _ := hT
                  refine lv_iinc (v := 3) (lv' := [(5, .int 3), (6, .long v44), (4, .int 1), (0, .ref h0), (1, .int x1), (2, .int x2), (3, .int x3)]) hx hb dX11_takesOut_201 hl (k := 0) rfl (by decide) (by decide) rfl (fun ls hl => ?_)
                  refine lv_goto (tgt := 181) hx hb dX11_takesOut_204 (by decide) ?_
                  refine lv_iload hx hb dX11_takesOut_181 (lv_at hl 0 rfl) ?_
                  refine lv_iconst (v := 4) hx hb dX11_takesOut_183 (by decide) ?_
                  refine lv_icmp_ge (tgt := 207) hx hb dX11_takesOut_184 (by decide) (fun cc => absurd cc (by decide +kernel)) (fun _ => ?_)
                  refine lv_aload_n hx hb dX11_takesOut_187 rfl (lv_at hl 3 rfl) ?_
                  refine tz_get (ci := 8) (v := .ref h7) (C := RX11) (F := TX11) (N := 36) hx hb hU iX11 hown hK hT 0 rfl rfl 14 (by decide) w799 (fun _ h9 => h9) rfl dX11_takesOut_188 ?_
                  refine lv_iload hx hb dX11_takesOut_191 (lv_at hl 0 rfl) ?_
                  refine lv_aload_n hx hb dX11_takesOut_193 rfl (lv_at hl 3 rfl) ?_
                  refine tz_get (ci := 8) (v := .ref h5) (C := RX11) (F := TX11) (N := 36) hx hb hU iX11 hown hK hT 0 rfl rfl 12 (by decide) w797 (fun _ h9 => h9) rfl dX11_takesOut_194 ?_
                  refine lv_iload hx hb dX11_takesOut_197 (lv_at hl 0 rfl) ?_
                  refine tz_lald hx hb hK hT 2 rfl (by have := li_3; omega) dX11_takesOut_199 (fun v59 e_v59 => ?_)
                  have e_v59 := z_get (z := 3) e_v59 li_3 (by decide)
                  subst e_v59
                  refine tz_lastP hx hb hK hT hS 3 (zJ [1, 2, 3]) rfl (by have := li_3; omega) (z_put0 (z := 3) li_3 (by decide)) dX11_takesOut_200 (fun H locs hT hS => ?_)
                  have hT : TP D A [(h0, ob 8 [.int h0f0, .int h0f1, .int h0f2, .int h0f3, .int h0f4, .int h0f5, .ref h1, .ref h2, .int h0f8, .int h0f9, .ref h3, .ref h4, .ref h5, .ref h6, .ref h7, .ref h8, .ref h9, .int h0f17, .int h0f18, .int h0f19, .ref h10, .ref h11, .ref h12, .ref h13, .int h0f24, .int h0f25, .ref h14, .ref h15, .ref h16, .ref h17, .int h0f30, .int h0f31, .ref h18, .ref h19, .ref h20, .ref h21]), (h4, aJ (k 1) 9 (zJ [1, 3])), (h5, aJ (k 1) 9 (zJ [1, 2, 3])), (h7, aJ (k 1) 4 (zJ [1, 2, 3]))] _ := hT
                  refine lv_iinc (v := 4) (lv' := [(5, .int 4), (6, .long v44), (4, .int 1), (0, .ref h0), (1, .int x1), (2, .int x2), (3, .int x3)]) hx hb dX11_takesOut_201 hl (k := 0) rfl (by decide) (by decide) rfl (fun ls hl => ?_)
                  refine lv_goto (tgt := 181) hx hb dX11_takesOut_204 (by decide) ?_
                  refine lv_iload hx hb dX11_takesOut_181 (lv_at hl 0 rfl) ?_
                  refine lv_iconst (v := 4) hx hb dX11_takesOut_183 (by decide) ?_
                  refine lv_icmp_ge (tgt := 207) hx hb dX11_takesOut_184 (by decide) (fun _ => ?_) (fun cc => absurd (by decide +kernel) cc)
                  refine lv_iconst (v := 1) hx hb dX11_takesOut_207 (by decide) ?_
                  have hT := hT.wk (q := 1) rfl (an_J (c := k 1) (n := 9))
                  have hT : TP D A [(h0, ob 8 [.int h0f0, .int h0f1, .int h0f2, .int h0f3, .int h0f4, .int h0f5, .ref h1, .ref h2, .int h0f8, .int h0f9, .ref h3, .ref h4, .ref h5, .ref h6, .ref h7, .ref h8, .ref h9, .int h0f17, .int h0f18, .int h0f19, .ref h10, .ref h11, .ref h12, .ref h13, .int h0f24, .int h0f25, .ref h14, .ref h15, .ref h16, .ref h17, .int h0f30, .int h0f31, .ref h18, .ref h19, .ref h20, .ref h21]), (h4, aJ (k 1) 9 anJ), (h5, aJ (k 1) 9 (zJ [1, 2, 3])), (h7, aJ (k 1) 4 (zJ [1, 2, 3]))] _ := hT
                  have hT := hT.wk (q := 2) rfl (an_J (c := k 1) (n := 9))
                  have hT : TP D A [(h0, ob 8 [.int h0f0, .int h0f1, .int h0f2, .int h0f3, .int h0f4, .int h0f5, .ref h1, .ref h2, .int h0f8, .int h0f9, .ref h3, .ref h4, .ref h5, .ref h6, .ref h7, .ref h8, .ref h9, .int h0f17, .int h0f18, .int h0f19, .ref h10, .ref h11, .ref h12, .ref h13, .int h0f24, .int h0f25, .ref h14, .ref h15, .ref h16, .ref h17, .int h0f30, .int h0f31, .ref h18, .ref h19, .ref h20, .ref h21]), (h4, aJ (k 1) 9 anJ), (h5, aJ (k 1) 9 anJ), (h7, aJ (k 1) 4 (zJ [1, 2, 3]))] _ := hT
                  have hT := hT.wk (q := 3) rfl (z_sub (c := k 1) (n := 4) (l := [1, 2, 3]) (m := [2, 3]) (by decide))
                  have hT : TP D A [(h0, ob 8 [.int h0f0, .int h0f1, .int h0f2, .int h0f3, .int h0f4, .int h0f5, .ref h1, .ref h2, .int h0f8, .int h0f9, .ref h3, .ref h4, .ref h5, .ref h6, .ref h7, .ref h8, .ref h9, .int h0f17, .int h0f18, .int h0f19, .ref h10, .ref h11, .ref h12, .ref h13, .int h0f24, .int h0f25, .ref h14, .ref h15, .ref h16, .ref h17, .int h0f30, .int h0f31, .ref h18, .ref h19, .ref h20, .ref h21]), (h4, aJ (k 1) 9 anJ), (h5, aJ (k 1) 9 anJ), (h7, aJ (k 1) 4 (zJ [2, 3]))] _ := hT
                  exact tz_retZ (B := B_cX11_takesOut_a13ae D k h0 h4 h5 h7 h1 h2 h3 h6 h8 h9 h10 h11 h12 h13 h14 h15 h16 h17 h18 h19 h20 h21 x1 x2 x3 h0f0 h0f1 h0f2 h0f3 h0f4 h0f5 h0f8 h0f9 h0f17 h0f18 h0f19 h0f24 h0f25 h0f30 h0f31) (v := 1) hQ hx hb hr hlocks hS (Nat.le_of_ble_eq_true rfl) (Nat.le_of_ble_eq_true rfl) dX11_takesOut_208 (by have := li_1; omega) (Or.inr (Or.inr (Or.inl ⟨v3, v36, v53, (by have := li_1; omega), (by have := li_1; omega), (by have := li_1; omega), (by have := li_1; omega), (by have := li_1; omega), (by have := li_1; omega), (by have := li_1; omega), (by have := li_1; omega), (by have := li_1; omega), (by have := li_1; omega), (by have := li_1; omega), rfl, hT⟩)))
              · skip
                have c_52 := ni_nlt c_52 li_0 hq1
                exfalso; omega
            · skip
              have c_51 := ni_eq c_51 hq1 li_2
              exfalso; omega
        · skip
          have c_38 := ni_nle c_38 hq1 li_1
          exfalso; omega
      · skip
        have c_37 := nl_eq c_37 rfl ll_0
        refine lv_iinc (v := 0) (lv' := [(4, .int 0), (0, .ref h0), (1, .int x1), (2, .int x2), (3, .int x3)]) hx hb dX11_takesOut_20 hl (k := 0) rfl (by decide) (by decide) rfl (fun ls hl => ?_)
        refine lv_goto (tgt := 3) hx hb dX11_takesOut_23 (by decide) ?_
        refine lv_iload hx hb dX11_takesOut_3 (lv_at hl 0 rfl) ?_
        refine lv_if_le (tgt := 26) hx hb dX11_takesOut_5 (by decide) (fun _ => ?_) (fun cc => absurd (by decide +kernel) cc)
        refine lv_iload hx hb dX11_takesOut_26 (lv_at hl 0 rfl) ?_
        refine lv_iload_n hx hb dX11_takesOut_28 rfl (lv_at hl 2 rfl) ?_
        refine lv_icmp_ge (tgt := 34) hx hb dX11_takesOut_29 (by decide) (fun c_60 => ?_) (fun c_60 => ?_)
        · skip
          have c_60 := ni_le c_60 hq1 li_0
          exfalso; omega
        · skip
          have c_60 := ni_nle c_60 hq1 li_0
          refine lv_iconst (v := 0) hx hb dX11_takesOut_32 (by decide) ?_
          have hT := hT.wk (q := 3) rfl (an_J (c := k 1) (n := 4))
          have hT : TP D A [(h0, ob 8 [.int h0f0, .int h0f1, .int h0f2, .int h0f3, .int h0f4, .int h0f5, .ref h1, .ref h2, .int h0f8, .int h0f9, .ref h3, .ref h4, .ref h5, .ref h6, .ref h7, .ref h8, .ref h9, .int h0f17, .int h0f18, .int h0f19, .ref h10, .ref h11, .ref h12, .ref h13, .int h0f24, .int h0f25, .ref h14, .ref h15, .ref h16, .ref h17, .int h0f30, .int h0f31, .ref h18, .ref h19, .ref h20, .ref h21]), (h4, aJ (k 1) 9 anJ), (h5, aJ (k 1) 9 anJ), (h7, aJ (k 1) 4 anJ)] _ := hT
          exact tz_retZ (B := B_cX11_takesOut_a13ae D k h0 h4 h5 h7 h1 h2 h3 h6 h8 h9 h10 h11 h12 h13 h14 h15 h16 h17 h18 h19 h20 h21 x1 x2 x3 h0f0 h0f1 h0f2 h0f3 h0f4 h0f5 h0f8 h0f9 h0f17 h0f18 h0f19 h0f24 h0f25 h0f30 h0f31) (v := 0) hQ hx hb hr hlocks hS (Nat.le_of_ble_eq_true rfl) (Nat.le_of_ble_eq_true rfl) dX11_takesOut_33 (by have := li_0; omega) (Or.inl ⟨rfl, hT⟩)
  · skip
    refine lv_iconst (v := 3) hx hb dX11_takesOut_0 (by decide) ?_
    refine lv_istore (lv' := [(4, .int 3), (0, .ref h0), (1, .int x1), (2, .int x2), (3, .int x3)]) hx hb dX11_takesOut_1 hl (by decide) rfl (fun ls hl => ?_)
    refine lv_iload hx hb dX11_takesOut_3 (lv_at hl 0 rfl) ?_
    refine lv_if_le (tgt := 26) hx hb dX11_takesOut_5 (by decide) (fun cc => absurd cc (by decide +kernel)) (fun _ => ?_)
    refine lv_aload_n hx hb dX11_takesOut_8 rfl (lv_at hl 1 rfl) ?_
    refine tz_get (ci := 8) (v := .ref h7) (C := RX11) (F := TX11) (N := 36) hx hb hU iX11 hown hK hT 0 rfl rfl 14 (by decide) w799 (fun _ h9 => h9) rfl dX11_takesOut_9 ?_
    refine lv_iload hx hb dX11_takesOut_12 (lv_at hl 0 rfl) ?_
    refine tz_lald hx hb hK hT 3 rfl (by have := li_3; omega) dX11_takesOut_14 (fun v61 e_v61 => ?_)
    have e_v61 := z_get (z := 3) e_v61 li_3 (by decide)
    subst e_v61
    refine lv_lconst (v := 0) hx hb dX11_takesOut_15 (by decide) ?_
    refine W.lcmp hx hb dX11_takesOut_16 (sv_i (v := 0) (by decide +kernel) ?_)
    refine lv_if_ne (tgt := 26) hx hb dX11_takesOut_17 (by decide) (fun cc => absurd (by decide +kernel) cc) (fun _ => ?_)
    refine lv_iinc (v := 2) (lv' := [(4, .int 2), (0, .ref h0), (1, .int x1), (2, .int x2), (3, .int x3)]) hx hb dX11_takesOut_20 hl (k := 0) rfl (by decide) (by decide) rfl (fun ls hl => ?_)
    refine lv_goto (tgt := 3) hx hb dX11_takesOut_23 (by decide) ?_
    refine lv_iload hx hb dX11_takesOut_3 (lv_at hl 0 rfl) ?_
    refine lv_if_le (tgt := 26) hx hb dX11_takesOut_5 (by decide) (fun cc => absurd cc (by decide +kernel)) (fun _ => ?_)
    refine lv_aload_n hx hb dX11_takesOut_8 rfl (lv_at hl 1 rfl) ?_
    refine tz_get (ci := 8) (v := .ref h7) (C := RX11) (F := TX11) (N := 36) hx hb hU iX11 hown hK hT 0 rfl rfl 14 (by decide) w799 (fun _ h9 => h9) rfl dX11_takesOut_9 ?_
    refine lv_iload hx hb dX11_takesOut_12 (lv_at hl 0 rfl) ?_
    refine tz_lald hx hb hK hT 3 rfl (by have := li_2; omega) dX11_takesOut_14 (fun v62 e_v62 => ?_)
    clear e_v62
    refine lv_lconst (v := 0) hx hb dX11_takesOut_15 (by decide) ?_
    refine W.lcmp hx hb dX11_takesOut_16 ?_
    refine lv_if_ne (tgt := 26) hx hb dX11_takesOut_17 (by decide) (fun c_63 => ?_) (fun c_63 => ?_)
    · skip
      have c_63 := nl_ne c_63 rfl ll_0
      refine lv_iload hx hb dX11_takesOut_26 (lv_at hl 0 rfl) ?_
      refine lv_iload_n hx hb dX11_takesOut_28 rfl (lv_at hl 2 rfl) ?_
      refine lv_icmp_ge (tgt := 34) hx hb dX11_takesOut_29 (by decide) (fun c_64 => ?_) (fun c_64 => ?_)
      · skip
        have c_64 := ni_le c_64 hq1 li_2
        refine lv_iconst (v := 0) hx hb dX11_takesOut_34 (by decide) ?_
        refine lv_istore (lv' := [(5, .int 0), (4, .int 2), (0, .ref h0), (1, .int x1), (2, .int x2), (3, .int x3)]) hx hb dX11_takesOut_35 hl (by decide) rfl (fun ls hl => ?_)
        refine lv_iload hx hb dX11_takesOut_37 (lv_at hl 0 rfl) ?_
        refine lv_iconst (v := 4) hx hb dX11_takesOut_39 (by decide) ?_
        refine lv_icmp_ge (tgt := 71) hx hb dX11_takesOut_40 (by decide) (fun cc => absurd cc (by decide +kernel)) (fun _ => ?_)
        refine lv_aload_n hx hb dX11_takesOut_43 rfl (lv_at hl 2 rfl) ?_
        refine tz_get (ci := 8) (v := .ref h4) (C := RX11) (F := TX11) (N := 36) hx hb hU iX11 hown hK hT 0 rfl rfl 11 (by decide) w796 (fun _ h9 => h9) rfl dX11_takesOut_44 ?_
        refine lv_iload hx hb dX11_takesOut_47 (lv_at hl 0 rfl) ?_
        refine lv_aload_n hx hb dX11_takesOut_49 rfl (lv_at hl 2 rfl) ?_
        refine tz_get (ci := 8) (v := .ref h7) (C := RX11) (F := TX11) (N := 36) hx hb hU iX11 hown hK hT 0 rfl rfl 14 (by decide) w799 (fun _ h9 => h9) rfl dX11_takesOut_50 ?_
        refine lv_iload hx hb dX11_takesOut_53 (lv_at hl 0 rfl) ?_
        refine tz_lald hx hb hK hT 3 rfl (by have := li_0; omega) dX11_takesOut_55 (fun v65 e_v65 => ?_)
        clear e_v65
        have hT := hT.wk (q := 1) rfl (z_of (c := k 1) (n := 9))
        have hT : TP D A [(h0, ob 8 [.int h0f0, .int h0f1, .int h0f2, .int h0f3, .int h0f4, .int h0f5, .ref h1, .ref h2, .int h0f8, .int h0f9, .ref h3, .ref h4, .ref h5, .ref h6, .ref h7, .ref h8, .ref h9, .int h0f17, .int h0f18, .int h0f19, .ref h10, .ref h11, .ref h12, .ref h13, .int h0f24, .int h0f25, .ref h14, .ref h15, .ref h16, .ref h17, .int h0f30, .int h0f31, .ref h18, .ref h19, .ref h20, .ref h21]), (h4, aJ (k 1) 9 (zJ [])), (h5, aJ (k 1) 9 anJ), (h7, aJ (k 1) 4 (zJ [3]))] _ := hT
        refine tz_lastP hx hb hK hT hS 1 (zJ []) rfl (by have := li_0; omega) (z_putx (z := 0) li_0 (by decide)) dX11_takesOut_56 (fun H locs hT hS => ?_)
        have hT : TP D A [(h0, ob 8 [.int h0f0, .int h0f1, .int h0f2, .int h0f3, .int h0f4, .int h0f5, .ref h1, .ref h2, .int h0f8, .int h0f9, .ref h3, .ref h4, .ref h5, .ref h6, .ref h7, .ref h8, .ref h9, .int h0f17, .int h0f18, .int h0f19, .ref h10, .ref h11, .ref h12, .ref h13, .int h0f24, .int h0f25, .ref h14, .ref h15, .ref h16, .ref h17, .int h0f30, .int h0f31, .ref h18, .ref h19, .ref h20, .ref h21]), (h4, aJ (k 1) 9 (zJ [])), (h5, aJ (k 1) 9 anJ), (h7, aJ (k 1) 4 (zJ [3]))] _ := hT
        refine lv_aload_n hx hb dX11_takesOut_57 rfl (lv_at hl 2 rfl) ?_
        refine tz_get (ci := 8) (v := .ref h5) (C := RX11) (F := TX11) (N := 36) hx hb hU iX11 hown hK hT 0 rfl rfl 12 (by decide) w797 (fun _ h9 => h9) rfl dX11_takesOut_58 ?_
        refine lv_iload hx hb dX11_takesOut_61 (lv_at hl 0 rfl) ?_
        refine lv_lconst (v := 0) hx hb dX11_takesOut_63 (by decide) ?_
        have hT := hT.wk (q := 2) rfl (z_of (c := k 1) (n := 9))
        have hT : TP D A [(h0, ob 8 [.int h0f0, .int h0f1, .int h0f2, .int h0f3, .int h0f4, .int h0f5, .ref h1, .ref h2, .int h0f8, .int h0f9, .ref h3, .ref h4, .ref h5, .ref h6, .ref h7, .ref h8, .ref h9, .int h0f17, .int h0f18, .int h0f19, .ref h10, .ref h11, .ref h12, .ref h13, .int h0f24, .int h0f25, .ref h14, .ref h15, .ref h16, .ref h17, .int h0f30, .int h0f31, .ref h18, .ref h19, .ref h20, .ref h21]), (h4, aJ (k 1) 9 (zJ [])), (h5, aJ (k 1) 9 (zJ [])), (h7, aJ (k 1) 4 (zJ [3]))] _ := hT
        refine tz_lastP hx hb hK hT hS 2 (zJ [0]) rfl (by have := li_0; omega) (z_put0 (z := 0) li_0 (by decide)) dX11_takesOut_64 (fun H locs hT hS => ?_)
        have hT : TP D A [(h0, ob 8 [.int h0f0, .int h0f1, .int h0f2, .int h0f3, .int h0f4, .int h0f5, .ref h1, .ref h2, .int h0f8, .int h0f9, .ref h3, .ref h4, .ref h5, .ref h6, .ref h7, .ref h8, .ref h9, .int h0f17, .int h0f18, .int h0f19, .ref h10, .ref h11, .ref h12, .ref h13, .int h0f24, .int h0f25, .ref h14, .ref h15, .ref h16, .ref h17, .int h0f30, .int h0f31, .ref h18, .ref h19, .ref h20, .ref h21]), (h4, aJ (k 1) 9 (zJ [])), (h5, aJ (k 1) 9 (zJ [0])), (h7, aJ (k 1) 4 (zJ [3]))] _ := hT
        refine lv_iinc (v := 1) (lv' := [(5, .int 1), (4, .int 2), (0, .ref h0), (1, .int x1), (2, .int x2), (3, .int x3)]) hx hb dX11_takesOut_65 hl (k := 0) rfl (by decide) (by decide) rfl (fun ls hl => ?_)
        refine lv_goto (tgt := 37) hx hb dX11_takesOut_68 (by decide) ?_
        refine lv_iload hx hb dX11_takesOut_37 (lv_at hl 0 rfl) ?_
        refine lv_iconst (v := 4) hx hb dX11_takesOut_39 (by decide) ?_
        refine lv_icmp_ge (tgt := 71) hx hb dX11_takesOut_40 (by decide) (fun cc => absurd cc (by decide +kernel)) (fun _ => ?_)
        refine lv_aload_n hx hb dX11_takesOut_43 rfl (lv_at hl 2 rfl) ?_
        refine tz_get (ci := 8) (v := .ref h4) (C := RX11) (F := TX11) (N := 36) hx hb hU iX11 hown hK hT 0 rfl rfl 11 (by decide) w796 (fun _ h9 => h9) rfl dX11_takesOut_44 ?_
        refine lv_iload hx hb dX11_takesOut_47 (lv_at hl 0 rfl) ?_
        refine lv_aload_n hx hb dX11_takesOut_49 rfl (lv_at hl 2 rfl) ?_
        refine tz_get (ci := 8) (v := .ref h7) (C := RX11) (F := TX11) (N := 36) hx hb hU iX11 hown hK hT 0 rfl rfl 14 (by decide) w799 (fun _ h9 => h9) rfl dX11_takesOut_50 ?_
        refine lv_iload hx hb dX11_takesOut_53 (lv_at hl 0 rfl) ?_
        refine tz_lald hx hb hK hT 3 rfl (by have := li_1; omega) dX11_takesOut_55 (fun v66 e_v66 => ?_)
        clear e_v66
        refine tz_lastP hx hb hK hT hS 1 (zJ []) rfl (by have := li_1; omega) (z_putx (z := 1) li_1 (by decide)) dX11_takesOut_56 (fun H locs hT hS => ?_)
        have hT : TP D A [(h0, ob 8 [.int h0f0, .int h0f1, .int h0f2, .int h0f3, .int h0f4, .int h0f5, .ref h1, .ref h2, .int h0f8, .int h0f9, .ref h3, .ref h4, .ref h5, .ref h6, .ref h7, .ref h8, .ref h9, .int h0f17, .int h0f18, .int h0f19, .ref h10, .ref h11, .ref h12, .ref h13, .int h0f24, .int h0f25, .ref h14, .ref h15, .ref h16, .ref h17, .int h0f30, .int h0f31, .ref h18, .ref h19, .ref h20, .ref h21]), (h4, aJ (k 1) 9 (zJ [])), (h5, aJ (k 1) 9 (zJ [0])), (h7, aJ (k 1) 4 (zJ [3]))] _ := hT
        refine lv_aload_n hx hb dX11_takesOut_57 rfl (lv_at hl 2 rfl) ?_
        refine tz_get (ci := 8) (v := .ref h5) (C := RX11) (F := TX11) (N := 36) hx hb hU iX11 hown hK hT 0 rfl rfl 12 (by decide) w797 (fun _ h9 => h9) rfl dX11_takesOut_58 ?_
        refine lv_iload hx hb dX11_takesOut_61 (lv_at hl 0 rfl) ?_
        refine lv_lconst (v := 0) hx hb dX11_takesOut_63 (by decide) ?_
        refine tz_lastP hx hb hK hT hS 2 (zJ [0, 1]) rfl (by have := li_1; omega) (z_put0 (z := 1) li_1 (by decide)) dX11_takesOut_64 (fun H locs hT hS => ?_)
        have hT : TP D A [(h0, ob 8 [.int h0f0, .int h0f1, .int h0f2, .int h0f3, .int h0f4, .int h0f5, .ref h1, .ref h2, .int h0f8, .int h0f9, .ref h3, .ref h4, .ref h5, .ref h6, .ref h7, .ref h8, .ref h9, .int h0f17, .int h0f18, .int h0f19, .ref h10, .ref h11, .ref h12, .ref h13, .int h0f24, .int h0f25, .ref h14, .ref h15, .ref h16, .ref h17, .int h0f30, .int h0f31, .ref h18, .ref h19, .ref h20, .ref h21]), (h4, aJ (k 1) 9 (zJ [])), (h5, aJ (k 1) 9 (zJ [0, 1])), (h7, aJ (k 1) 4 (zJ [3]))] _ := hT
        refine lv_iinc (v := 2) (lv' := [(5, .int 2), (4, .int 2), (0, .ref h0), (1, .int x1), (2, .int x2), (3, .int x3)]) hx hb dX11_takesOut_65 hl (k := 0) rfl (by decide) (by decide) rfl (fun ls hl => ?_)
        refine lv_goto (tgt := 37) hx hb dX11_takesOut_68 (by decide) ?_
        refine lv_iload hx hb dX11_takesOut_37 (lv_at hl 0 rfl) ?_
        refine lv_iconst (v := 4) hx hb dX11_takesOut_39 (by decide) ?_
        refine lv_icmp_ge (tgt := 71) hx hb dX11_takesOut_40 (by decide) (fun cc => absurd cc (by decide +kernel)) (fun _ => ?_)
        refine lv_aload_n hx hb dX11_takesOut_43 rfl (lv_at hl 2 rfl) ?_
        refine tz_get (ci := 8) (v := .ref h4) (C := RX11) (F := TX11) (N := 36) hx hb hU iX11 hown hK hT 0 rfl rfl 11 (by decide) w796 (fun _ h9 => h9) rfl dX11_takesOut_44 ?_
        refine lv_iload hx hb dX11_takesOut_47 (lv_at hl 0 rfl) ?_
        refine lv_aload_n hx hb dX11_takesOut_49 rfl (lv_at hl 2 rfl) ?_
        refine tz_get (ci := 8) (v := .ref h7) (C := RX11) (F := TX11) (N := 36) hx hb hU iX11 hown hK hT 0 rfl rfl 14 (by decide) w799 (fun _ h9 => h9) rfl dX11_takesOut_50 ?_
        refine lv_iload hx hb dX11_takesOut_53 (lv_at hl 0 rfl) ?_
        refine tz_lald hx hb hK hT 3 rfl (by have := li_2; omega) dX11_takesOut_55 (fun v67 e_v67 => ?_)
        clear e_v67
        refine tz_lastP hx hb hK hT hS 1 (zJ []) rfl (by have := li_2; omega) (z_putx (z := 2) li_2 (by decide)) dX11_takesOut_56 (fun H locs hT hS => ?_)
        have hT : TP D A [(h0, ob 8 [.int h0f0, .int h0f1, .int h0f2, .int h0f3, .int h0f4, .int h0f5, .ref h1, .ref h2, .int h0f8, .int h0f9, .ref h3, .ref h4, .ref h5, .ref h6, .ref h7, .ref h8, .ref h9, .int h0f17, .int h0f18, .int h0f19, .ref h10, .ref h11, .ref h12, .ref h13, .int h0f24, .int h0f25, .ref h14, .ref h15, .ref h16, .ref h17, .int h0f30, .int h0f31, .ref h18, .ref h19, .ref h20, .ref h21]), (h4, aJ (k 1) 9 (zJ [])), (h5, aJ (k 1) 9 (zJ [0, 1])), (h7, aJ (k 1) 4 (zJ [3]))] _ := hT
        refine lv_aload_n hx hb dX11_takesOut_57 rfl (lv_at hl 2 rfl) ?_
        refine tz_get (ci := 8) (v := .ref h5) (C := RX11) (F := TX11) (N := 36) hx hb hU iX11 hown hK hT 0 rfl rfl 12 (by decide) w797 (fun _ h9 => h9) rfl dX11_takesOut_58 ?_
        refine lv_iload hx hb dX11_takesOut_61 (lv_at hl 0 rfl) ?_
        refine lv_lconst (v := 0) hx hb dX11_takesOut_63 (by decide) ?_
        refine tz_lastP hx hb hK hT hS 2 (zJ [0, 1, 2]) rfl (by have := li_2; omega) (z_put0 (z := 2) li_2 (by decide)) dX11_takesOut_64 (fun H locs hT hS => ?_)
        have hT : TP D A [(h0, ob 8 [.int h0f0, .int h0f1, .int h0f2, .int h0f3, .int h0f4, .int h0f5, .ref h1, .ref h2, .int h0f8, .int h0f9, .ref h3, .ref h4, .ref h5, .ref h6, .ref h7, .ref h8, .ref h9, .int h0f17, .int h0f18, .int h0f19, .ref h10, .ref h11, .ref h12, .ref h13, .int h0f24, .int h0f25, .ref h14, .ref h15, .ref h16, .ref h17, .int h0f30, .int h0f31, .ref h18, .ref h19, .ref h20, .ref h21]), (h4, aJ (k 1) 9 (zJ [])), (h5, aJ (k 1) 9 (zJ [0, 1, 2])), (h7, aJ (k 1) 4 (zJ [3]))] _ := hT
        refine lv_iinc (v := 3) (lv' := [(5, .int 3), (4, .int 2), (0, .ref h0), (1, .int x1), (2, .int x2), (3, .int x3)]) hx hb dX11_takesOut_65 hl (k := 0) rfl (by decide) (by decide) rfl (fun ls hl => ?_)
        refine lv_goto (tgt := 37) hx hb dX11_takesOut_68 (by decide) ?_
        refine lv_iload hx hb dX11_takesOut_37 (lv_at hl 0 rfl) ?_
        refine lv_iconst (v := 4) hx hb dX11_takesOut_39 (by decide) ?_
        refine lv_icmp_ge (tgt := 71) hx hb dX11_takesOut_40 (by decide) (fun cc => absurd cc (by decide +kernel)) (fun _ => ?_)
        refine lv_aload_n hx hb dX11_takesOut_43 rfl (lv_at hl 2 rfl) ?_
        refine tz_get (ci := 8) (v := .ref h4) (C := RX11) (F := TX11) (N := 36) hx hb hU iX11 hown hK hT 0 rfl rfl 11 (by decide) w796 (fun _ h9 => h9) rfl dX11_takesOut_44 ?_
        refine lv_iload hx hb dX11_takesOut_47 (lv_at hl 0 rfl) ?_
        refine lv_aload_n hx hb dX11_takesOut_49 rfl (lv_at hl 2 rfl) ?_
        refine tz_get (ci := 8) (v := .ref h7) (C := RX11) (F := TX11) (N := 36) hx hb hU iX11 hown hK hT 0 rfl rfl 14 (by decide) w799 (fun _ h9 => h9) rfl dX11_takesOut_50 ?_
        refine lv_iload hx hb dX11_takesOut_53 (lv_at hl 0 rfl) ?_
        refine tz_lald hx hb hK hT 3 rfl (by have := li_3; omega) dX11_takesOut_55 (fun v68 e_v68 => ?_)
        have e_v68 := z_get (z := 3) e_v68 li_3 (by decide)
        subst e_v68
        refine tz_lastP hx hb hK hT hS 1 (zJ [3]) rfl (by have := li_3; omega) (z_put0 (z := 3) li_3 (by decide)) dX11_takesOut_56 (fun H locs hT hS => ?_)
        have hT : TP D A [(h0, ob 8 [.int h0f0, .int h0f1, .int h0f2, .int h0f3, .int h0f4, .int h0f5, .ref h1, .ref h2, .int h0f8, .int h0f9, .ref h3, .ref h4, .ref h5, .ref h6, .ref h7, .ref h8, .ref h9, .int h0f17, .int h0f18, .int h0f19, .ref h10, .ref h11, .ref h12, .ref h13, .int h0f24, .int h0f25, .ref h14, .ref h15, .ref h16, .ref h17, .int h0f30, .int h0f31, .ref h18, .ref h19, .ref h20, .ref h21]), (h4, aJ (k 1) 9 (zJ [3])), (h5, aJ (k 1) 9 (zJ [0, 1, 2])), (h7, aJ (k 1) 4 (zJ [3]))] _ := hT
        refine lv_aload_n hx hb dX11_takesOut_57 rfl (lv_at hl 2 rfl) ?_
        refine tz_get (ci := 8) (v := .ref h5) (C := RX11) (F := TX11) (N := 36) hx hb hU iX11 hown hK hT 0 rfl rfl 12 (by decide) w797 (fun _ h9 => h9) rfl dX11_takesOut_58 ?_
        refine lv_iload hx hb dX11_takesOut_61 (lv_at hl 0 rfl) ?_
        refine lv_lconst (v := 0) hx hb dX11_takesOut_63 (by decide) ?_
        refine tz_lastP hx hb hK hT hS 2 (zJ [0, 1, 2, 3]) rfl (by have := li_3; omega) (z_put0 (z := 3) li_3 (by decide)) dX11_takesOut_64 (fun H locs hT hS => ?_)
        have hT : TP D A [(h0, ob 8 [.int h0f0, .int h0f1, .int h0f2, .int h0f3, .int h0f4, .int h0f5, .ref h1, .ref h2, .int h0f8, .int h0f9, .ref h3, .ref h4, .ref h5, .ref h6, .ref h7, .ref h8, .ref h9, .int h0f17, .int h0f18, .int h0f19, .ref h10, .ref h11, .ref h12, .ref h13, .int h0f24, .int h0f25, .ref h14, .ref h15, .ref h16, .ref h17, .int h0f30, .int h0f31, .ref h18, .ref h19, .ref h20, .ref h21]), (h4, aJ (k 1) 9 (zJ [3])), (h5, aJ (k 1) 9 (zJ [0, 1, 2, 3])), (h7, aJ (k 1) 4 (zJ [3]))] _ := hT
        refine lv_iinc (v := 4) (lv' := [(5, .int 4), (4, .int 2), (0, .ref h0), (1, .int x1), (2, .int x2), (3, .int x3)]) hx hb dX11_takesOut_65 hl (k := 0) rfl (by decide) (by decide) rfl (fun ls hl => ?_)
        refine lv_goto (tgt := 37) hx hb dX11_takesOut_68 (by decide) ?_
        refine lv_iload hx hb dX11_takesOut_37 (lv_at hl 0 rfl) ?_
        refine lv_iconst (v := 4) hx hb dX11_takesOut_39 (by decide) ?_
        refine lv_icmp_ge (tgt := 71) hx hb dX11_takesOut_40 (by decide) (fun _ => ?_) (fun cc => absurd (by decide +kernel) cc)
        refine lv_iload hx hb dX11_takesOut_71 (lv_at hl 1 rfl) ?_
        refine lv_istore (lv' := [(5, .int 2), (4, .int 2), (0, .ref h0), (1, .int x1), (2, .int x2), (3, .int x3)]) hx hb dX11_takesOut_73 hl (by decide) rfl (fun ls hl => ?_)
        refine lv_iload hx hb dX11_takesOut_75 (lv_at hl 0 rfl) ?_
        refine lv_iload_n hx hb dX11_takesOut_77 rfl (lv_at hl 3 rfl) ?_
        refine lv_icmp_lt (tgt := 154) hx hb dX11_takesOut_78 (by decide) (fun c_69 => ?_) (fun c_69 => ?_)
        · skip
          have c_69 := ni_lt c_69 li_2 hq1
          exfalso; omega
        · skip
          have c_69 := ni_nlt c_69 li_2 hq1
          refine lv_aload_n hx hb dX11_takesOut_81 rfl (lv_at hl 2 rfl) ?_
          refine tz_get (ci := 8) (v := .ref h4) (C := RX11) (F := TX11) (N := 36) hx hb hU iX11 hown hK hT 0 rfl rfl 11 (by decide) w796 (fun _ h9 => h9) rfl dX11_takesOut_82 ?_
          refine lv_iload hx hb dX11_takesOut_85 (lv_at hl 0 rfl) ?_
          refine tz_lald hx hb hK hT 1 rfl (by have := li_2; omega) dX11_takesOut_87 (fun v70 e_v70 => ?_)
          clear e_v70
          refine lv_lstore (lv' := [(6, .long v70), (5, .int 2), (4, .int 2), (0, .ref h0), (1, .int x1), (2, .int x2), (3, .int x3)]) hx hb dX11_takesOut_88 hl (by decide) rfl (fun ls hl => ?_)
          refine lv_aload_n hx hb dX11_takesOut_90 rfl (lv_at hl 3 rfl) ?_
          refine tz_get (ci := 8) (v := .ref h5) (C := RX11) (F := TX11) (N := 36) hx hb hU iX11 hown hK hT 0 rfl rfl 12 (by decide) w797 (fun _ h9 => h9) rfl dX11_takesOut_91 ?_
          refine lv_iload hx hb dX11_takesOut_94 (lv_at hl 1 rfl) ?_
          refine lv_iload_n hx hb dX11_takesOut_96 rfl (lv_at hl 4 rfl) ?_
          refine lv_isub hx hb dX11_takesOut_97 (lv_topi (fun v71 e_v71 => ?_))
          have e_v71 := ai_sub e_v71 li_2 hq1 (by omega)
          refine lv_lload hx hb dX11_takesOut_98 (lv_at hl 0 rfl) ?_
          refine tz_lastP hx hb hK hT hS 2 (zJ [1, 2, 3]) rfl (by omega) (z_putx (z := 0) (show v71.toInt = 0 by omega) (by decide)) dX11_takesOut_100 (fun H locs hT hS => ?_)
          have hT : TP D A [(h0, ob 8 [.int h0f0, .int h0f1, .int h0f2, .int h0f3, .int h0f4, .int h0f5, .ref h1, .ref h2, .int h0f8, .int h0f9, .ref h3, .ref h4, .ref h5, .ref h6, .ref h7, .ref h8, .ref h9, .int h0f17, .int h0f18, .int h0f19, .ref h10, .ref h11, .ref h12, .ref h13, .int h0f24, .int h0f25, .ref h14, .ref h15, .ref h16, .ref h17, .int h0f30, .int h0f31, .ref h18, .ref h19, .ref h20, .ref h21]), (h4, aJ (k 1) 9 (zJ [3])), (h5, aJ (k 1) 9 (zJ [1, 2, 3])), (h7, aJ (k 1) 4 (zJ [3]))] _ := hT
          refine lv_aload_n hx hb dX11_takesOut_101 rfl (lv_at hl 3 rfl) ?_
          refine tz_get (ci := 8) (v := .ref h4) (C := RX11) (F := TX11) (N := 36) hx hb hU iX11 hown hK hT 0 rfl rfl 11 (by decide) w796 (fun _ h9 => h9) rfl dX11_takesOut_102 ?_
          refine lv_iload hx hb dX11_takesOut_105 (lv_at hl 1 rfl) ?_
          refine lv_iload_n hx hb dX11_takesOut_107 rfl (lv_at hl 4 rfl) ?_
          refine lv_isub hx hb dX11_takesOut_108 (lv_topi (fun v72 e_v72 => ?_))
          have e_v72 := ai_sub e_v72 li_2 hq1 (by omega)
          refine lv_dup2_11 hx hb dX11_takesOut_109 rfl rfl ?_
          refine tz_lald hx hb hK hT 1 rfl (by omega) dX11_takesOut_110 (fun v73 e_v73 => ?_)
          clear e_v73
          refine lv_lload hx hb dX11_takesOut_111 (lv_at hl 0 rfl) ?_
          refine lv_iload_n hx hb dX11_takesOut_113 rfl (lv_at hl 5 rfl) ?_
          obtain ⟨v74, e_v74⟩ : ∃ x : Int64, x2.toInt64 = x := ⟨_, rfl⟩
          refine lv_i2l (v := v74) hx hb dX11_takesOut_114 e_v74 ?_
          have e_v74 := ai_i2l e_v74 rfl
          refine lv_lmul hx hb dX11_takesOut_115 (lv_topl (fun v75 e_v75 => ?_))
          refine lv_lsub hx hb dX11_takesOut_116 (lv_topl (fun v76 e_v76 => ?_))
          refine tz_lastP hx hb hK hT hS 1 (zJ [3]) rfl (by omega) (z_putx (z := 0) (show v72.toInt = 0 by omega) (by decide)) dX11_takesOut_117 (fun H locs hT hS => ?_)
          have hT : TP D A [(h0, ob 8 [.int h0f0, .int h0f1, .int h0f2, .int h0f3, .int h0f4, .int h0f5, .ref h1, .ref h2, .int h0f8, .int h0f9, .ref h3, .ref h4, .ref h5, .ref h6, .ref h7, .ref h8, .ref h9, .int h0f17, .int h0f18, .int h0f19, .ref h10, .ref h11, .ref h12, .ref h13, .int h0f24, .int h0f25, .ref h14, .ref h15, .ref h16, .ref h17, .int h0f30, .int h0f31, .ref h18, .ref h19, .ref h20, .ref h21]), (h4, aJ (k 1) 9 (zJ [3])), (h5, aJ (k 1) 9 (zJ [1, 2, 3])), (h7, aJ (k 1) 4 (zJ [3]))] _ := hT
          refine lv_iload_n hx hb dX11_takesOut_118 rfl (lv_at hl 4 rfl) ?_
          refine lv_iconst (v := 2) hx hb dX11_takesOut_119 (by decide) ?_
          refine lv_icmp_ne (tgt := 140) hx hb dX11_takesOut_120 (by decide) (fun c_77 => ?_) (fun c_77 => ?_)
          · skip
            have c_77 := ni_ne c_77 hq1 li_2
            exfalso; omega
          · skip
            have c_77 := ni_eq c_77 hq1 li_2
            refine lv_aload_n hx hb dX11_takesOut_123 rfl (lv_at hl 3 rfl) ?_
            refine tz_get (ci := 8) (v := .ref h4) (C := RX11) (F := TX11) (N := 36) hx hb hU iX11 hown hK hT 0 rfl rfl 11 (by decide) w796 (fun _ h9 => h9) rfl dX11_takesOut_124 ?_
            refine lv_iload hx hb dX11_takesOut_127 (lv_at hl 1 rfl) ?_
            refine lv_iconst (v := 1) hx hb dX11_takesOut_129 (by decide) ?_
            refine lv_isub hx hb dX11_takesOut_130 (sv_i (v := 1) (by decide +kernel) ?_)
            refine lv_dup2_11 hx hb dX11_takesOut_131 rfl rfl ?_
            refine tz_lald hx hb hK hT 1 rfl (by have := li_1; omega) dX11_takesOut_132 (fun v78 e_v78 => ?_)
            clear e_v78
            refine lv_lload hx hb dX11_takesOut_133 (lv_at hl 0 rfl) ?_
            refine lv_iload_n hx hb dX11_takesOut_135 rfl (lv_at hl 6 rfl) ?_
            obtain ⟨v79, e_v79⟩ : ∃ x : Int64, x3.toInt64 = x := ⟨_, rfl⟩
            refine lv_i2l (v := v79) hx hb dX11_takesOut_136 e_v79 ?_
            have e_v79 := ai_i2l e_v79 rfl
            refine lv_lmul hx hb dX11_takesOut_137 (lv_topl (fun v80 e_v80 => ?_))
            refine lv_lsub hx hb dX11_takesOut_138 (lv_topl (fun v81 e_v81 => ?_))
            refine tz_lastP hx hb hK hT hS 1 (zJ [3]) rfl (by have := li_1; omega) (z_putx (z := 1) li_1 (by decide)) dX11_takesOut_139 (fun H locs hT hS => ?_)
            have hT : TP D A [(h0, ob 8 [.int h0f0, .int h0f1, .int h0f2, .int h0f3, .int h0f4, .int h0f5, .ref h1, .ref h2, .int h0f8, .int h0f9, .ref h3, .ref h4, .ref h5, .ref h6, .ref h7, .ref h8, .ref h9, .int h0f17, .int h0f18, .int h0f19, .ref h10, .ref h11, .ref h12, .ref h13, .int h0f24, .int h0f25, .ref h14, .ref h15, .ref h16, .ref h17, .int h0f30, .int h0f31, .ref h18, .ref h19, .ref h20, .ref h21]), (h4, aJ (k 1) 9 (zJ [3])), (h5, aJ (k 1) 9 (zJ [1, 2, 3])), (h7, aJ (k 1) 4 (zJ [3]))] _ := hT
            refine lv_aload_n hx hb dX11_takesOut_140 rfl (lv_at hl 3 rfl) ?_
            refine tz_get (ci := 8) (v := .ref h4) (C := RX11) (F := TX11) (N := 36) hx hb hU iX11 hown hK hT 0 rfl rfl 11 (by decide) w796 (fun _ h9 => h9) rfl dX11_takesOut_141 ?_
            refine lv_iload hx hb dX11_takesOut_144 (lv_at hl 1 rfl) ?_
            refine lv_lconst (v := 0) hx hb dX11_takesOut_146 (by decide) ?_
            refine tz_lastP hx hb hK hT hS 1 (zJ [2, 3]) rfl (by have := li_2; omega) (z_put0 (z := 2) li_2 (by decide)) dX11_takesOut_147 (fun H locs hT hS => ?_)
            have hT : TP D A [(h0, ob 8 [.int h0f0, .int h0f1, .int h0f2, .int h0f3, .int h0f4, .int h0f5, .ref h1, .ref h2, .int h0f8, .int h0f9, .ref h3, .ref h4, .ref h5, .ref h6, .ref h7, .ref h8, .ref h9, .int h0f17, .int h0f18, .int h0f19, .ref h10, .ref h11, .ref h12, .ref h13, .int h0f24, .int h0f25, .ref h14, .ref h15, .ref h16, .ref h17, .int h0f30, .int h0f31, .ref h18, .ref h19, .ref h20, .ref h21]), (h4, aJ (k 1) 9 (zJ [2, 3])), (h5, aJ (k 1) 9 (zJ [1, 2, 3])), (h7, aJ (k 1) 4 (zJ [3]))] _ := hT
            refine lv_iinc (v := 1) (lv' := [(5, .int 1), (6, .long v70), (4, .int 2), (0, .ref h0), (1, .int x1), (2, .int x2), (3, .int x3)]) hx hb dX11_takesOut_148 hl (k := 1) rfl (by decide) (by decide) rfl (fun ls hl => ?_)
            refine lv_goto (tgt := 75) hx hb dX11_takesOut_151 (by decide) ?_
            refine lv_iload hx hb dX11_takesOut_75 (lv_at hl 0 rfl) ?_
            refine lv_iload_n hx hb dX11_takesOut_77 rfl (lv_at hl 4 rfl) ?_
            refine lv_icmp_lt (tgt := 154) hx hb dX11_takesOut_78 (by decide) (fun c_82 => ?_) (fun c_82 => ?_)
            · skip
              have c_82 := ni_lt c_82 li_1 hq1
              refine lv_aload_n hx hb dX11_takesOut_154 rfl (lv_at hl 3 rfl) ?_
              refine tz_get (ci := 8) (v := .ref h4) (C := RX11) (F := TX11) (N := 36) hx hb hU iX11 hown hK hT 0 rfl rfl 11 (by decide) w796 (fun _ h9 => h9) rfl dX11_takesOut_155 ?_
              refine lv_iconst (v := 0) hx hb dX11_takesOut_158 (by decide) ?_
              refine tz_lald hx hb hK hT 1 rfl (by have := li_0; omega) dX11_takesOut_159 (fun v83 e_v83 => ?_)
              clear e_v83
              refine lv_lconst (v := 0) hx hb dX11_takesOut_160 (by decide) ?_
              refine W.lcmp hx hb dX11_takesOut_161 ?_
              refine lv_if_ne (tgt := 176) hx hb dX11_takesOut_162 (by decide) (fun c_84 => ?_) (fun c_84 => ?_)
              · skip
                have c_84 := nl_ne c_84 rfl ll_0
                refine lv_iconst (v := 0) hx hb dX11_takesOut_176 (by decide) ?_
                have hT := hT.wk (q := 1) rfl (an_J (c := k 1) (n := 9))
                have hT : TP D A [(h0, ob 8 [.int h0f0, .int h0f1, .int h0f2, .int h0f3, .int h0f4, .int h0f5, .ref h1, .ref h2, .int h0f8, .int h0f9, .ref h3, .ref h4, .ref h5, .ref h6, .ref h7, .ref h8, .ref h9, .int h0f17, .int h0f18, .int h0f19, .ref h10, .ref h11, .ref h12, .ref h13, .int h0f24, .int h0f25, .ref h14, .ref h15, .ref h16, .ref h17, .int h0f30, .int h0f31, .ref h18, .ref h19, .ref h20, .ref h21]), (h4, aJ (k 1) 9 anJ), (h5, aJ (k 1) 9 (zJ [1, 2, 3])), (h7, aJ (k 1) 4 (zJ [3]))] _ := hT
                have hT := hT.wk (q := 2) rfl (an_J (c := k 1) (n := 9))
                have hT : TP D A [(h0, ob 8 [.int h0f0, .int h0f1, .int h0f2, .int h0f3, .int h0f4, .int h0f5, .ref h1, .ref h2, .int h0f8, .int h0f9, .ref h3, .ref h4, .ref h5, .ref h6, .ref h7, .ref h8, .ref h9, .int h0f17, .int h0f18, .int h0f19, .ref h10, .ref h11, .ref h12, .ref h13, .int h0f24, .int h0f25, .ref h14, .ref h15, .ref h16, .ref h17, .int h0f30, .int h0f31, .ref h18, .ref h19, .ref h20, .ref h21]), (h4, aJ (k 1) 9 anJ), (h5, aJ (k 1) 9 anJ), (h7, aJ (k 1) 4 (zJ [3]))] _ := hT
                have hT := hT.wk (q := 3) rfl (an_J (c := k 1) (n := 4))
                have hT : TP D A [(h0, ob 8 [.int h0f0, .int h0f1, .int h0f2, .int h0f3, .int h0f4, .int h0f5, .ref h1, .ref h2, .int h0f8, .int h0f9, .ref h3, .ref h4, .ref h5, .ref h6, .ref h7, .ref h8, .ref h9, .int h0f17, .int h0f18, .int h0f19, .ref h10, .ref h11, .ref h12, .ref h13, .int h0f24, .int h0f25, .ref h14, .ref h15, .ref h16, .ref h17, .int h0f30, .int h0f31, .ref h18, .ref h19, .ref h20, .ref h21]), (h4, aJ (k 1) 9 anJ), (h5, aJ (k 1) 9 anJ), (h7, aJ (k 1) 4 anJ)] _ := hT
                exact tz_retZ (B := B_cX11_takesOut_a13ae D k h0 h4 h5 h7 h1 h2 h3 h6 h8 h9 h10 h11 h12 h13 h14 h15 h16 h17 h18 h19 h20 h21 x1 x2 x3 h0f0 h0f1 h0f2 h0f3 h0f4 h0f5 h0f8 h0f9 h0f17 h0f18 h0f19 h0f24 h0f25 h0f30 h0f31) (v := 0) hQ hx hb hr hlocks hS (Nat.le_of_ble_eq_true rfl) (Nat.le_of_ble_eq_true rfl) dX11_takesOut_177 (by have := li_0; omega) (Or.inl ⟨rfl, hT⟩)
              · skip
                have c_84 := nl_eq c_84 rfl ll_0
                refine lv_aload_n hx hb dX11_takesOut_165 rfl (lv_at hl 3 rfl) ?_
                refine tz_get (ci := 8) (v := .ref h4) (C := RX11) (F := TX11) (N := 36) hx hb hU iX11 hown hK hT 0 rfl rfl 11 (by decide) w796 (fun _ h9 => h9) rfl dX11_takesOut_166 ?_
                refine lv_iconst (v := 1) hx hb dX11_takesOut_169 (by decide) ?_
                refine tz_lald hx hb hK hT 1 rfl (by have := li_1; omega) dX11_takesOut_170 (fun v85 e_v85 => ?_)
                clear e_v85
                refine lv_lconst (v := 0) hx hb dX11_takesOut_171 (by decide) ?_
                refine W.lcmp hx hb dX11_takesOut_172 ?_
                refine lv_if_eq (tgt := 178) hx hb dX11_takesOut_173 (by decide) (fun c_86 => ?_) (fun c_86 => ?_)
                · skip
                  have c_86 := nl_eq c_86 rfl ll_0
                  refine lv_iconst (v := 0) hx hb dX11_takesOut_178 (by decide) ?_
                  refine lv_istore (lv' := [(5, .int 0), (6, .long v70), (4, .int 2), (0, .ref h0), (1, .int x1), (2, .int x2), (3, .int x3)]) hx hb dX11_takesOut_179 hl (by decide) rfl (fun ls hl => ?_)
                  refine lv_iload hx hb dX11_takesOut_181 (lv_at hl 0 rfl) ?_
                  refine lv_iconst (v := 4) hx hb dX11_takesOut_183 (by decide) ?_
                  refine lv_icmp_ge (tgt := 207) hx hb dX11_takesOut_184 (by decide) (fun cc => absurd cc (by decide +kernel)) (fun _ => ?_)
                  refine lv_aload_n hx hb dX11_takesOut_187 rfl (lv_at hl 3 rfl) ?_
                  refine tz_get (ci := 8) (v := .ref h7) (C := RX11) (F := TX11) (N := 36) hx hb hU iX11 hown hK hT 0 rfl rfl 14 (by decide) w799 (fun _ h9 => h9) rfl dX11_takesOut_188 ?_
                  refine lv_iload hx hb dX11_takesOut_191 (lv_at hl 0 rfl) ?_
                  refine lv_aload_n hx hb dX11_takesOut_193 rfl (lv_at hl 3 rfl) ?_
                  refine tz_get (ci := 8) (v := .ref h5) (C := RX11) (F := TX11) (N := 36) hx hb hU iX11 hown hK hT 0 rfl rfl 12 (by decide) w797 (fun _ h9 => h9) rfl dX11_takesOut_194 ?_
                  refine lv_iload hx hb dX11_takesOut_197 (lv_at hl 0 rfl) ?_
                  refine tz_lald hx hb hK hT 2 rfl (by have := li_0; omega) dX11_takesOut_199 (fun v87 e_v87 => ?_)
                  clear e_v87
                  refine tz_lastP hx hb hK hT hS 3 (zJ [3]) rfl (by have := li_0; omega) (z_putx (z := 0) li_0 (by decide)) dX11_takesOut_200 (fun H locs hT hS => ?_)
                  have hT : TP D A [(h0, ob 8 [.int h0f0, .int h0f1, .int h0f2, .int h0f3, .int h0f4, .int h0f5, .ref h1, .ref h2, .int h0f8, .int h0f9, .ref h3, .ref h4, .ref h5, .ref h6, .ref h7, .ref h8, .ref h9, .int h0f17, .int h0f18, .int h0f19, .ref h10, .ref h11, .ref h12, .ref h13, .int h0f24, .int h0f25, .ref h14, .ref h15, .ref h16, .ref h17, .int h0f30, .int h0f31, .ref h18, .ref h19, .ref h20, .ref h21]), (h4, aJ (k 1) 9 (zJ [2, 3])), (h5, aJ (k 1) 9 (zJ [1, 2, 3])), (h7, aJ (k 1) 4 (zJ [3]))] _ := hT
                  refine lv_iinc (v := 1) (lv' := [(5, .int 1), (6, .long v70), (4, .int 2), (0, .ref h0), (1, .int x1), (2, .int x2), (3, .int x3)]) hx hb dX11_takesOut_201 hl (k := 0) rfl (by decide) (by decide) rfl (fun ls hl => ?_)
                  refine lv_goto (tgt := 181) hx hb dX11_takesOut_204 (by decide) ?_
                  refine lv_iload hx hb dX11_takesOut_181 (lv_at hl 0 rfl) ?_
                  refine lv_iconst (v := 4) hx hb dX11_takesOut_183 (by decide) ?_
                  refine lv_icmp_ge (tgt := 207) hx hb dX11_takesOut_184 (by decide) (fun cc => absurd cc (by decide +kernel)) (fun _ => ?_)
                  refine lv_aload_n hx hb dX11_takesOut_187 rfl (lv_at hl 3 rfl) ?_
                  refine tz_get (ci := 8) (v := .ref h7) (C := RX11) (F := TX11) (N := 36) hx hb hU iX11 hown hK hT 0 rfl rfl 14 (by decide) w799 (fun _ h9 => h9) rfl dX11_takesOut_188 ?_
                  refine lv_iload hx hb dX11_takesOut_191 (lv_at hl 0 rfl) ?_
                  refine lv_aload_n hx hb dX11_takesOut_193 rfl (lv_at hl 3 rfl) ?_
                  refine tz_get (ci := 8) (v := .ref h5) (C := RX11) (F := TX11) (N := 36) hx hb hU iX11 hown hK hT 0 rfl rfl 12 (by decide) w797 (fun _ h9 => h9) rfl dX11_takesOut_194 ?_
                  refine lv_iload hx hb dX11_takesOut_197 (lv_at hl 0 rfl) ?_
                  refine tz_lald hx hb hK hT 2 rfl (by have := li_1; omega) dX11_takesOut_199 (fun v88 e_v88 => ?_)
                  have e_v88 := z_get (z := 1) e_v88 li_1 (by decide)
                  subst e_v88
                  refine tz_lastP hx hb hK hT hS 3 (zJ [1, 3]) rfl (by have := li_1; omega) (z_put0 (z := 1) li_1 (by decide)) dX11_takesOut_200 (fun H locs hT hS => ?_)
                  have hT : TP D A [(h0, ob 8 [.int h0f0, .int h0f1, .int h0f2, .int h0f3, .int h0f4, .int h0f5, .ref h1, .ref h2, .int h0f8, .int h0f9, .ref h3, .ref h4, .ref h5, .ref h6, .ref h7, .ref h8, .ref h9, .int h0f17, .int h0f18, .int h0f19, .ref h10, .ref h11, .ref h12, .ref h13, .int h0f24, .int h0f25, .ref h14, .ref h15, .ref h16, .ref h17, .int h0f30, .int h0f31, .ref h18, .ref h19, .ref h20, .ref h21]), (h4, aJ (k 1) 9 (zJ [2, 3])), (h5, aJ (k 1) 9 (zJ [1, 2, 3])), (h7, aJ (k 1) 4 (zJ [1, 3]))] _ := hT
                  refine lv_iinc (v := 2) (lv' := [(5, .int 2), (6, .long v70), (4, .int 2), (0, .ref h0), (1, .int x1), (2, .int x2), (3, .int x3)]) hx hb dX11_takesOut_201 hl (k := 0) rfl (by decide) (by decide) rfl (fun ls hl => ?_)
                  refine lv_goto (tgt := 181) hx hb dX11_takesOut_204 (by decide) ?_
                  refine lv_iload hx hb dX11_takesOut_181 (lv_at hl 0 rfl) ?_
                  refine lv_iconst (v := 4) hx hb dX11_takesOut_183 (by decide) ?_
                  refine lv_icmp_ge (tgt := 207) hx hb dX11_takesOut_184 (by decide) (fun cc => absurd cc (by decide +kernel)) (fun _ => ?_)
                  refine lv_aload_n hx hb dX11_takesOut_187 rfl (lv_at hl 3 rfl) ?_
                  refine tz_get (ci := 8) (v := .ref h7) (C := RX11) (F := TX11) (N := 36) hx hb hU iX11 hown hK hT 0 rfl rfl 14 (by decide) w799 (fun _ h9 => h9) rfl dX11_takesOut_188 ?_
                  refine lv_iload hx hb dX11_takesOut_191 (lv_at hl 0 rfl) ?_
                  refine lv_aload_n hx hb dX11_takesOut_193 rfl (lv_at hl 3 rfl) ?_
                  refine tz_get (ci := 8) (v := .ref h5) (C := RX11) (F := TX11) (N := 36) hx hb hU iX11 hown hK hT 0 rfl rfl 12 (by decide) w797 (fun _ h9 => h9) rfl dX11_takesOut_194 ?_
                  refine lv_iload hx hb dX11_takesOut_197 (lv_at hl 0 rfl) ?_
                  refine tz_lald hx hb hK hT 2 rfl (by have := li_2; omega) dX11_takesOut_199 (fun v89 e_v89 => ?_)
                  have e_v89 := z_get (z := 2) e_v89 li_2 (by decide)
                  subst e_v89
                  refine tz_lastP hx hb hK hT hS 3 (zJ [1, 2, 3]) rfl (by have := li_2; omega) (z_put0 (z := 2) li_2 (by decide)) dX11_takesOut_200 (fun H locs hT hS => ?_)
                  have hT : TP D A [(h0, ob 8 [.int h0f0, .int h0f1, .int h0f2, .int h0f3, .int h0f4, .int h0f5, .ref h1, .ref h2, .int h0f8, .int h0f9, .ref h3, .ref h4, .ref h5, .ref h6, .ref h7, .ref h8, .ref h9, .int h0f17, .int h0f18, .int h0f19, .ref h10, .ref h11, .ref h12, .ref h13, .int h0f24, .int h0f25, .ref h14, .ref h15, .ref h16, .ref h17, .int h0f30, .int h0f31, .ref h18, .ref h19, .ref h20, .ref h21]), (h4, aJ (k 1) 9 (zJ [2, 3])), (h5, aJ (k 1) 9 (zJ [1, 2, 3])), (h7, aJ (k 1) 4 (zJ [1, 2, 3]))] _ := hT
                  refine lv_iinc (v := 3) (lv' := [(5, .int 3), (6, .long v70), (4, .int 2), (0, .ref h0), (1, .int x1), (2, .int x2), (3, .int x3)]) hx hb dX11_takesOut_201 hl (k := 0) rfl (by decide) (by decide) rfl (fun ls hl => ?_)
                  refine lv_goto (tgt := 181) hx hb dX11_takesOut_204 (by decide) ?_
                  refine lv_iload hx hb dX11_takesOut_181 (lv_at hl 0 rfl) ?_
                  refine lv_iconst (v := 4) hx hb dX11_takesOut_183 (by decide) ?_
                  refine lv_icmp_ge (tgt := 207) hx hb dX11_takesOut_184 (by decide) (fun cc => absurd cc (by decide +kernel)) (fun _ => ?_)
                  refine lv_aload_n hx hb dX11_takesOut_187 rfl (lv_at hl 3 rfl) ?_
                  refine tz_get (ci := 8) (v := .ref h7) (C := RX11) (F := TX11) (N := 36) hx hb hU iX11 hown hK hT 0 rfl rfl 14 (by decide) w799 (fun _ h9 => h9) rfl dX11_takesOut_188 ?_
                  refine lv_iload hx hb dX11_takesOut_191 (lv_at hl 0 rfl) ?_
                  refine lv_aload_n hx hb dX11_takesOut_193 rfl (lv_at hl 3 rfl) ?_
                  refine tz_get (ci := 8) (v := .ref h5) (C := RX11) (F := TX11) (N := 36) hx hb hU iX11 hown hK hT 0 rfl rfl 12 (by decide) w797 (fun _ h9 => h9) rfl dX11_takesOut_194 ?_
                  refine lv_iload hx hb dX11_takesOut_197 (lv_at hl 0 rfl) ?_
                  refine tz_lald hx hb hK hT 2 rfl (by have := li_3; omega) dX11_takesOut_199 (fun v90 e_v90 => ?_)
                  have e_v90 := z_get (z := 3) e_v90 li_3 (by decide)
                  subst e_v90
                  refine tz_lastP hx hb hK hT hS 3 (zJ [1, 2, 3]) rfl (by have := li_3; omega) (z_put0 (z := 3) li_3 (by decide)) dX11_takesOut_200 (fun H locs hT hS => ?_)
                  have hT : TP D A [(h0, ob 8 [.int h0f0, .int h0f1, .int h0f2, .int h0f3, .int h0f4, .int h0f5, .ref h1, .ref h2, .int h0f8, .int h0f9, .ref h3, .ref h4, .ref h5, .ref h6, .ref h7, .ref h8, .ref h9, .int h0f17, .int h0f18, .int h0f19, .ref h10, .ref h11, .ref h12, .ref h13, .int h0f24, .int h0f25, .ref h14, .ref h15, .ref h16, .ref h17, .int h0f30, .int h0f31, .ref h18, .ref h19, .ref h20, .ref h21]), (h4, aJ (k 1) 9 (zJ [2, 3])), (h5, aJ (k 1) 9 (zJ [1, 2, 3])), (h7, aJ (k 1) 4 (zJ [1, 2, 3]))] _ := hT
                  refine lv_iinc (v := 4) (lv' := [(5, .int 4), (6, .long v70), (4, .int 2), (0, .ref h0), (1, .int x1), (2, .int x2), (3, .int x3)]) hx hb dX11_takesOut_201 hl (k := 0) rfl (by decide) (by decide) rfl (fun ls hl => ?_)
                  refine lv_goto (tgt := 181) hx hb dX11_takesOut_204 (by decide) ?_
                  refine lv_iload hx hb dX11_takesOut_181 (lv_at hl 0 rfl) ?_
                  refine lv_iconst (v := 4) hx hb dX11_takesOut_183 (by decide) ?_
                  refine lv_icmp_ge (tgt := 207) hx hb dX11_takesOut_184 (by decide) (fun _ => ?_) (fun cc => absurd (by decide +kernel) cc)
                  refine lv_iconst (v := 1) hx hb dX11_takesOut_207 (by decide) ?_
                  have hT := hT.wk (q := 1) rfl (an_J (c := k 1) (n := 9))
                  have hT : TP D A [(h0, ob 8 [.int h0f0, .int h0f1, .int h0f2, .int h0f3, .int h0f4, .int h0f5, .ref h1, .ref h2, .int h0f8, .int h0f9, .ref h3, .ref h4, .ref h5, .ref h6, .ref h7, .ref h8, .ref h9, .int h0f17, .int h0f18, .int h0f19, .ref h10, .ref h11, .ref h12, .ref h13, .int h0f24, .int h0f25, .ref h14, .ref h15, .ref h16, .ref h17, .int h0f30, .int h0f31, .ref h18, .ref h19, .ref h20, .ref h21]), (h4, aJ (k 1) 9 anJ), (h5, aJ (k 1) 9 (zJ [1, 2, 3])), (h7, aJ (k 1) 4 (zJ [1, 2, 3]))] _ := hT
                  have hT := hT.wk (q := 2) rfl (an_J (c := k 1) (n := 9))
                  have hT : TP D A [(h0, ob 8 [.int h0f0, .int h0f1, .int h0f2, .int h0f3, .int h0f4, .int h0f5, .ref h1, .ref h2, .int h0f8, .int h0f9, .ref h3, .ref h4, .ref h5, .ref h6, .ref h7, .ref h8, .ref h9, .int h0f17, .int h0f18, .int h0f19, .ref h10, .ref h11, .ref h12, .ref h13, .int h0f24, .int h0f25, .ref h14, .ref h15, .ref h16, .ref h17, .int h0f30, .int h0f31, .ref h18, .ref h19, .ref h20, .ref h21]), (h4, aJ (k 1) 9 anJ), (h5, aJ (k 1) 9 anJ), (h7, aJ (k 1) 4 (zJ [1, 2, 3]))] _ := hT
                  have hT := hT.wk (q := 3) rfl (z_sub (c := k 1) (n := 4) (l := [1, 2, 3]) (m := [2, 3]) (by decide))
                  have hT : TP D A [(h0, ob 8 [.int h0f0, .int h0f1, .int h0f2, .int h0f3, .int h0f4, .int h0f5, .ref h1, .ref h2, .int h0f8, .int h0f9, .ref h3, .ref h4, .ref h5, .ref h6, .ref h7, .ref h8, .ref h9, .int h0f17, .int h0f18, .int h0f19, .ref h10, .ref h11, .ref h12, .ref h13, .int h0f24, .int h0f25, .ref h14, .ref h15, .ref h16, .ref h17, .int h0f30, .int h0f31, .ref h18, .ref h19, .ref h20, .ref h21]), (h4, aJ (k 1) 9 anJ), (h5, aJ (k 1) 9 anJ), (h7, aJ (k 1) 4 (zJ [2, 3]))] _ := hT
                  exact tz_retZ (B := B_cX11_takesOut_a13ae D k h0 h4 h5 h7 h1 h2 h3 h6 h8 h9 h10 h11 h12 h13 h14 h15 h16 h17 h18 h19 h20 h21 x1 x2 x3 h0f0 h0f1 h0f2 h0f3 h0f4 h0f5 h0f8 h0f9 h0f17 h0f18 h0f19 h0f24 h0f25 h0f30 h0f31) (v := 1) hQ hx hb hr hlocks hS (Nat.le_of_ble_eq_true rfl) (Nat.le_of_ble_eq_true rfl) dX11_takesOut_208 (by have := li_1; omega) (Or.inr (Or.inr (Or.inr (⟨v62, v83, v85, (by have := li_1; omega), (by have := li_1; omega), (by have := li_1; omega), (by have := li_1; omega), (by have := li_1; omega), (by have := li_1; omega), (by have := li_1; omega), (by have := li_1; omega), (by have := li_1; omega), (by have := li_1; omega), rfl, hT⟩))))
                · skip
                  have c_86 := nl_ne c_86 rfl ll_0
                  refine lv_iconst (v := 0) hx hb dX11_takesOut_176 (by decide) ?_
                  have hT := hT.wk (q := 1) rfl (an_J (c := k 1) (n := 9))
                  have hT : TP D A [(h0, ob 8 [.int h0f0, .int h0f1, .int h0f2, .int h0f3, .int h0f4, .int h0f5, .ref h1, .ref h2, .int h0f8, .int h0f9, .ref h3, .ref h4, .ref h5, .ref h6, .ref h7, .ref h8, .ref h9, .int h0f17, .int h0f18, .int h0f19, .ref h10, .ref h11, .ref h12, .ref h13, .int h0f24, .int h0f25, .ref h14, .ref h15, .ref h16, .ref h17, .int h0f30, .int h0f31, .ref h18, .ref h19, .ref h20, .ref h21]), (h4, aJ (k 1) 9 anJ), (h5, aJ (k 1) 9 (zJ [1, 2, 3])), (h7, aJ (k 1) 4 (zJ [3]))] _ := hT
                  have hT := hT.wk (q := 2) rfl (an_J (c := k 1) (n := 9))
                  have hT : TP D A [(h0, ob 8 [.int h0f0, .int h0f1, .int h0f2, .int h0f3, .int h0f4, .int h0f5, .ref h1, .ref h2, .int h0f8, .int h0f9, .ref h3, .ref h4, .ref h5, .ref h6, .ref h7, .ref h8, .ref h9, .int h0f17, .int h0f18, .int h0f19, .ref h10, .ref h11, .ref h12, .ref h13, .int h0f24, .int h0f25, .ref h14, .ref h15, .ref h16, .ref h17, .int h0f30, .int h0f31, .ref h18, .ref h19, .ref h20, .ref h21]), (h4, aJ (k 1) 9 anJ), (h5, aJ (k 1) 9 anJ), (h7, aJ (k 1) 4 (zJ [3]))] _ := hT
                  have hT := hT.wk (q := 3) rfl (an_J (c := k 1) (n := 4))
                  have hT : TP D A [(h0, ob 8 [.int h0f0, .int h0f1, .int h0f2, .int h0f3, .int h0f4, .int h0f5, .ref h1, .ref h2, .int h0f8, .int h0f9, .ref h3, .ref h4, .ref h5, .ref h6, .ref h7, .ref h8, .ref h9, .int h0f17, .int h0f18, .int h0f19, .ref h10, .ref h11, .ref h12, .ref h13, .int h0f24, .int h0f25, .ref h14, .ref h15, .ref h16, .ref h17, .int h0f30, .int h0f31, .ref h18, .ref h19, .ref h20, .ref h21]), (h4, aJ (k 1) 9 anJ), (h5, aJ (k 1) 9 anJ), (h7, aJ (k 1) 4 anJ)] _ := hT
                  exact tz_retZ (B := B_cX11_takesOut_a13ae D k h0 h4 h5 h7 h1 h2 h3 h6 h8 h9 h10 h11 h12 h13 h14 h15 h16 h17 h18 h19 h20 h21 x1 x2 x3 h0f0 h0f1 h0f2 h0f3 h0f4 h0f5 h0f8 h0f9 h0f17 h0f18 h0f19 h0f24 h0f25 h0f30 h0f31) (v := 0) hQ hx hb hr hlocks hS (Nat.le_of_ble_eq_true rfl) (Nat.le_of_ble_eq_true rfl) dX11_takesOut_177 (by have := li_0; omega) (Or.inl ⟨rfl, hT⟩)
            · skip
              have c_82 := ni_nlt c_82 li_1 hq1
              exfalso; omega
      · skip
        have c_64 := ni_nle c_64 hq1 li_2
        exfalso; omega
    · skip
      have c_63 := nl_eq c_63 rfl ll_0
      refine lv_iinc (v := 1) (lv' := [(4, .int 1), (0, .ref h0), (1, .int x1), (2, .int x2), (3, .int x3)]) hx hb dX11_takesOut_20 hl (k := 0) rfl (by decide) (by decide) rfl (fun ls hl => ?_)
      refine lv_goto (tgt := 3) hx hb dX11_takesOut_23 (by decide) ?_
      refine lv_iload hx hb dX11_takesOut_3 (lv_at hl 0 rfl) ?_
      refine lv_if_le (tgt := 26) hx hb dX11_takesOut_5 (by decide) (fun cc => absurd cc (by decide +kernel)) (fun _ => ?_)
      refine lv_aload_n hx hb dX11_takesOut_8 rfl (lv_at hl 1 rfl) ?_
      refine tz_get (ci := 8) (v := .ref h7) (C := RX11) (F := TX11) (N := 36) hx hb hU iX11 hown hK hT 0 rfl rfl 14 (by decide) w799 (fun _ h9 => h9) rfl dX11_takesOut_9 ?_
      refine lv_iload hx hb dX11_takesOut_12 (lv_at hl 0 rfl) ?_
      refine tz_lald hx hb hK hT 3 rfl (by have := li_1; omega) dX11_takesOut_14 (fun v91 e_v91 => ?_)
      clear e_v91
      refine lv_lconst (v := 0) hx hb dX11_takesOut_15 (by decide) ?_
      refine W.lcmp hx hb dX11_takesOut_16 ?_
      refine lv_if_ne (tgt := 26) hx hb dX11_takesOut_17 (by decide) (fun c_92 => ?_) (fun c_92 => ?_)
      · skip
        have c_92 := nl_ne c_92 rfl ll_0
        refine lv_iload hx hb dX11_takesOut_26 (lv_at hl 0 rfl) ?_
        refine lv_iload_n hx hb dX11_takesOut_28 rfl (lv_at hl 2 rfl) ?_
        refine lv_icmp_ge (tgt := 34) hx hb dX11_takesOut_29 (by decide) (fun c_93 => ?_) (fun c_93 => ?_)
        · skip
          have c_93 := ni_le c_93 hq1 li_1
          exfalso; omega
        · skip
          have c_93 := ni_nle c_93 hq1 li_1
          refine lv_iconst (v := 0) hx hb dX11_takesOut_32 (by decide) ?_
          have hT := hT.wk (q := 3) rfl (an_J (c := k 1) (n := 4))
          have hT : TP D A [(h0, ob 8 [.int h0f0, .int h0f1, .int h0f2, .int h0f3, .int h0f4, .int h0f5, .ref h1, .ref h2, .int h0f8, .int h0f9, .ref h3, .ref h4, .ref h5, .ref h6, .ref h7, .ref h8, .ref h9, .int h0f17, .int h0f18, .int h0f19, .ref h10, .ref h11, .ref h12, .ref h13, .int h0f24, .int h0f25, .ref h14, .ref h15, .ref h16, .ref h17, .int h0f30, .int h0f31, .ref h18, .ref h19, .ref h20, .ref h21]), (h4, aJ (k 1) 9 anJ), (h5, aJ (k 1) 9 anJ), (h7, aJ (k 1) 4 anJ)] _ := hT
          exact tz_retZ (B := B_cX11_takesOut_a13ae D k h0 h4 h5 h7 h1 h2 h3 h6 h8 h9 h10 h11 h12 h13 h14 h15 h16 h17 h18 h19 h20 h21 x1 x2 x3 h0f0 h0f1 h0f2 h0f3 h0f4 h0f5 h0f8 h0f9 h0f17 h0f18 h0f19 h0f24 h0f25 h0f30 h0f31) (v := 0) hQ hx hb hr hlocks hS (Nat.le_of_ble_eq_true rfl) (Nat.le_of_ble_eq_true rfl) dX11_takesOut_33 (by have := li_0; omega) (Or.inl ⟨rfl, hT⟩)
      · skip
        have c_92 := nl_eq c_92 rfl ll_0
        refine lv_iinc (v := 0) (lv' := [(4, .int 0), (0, .ref h0), (1, .int x1), (2, .int x2), (3, .int x3)]) hx hb dX11_takesOut_20 hl (k := 0) rfl (by decide) (by decide) rfl (fun ls hl => ?_)
        refine lv_goto (tgt := 3) hx hb dX11_takesOut_23 (by decide) ?_
        refine lv_iload hx hb dX11_takesOut_3 (lv_at hl 0 rfl) ?_
        refine lv_if_le (tgt := 26) hx hb dX11_takesOut_5 (by decide) (fun _ => ?_) (fun cc => absurd (by decide +kernel) cc)
        refine lv_iload hx hb dX11_takesOut_26 (lv_at hl 0 rfl) ?_
        refine lv_iload_n hx hb dX11_takesOut_28 rfl (lv_at hl 2 rfl) ?_
        refine lv_icmp_ge (tgt := 34) hx hb dX11_takesOut_29 (by decide) (fun c_94 => ?_) (fun c_94 => ?_)
        · skip
          have c_94 := ni_le c_94 hq1 li_0
          exfalso; omega
        · skip
          have c_94 := ni_nle c_94 hq1 li_0
          refine lv_iconst (v := 0) hx hb dX11_takesOut_32 (by decide) ?_
          have hT := hT.wk (q := 3) rfl (an_J (c := k 1) (n := 4))
          have hT : TP D A [(h0, ob 8 [.int h0f0, .int h0f1, .int h0f2, .int h0f3, .int h0f4, .int h0f5, .ref h1, .ref h2, .int h0f8, .int h0f9, .ref h3, .ref h4, .ref h5, .ref h6, .ref h7, .ref h8, .ref h9, .int h0f17, .int h0f18, .int h0f19, .ref h10, .ref h11, .ref h12, .ref h13, .int h0f24, .int h0f25, .ref h14, .ref h15, .ref h16, .ref h17, .int h0f30, .int h0f31, .ref h18, .ref h19, .ref h20, .ref h21]), (h4, aJ (k 1) 9 anJ), (h5, aJ (k 1) 9 anJ), (h7, aJ (k 1) 4 anJ)] _ := hT
          exact tz_retZ (B := B_cX11_takesOut_a13ae D k h0 h4 h5 h7 h1 h2 h3 h6 h8 h9 h10 h11 h12 h13 h14 h15 h16 h17 h18 h19 h20 h21 x1 x2 x3 h0f0 h0f1 h0f2 h0f3 h0f4 h0f5 h0f8 h0f9 h0f17 h0f18 h0f19 h0f24 h0f25 h0f30 h0f31) (v := 0) hQ hx hb hr hlocks hS (Nat.le_of_ble_eq_true rfl) (Nat.le_of_ble_eq_true rfl) dX11_takesOut_33 (by have := li_0; omega) (Or.inl ⟨rfl, hT⟩)
abbrev Rm_cX11_takesOut_2378e : Room := { frames := 0, cells := 0, slots := 0, locals := 0 }
abbrev B_cX11_takesOut_2378e (D : va_G) (k : Nat → ClassId) (h0 h4 h5 h7 h1 h2 h3 h6 h8 h9 h10 h11 h12 h13 h14 h15 h16 h17 h18 h19 h20 h21 : Nat) (x1 : Int32) (x2 : Int32) (x3 : Int32) (h0f0 : Int32) (h0f1 : Int32) (h0f2 : Int32) (h0f3 : Int32) (h0f4 : Int32) (h0f5 : Int32) (h0f8 : Int32) (h0f9 : Int32) (h0f17 : Int32) (h0f18 : Int32) (h0f19 : Int32) (h0f24 : Int32) (h0f25 : Int32) (h0f30 : Int32) (h0f31 : Int32) (A : Nat → Prop) (r : Int32) (H : Heap) : Prop := (0 = r ∧ TP D A [(h0, ob 8 [.int h0f0, .int h0f1, .int h0f2, .int h0f3, .int h0f4, .int h0f5, .ref h1, .ref h2, .int h0f8, .int h0f9, .ref h3, .ref h4, .ref h5, .ref h6, .ref h7, .ref h8, .ref h9, .int h0f17, .int h0f18, .int h0f19, .ref h10, .ref h11, .ref h12, .ref h13, .int h0f24, .int h0f25, .ref h14, .ref h15, .ref h16, .ref h17, .int h0f30, .int h0f31, .ref h18, .ref h19, .ref h20, .ref h21]), (h4, aJ (k 1) 9 anJ), (h5, aJ (k 1) 9 anJ), (h7, aJ (k 1) 4 anJ)] H) ∨ (∃ o0 : Int64, ∃ o1 : Int64, (0 ≤ o1.toInt ∧ o1.toInt ≤ 0) ∧ h0f8.toInt ≤ h0f3.toInt ∧ h0f9.toInt ≤ h0f24.toInt ∧ x1.toInt = 1 ∧ o0.toInt ≠ 0 ∧ x1.toInt ≤ 1 ∧ x1.toInt ≠ 2 ∧ 0 < x1.toInt ∧ o1.toInt = 0 ∧ 1 = r ∧ TP D A [(h0, ob 8 [.int h0f0, .int h0f1, .int h0f2, .int h0f3, .int h0f4, .int h0f5, .ref h1, .ref h2, .int h0f8, .int h0f9, .ref h3, .ref h4, .ref h5, .ref h6, .ref h7, .ref h8, .ref h9, .int h0f17, .int h0f18, .int h0f19, .ref h10, .ref h11, .ref h12, .ref h13, .int h0f24, .int h0f25, .ref h14, .ref h15, .ref h16, .ref h17, .int h0f30, .int h0f31, .ref h18, .ref h19, .ref h20, .ref h21]), (h4, aJ (k 1) 9 anJ), (h5, aJ (k 1) 9 anJ), (h7, aJ (k 1) 4 (zJ [1, 2, 3]))] H)
set_option maxHeartbeats 4000000 in
set_option maxRecDepth 100000 in
theorem cX11_takesOut_2378e (l : Launch) (D : va_G) (k : Nat → ClassId) (sz : Nat) (h0 h4 h5 h7 h1 h2 h3 h6 h8 h9 h10 h11 h12 h13 h14 h15 h16 h17 h18 h19 h20 h21 : Nat) (x1 : Int32) (x2 : Int32) (x3 : Int32) (h0f0 : Int32) (h0f1 : Int32) (h0f2 : Int32) (h0f3 : Int32) (h0f4 : Int32) (h0f5 : Int32) (h0f8 : Int32) (h0f9 : Int32) (h0f17 : Int32) (h0f18 : Int32) (h0f19 : Int32) (h0f24 : Int32) (h0f25 : Int32) (h0f30 : Int32) (h0f31 : Int32) (b_x1 : 1 ≤ x1.toInt ∧ x1.toInt ≤ 2) (b_x2 : (-1) ≤ x2.toInt ∧ x2.toInt ≤ 1) (b_x3 : (-1) ≤ x3.toInt ∧ x3.toInt ≤ 1) (b_h0f0 : 1 ≤ h0f0.toInt ∧ h0f0.toInt ≤ 3) (b_h0f1 : 1 ≤ h0f1.toInt ∧ h0f1.toInt ≤ 4) (b_h0f3 : 0 ≤ h0f3.toInt ∧ h0f3.toInt ≤ 3) (b_h0f4 : 0 ≤ h0f4.toInt ∧ h0f4.toInt ≤ 4) (b_h0f8 : 0 ≤ h0f8.toInt ∧ h0f8.toInt ≤ 1) (b_h0f9 : 0 ≤ h0f9.toInt ∧ h0f9.toInt ≤ 1) (b_h0f17 : 0 ≤ h0f17.toInt ∧ h0f17.toInt ≤ 120) (b_h0f18 : 0 ≤ h0f18.toInt ∧ h0f18.toInt ≤ 120) (b_h0f19 : 0 ≤ h0f19.toInt ∧ h0f19.toInt ≤ 4) (b_h0f24 : 0 ≤ h0f24.toInt ∧ h0f24.toInt ≤ 100) (b_h0f25 : 0 ≤ h0f25.toInt ∧ h0f25.toInt ≤ 1) (b_h0f30 : 0 ≤ h0f30.toInt ∧ h0f30.toInt ≤ 60) (b_h0f31 : 0 ≤ h0f31.toInt ∧ h0f31.toInt ≤ 1) (i_0 : h0f8.toInt ≤ h0f3.toInt) (i_1 : h0f9.toInt ≤ h0f24.toInt) : Met l yX11_takesOut (Cond.code yX11_takesOut cX11_takesOut 8 (some .boolean) :: uw) Rm_cX11_takesOut_2378e (pT D k sz [.ref h0, .int x1, .int x2, .int x3] [(h0, ob 8 [.int h0f0, .int h0f1, .int h0f2, .int h0f3, .int h0f4, .int h0f5, .ref h1, .ref h2, .int h0f8, .int h0f9, .ref h3, .ref h4, .ref h5, .ref h6, .ref h7, .ref h8, .ref h9, .int h0f17, .int h0f18, .int h0f19, .ref h10, .ref h11, .ref h12, .ref h13, .int h0f24, .int h0f25, .ref h14, .ref h15, .ref h16, .ref h17, .int h0f30, .int h0f31, .ref h18, .ref h19, .ref h20, .ref h21]), (h4, aJ (k 1) 9 anJ), (h5, aJ (k 1) 9 anJ), (h7, aJ (k 1) 4 (zJ [2, 3]))]) (qI (B_cX11_takesOut_2378e D k h0 h4 h5 h7 h1 h2 h3 h6 h8 h9 h10 h11 h12 h13 h14 h15 h16 h17 h18 h19 h20 h21 x1 x2 x3 h0f0 h0f1 h0f2 h0f3 h0f4 h0f5 h0f8 h0f9 h0f17 h0f18 h0f19 h0f24 h0f25 h0f30 h0f31 (zA [h0, h4, h5, h7] sz)) (zA [h0, h4, h5, h7] sz)) 0 0 (zA [h0, h4, h5, h7] sz) := by
  refine tz_begin (as := [h0, h4, h5, h7]) (Qc := fun A => qI (B_cX11_takesOut_2378e D k h0 h4 h5 h7 h1 h2 h3 h6 h8 h9 h10 h11 h12 h13 h14 h15 h16 h17 h18 h19 h20 h21 x1 x2 x3 h0f0 h0f1 h0f2 h0f3 h0f4 h0f5 h0f8 h0f9 h0f17 h0f18 h0f19 h0f24 h0f25 h0f30 h0f31 A) A) (by decide +kernel) rfl (Nat.le_of_ble_eq_true rfl) ?_
  intro p e s m args below meth c ls A Q hx hb hr hml hown hlocks hin hU hK hT hS hA hl hQ
  have hl : lv_has ls 8 [(0, .ref h0), (1, .int x1), (2, .int x2), (3, .int x3)] := hl
  have hT : TP D A [(h0, ob 8 [.int h0f0, .int h0f1, .int h0f2, .int h0f3, .int h0f4, .int h0f5, .ref h1, .ref h2, .int h0f8, .int h0f9, .ref h3, .ref h4, .ref h5, .ref h6, .ref h7, .ref h8, .ref h9, .int h0f17, .int h0f18, .int h0f19, .ref h10, .ref h11, .ref h12, .ref h13, .int h0f24, .int h0f25, .ref h14, .ref h15, .ref h16, .ref h17, .int h0f30, .int h0f31, .ref h18, .ref h19, .ref h20, .ref h21]), (h4, aJ (k 1) 9 anJ), (h5, aJ (k 1) 9 anJ), (h7, aJ (k 1) 4 (zJ [2, 3]))] s.heap := hT
  rcases (show x1.toInt = 1 ∨ x1.toInt = 2 by omega) with hq1 | hq1
  · skip
    refine lv_iconst (v := 3) hx hb dX11_takesOut_0 (by decide) ?_
    refine lv_istore (lv' := [(4, .int 3), (0, .ref h0), (1, .int x1), (2, .int x2), (3, .int x3)]) hx hb dX11_takesOut_1 hl (by decide) rfl (fun ls hl => ?_)
    refine lv_iload hx hb dX11_takesOut_3 (lv_at hl 0 rfl) ?_
    refine lv_if_le (tgt := 26) hx hb dX11_takesOut_5 (by decide) (fun cc => absurd cc (by decide +kernel)) (fun _ => ?_)
    refine lv_aload_n hx hb dX11_takesOut_8 rfl (lv_at hl 1 rfl) ?_
    refine tz_get (ci := 8) (v := .ref h7) (C := RX11) (F := TX11) (N := 36) hx hb hU iX11 hown hK hT 0 rfl rfl 14 (by decide) w799 (fun _ h9 => h9) rfl dX11_takesOut_9 ?_
    refine lv_iload hx hb dX11_takesOut_12 (lv_at hl 0 rfl) ?_
    refine tz_lald hx hb hK hT 3 rfl (by have := li_3; omega) dX11_takesOut_14 (fun v2 e_v2 => ?_)
    have e_v2 := z_get (z := 3) e_v2 li_3 (by decide)
    subst e_v2
    refine lv_lconst (v := 0) hx hb dX11_takesOut_15 (by decide) ?_
    refine W.lcmp hx hb dX11_takesOut_16 (sv_i (v := 0) (by decide +kernel) ?_)
    refine lv_if_ne (tgt := 26) hx hb dX11_takesOut_17 (by decide) (fun cc => absurd (by decide +kernel) cc) (fun _ => ?_)
    refine lv_iinc (v := 2) (lv' := [(4, .int 2), (0, .ref h0), (1, .int x1), (2, .int x2), (3, .int x3)]) hx hb dX11_takesOut_20 hl (k := 0) rfl (by decide) (by decide) rfl (fun ls hl => ?_)
    refine lv_goto (tgt := 3) hx hb dX11_takesOut_23 (by decide) ?_
    refine lv_iload hx hb dX11_takesOut_3 (lv_at hl 0 rfl) ?_
    refine lv_if_le (tgt := 26) hx hb dX11_takesOut_5 (by decide) (fun cc => absurd cc (by decide +kernel)) (fun _ => ?_)
    refine lv_aload_n hx hb dX11_takesOut_8 rfl (lv_at hl 1 rfl) ?_
    refine tz_get (ci := 8) (v := .ref h7) (C := RX11) (F := TX11) (N := 36) hx hb hU iX11 hown hK hT 0 rfl rfl 14 (by decide) w799 (fun _ h9 => h9) rfl dX11_takesOut_9 ?_
    refine lv_iload hx hb dX11_takesOut_12 (lv_at hl 0 rfl) ?_
    refine tz_lald hx hb hK hT 3 rfl (by have := li_2; omega) dX11_takesOut_14 (fun v3 e_v3 => ?_)
    have e_v3 := z_get (z := 2) e_v3 li_2 (by decide)
    subst e_v3
    refine lv_lconst (v := 0) hx hb dX11_takesOut_15 (by decide) ?_
    refine W.lcmp hx hb dX11_takesOut_16 (sv_i (v := 0) (by decide +kernel) ?_)
    refine lv_if_ne (tgt := 26) hx hb dX11_takesOut_17 (by decide) (fun cc => absurd (by decide +kernel) cc) (fun _ => ?_)
    refine lv_iinc (v := 1) (lv' := [(4, .int 1), (0, .ref h0), (1, .int x1), (2, .int x2), (3, .int x3)]) hx hb dX11_takesOut_20 hl (k := 0) rfl (by decide) (by decide) rfl (fun ls hl => ?_)
    refine lv_goto (tgt := 3) hx hb dX11_takesOut_23 (by decide) ?_
    refine lv_iload hx hb dX11_takesOut_3 (lv_at hl 0 rfl) ?_
    refine lv_if_le (tgt := 26) hx hb dX11_takesOut_5 (by decide) (fun cc => absurd cc (by decide +kernel)) (fun _ => ?_)
    refine lv_aload_n hx hb dX11_takesOut_8 rfl (lv_at hl 1 rfl) ?_
    refine tz_get (ci := 8) (v := .ref h7) (C := RX11) (F := TX11) (N := 36) hx hb hU iX11 hown hK hT 0 rfl rfl 14 (by decide) w799 (fun _ h9 => h9) rfl dX11_takesOut_9 ?_
    refine lv_iload hx hb dX11_takesOut_12 (lv_at hl 0 rfl) ?_
    refine tz_lald hx hb hK hT 3 rfl (by have := li_1; omega) dX11_takesOut_14 (fun v4 e_v4 => ?_)
    clear e_v4
    refine lv_lconst (v := 0) hx hb dX11_takesOut_15 (by decide) ?_
    refine W.lcmp hx hb dX11_takesOut_16 ?_
    refine lv_if_ne (tgt := 26) hx hb dX11_takesOut_17 (by decide) (fun c_5 => ?_) (fun c_5 => ?_)
    · skip
      have c_5 := nl_ne c_5 rfl ll_0
      refine lv_iload hx hb dX11_takesOut_26 (lv_at hl 0 rfl) ?_
      refine lv_iload_n hx hb dX11_takesOut_28 rfl (lv_at hl 2 rfl) ?_
      refine lv_icmp_ge (tgt := 34) hx hb dX11_takesOut_29 (by decide) (fun c_6 => ?_) (fun c_6 => ?_)
      · skip
        have c_6 := ni_le c_6 hq1 li_1
        refine lv_iconst (v := 0) hx hb dX11_takesOut_34 (by decide) ?_
        refine lv_istore (lv' := [(5, .int 0), (4, .int 1), (0, .ref h0), (1, .int x1), (2, .int x2), (3, .int x3)]) hx hb dX11_takesOut_35 hl (by decide) rfl (fun ls hl => ?_)
        refine lv_iload hx hb dX11_takesOut_37 (lv_at hl 0 rfl) ?_
        refine lv_iconst (v := 4) hx hb dX11_takesOut_39 (by decide) ?_
        refine lv_icmp_ge (tgt := 71) hx hb dX11_takesOut_40 (by decide) (fun cc => absurd cc (by decide +kernel)) (fun _ => ?_)
        refine lv_aload_n hx hb dX11_takesOut_43 rfl (lv_at hl 2 rfl) ?_
        refine tz_get (ci := 8) (v := .ref h4) (C := RX11) (F := TX11) (N := 36) hx hb hU iX11 hown hK hT 0 rfl rfl 11 (by decide) w796 (fun _ h9 => h9) rfl dX11_takesOut_44 ?_
        refine lv_iload hx hb dX11_takesOut_47 (lv_at hl 0 rfl) ?_
        refine lv_aload_n hx hb dX11_takesOut_49 rfl (lv_at hl 2 rfl) ?_
        refine tz_get (ci := 8) (v := .ref h7) (C := RX11) (F := TX11) (N := 36) hx hb hU iX11 hown hK hT 0 rfl rfl 14 (by decide) w799 (fun _ h9 => h9) rfl dX11_takesOut_50 ?_
        refine lv_iload hx hb dX11_takesOut_53 (lv_at hl 0 rfl) ?_
        refine tz_lald hx hb hK hT 3 rfl (by have := li_0; omega) dX11_takesOut_55 (fun v7 e_v7 => ?_)
        clear e_v7
        have hT := hT.wk (q := 1) rfl (z_of (c := k 1) (n := 9))
        have hT : TP D A [(h0, ob 8 [.int h0f0, .int h0f1, .int h0f2, .int h0f3, .int h0f4, .int h0f5, .ref h1, .ref h2, .int h0f8, .int h0f9, .ref h3, .ref h4, .ref h5, .ref h6, .ref h7, .ref h8, .ref h9, .int h0f17, .int h0f18, .int h0f19, .ref h10, .ref h11, .ref h12, .ref h13, .int h0f24, .int h0f25, .ref h14, .ref h15, .ref h16, .ref h17, .int h0f30, .int h0f31, .ref h18, .ref h19, .ref h20, .ref h21]), (h4, aJ (k 1) 9 (zJ [])), (h5, aJ (k 1) 9 anJ), (h7, aJ (k 1) 4 (zJ [2, 3]))] _ := hT
        refine tz_lastP hx hb hK hT hS 1 (zJ []) rfl (by have := li_0; omega) (z_putx (z := 0) li_0 (by decide)) dX11_takesOut_56 (fun H locs hT hS => ?_)
        have hT : TP D A [(h0, ob 8 [.int h0f0, .int h0f1, .int h0f2, .int h0f3, .int h0f4, .int h0f5, .ref h1, .ref h2, .int h0f8, .int h0f9, .ref h3, .ref h4, .ref h5, .ref h6, .ref h7, .ref h8, .ref h9, .int h0f17, .int h0f18, .int h0f19, .ref h10, .ref h11, .ref h12, .ref h13, .int h0f24, .int h0f25, .ref h14, .ref h15, .ref h16, .ref h17, .int h0f30, .int h0f31, .ref h18, .ref h19, .ref h20, .ref h21]), (h4, aJ (k 1) 9 (zJ [])), (h5, aJ (k 1) 9 anJ), (h7, aJ (k 1) 4 (zJ [2, 3]))] _ := hT
        refine lv_aload_n hx hb dX11_takesOut_57 rfl (lv_at hl 2 rfl) ?_
        refine tz_get (ci := 8) (v := .ref h5) (C := RX11) (F := TX11) (N := 36) hx hb hU iX11 hown hK hT 0 rfl rfl 12 (by decide) w797 (fun _ h9 => h9) rfl dX11_takesOut_58 ?_
        refine lv_iload hx hb dX11_takesOut_61 (lv_at hl 0 rfl) ?_
        refine lv_lconst (v := 0) hx hb dX11_takesOut_63 (by decide) ?_
        have hT := hT.wk (q := 2) rfl (z_of (c := k 1) (n := 9))
        have hT : TP D A [(h0, ob 8 [.int h0f0, .int h0f1, .int h0f2, .int h0f3, .int h0f4, .int h0f5, .ref h1, .ref h2, .int h0f8, .int h0f9, .ref h3, .ref h4, .ref h5, .ref h6, .ref h7, .ref h8, .ref h9, .int h0f17, .int h0f18, .int h0f19, .ref h10, .ref h11, .ref h12, .ref h13, .int h0f24, .int h0f25, .ref h14, .ref h15, .ref h16, .ref h17, .int h0f30, .int h0f31, .ref h18, .ref h19, .ref h20, .ref h21]), (h4, aJ (k 1) 9 (zJ [])), (h5, aJ (k 1) 9 (zJ [])), (h7, aJ (k 1) 4 (zJ [2, 3]))] _ := hT
        refine tz_lastP hx hb hK hT hS 2 (zJ [0]) rfl (by have := li_0; omega) (z_put0 (z := 0) li_0 (by decide)) dX11_takesOut_64 (fun H locs hT hS => ?_)
        have hT : TP D A [(h0, ob 8 [.int h0f0, .int h0f1, .int h0f2, .int h0f3, .int h0f4, .int h0f5, .ref h1, .ref h2, .int h0f8, .int h0f9, .ref h3, .ref h4, .ref h5, .ref h6, .ref h7, .ref h8, .ref h9, .int h0f17, .int h0f18, .int h0f19, .ref h10, .ref h11, .ref h12, .ref h13, .int h0f24, .int h0f25, .ref h14, .ref h15, .ref h16, .ref h17, .int h0f30, .int h0f31, .ref h18, .ref h19, .ref h20, .ref h21]), (h4, aJ (k 1) 9 (zJ [])), (h5, aJ (k 1) 9 (zJ [0])), (h7, aJ (k 1) 4 (zJ [2, 3]))] _ := hT
        refine lv_iinc (v := 1) (lv' := [(5, .int 1), (4, .int 1), (0, .ref h0), (1, .int x1), (2, .int x2), (3, .int x3)]) hx hb dX11_takesOut_65 hl (k := 0) rfl (by decide) (by decide) rfl (fun ls hl => ?_)
        refine lv_goto (tgt := 37) hx hb dX11_takesOut_68 (by decide) ?_
        refine lv_iload hx hb dX11_takesOut_37 (lv_at hl 0 rfl) ?_
        refine lv_iconst (v := 4) hx hb dX11_takesOut_39 (by decide) ?_
        refine lv_icmp_ge (tgt := 71) hx hb dX11_takesOut_40 (by decide) (fun cc => absurd cc (by decide +kernel)) (fun _ => ?_)
        refine lv_aload_n hx hb dX11_takesOut_43 rfl (lv_at hl 2 rfl) ?_
        refine tz_get (ci := 8) (v := .ref h4) (C := RX11) (F := TX11) (N := 36) hx hb hU iX11 hown hK hT 0 rfl rfl 11 (by decide) w796 (fun _ h9 => h9) rfl dX11_takesOut_44 ?_
        refine lv_iload hx hb dX11_takesOut_47 (lv_at hl 0 rfl) ?_
        refine lv_aload_n hx hb dX11_takesOut_49 rfl (lv_at hl 2 rfl) ?_
        refine tz_get (ci := 8) (v := .ref h7) (C := RX11) (F := TX11) (N := 36) hx hb hU iX11 hown hK hT 0 rfl rfl 14 (by decide) w799 (fun _ h9 => h9) rfl dX11_takesOut_50 ?_
        refine lv_iload hx hb dX11_takesOut_53 (lv_at hl 0 rfl) ?_
        refine tz_lald hx hb hK hT 3 rfl (by have := li_1; omega) dX11_takesOut_55 (fun v8 e_v8 => ?_)
        clear e_v8
        refine tz_lastP hx hb hK hT hS 1 (zJ []) rfl (by have := li_1; omega) (z_putx (z := 1) li_1 (by decide)) dX11_takesOut_56 (fun H locs hT hS => ?_)
        have hT : TP D A [(h0, ob 8 [.int h0f0, .int h0f1, .int h0f2, .int h0f3, .int h0f4, .int h0f5, .ref h1, .ref h2, .int h0f8, .int h0f9, .ref h3, .ref h4, .ref h5, .ref h6, .ref h7, .ref h8, .ref h9, .int h0f17, .int h0f18, .int h0f19, .ref h10, .ref h11, .ref h12, .ref h13, .int h0f24, .int h0f25, .ref h14, .ref h15, .ref h16, .ref h17, .int h0f30, .int h0f31, .ref h18, .ref h19, .ref h20, .ref h21]), (h4, aJ (k 1) 9 (zJ [])), (h5, aJ (k 1) 9 (zJ [0])), (h7, aJ (k 1) 4 (zJ [2, 3]))] _ := hT
        refine lv_aload_n hx hb dX11_takesOut_57 rfl (lv_at hl 2 rfl) ?_
        refine tz_get (ci := 8) (v := .ref h5) (C := RX11) (F := TX11) (N := 36) hx hb hU iX11 hown hK hT 0 rfl rfl 12 (by decide) w797 (fun _ h9 => h9) rfl dX11_takesOut_58 ?_
        refine lv_iload hx hb dX11_takesOut_61 (lv_at hl 0 rfl) ?_
        refine lv_lconst (v := 0) hx hb dX11_takesOut_63 (by decide) ?_
        refine tz_lastP hx hb hK hT hS 2 (zJ [0, 1]) rfl (by have := li_1; omega) (z_put0 (z := 1) li_1 (by decide)) dX11_takesOut_64 (fun H locs hT hS => ?_)
        have hT : TP D A [(h0, ob 8 [.int h0f0, .int h0f1, .int h0f2, .int h0f3, .int h0f4, .int h0f5, .ref h1, .ref h2, .int h0f8, .int h0f9, .ref h3, .ref h4, .ref h5, .ref h6, .ref h7, .ref h8, .ref h9, .int h0f17, .int h0f18, .int h0f19, .ref h10, .ref h11, .ref h12, .ref h13, .int h0f24, .int h0f25, .ref h14, .ref h15, .ref h16, .ref h17, .int h0f30, .int h0f31, .ref h18, .ref h19, .ref h20, .ref h21]), (h4, aJ (k 1) 9 (zJ [])), (h5, aJ (k 1) 9 (zJ [0, 1])), (h7, aJ (k 1) 4 (zJ [2, 3]))] _ := hT
        refine lv_iinc (v := 2) (lv' := [(5, .int 2), (4, .int 1), (0, .ref h0), (1, .int x1), (2, .int x2), (3, .int x3)]) hx hb dX11_takesOut_65 hl (k := 0) rfl (by decide) (by decide) rfl (fun ls hl => ?_)
        refine lv_goto (tgt := 37) hx hb dX11_takesOut_68 (by decide) ?_
        refine lv_iload hx hb dX11_takesOut_37 (lv_at hl 0 rfl) ?_
        refine lv_iconst (v := 4) hx hb dX11_takesOut_39 (by decide) ?_
        refine lv_icmp_ge (tgt := 71) hx hb dX11_takesOut_40 (by decide) (fun cc => absurd cc (by decide +kernel)) (fun _ => ?_)
        refine lv_aload_n hx hb dX11_takesOut_43 rfl (lv_at hl 2 rfl) ?_
        refine tz_get (ci := 8) (v := .ref h4) (C := RX11) (F := TX11) (N := 36) hx hb hU iX11 hown hK hT 0 rfl rfl 11 (by decide) w796 (fun _ h9 => h9) rfl dX11_takesOut_44 ?_
        refine lv_iload hx hb dX11_takesOut_47 (lv_at hl 0 rfl) ?_
        refine lv_aload_n hx hb dX11_takesOut_49 rfl (lv_at hl 2 rfl) ?_
        refine tz_get (ci := 8) (v := .ref h7) (C := RX11) (F := TX11) (N := 36) hx hb hU iX11 hown hK hT 0 rfl rfl 14 (by decide) w799 (fun _ h9 => h9) rfl dX11_takesOut_50 ?_
        refine lv_iload hx hb dX11_takesOut_53 (lv_at hl 0 rfl) ?_
        refine tz_lald hx hb hK hT 3 rfl (by have := li_2; omega) dX11_takesOut_55 (fun v9 e_v9 => ?_)
        have e_v9 := z_get (z := 2) e_v9 li_2 (by decide)
        subst e_v9
        refine tz_lastP hx hb hK hT hS 1 (zJ [2]) rfl (by have := li_2; omega) (z_put0 (z := 2) li_2 (by decide)) dX11_takesOut_56 (fun H locs hT hS => ?_)
        have hT : TP D A [(h0, ob 8 [.int h0f0, .int h0f1, .int h0f2, .int h0f3, .int h0f4, .int h0f5, .ref h1, .ref h2, .int h0f8, .int h0f9, .ref h3, .ref h4, .ref h5, .ref h6, .ref h7, .ref h8, .ref h9, .int h0f17, .int h0f18, .int h0f19, .ref h10, .ref h11, .ref h12, .ref h13, .int h0f24, .int h0f25, .ref h14, .ref h15, .ref h16, .ref h17, .int h0f30, .int h0f31, .ref h18, .ref h19, .ref h20, .ref h21]), (h4, aJ (k 1) 9 (zJ [2])), (h5, aJ (k 1) 9 (zJ [0, 1])), (h7, aJ (k 1) 4 (zJ [2, 3]))] _ := hT
        refine lv_aload_n hx hb dX11_takesOut_57 rfl (lv_at hl 2 rfl) ?_
        refine tz_get (ci := 8) (v := .ref h5) (C := RX11) (F := TX11) (N := 36) hx hb hU iX11 hown hK hT 0 rfl rfl 12 (by decide) w797 (fun _ h9 => h9) rfl dX11_takesOut_58 ?_
        refine lv_iload hx hb dX11_takesOut_61 (lv_at hl 0 rfl) ?_
        refine lv_lconst (v := 0) hx hb dX11_takesOut_63 (by decide) ?_
        refine tz_lastP hx hb hK hT hS 2 (zJ [0, 1, 2]) rfl (by have := li_2; omega) (z_put0 (z := 2) li_2 (by decide)) dX11_takesOut_64 (fun H locs hT hS => ?_)
        have hT : TP D A [(h0, ob 8 [.int h0f0, .int h0f1, .int h0f2, .int h0f3, .int h0f4, .int h0f5, .ref h1, .ref h2, .int h0f8, .int h0f9, .ref h3, .ref h4, .ref h5, .ref h6, .ref h7, .ref h8, .ref h9, .int h0f17, .int h0f18, .int h0f19, .ref h10, .ref h11, .ref h12, .ref h13, .int h0f24, .int h0f25, .ref h14, .ref h15, .ref h16, .ref h17, .int h0f30, .int h0f31, .ref h18, .ref h19, .ref h20, .ref h21]), (h4, aJ (k 1) 9 (zJ [2])), (h5, aJ (k 1) 9 (zJ [0, 1, 2])), (h7, aJ (k 1) 4 (zJ [2, 3]))] _ := hT
        refine lv_iinc (v := 3) (lv' := [(5, .int 3), (4, .int 1), (0, .ref h0), (1, .int x1), (2, .int x2), (3, .int x3)]) hx hb dX11_takesOut_65 hl (k := 0) rfl (by decide) (by decide) rfl (fun ls hl => ?_)
        refine lv_goto (tgt := 37) hx hb dX11_takesOut_68 (by decide) ?_
        refine lv_iload hx hb dX11_takesOut_37 (lv_at hl 0 rfl) ?_
        refine lv_iconst (v := 4) hx hb dX11_takesOut_39 (by decide) ?_
        refine lv_icmp_ge (tgt := 71) hx hb dX11_takesOut_40 (by decide) (fun cc => absurd cc (by decide +kernel)) (fun _ => ?_)
        refine lv_aload_n hx hb dX11_takesOut_43 rfl (lv_at hl 2 rfl) ?_
        refine tz_get (ci := 8) (v := .ref h4) (C := RX11) (F := TX11) (N := 36) hx hb hU iX11 hown hK hT 0 rfl rfl 11 (by decide) w796 (fun _ h9 => h9) rfl dX11_takesOut_44 ?_
        refine lv_iload hx hb dX11_takesOut_47 (lv_at hl 0 rfl) ?_
        refine lv_aload_n hx hb dX11_takesOut_49 rfl (lv_at hl 2 rfl) ?_
        refine tz_get (ci := 8) (v := .ref h7) (C := RX11) (F := TX11) (N := 36) hx hb hU iX11 hown hK hT 0 rfl rfl 14 (by decide) w799 (fun _ h9 => h9) rfl dX11_takesOut_50 ?_
        refine lv_iload hx hb dX11_takesOut_53 (lv_at hl 0 rfl) ?_
        refine tz_lald hx hb hK hT 3 rfl (by have := li_3; omega) dX11_takesOut_55 (fun v10 e_v10 => ?_)
        have e_v10 := z_get (z := 3) e_v10 li_3 (by decide)
        subst e_v10
        refine tz_lastP hx hb hK hT hS 1 (zJ [2, 3]) rfl (by have := li_3; omega) (z_put0 (z := 3) li_3 (by decide)) dX11_takesOut_56 (fun H locs hT hS => ?_)
        have hT : TP D A [(h0, ob 8 [.int h0f0, .int h0f1, .int h0f2, .int h0f3, .int h0f4, .int h0f5, .ref h1, .ref h2, .int h0f8, .int h0f9, .ref h3, .ref h4, .ref h5, .ref h6, .ref h7, .ref h8, .ref h9, .int h0f17, .int h0f18, .int h0f19, .ref h10, .ref h11, .ref h12, .ref h13, .int h0f24, .int h0f25, .ref h14, .ref h15, .ref h16, .ref h17, .int h0f30, .int h0f31, .ref h18, .ref h19, .ref h20, .ref h21]), (h4, aJ (k 1) 9 (zJ [2, 3])), (h5, aJ (k 1) 9 (zJ [0, 1, 2])), (h7, aJ (k 1) 4 (zJ [2, 3]))] _ := hT
        refine lv_aload_n hx hb dX11_takesOut_57 rfl (lv_at hl 2 rfl) ?_
        refine tz_get (ci := 8) (v := .ref h5) (C := RX11) (F := TX11) (N := 36) hx hb hU iX11 hown hK hT 0 rfl rfl 12 (by decide) w797 (fun _ h9 => h9) rfl dX11_takesOut_58 ?_
        refine lv_iload hx hb dX11_takesOut_61 (lv_at hl 0 rfl) ?_
        refine lv_lconst (v := 0) hx hb dX11_takesOut_63 (by decide) ?_
        refine tz_lastP hx hb hK hT hS 2 (zJ [0, 1, 2, 3]) rfl (by have := li_3; omega) (z_put0 (z := 3) li_3 (by decide)) dX11_takesOut_64 (fun H locs hT hS => ?_)
        have hT : TP D A [(h0, ob 8 [.int h0f0, .int h0f1, .int h0f2, .int h0f3, .int h0f4, .int h0f5, .ref h1, .ref h2, .int h0f8, .int h0f9, .ref h3, .ref h4, .ref h5, .ref h6, .ref h7, .ref h8, .ref h9, .int h0f17, .int h0f18, .int h0f19, .ref h10, .ref h11, .ref h12, .ref h13, .int h0f24, .int h0f25, .ref h14, .ref h15, .ref h16, .ref h17, .int h0f30, .int h0f31, .ref h18, .ref h19, .ref h20, .ref h21]), (h4, aJ (k 1) 9 (zJ [2, 3])), (h5, aJ (k 1) 9 (zJ [0, 1, 2, 3])), (h7, aJ (k 1) 4 (zJ [2, 3]))] _ := hT
        refine lv_iinc (v := 4) (lv' := [(5, .int 4), (4, .int 1), (0, .ref h0), (1, .int x1), (2, .int x2), (3, .int x3)]) hx hb dX11_takesOut_65 hl (k := 0) rfl (by decide) (by decide) rfl (fun ls hl => ?_)
        refine lv_goto (tgt := 37) hx hb dX11_takesOut_68 (by decide) ?_
        refine lv_iload hx hb dX11_takesOut_37 (lv_at hl 0 rfl) ?_
        refine lv_iconst (v := 4) hx hb dX11_takesOut_39 (by decide) ?_
        refine lv_icmp_ge (tgt := 71) hx hb dX11_takesOut_40 (by decide) (fun _ => ?_) (fun cc => absurd (by decide +kernel) cc)
        refine lv_iload hx hb dX11_takesOut_71 (lv_at hl 1 rfl) ?_
        refine lv_istore (lv' := [(5, .int 1), (4, .int 1), (0, .ref h0), (1, .int x1), (2, .int x2), (3, .int x3)]) hx hb dX11_takesOut_73 hl (by decide) rfl (fun ls hl => ?_)
        refine lv_iload hx hb dX11_takesOut_75 (lv_at hl 0 rfl) ?_
        refine lv_iload_n hx hb dX11_takesOut_77 rfl (lv_at hl 3 rfl) ?_
        refine lv_icmp_lt (tgt := 154) hx hb dX11_takesOut_78 (by decide) (fun c_11 => ?_) (fun c_11 => ?_)
        · skip
          have c_11 := ni_lt c_11 li_1 hq1
          exfalso; omega
        · skip
          have c_11 := ni_nlt c_11 li_1 hq1
          refine lv_aload_n hx hb dX11_takesOut_81 rfl (lv_at hl 2 rfl) ?_
          refine tz_get (ci := 8) (v := .ref h4) (C := RX11) (F := TX11) (N := 36) hx hb hU iX11 hown hK hT 0 rfl rfl 11 (by decide) w796 (fun _ h9 => h9) rfl dX11_takesOut_82 ?_
          refine lv_iload hx hb dX11_takesOut_85 (lv_at hl 0 rfl) ?_
          refine tz_lald hx hb hK hT 1 rfl (by have := li_1; omega) dX11_takesOut_87 (fun v12 e_v12 => ?_)
          clear e_v12
          refine lv_lstore (lv' := [(6, .long v12), (5, .int 1), (4, .int 1), (0, .ref h0), (1, .int x1), (2, .int x2), (3, .int x3)]) hx hb dX11_takesOut_88 hl (by decide) rfl (fun ls hl => ?_)
          refine lv_aload_n hx hb dX11_takesOut_90 rfl (lv_at hl 3 rfl) ?_
          refine tz_get (ci := 8) (v := .ref h5) (C := RX11) (F := TX11) (N := 36) hx hb hU iX11 hown hK hT 0 rfl rfl 12 (by decide) w797 (fun _ h9 => h9) rfl dX11_takesOut_91 ?_
          refine lv_iload hx hb dX11_takesOut_94 (lv_at hl 1 rfl) ?_
          refine lv_iload_n hx hb dX11_takesOut_96 rfl (lv_at hl 4 rfl) ?_
          refine lv_isub hx hb dX11_takesOut_97 (lv_topi (fun v13 e_v13 => ?_))
          have e_v13 := ai_sub e_v13 li_1 hq1 (by omega)
          refine lv_lload hx hb dX11_takesOut_98 (lv_at hl 0 rfl) ?_
          refine tz_lastP hx hb hK hT hS 2 (zJ [1, 2, 3]) rfl (by omega) (z_putx (z := 0) (show v13.toInt = 0 by omega) (by decide)) dX11_takesOut_100 (fun H locs hT hS => ?_)
          have hT : TP D A [(h0, ob 8 [.int h0f0, .int h0f1, .int h0f2, .int h0f3, .int h0f4, .int h0f5, .ref h1, .ref h2, .int h0f8, .int h0f9, .ref h3, .ref h4, .ref h5, .ref h6, .ref h7, .ref h8, .ref h9, .int h0f17, .int h0f18, .int h0f19, .ref h10, .ref h11, .ref h12, .ref h13, .int h0f24, .int h0f25, .ref h14, .ref h15, .ref h16, .ref h17, .int h0f30, .int h0f31, .ref h18, .ref h19, .ref h20, .ref h21]), (h4, aJ (k 1) 9 (zJ [2, 3])), (h5, aJ (k 1) 9 (zJ [1, 2, 3])), (h7, aJ (k 1) 4 (zJ [2, 3]))] _ := hT
          refine lv_aload_n hx hb dX11_takesOut_101 rfl (lv_at hl 3 rfl) ?_
          refine tz_get (ci := 8) (v := .ref h4) (C := RX11) (F := TX11) (N := 36) hx hb hU iX11 hown hK hT 0 rfl rfl 11 (by decide) w796 (fun _ h9 => h9) rfl dX11_takesOut_102 ?_
          refine lv_iload hx hb dX11_takesOut_105 (lv_at hl 1 rfl) ?_
          refine lv_iload_n hx hb dX11_takesOut_107 rfl (lv_at hl 4 rfl) ?_
          refine lv_isub hx hb dX11_takesOut_108 (lv_topi (fun v14 e_v14 => ?_))
          have e_v14 := ai_sub e_v14 li_1 hq1 (by omega)
          refine lv_dup2_11 hx hb dX11_takesOut_109 rfl rfl ?_
          refine tz_lald hx hb hK hT 1 rfl (by omega) dX11_takesOut_110 (fun v15 e_v15 => ?_)
          clear e_v15
          refine lv_lload hx hb dX11_takesOut_111 (lv_at hl 0 rfl) ?_
          refine lv_iload_n hx hb dX11_takesOut_113 rfl (lv_at hl 5 rfl) ?_
          obtain ⟨v16, e_v16⟩ : ∃ x : Int64, x2.toInt64 = x := ⟨_, rfl⟩
          refine lv_i2l (v := v16) hx hb dX11_takesOut_114 e_v16 ?_
          have e_v16 := ai_i2l e_v16 rfl
          refine lv_lmul hx hb dX11_takesOut_115 (lv_topl (fun v17 e_v17 => ?_))
          refine lv_lsub hx hb dX11_takesOut_116 (lv_topl (fun v18 e_v18 => ?_))
          refine tz_lastP hx hb hK hT hS 1 (zJ [2, 3]) rfl (by omega) (z_putx (z := 0) (show v14.toInt = 0 by omega) (by decide)) dX11_takesOut_117 (fun H locs hT hS => ?_)
          have hT : TP D A [(h0, ob 8 [.int h0f0, .int h0f1, .int h0f2, .int h0f3, .int h0f4, .int h0f5, .ref h1, .ref h2, .int h0f8, .int h0f9, .ref h3, .ref h4, .ref h5, .ref h6, .ref h7, .ref h8, .ref h9, .int h0f17, .int h0f18, .int h0f19, .ref h10, .ref h11, .ref h12, .ref h13, .int h0f24, .int h0f25, .ref h14, .ref h15, .ref h16, .ref h17, .int h0f30, .int h0f31, .ref h18, .ref h19, .ref h20, .ref h21]), (h4, aJ (k 1) 9 (zJ [2, 3])), (h5, aJ (k 1) 9 (zJ [1, 2, 3])), (h7, aJ (k 1) 4 (zJ [2, 3]))] _ := hT
          refine lv_iload_n hx hb dX11_takesOut_118 rfl (lv_at hl 4 rfl) ?_
          refine lv_iconst (v := 2) hx hb dX11_takesOut_119 (by decide) ?_
          refine lv_icmp_ne (tgt := 140) hx hb dX11_takesOut_120 (by decide) (fun c_19 => ?_) (fun c_19 => ?_)
          · skip
            have c_19 := ni_ne c_19 hq1 li_2
            refine lv_aload_n hx hb dX11_takesOut_140 rfl (lv_at hl 3 rfl) ?_
            refine tz_get (ci := 8) (v := .ref h4) (C := RX11) (F := TX11) (N := 36) hx hb hU iX11 hown hK hT 0 rfl rfl 11 (by decide) w796 (fun _ h9 => h9) rfl dX11_takesOut_141 ?_
            refine lv_iload hx hb dX11_takesOut_144 (lv_at hl 1 rfl) ?_
            refine lv_lconst (v := 0) hx hb dX11_takesOut_146 (by decide) ?_
            refine tz_lastP hx hb hK hT hS 1 (zJ [1, 2, 3]) rfl (by have := li_1; omega) (z_put0 (z := 1) li_1 (by decide)) dX11_takesOut_147 (fun H locs hT hS => ?_)
            have hT : TP D A [(h0, ob 8 [.int h0f0, .int h0f1, .int h0f2, .int h0f3, .int h0f4, .int h0f5, .ref h1, .ref h2, .int h0f8, .int h0f9, .ref h3, .ref h4, .ref h5, .ref h6, .ref h7, .ref h8, .ref h9, .int h0f17, .int h0f18, .int h0f19, .ref h10, .ref h11, .ref h12, .ref h13, .int h0f24, .int h0f25, .ref h14, .ref h15, .ref h16, .ref h17, .int h0f30, .int h0f31, .ref h18, .ref h19, .ref h20, .ref h21]), (h4, aJ (k 1) 9 (zJ [1, 2, 3])), (h5, aJ (k 1) 9 (zJ [1, 2, 3])), (h7, aJ (k 1) 4 (zJ [2, 3]))] _ := hT
            refine lv_iinc (v := 0) (lv' := [(5, .int 0), (6, .long v12), (4, .int 1), (0, .ref h0), (1, .int x1), (2, .int x2), (3, .int x3)]) hx hb dX11_takesOut_148 hl (k := 1) rfl (by decide) (by decide) rfl (fun ls hl => ?_)
            refine lv_goto (tgt := 75) hx hb dX11_takesOut_151 (by decide) ?_
            refine lv_iload hx hb dX11_takesOut_75 (lv_at hl 0 rfl) ?_
            refine lv_iload_n hx hb dX11_takesOut_77 rfl (lv_at hl 4 rfl) ?_
            refine lv_icmp_lt (tgt := 154) hx hb dX11_takesOut_78 (by decide) (fun c_20 => ?_) (fun c_20 => ?_)
            · skip
              have c_20 := ni_lt c_20 li_0 hq1
              refine lv_aload_n hx hb dX11_takesOut_154 rfl (lv_at hl 3 rfl) ?_
              refine tz_get (ci := 8) (v := .ref h4) (C := RX11) (F := TX11) (N := 36) hx hb hU iX11 hown hK hT 0 rfl rfl 11 (by decide) w796 (fun _ h9 => h9) rfl dX11_takesOut_155 ?_
              refine lv_iconst (v := 0) hx hb dX11_takesOut_158 (by decide) ?_
              refine tz_lald hx hb hK hT 1 rfl (by have := li_0; omega) dX11_takesOut_159 (fun v21 e_v21 => ?_)
              clear e_v21
              refine lv_lconst (v := 0) hx hb dX11_takesOut_160 (by decide) ?_
              refine W.lcmp hx hb dX11_takesOut_161 ?_
              refine lv_if_ne (tgt := 176) hx hb dX11_takesOut_162 (by decide) (fun c_22 => ?_) (fun c_22 => ?_)
              · skip
                have c_22 := nl_ne c_22 rfl ll_0
                refine lv_iconst (v := 0) hx hb dX11_takesOut_176 (by decide) ?_
                have hT := hT.wk (q := 1) rfl (an_J (c := k 1) (n := 9))
                have hT : TP D A [(h0, ob 8 [.int h0f0, .int h0f1, .int h0f2, .int h0f3, .int h0f4, .int h0f5, .ref h1, .ref h2, .int h0f8, .int h0f9, .ref h3, .ref h4, .ref h5, .ref h6, .ref h7, .ref h8, .ref h9, .int h0f17, .int h0f18, .int h0f19, .ref h10, .ref h11, .ref h12, .ref h13, .int h0f24, .int h0f25, .ref h14, .ref h15, .ref h16, .ref h17, .int h0f30, .int h0f31, .ref h18, .ref h19, .ref h20, .ref h21]), (h4, aJ (k 1) 9 anJ), (h5, aJ (k 1) 9 (zJ [1, 2, 3])), (h7, aJ (k 1) 4 (zJ [2, 3]))] _ := hT
                have hT := hT.wk (q := 2) rfl (an_J (c := k 1) (n := 9))
                have hT : TP D A [(h0, ob 8 [.int h0f0, .int h0f1, .int h0f2, .int h0f3, .int h0f4, .int h0f5, .ref h1, .ref h2, .int h0f8, .int h0f9, .ref h3, .ref h4, .ref h5, .ref h6, .ref h7, .ref h8, .ref h9, .int h0f17, .int h0f18, .int h0f19, .ref h10, .ref h11, .ref h12, .ref h13, .int h0f24, .int h0f25, .ref h14, .ref h15, .ref h16, .ref h17, .int h0f30, .int h0f31, .ref h18, .ref h19, .ref h20, .ref h21]), (h4, aJ (k 1) 9 anJ), (h5, aJ (k 1) 9 anJ), (h7, aJ (k 1) 4 (zJ [2, 3]))] _ := hT
                have hT := hT.wk (q := 3) rfl (an_J (c := k 1) (n := 4))
                have hT : TP D A [(h0, ob 8 [.int h0f0, .int h0f1, .int h0f2, .int h0f3, .int h0f4, .int h0f5, .ref h1, .ref h2, .int h0f8, .int h0f9, .ref h3, .ref h4, .ref h5, .ref h6, .ref h7, .ref h8, .ref h9, .int h0f17, .int h0f18, .int h0f19, .ref h10, .ref h11, .ref h12, .ref h13, .int h0f24, .int h0f25, .ref h14, .ref h15, .ref h16, .ref h17, .int h0f30, .int h0f31, .ref h18, .ref h19, .ref h20, .ref h21]), (h4, aJ (k 1) 9 anJ), (h5, aJ (k 1) 9 anJ), (h7, aJ (k 1) 4 anJ)] _ := hT
                exact tz_retZ (B := B_cX11_takesOut_2378e D k h0 h4 h5 h7 h1 h2 h3 h6 h8 h9 h10 h11 h12 h13 h14 h15 h16 h17 h18 h19 h20 h21 x1 x2 x3 h0f0 h0f1 h0f2 h0f3 h0f4 h0f5 h0f8 h0f9 h0f17 h0f18 h0f19 h0f24 h0f25 h0f30 h0f31) (v := 0) hQ hx hb hr hlocks hS (Nat.le_of_ble_eq_true rfl) (Nat.le_of_ble_eq_true rfl) dX11_takesOut_177 (by have := li_0; omega) (Or.inl ⟨rfl, hT⟩)
              · skip
                have c_22 := nl_eq c_22 rfl ll_0
                refine lv_aload_n hx hb dX11_takesOut_165 rfl (lv_at hl 3 rfl) ?_
                refine tz_get (ci := 8) (v := .ref h4) (C := RX11) (F := TX11) (N := 36) hx hb hU iX11 hown hK hT 0 rfl rfl 11 (by decide) w796 (fun _ h9 => h9) rfl dX11_takesOut_166 ?_
                refine lv_iconst (v := 1) hx hb dX11_takesOut_169 (by decide) ?_
                refine tz_lald hx hb hK hT 1 rfl (by have := li_1; omega) dX11_takesOut_170 (fun v23 e_v23 => ?_)
                have e_v23 := z_get (z := 1) e_v23 li_1 (by decide)
                subst e_v23
                refine lv_lconst (v := 0) hx hb dX11_takesOut_171 (by decide) ?_
                refine W.lcmp hx hb dX11_takesOut_172 (sv_i (v := 0) (by decide +kernel) ?_)
                refine lv_if_eq (tgt := 178) hx hb dX11_takesOut_173 (by decide) (fun _ => ?_) (fun cc => absurd (by decide +kernel) cc)
                refine lv_iconst (v := 0) hx hb dX11_takesOut_178 (by decide) ?_
                refine lv_istore (lv' := [(5, .int 0), (6, .long v12), (4, .int 1), (0, .ref h0), (1, .int x1), (2, .int x2), (3, .int x3)]) hx hb dX11_takesOut_179 hl (by decide) rfl (fun ls hl => ?_)
                refine lv_iload hx hb dX11_takesOut_181 (lv_at hl 0 rfl) ?_
                refine lv_iconst (v := 4) hx hb dX11_takesOut_183 (by decide) ?_
                refine lv_icmp_ge (tgt := 207) hx hb dX11_takesOut_184 (by decide) (fun cc => absurd cc (by decide +kernel)) (fun _ => ?_)
                refine lv_aload_n hx hb dX11_takesOut_187 rfl (lv_at hl 3 rfl) ?_
                refine tz_get (ci := 8) (v := .ref h7) (C := RX11) (F := TX11) (N := 36) hx hb hU iX11 hown hK hT 0 rfl rfl 14 (by decide) w799 (fun _ h9 => h9) rfl dX11_takesOut_188 ?_
                refine lv_iload hx hb dX11_takesOut_191 (lv_at hl 0 rfl) ?_
                refine lv_aload_n hx hb dX11_takesOut_193 rfl (lv_at hl 3 rfl) ?_
                refine tz_get (ci := 8) (v := .ref h5) (C := RX11) (F := TX11) (N := 36) hx hb hU iX11 hown hK hT 0 rfl rfl 12 (by decide) w797 (fun _ h9 => h9) rfl dX11_takesOut_194 ?_
                refine lv_iload hx hb dX11_takesOut_197 (lv_at hl 0 rfl) ?_
                refine tz_lald hx hb hK hT 2 rfl (by have := li_0; omega) dX11_takesOut_199 (fun v24 e_v24 => ?_)
                clear e_v24
                refine tz_lastP hx hb hK hT hS 3 (zJ [2, 3]) rfl (by have := li_0; omega) (z_putx (z := 0) li_0 (by decide)) dX11_takesOut_200 (fun H locs hT hS => ?_)
                have hT : TP D A [(h0, ob 8 [.int h0f0, .int h0f1, .int h0f2, .int h0f3, .int h0f4, .int h0f5, .ref h1, .ref h2, .int h0f8, .int h0f9, .ref h3, .ref h4, .ref h5, .ref h6, .ref h7, .ref h8, .ref h9, .int h0f17, .int h0f18, .int h0f19, .ref h10, .ref h11, .ref h12, .ref h13, .int h0f24, .int h0f25, .ref h14, .ref h15, .ref h16, .ref h17, .int h0f30, .int h0f31, .ref h18, .ref h19, .ref h20, .ref h21]), (h4, aJ (k 1) 9 (zJ [1, 2, 3])), (h5, aJ (k 1) 9 (zJ [1, 2, 3])), (h7, aJ (k 1) 4 (zJ [2, 3]))] _ := hT
                refine lv_iinc (v := 1) (lv' := [(5, .int 1), (6, .long v12), (4, .int 1), (0, .ref h0), (1, .int x1), (2, .int x2), (3, .int x3)]) hx hb dX11_takesOut_201 hl (k := 0) rfl (by decide) (by decide) rfl (fun ls hl => ?_)
                refine lv_goto (tgt := 181) hx hb dX11_takesOut_204 (by decide) ?_
                refine lv_iload hx hb dX11_takesOut_181 (lv_at hl 0 rfl) ?_
                refine lv_iconst (v := 4) hx hb dX11_takesOut_183 (by decide) ?_
                refine lv_icmp_ge (tgt := 207) hx hb dX11_takesOut_184 (by decide) (fun cc => absurd cc (by decide +kernel)) (fun _ => ?_)
                refine lv_aload_n hx hb dX11_takesOut_187 rfl (lv_at hl 3 rfl) ?_
                refine tz_get (ci := 8) (v := .ref h7) (C := RX11) (F := TX11) (N := 36) hx hb hU iX11 hown hK hT 0 rfl rfl 14 (by decide) w799 (fun _ h9 => h9) rfl dX11_takesOut_188 ?_
                refine lv_iload hx hb dX11_takesOut_191 (lv_at hl 0 rfl) ?_
                refine lv_aload_n hx hb dX11_takesOut_193 rfl (lv_at hl 3 rfl) ?_
                refine tz_get (ci := 8) (v := .ref h5) (C := RX11) (F := TX11) (N := 36) hx hb hU iX11 hown hK hT 0 rfl rfl 12 (by decide) w797 (fun _ h9 => h9) rfl dX11_takesOut_194 ?_
                refine lv_iload hx hb dX11_takesOut_197 (lv_at hl 0 rfl) ?_
                refine tz_lald hx hb hK hT 2 rfl (by have := li_1; omega) dX11_takesOut_199 (fun v25 e_v25 => ?_)
                have e_v25 := z_get (z := 1) e_v25 li_1 (by decide)
                subst e_v25
                refine tz_lastP hx hb hK hT hS 3 (zJ [1, 2, 3]) rfl (by have := li_1; omega) (z_put0 (z := 1) li_1 (by decide)) dX11_takesOut_200 (fun H locs hT hS => ?_)
                have hT : TP D A [(h0, ob 8 [.int h0f0, .int h0f1, .int h0f2, .int h0f3, .int h0f4, .int h0f5, .ref h1, .ref h2, .int h0f8, .int h0f9, .ref h3, .ref h4, .ref h5, .ref h6, .ref h7, .ref h8, .ref h9, .int h0f17, .int h0f18, .int h0f19, .ref h10, .ref h11, .ref h12, .ref h13, .int h0f24, .int h0f25, .ref h14, .ref h15, .ref h16, .ref h17, .int h0f30, .int h0f31, .ref h18, .ref h19, .ref h20, .ref h21]), (h4, aJ (k 1) 9 (zJ [1, 2, 3])), (h5, aJ (k 1) 9 (zJ [1, 2, 3])), (h7, aJ (k 1) 4 (zJ [1, 2, 3]))] _ := hT
                refine lv_iinc (v := 2) (lv' := [(5, .int 2), (6, .long v12), (4, .int 1), (0, .ref h0), (1, .int x1), (2, .int x2), (3, .int x3)]) hx hb dX11_takesOut_201 hl (k := 0) rfl (by decide) (by decide) rfl (fun ls hl => ?_)
                refine lv_goto (tgt := 181) hx hb dX11_takesOut_204 (by decide) ?_
                refine lv_iload hx hb dX11_takesOut_181 (lv_at hl 0 rfl) ?_
                refine lv_iconst (v := 4) hx hb dX11_takesOut_183 (by decide) ?_
                refine lv_icmp_ge (tgt := 207) hx hb dX11_takesOut_184 (by decide) (fun cc => absurd cc (by decide +kernel)) (fun _ => ?_)
                refine lv_aload_n hx hb dX11_takesOut_187 rfl (lv_at hl 3 rfl) ?_
                refine tz_get (ci := 8) (v := .ref h7) (C := RX11) (F := TX11) (N := 36) hx hb hU iX11 hown hK hT 0 rfl rfl 14 (by decide) w799 (fun _ h9 => h9) rfl dX11_takesOut_188 ?_
                refine lv_iload hx hb dX11_takesOut_191 (lv_at hl 0 rfl) ?_
                refine lv_aload_n hx hb dX11_takesOut_193 rfl (lv_at hl 3 rfl) ?_
                refine tz_get (ci := 8) (v := .ref h5) (C := RX11) (F := TX11) (N := 36) hx hb hU iX11 hown hK hT 0 rfl rfl 12 (by decide) w797 (fun _ h9 => h9) rfl dX11_takesOut_194 ?_
                refine lv_iload hx hb dX11_takesOut_197 (lv_at hl 0 rfl) ?_
                refine tz_lald hx hb hK hT 2 rfl (by have := li_2; omega) dX11_takesOut_199 (fun v26 e_v26 => ?_)
                have e_v26 := z_get (z := 2) e_v26 li_2 (by decide)
                subst e_v26
                refine tz_lastP hx hb hK hT hS 3 (zJ [1, 2, 3]) rfl (by have := li_2; omega) (z_put0 (z := 2) li_2 (by decide)) dX11_takesOut_200 (fun H locs hT hS => ?_)
                have hT : TP D A [(h0, ob 8 [.int h0f0, .int h0f1, .int h0f2, .int h0f3, .int h0f4, .int h0f5, .ref h1, .ref h2, .int h0f8, .int h0f9, .ref h3, .ref h4, .ref h5, .ref h6, .ref h7, .ref h8, .ref h9, .int h0f17, .int h0f18, .int h0f19, .ref h10, .ref h11, .ref h12, .ref h13, .int h0f24, .int h0f25, .ref h14, .ref h15, .ref h16, .ref h17, .int h0f30, .int h0f31, .ref h18, .ref h19, .ref h20, .ref h21]), (h4, aJ (k 1) 9 (zJ [1, 2, 3])), (h5, aJ (k 1) 9 (zJ [1, 2, 3])), (h7, aJ (k 1) 4 (zJ [1, 2, 3]))] _ := hT
                refine lv_iinc (v := 3) (lv' := [(5, .int 3), (6, .long v12), (4, .int 1), (0, .ref h0), (1, .int x1), (2, .int x2), (3, .int x3)]) hx hb dX11_takesOut_201 hl (k := 0) rfl (by decide) (by decide) rfl (fun ls hl => ?_)
                refine lv_goto (tgt := 181) hx hb dX11_takesOut_204 (by decide) ?_
                refine lv_iload hx hb dX11_takesOut_181 (lv_at hl 0 rfl) ?_
                refine lv_iconst (v := 4) hx hb dX11_takesOut_183 (by decide) ?_
                refine lv_icmp_ge (tgt := 207) hx hb dX11_takesOut_184 (by decide) (fun cc => absurd cc (by decide +kernel)) (fun _ => ?_)
                refine lv_aload_n hx hb dX11_takesOut_187 rfl (lv_at hl 3 rfl) ?_
                refine tz_get (ci := 8) (v := .ref h7) (C := RX11) (F := TX11) (N := 36) hx hb hU iX11 hown hK hT 0 rfl rfl 14 (by decide) w799 (fun _ h9 => h9) rfl dX11_takesOut_188 ?_
                refine lv_iload hx hb dX11_takesOut_191 (lv_at hl 0 rfl) ?_
                refine lv_aload_n hx hb dX11_takesOut_193 rfl (lv_at hl 3 rfl) ?_
                refine tz_get (ci := 8) (v := .ref h5) (C := RX11) (F := TX11) (N := 36) hx hb hU iX11 hown hK hT 0 rfl rfl 12 (by decide) w797 (fun _ h9 => h9) rfl dX11_takesOut_194 ?_
                refine lv_iload hx hb dX11_takesOut_197 (lv_at hl 0 rfl) ?_
                refine tz_lald hx hb hK hT 2 rfl (by have := li_3; omega) dX11_takesOut_199 (fun v27 e_v27 => ?_)
                have e_v27 := z_get (z := 3) e_v27 li_3 (by decide)
                subst e_v27
                refine tz_lastP hx hb hK hT hS 3 (zJ [1, 2, 3]) rfl (by have := li_3; omega) (z_put0 (z := 3) li_3 (by decide)) dX11_takesOut_200 (fun H locs hT hS => ?_)
                have hT : TP D A [(h0, ob 8 [.int h0f0, .int h0f1, .int h0f2, .int h0f3, .int h0f4, .int h0f5, .ref h1, .ref h2, .int h0f8, .int h0f9, .ref h3, .ref h4, .ref h5, .ref h6, .ref h7, .ref h8, .ref h9, .int h0f17, .int h0f18, .int h0f19, .ref h10, .ref h11, .ref h12, .ref h13, .int h0f24, .int h0f25, .ref h14, .ref h15, .ref h16, .ref h17, .int h0f30, .int h0f31, .ref h18, .ref h19, .ref h20, .ref h21]), (h4, aJ (k 1) 9 (zJ [1, 2, 3])), (h5, aJ (k 1) 9 (zJ [1, 2, 3])), (h7, aJ (k 1) 4 (zJ [1, 2, 3]))] _ := hT
                refine lv_iinc (v := 4) (lv' := [(5, .int 4), (6, .long v12), (4, .int 1), (0, .ref h0), (1, .int x1), (2, .int x2), (3, .int x3)]) hx hb dX11_takesOut_201 hl (k := 0) rfl (by decide) (by decide) rfl (fun ls hl => ?_)
                refine lv_goto (tgt := 181) hx hb dX11_takesOut_204 (by decide) ?_
                refine lv_iload hx hb dX11_takesOut_181 (lv_at hl 0 rfl) ?_
                refine lv_iconst (v := 4) hx hb dX11_takesOut_183 (by decide) ?_
                refine lv_icmp_ge (tgt := 207) hx hb dX11_takesOut_184 (by decide) (fun _ => ?_) (fun cc => absurd (by decide +kernel) cc)
                refine lv_iconst (v := 1) hx hb dX11_takesOut_207 (by decide) ?_
                have hT := hT.wk (q := 1) rfl (an_J (c := k 1) (n := 9))
                have hT : TP D A [(h0, ob 8 [.int h0f0, .int h0f1, .int h0f2, .int h0f3, .int h0f4, .int h0f5, .ref h1, .ref h2, .int h0f8, .int h0f9, .ref h3, .ref h4, .ref h5, .ref h6, .ref h7, .ref h8, .ref h9, .int h0f17, .int h0f18, .int h0f19, .ref h10, .ref h11, .ref h12, .ref h13, .int h0f24, .int h0f25, .ref h14, .ref h15, .ref h16, .ref h17, .int h0f30, .int h0f31, .ref h18, .ref h19, .ref h20, .ref h21]), (h4, aJ (k 1) 9 anJ), (h5, aJ (k 1) 9 (zJ [1, 2, 3])), (h7, aJ (k 1) 4 (zJ [1, 2, 3]))] _ := hT
                have hT := hT.wk (q := 2) rfl (an_J (c := k 1) (n := 9))
                have hT : TP D A [(h0, ob 8 [.int h0f0, .int h0f1, .int h0f2, .int h0f3, .int h0f4, .int h0f5, .ref h1, .ref h2, .int h0f8, .int h0f9, .ref h3, .ref h4, .ref h5, .ref h6, .ref h7, .ref h8, .ref h9, .int h0f17, .int h0f18, .int h0f19, .ref h10, .ref h11, .ref h12, .ref h13, .int h0f24, .int h0f25, .ref h14, .ref h15, .ref h16, .ref h17, .int h0f30, .int h0f31, .ref h18, .ref h19, .ref h20, .ref h21]), (h4, aJ (k 1) 9 anJ), (h5, aJ (k 1) 9 anJ), (h7, aJ (k 1) 4 (zJ [1, 2, 3]))] _ := hT
                exact tz_retZ (B := B_cX11_takesOut_2378e D k h0 h4 h5 h7 h1 h2 h3 h6 h8 h9 h10 h11 h12 h13 h14 h15 h16 h17 h18 h19 h20 h21 x1 x2 x3 h0f0 h0f1 h0f2 h0f3 h0f4 h0f5 h0f8 h0f9 h0f17 h0f18 h0f19 h0f24 h0f25 h0f30 h0f31) (v := 1) hQ hx hb hr hlocks hS (Nat.le_of_ble_eq_true rfl) (Nat.le_of_ble_eq_true rfl) dX11_takesOut_208 (by have := li_1; omega) (Or.inr (⟨v4, v21, (by have := li_1; omega), (by have := li_1; omega), (by have := li_1; omega), (by have := li_1; omega), (by have := li_1; omega), (by have := li_1; omega), (by have := li_1; omega), (by have := li_1; omega), (by have := li_1; omega), rfl, hT⟩))
            · skip
              have c_20 := ni_nlt c_20 li_0 hq1
              exfalso; omega
          · skip
            have c_19 := ni_eq c_19 hq1 li_2
            exfalso; omega
      · skip
        have c_6 := ni_nle c_6 hq1 li_1
        exfalso; omega
    · skip
      have c_5 := nl_eq c_5 rfl ll_0
      refine lv_iinc (v := 0) (lv' := [(4, .int 0), (0, .ref h0), (1, .int x1), (2, .int x2), (3, .int x3)]) hx hb dX11_takesOut_20 hl (k := 0) rfl (by decide) (by decide) rfl (fun ls hl => ?_)
      refine lv_goto (tgt := 3) hx hb dX11_takesOut_23 (by decide) ?_
      refine lv_iload hx hb dX11_takesOut_3 (lv_at hl 0 rfl) ?_
      refine lv_if_le (tgt := 26) hx hb dX11_takesOut_5 (by decide) (fun _ => ?_) (fun cc => absurd (by decide +kernel) cc)
      refine lv_iload hx hb dX11_takesOut_26 (lv_at hl 0 rfl) ?_
      refine lv_iload_n hx hb dX11_takesOut_28 rfl (lv_at hl 2 rfl) ?_
      refine lv_icmp_ge (tgt := 34) hx hb dX11_takesOut_29 (by decide) (fun c_28 => ?_) (fun c_28 => ?_)
      · skip
        have c_28 := ni_le c_28 hq1 li_0
        exfalso; omega
      · skip
        have c_28 := ni_nle c_28 hq1 li_0
        refine lv_iconst (v := 0) hx hb dX11_takesOut_32 (by decide) ?_
        have hT := hT.wk (q := 3) rfl (an_J (c := k 1) (n := 4))
        have hT : TP D A [(h0, ob 8 [.int h0f0, .int h0f1, .int h0f2, .int h0f3, .int h0f4, .int h0f5, .ref h1, .ref h2, .int h0f8, .int h0f9, .ref h3, .ref h4, .ref h5, .ref h6, .ref h7, .ref h8, .ref h9, .int h0f17, .int h0f18, .int h0f19, .ref h10, .ref h11, .ref h12, .ref h13, .int h0f24, .int h0f25, .ref h14, .ref h15, .ref h16, .ref h17, .int h0f30, .int h0f31, .ref h18, .ref h19, .ref h20, .ref h21]), (h4, aJ (k 1) 9 anJ), (h5, aJ (k 1) 9 anJ), (h7, aJ (k 1) 4 anJ)] _ := hT
        exact tz_retZ (B := B_cX11_takesOut_2378e D k h0 h4 h5 h7 h1 h2 h3 h6 h8 h9 h10 h11 h12 h13 h14 h15 h16 h17 h18 h19 h20 h21 x1 x2 x3 h0f0 h0f1 h0f2 h0f3 h0f4 h0f5 h0f8 h0f9 h0f17 h0f18 h0f19 h0f24 h0f25 h0f30 h0f31) (v := 0) hQ hx hb hr hlocks hS (Nat.le_of_ble_eq_true rfl) (Nat.le_of_ble_eq_true rfl) dX11_takesOut_33 (by have := li_0; omega) (Or.inl ⟨rfl, hT⟩)
  · skip
    refine lv_iconst (v := 3) hx hb dX11_takesOut_0 (by decide) ?_
    refine lv_istore (lv' := [(4, .int 3), (0, .ref h0), (1, .int x1), (2, .int x2), (3, .int x3)]) hx hb dX11_takesOut_1 hl (by decide) rfl (fun ls hl => ?_)
    refine lv_iload hx hb dX11_takesOut_3 (lv_at hl 0 rfl) ?_
    refine lv_if_le (tgt := 26) hx hb dX11_takesOut_5 (by decide) (fun cc => absurd cc (by decide +kernel)) (fun _ => ?_)
    refine lv_aload_n hx hb dX11_takesOut_8 rfl (lv_at hl 1 rfl) ?_
    refine tz_get (ci := 8) (v := .ref h7) (C := RX11) (F := TX11) (N := 36) hx hb hU iX11 hown hK hT 0 rfl rfl 14 (by decide) w799 (fun _ h9 => h9) rfl dX11_takesOut_9 ?_
    refine lv_iload hx hb dX11_takesOut_12 (lv_at hl 0 rfl) ?_
    refine tz_lald hx hb hK hT 3 rfl (by have := li_3; omega) dX11_takesOut_14 (fun v29 e_v29 => ?_)
    have e_v29 := z_get (z := 3) e_v29 li_3 (by decide)
    subst e_v29
    refine lv_lconst (v := 0) hx hb dX11_takesOut_15 (by decide) ?_
    refine W.lcmp hx hb dX11_takesOut_16 (sv_i (v := 0) (by decide +kernel) ?_)
    refine lv_if_ne (tgt := 26) hx hb dX11_takesOut_17 (by decide) (fun cc => absurd (by decide +kernel) cc) (fun _ => ?_)
    refine lv_iinc (v := 2) (lv' := [(4, .int 2), (0, .ref h0), (1, .int x1), (2, .int x2), (3, .int x3)]) hx hb dX11_takesOut_20 hl (k := 0) rfl (by decide) (by decide) rfl (fun ls hl => ?_)
    refine lv_goto (tgt := 3) hx hb dX11_takesOut_23 (by decide) ?_
    refine lv_iload hx hb dX11_takesOut_3 (lv_at hl 0 rfl) ?_
    refine lv_if_le (tgt := 26) hx hb dX11_takesOut_5 (by decide) (fun cc => absurd cc (by decide +kernel)) (fun _ => ?_)
    refine lv_aload_n hx hb dX11_takesOut_8 rfl (lv_at hl 1 rfl) ?_
    refine tz_get (ci := 8) (v := .ref h7) (C := RX11) (F := TX11) (N := 36) hx hb hU iX11 hown hK hT 0 rfl rfl 14 (by decide) w799 (fun _ h9 => h9) rfl dX11_takesOut_9 ?_
    refine lv_iload hx hb dX11_takesOut_12 (lv_at hl 0 rfl) ?_
    refine tz_lald hx hb hK hT 3 rfl (by have := li_2; omega) dX11_takesOut_14 (fun v30 e_v30 => ?_)
    have e_v30 := z_get (z := 2) e_v30 li_2 (by decide)
    subst e_v30
    refine lv_lconst (v := 0) hx hb dX11_takesOut_15 (by decide) ?_
    refine W.lcmp hx hb dX11_takesOut_16 (sv_i (v := 0) (by decide +kernel) ?_)
    refine lv_if_ne (tgt := 26) hx hb dX11_takesOut_17 (by decide) (fun cc => absurd (by decide +kernel) cc) (fun _ => ?_)
    refine lv_iinc (v := 1) (lv' := [(4, .int 1), (0, .ref h0), (1, .int x1), (2, .int x2), (3, .int x3)]) hx hb dX11_takesOut_20 hl (k := 0) rfl (by decide) (by decide) rfl (fun ls hl => ?_)
    refine lv_goto (tgt := 3) hx hb dX11_takesOut_23 (by decide) ?_
    refine lv_iload hx hb dX11_takesOut_3 (lv_at hl 0 rfl) ?_
    refine lv_if_le (tgt := 26) hx hb dX11_takesOut_5 (by decide) (fun cc => absurd cc (by decide +kernel)) (fun _ => ?_)
    refine lv_aload_n hx hb dX11_takesOut_8 rfl (lv_at hl 1 rfl) ?_
    refine tz_get (ci := 8) (v := .ref h7) (C := RX11) (F := TX11) (N := 36) hx hb hU iX11 hown hK hT 0 rfl rfl 14 (by decide) w799 (fun _ h9 => h9) rfl dX11_takesOut_9 ?_
    refine lv_iload hx hb dX11_takesOut_12 (lv_at hl 0 rfl) ?_
    refine tz_lald hx hb hK hT 3 rfl (by have := li_1; omega) dX11_takesOut_14 (fun v31 e_v31 => ?_)
    clear e_v31
    refine lv_lconst (v := 0) hx hb dX11_takesOut_15 (by decide) ?_
    refine W.lcmp hx hb dX11_takesOut_16 ?_
    refine lv_if_ne (tgt := 26) hx hb dX11_takesOut_17 (by decide) (fun c_32 => ?_) (fun c_32 => ?_)
    · skip
      have c_32 := nl_ne c_32 rfl ll_0
      refine lv_iload hx hb dX11_takesOut_26 (lv_at hl 0 rfl) ?_
      refine lv_iload_n hx hb dX11_takesOut_28 rfl (lv_at hl 2 rfl) ?_
      refine lv_icmp_ge (tgt := 34) hx hb dX11_takesOut_29 (by decide) (fun c_33 => ?_) (fun c_33 => ?_)
      · skip
        have c_33 := ni_le c_33 hq1 li_1
        exfalso; omega
      · skip
        have c_33 := ni_nle c_33 hq1 li_1
        refine lv_iconst (v := 0) hx hb dX11_takesOut_32 (by decide) ?_
        have hT := hT.wk (q := 3) rfl (an_J (c := k 1) (n := 4))
        have hT : TP D A [(h0, ob 8 [.int h0f0, .int h0f1, .int h0f2, .int h0f3, .int h0f4, .int h0f5, .ref h1, .ref h2, .int h0f8, .int h0f9, .ref h3, .ref h4, .ref h5, .ref h6, .ref h7, .ref h8, .ref h9, .int h0f17, .int h0f18, .int h0f19, .ref h10, .ref h11, .ref h12, .ref h13, .int h0f24, .int h0f25, .ref h14, .ref h15, .ref h16, .ref h17, .int h0f30, .int h0f31, .ref h18, .ref h19, .ref h20, .ref h21]), (h4, aJ (k 1) 9 anJ), (h5, aJ (k 1) 9 anJ), (h7, aJ (k 1) 4 anJ)] _ := hT
        exact tz_retZ (B := B_cX11_takesOut_2378e D k h0 h4 h5 h7 h1 h2 h3 h6 h8 h9 h10 h11 h12 h13 h14 h15 h16 h17 h18 h19 h20 h21 x1 x2 x3 h0f0 h0f1 h0f2 h0f3 h0f4 h0f5 h0f8 h0f9 h0f17 h0f18 h0f19 h0f24 h0f25 h0f30 h0f31) (v := 0) hQ hx hb hr hlocks hS (Nat.le_of_ble_eq_true rfl) (Nat.le_of_ble_eq_true rfl) dX11_takesOut_33 (by have := li_0; omega) (Or.inl ⟨rfl, hT⟩)
    · skip
      have c_32 := nl_eq c_32 rfl ll_0
      refine lv_iinc (v := 0) (lv' := [(4, .int 0), (0, .ref h0), (1, .int x1), (2, .int x2), (3, .int x3)]) hx hb dX11_takesOut_20 hl (k := 0) rfl (by decide) (by decide) rfl (fun ls hl => ?_)
      refine lv_goto (tgt := 3) hx hb dX11_takesOut_23 (by decide) ?_
      refine lv_iload hx hb dX11_takesOut_3 (lv_at hl 0 rfl) ?_
      refine lv_if_le (tgt := 26) hx hb dX11_takesOut_5 (by decide) (fun _ => ?_) (fun cc => absurd (by decide +kernel) cc)
      refine lv_iload hx hb dX11_takesOut_26 (lv_at hl 0 rfl) ?_
      refine lv_iload_n hx hb dX11_takesOut_28 rfl (lv_at hl 2 rfl) ?_
      refine lv_icmp_ge (tgt := 34) hx hb dX11_takesOut_29 (by decide) (fun c_34 => ?_) (fun c_34 => ?_)
      · skip
        have c_34 := ni_le c_34 hq1 li_0
        exfalso; omega
      · skip
        have c_34 := ni_nle c_34 hq1 li_0
        refine lv_iconst (v := 0) hx hb dX11_takesOut_32 (by decide) ?_
        have hT := hT.wk (q := 3) rfl (an_J (c := k 1) (n := 4))
        have hT : TP D A [(h0, ob 8 [.int h0f0, .int h0f1, .int h0f2, .int h0f3, .int h0f4, .int h0f5, .ref h1, .ref h2, .int h0f8, .int h0f9, .ref h3, .ref h4, .ref h5, .ref h6, .ref h7, .ref h8, .ref h9, .int h0f17, .int h0f18, .int h0f19, .ref h10, .ref h11, .ref h12, .ref h13, .int h0f24, .int h0f25, .ref h14, .ref h15, .ref h16, .ref h17, .int h0f30, .int h0f31, .ref h18, .ref h19, .ref h20, .ref h21]), (h4, aJ (k 1) 9 anJ), (h5, aJ (k 1) 9 anJ), (h7, aJ (k 1) 4 anJ)] _ := hT
        exact tz_retZ (B := B_cX11_takesOut_2378e D k h0 h4 h5 h7 h1 h2 h3 h6 h8 h9 h10 h11 h12 h13 h14 h15 h16 h17 h18 h19 h20 h21 x1 x2 x3 h0f0 h0f1 h0f2 h0f3 h0f4 h0f5 h0f8 h0f9 h0f17 h0f18 h0f19 h0f24 h0f25 h0f30 h0f31) (v := 0) hQ hx hb hr hlocks hS (Nat.le_of_ble_eq_true rfl) (Nat.le_of_ble_eq_true rfl) dX11_takesOut_33 (by have := li_0; omega) (Or.inl ⟨rfl, hT⟩)
abbrev Rm_cX11_takesOut_3cbb8 : Room := { frames := 0, cells := 0, slots := 0, locals := 0 }
abbrev B_cX11_takesOut_3cbb8 (D : va_G) (k : Nat → ClassId) (h0 h7 h1 h2 h3 h4 h5 h6 h8 h9 h10 h11 h12 h13 h14 h15 h16 h17 h18 h19 h20 h21 : Nat) (x1 : Int32) (x2 : Int32) (x3 : Int32) (h0f0 : Int32) (h0f1 : Int32) (h0f2 : Int32) (h0f3 : Int32) (h0f4 : Int32) (h0f5 : Int32) (h0f8 : Int32) (h0f9 : Int32) (h0f17 : Int32) (h0f18 : Int32) (h0f19 : Int32) (h0f24 : Int32) (h0f25 : Int32) (h0f30 : Int32) (h0f31 : Int32) (A : Nat → Prop) (r : Int32) (H : Heap) : Prop := 0 = r ∧ TP D A [(h0, ob 8 [.int h0f0, .int h0f1, .int h0f2, .int h0f3, .int h0f4, .int h0f5, .ref h1, .ref h2, .int h0f8, .int h0f9, .ref h3, .ref h4, .ref h5, .ref h6, .ref h7, .ref h8, .ref h9, .int h0f17, .int h0f18, .int h0f19, .ref h10, .ref h11, .ref h12, .ref h13, .int h0f24, .int h0f25, .ref h14, .ref h15, .ref h16, .ref h17, .int h0f30, .int h0f31, .ref h18, .ref h19, .ref h20, .ref h21]), (h7, aJ (k 1) 4 anJ)] H
set_option maxHeartbeats 4000000 in
set_option maxRecDepth 100000 in
theorem cX11_takesOut_3cbb8 (l : Launch) (D : va_G) (k : Nat → ClassId) (sz : Nat) (h0 h7 h1 h2 h3 h4 h5 h6 h8 h9 h10 h11 h12 h13 h14 h15 h16 h17 h18 h19 h20 h21 : Nat) (x1 : Int32) (x2 : Int32) (x3 : Int32) (h0f0 : Int32) (h0f1 : Int32) (h0f2 : Int32) (h0f3 : Int32) (h0f4 : Int32) (h0f5 : Int32) (h0f8 : Int32) (h0f9 : Int32) (h0f17 : Int32) (h0f18 : Int32) (h0f19 : Int32) (h0f24 : Int32) (h0f25 : Int32) (h0f30 : Int32) (h0f31 : Int32) (b_x1 : 1 ≤ x1.toInt ∧ x1.toInt ≤ 1) (b_x2 : (-1) ≤ x2.toInt ∧ x2.toInt ≤ 1) (b_x3 : 0 ≤ x3.toInt ∧ x3.toInt ≤ 0) (b_h0f0 : 1 ≤ h0f0.toInt ∧ h0f0.toInt ≤ 3) (b_h0f1 : 1 ≤ h0f1.toInt ∧ h0f1.toInt ≤ 4) (b_h0f3 : 0 ≤ h0f3.toInt ∧ h0f3.toInt ≤ 3) (b_h0f4 : 0 ≤ h0f4.toInt ∧ h0f4.toInt ≤ 4) (b_h0f8 : 0 ≤ h0f8.toInt ∧ h0f8.toInt ≤ 1) (b_h0f9 : 0 ≤ h0f9.toInt ∧ h0f9.toInt ≤ 1) (b_h0f17 : 0 ≤ h0f17.toInt ∧ h0f17.toInt ≤ 120) (b_h0f18 : 0 ≤ h0f18.toInt ∧ h0f18.toInt ≤ 120) (b_h0f19 : 0 ≤ h0f19.toInt ∧ h0f19.toInt ≤ 4) (b_h0f24 : 0 ≤ h0f24.toInt ∧ h0f24.toInt ≤ 100) (b_h0f25 : 0 ≤ h0f25.toInt ∧ h0f25.toInt ≤ 1) (b_h0f30 : 0 ≤ h0f30.toInt ∧ h0f30.toInt ≤ 60) (b_h0f31 : 0 ≤ h0f31.toInt ∧ h0f31.toInt ≤ 1) (i_0 : h0f8.toInt ≤ h0f3.toInt) (i_1 : h0f9.toInt ≤ h0f24.toInt) : Met l yX11_takesOut (Cond.code yX11_takesOut cX11_takesOut 8 (some .boolean) :: uw) Rm_cX11_takesOut_3cbb8 (pT D k sz [.ref h0, .int x1, .int x2, .int x3] [(h0, ob 8 [.int h0f0, .int h0f1, .int h0f2, .int h0f3, .int h0f4, .int h0f5, .ref h1, .ref h2, .int h0f8, .int h0f9, .ref h3, .ref h4, .ref h5, .ref h6, .ref h7, .ref h8, .ref h9, .int h0f17, .int h0f18, .int h0f19, .ref h10, .ref h11, .ref h12, .ref h13, .int h0f24, .int h0f25, .ref h14, .ref h15, .ref h16, .ref h17, .int h0f30, .int h0f31, .ref h18, .ref h19, .ref h20, .ref h21]), (h7, aJ (k 1) 4 (zJ [1, 2, 3]))]) (qI (B_cX11_takesOut_3cbb8 D k h0 h7 h1 h2 h3 h4 h5 h6 h8 h9 h10 h11 h12 h13 h14 h15 h16 h17 h18 h19 h20 h21 x1 x2 x3 h0f0 h0f1 h0f2 h0f3 h0f4 h0f5 h0f8 h0f9 h0f17 h0f18 h0f19 h0f24 h0f25 h0f30 h0f31 (zA [h0, h7] sz)) (zA [h0, h7] sz)) 0 0 (zA [h0, h7] sz) := by
  refine tz_begin (as := [h0, h7]) (Qc := fun A => qI (B_cX11_takesOut_3cbb8 D k h0 h7 h1 h2 h3 h4 h5 h6 h8 h9 h10 h11 h12 h13 h14 h15 h16 h17 h18 h19 h20 h21 x1 x2 x3 h0f0 h0f1 h0f2 h0f3 h0f4 h0f5 h0f8 h0f9 h0f17 h0f18 h0f19 h0f24 h0f25 h0f30 h0f31 A) A) (by decide +kernel) rfl (Nat.le_of_ble_eq_true rfl) ?_
  intro p e s m args below meth c ls A Q hx hb hr hml hown hlocks hin hU hK hT hS hA hl hQ
  have hl : lv_has ls 8 [(0, .ref h0), (1, .int x1), (2, .int x2), (3, .int x3)] := hl
  have hT : TP D A [(h0, ob 8 [.int h0f0, .int h0f1, .int h0f2, .int h0f3, .int h0f4, .int h0f5, .ref h1, .ref h2, .int h0f8, .int h0f9, .ref h3, .ref h4, .ref h5, .ref h6, .ref h7, .ref h8, .ref h9, .int h0f17, .int h0f18, .int h0f19, .ref h10, .ref h11, .ref h12, .ref h13, .int h0f24, .int h0f25, .ref h14, .ref h15, .ref h16, .ref h17, .int h0f30, .int h0f31, .ref h18, .ref h19, .ref h20, .ref h21]), (h7, aJ (k 1) 4 (zJ [1, 2, 3]))] s.heap := hT
  have hq1 : x1.toInt = 1 := by omega
  refine lv_iconst (v := 3) hx hb dX11_takesOut_0 (by decide) ?_
  refine lv_istore (lv' := [(4, .int 3), (0, .ref h0), (1, .int x1), (2, .int x2), (3, .int x3)]) hx hb dX11_takesOut_1 hl (by decide) rfl (fun ls hl => ?_)
  refine lv_iload hx hb dX11_takesOut_3 (lv_at hl 0 rfl) ?_
  refine lv_if_le (tgt := 26) hx hb dX11_takesOut_5 (by decide) (fun cc => absurd cc (by decide +kernel)) (fun _ => ?_)
  refine lv_aload_n hx hb dX11_takesOut_8 rfl (lv_at hl 1 rfl) ?_
  refine tz_get (ci := 8) (v := .ref h7) (C := RX11) (F := TX11) (N := 36) hx hb hU iX11 hown hK hT 0 rfl rfl 14 (by decide) w799 (fun _ h9 => h9) rfl dX11_takesOut_9 ?_
  refine lv_iload hx hb dX11_takesOut_12 (lv_at hl 0 rfl) ?_
  refine tz_lald hx hb hK hT 1 rfl (by have := li_3; omega) dX11_takesOut_14 (fun v2 e_v2 => ?_)
  have e_v2 := z_get (z := 3) e_v2 li_3 (by decide)
  subst e_v2
  refine lv_lconst (v := 0) hx hb dX11_takesOut_15 (by decide) ?_
  refine W.lcmp hx hb dX11_takesOut_16 (sv_i (v := 0) (by decide +kernel) ?_)
  refine lv_if_ne (tgt := 26) hx hb dX11_takesOut_17 (by decide) (fun cc => absurd (by decide +kernel) cc) (fun _ => ?_)
  refine lv_iinc (v := 2) (lv' := [(4, .int 2), (0, .ref h0), (1, .int x1), (2, .int x2), (3, .int x3)]) hx hb dX11_takesOut_20 hl (k := 0) rfl (by decide) (by decide) rfl (fun ls hl => ?_)
  refine lv_goto (tgt := 3) hx hb dX11_takesOut_23 (by decide) ?_
  refine lv_iload hx hb dX11_takesOut_3 (lv_at hl 0 rfl) ?_
  refine lv_if_le (tgt := 26) hx hb dX11_takesOut_5 (by decide) (fun cc => absurd cc (by decide +kernel)) (fun _ => ?_)
  refine lv_aload_n hx hb dX11_takesOut_8 rfl (lv_at hl 1 rfl) ?_
  refine tz_get (ci := 8) (v := .ref h7) (C := RX11) (F := TX11) (N := 36) hx hb hU iX11 hown hK hT 0 rfl rfl 14 (by decide) w799 (fun _ h9 => h9) rfl dX11_takesOut_9 ?_
  refine lv_iload hx hb dX11_takesOut_12 (lv_at hl 0 rfl) ?_
  refine tz_lald hx hb hK hT 1 rfl (by have := li_2; omega) dX11_takesOut_14 (fun v3 e_v3 => ?_)
  have e_v3 := z_get (z := 2) e_v3 li_2 (by decide)
  subst e_v3
  refine lv_lconst (v := 0) hx hb dX11_takesOut_15 (by decide) ?_
  refine W.lcmp hx hb dX11_takesOut_16 (sv_i (v := 0) (by decide +kernel) ?_)
  refine lv_if_ne (tgt := 26) hx hb dX11_takesOut_17 (by decide) (fun cc => absurd (by decide +kernel) cc) (fun _ => ?_)
  refine lv_iinc (v := 1) (lv' := [(4, .int 1), (0, .ref h0), (1, .int x1), (2, .int x2), (3, .int x3)]) hx hb dX11_takesOut_20 hl (k := 0) rfl (by decide) (by decide) rfl (fun ls hl => ?_)
  refine lv_goto (tgt := 3) hx hb dX11_takesOut_23 (by decide) ?_
  refine lv_iload hx hb dX11_takesOut_3 (lv_at hl 0 rfl) ?_
  refine lv_if_le (tgt := 26) hx hb dX11_takesOut_5 (by decide) (fun cc => absurd cc (by decide +kernel)) (fun _ => ?_)
  refine lv_aload_n hx hb dX11_takesOut_8 rfl (lv_at hl 1 rfl) ?_
  refine tz_get (ci := 8) (v := .ref h7) (C := RX11) (F := TX11) (N := 36) hx hb hU iX11 hown hK hT 0 rfl rfl 14 (by decide) w799 (fun _ h9 => h9) rfl dX11_takesOut_9 ?_
  refine lv_iload hx hb dX11_takesOut_12 (lv_at hl 0 rfl) ?_
  refine tz_lald hx hb hK hT 1 rfl (by have := li_1; omega) dX11_takesOut_14 (fun v4 e_v4 => ?_)
  have e_v4 := z_get (z := 1) e_v4 li_1 (by decide)
  subst e_v4
  refine lv_lconst (v := 0) hx hb dX11_takesOut_15 (by decide) ?_
  refine W.lcmp hx hb dX11_takesOut_16 (sv_i (v := 0) (by decide +kernel) ?_)
  refine lv_if_ne (tgt := 26) hx hb dX11_takesOut_17 (by decide) (fun cc => absurd (by decide +kernel) cc) (fun _ => ?_)
  refine lv_iinc (v := 0) (lv' := [(4, .int 0), (0, .ref h0), (1, .int x1), (2, .int x2), (3, .int x3)]) hx hb dX11_takesOut_20 hl (k := 0) rfl (by decide) (by decide) rfl (fun ls hl => ?_)
  refine lv_goto (tgt := 3) hx hb dX11_takesOut_23 (by decide) ?_
  refine lv_iload hx hb dX11_takesOut_3 (lv_at hl 0 rfl) ?_
  refine lv_if_le (tgt := 26) hx hb dX11_takesOut_5 (by decide) (fun _ => ?_) (fun cc => absurd (by decide +kernel) cc)
  refine lv_iload hx hb dX11_takesOut_26 (lv_at hl 0 rfl) ?_
  refine lv_iload_n hx hb dX11_takesOut_28 rfl (lv_at hl 2 rfl) ?_
  refine lv_icmp_ge (tgt := 34) hx hb dX11_takesOut_29 (by decide) (fun c_5 => ?_) (fun c_5 => ?_)
  · skip
    have c_5 := ni_le c_5 hq1 li_0
    exfalso; omega
  · skip
    have c_5 := ni_nle c_5 hq1 li_0
    refine lv_iconst (v := 0) hx hb dX11_takesOut_32 (by decide) ?_
    have hT := hT.wk (q := 1) rfl (an_J (c := k 1) (n := 4))
    have hT : TP D A [(h0, ob 8 [.int h0f0, .int h0f1, .int h0f2, .int h0f3, .int h0f4, .int h0f5, .ref h1, .ref h2, .int h0f8, .int h0f9, .ref h3, .ref h4, .ref h5, .ref h6, .ref h7, .ref h8, .ref h9, .int h0f17, .int h0f18, .int h0f19, .ref h10, .ref h11, .ref h12, .ref h13, .int h0f24, .int h0f25, .ref h14, .ref h15, .ref h16, .ref h17, .int h0f30, .int h0f31, .ref h18, .ref h19, .ref h20, .ref h21]), (h7, aJ (k 1) 4 anJ)] _ := hT
    exact tz_retZ (B := B_cX11_takesOut_3cbb8 D k h0 h7 h1 h2 h3 h4 h5 h6 h8 h9 h10 h11 h12 h13 h14 h15 h16 h17 h18 h19 h20 h21 x1 x2 x3 h0f0 h0f1 h0f2 h0f3 h0f4 h0f5 h0f8 h0f9 h0f17 h0f18 h0f19 h0f24 h0f25 h0f30 h0f31) (v := 0) hQ hx hb hr hlocks hS (Nat.le_of_ble_eq_true rfl) (Nat.le_of_ble_eq_true rfl) dX11_takesOut_33 (by have := li_0; omega) (⟨rfl, hT⟩)
abbrev Rm_cX11_factor_71296 : Room := { frames := 2, cells := 0, slots := 0, locals := 50 }
abbrev B_cX11_factor_71296 (D : va_G) (k : Nat → ClassId) (h0 h1 h4 h5 h7 h2 h3 h6 h8 h9 h10 h11 h12 h13 h14 h15 h16 h17 h18 h19 h20 h21 : Nat) (x1 : Int32) (x2 : Int32) (h0f0 : Int32) (h0f1 : Int32) (h0f2 : Int32) (h0f3 : Int32) (h0f4 : Int32) (h0f5 : Int32) (h0f8 : Int32) (h0f9 : Int32) (h0f17 : Int32) (h0f18 : Int32) (h0f19 : Int32) (h0f24 : Int32) (h0f25 : Int32) (h0f30 : Int32) (h0f31 : Int32) (A : Nat → Prop) (r : Int32) (H : Heap) : Prop := ((-1) ≤ r.toInt ∧ r.toInt ≤ 3) ∧ TP D A [(h0, ob 8 [.int h0f0, .int h0f1, .int h0f2, .int h0f3, .int h0f4, .int h0f5, .ref h1, .ref h2, .int h0f8, .int h0f9, .ref h3, .ref h4, .ref h5, .ref h6, .ref h7, .ref h8, .ref h9, .int h0f17, .int h0f18, .int h0f19, .ref h10, .ref h11, .ref h12, .ref h13, .int h0f24, .int h0f25, .ref h14, .ref h15, .ref h16, .ref h17, .int h0f30, .int h0f31, .ref h18, .ref h19, .ref h20, .ref h21]), (h1, aI (k 0) 36 anI), (h4, aJ (k 1) 9 anJ), (h5, aJ (k 1) 9 anJ), (h7, aJ (k 1) 4 anJ)] H
set_option maxHeartbeats 4000000 in
set_option maxRecDepth 100000 in
theorem cX11_factor_71296 (l : Launch) (D : va_G) (k : Nat → ClassId) (sz : Nat) (h0 h1 h4 h5 h7 h2 h3 h6 h8 h9 h10 h11 h12 h13 h14 h15 h16 h17 h18 h19 h20 h21 : Nat) (x1 : Int32) (x2 : Int32) (h0f0 : Int32) (h0f1 : Int32) (h0f2 : Int32) (h0f3 : Int32) (h0f4 : Int32) (h0f5 : Int32) (h0f8 : Int32) (h0f9 : Int32) (h0f17 : Int32) (h0f18 : Int32) (h0f19 : Int32) (h0f24 : Int32) (h0f25 : Int32) (h0f30 : Int32) (h0f31 : Int32) (b_h0f0 : 1 ≤ h0f0.toInt ∧ h0f0.toInt ≤ 3) (b_h0f1 : 0 ≤ h0f1.toInt ∧ h0f1.toInt ≤ 4) (b_h0f3 : 0 ≤ h0f3.toInt ∧ h0f3.toInt ≤ 3) (b_h0f4 : 0 ≤ h0f4.toInt ∧ h0f4.toInt ≤ 4) (b_h0f8 : 0 ≤ h0f8.toInt ∧ h0f8.toInt ≤ 1) (b_h0f9 : 0 ≤ h0f9.toInt ∧ h0f9.toInt ≤ 1) (b_h0f17 : 0 ≤ h0f17.toInt ∧ h0f17.toInt ≤ 120) (b_h0f18 : 0 ≤ h0f18.toInt ∧ h0f18.toInt ≤ 120) (b_h0f19 : 0 ≤ h0f19.toInt ∧ h0f19.toInt ≤ 4) (b_h0f24 : 0 ≤ h0f24.toInt ∧ h0f24.toInt ≤ 100) (b_h0f25 : 0 ≤ h0f25.toInt ∧ h0f25.toInt ≤ 1) (b_h0f30 : 0 ≤ h0f30.toInt ∧ h0f30.toInt ≤ 60) (b_h0f31 : 0 ≤ h0f31.toInt ∧ h0f31.toInt ≤ 1) (i_0 : h0f8.toInt ≤ h0f3.toInt) (i_1 : h0f9.toInt ≤ h0f24.toInt) : Met l yX11_factor (Cond.code yX11_factor cX11_factor 5 (some .int) :: uw) Rm_cX11_factor_71296 (pT D k sz [.ref h0, .int x1, .int x2] [(h0, ob 8 [.int h0f0, .int h0f1, .int h0f2, .int h0f3, .int h0f4, .int h0f5, .ref h1, .ref h2, .int h0f8, .int h0f9, .ref h3, .ref h4, .ref h5, .ref h6, .ref h7, .ref h8, .ref h9, .int h0f17, .int h0f18, .int h0f19, .ref h10, .ref h11, .ref h12, .ref h13, .int h0f24, .int h0f25, .ref h14, .ref h15, .ref h16, .ref h17, .int h0f30, .int h0f31, .ref h18, .ref h19, .ref h20, .ref h21]), (h1, aI (k 0) 36 anI), (h4, aJ (k 1) 9 anJ), (h5, aJ (k 1) 9 anJ), (h7, aJ (k 1) 4 anJ)]) (qI (B_cX11_factor_71296 D k h0 h1 h4 h5 h7 h2 h3 h6 h8 h9 h10 h11 h12 h13 h14 h15 h16 h17 h18 h19 h20 h21 x1 x2 h0f0 h0f1 h0f2 h0f3 h0f4 h0f5 h0f8 h0f9 h0f17 h0f18 h0f19 h0f24 h0f25 h0f30 h0f31 (zA [h0, h1, h4, h5, h7] sz)) (zA [h0, h1, h4, h5, h7] sz)) 0 0 (zA [h0, h1, h4, h5, h7] sz) := by
  refine tz_begin (as := [h0, h1, h4, h5, h7]) (Qc := fun A => qI (B_cX11_factor_71296 D k h0 h1 h4 h5 h7 h2 h3 h6 h8 h9 h10 h11 h12 h13 h14 h15 h16 h17 h18 h19 h20 h21 x1 x2 h0f0 h0f1 h0f2 h0f3 h0f4 h0f5 h0f8 h0f9 h0f17 h0f18 h0f19 h0f24 h0f25 h0f30 h0f31 A) A) (by decide +kernel) rfl (Nat.le_of_ble_eq_true rfl) ?_
  intro p e s m args below meth c ls A Q hx hb hr hml hown hlocks hin hU hK hT hS hA hl hQ
  have hl : lv_has ls 5 [(0, .ref h0), (1, .int x1), (2, .int x2)] := hl
  have hT : TP D A [(h0, ob 8 [.int h0f0, .int h0f1, .int h0f2, .int h0f3, .int h0f4, .int h0f5, .ref h1, .ref h2, .int h0f8, .int h0f9, .ref h3, .ref h4, .ref h5, .ref h6, .ref h7, .ref h8, .ref h9, .int h0f17, .int h0f18, .int h0f19, .ref h10, .ref h11, .ref h12, .ref h13, .int h0f24, .int h0f25, .ref h14, .ref h15, .ref h16, .ref h17, .int h0f30, .int h0f31, .ref h18, .ref h19, .ref h20, .ref h21]), (h1, aI (k 0) 36 anI), (h4, aJ (k 1) 9 anJ), (h5, aJ (k 1) 9 anJ), (h7, aJ (k 1) 4 anJ)] s.heap := hT
  refine lv_aload_n hx hb dX11_factor_0 rfl (lv_at hl 0 rfl) ?_
  refine lv_iload_n hx hb dX11_factor_1 rfl (lv_at hl 1 rfl) ?_
  refine tcI (Tc := [(h0, ob 8 [.int h0f0, .int h0f1, .int h0f2, .int h0f3, .int h0f4, .int h0f5, .ref h1, .ref h2, .int h0f8, .int h0f9, .ref h3, .ref h4, .ref h5, .ref h6, .ref h7, .ref h8, .ref h9, .int h0f17, .int h0f18, .int h0f19, .ref h10, .ref h11, .ref h12, .ref h13, .int h0f24, .int h0f25, .ref h14, .ref h15, .ref h16, .ref h17, .int h0f30, .int h0f31, .ref h18, .ref h19, .ref h20, .ref h21])]) (Tr := [(h1, aI (k 0) 36 anI), (h4, aJ (k 1) 9 anJ), (h5, aJ (k 1) 9 anJ), (h7, aJ (k 1) 4 anJ)]) (as := [h0]) (zcV (q0 := 0) (ci := 8) (As := [.int x1]) (rest := []) (Tc := [(h0, ob 8 [.int h0f0, .int h0f1, .int h0f2, .int h0f3, .int h0f4, .int h0f5, .ref h1, .ref h2, .int h0f8, .int h0f9, .ref h3, .ref h4, .ref h5, .ref h6, .ref h7, .ref h8, .ref h9, .int h0f17, .int h0f18, .int h0f19, .ref h10, .ref h11, .ref h12, .ref h13, .int h0f24, .int h0f25, .ref h14, .ref h15, .ref h16, .ref h17, .int h0f30, .int h0f31, .ref h18, .ref h19, .ref h20, .ref h21])]) hx hb hml hown hU hK hT rfl rfl [0] rfl (by decide) (cX11_isGen_669e6 l D k _ h0 h1 h2 h3 h4 h5 h6 h7 h8 h9 h10 h11 h12 h13 h14 h15 h16 h17 h18 h19 h20 h21 x1 h0f0 h0f1 h0f2 h0f3 h0f4 h0f5 h0f8 h0f9 h0f17 h0f18 h0f19 h0f24 h0f25 h0f30 h0f31 (by omega) (by omega) (by omega) (by omega) (by omega) (by omega) (by omega) (by omega) (by omega) (by omega) (by omega) (by omega) (by omega) (by omega) (by omega)) w935 w932 w934 w31 w72 hdX11_isGen ⟨rfl, rfl⟩ ⟨Nat.le_of_ble_eq_true rfl, Nat.le_of_ble_eq_true rfl⟩ rfl hl.1 (Nat.le_of_ble_eq_true rfl) dX11_factor_2 ⟨Nat.le_of_ble_eq_true rfl, Nat.le_of_ble_eq_true rfl⟩) hT hS hA [0] [1, 2, 3, 4] rfl rfl rfl (by decide) (by decide) (fun r1 H locs hB J hS => ?_)
  rcases hB with ⟨rfl, hT1⟩ | ⟨c_2, c_3, c_4, c_5, rfl, hT1⟩
  · skip
    have hT := J _ hT1
    have hT : TP D A [(h1, aI (k 0) 36 anI), (h4, aJ (k 1) 9 anJ), (h5, aJ (k 1) 9 anJ), (h7, aJ (k 1) 4 anJ), (h0, ob 8 [.int h0f0, .int h0f1, .int h0f2, .int h0f3, .int h0f4, .int h0f5, .ref h1, .ref h2, .int h0f8, .int h0f9, .ref h3, .ref h4, .ref h5, .ref h6, .ref h7, .ref h8, .ref h9, .int h0f17, .int h0f18, .int h0f19, .ref h10, .ref h11, .ref h12, .ref h13, .int h0f24, .int h0f25, .ref h14, .ref h15, .ref h16, .ref h17, .int h0f30, .int h0f31, .ref h18, .ref h19, .ref h20, .ref h21])] _ := hT
    refine lv_if_eq (tgt := 24) hx hb dX11_factor_5 (by decide) (fun _ => ?_) (fun cc => absurd (by decide +kernel) cc)
    refine lv_iconst (v := (-1)) hx hb dX11_factor_24 (by decide) ?_
    exact tz_retI (B := B_cX11_factor_71296 D k h0 h1 h4 h5 h7 h2 h3 h6 h8 h9 h10 h11 h12 h13 h14 h15 h16 h17 h18 h19 h20 h21 x1 x2 h0f0 h0f1 h0f2 h0f3 h0f4 h0f5 h0f8 h0f9 h0f17 h0f18 h0f19 h0f24 h0f25 h0f30 h0f31) (v := (-1)) hQ hx hb hr hlocks hS (Nat.le_of_ble_eq_true rfl) (Nat.le_of_ble_eq_true rfl) dX11_factor_25 (⟨(by have := li_m1; omega), (hT.sub [4, 0, 1, 2, 3] (by decide) rfl)⟩)
  · skip
    have hT := J _ hT1
    have hT : TP D A [(h1, aI (k 0) 36 anI), (h4, aJ (k 1) 9 anJ), (h5, aJ (k 1) 9 anJ), (h7, aJ (k 1) 4 anJ), (h0, ob 8 [.int h0f0, .int h0f1, .int h0f2, .int h0f3, .int h0f4, .int h0f5, .ref h1, .ref h2, .int h0f8, .int h0f9, .ref h3, .ref h4, .ref h5, .ref h6, .ref h7, .ref h8, .ref h9, .int h0f17, .int h0f18, .int h0f19, .ref h10, .ref h11, .ref h12, .ref h13, .int h0f24, .int h0f25, .ref h14, .ref h15, .ref h16, .ref h17, .int h0f30, .int h0f31, .ref h18, .ref h19, .ref h20, .ref h21])] _ := hT
    refine lv_if_eq (tgt := 24) hx hb dX11_factor_5 (by decide) (fun cc => absurd cc (by decide +kernel)) (fun _ => ?_)
    refine lv_iload_n hx hb dX11_factor_8 rfl (lv_at hl 2 rfl) ?_
    refine lv_iconst (v := 1) hx hb dX11_factor_9 (by decide) ?_
    refine lv_icmp_lt (tgt := 24) hx hb dX11_factor_10 (by decide) (fun c_6 => ?_) (fun c_6 => ?_)
    · skip
      have c_6 := ni_lt c_6 rfl li_1
      refine lv_iconst (v := (-1)) hx hb dX11_factor_24 (by decide) ?_
      exact tz_retI (B := B_cX11_factor_71296 D k h0 h1 h4 h5 h7 h2 h3 h6 h8 h9 h10 h11 h12 h13 h14 h15 h16 h17 h18 h19 h20 h21 x1 x2 h0f0 h0f1 h0f2 h0f3 h0f4 h0f5 h0f8 h0f9 h0f17 h0f18 h0f19 h0f24 h0f25 h0f30 h0f31) (v := (-1)) hQ hx hb hr hlocks hS (Nat.le_of_ble_eq_true rfl) (Nat.le_of_ble_eq_true rfl) dX11_factor_25 (⟨(by have := li_m1; omega), (hT.sub [4, 0, 1, 2, 3] (by decide) rfl)⟩)
    · skip
      have c_6 := ni_nlt c_6 rfl li_1
      refine lv_iload_n hx hb dX11_factor_13 rfl (lv_at hl 2 rfl) ?_
      refine lv_iconst (v := 5) hx hb dX11_factor_14 (by decide) ?_
      refine lv_icmp_eq (tgt := 24) hx hb dX11_factor_15 (by decide) (fun c_7 => ?_) (fun c_7 => ?_)
      · skip
        have c_7 := ni_eq c_7 rfl li_5
        refine lv_iconst (v := (-1)) hx hb dX11_factor_24 (by decide) ?_
        exact tz_retI (B := B_cX11_factor_71296 D k h0 h1 h4 h5 h7 h2 h3 h6 h8 h9 h10 h11 h12 h13 h14 h15 h16 h17 h18 h19 h20 h21 x1 x2 h0f0 h0f1 h0f2 h0f3 h0f4 h0f5 h0f8 h0f9 h0f17 h0f18 h0f19 h0f24 h0f25 h0f30 h0f31) (v := (-1)) hQ hx hb hr hlocks hS (Nat.le_of_ble_eq_true rfl) (Nat.le_of_ble_eq_true rfl) dX11_factor_25 (⟨(by have := li_m1; omega), (hT.sub [4, 0, 1, 2, 3] (by decide) rfl)⟩)
      · skip
        have c_7 := ni_ne c_7 rfl li_5
        refine lv_iload_n hx hb dX11_factor_18 rfl (lv_at hl 2 rfl) ?_
        refine lv_bipush (v := 6) hx hb dX11_factor_19 (by decide) ?_
        refine lv_icmp_le (tgt := 26) hx hb dX11_factor_21 (by decide) (fun c_8 => ?_) (fun c_8 => ?_)
        · skip
          have c_8 := ni_le c_8 rfl li_6
          refine lv_aload_n hx hb dX11_factor_26 rfl (lv_at hl 0 rfl) ?_
          refine lv_iload_n hx hb dX11_factor_27 rfl (lv_at hl 1 rfl) ?_
          refine tcV (Tc := [(h0, ob 8 [.int h0f0, .int h0f1, .int h0f2, .int h0f3, .int h0f4, .int h0f5, .ref h1, .ref h2, .int h0f8, .int h0f9, .ref h3, .ref h4, .ref h5, .ref h6, .ref h7, .ref h8, .ref h9, .int h0f17, .int h0f18, .int h0f19, .ref h10, .ref h11, .ref h12, .ref h13, .int h0f24, .int h0f25, .ref h14, .ref h15, .ref h16, .ref h17, .int h0f30, .int h0f31, .ref h18, .ref h19, .ref h20, .ref h21]), (h1, aI (k 0) 36 anI), (h4, aJ (k 1) 9 anJ), (h7, aJ (k 1) 4 anJ)]) (Tr := [(h5, aJ (k 1) 9 anJ)]) (as := [h0, h1, h4, h7]) (zcV (q0 := 4) (ci := 8) (As := [.int x1]) (rest := []) (Tc := [(h0, ob 8 [.int h0f0, .int h0f1, .int h0f2, .int h0f3, .int h0f4, .int h0f5, .ref h1, .ref h2, .int h0f8, .int h0f9, .ref h3, .ref h4, .ref h5, .ref h6, .ref h7, .ref h8, .ref h9, .int h0f17, .int h0f18, .int h0f19, .ref h10, .ref h11, .ref h12, .ref h13, .int h0f24, .int h0f25, .ref h14, .ref h15, .ref h16, .ref h17, .int h0f30, .int h0f31, .ref h18, .ref h19, .ref h20, .ref h21]), (h1, aI (k 0) 36 anI), (h4, aJ (k 1) 9 anJ), (h7, aJ (k 1) 4 anJ)]) hx hb hml hown hU hK hT rfl rfl [4, 0, 1, 3] rfl (by decide) (cX11_finds_682f6 l D k _ h0 h1 h4 h7 h2 h3 h5 h6 h8 h9 h10 h11 h12 h13 h14 h15 h16 h17 h18 h19 h20 h21 x1 h0f0 h0f1 h0f2 h0f3 h0f4 h0f5 h0f8 h0f9 h0f17 h0f18 h0f19 h0f24 h0f25 h0f30 h0f31 (by omega) (by omega) (by omega) (by omega) (by omega) (by omega) (by omega) (by omega) (by omega) (by omega) (by omega) (by omega) (by omega) (by omega) (by omega) (by omega)) w990 w987 w989 w40 w72 hdX11_finds ⟨rfl, rfl⟩ ⟨Nat.le_of_ble_eq_true rfl, Nat.le_of_ble_eq_true rfl⟩ rfl hl.1 (Nat.le_of_ble_eq_true rfl) dX11_factor_28 ⟨Nat.le_of_ble_eq_true rfl, Nat.le_of_ble_eq_true rfl⟩) hT hS hA [4, 0, 1, 3] [2] rfl rfl rfl (by decide) (by decide) (fun H locs hB J hS => ?_)
          have hT1 := hB
          have hT := J _ hT1
          have hT : TP D A [(h5, aJ (k 1) 9 anJ), (h0, ob 8 [.int h0f0, .int h0f1, .int h0f2, .int h0f3, .int h0f4, .int h0f5, .ref h1, .ref h2, .int h0f8, .int h0f9, .ref h3, .ref h4, .ref h5, .ref h6, .ref h7, .ref h8, .ref h9, .int h0f17, .int h0f18, .int h0f19, .ref h10, .ref h11, .ref h12, .ref h13, .int h0f24, .int h0f25, .ref h14, .ref h15, .ref h16, .ref h17, .int h0f30, .int h0f31, .ref h18, .ref h19, .ref h20, .ref h21]), (h1, aI (k 0) 36 anI), (h4, aJ (k 1) 9 anJ), (h7, aJ (k 1) 4 anJ)] _ := hT
          refine lv_iconst (v := 0) hx hb dX11_factor_31 (by decide) ?_
          refine lv_istore_n (lv' := [(3, .int 0), (0, .ref h0), (1, .int x1), (2, .int x2)]) hx hb dX11_factor_32 rfl hl (by decide) rfl (fun ls hl => ?_)
          refine lv_iload_n hx hb dX11_factor_33 rfl (lv_at hl 3 rfl) ?_
          refine lv_iconst (v := 3) hx hb dX11_factor_34 (by decide) ?_
          refine lv_icmp_ge (tgt := 42) hx hb dX11_factor_35 (by decide) (fun c_10 => ?_) (fun c_10 => ?_)
          · skip
            have c_10 := ni_le c_10 li_3 rfl
            refine lv_iconst (v := 2) hx hb dX11_factor_42 (by decide) ?_
            refine lv_istore (lv' := [(4, .int 2), (3, .int 0), (0, .ref h0), (1, .int x1), (2, .int x2)]) hx hb dX11_factor_43 hl (by decide) rfl (fun ls hl => ?_)
            refine lv_aload_n hx hb dX11_factor_45 rfl (lv_at hl 2 rfl) ?_
            refine lv_iload hx hb dX11_factor_46 (lv_at hl 0 rfl) ?_
            refine lv_iload_n hx hb dX11_factor_48 rfl (lv_at hl 4 rfl) ?_
            refine lv_iconst (v := 1) hx hb dX11_factor_49 (by decide) ?_
            refine lv_icmp_ne (tgt := 57) hx hb dX11_factor_50 (by decide) (fun c_11 => ?_) (fun c_11 => ?_)
            · skip
              have c_11 := ni_ne c_11 rfl li_1
              refine lv_iconst (v := 1) hx hb dX11_factor_57 (by decide) ?_
              refine lv_iload_n hx hb dX11_factor_58 rfl (lv_at hl 4 rfl) ?_
              refine lv_iconst (v := 3) hx hb dX11_factor_59 (by decide) ?_
              refine lv_icmp_ne (tgt := 67) hx hb dX11_factor_60 (by decide) (fun c_12 => ?_) (fun c_12 => ?_)
              · skip
                have c_12 := ni_ne c_12 rfl li_3
                refine lv_iload_n hx hb dX11_factor_67 rfl (lv_at hl 4 rfl) ?_
                refine lv_bipush (v := 6) hx hb dX11_factor_68 (by decide) ?_
                refine lv_icmp_ne (tgt := 77) hx hb dX11_factor_70 (by decide) (fun c_13 => ?_) (fun c_13 => ?_)
                · skip
                  have c_13 := ni_ne c_13 rfl li_6
                  refine lv_iconst (v := 0) hx hb dX11_factor_77 (by decide) ?_
                  have q_q15 := li_2
                  have q_q16 := li_1
                  have q_q17 := li_0
                  refine tcI (Tc := [(h0, ob 8 [.int h0f0, .int h0f1, .int h0f2, .int h0f3, .int h0f4, .int h0f5, .ref h1, .ref h2, .int h0f8, .int h0f9, .ref h3, .ref h4, .ref h5, .ref h6, .ref h7, .ref h8, .ref h9, .int h0f17, .int h0f18, .int h0f19, .ref h10, .ref h11, .ref h12, .ref h13, .int h0f24, .int h0f25, .ref h14, .ref h15, .ref h16, .ref h17, .int h0f30, .int h0f31, .ref h18, .ref h19, .ref h20, .ref h21]), (h4, aJ (k 1) 9 anJ), (h5, aJ (k 1) 9 anJ), (h7, aJ (k 1) 4 anJ)]) (Tr := [(h1, aI (k 0) 36 anI)]) (as := [h0, h4, h5, h7]) (zcV (q0 := 1) (ci := 8) (As := [.int 2, .int 1, .int 0]) (rest := []) (Tc := [(h0, ob 8 [.int h0f0, .int h0f1, .int h0f2, .int h0f3, .int h0f4, .int h0f5, .ref h1, .ref h2, .int h0f8, .int h0f9, .ref h3, .ref h4, .ref h5, .ref h6, .ref h7, .ref h8, .ref h9, .int h0f17, .int h0f18, .int h0f19, .ref h10, .ref h11, .ref h12, .ref h13, .int h0f24, .int h0f25, .ref h14, .ref h15, .ref h16, .ref h17, .int h0f30, .int h0f31, .ref h18, .ref h19, .ref h20, .ref h21]), (h4, aJ (k 1) 9 anJ), (h5, aJ (k 1) 9 anJ), (h7, aJ (k 1) 4 anJ)]) hx hb hml hown hU hK hT rfl rfl [1, 3, 0, 4] rfl (by decide) (cX11_takesOut_ae7df l D k _ h0 h4 h5 h7 h1 h2 h3 h6 h8 h9 h10 h11 h12 h13 h14 h15 h16 h17 h18 h19 h20 h21 (2) (1) (0) h0f0 h0f1 h0f2 h0f3 h0f4 h0f5 h0f8 h0f9 h0f17 h0f18 h0f19 h0f24 h0f25 h0f30 h0f31 (by have := li_2; omega) (by have := li_1; omega) (by have := li_0; omega) (by omega) (by omega) (by omega) (by omega) (by omega) (by omega) (by omega) (by omega) (by omega) (by omega) (by omega) (by omega) (by omega) (by have := li_2; have := li_1; have := li_0; omega) (by have := li_2; have := li_1; have := li_0; omega)) w999 w996 w998 w41 w72 hdX11_takesOut ⟨rfl, rfl⟩ ⟨Nat.le_of_ble_eq_true rfl, Nat.le_of_ble_eq_true rfl⟩ rfl hl.1 (Nat.le_of_ble_eq_true rfl) dX11_factor_78 ⟨Nat.le_of_ble_eq_true rfl, Nat.le_of_ble_eq_true rfl⟩) hT hS hA [1, 3, 0, 4] [2] rfl rfl rfl (by decide) (by decide) (fun r14 H locs hB J hS => ?_)
                  rcases hB with ⟨rfl, hT1⟩ | ⟨v18, v19, b_v19, c_20, c_21, c_22, c_23, c_24, c_25, c_26, c_27, c_28, c_29, rfl, hT1⟩ | ⟨v30, v31, v32, b_v30, b_v32, c_33, c_34, c_35, c_36, c_37, c_38, c_39, c_40, c_41, c_42, rfl, hT1⟩ | ⟨v43, v44, v45, v46, b_v43, b_v44, b_v46, c_47, c_48, c_49, c_50, c_51, c_52, c_53, c_54, c_55, c_56, rfl, hT1⟩ | ⟨v57, v58, v59, b_v58, b_v59, c_60, c_61, c_62, c_63, c_64, c_65, c_66, c_67, c_68, rfl, hT1⟩ | ⟨v69, v70, v71, v72, b_v69, b_v71, b_v72, c_73, c_74, c_75, c_76, c_77, c_78, c_79, c_80, c_81, rfl, hT1⟩
                  · skip
                    have hT := J _ hT1
                    have hT : TP D A [(h1, aI (k 0) 36 anI), (h0, ob 8 [.int h0f0, .int h0f1, .int h0f2, .int h0f3, .int h0f4, .int h0f5, .ref h1, .ref h2, .int h0f8, .int h0f9, .ref h3, .ref h4, .ref h5, .ref h6, .ref h7, .ref h8, .ref h9, .int h0f17, .int h0f18, .int h0f19, .ref h10, .ref h11, .ref h12, .ref h13, .int h0f24, .int h0f25, .ref h14, .ref h15, .ref h16, .ref h17, .int h0f30, .int h0f31, .ref h18, .ref h19, .ref h20, .ref h21]), (h4, aJ (k 1) 9 anJ), (h5, aJ (k 1) 9 anJ), (h7, aJ (k 1) 4 anJ)] _ := hT
                    refine lv_if_eq (tgt := 90) hx hb dX11_factor_81 (by decide) (fun _ => ?_) (fun cc => absurd (by decide +kernel) cc)
                    refine lv_iload_n hx hb dX11_factor_90 rfl (lv_at hl 1 rfl) ?_
                    exact tz_retI (B := B_cX11_factor_71296 D k h0 h1 h4 h5 h7 h2 h3 h6 h8 h9 h10 h11 h12 h13 h14 h15 h16 h17 h18 h19 h20 h21 x1 x2 h0f0 h0f1 h0f2 h0f3 h0f4 h0f5 h0f8 h0f9 h0f17 h0f18 h0f19 h0f24 h0f25 h0f30 h0f31) (v := 0) hQ hx hb hr hlocks hS (Nat.le_of_ble_eq_true rfl) (Nat.le_of_ble_eq_true rfl) dX11_factor_91 (⟨(by have := li_0; omega), (hT.sub [1, 0, 2, 3, 4] (by decide) rfl)⟩)
                  · skip
                    have hT := J _ hT1
                    have hT : TP D A [(h1, aI (k 0) 36 anI), (h0, ob 8 [.int h0f0, .int h0f1, .int h0f2, .int h0f3, .int h0f4, .int h0f5, .ref h1, .ref h2, .int h0f8, .int h0f9, .ref h3, .ref h4, .ref h5, .ref h6, .ref h7, .ref h8, .ref h9, .int h0f17, .int h0f18, .int h0f19, .ref h10, .ref h11, .ref h12, .ref h13, .int h0f24, .int h0f25, .ref h14, .ref h15, .ref h16, .ref h17, .int h0f30, .int h0f31, .ref h18, .ref h19, .ref h20, .ref h21]), (h4, aJ (k 1) 9 anJ), (h5, aJ (k 1) 9 anJ), (h7, aJ (k 1) 4 (zJ [3]))] _ := hT
                    exfalso; omega
                  · skip
                    have hT := J _ hT1
                    have hT : TP D A [(h1, aI (k 0) 36 anI), (h0, ob 8 [.int h0f0, .int h0f1, .int h0f2, .int h0f3, .int h0f4, .int h0f5, .ref h1, .ref h2, .int h0f8, .int h0f9, .ref h3, .ref h4, .ref h5, .ref h6, .ref h7, .ref h8, .ref h9, .int h0f17, .int h0f18, .int h0f19, .ref h10, .ref h11, .ref h12, .ref h13, .int h0f24, .int h0f25, .ref h14, .ref h15, .ref h16, .ref h17, .int h0f30, .int h0f31, .ref h18, .ref h19, .ref h20, .ref h21]), (h4, aJ (k 1) 9 anJ), (h5, aJ (k 1) 9 anJ), (h7, aJ (k 1) 4 (zJ [3]))] _ := hT
                    exfalso; omega
                  · skip
                    have hT := J _ hT1
                    have hT : TP D A [(h1, aI (k 0) 36 anI), (h0, ob 8 [.int h0f0, .int h0f1, .int h0f2, .int h0f3, .int h0f4, .int h0f5, .ref h1, .ref h2, .int h0f8, .int h0f9, .ref h3, .ref h4, .ref h5, .ref h6, .ref h7, .ref h8, .ref h9, .int h0f17, .int h0f18, .int h0f19, .ref h10, .ref h11, .ref h12, .ref h13, .int h0f24, .int h0f25, .ref h14, .ref h15, .ref h16, .ref h17, .int h0f30, .int h0f31, .ref h18, .ref h19, .ref h20, .ref h21]), (h4, aJ (k 1) 9 anJ), (h5, aJ (k 1) 9 anJ), (h7, aJ (k 1) 4 (zJ [3]))] _ := hT
                    exfalso; omega
                  · skip
                    have hT := J _ hT1
                    have hT : TP D A [(h1, aI (k 0) 36 anI), (h0, ob 8 [.int h0f0, .int h0f1, .int h0f2, .int h0f3, .int h0f4, .int h0f5, .ref h1, .ref h2, .int h0f8, .int h0f9, .ref h3, .ref h4, .ref h5, .ref h6, .ref h7, .ref h8, .ref h9, .int h0f17, .int h0f18, .int h0f19, .ref h10, .ref h11, .ref h12, .ref h13, .int h0f24, .int h0f25, .ref h14, .ref h15, .ref h16, .ref h17, .int h0f30, .int h0f31, .ref h18, .ref h19, .ref h20, .ref h21]), (h4, aJ (k 1) 9 anJ), (h5, aJ (k 1) 9 anJ), (h7, aJ (k 1) 4 (zJ [3]))] _ := hT
                    refine lv_if_eq (tgt := 90) hx hb dX11_factor_81 (by decide) (fun cc => absurd cc (by decide +kernel)) (fun _ => ?_)
                    refine lv_iinc (v := 1) (lv' := [(3, .int 1), (4, .int 2), (0, .ref h0), (1, .int x1), (2, .int x2)]) hx hb dX11_factor_84 hl (k := 1) rfl (by decide) (by decide) rfl (fun ls hl => ?_)
                    refine lv_goto (tgt := 45) hx hb dX11_factor_87 (by decide) ?_
                    refine lv_aload_n hx hb dX11_factor_45 rfl (lv_at hl 2 rfl) ?_
                    refine lv_iload hx hb dX11_factor_46 (lv_at hl 1 rfl) ?_
                    refine lv_iload_n hx hb dX11_factor_48 rfl (lv_at hl 4 rfl) ?_
                    refine lv_iconst (v := 1) hx hb dX11_factor_49 (by decide) ?_
                    refine lv_icmp_ne (tgt := 57) hx hb dX11_factor_50 (by decide) (fun c_82 => ?_) (fun c_82 => ?_)
                    · skip
                      have c_82 := ni_ne c_82 rfl li_1
                      refine lv_iconst (v := 1) hx hb dX11_factor_57 (by decide) ?_
                      refine lv_iload_n hx hb dX11_factor_58 rfl (lv_at hl 4 rfl) ?_
                      refine lv_iconst (v := 3) hx hb dX11_factor_59 (by decide) ?_
                      refine lv_icmp_ne (tgt := 67) hx hb dX11_factor_60 (by decide) (fun c_83 => ?_) (fun c_83 => ?_)
                      · skip
                        have c_83 := ni_ne c_83 rfl li_3
                        refine lv_iload_n hx hb dX11_factor_67 rfl (lv_at hl 4 rfl) ?_
                        refine lv_bipush (v := 6) hx hb dX11_factor_68 (by decide) ?_
                        refine lv_icmp_ne (tgt := 77) hx hb dX11_factor_70 (by decide) (fun c_84 => ?_) (fun c_84 => ?_)
                        · skip
                          have c_84 := ni_ne c_84 rfl li_6
                          refine lv_iconst (v := 0) hx hb dX11_factor_77 (by decide) ?_
                          have q_q86 := li_2
                          have q_q87 := li_1
                          have q_q88 := li_0
                          refine tcI (Tc := [(h0, ob 8 [.int h0f0, .int h0f1, .int h0f2, .int h0f3, .int h0f4, .int h0f5, .ref h1, .ref h2, .int h0f8, .int h0f9, .ref h3, .ref h4, .ref h5, .ref h6, .ref h7, .ref h8, .ref h9, .int h0f17, .int h0f18, .int h0f19, .ref h10, .ref h11, .ref h12, .ref h13, .int h0f24, .int h0f25, .ref h14, .ref h15, .ref h16, .ref h17, .int h0f30, .int h0f31, .ref h18, .ref h19, .ref h20, .ref h21]), (h4, aJ (k 1) 9 anJ), (h5, aJ (k 1) 9 anJ), (h7, aJ (k 1) 4 (zJ [3]))]) (Tr := [(h1, aI (k 0) 36 anI)]) (as := [h0, h4, h5, h7]) (zcV (q0 := 1) (ci := 8) (As := [.int 2, .int 1, .int 0]) (rest := []) (Tc := [(h0, ob 8 [.int h0f0, .int h0f1, .int h0f2, .int h0f3, .int h0f4, .int h0f5, .ref h1, .ref h2, .int h0f8, .int h0f9, .ref h3, .ref h4, .ref h5, .ref h6, .ref h7, .ref h8, .ref h9, .int h0f17, .int h0f18, .int h0f19, .ref h10, .ref h11, .ref h12, .ref h13, .int h0f24, .int h0f25, .ref h14, .ref h15, .ref h16, .ref h17, .int h0f30, .int h0f31, .ref h18, .ref h19, .ref h20, .ref h21]), (h4, aJ (k 1) 9 anJ), (h5, aJ (k 1) 9 anJ), (h7, aJ (k 1) 4 (zJ [3]))]) hx hb hml hown hU hK hT rfl rfl [1, 2, 3, 4] rfl (by decide) (cX11_takesOut_a13ae l D k _ h0 h4 h5 h7 h1 h2 h3 h6 h8 h9 h10 h11 h12 h13 h14 h15 h16 h17 h18 h19 h20 h21 (2) (1) (0) h0f0 h0f1 h0f2 h0f3 h0f4 h0f5 h0f8 h0f9 h0f17 h0f18 h0f19 h0f24 h0f25 h0f30 h0f31 (by have := li_2; omega) (by have := li_1; omega) (by have := li_0; omega) (by omega) (by omega) (by omega) (by omega) (by omega) (by omega) (by omega) (by omega) (by omega) (by omega) (by omega) (by omega) (by omega) (by have := li_2; have := li_1; have := li_0; omega) (by have := li_2; have := li_1; have := li_0; omega)) w999 w996 w998 w41 w72 hdX11_takesOut ⟨rfl, rfl⟩ ⟨Nat.le_of_ble_eq_true rfl, Nat.le_of_ble_eq_true rfl⟩ rfl hl.1 (Nat.le_of_ble_eq_true rfl) dX11_factor_78 ⟨Nat.le_of_ble_eq_true rfl, Nat.le_of_ble_eq_true rfl⟩) hT hS hA [1, 2, 3, 4] [0] rfl rfl rfl (by decide) (by decide) (fun r85 H locs hB J hS => ?_)
                          rcases hB with ⟨rfl, hT1⟩ | ⟨v89, v90, b_v90, c_91, c_92, c_93, c_94, c_95, c_96, c_97, c_98, c_99, rfl, hT1⟩ | ⟨v100, v101, v102, b_v100, b_v102, c_103, c_104, c_105, c_106, c_107, c_108, c_109, c_110, c_111, rfl, hT1⟩ | ⟨v112, v113, v114, b_v113, b_v114, c_115, c_116, c_117, c_118, c_119, c_120, c_121, c_122, rfl, hT1⟩
                          · skip
                            have hT := J _ hT1
                            have hT : TP D A [(h1, aI (k 0) 36 anI), (h0, ob 8 [.int h0f0, .int h0f1, .int h0f2, .int h0f3, .int h0f4, .int h0f5, .ref h1, .ref h2, .int h0f8, .int h0f9, .ref h3, .ref h4, .ref h5, .ref h6, .ref h7, .ref h8, .ref h9, .int h0f17, .int h0f18, .int h0f19, .ref h10, .ref h11, .ref h12, .ref h13, .int h0f24, .int h0f25, .ref h14, .ref h15, .ref h16, .ref h17, .int h0f30, .int h0f31, .ref h18, .ref h19, .ref h20, .ref h21]), (h4, aJ (k 1) 9 anJ), (h5, aJ (k 1) 9 anJ), (h7, aJ (k 1) 4 anJ)] _ := hT
                            refine lv_if_eq (tgt := 90) hx hb dX11_factor_81 (by decide) (fun _ => ?_) (fun cc => absurd (by decide +kernel) cc)
                            refine lv_iload_n hx hb dX11_factor_90 rfl (lv_at hl 0 rfl) ?_
                            exact tz_retI (B := B_cX11_factor_71296 D k h0 h1 h4 h5 h7 h2 h3 h6 h8 h9 h10 h11 h12 h13 h14 h15 h16 h17 h18 h19 h20 h21 x1 x2 h0f0 h0f1 h0f2 h0f3 h0f4 h0f5 h0f8 h0f9 h0f17 h0f18 h0f19 h0f24 h0f25 h0f30 h0f31) (v := 1) hQ hx hb hr hlocks hS (Nat.le_of_ble_eq_true rfl) (Nat.le_of_ble_eq_true rfl) dX11_factor_91 (⟨(by have := li_1; omega), (hT.sub [1, 0, 2, 3, 4] (by decide) rfl)⟩)
                          · skip
                            have hT := J _ hT1
                            have hT : TP D A [(h1, aI (k 0) 36 anI), (h0, ob 8 [.int h0f0, .int h0f1, .int h0f2, .int h0f3, .int h0f4, .int h0f5, .ref h1, .ref h2, .int h0f8, .int h0f9, .ref h3, .ref h4, .ref h5, .ref h6, .ref h7, .ref h8, .ref h9, .int h0f17, .int h0f18, .int h0f19, .ref h10, .ref h11, .ref h12, .ref h13, .int h0f24, .int h0f25, .ref h14, .ref h15, .ref h16, .ref h17, .int h0f30, .int h0f31, .ref h18, .ref h19, .ref h20, .ref h21]), (h4, aJ (k 1) 9 anJ), (h5, aJ (k 1) 9 anJ), (h7, aJ (k 1) 4 (zJ [2, 3]))] _ := hT
                            exfalso; omega
                          · skip
                            have hT := J _ hT1
                            have hT : TP D A [(h1, aI (k 0) 36 anI), (h0, ob 8 [.int h0f0, .int h0f1, .int h0f2, .int h0f3, .int h0f4, .int h0f5, .ref h1, .ref h2, .int h0f8, .int h0f9, .ref h3, .ref h4, .ref h5, .ref h6, .ref h7, .ref h8, .ref h9, .int h0f17, .int h0f18, .int h0f19, .ref h10, .ref h11, .ref h12, .ref h13, .int h0f24, .int h0f25, .ref h14, .ref h15, .ref h16, .ref h17, .int h0f30, .int h0f31, .ref h18, .ref h19, .ref h20, .ref h21]), (h4, aJ (k 1) 9 anJ), (h5, aJ (k 1) 9 anJ), (h7, aJ (k 1) 4 (zJ [2, 3]))] _ := hT
                            exfalso; omega
                          · skip
                            have hT := J _ hT1
                            have hT : TP D A [(h1, aI (k 0) 36 anI), (h0, ob 8 [.int h0f0, .int h0f1, .int h0f2, .int h0f3, .int h0f4, .int h0f5, .ref h1, .ref h2, .int h0f8, .int h0f9, .ref h3, .ref h4, .ref h5, .ref h6, .ref h7, .ref h8, .ref h9, .int h0f17, .int h0f18, .int h0f19, .ref h10, .ref h11, .ref h12, .ref h13, .int h0f24, .int h0f25, .ref h14, .ref h15, .ref h16, .ref h17, .int h0f30, .int h0f31, .ref h18, .ref h19, .ref h20, .ref h21]), (h4, aJ (k 1) 9 anJ), (h5, aJ (k 1) 9 anJ), (h7, aJ (k 1) 4 (zJ [2, 3]))] _ := hT
                            refine lv_if_eq (tgt := 90) hx hb dX11_factor_81 (by decide) (fun cc => absurd cc (by decide +kernel)) (fun _ => ?_)
                            refine lv_iinc (v := 2) (lv' := [(3, .int 2), (4, .int 2), (0, .ref h0), (1, .int x1), (2, .int x2)]) hx hb dX11_factor_84 hl (k := 0) rfl (by decide) (by decide) rfl (fun ls hl => ?_)
                            refine lv_goto (tgt := 45) hx hb dX11_factor_87 (by decide) ?_
                            refine lv_aload_n hx hb dX11_factor_45 rfl (lv_at hl 2 rfl) ?_
                            refine lv_iload hx hb dX11_factor_46 (lv_at hl 1 rfl) ?_
                            refine lv_iload_n hx hb dX11_factor_48 rfl (lv_at hl 4 rfl) ?_
                            refine lv_iconst (v := 1) hx hb dX11_factor_49 (by decide) ?_
                            refine lv_icmp_ne (tgt := 57) hx hb dX11_factor_50 (by decide) (fun c_123 => ?_) (fun c_123 => ?_)
                            · skip
                              have c_123 := ni_ne c_123 rfl li_1
                              refine lv_iconst (v := 1) hx hb dX11_factor_57 (by decide) ?_
                              refine lv_iload_n hx hb dX11_factor_58 rfl (lv_at hl 4 rfl) ?_
                              refine lv_iconst (v := 3) hx hb dX11_factor_59 (by decide) ?_
                              refine lv_icmp_ne (tgt := 67) hx hb dX11_factor_60 (by decide) (fun c_124 => ?_) (fun c_124 => ?_)
                              · skip
                                have c_124 := ni_ne c_124 rfl li_3
                                refine lv_iload_n hx hb dX11_factor_67 rfl (lv_at hl 4 rfl) ?_
                                refine lv_bipush (v := 6) hx hb dX11_factor_68 (by decide) ?_
                                refine lv_icmp_ne (tgt := 77) hx hb dX11_factor_70 (by decide) (fun c_125 => ?_) (fun c_125 => ?_)
                                · skip
                                  have c_125 := ni_ne c_125 rfl li_6
                                  refine lv_iconst (v := 0) hx hb dX11_factor_77 (by decide) ?_
                                  have q_q127 := li_2
                                  have q_q128 := li_1
                                  have q_q129 := li_0
                                  refine tcI (Tc := [(h0, ob 8 [.int h0f0, .int h0f1, .int h0f2, .int h0f3, .int h0f4, .int h0f5, .ref h1, .ref h2, .int h0f8, .int h0f9, .ref h3, .ref h4, .ref h5, .ref h6, .ref h7, .ref h8, .ref h9, .int h0f17, .int h0f18, .int h0f19, .ref h10, .ref h11, .ref h12, .ref h13, .int h0f24, .int h0f25, .ref h14, .ref h15, .ref h16, .ref h17, .int h0f30, .int h0f31, .ref h18, .ref h19, .ref h20, .ref h21]), (h4, aJ (k 1) 9 anJ), (h5, aJ (k 1) 9 anJ), (h7, aJ (k 1) 4 (zJ [2, 3]))]) (Tr := [(h1, aI (k 0) 36 anI)]) (as := [h0, h4, h5, h7]) (zcV (q0 := 1) (ci := 8) (As := [.int 2, .int 1, .int 0]) (rest := []) (Tc := [(h0, ob 8 [.int h0f0, .int h0f1, .int h0f2, .int h0f3, .int h0f4, .int h0f5, .ref h1, .ref h2, .int h0f8, .int h0f9, .ref h3, .ref h4, .ref h5, .ref h6, .ref h7, .ref h8, .ref h9, .int h0f17, .int h0f18, .int h0f19, .ref h10, .ref h11, .ref h12, .ref h13, .int h0f24, .int h0f25, .ref h14, .ref h15, .ref h16, .ref h17, .int h0f30, .int h0f31, .ref h18, .ref h19, .ref h20, .ref h21]), (h4, aJ (k 1) 9 anJ), (h5, aJ (k 1) 9 anJ), (h7, aJ (k 1) 4 (zJ [2, 3]))]) hx hb hml hown hU hK hT rfl rfl [1, 2, 3, 4] rfl (by decide) (cX11_takesOut_2378e l D k _ h0 h4 h5 h7 h1 h2 h3 h6 h8 h9 h10 h11 h12 h13 h14 h15 h16 h17 h18 h19 h20 h21 (2) (1) (0) h0f0 h0f1 h0f2 h0f3 h0f4 h0f5 h0f8 h0f9 h0f17 h0f18 h0f19 h0f24 h0f25 h0f30 h0f31 (by have := li_2; omega) (by have := li_1; omega) (by have := li_0; omega) (by omega) (by omega) (by omega) (by omega) (by omega) (by omega) (by omega) (by omega) (by omega) (by omega) (by omega) (by omega) (by omega) (by have := li_2; have := li_1; have := li_0; omega) (by have := li_2; have := li_1; have := li_0; omega)) w999 w996 w998 w41 w72 hdX11_takesOut ⟨rfl, rfl⟩ ⟨Nat.le_of_ble_eq_true rfl, Nat.le_of_ble_eq_true rfl⟩ rfl hl.1 (Nat.le_of_ble_eq_true rfl) dX11_factor_78 ⟨Nat.le_of_ble_eq_true rfl, Nat.le_of_ble_eq_true rfl⟩) hT hS hA [1, 2, 3, 4] [0] rfl rfl rfl (by decide) (by decide) (fun r126 H locs hB J hS => ?_)
                                  rcases hB with ⟨rfl, hT1⟩ | ⟨v130, v131, b_v131, c_132, c_133, c_134, c_135, c_136, c_137, c_138, c_139, rfl, hT1⟩
                                  · skip
                                    have hT := J _ hT1
                                    have hT : TP D A [(h1, aI (k 0) 36 anI), (h0, ob 8 [.int h0f0, .int h0f1, .int h0f2, .int h0f3, .int h0f4, .int h0f5, .ref h1, .ref h2, .int h0f8, .int h0f9, .ref h3, .ref h4, .ref h5, .ref h6, .ref h7, .ref h8, .ref h9, .int h0f17, .int h0f18, .int h0f19, .ref h10, .ref h11, .ref h12, .ref h13, .int h0f24, .int h0f25, .ref h14, .ref h15, .ref h16, .ref h17, .int h0f30, .int h0f31, .ref h18, .ref h19, .ref h20, .ref h21]), (h4, aJ (k 1) 9 anJ), (h5, aJ (k 1) 9 anJ), (h7, aJ (k 1) 4 anJ)] _ := hT
                                    refine lv_if_eq (tgt := 90) hx hb dX11_factor_81 (by decide) (fun _ => ?_) (fun cc => absurd (by decide +kernel) cc)
                                    refine lv_iload_n hx hb dX11_factor_90 rfl (lv_at hl 0 rfl) ?_
                                    exact tz_retI (B := B_cX11_factor_71296 D k h0 h1 h4 h5 h7 h2 h3 h6 h8 h9 h10 h11 h12 h13 h14 h15 h16 h17 h18 h19 h20 h21 x1 x2 h0f0 h0f1 h0f2 h0f3 h0f4 h0f5 h0f8 h0f9 h0f17 h0f18 h0f19 h0f24 h0f25 h0f30 h0f31) (v := 2) hQ hx hb hr hlocks hS (Nat.le_of_ble_eq_true rfl) (Nat.le_of_ble_eq_true rfl) dX11_factor_91 (⟨(by have := li_2; omega), (hT.sub [1, 0, 2, 3, 4] (by decide) rfl)⟩)
                                  · skip
                                    have hT := J _ hT1
                                    have hT : TP D A [(h1, aI (k 0) 36 anI), (h0, ob 8 [.int h0f0, .int h0f1, .int h0f2, .int h0f3, .int h0f4, .int h0f5, .ref h1, .ref h2, .int h0f8, .int h0f9, .ref h3, .ref h4, .ref h5, .ref h6, .ref h7, .ref h8, .ref h9, .int h0f17, .int h0f18, .int h0f19, .ref h10, .ref h11, .ref h12, .ref h13, .int h0f24, .int h0f25, .ref h14, .ref h15, .ref h16, .ref h17, .int h0f30, .int h0f31, .ref h18, .ref h19, .ref h20, .ref h21]), (h4, aJ (k 1) 9 anJ), (h5, aJ (k 1) 9 anJ), (h7, aJ (k 1) 4 (zJ [1, 2, 3]))] _ := hT
                                    exfalso; omega
                                · skip
                                  have c_125 := ni_eq c_125 rfl li_6
                                  exfalso; omega
                              · skip
                                have c_124 := ni_eq c_124 rfl li_3
                                exfalso; omega
                            · skip
                              have c_123 := ni_eq c_123 rfl li_1
                              exfalso; omega
                        · skip
                          have c_84 := ni_eq c_84 rfl li_6
                          exfalso; omega
                      · skip
                        have c_83 := ni_eq c_83 rfl li_3
                        exfalso; omega
                    · skip
                      have c_82 := ni_eq c_82 rfl li_1
                      exfalso; omega
                  · skip
                    have hT := J _ hT1
                    have hT : TP D A [(h1, aI (k 0) 36 anI), (h0, ob 8 [.int h0f0, .int h0f1, .int h0f2, .int h0f3, .int h0f4, .int h0f5, .ref h1, .ref h2, .int h0f8, .int h0f9, .ref h3, .ref h4, .ref h5, .ref h6, .ref h7, .ref h8, .ref h9, .int h0f17, .int h0f18, .int h0f19, .ref h10, .ref h11, .ref h12, .ref h13, .int h0f24, .int h0f25, .ref h14, .ref h15, .ref h16, .ref h17, .int h0f30, .int h0f31, .ref h18, .ref h19, .ref h20, .ref h21]), (h4, aJ (k 1) 9 anJ), (h5, aJ (k 1) 9 anJ), (h7, aJ (k 1) 4 (zJ [3]))] _ := hT
                    refine lv_if_eq (tgt := 90) hx hb dX11_factor_81 (by decide) (fun cc => absurd cc (by decide +kernel)) (fun _ => ?_)
                    refine lv_iinc (v := 1) (lv' := [(3, .int 1), (4, .int 2), (0, .ref h0), (1, .int x1), (2, .int x2)]) hx hb dX11_factor_84 hl (k := 1) rfl (by decide) (by decide) rfl (fun ls hl => ?_)
                    refine lv_goto (tgt := 45) hx hb dX11_factor_87 (by decide) ?_
                    refine lv_aload_n hx hb dX11_factor_45 rfl (lv_at hl 2 rfl) ?_
                    refine lv_iload hx hb dX11_factor_46 (lv_at hl 1 rfl) ?_
                    refine lv_iload_n hx hb dX11_factor_48 rfl (lv_at hl 4 rfl) ?_
                    refine lv_iconst (v := 1) hx hb dX11_factor_49 (by decide) ?_
                    refine lv_icmp_ne (tgt := 57) hx hb dX11_factor_50 (by decide) (fun c_140 => ?_) (fun c_140 => ?_)
                    · skip
                      have c_140 := ni_ne c_140 rfl li_1
                      refine lv_iconst (v := 1) hx hb dX11_factor_57 (by decide) ?_
                      refine lv_iload_n hx hb dX11_factor_58 rfl (lv_at hl 4 rfl) ?_
                      refine lv_iconst (v := 3) hx hb dX11_factor_59 (by decide) ?_
                      refine lv_icmp_ne (tgt := 67) hx hb dX11_factor_60 (by decide) (fun c_141 => ?_) (fun c_141 => ?_)
                      · skip
                        have c_141 := ni_ne c_141 rfl li_3
                        refine lv_iload_n hx hb dX11_factor_67 rfl (lv_at hl 4 rfl) ?_
                        refine lv_bipush (v := 6) hx hb dX11_factor_68 (by decide) ?_
                        refine lv_icmp_ne (tgt := 77) hx hb dX11_factor_70 (by decide) (fun c_142 => ?_) (fun c_142 => ?_)
                        · skip
                          have c_142 := ni_ne c_142 rfl li_6
                          refine lv_iconst (v := 0) hx hb dX11_factor_77 (by decide) ?_
                          have q_q144 := li_2
                          have q_q145 := li_1
                          have q_q146 := li_0
                          refine tcI (Tc := [(h0, ob 8 [.int h0f0, .int h0f1, .int h0f2, .int h0f3, .int h0f4, .int h0f5, .ref h1, .ref h2, .int h0f8, .int h0f9, .ref h3, .ref h4, .ref h5, .ref h6, .ref h7, .ref h8, .ref h9, .int h0f17, .int h0f18, .int h0f19, .ref h10, .ref h11, .ref h12, .ref h13, .int h0f24, .int h0f25, .ref h14, .ref h15, .ref h16, .ref h17, .int h0f30, .int h0f31, .ref h18, .ref h19, .ref h20, .ref h21]), (h4, aJ (k 1) 9 anJ), (h5, aJ (k 1) 9 anJ), (h7, aJ (k 1) 4 (zJ [3]))]) (Tr := [(h1, aI (k 0) 36 anI)]) (as := [h0, h4, h5, h7]) (zcV (q0 := 1) (ci := 8) (As := [.int 2, .int 1, .int 0]) (rest := []) (Tc := [(h0, ob 8 [.int h0f0, .int h0f1, .int h0f2, .int h0f3, .int h0f4, .int h0f5, .ref h1, .ref h2, .int h0f8, .int h0f9, .ref h3, .ref h4, .ref h5, .ref h6, .ref h7, .ref h8, .ref h9, .int h0f17, .int h0f18, .int h0f19, .ref h10, .ref h11, .ref h12, .ref h13, .int h0f24, .int h0f25, .ref h14, .ref h15, .ref h16, .ref h17, .int h0f30, .int h0f31, .ref h18, .ref h19, .ref h20, .ref h21]), (h4, aJ (k 1) 9 anJ), (h5, aJ (k 1) 9 anJ), (h7, aJ (k 1) 4 (zJ [3]))]) hx hb hml hown hU hK hT rfl rfl [1, 2, 3, 4] rfl (by decide) (cX11_takesOut_a13ae l D k _ h0 h4 h5 h7 h1 h2 h3 h6 h8 h9 h10 h11 h12 h13 h14 h15 h16 h17 h18 h19 h20 h21 (2) (1) (0) h0f0 h0f1 h0f2 h0f3 h0f4 h0f5 h0f8 h0f9 h0f17 h0f18 h0f19 h0f24 h0f25 h0f30 h0f31 (by have := li_2; omega) (by have := li_1; omega) (by have := li_0; omega) (by omega) (by omega) (by omega) (by omega) (by omega) (by omega) (by omega) (by omega) (by omega) (by omega) (by omega) (by omega) (by omega) (by have := li_2; have := li_1; have := li_0; omega) (by have := li_2; have := li_1; have := li_0; omega)) w999 w996 w998 w41 w72 hdX11_takesOut ⟨rfl, rfl⟩ ⟨Nat.le_of_ble_eq_true rfl, Nat.le_of_ble_eq_true rfl⟩ rfl hl.1 (Nat.le_of_ble_eq_true rfl) dX11_factor_78 ⟨Nat.le_of_ble_eq_true rfl, Nat.le_of_ble_eq_true rfl⟩) hT hS hA [1, 2, 3, 4] [0] rfl rfl rfl (by decide) (by decide) (fun r143 H locs hB J hS => ?_)
                          rcases hB with ⟨rfl, hT1⟩ | ⟨v147, v148, b_v148, c_149, c_150, c_151, c_152, c_153, c_154, c_155, c_156, c_157, rfl, hT1⟩ | ⟨v158, v159, v160, b_v158, b_v160, c_161, c_162, c_163, c_164, c_165, c_166, c_167, c_168, c_169, rfl, hT1⟩ | ⟨v170, v171, v172, b_v171, b_v172, c_173, c_174, c_175, c_176, c_177, c_178, c_179, c_180, rfl, hT1⟩
                          · skip
                            have hT := J _ hT1
                            have hT : TP D A [(h1, aI (k 0) 36 anI), (h0, ob 8 [.int h0f0, .int h0f1, .int h0f2, .int h0f3, .int h0f4, .int h0f5, .ref h1, .ref h2, .int h0f8, .int h0f9, .ref h3, .ref h4, .ref h5, .ref h6, .ref h7, .ref h8, .ref h9, .int h0f17, .int h0f18, .int h0f19, .ref h10, .ref h11, .ref h12, .ref h13, .int h0f24, .int h0f25, .ref h14, .ref h15, .ref h16, .ref h17, .int h0f30, .int h0f31, .ref h18, .ref h19, .ref h20, .ref h21]), (h4, aJ (k 1) 9 anJ), (h5, aJ (k 1) 9 anJ), (h7, aJ (k 1) 4 anJ)] _ := hT
                            refine lv_if_eq (tgt := 90) hx hb dX11_factor_81 (by decide) (fun _ => ?_) (fun cc => absurd (by decide +kernel) cc)
                            refine lv_iload_n hx hb dX11_factor_90 rfl (lv_at hl 0 rfl) ?_
                            exact tz_retI (B := B_cX11_factor_71296 D k h0 h1 h4 h5 h7 h2 h3 h6 h8 h9 h10 h11 h12 h13 h14 h15 h16 h17 h18 h19 h20 h21 x1 x2 h0f0 h0f1 h0f2 h0f3 h0f4 h0f5 h0f8 h0f9 h0f17 h0f18 h0f19 h0f24 h0f25 h0f30 h0f31) (v := 1) hQ hx hb hr hlocks hS (Nat.le_of_ble_eq_true rfl) (Nat.le_of_ble_eq_true rfl) dX11_factor_91 (⟨(by have := li_1; omega), (hT.sub [1, 0, 2, 3, 4] (by decide) rfl)⟩)
                          · skip
                            have hT := J _ hT1
                            have hT : TP D A [(h1, aI (k 0) 36 anI), (h0, ob 8 [.int h0f0, .int h0f1, .int h0f2, .int h0f3, .int h0f4, .int h0f5, .ref h1, .ref h2, .int h0f8, .int h0f9, .ref h3, .ref h4, .ref h5, .ref h6, .ref h7, .ref h8, .ref h9, .int h0f17, .int h0f18, .int h0f19, .ref h10, .ref h11, .ref h12, .ref h13, .int h0f24, .int h0f25, .ref h14, .ref h15, .ref h16, .ref h17, .int h0f30, .int h0f31, .ref h18, .ref h19, .ref h20, .ref h21]), (h4, aJ (k 1) 9 anJ), (h5, aJ (k 1) 9 anJ), (h7, aJ (k 1) 4 (zJ [2, 3]))] _ := hT
                            exfalso; omega
                          · skip
                            have hT := J _ hT1
                            have hT : TP D A [(h1, aI (k 0) 36 anI), (h0, ob 8 [.int h0f0, .int h0f1, .int h0f2, .int h0f3, .int h0f4, .int h0f5, .ref h1, .ref h2, .int h0f8, .int h0f9, .ref h3, .ref h4, .ref h5, .ref h6, .ref h7, .ref h8, .ref h9, .int h0f17, .int h0f18, .int h0f19, .ref h10, .ref h11, .ref h12, .ref h13, .int h0f24, .int h0f25, .ref h14, .ref h15, .ref h16, .ref h17, .int h0f30, .int h0f31, .ref h18, .ref h19, .ref h20, .ref h21]), (h4, aJ (k 1) 9 anJ), (h5, aJ (k 1) 9 anJ), (h7, aJ (k 1) 4 (zJ [2, 3]))] _ := hT
                            exfalso; omega
                          · skip
                            have hT := J _ hT1
                            have hT : TP D A [(h1, aI (k 0) 36 anI), (h0, ob 8 [.int h0f0, .int h0f1, .int h0f2, .int h0f3, .int h0f4, .int h0f5, .ref h1, .ref h2, .int h0f8, .int h0f9, .ref h3, .ref h4, .ref h5, .ref h6, .ref h7, .ref h8, .ref h9, .int h0f17, .int h0f18, .int h0f19, .ref h10, .ref h11, .ref h12, .ref h13, .int h0f24, .int h0f25, .ref h14, .ref h15, .ref h16, .ref h17, .int h0f30, .int h0f31, .ref h18, .ref h19, .ref h20, .ref h21]), (h4, aJ (k 1) 9 anJ), (h5, aJ (k 1) 9 anJ), (h7, aJ (k 1) 4 (zJ [2, 3]))] _ := hT
                            refine lv_if_eq (tgt := 90) hx hb dX11_factor_81 (by decide) (fun cc => absurd cc (by decide +kernel)) (fun _ => ?_)
                            refine lv_iinc (v := 2) (lv' := [(3, .int 2), (4, .int 2), (0, .ref h0), (1, .int x1), (2, .int x2)]) hx hb dX11_factor_84 hl (k := 0) rfl (by decide) (by decide) rfl (fun ls hl => ?_)
                            refine lv_goto (tgt := 45) hx hb dX11_factor_87 (by decide) ?_
                            refine lv_aload_n hx hb dX11_factor_45 rfl (lv_at hl 2 rfl) ?_
                            refine lv_iload hx hb dX11_factor_46 (lv_at hl 1 rfl) ?_
                            refine lv_iload_n hx hb dX11_factor_48 rfl (lv_at hl 4 rfl) ?_
                            refine lv_iconst (v := 1) hx hb dX11_factor_49 (by decide) ?_
                            refine lv_icmp_ne (tgt := 57) hx hb dX11_factor_50 (by decide) (fun c_181 => ?_) (fun c_181 => ?_)
                            · skip
                              have c_181 := ni_ne c_181 rfl li_1
                              refine lv_iconst (v := 1) hx hb dX11_factor_57 (by decide) ?_
                              refine lv_iload_n hx hb dX11_factor_58 rfl (lv_at hl 4 rfl) ?_
                              refine lv_iconst (v := 3) hx hb dX11_factor_59 (by decide) ?_
                              refine lv_icmp_ne (tgt := 67) hx hb dX11_factor_60 (by decide) (fun c_182 => ?_) (fun c_182 => ?_)
                              · skip
                                have c_182 := ni_ne c_182 rfl li_3
                                refine lv_iload_n hx hb dX11_factor_67 rfl (lv_at hl 4 rfl) ?_
                                refine lv_bipush (v := 6) hx hb dX11_factor_68 (by decide) ?_
                                refine lv_icmp_ne (tgt := 77) hx hb dX11_factor_70 (by decide) (fun c_183 => ?_) (fun c_183 => ?_)
                                · skip
                                  have c_183 := ni_ne c_183 rfl li_6
                                  refine lv_iconst (v := 0) hx hb dX11_factor_77 (by decide) ?_
                                  have q_q185 := li_2
                                  have q_q186 := li_1
                                  have q_q187 := li_0
                                  refine tcI (Tc := [(h0, ob 8 [.int h0f0, .int h0f1, .int h0f2, .int h0f3, .int h0f4, .int h0f5, .ref h1, .ref h2, .int h0f8, .int h0f9, .ref h3, .ref h4, .ref h5, .ref h6, .ref h7, .ref h8, .ref h9, .int h0f17, .int h0f18, .int h0f19, .ref h10, .ref h11, .ref h12, .ref h13, .int h0f24, .int h0f25, .ref h14, .ref h15, .ref h16, .ref h17, .int h0f30, .int h0f31, .ref h18, .ref h19, .ref h20, .ref h21]), (h4, aJ (k 1) 9 anJ), (h5, aJ (k 1) 9 anJ), (h7, aJ (k 1) 4 (zJ [2, 3]))]) (Tr := [(h1, aI (k 0) 36 anI)]) (as := [h0, h4, h5, h7]) (zcV (q0 := 1) (ci := 8) (As := [.int 2, .int 1, .int 0]) (rest := []) (Tc := [(h0, ob 8 [.int h0f0, .int h0f1, .int h0f2, .int h0f3, .int h0f4, .int h0f5, .ref h1, .ref h2, .int h0f8, .int h0f9, .ref h3, .ref h4, .ref h5, .ref h6, .ref h7, .ref h8, .ref h9, .int h0f17, .int h0f18, .int h0f19, .ref h10, .ref h11, .ref h12, .ref h13, .int h0f24, .int h0f25, .ref h14, .ref h15, .ref h16, .ref h17, .int h0f30, .int h0f31, .ref h18, .ref h19, .ref h20, .ref h21]), (h4, aJ (k 1) 9 anJ), (h5, aJ (k 1) 9 anJ), (h7, aJ (k 1) 4 (zJ [2, 3]))]) hx hb hml hown hU hK hT rfl rfl [1, 2, 3, 4] rfl (by decide) (cX11_takesOut_2378e l D k _ h0 h4 h5 h7 h1 h2 h3 h6 h8 h9 h10 h11 h12 h13 h14 h15 h16 h17 h18 h19 h20 h21 (2) (1) (0) h0f0 h0f1 h0f2 h0f3 h0f4 h0f5 h0f8 h0f9 h0f17 h0f18 h0f19 h0f24 h0f25 h0f30 h0f31 (by have := li_2; omega) (by have := li_1; omega) (by have := li_0; omega) (by omega) (by omega) (by omega) (by omega) (by omega) (by omega) (by omega) (by omega) (by omega) (by omega) (by omega) (by omega) (by omega) (by have := li_2; have := li_1; have := li_0; omega) (by have := li_2; have := li_1; have := li_0; omega)) w999 w996 w998 w41 w72 hdX11_takesOut ⟨rfl, rfl⟩ ⟨Nat.le_of_ble_eq_true rfl, Nat.le_of_ble_eq_true rfl⟩ rfl hl.1 (Nat.le_of_ble_eq_true rfl) dX11_factor_78 ⟨Nat.le_of_ble_eq_true rfl, Nat.le_of_ble_eq_true rfl⟩) hT hS hA [1, 2, 3, 4] [0] rfl rfl rfl (by decide) (by decide) (fun r184 H locs hB J hS => ?_)
                                  rcases hB with ⟨rfl, hT1⟩ | ⟨v188, v189, b_v189, c_190, c_191, c_192, c_193, c_194, c_195, c_196, c_197, rfl, hT1⟩
                                  · skip
                                    have hT := J _ hT1
                                    have hT : TP D A [(h1, aI (k 0) 36 anI), (h0, ob 8 [.int h0f0, .int h0f1, .int h0f2, .int h0f3, .int h0f4, .int h0f5, .ref h1, .ref h2, .int h0f8, .int h0f9, .ref h3, .ref h4, .ref h5, .ref h6, .ref h7, .ref h8, .ref h9, .int h0f17, .int h0f18, .int h0f19, .ref h10, .ref h11, .ref h12, .ref h13, .int h0f24, .int h0f25, .ref h14, .ref h15, .ref h16, .ref h17, .int h0f30, .int h0f31, .ref h18, .ref h19, .ref h20, .ref h21]), (h4, aJ (k 1) 9 anJ), (h5, aJ (k 1) 9 anJ), (h7, aJ (k 1) 4 anJ)] _ := hT
                                    refine lv_if_eq (tgt := 90) hx hb dX11_factor_81 (by decide) (fun _ => ?_) (fun cc => absurd (by decide +kernel) cc)
                                    refine lv_iload_n hx hb dX11_factor_90 rfl (lv_at hl 0 rfl) ?_
                                    exact tz_retI (B := B_cX11_factor_71296 D k h0 h1 h4 h5 h7 h2 h3 h6 h8 h9 h10 h11 h12 h13 h14 h15 h16 h17 h18 h19 h20 h21 x1 x2 h0f0 h0f1 h0f2 h0f3 h0f4 h0f5 h0f8 h0f9 h0f17 h0f18 h0f19 h0f24 h0f25 h0f30 h0f31) (v := 2) hQ hx hb hr hlocks hS (Nat.le_of_ble_eq_true rfl) (Nat.le_of_ble_eq_true rfl) dX11_factor_91 (⟨(by have := li_2; omega), (hT.sub [1, 0, 2, 3, 4] (by decide) rfl)⟩)
                                  · skip
                                    have hT := J _ hT1
                                    have hT : TP D A [(h1, aI (k 0) 36 anI), (h0, ob 8 [.int h0f0, .int h0f1, .int h0f2, .int h0f3, .int h0f4, .int h0f5, .ref h1, .ref h2, .int h0f8, .int h0f9, .ref h3, .ref h4, .ref h5, .ref h6, .ref h7, .ref h8, .ref h9, .int h0f17, .int h0f18, .int h0f19, .ref h10, .ref h11, .ref h12, .ref h13, .int h0f24, .int h0f25, .ref h14, .ref h15, .ref h16, .ref h17, .int h0f30, .int h0f31, .ref h18, .ref h19, .ref h20, .ref h21]), (h4, aJ (k 1) 9 anJ), (h5, aJ (k 1) 9 anJ), (h7, aJ (k 1) 4 (zJ [1, 2, 3]))] _ := hT
                                    exfalso; omega
                                · skip
                                  have c_183 := ni_eq c_183 rfl li_6
                                  exfalso; omega
                              · skip
                                have c_182 := ni_eq c_182 rfl li_3
                                exfalso; omega
                            · skip
                              have c_181 := ni_eq c_181 rfl li_1
                              exfalso; omega
                        · skip
                          have c_142 := ni_eq c_142 rfl li_6
                          exfalso; omega
                      · skip
                        have c_141 := ni_eq c_141 rfl li_3
                        exfalso; omega
                    · skip
                      have c_140 := ni_eq c_140 rfl li_1
                      exfalso; omega
                · skip
                  have c_13 := ni_eq c_13 rfl li_6
                  refine lv_iconst (v := (-1)) hx hb dX11_factor_73 (by decide) ?_
                  refine lv_goto (tgt := 78) hx hb dX11_factor_74 (by decide) ?_
                  have q_q199 := li_2
                  have q_q200 := li_1
                  have q_q201 := li_m1
                  refine tcI (Tc := [(h0, ob 8 [.int h0f0, .int h0f1, .int h0f2, .int h0f3, .int h0f4, .int h0f5, .ref h1, .ref h2, .int h0f8, .int h0f9, .ref h3, .ref h4, .ref h5, .ref h6, .ref h7, .ref h8, .ref h9, .int h0f17, .int h0f18, .int h0f19, .ref h10, .ref h11, .ref h12, .ref h13, .int h0f24, .int h0f25, .ref h14, .ref h15, .ref h16, .ref h17, .int h0f30, .int h0f31, .ref h18, .ref h19, .ref h20, .ref h21]), (h4, aJ (k 1) 9 anJ), (h5, aJ (k 1) 9 anJ), (h7, aJ (k 1) 4 anJ)]) (Tr := [(h1, aI (k 0) 36 anI)]) (as := [h0, h4, h5, h7]) (zcV (q0 := 1) (ci := 8) (As := [.int 2, .int 1, .int (-1)]) (rest := []) (Tc := [(h0, ob 8 [.int h0f0, .int h0f1, .int h0f2, .int h0f3, .int h0f4, .int h0f5, .ref h1, .ref h2, .int h0f8, .int h0f9, .ref h3, .ref h4, .ref h5, .ref h6, .ref h7, .ref h8, .ref h9, .int h0f17, .int h0f18, .int h0f19, .ref h10, .ref h11, .ref h12, .ref h13, .int h0f24, .int h0f25, .ref h14, .ref h15, .ref h16, .ref h17, .int h0f30, .int h0f31, .ref h18, .ref h19, .ref h20, .ref h21]), (h4, aJ (k 1) 9 anJ), (h5, aJ (k 1) 9 anJ), (h7, aJ (k 1) 4 anJ)]) hx hb hml hown hU hK hT rfl rfl [1, 3, 0, 4] rfl (by decide) (cX11_takesOut_ae7df l D k _ h0 h4 h5 h7 h1 h2 h3 h6 h8 h9 h10 h11 h12 h13 h14 h15 h16 h17 h18 h19 h20 h21 (2) (1) ((-1)) h0f0 h0f1 h0f2 h0f3 h0f4 h0f5 h0f8 h0f9 h0f17 h0f18 h0f19 h0f24 h0f25 h0f30 h0f31 (by have := li_2; omega) (by have := li_1; omega) (by have := li_m1; omega) (by omega) (by omega) (by omega) (by omega) (by omega) (by omega) (by omega) (by omega) (by omega) (by omega) (by omega) (by omega) (by omega) (by have := li_2; have := li_1; have := li_m1; omega) (by have := li_2; have := li_1; have := li_m1; omega)) w999 w996 w998 w41 w72 hdX11_takesOut ⟨rfl, rfl⟩ ⟨Nat.le_of_ble_eq_true rfl, Nat.le_of_ble_eq_true rfl⟩ rfl hl.1 (Nat.le_of_ble_eq_true rfl) dX11_factor_78 ⟨Nat.le_of_ble_eq_true rfl, Nat.le_of_ble_eq_true rfl⟩) hT hS hA [1, 3, 0, 4] [2] rfl rfl rfl (by decide) (by decide) (fun r198 H locs hB J hS => ?_)
                  rcases hB with ⟨rfl, hT1⟩ | ⟨v202, v203, b_v203, c_204, c_205, c_206, c_207, c_208, c_209, c_210, c_211, c_212, c_213, rfl, hT1⟩ | ⟨v214, v215, v216, b_v214, b_v216, c_217, c_218, c_219, c_220, c_221, c_222, c_223, c_224, c_225, c_226, rfl, hT1⟩ | ⟨v227, v228, v229, v230, b_v227, b_v228, b_v230, c_231, c_232, c_233, c_234, c_235, c_236, c_237, c_238, c_239, c_240, rfl, hT1⟩ | ⟨v241, v242, v243, b_v242, b_v243, c_244, c_245, c_246, c_247, c_248, c_249, c_250, c_251, c_252, rfl, hT1⟩ | ⟨v253, v254, v255, v256, b_v253, b_v255, b_v256, c_257, c_258, c_259, c_260, c_261, c_262, c_263, c_264, c_265, rfl, hT1⟩
                  · skip
                    have hT := J _ hT1
                    have hT : TP D A [(h1, aI (k 0) 36 anI), (h0, ob 8 [.int h0f0, .int h0f1, .int h0f2, .int h0f3, .int h0f4, .int h0f5, .ref h1, .ref h2, .int h0f8, .int h0f9, .ref h3, .ref h4, .ref h5, .ref h6, .ref h7, .ref h8, .ref h9, .int h0f17, .int h0f18, .int h0f19, .ref h10, .ref h11, .ref h12, .ref h13, .int h0f24, .int h0f25, .ref h14, .ref h15, .ref h16, .ref h17, .int h0f30, .int h0f31, .ref h18, .ref h19, .ref h20, .ref h21]), (h4, aJ (k 1) 9 anJ), (h5, aJ (k 1) 9 anJ), (h7, aJ (k 1) 4 anJ)] _ := hT
                    refine lv_if_eq (tgt := 90) hx hb dX11_factor_81 (by decide) (fun _ => ?_) (fun cc => absurd (by decide +kernel) cc)
                    refine lv_iload_n hx hb dX11_factor_90 rfl (lv_at hl 1 rfl) ?_
                    exact tz_retI (B := B_cX11_factor_71296 D k h0 h1 h4 h5 h7 h2 h3 h6 h8 h9 h10 h11 h12 h13 h14 h15 h16 h17 h18 h19 h20 h21 x1 x2 h0f0 h0f1 h0f2 h0f3 h0f4 h0f5 h0f8 h0f9 h0f17 h0f18 h0f19 h0f24 h0f25 h0f30 h0f31) (v := 0) hQ hx hb hr hlocks hS (Nat.le_of_ble_eq_true rfl) (Nat.le_of_ble_eq_true rfl) dX11_factor_91 (⟨(by have := li_0; omega), (hT.sub [1, 0, 2, 3, 4] (by decide) rfl)⟩)
                  · skip
                    have hT := J _ hT1
                    have hT : TP D A [(h1, aI (k 0) 36 anI), (h0, ob 8 [.int h0f0, .int h0f1, .int h0f2, .int h0f3, .int h0f4, .int h0f5, .ref h1, .ref h2, .int h0f8, .int h0f9, .ref h3, .ref h4, .ref h5, .ref h6, .ref h7, .ref h8, .ref h9, .int h0f17, .int h0f18, .int h0f19, .ref h10, .ref h11, .ref h12, .ref h13, .int h0f24, .int h0f25, .ref h14, .ref h15, .ref h16, .ref h17, .int h0f30, .int h0f31, .ref h18, .ref h19, .ref h20, .ref h21]), (h4, aJ (k 1) 9 anJ), (h5, aJ (k 1) 9 anJ), (h7, aJ (k 1) 4 (zJ [3]))] _ := hT
                    exfalso; omega
                  · skip
                    have hT := J _ hT1
                    have hT : TP D A [(h1, aI (k 0) 36 anI), (h0, ob 8 [.int h0f0, .int h0f1, .int h0f2, .int h0f3, .int h0f4, .int h0f5, .ref h1, .ref h2, .int h0f8, .int h0f9, .ref h3, .ref h4, .ref h5, .ref h6, .ref h7, .ref h8, .ref h9, .int h0f17, .int h0f18, .int h0f19, .ref h10, .ref h11, .ref h12, .ref h13, .int h0f24, .int h0f25, .ref h14, .ref h15, .ref h16, .ref h17, .int h0f30, .int h0f31, .ref h18, .ref h19, .ref h20, .ref h21]), (h4, aJ (k 1) 9 anJ), (h5, aJ (k 1) 9 anJ), (h7, aJ (k 1) 4 (zJ [3]))] _ := hT
                    exfalso; omega
                  · skip
                    have hT := J _ hT1
                    have hT : TP D A [(h1, aI (k 0) 36 anI), (h0, ob 8 [.int h0f0, .int h0f1, .int h0f2, .int h0f3, .int h0f4, .int h0f5, .ref h1, .ref h2, .int h0f8, .int h0f9, .ref h3, .ref h4, .ref h5, .ref h6, .ref h7, .ref h8, .ref h9, .int h0f17, .int h0f18, .int h0f19, .ref h10, .ref h11, .ref h12, .ref h13, .int h0f24, .int h0f25, .ref h14, .ref h15, .ref h16, .ref h17, .int h0f30, .int h0f31, .ref h18, .ref h19, .ref h20, .ref h21]), (h4, aJ (k 1) 9 anJ), (h5, aJ (k 1) 9 anJ), (h7, aJ (k 1) 4 (zJ [3]))] _ := hT
                    exfalso; omega
                  · skip
                    have hT := J _ hT1
                    have hT : TP D A [(h1, aI (k 0) 36 anI), (h0, ob 8 [.int h0f0, .int h0f1, .int h0f2, .int h0f3, .int h0f4, .int h0f5, .ref h1, .ref h2, .int h0f8, .int h0f9, .ref h3, .ref h4, .ref h5, .ref h6, .ref h7, .ref h8, .ref h9, .int h0f17, .int h0f18, .int h0f19, .ref h10, .ref h11, .ref h12, .ref h13, .int h0f24, .int h0f25, .ref h14, .ref h15, .ref h16, .ref h17, .int h0f30, .int h0f31, .ref h18, .ref h19, .ref h20, .ref h21]), (h4, aJ (k 1) 9 anJ), (h5, aJ (k 1) 9 anJ), (h7, aJ (k 1) 4 (zJ [3]))] _ := hT
                    refine lv_if_eq (tgt := 90) hx hb dX11_factor_81 (by decide) (fun cc => absurd cc (by decide +kernel)) (fun _ => ?_)
                    refine lv_iinc (v := 1) (lv' := [(3, .int 1), (4, .int 2), (0, .ref h0), (1, .int x1), (2, .int x2)]) hx hb dX11_factor_84 hl (k := 1) rfl (by decide) (by decide) rfl (fun ls hl => ?_)
                    refine lv_goto (tgt := 45) hx hb dX11_factor_87 (by decide) ?_
                    refine lv_aload_n hx hb dX11_factor_45 rfl (lv_at hl 2 rfl) ?_
                    refine lv_iload hx hb dX11_factor_46 (lv_at hl 1 rfl) ?_
                    refine lv_iload_n hx hb dX11_factor_48 rfl (lv_at hl 4 rfl) ?_
                    refine lv_iconst (v := 1) hx hb dX11_factor_49 (by decide) ?_
                    refine lv_icmp_ne (tgt := 57) hx hb dX11_factor_50 (by decide) (fun c_266 => ?_) (fun c_266 => ?_)
                    · skip
                      have c_266 := ni_ne c_266 rfl li_1
                      refine lv_iconst (v := 1) hx hb dX11_factor_57 (by decide) ?_
                      refine lv_iload_n hx hb dX11_factor_58 rfl (lv_at hl 4 rfl) ?_
                      refine lv_iconst (v := 3) hx hb dX11_factor_59 (by decide) ?_
                      refine lv_icmp_ne (tgt := 67) hx hb dX11_factor_60 (by decide) (fun c_267 => ?_) (fun c_267 => ?_)
                      · skip
                        have c_267 := ni_ne c_267 rfl li_3
                        refine lv_iload_n hx hb dX11_factor_67 rfl (lv_at hl 4 rfl) ?_
                        refine lv_bipush (v := 6) hx hb dX11_factor_68 (by decide) ?_
                        refine lv_icmp_ne (tgt := 77) hx hb dX11_factor_70 (by decide) (fun c_268 => ?_) (fun c_268 => ?_)
                        · skip
                          have c_268 := ni_ne c_268 rfl li_6
                          exfalso; omega
                        · skip
                          have c_268 := ni_eq c_268 rfl li_6
                          refine lv_iconst (v := (-1)) hx hb dX11_factor_73 (by decide) ?_
                          refine lv_goto (tgt := 78) hx hb dX11_factor_74 (by decide) ?_
                          have q_q270 := li_2
                          have q_q271 := li_1
                          have q_q272 := li_m1
                          refine tcI (Tc := [(h0, ob 8 [.int h0f0, .int h0f1, .int h0f2, .int h0f3, .int h0f4, .int h0f5, .ref h1, .ref h2, .int h0f8, .int h0f9, .ref h3, .ref h4, .ref h5, .ref h6, .ref h7, .ref h8, .ref h9, .int h0f17, .int h0f18, .int h0f19, .ref h10, .ref h11, .ref h12, .ref h13, .int h0f24, .int h0f25, .ref h14, .ref h15, .ref h16, .ref h17, .int h0f30, .int h0f31, .ref h18, .ref h19, .ref h20, .ref h21]), (h4, aJ (k 1) 9 anJ), (h5, aJ (k 1) 9 anJ), (h7, aJ (k 1) 4 (zJ [3]))]) (Tr := [(h1, aI (k 0) 36 anI)]) (as := [h0, h4, h5, h7]) (zcV (q0 := 1) (ci := 8) (As := [.int 2, .int 1, .int (-1)]) (rest := []) (Tc := [(h0, ob 8 [.int h0f0, .int h0f1, .int h0f2, .int h0f3, .int h0f4, .int h0f5, .ref h1, .ref h2, .int h0f8, .int h0f9, .ref h3, .ref h4, .ref h5, .ref h6, .ref h7, .ref h8, .ref h9, .int h0f17, .int h0f18, .int h0f19, .ref h10, .ref h11, .ref h12, .ref h13, .int h0f24, .int h0f25, .ref h14, .ref h15, .ref h16, .ref h17, .int h0f30, .int h0f31, .ref h18, .ref h19, .ref h20, .ref h21]), (h4, aJ (k 1) 9 anJ), (h5, aJ (k 1) 9 anJ), (h7, aJ (k 1) 4 (zJ [3]))]) hx hb hml hown hU hK hT rfl rfl [1, 2, 3, 4] rfl (by decide) (cX11_takesOut_a13ae l D k _ h0 h4 h5 h7 h1 h2 h3 h6 h8 h9 h10 h11 h12 h13 h14 h15 h16 h17 h18 h19 h20 h21 (2) (1) ((-1)) h0f0 h0f1 h0f2 h0f3 h0f4 h0f5 h0f8 h0f9 h0f17 h0f18 h0f19 h0f24 h0f25 h0f30 h0f31 (by have := li_2; omega) (by have := li_1; omega) (by have := li_m1; omega) (by omega) (by omega) (by omega) (by omega) (by omega) (by omega) (by omega) (by omega) (by omega) (by omega) (by omega) (by omega) (by omega) (by have := li_2; have := li_1; have := li_m1; omega) (by have := li_2; have := li_1; have := li_m1; omega)) w999 w996 w998 w41 w72 hdX11_takesOut ⟨rfl, rfl⟩ ⟨Nat.le_of_ble_eq_true rfl, Nat.le_of_ble_eq_true rfl⟩ rfl hl.1 (Nat.le_of_ble_eq_true rfl) dX11_factor_78 ⟨Nat.le_of_ble_eq_true rfl, Nat.le_of_ble_eq_true rfl⟩) hT hS hA [1, 2, 3, 4] [0] rfl rfl rfl (by decide) (by decide) (fun r269 H locs hB J hS => ?_)
                          rcases hB with ⟨rfl, hT1⟩ | ⟨v273, v274, b_v274, c_275, c_276, c_277, c_278, c_279, c_280, c_281, c_282, c_283, rfl, hT1⟩ | ⟨v284, v285, v286, b_v284, b_v286, c_287, c_288, c_289, c_290, c_291, c_292, c_293, c_294, c_295, rfl, hT1⟩ | ⟨v296, v297, v298, b_v297, b_v298, c_299, c_300, c_301, c_302, c_303, c_304, c_305, c_306, rfl, hT1⟩
                          · skip
                            have hT := J _ hT1
                            have hT : TP D A [(h1, aI (k 0) 36 anI), (h0, ob 8 [.int h0f0, .int h0f1, .int h0f2, .int h0f3, .int h0f4, .int h0f5, .ref h1, .ref h2, .int h0f8, .int h0f9, .ref h3, .ref h4, .ref h5, .ref h6, .ref h7, .ref h8, .ref h9, .int h0f17, .int h0f18, .int h0f19, .ref h10, .ref h11, .ref h12, .ref h13, .int h0f24, .int h0f25, .ref h14, .ref h15, .ref h16, .ref h17, .int h0f30, .int h0f31, .ref h18, .ref h19, .ref h20, .ref h21]), (h4, aJ (k 1) 9 anJ), (h5, aJ (k 1) 9 anJ), (h7, aJ (k 1) 4 anJ)] _ := hT
                            refine lv_if_eq (tgt := 90) hx hb dX11_factor_81 (by decide) (fun _ => ?_) (fun cc => absurd (by decide +kernel) cc)
                            refine lv_iload_n hx hb dX11_factor_90 rfl (lv_at hl 0 rfl) ?_
                            exact tz_retI (B := B_cX11_factor_71296 D k h0 h1 h4 h5 h7 h2 h3 h6 h8 h9 h10 h11 h12 h13 h14 h15 h16 h17 h18 h19 h20 h21 x1 x2 h0f0 h0f1 h0f2 h0f3 h0f4 h0f5 h0f8 h0f9 h0f17 h0f18 h0f19 h0f24 h0f25 h0f30 h0f31) (v := 1) hQ hx hb hr hlocks hS (Nat.le_of_ble_eq_true rfl) (Nat.le_of_ble_eq_true rfl) dX11_factor_91 (⟨(by have := li_1; omega), (hT.sub [1, 0, 2, 3, 4] (by decide) rfl)⟩)
                          · skip
                            have hT := J _ hT1
                            have hT : TP D A [(h1, aI (k 0) 36 anI), (h0, ob 8 [.int h0f0, .int h0f1, .int h0f2, .int h0f3, .int h0f4, .int h0f5, .ref h1, .ref h2, .int h0f8, .int h0f9, .ref h3, .ref h4, .ref h5, .ref h6, .ref h7, .ref h8, .ref h9, .int h0f17, .int h0f18, .int h0f19, .ref h10, .ref h11, .ref h12, .ref h13, .int h0f24, .int h0f25, .ref h14, .ref h15, .ref h16, .ref h17, .int h0f30, .int h0f31, .ref h18, .ref h19, .ref h20, .ref h21]), (h4, aJ (k 1) 9 anJ), (h5, aJ (k 1) 9 anJ), (h7, aJ (k 1) 4 (zJ [2, 3]))] _ := hT
                            exfalso; omega
                          · skip
                            have hT := J _ hT1
                            have hT : TP D A [(h1, aI (k 0) 36 anI), (h0, ob 8 [.int h0f0, .int h0f1, .int h0f2, .int h0f3, .int h0f4, .int h0f5, .ref h1, .ref h2, .int h0f8, .int h0f9, .ref h3, .ref h4, .ref h5, .ref h6, .ref h7, .ref h8, .ref h9, .int h0f17, .int h0f18, .int h0f19, .ref h10, .ref h11, .ref h12, .ref h13, .int h0f24, .int h0f25, .ref h14, .ref h15, .ref h16, .ref h17, .int h0f30, .int h0f31, .ref h18, .ref h19, .ref h20, .ref h21]), (h4, aJ (k 1) 9 anJ), (h5, aJ (k 1) 9 anJ), (h7, aJ (k 1) 4 (zJ [2, 3]))] _ := hT
                            exfalso; omega
                          · skip
                            have hT := J _ hT1
                            have hT : TP D A [(h1, aI (k 0) 36 anI), (h0, ob 8 [.int h0f0, .int h0f1, .int h0f2, .int h0f3, .int h0f4, .int h0f5, .ref h1, .ref h2, .int h0f8, .int h0f9, .ref h3, .ref h4, .ref h5, .ref h6, .ref h7, .ref h8, .ref h9, .int h0f17, .int h0f18, .int h0f19, .ref h10, .ref h11, .ref h12, .ref h13, .int h0f24, .int h0f25, .ref h14, .ref h15, .ref h16, .ref h17, .int h0f30, .int h0f31, .ref h18, .ref h19, .ref h20, .ref h21]), (h4, aJ (k 1) 9 anJ), (h5, aJ (k 1) 9 anJ), (h7, aJ (k 1) 4 (zJ [2, 3]))] _ := hT
                            refine lv_if_eq (tgt := 90) hx hb dX11_factor_81 (by decide) (fun cc => absurd cc (by decide +kernel)) (fun _ => ?_)
                            refine lv_iinc (v := 2) (lv' := [(3, .int 2), (4, .int 2), (0, .ref h0), (1, .int x1), (2, .int x2)]) hx hb dX11_factor_84 hl (k := 0) rfl (by decide) (by decide) rfl (fun ls hl => ?_)
                            refine lv_goto (tgt := 45) hx hb dX11_factor_87 (by decide) ?_
                            refine lv_aload_n hx hb dX11_factor_45 rfl (lv_at hl 2 rfl) ?_
                            refine lv_iload hx hb dX11_factor_46 (lv_at hl 1 rfl) ?_
                            refine lv_iload_n hx hb dX11_factor_48 rfl (lv_at hl 4 rfl) ?_
                            refine lv_iconst (v := 1) hx hb dX11_factor_49 (by decide) ?_
                            refine lv_icmp_ne (tgt := 57) hx hb dX11_factor_50 (by decide) (fun c_307 => ?_) (fun c_307 => ?_)
                            · skip
                              have c_307 := ni_ne c_307 rfl li_1
                              refine lv_iconst (v := 1) hx hb dX11_factor_57 (by decide) ?_
                              refine lv_iload_n hx hb dX11_factor_58 rfl (lv_at hl 4 rfl) ?_
                              refine lv_iconst (v := 3) hx hb dX11_factor_59 (by decide) ?_
                              refine lv_icmp_ne (tgt := 67) hx hb dX11_factor_60 (by decide) (fun c_308 => ?_) (fun c_308 => ?_)
                              · skip
                                have c_308 := ni_ne c_308 rfl li_3
                                refine lv_iload_n hx hb dX11_factor_67 rfl (lv_at hl 4 rfl) ?_
                                refine lv_bipush (v := 6) hx hb dX11_factor_68 (by decide) ?_
                                refine lv_icmp_ne (tgt := 77) hx hb dX11_factor_70 (by decide) (fun c_309 => ?_) (fun c_309 => ?_)
                                · skip
                                  have c_309 := ni_ne c_309 rfl li_6
                                  exfalso; omega
                                · skip
                                  have c_309 := ni_eq c_309 rfl li_6
                                  refine lv_iconst (v := (-1)) hx hb dX11_factor_73 (by decide) ?_
                                  refine lv_goto (tgt := 78) hx hb dX11_factor_74 (by decide) ?_
                                  have q_q311 := li_2
                                  have q_q312 := li_1
                                  have q_q313 := li_m1
                                  refine tcI (Tc := [(h0, ob 8 [.int h0f0, .int h0f1, .int h0f2, .int h0f3, .int h0f4, .int h0f5, .ref h1, .ref h2, .int h0f8, .int h0f9, .ref h3, .ref h4, .ref h5, .ref h6, .ref h7, .ref h8, .ref h9, .int h0f17, .int h0f18, .int h0f19, .ref h10, .ref h11, .ref h12, .ref h13, .int h0f24, .int h0f25, .ref h14, .ref h15, .ref h16, .ref h17, .int h0f30, .int h0f31, .ref h18, .ref h19, .ref h20, .ref h21]), (h4, aJ (k 1) 9 anJ), (h5, aJ (k 1) 9 anJ), (h7, aJ (k 1) 4 (zJ [2, 3]))]) (Tr := [(h1, aI (k 0) 36 anI)]) (as := [h0, h4, h5, h7]) (zcV (q0 := 1) (ci := 8) (As := [.int 2, .int 1, .int (-1)]) (rest := []) (Tc := [(h0, ob 8 [.int h0f0, .int h0f1, .int h0f2, .int h0f3, .int h0f4, .int h0f5, .ref h1, .ref h2, .int h0f8, .int h0f9, .ref h3, .ref h4, .ref h5, .ref h6, .ref h7, .ref h8, .ref h9, .int h0f17, .int h0f18, .int h0f19, .ref h10, .ref h11, .ref h12, .ref h13, .int h0f24, .int h0f25, .ref h14, .ref h15, .ref h16, .ref h17, .int h0f30, .int h0f31, .ref h18, .ref h19, .ref h20, .ref h21]), (h4, aJ (k 1) 9 anJ), (h5, aJ (k 1) 9 anJ), (h7, aJ (k 1) 4 (zJ [2, 3]))]) hx hb hml hown hU hK hT rfl rfl [1, 2, 3, 4] rfl (by decide) (cX11_takesOut_2378e l D k _ h0 h4 h5 h7 h1 h2 h3 h6 h8 h9 h10 h11 h12 h13 h14 h15 h16 h17 h18 h19 h20 h21 (2) (1) ((-1)) h0f0 h0f1 h0f2 h0f3 h0f4 h0f5 h0f8 h0f9 h0f17 h0f18 h0f19 h0f24 h0f25 h0f30 h0f31 (by have := li_2; omega) (by have := li_1; omega) (by have := li_m1; omega) (by omega) (by omega) (by omega) (by omega) (by omega) (by omega) (by omega) (by omega) (by omega) (by omega) (by omega) (by omega) (by omega) (by have := li_2; have := li_1; have := li_m1; omega) (by have := li_2; have := li_1; have := li_m1; omega)) w999 w996 w998 w41 w72 hdX11_takesOut ⟨rfl, rfl⟩ ⟨Nat.le_of_ble_eq_true rfl, Nat.le_of_ble_eq_true rfl⟩ rfl hl.1 (Nat.le_of_ble_eq_true rfl) dX11_factor_78 ⟨Nat.le_of_ble_eq_true rfl, Nat.le_of_ble_eq_true rfl⟩) hT hS hA [1, 2, 3, 4] [0] rfl rfl rfl (by decide) (by decide) (fun r310 H locs hB J hS => ?_)
                                  rcases hB with ⟨rfl, hT1⟩ | ⟨v314, v315, b_v315, c_316, c_317, c_318, c_319, c_320, c_321, c_322, c_323, rfl, hT1⟩
                                  · skip
                                    have hT := J _ hT1
                                    have hT : TP D A [(h1, aI (k 0) 36 anI), (h0, ob 8 [.int h0f0, .int h0f1, .int h0f2, .int h0f3, .int h0f4, .int h0f5, .ref h1, .ref h2, .int h0f8, .int h0f9, .ref h3, .ref h4, .ref h5, .ref h6, .ref h7, .ref h8, .ref h9, .int h0f17, .int h0f18, .int h0f19, .ref h10, .ref h11, .ref h12, .ref h13, .int h0f24, .int h0f25, .ref h14, .ref h15, .ref h16, .ref h17, .int h0f30, .int h0f31, .ref h18, .ref h19, .ref h20, .ref h21]), (h4, aJ (k 1) 9 anJ), (h5, aJ (k 1) 9 anJ), (h7, aJ (k 1) 4 anJ)] _ := hT
                                    refine lv_if_eq (tgt := 90) hx hb dX11_factor_81 (by decide) (fun _ => ?_) (fun cc => absurd (by decide +kernel) cc)
                                    refine lv_iload_n hx hb dX11_factor_90 rfl (lv_at hl 0 rfl) ?_
                                    exact tz_retI (B := B_cX11_factor_71296 D k h0 h1 h4 h5 h7 h2 h3 h6 h8 h9 h10 h11 h12 h13 h14 h15 h16 h17 h18 h19 h20 h21 x1 x2 h0f0 h0f1 h0f2 h0f3 h0f4 h0f5 h0f8 h0f9 h0f17 h0f18 h0f19 h0f24 h0f25 h0f30 h0f31) (v := 2) hQ hx hb hr hlocks hS (Nat.le_of_ble_eq_true rfl) (Nat.le_of_ble_eq_true rfl) dX11_factor_91 (⟨(by have := li_2; omega), (hT.sub [1, 0, 2, 3, 4] (by decide) rfl)⟩)
                                  · skip
                                    have hT := J _ hT1
                                    have hT : TP D A [(h1, aI (k 0) 36 anI), (h0, ob 8 [.int h0f0, .int h0f1, .int h0f2, .int h0f3, .int h0f4, .int h0f5, .ref h1, .ref h2, .int h0f8, .int h0f9, .ref h3, .ref h4, .ref h5, .ref h6, .ref h7, .ref h8, .ref h9, .int h0f17, .int h0f18, .int h0f19, .ref h10, .ref h11, .ref h12, .ref h13, .int h0f24, .int h0f25, .ref h14, .ref h15, .ref h16, .ref h17, .int h0f30, .int h0f31, .ref h18, .ref h19, .ref h20, .ref h21]), (h4, aJ (k 1) 9 anJ), (h5, aJ (k 1) 9 anJ), (h7, aJ (k 1) 4 (zJ [1, 2, 3]))] _ := hT
                                    exfalso; omega
                              · skip
                                have c_308 := ni_eq c_308 rfl li_3
                                exfalso; omega
                            · skip
                              have c_307 := ni_eq c_307 rfl li_1
                              exfalso; omega
                      · skip
                        have c_267 := ni_eq c_267 rfl li_3
                        exfalso; omega
                    · skip
                      have c_266 := ni_eq c_266 rfl li_1
                      exfalso; omega
                  · skip
                    have hT := J _ hT1
                    have hT : TP D A [(h1, aI (k 0) 36 anI), (h0, ob 8 [.int h0f0, .int h0f1, .int h0f2, .int h0f3, .int h0f4, .int h0f5, .ref h1, .ref h2, .int h0f8, .int h0f9, .ref h3, .ref h4, .ref h5, .ref h6, .ref h7, .ref h8, .ref h9, .int h0f17, .int h0f18, .int h0f19, .ref h10, .ref h11, .ref h12, .ref h13, .int h0f24, .int h0f25, .ref h14, .ref h15, .ref h16, .ref h17, .int h0f30, .int h0f31, .ref h18, .ref h19, .ref h20, .ref h21]), (h4, aJ (k 1) 9 anJ), (h5, aJ (k 1) 9 anJ), (h7, aJ (k 1) 4 (zJ [3]))] _ := hT
                    refine lv_if_eq (tgt := 90) hx hb dX11_factor_81 (by decide) (fun cc => absurd cc (by decide +kernel)) (fun _ => ?_)
                    refine lv_iinc (v := 1) (lv' := [(3, .int 1), (4, .int 2), (0, .ref h0), (1, .int x1), (2, .int x2)]) hx hb dX11_factor_84 hl (k := 1) rfl (by decide) (by decide) rfl (fun ls hl => ?_)
                    refine lv_goto (tgt := 45) hx hb dX11_factor_87 (by decide) ?_
                    refine lv_aload_n hx hb dX11_factor_45 rfl (lv_at hl 2 rfl) ?_
                    refine lv_iload hx hb dX11_factor_46 (lv_at hl 1 rfl) ?_
                    refine lv_iload_n hx hb dX11_factor_48 rfl (lv_at hl 4 rfl) ?_
                    refine lv_iconst (v := 1) hx hb dX11_factor_49 (by decide) ?_
                    refine lv_icmp_ne (tgt := 57) hx hb dX11_factor_50 (by decide) (fun c_324 => ?_) (fun c_324 => ?_)
                    · skip
                      have c_324 := ni_ne c_324 rfl li_1
                      refine lv_iconst (v := 1) hx hb dX11_factor_57 (by decide) ?_
                      refine lv_iload_n hx hb dX11_factor_58 rfl (lv_at hl 4 rfl) ?_
                      refine lv_iconst (v := 3) hx hb dX11_factor_59 (by decide) ?_
                      refine lv_icmp_ne (tgt := 67) hx hb dX11_factor_60 (by decide) (fun c_325 => ?_) (fun c_325 => ?_)
                      · skip
                        have c_325 := ni_ne c_325 rfl li_3
                        refine lv_iload_n hx hb dX11_factor_67 rfl (lv_at hl 4 rfl) ?_
                        refine lv_bipush (v := 6) hx hb dX11_factor_68 (by decide) ?_
                        refine lv_icmp_ne (tgt := 77) hx hb dX11_factor_70 (by decide) (fun c_326 => ?_) (fun c_326 => ?_)
                        · skip
                          have c_326 := ni_ne c_326 rfl li_6
                          exfalso; omega
                        · skip
                          have c_326 := ni_eq c_326 rfl li_6
                          refine lv_iconst (v := (-1)) hx hb dX11_factor_73 (by decide) ?_
                          refine lv_goto (tgt := 78) hx hb dX11_factor_74 (by decide) ?_
                          have q_q328 := li_2
                          have q_q329 := li_1
                          have q_q330 := li_m1
                          refine tcI (Tc := [(h0, ob 8 [.int h0f0, .int h0f1, .int h0f2, .int h0f3, .int h0f4, .int h0f5, .ref h1, .ref h2, .int h0f8, .int h0f9, .ref h3, .ref h4, .ref h5, .ref h6, .ref h7, .ref h8, .ref h9, .int h0f17, .int h0f18, .int h0f19, .ref h10, .ref h11, .ref h12, .ref h13, .int h0f24, .int h0f25, .ref h14, .ref h15, .ref h16, .ref h17, .int h0f30, .int h0f31, .ref h18, .ref h19, .ref h20, .ref h21]), (h4, aJ (k 1) 9 anJ), (h5, aJ (k 1) 9 anJ), (h7, aJ (k 1) 4 (zJ [3]))]) (Tr := [(h1, aI (k 0) 36 anI)]) (as := [h0, h4, h5, h7]) (zcV (q0 := 1) (ci := 8) (As := [.int 2, .int 1, .int (-1)]) (rest := []) (Tc := [(h0, ob 8 [.int h0f0, .int h0f1, .int h0f2, .int h0f3, .int h0f4, .int h0f5, .ref h1, .ref h2, .int h0f8, .int h0f9, .ref h3, .ref h4, .ref h5, .ref h6, .ref h7, .ref h8, .ref h9, .int h0f17, .int h0f18, .int h0f19, .ref h10, .ref h11, .ref h12, .ref h13, .int h0f24, .int h0f25, .ref h14, .ref h15, .ref h16, .ref h17, .int h0f30, .int h0f31, .ref h18, .ref h19, .ref h20, .ref h21]), (h4, aJ (k 1) 9 anJ), (h5, aJ (k 1) 9 anJ), (h7, aJ (k 1) 4 (zJ [3]))]) hx hb hml hown hU hK hT rfl rfl [1, 2, 3, 4] rfl (by decide) (cX11_takesOut_a13ae l D k _ h0 h4 h5 h7 h1 h2 h3 h6 h8 h9 h10 h11 h12 h13 h14 h15 h16 h17 h18 h19 h20 h21 (2) (1) ((-1)) h0f0 h0f1 h0f2 h0f3 h0f4 h0f5 h0f8 h0f9 h0f17 h0f18 h0f19 h0f24 h0f25 h0f30 h0f31 (by have := li_2; omega) (by have := li_1; omega) (by have := li_m1; omega) (by omega) (by omega) (by omega) (by omega) (by omega) (by omega) (by omega) (by omega) (by omega) (by omega) (by omega) (by omega) (by omega) (by have := li_2; have := li_1; have := li_m1; omega) (by have := li_2; have := li_1; have := li_m1; omega)) w999 w996 w998 w41 w72 hdX11_takesOut ⟨rfl, rfl⟩ ⟨Nat.le_of_ble_eq_true rfl, Nat.le_of_ble_eq_true rfl⟩ rfl hl.1 (Nat.le_of_ble_eq_true rfl) dX11_factor_78 ⟨Nat.le_of_ble_eq_true rfl, Nat.le_of_ble_eq_true rfl⟩) hT hS hA [1, 2, 3, 4] [0] rfl rfl rfl (by decide) (by decide) (fun r327 H locs hB J hS => ?_)
                          rcases hB with ⟨rfl, hT1⟩ | ⟨v331, v332, b_v332, c_333, c_334, c_335, c_336, c_337, c_338, c_339, c_340, c_341, rfl, hT1⟩ | ⟨v342, v343, v344, b_v342, b_v344, c_345, c_346, c_347, c_348, c_349, c_350, c_351, c_352, c_353, rfl, hT1⟩ | ⟨v354, v355, v356, b_v355, b_v356, c_357, c_358, c_359, c_360, c_361, c_362, c_363, c_364, rfl, hT1⟩
                          · skip
                            have hT := J _ hT1
                            have hT : TP D A [(h1, aI (k 0) 36 anI), (h0, ob 8 [.int h0f0, .int h0f1, .int h0f2, .int h0f3, .int h0f4, .int h0f5, .ref h1, .ref h2, .int h0f8, .int h0f9, .ref h3, .ref h4, .ref h5, .ref h6, .ref h7, .ref h8, .ref h9, .int h0f17, .int h0f18, .int h0f19, .ref h10, .ref h11, .ref h12, .ref h13, .int h0f24, .int h0f25, .ref h14, .ref h15, .ref h16, .ref h17, .int h0f30, .int h0f31, .ref h18, .ref h19, .ref h20, .ref h21]), (h4, aJ (k 1) 9 anJ), (h5, aJ (k 1) 9 anJ), (h7, aJ (k 1) 4 anJ)] _ := hT
                            refine lv_if_eq (tgt := 90) hx hb dX11_factor_81 (by decide) (fun _ => ?_) (fun cc => absurd (by decide +kernel) cc)
                            refine lv_iload_n hx hb dX11_factor_90 rfl (lv_at hl 0 rfl) ?_
                            exact tz_retI (B := B_cX11_factor_71296 D k h0 h1 h4 h5 h7 h2 h3 h6 h8 h9 h10 h11 h12 h13 h14 h15 h16 h17 h18 h19 h20 h21 x1 x2 h0f0 h0f1 h0f2 h0f3 h0f4 h0f5 h0f8 h0f9 h0f17 h0f18 h0f19 h0f24 h0f25 h0f30 h0f31) (v := 1) hQ hx hb hr hlocks hS (Nat.le_of_ble_eq_true rfl) (Nat.le_of_ble_eq_true rfl) dX11_factor_91 (⟨(by have := li_1; omega), (hT.sub [1, 0, 2, 3, 4] (by decide) rfl)⟩)
                          · skip
                            have hT := J _ hT1
                            have hT : TP D A [(h1, aI (k 0) 36 anI), (h0, ob 8 [.int h0f0, .int h0f1, .int h0f2, .int h0f3, .int h0f4, .int h0f5, .ref h1, .ref h2, .int h0f8, .int h0f9, .ref h3, .ref h4, .ref h5, .ref h6, .ref h7, .ref h8, .ref h9, .int h0f17, .int h0f18, .int h0f19, .ref h10, .ref h11, .ref h12, .ref h13, .int h0f24, .int h0f25, .ref h14, .ref h15, .ref h16, .ref h17, .int h0f30, .int h0f31, .ref h18, .ref h19, .ref h20, .ref h21]), (h4, aJ (k 1) 9 anJ), (h5, aJ (k 1) 9 anJ), (h7, aJ (k 1) 4 (zJ [2, 3]))] _ := hT
                            exfalso; omega
                          · skip
                            have hT := J _ hT1
                            have hT : TP D A [(h1, aI (k 0) 36 anI), (h0, ob 8 [.int h0f0, .int h0f1, .int h0f2, .int h0f3, .int h0f4, .int h0f5, .ref h1, .ref h2, .int h0f8, .int h0f9, .ref h3, .ref h4, .ref h5, .ref h6, .ref h7, .ref h8, .ref h9, .int h0f17, .int h0f18, .int h0f19, .ref h10, .ref h11, .ref h12, .ref h13, .int h0f24, .int h0f25, .ref h14, .ref h15, .ref h16, .ref h17, .int h0f30, .int h0f31, .ref h18, .ref h19, .ref h20, .ref h21]), (h4, aJ (k 1) 9 anJ), (h5, aJ (k 1) 9 anJ), (h7, aJ (k 1) 4 (zJ [2, 3]))] _ := hT
                            exfalso; omega
                          · skip
                            have hT := J _ hT1
                            have hT : TP D A [(h1, aI (k 0) 36 anI), (h0, ob 8 [.int h0f0, .int h0f1, .int h0f2, .int h0f3, .int h0f4, .int h0f5, .ref h1, .ref h2, .int h0f8, .int h0f9, .ref h3, .ref h4, .ref h5, .ref h6, .ref h7, .ref h8, .ref h9, .int h0f17, .int h0f18, .int h0f19, .ref h10, .ref h11, .ref h12, .ref h13, .int h0f24, .int h0f25, .ref h14, .ref h15, .ref h16, .ref h17, .int h0f30, .int h0f31, .ref h18, .ref h19, .ref h20, .ref h21]), (h4, aJ (k 1) 9 anJ), (h5, aJ (k 1) 9 anJ), (h7, aJ (k 1) 4 (zJ [2, 3]))] _ := hT
                            refine lv_if_eq (tgt := 90) hx hb dX11_factor_81 (by decide) (fun cc => absurd cc (by decide +kernel)) (fun _ => ?_)
                            refine lv_iinc (v := 2) (lv' := [(3, .int 2), (4, .int 2), (0, .ref h0), (1, .int x1), (2, .int x2)]) hx hb dX11_factor_84 hl (k := 0) rfl (by decide) (by decide) rfl (fun ls hl => ?_)
                            refine lv_goto (tgt := 45) hx hb dX11_factor_87 (by decide) ?_
                            refine lv_aload_n hx hb dX11_factor_45 rfl (lv_at hl 2 rfl) ?_
                            refine lv_iload hx hb dX11_factor_46 (lv_at hl 1 rfl) ?_
                            refine lv_iload_n hx hb dX11_factor_48 rfl (lv_at hl 4 rfl) ?_
                            refine lv_iconst (v := 1) hx hb dX11_factor_49 (by decide) ?_
                            refine lv_icmp_ne (tgt := 57) hx hb dX11_factor_50 (by decide) (fun c_365 => ?_) (fun c_365 => ?_)
                            · skip
                              have c_365 := ni_ne c_365 rfl li_1
                              refine lv_iconst (v := 1) hx hb dX11_factor_57 (by decide) ?_
                              refine lv_iload_n hx hb dX11_factor_58 rfl (lv_at hl 4 rfl) ?_
                              refine lv_iconst (v := 3) hx hb dX11_factor_59 (by decide) ?_
                              refine lv_icmp_ne (tgt := 67) hx hb dX11_factor_60 (by decide) (fun c_366 => ?_) (fun c_366 => ?_)
                              · skip
                                have c_366 := ni_ne c_366 rfl li_3
                                refine lv_iload_n hx hb dX11_factor_67 rfl (lv_at hl 4 rfl) ?_
                                refine lv_bipush (v := 6) hx hb dX11_factor_68 (by decide) ?_
                                refine lv_icmp_ne (tgt := 77) hx hb dX11_factor_70 (by decide) (fun c_367 => ?_) (fun c_367 => ?_)
                                · skip
                                  have c_367 := ni_ne c_367 rfl li_6
                                  exfalso; omega
                                · skip
                                  have c_367 := ni_eq c_367 rfl li_6
                                  refine lv_iconst (v := (-1)) hx hb dX11_factor_73 (by decide) ?_
                                  refine lv_goto (tgt := 78) hx hb dX11_factor_74 (by decide) ?_
                                  have q_q369 := li_2
                                  have q_q370 := li_1
                                  have q_q371 := li_m1
                                  refine tcI (Tc := [(h0, ob 8 [.int h0f0, .int h0f1, .int h0f2, .int h0f3, .int h0f4, .int h0f5, .ref h1, .ref h2, .int h0f8, .int h0f9, .ref h3, .ref h4, .ref h5, .ref h6, .ref h7, .ref h8, .ref h9, .int h0f17, .int h0f18, .int h0f19, .ref h10, .ref h11, .ref h12, .ref h13, .int h0f24, .int h0f25, .ref h14, .ref h15, .ref h16, .ref h17, .int h0f30, .int h0f31, .ref h18, .ref h19, .ref h20, .ref h21]), (h4, aJ (k 1) 9 anJ), (h5, aJ (k 1) 9 anJ), (h7, aJ (k 1) 4 (zJ [2, 3]))]) (Tr := [(h1, aI (k 0) 36 anI)]) (as := [h0, h4, h5, h7]) (zcV (q0 := 1) (ci := 8) (As := [.int 2, .int 1, .int (-1)]) (rest := []) (Tc := [(h0, ob 8 [.int h0f0, .int h0f1, .int h0f2, .int h0f3, .int h0f4, .int h0f5, .ref h1, .ref h2, .int h0f8, .int h0f9, .ref h3, .ref h4, .ref h5, .ref h6, .ref h7, .ref h8, .ref h9, .int h0f17, .int h0f18, .int h0f19, .ref h10, .ref h11, .ref h12, .ref h13, .int h0f24, .int h0f25, .ref h14, .ref h15, .ref h16, .ref h17, .int h0f30, .int h0f31, .ref h18, .ref h19, .ref h20, .ref h21]), (h4, aJ (k 1) 9 anJ), (h5, aJ (k 1) 9 anJ), (h7, aJ (k 1) 4 (zJ [2, 3]))]) hx hb hml hown hU hK hT rfl rfl [1, 2, 3, 4] rfl (by decide) (cX11_takesOut_2378e l D k _ h0 h4 h5 h7 h1 h2 h3 h6 h8 h9 h10 h11 h12 h13 h14 h15 h16 h17 h18 h19 h20 h21 (2) (1) ((-1)) h0f0 h0f1 h0f2 h0f3 h0f4 h0f5 h0f8 h0f9 h0f17 h0f18 h0f19 h0f24 h0f25 h0f30 h0f31 (by have := li_2; omega) (by have := li_1; omega) (by have := li_m1; omega) (by omega) (by omega) (by omega) (by omega) (by omega) (by omega) (by omega) (by omega) (by omega) (by omega) (by omega) (by omega) (by omega) (by have := li_2; have := li_1; have := li_m1; omega) (by have := li_2; have := li_1; have := li_m1; omega)) w999 w996 w998 w41 w72 hdX11_takesOut ⟨rfl, rfl⟩ ⟨Nat.le_of_ble_eq_true rfl, Nat.le_of_ble_eq_true rfl⟩ rfl hl.1 (Nat.le_of_ble_eq_true rfl) dX11_factor_78 ⟨Nat.le_of_ble_eq_true rfl, Nat.le_of_ble_eq_true rfl⟩) hT hS hA [1, 2, 3, 4] [0] rfl rfl rfl (by decide) (by decide) (fun r368 H locs hB J hS => ?_)
                                  rcases hB with ⟨rfl, hT1⟩ | ⟨v372, v373, b_v373, c_374, c_375, c_376, c_377, c_378, c_379, c_380, c_381, rfl, hT1⟩
                                  · skip
                                    have hT := J _ hT1
                                    have hT : TP D A [(h1, aI (k 0) 36 anI), (h0, ob 8 [.int h0f0, .int h0f1, .int h0f2, .int h0f3, .int h0f4, .int h0f5, .ref h1, .ref h2, .int h0f8, .int h0f9, .ref h3, .ref h4, .ref h5, .ref h6, .ref h7, .ref h8, .ref h9, .int h0f17, .int h0f18, .int h0f19, .ref h10, .ref h11, .ref h12, .ref h13, .int h0f24, .int h0f25, .ref h14, .ref h15, .ref h16, .ref h17, .int h0f30, .int h0f31, .ref h18, .ref h19, .ref h20, .ref h21]), (h4, aJ (k 1) 9 anJ), (h5, aJ (k 1) 9 anJ), (h7, aJ (k 1) 4 anJ)] _ := hT
                                    refine lv_if_eq (tgt := 90) hx hb dX11_factor_81 (by decide) (fun _ => ?_) (fun cc => absurd (by decide +kernel) cc)
                                    refine lv_iload_n hx hb dX11_factor_90 rfl (lv_at hl 0 rfl) ?_
                                    exact tz_retI (B := B_cX11_factor_71296 D k h0 h1 h4 h5 h7 h2 h3 h6 h8 h9 h10 h11 h12 h13 h14 h15 h16 h17 h18 h19 h20 h21 x1 x2 h0f0 h0f1 h0f2 h0f3 h0f4 h0f5 h0f8 h0f9 h0f17 h0f18 h0f19 h0f24 h0f25 h0f30 h0f31) (v := 2) hQ hx hb hr hlocks hS (Nat.le_of_ble_eq_true rfl) (Nat.le_of_ble_eq_true rfl) dX11_factor_91 (⟨(by have := li_2; omega), (hT.sub [1, 0, 2, 3, 4] (by decide) rfl)⟩)
                                  · skip
                                    have hT := J _ hT1
                                    have hT : TP D A [(h1, aI (k 0) 36 anI), (h0, ob 8 [.int h0f0, .int h0f1, .int h0f2, .int h0f3, .int h0f4, .int h0f5, .ref h1, .ref h2, .int h0f8, .int h0f9, .ref h3, .ref h4, .ref h5, .ref h6, .ref h7, .ref h8, .ref h9, .int h0f17, .int h0f18, .int h0f19, .ref h10, .ref h11, .ref h12, .ref h13, .int h0f24, .int h0f25, .ref h14, .ref h15, .ref h16, .ref h17, .int h0f30, .int h0f31, .ref h18, .ref h19, .ref h20, .ref h21]), (h4, aJ (k 1) 9 anJ), (h5, aJ (k 1) 9 anJ), (h7, aJ (k 1) 4 (zJ [1, 2, 3]))] _ := hT
                                    exfalso; omega
                              · skip
                                have c_366 := ni_eq c_366 rfl li_3
                                exfalso; omega
                            · skip
                              have c_365 := ni_eq c_365 rfl li_1
                              exfalso; omega
                      · skip
                        have c_325 := ni_eq c_325 rfl li_3
                        exfalso; omega
                    · skip
                      have c_324 := ni_eq c_324 rfl li_1
                      exfalso; omega
              · skip
                have c_12 := ni_eq c_12 rfl li_3
                refine lv_iconst (v := 1) hx hb dX11_factor_63 (by decide) ?_
                refine lv_goto (tgt := 78) hx hb dX11_factor_64 (by decide) ?_
                have q_q383 := li_2
                have q_q384 := li_1
                have q_q385 := li_1
                refine tcI (Tc := [(h0, ob 8 [.int h0f0, .int h0f1, .int h0f2, .int h0f3, .int h0f4, .int h0f5, .ref h1, .ref h2, .int h0f8, .int h0f9, .ref h3, .ref h4, .ref h5, .ref h6, .ref h7, .ref h8, .ref h9, .int h0f17, .int h0f18, .int h0f19, .ref h10, .ref h11, .ref h12, .ref h13, .int h0f24, .int h0f25, .ref h14, .ref h15, .ref h16, .ref h17, .int h0f30, .int h0f31, .ref h18, .ref h19, .ref h20, .ref h21]), (h4, aJ (k 1) 9 anJ), (h5, aJ (k 1) 9 anJ), (h7, aJ (k 1) 4 anJ)]) (Tr := [(h1, aI (k 0) 36 anI)]) (as := [h0, h4, h5, h7]) (zcV (q0 := 1) (ci := 8) (As := [.int 2, .int 1, .int 1]) (rest := []) (Tc := [(h0, ob 8 [.int h0f0, .int h0f1, .int h0f2, .int h0f3, .int h0f4, .int h0f5, .ref h1, .ref h2, .int h0f8, .int h0f9, .ref h3, .ref h4, .ref h5, .ref h6, .ref h7, .ref h8, .ref h9, .int h0f17, .int h0f18, .int h0f19, .ref h10, .ref h11, .ref h12, .ref h13, .int h0f24, .int h0f25, .ref h14, .ref h15, .ref h16, .ref h17, .int h0f30, .int h0f31, .ref h18, .ref h19, .ref h20, .ref h21]), (h4, aJ (k 1) 9 anJ), (h5, aJ (k 1) 9 anJ), (h7, aJ (k 1) 4 anJ)]) hx hb hml hown hU hK hT rfl rfl [1, 3, 0, 4] rfl (by decide) (cX11_takesOut_ae7df l D k _ h0 h4 h5 h7 h1 h2 h3 h6 h8 h9 h10 h11 h12 h13 h14 h15 h16 h17 h18 h19 h20 h21 (2) (1) (1) h0f0 h0f1 h0f2 h0f3 h0f4 h0f5 h0f8 h0f9 h0f17 h0f18 h0f19 h0f24 h0f25 h0f30 h0f31 (by have := li_2; omega) (by have := li_1; omega) (by have := li_1; omega) (by omega) (by omega) (by omega) (by omega) (by omega) (by omega) (by omega) (by omega) (by omega) (by omega) (by omega) (by omega) (by omega) (by have := li_2; have := li_1; have := li_1; omega) (by have := li_2; have := li_1; have := li_1; omega)) w999 w996 w998 w41 w72 hdX11_takesOut ⟨rfl, rfl⟩ ⟨Nat.le_of_ble_eq_true rfl, Nat.le_of_ble_eq_true rfl⟩ rfl hl.1 (Nat.le_of_ble_eq_true rfl) dX11_factor_78 ⟨Nat.le_of_ble_eq_true rfl, Nat.le_of_ble_eq_true rfl⟩) hT hS hA [1, 3, 0, 4] [2] rfl rfl rfl (by decide) (by decide) (fun r382 H locs hB J hS => ?_)
                rcases hB with ⟨rfl, hT1⟩ | ⟨v386, v387, b_v387, c_388, c_389, c_390, c_391, c_392, c_393, c_394, c_395, c_396, c_397, rfl, hT1⟩ | ⟨v398, v399, v400, b_v398, b_v400, c_401, c_402, c_403, c_404, c_405, c_406, c_407, c_408, c_409, c_410, rfl, hT1⟩ | ⟨v411, v412, v413, v414, b_v411, b_v412, b_v414, c_415, c_416, c_417, c_418, c_419, c_420, c_421, c_422, c_423, c_424, rfl, hT1⟩ | ⟨v425, v426, v427, b_v426, b_v427, c_428, c_429, c_430, c_431, c_432, c_433, c_434, c_435, c_436, rfl, hT1⟩ | ⟨v437, v438, v439, v440, b_v437, b_v439, b_v440, c_441, c_442, c_443, c_444, c_445, c_446, c_447, c_448, c_449, rfl, hT1⟩
                · skip
                  have hT := J _ hT1
                  have hT : TP D A [(h1, aI (k 0) 36 anI), (h0, ob 8 [.int h0f0, .int h0f1, .int h0f2, .int h0f3, .int h0f4, .int h0f5, .ref h1, .ref h2, .int h0f8, .int h0f9, .ref h3, .ref h4, .ref h5, .ref h6, .ref h7, .ref h8, .ref h9, .int h0f17, .int h0f18, .int h0f19, .ref h10, .ref h11, .ref h12, .ref h13, .int h0f24, .int h0f25, .ref h14, .ref h15, .ref h16, .ref h17, .int h0f30, .int h0f31, .ref h18, .ref h19, .ref h20, .ref h21]), (h4, aJ (k 1) 9 anJ), (h5, aJ (k 1) 9 anJ), (h7, aJ (k 1) 4 anJ)] _ := hT
                  refine lv_if_eq (tgt := 90) hx hb dX11_factor_81 (by decide) (fun _ => ?_) (fun cc => absurd (by decide +kernel) cc)
                  refine lv_iload_n hx hb dX11_factor_90 rfl (lv_at hl 1 rfl) ?_
                  exact tz_retI (B := B_cX11_factor_71296 D k h0 h1 h4 h5 h7 h2 h3 h6 h8 h9 h10 h11 h12 h13 h14 h15 h16 h17 h18 h19 h20 h21 x1 x2 h0f0 h0f1 h0f2 h0f3 h0f4 h0f5 h0f8 h0f9 h0f17 h0f18 h0f19 h0f24 h0f25 h0f30 h0f31) (v := 0) hQ hx hb hr hlocks hS (Nat.le_of_ble_eq_true rfl) (Nat.le_of_ble_eq_true rfl) dX11_factor_91 (⟨(by have := li_0; omega), (hT.sub [1, 0, 2, 3, 4] (by decide) rfl)⟩)
                · skip
                  have hT := J _ hT1
                  have hT : TP D A [(h1, aI (k 0) 36 anI), (h0, ob 8 [.int h0f0, .int h0f1, .int h0f2, .int h0f3, .int h0f4, .int h0f5, .ref h1, .ref h2, .int h0f8, .int h0f9, .ref h3, .ref h4, .ref h5, .ref h6, .ref h7, .ref h8, .ref h9, .int h0f17, .int h0f18, .int h0f19, .ref h10, .ref h11, .ref h12, .ref h13, .int h0f24, .int h0f25, .ref h14, .ref h15, .ref h16, .ref h17, .int h0f30, .int h0f31, .ref h18, .ref h19, .ref h20, .ref h21]), (h4, aJ (k 1) 9 anJ), (h5, aJ (k 1) 9 anJ), (h7, aJ (k 1) 4 (zJ [3]))] _ := hT
                  exfalso; omega
                · skip
                  have hT := J _ hT1
                  have hT : TP D A [(h1, aI (k 0) 36 anI), (h0, ob 8 [.int h0f0, .int h0f1, .int h0f2, .int h0f3, .int h0f4, .int h0f5, .ref h1, .ref h2, .int h0f8, .int h0f9, .ref h3, .ref h4, .ref h5, .ref h6, .ref h7, .ref h8, .ref h9, .int h0f17, .int h0f18, .int h0f19, .ref h10, .ref h11, .ref h12, .ref h13, .int h0f24, .int h0f25, .ref h14, .ref h15, .ref h16, .ref h17, .int h0f30, .int h0f31, .ref h18, .ref h19, .ref h20, .ref h21]), (h4, aJ (k 1) 9 anJ), (h5, aJ (k 1) 9 anJ), (h7, aJ (k 1) 4 (zJ [3]))] _ := hT
                  exfalso; omega
                · skip
                  have hT := J _ hT1
                  have hT : TP D A [(h1, aI (k 0) 36 anI), (h0, ob 8 [.int h0f0, .int h0f1, .int h0f2, .int h0f3, .int h0f4, .int h0f5, .ref h1, .ref h2, .int h0f8, .int h0f9, .ref h3, .ref h4, .ref h5, .ref h6, .ref h7, .ref h8, .ref h9, .int h0f17, .int h0f18, .int h0f19, .ref h10, .ref h11, .ref h12, .ref h13, .int h0f24, .int h0f25, .ref h14, .ref h15, .ref h16, .ref h17, .int h0f30, .int h0f31, .ref h18, .ref h19, .ref h20, .ref h21]), (h4, aJ (k 1) 9 anJ), (h5, aJ (k 1) 9 anJ), (h7, aJ (k 1) 4 (zJ [3]))] _ := hT
                  exfalso; omega
                · skip
                  have hT := J _ hT1
                  have hT : TP D A [(h1, aI (k 0) 36 anI), (h0, ob 8 [.int h0f0, .int h0f1, .int h0f2, .int h0f3, .int h0f4, .int h0f5, .ref h1, .ref h2, .int h0f8, .int h0f9, .ref h3, .ref h4, .ref h5, .ref h6, .ref h7, .ref h8, .ref h9, .int h0f17, .int h0f18, .int h0f19, .ref h10, .ref h11, .ref h12, .ref h13, .int h0f24, .int h0f25, .ref h14, .ref h15, .ref h16, .ref h17, .int h0f30, .int h0f31, .ref h18, .ref h19, .ref h20, .ref h21]), (h4, aJ (k 1) 9 anJ), (h5, aJ (k 1) 9 anJ), (h7, aJ (k 1) 4 (zJ [3]))] _ := hT
                  refine lv_if_eq (tgt := 90) hx hb dX11_factor_81 (by decide) (fun cc => absurd cc (by decide +kernel)) (fun _ => ?_)
                  refine lv_iinc (v := 1) (lv' := [(3, .int 1), (4, .int 2), (0, .ref h0), (1, .int x1), (2, .int x2)]) hx hb dX11_factor_84 hl (k := 1) rfl (by decide) (by decide) rfl (fun ls hl => ?_)
                  refine lv_goto (tgt := 45) hx hb dX11_factor_87 (by decide) ?_
                  refine lv_aload_n hx hb dX11_factor_45 rfl (lv_at hl 2 rfl) ?_
                  refine lv_iload hx hb dX11_factor_46 (lv_at hl 1 rfl) ?_
                  refine lv_iload_n hx hb dX11_factor_48 rfl (lv_at hl 4 rfl) ?_
                  refine lv_iconst (v := 1) hx hb dX11_factor_49 (by decide) ?_
                  refine lv_icmp_ne (tgt := 57) hx hb dX11_factor_50 (by decide) (fun c_450 => ?_) (fun c_450 => ?_)
                  · skip
                    have c_450 := ni_ne c_450 rfl li_1
                    refine lv_iconst (v := 1) hx hb dX11_factor_57 (by decide) ?_
                    refine lv_iload_n hx hb dX11_factor_58 rfl (lv_at hl 4 rfl) ?_
                    refine lv_iconst (v := 3) hx hb dX11_factor_59 (by decide) ?_
                    refine lv_icmp_ne (tgt := 67) hx hb dX11_factor_60 (by decide) (fun c_451 => ?_) (fun c_451 => ?_)
                    · skip
                      have c_451 := ni_ne c_451 rfl li_3
                      exfalso; omega
                    · skip
                      have c_451 := ni_eq c_451 rfl li_3
                      refine lv_iconst (v := 1) hx hb dX11_factor_63 (by decide) ?_
                      refine lv_goto (tgt := 78) hx hb dX11_factor_64 (by decide) ?_
                      have q_q453 := li_2
                      have q_q454 := li_1
                      have q_q455 := li_1
                      refine tcI (Tc := [(h0, ob 8 [.int h0f0, .int h0f1, .int h0f2, .int h0f3, .int h0f4, .int h0f5, .ref h1, .ref h2, .int h0f8, .int h0f9, .ref h3, .ref h4, .ref h5, .ref h6, .ref h7, .ref h8, .ref h9, .int h0f17, .int h0f18, .int h0f19, .ref h10, .ref h11, .ref h12, .ref h13, .int h0f24, .int h0f25, .ref h14, .ref h15, .ref h16, .ref h17, .int h0f30, .int h0f31, .ref h18, .ref h19, .ref h20, .ref h21]), (h4, aJ (k 1) 9 anJ), (h5, aJ (k 1) 9 anJ), (h7, aJ (k 1) 4 (zJ [3]))]) (Tr := [(h1, aI (k 0) 36 anI)]) (as := [h0, h4, h5, h7]) (zcV (q0 := 1) (ci := 8) (As := [.int 2, .int 1, .int 1]) (rest := []) (Tc := [(h0, ob 8 [.int h0f0, .int h0f1, .int h0f2, .int h0f3, .int h0f4, .int h0f5, .ref h1, .ref h2, .int h0f8, .int h0f9, .ref h3, .ref h4, .ref h5, .ref h6, .ref h7, .ref h8, .ref h9, .int h0f17, .int h0f18, .int h0f19, .ref h10, .ref h11, .ref h12, .ref h13, .int h0f24, .int h0f25, .ref h14, .ref h15, .ref h16, .ref h17, .int h0f30, .int h0f31, .ref h18, .ref h19, .ref h20, .ref h21]), (h4, aJ (k 1) 9 anJ), (h5, aJ (k 1) 9 anJ), (h7, aJ (k 1) 4 (zJ [3]))]) hx hb hml hown hU hK hT rfl rfl [1, 2, 3, 4] rfl (by decide) (cX11_takesOut_a13ae l D k _ h0 h4 h5 h7 h1 h2 h3 h6 h8 h9 h10 h11 h12 h13 h14 h15 h16 h17 h18 h19 h20 h21 (2) (1) (1) h0f0 h0f1 h0f2 h0f3 h0f4 h0f5 h0f8 h0f9 h0f17 h0f18 h0f19 h0f24 h0f25 h0f30 h0f31 (by have := li_2; omega) (by have := li_1; omega) (by have := li_1; omega) (by omega) (by omega) (by omega) (by omega) (by omega) (by omega) (by omega) (by omega) (by omega) (by omega) (by omega) (by omega) (by omega) (by have := li_2; have := li_1; have := li_1; omega) (by have := li_2; have := li_1; have := li_1; omega)) w999 w996 w998 w41 w72 hdX11_takesOut ⟨rfl, rfl⟩ ⟨Nat.le_of_ble_eq_true rfl, Nat.le_of_ble_eq_true rfl⟩ rfl hl.1 (Nat.le_of_ble_eq_true rfl) dX11_factor_78 ⟨Nat.le_of_ble_eq_true rfl, Nat.le_of_ble_eq_true rfl⟩) hT hS hA [1, 2, 3, 4] [0] rfl rfl rfl (by decide) (by decide) (fun r452 H locs hB J hS => ?_)
                      rcases hB with ⟨rfl, hT1⟩ | ⟨v456, v457, b_v457, c_458, c_459, c_460, c_461, c_462, c_463, c_464, c_465, c_466, rfl, hT1⟩ | ⟨v467, v468, v469, b_v467, b_v469, c_470, c_471, c_472, c_473, c_474, c_475, c_476, c_477, c_478, rfl, hT1⟩ | ⟨v479, v480, v481, b_v480, b_v481, c_482, c_483, c_484, c_485, c_486, c_487, c_488, c_489, rfl, hT1⟩
                      · skip
                        have hT := J _ hT1
                        have hT : TP D A [(h1, aI (k 0) 36 anI), (h0, ob 8 [.int h0f0, .int h0f1, .int h0f2, .int h0f3, .int h0f4, .int h0f5, .ref h1, .ref h2, .int h0f8, .int h0f9, .ref h3, .ref h4, .ref h5, .ref h6, .ref h7, .ref h8, .ref h9, .int h0f17, .int h0f18, .int h0f19, .ref h10, .ref h11, .ref h12, .ref h13, .int h0f24, .int h0f25, .ref h14, .ref h15, .ref h16, .ref h17, .int h0f30, .int h0f31, .ref h18, .ref h19, .ref h20, .ref h21]), (h4, aJ (k 1) 9 anJ), (h5, aJ (k 1) 9 anJ), (h7, aJ (k 1) 4 anJ)] _ := hT
                        refine lv_if_eq (tgt := 90) hx hb dX11_factor_81 (by decide) (fun _ => ?_) (fun cc => absurd (by decide +kernel) cc)
                        refine lv_iload_n hx hb dX11_factor_90 rfl (lv_at hl 0 rfl) ?_
                        exact tz_retI (B := B_cX11_factor_71296 D k h0 h1 h4 h5 h7 h2 h3 h6 h8 h9 h10 h11 h12 h13 h14 h15 h16 h17 h18 h19 h20 h21 x1 x2 h0f0 h0f1 h0f2 h0f3 h0f4 h0f5 h0f8 h0f9 h0f17 h0f18 h0f19 h0f24 h0f25 h0f30 h0f31) (v := 1) hQ hx hb hr hlocks hS (Nat.le_of_ble_eq_true rfl) (Nat.le_of_ble_eq_true rfl) dX11_factor_91 (⟨(by have := li_1; omega), (hT.sub [1, 0, 2, 3, 4] (by decide) rfl)⟩)
                      · skip
                        have hT := J _ hT1
                        have hT : TP D A [(h1, aI (k 0) 36 anI), (h0, ob 8 [.int h0f0, .int h0f1, .int h0f2, .int h0f3, .int h0f4, .int h0f5, .ref h1, .ref h2, .int h0f8, .int h0f9, .ref h3, .ref h4, .ref h5, .ref h6, .ref h7, .ref h8, .ref h9, .int h0f17, .int h0f18, .int h0f19, .ref h10, .ref h11, .ref h12, .ref h13, .int h0f24, .int h0f25, .ref h14, .ref h15, .ref h16, .ref h17, .int h0f30, .int h0f31, .ref h18, .ref h19, .ref h20, .ref h21]), (h4, aJ (k 1) 9 anJ), (h5, aJ (k 1) 9 anJ), (h7, aJ (k 1) 4 (zJ [2, 3]))] _ := hT
                        exfalso; omega
                      · skip
                        have hT := J _ hT1
                        have hT : TP D A [(h1, aI (k 0) 36 anI), (h0, ob 8 [.int h0f0, .int h0f1, .int h0f2, .int h0f3, .int h0f4, .int h0f5, .ref h1, .ref h2, .int h0f8, .int h0f9, .ref h3, .ref h4, .ref h5, .ref h6, .ref h7, .ref h8, .ref h9, .int h0f17, .int h0f18, .int h0f19, .ref h10, .ref h11, .ref h12, .ref h13, .int h0f24, .int h0f25, .ref h14, .ref h15, .ref h16, .ref h17, .int h0f30, .int h0f31, .ref h18, .ref h19, .ref h20, .ref h21]), (h4, aJ (k 1) 9 anJ), (h5, aJ (k 1) 9 anJ), (h7, aJ (k 1) 4 (zJ [2, 3]))] _ := hT
                        exfalso; omega
                      · skip
                        have hT := J _ hT1
                        have hT : TP D A [(h1, aI (k 0) 36 anI), (h0, ob 8 [.int h0f0, .int h0f1, .int h0f2, .int h0f3, .int h0f4, .int h0f5, .ref h1, .ref h2, .int h0f8, .int h0f9, .ref h3, .ref h4, .ref h5, .ref h6, .ref h7, .ref h8, .ref h9, .int h0f17, .int h0f18, .int h0f19, .ref h10, .ref h11, .ref h12, .ref h13, .int h0f24, .int h0f25, .ref h14, .ref h15, .ref h16, .ref h17, .int h0f30, .int h0f31, .ref h18, .ref h19, .ref h20, .ref h21]), (h4, aJ (k 1) 9 anJ), (h5, aJ (k 1) 9 anJ), (h7, aJ (k 1) 4 (zJ [2, 3]))] _ := hT
                        refine lv_if_eq (tgt := 90) hx hb dX11_factor_81 (by decide) (fun cc => absurd cc (by decide +kernel)) (fun _ => ?_)
                        refine lv_iinc (v := 2) (lv' := [(3, .int 2), (4, .int 2), (0, .ref h0), (1, .int x1), (2, .int x2)]) hx hb dX11_factor_84 hl (k := 0) rfl (by decide) (by decide) rfl (fun ls hl => ?_)
                        refine lv_goto (tgt := 45) hx hb dX11_factor_87 (by decide) ?_
                        refine lv_aload_n hx hb dX11_factor_45 rfl (lv_at hl 2 rfl) ?_
                        refine lv_iload hx hb dX11_factor_46 (lv_at hl 1 rfl) ?_
                        refine lv_iload_n hx hb dX11_factor_48 rfl (lv_at hl 4 rfl) ?_
                        refine lv_iconst (v := 1) hx hb dX11_factor_49 (by decide) ?_
                        refine lv_icmp_ne (tgt := 57) hx hb dX11_factor_50 (by decide) (fun c_490 => ?_) (fun c_490 => ?_)
                        · skip
                          have c_490 := ni_ne c_490 rfl li_1
                          refine lv_iconst (v := 1) hx hb dX11_factor_57 (by decide) ?_
                          refine lv_iload_n hx hb dX11_factor_58 rfl (lv_at hl 4 rfl) ?_
                          refine lv_iconst (v := 3) hx hb dX11_factor_59 (by decide) ?_
                          refine lv_icmp_ne (tgt := 67) hx hb dX11_factor_60 (by decide) (fun c_491 => ?_) (fun c_491 => ?_)
                          · skip
                            have c_491 := ni_ne c_491 rfl li_3
                            exfalso; omega
                          · skip
                            have c_491 := ni_eq c_491 rfl li_3
                            refine lv_iconst (v := 1) hx hb dX11_factor_63 (by decide) ?_
                            refine lv_goto (tgt := 78) hx hb dX11_factor_64 (by decide) ?_
                            have q_q493 := li_2
                            have q_q494 := li_1
                            have q_q495 := li_1
                            refine tcI (Tc := [(h0, ob 8 [.int h0f0, .int h0f1, .int h0f2, .int h0f3, .int h0f4, .int h0f5, .ref h1, .ref h2, .int h0f8, .int h0f9, .ref h3, .ref h4, .ref h5, .ref h6, .ref h7, .ref h8, .ref h9, .int h0f17, .int h0f18, .int h0f19, .ref h10, .ref h11, .ref h12, .ref h13, .int h0f24, .int h0f25, .ref h14, .ref h15, .ref h16, .ref h17, .int h0f30, .int h0f31, .ref h18, .ref h19, .ref h20, .ref h21]), (h4, aJ (k 1) 9 anJ), (h5, aJ (k 1) 9 anJ), (h7, aJ (k 1) 4 (zJ [2, 3]))]) (Tr := [(h1, aI (k 0) 36 anI)]) (as := [h0, h4, h5, h7]) (zcV (q0 := 1) (ci := 8) (As := [.int 2, .int 1, .int 1]) (rest := []) (Tc := [(h0, ob 8 [.int h0f0, .int h0f1, .int h0f2, .int h0f3, .int h0f4, .int h0f5, .ref h1, .ref h2, .int h0f8, .int h0f9, .ref h3, .ref h4, .ref h5, .ref h6, .ref h7, .ref h8, .ref h9, .int h0f17, .int h0f18, .int h0f19, .ref h10, .ref h11, .ref h12, .ref h13, .int h0f24, .int h0f25, .ref h14, .ref h15, .ref h16, .ref h17, .int h0f30, .int h0f31, .ref h18, .ref h19, .ref h20, .ref h21]), (h4, aJ (k 1) 9 anJ), (h5, aJ (k 1) 9 anJ), (h7, aJ (k 1) 4 (zJ [2, 3]))]) hx hb hml hown hU hK hT rfl rfl [1, 2, 3, 4] rfl (by decide) (cX11_takesOut_2378e l D k _ h0 h4 h5 h7 h1 h2 h3 h6 h8 h9 h10 h11 h12 h13 h14 h15 h16 h17 h18 h19 h20 h21 (2) (1) (1) h0f0 h0f1 h0f2 h0f3 h0f4 h0f5 h0f8 h0f9 h0f17 h0f18 h0f19 h0f24 h0f25 h0f30 h0f31 (by have := li_2; omega) (by have := li_1; omega) (by have := li_1; omega) (by omega) (by omega) (by omega) (by omega) (by omega) (by omega) (by omega) (by omega) (by omega) (by omega) (by omega) (by omega) (by omega) (by have := li_2; have := li_1; have := li_1; omega) (by have := li_2; have := li_1; have := li_1; omega)) w999 w996 w998 w41 w72 hdX11_takesOut ⟨rfl, rfl⟩ ⟨Nat.le_of_ble_eq_true rfl, Nat.le_of_ble_eq_true rfl⟩ rfl hl.1 (Nat.le_of_ble_eq_true rfl) dX11_factor_78 ⟨Nat.le_of_ble_eq_true rfl, Nat.le_of_ble_eq_true rfl⟩) hT hS hA [1, 2, 3, 4] [0] rfl rfl rfl (by decide) (by decide) (fun r492 H locs hB J hS => ?_)
                            rcases hB with ⟨rfl, hT1⟩ | ⟨v496, v497, b_v497, c_498, c_499, c_500, c_501, c_502, c_503, c_504, c_505, rfl, hT1⟩
                            · skip
                              have hT := J _ hT1
                              have hT : TP D A [(h1, aI (k 0) 36 anI), (h0, ob 8 [.int h0f0, .int h0f1, .int h0f2, .int h0f3, .int h0f4, .int h0f5, .ref h1, .ref h2, .int h0f8, .int h0f9, .ref h3, .ref h4, .ref h5, .ref h6, .ref h7, .ref h8, .ref h9, .int h0f17, .int h0f18, .int h0f19, .ref h10, .ref h11, .ref h12, .ref h13, .int h0f24, .int h0f25, .ref h14, .ref h15, .ref h16, .ref h17, .int h0f30, .int h0f31, .ref h18, .ref h19, .ref h20, .ref h21]), (h4, aJ (k 1) 9 anJ), (h5, aJ (k 1) 9 anJ), (h7, aJ (k 1) 4 anJ)] _ := hT
                              refine lv_if_eq (tgt := 90) hx hb dX11_factor_81 (by decide) (fun _ => ?_) (fun cc => absurd (by decide +kernel) cc)
                              refine lv_iload_n hx hb dX11_factor_90 rfl (lv_at hl 0 rfl) ?_
                              exact tz_retI (B := B_cX11_factor_71296 D k h0 h1 h4 h5 h7 h2 h3 h6 h8 h9 h10 h11 h12 h13 h14 h15 h16 h17 h18 h19 h20 h21 x1 x2 h0f0 h0f1 h0f2 h0f3 h0f4 h0f5 h0f8 h0f9 h0f17 h0f18 h0f19 h0f24 h0f25 h0f30 h0f31) (v := 2) hQ hx hb hr hlocks hS (Nat.le_of_ble_eq_true rfl) (Nat.le_of_ble_eq_true rfl) dX11_factor_91 (⟨(by have := li_2; omega), (hT.sub [1, 0, 2, 3, 4] (by decide) rfl)⟩)
                            · skip
                              have hT := J _ hT1
                              have hT : TP D A [(h1, aI (k 0) 36 anI), (h0, ob 8 [.int h0f0, .int h0f1, .int h0f2, .int h0f3, .int h0f4, .int h0f5, .ref h1, .ref h2, .int h0f8, .int h0f9, .ref h3, .ref h4, .ref h5, .ref h6, .ref h7, .ref h8, .ref h9, .int h0f17, .int h0f18, .int h0f19, .ref h10, .ref h11, .ref h12, .ref h13, .int h0f24, .int h0f25, .ref h14, .ref h15, .ref h16, .ref h17, .int h0f30, .int h0f31, .ref h18, .ref h19, .ref h20, .ref h21]), (h4, aJ (k 1) 9 anJ), (h5, aJ (k 1) 9 anJ), (h7, aJ (k 1) 4 (zJ [1, 2, 3]))] _ := hT
                              exfalso; omega
                        · skip
                          have c_490 := ni_eq c_490 rfl li_1
                          exfalso; omega
                  · skip
                    have c_450 := ni_eq c_450 rfl li_1
                    exfalso; omega
                · skip
                  have hT := J _ hT1
                  have hT : TP D A [(h1, aI (k 0) 36 anI), (h0, ob 8 [.int h0f0, .int h0f1, .int h0f2, .int h0f3, .int h0f4, .int h0f5, .ref h1, .ref h2, .int h0f8, .int h0f9, .ref h3, .ref h4, .ref h5, .ref h6, .ref h7, .ref h8, .ref h9, .int h0f17, .int h0f18, .int h0f19, .ref h10, .ref h11, .ref h12, .ref h13, .int h0f24, .int h0f25, .ref h14, .ref h15, .ref h16, .ref h17, .int h0f30, .int h0f31, .ref h18, .ref h19, .ref h20, .ref h21]), (h4, aJ (k 1) 9 anJ), (h5, aJ (k 1) 9 anJ), (h7, aJ (k 1) 4 (zJ [3]))] _ := hT
                  refine lv_if_eq (tgt := 90) hx hb dX11_factor_81 (by decide) (fun cc => absurd cc (by decide +kernel)) (fun _ => ?_)
                  refine lv_iinc (v := 1) (lv' := [(3, .int 1), (4, .int 2), (0, .ref h0), (1, .int x1), (2, .int x2)]) hx hb dX11_factor_84 hl (k := 1) rfl (by decide) (by decide) rfl (fun ls hl => ?_)
                  refine lv_goto (tgt := 45) hx hb dX11_factor_87 (by decide) ?_
                  refine lv_aload_n hx hb dX11_factor_45 rfl (lv_at hl 2 rfl) ?_
                  refine lv_iload hx hb dX11_factor_46 (lv_at hl 1 rfl) ?_
                  refine lv_iload_n hx hb dX11_factor_48 rfl (lv_at hl 4 rfl) ?_
                  refine lv_iconst (v := 1) hx hb dX11_factor_49 (by decide) ?_
                  refine lv_icmp_ne (tgt := 57) hx hb dX11_factor_50 (by decide) (fun c_506 => ?_) (fun c_506 => ?_)
                  · skip
                    have c_506 := ni_ne c_506 rfl li_1
                    refine lv_iconst (v := 1) hx hb dX11_factor_57 (by decide) ?_
                    refine lv_iload_n hx hb dX11_factor_58 rfl (lv_at hl 4 rfl) ?_
                    refine lv_iconst (v := 3) hx hb dX11_factor_59 (by decide) ?_
                    refine lv_icmp_ne (tgt := 67) hx hb dX11_factor_60 (by decide) (fun c_507 => ?_) (fun c_507 => ?_)
                    · skip
                      have c_507 := ni_ne c_507 rfl li_3
                      exfalso; omega
                    · skip
                      have c_507 := ni_eq c_507 rfl li_3
                      refine lv_iconst (v := 1) hx hb dX11_factor_63 (by decide) ?_
                      refine lv_goto (tgt := 78) hx hb dX11_factor_64 (by decide) ?_
                      have q_q509 := li_2
                      have q_q510 := li_1
                      have q_q511 := li_1
                      refine tcI (Tc := [(h0, ob 8 [.int h0f0, .int h0f1, .int h0f2, .int h0f3, .int h0f4, .int h0f5, .ref h1, .ref h2, .int h0f8, .int h0f9, .ref h3, .ref h4, .ref h5, .ref h6, .ref h7, .ref h8, .ref h9, .int h0f17, .int h0f18, .int h0f19, .ref h10, .ref h11, .ref h12, .ref h13, .int h0f24, .int h0f25, .ref h14, .ref h15, .ref h16, .ref h17, .int h0f30, .int h0f31, .ref h18, .ref h19, .ref h20, .ref h21]), (h4, aJ (k 1) 9 anJ), (h5, aJ (k 1) 9 anJ), (h7, aJ (k 1) 4 (zJ [3]))]) (Tr := [(h1, aI (k 0) 36 anI)]) (as := [h0, h4, h5, h7]) (zcV (q0 := 1) (ci := 8) (As := [.int 2, .int 1, .int 1]) (rest := []) (Tc := [(h0, ob 8 [.int h0f0, .int h0f1, .int h0f2, .int h0f3, .int h0f4, .int h0f5, .ref h1, .ref h2, .int h0f8, .int h0f9, .ref h3, .ref h4, .ref h5, .ref h6, .ref h7, .ref h8, .ref h9, .int h0f17, .int h0f18, .int h0f19, .ref h10, .ref h11, .ref h12, .ref h13, .int h0f24, .int h0f25, .ref h14, .ref h15, .ref h16, .ref h17, .int h0f30, .int h0f31, .ref h18, .ref h19, .ref h20, .ref h21]), (h4, aJ (k 1) 9 anJ), (h5, aJ (k 1) 9 anJ), (h7, aJ (k 1) 4 (zJ [3]))]) hx hb hml hown hU hK hT rfl rfl [1, 2, 3, 4] rfl (by decide) (cX11_takesOut_a13ae l D k _ h0 h4 h5 h7 h1 h2 h3 h6 h8 h9 h10 h11 h12 h13 h14 h15 h16 h17 h18 h19 h20 h21 (2) (1) (1) h0f0 h0f1 h0f2 h0f3 h0f4 h0f5 h0f8 h0f9 h0f17 h0f18 h0f19 h0f24 h0f25 h0f30 h0f31 (by have := li_2; omega) (by have := li_1; omega) (by have := li_1; omega) (by omega) (by omega) (by omega) (by omega) (by omega) (by omega) (by omega) (by omega) (by omega) (by omega) (by omega) (by omega) (by omega) (by have := li_2; have := li_1; have := li_1; omega) (by have := li_2; have := li_1; have := li_1; omega)) w999 w996 w998 w41 w72 hdX11_takesOut ⟨rfl, rfl⟩ ⟨Nat.le_of_ble_eq_true rfl, Nat.le_of_ble_eq_true rfl⟩ rfl hl.1 (Nat.le_of_ble_eq_true rfl) dX11_factor_78 ⟨Nat.le_of_ble_eq_true rfl, Nat.le_of_ble_eq_true rfl⟩) hT hS hA [1, 2, 3, 4] [0] rfl rfl rfl (by decide) (by decide) (fun r508 H locs hB J hS => ?_)
                      rcases hB with ⟨rfl, hT1⟩ | ⟨v512, v513, b_v513, c_514, c_515, c_516, c_517, c_518, c_519, c_520, c_521, c_522, rfl, hT1⟩ | ⟨v523, v524, v525, b_v523, b_v525, c_526, c_527, c_528, c_529, c_530, c_531, c_532, c_533, c_534, rfl, hT1⟩ | ⟨v535, v536, v537, b_v536, b_v537, c_538, c_539, c_540, c_541, c_542, c_543, c_544, c_545, rfl, hT1⟩
                      · skip
                        have hT := J _ hT1
                        have hT : TP D A [(h1, aI (k 0) 36 anI), (h0, ob 8 [.int h0f0, .int h0f1, .int h0f2, .int h0f3, .int h0f4, .int h0f5, .ref h1, .ref h2, .int h0f8, .int h0f9, .ref h3, .ref h4, .ref h5, .ref h6, .ref h7, .ref h8, .ref h9, .int h0f17, .int h0f18, .int h0f19, .ref h10, .ref h11, .ref h12, .ref h13, .int h0f24, .int h0f25, .ref h14, .ref h15, .ref h16, .ref h17, .int h0f30, .int h0f31, .ref h18, .ref h19, .ref h20, .ref h21]), (h4, aJ (k 1) 9 anJ), (h5, aJ (k 1) 9 anJ), (h7, aJ (k 1) 4 anJ)] _ := hT
                        refine lv_if_eq (tgt := 90) hx hb dX11_factor_81 (by decide) (fun _ => ?_) (fun cc => absurd (by decide +kernel) cc)
                        refine lv_iload_n hx hb dX11_factor_90 rfl (lv_at hl 0 rfl) ?_
                        exact tz_retI (B := B_cX11_factor_71296 D k h0 h1 h4 h5 h7 h2 h3 h6 h8 h9 h10 h11 h12 h13 h14 h15 h16 h17 h18 h19 h20 h21 x1 x2 h0f0 h0f1 h0f2 h0f3 h0f4 h0f5 h0f8 h0f9 h0f17 h0f18 h0f19 h0f24 h0f25 h0f30 h0f31) (v := 1) hQ hx hb hr hlocks hS (Nat.le_of_ble_eq_true rfl) (Nat.le_of_ble_eq_true rfl) dX11_factor_91 (⟨(by have := li_1; omega), (hT.sub [1, 0, 2, 3, 4] (by decide) rfl)⟩)
                      · skip
                        have hT := J _ hT1
                        have hT : TP D A [(h1, aI (k 0) 36 anI), (h0, ob 8 [.int h0f0, .int h0f1, .int h0f2, .int h0f3, .int h0f4, .int h0f5, .ref h1, .ref h2, .int h0f8, .int h0f9, .ref h3, .ref h4, .ref h5, .ref h6, .ref h7, .ref h8, .ref h9, .int h0f17, .int h0f18, .int h0f19, .ref h10, .ref h11, .ref h12, .ref h13, .int h0f24, .int h0f25, .ref h14, .ref h15, .ref h16, .ref h17, .int h0f30, .int h0f31, .ref h18, .ref h19, .ref h20, .ref h21]), (h4, aJ (k 1) 9 anJ), (h5, aJ (k 1) 9 anJ), (h7, aJ (k 1) 4 (zJ [2, 3]))] _ := hT
                        exfalso; omega
                      · skip
                        have hT := J _ hT1
                        have hT : TP D A [(h1, aI (k 0) 36 anI), (h0, ob 8 [.int h0f0, .int h0f1, .int h0f2, .int h0f3, .int h0f4, .int h0f5, .ref h1, .ref h2, .int h0f8, .int h0f9, .ref h3, .ref h4, .ref h5, .ref h6, .ref h7, .ref h8, .ref h9, .int h0f17, .int h0f18, .int h0f19, .ref h10, .ref h11, .ref h12, .ref h13, .int h0f24, .int h0f25, .ref h14, .ref h15, .ref h16, .ref h17, .int h0f30, .int h0f31, .ref h18, .ref h19, .ref h20, .ref h21]), (h4, aJ (k 1) 9 anJ), (h5, aJ (k 1) 9 anJ), (h7, aJ (k 1) 4 (zJ [2, 3]))] _ := hT
                        exfalso; omega
                      · skip
                        have hT := J _ hT1
                        have hT : TP D A [(h1, aI (k 0) 36 anI), (h0, ob 8 [.int h0f0, .int h0f1, .int h0f2, .int h0f3, .int h0f4, .int h0f5, .ref h1, .ref h2, .int h0f8, .int h0f9, .ref h3, .ref h4, .ref h5, .ref h6, .ref h7, .ref h8, .ref h9, .int h0f17, .int h0f18, .int h0f19, .ref h10, .ref h11, .ref h12, .ref h13, .int h0f24, .int h0f25, .ref h14, .ref h15, .ref h16, .ref h17, .int h0f30, .int h0f31, .ref h18, .ref h19, .ref h20, .ref h21]), (h4, aJ (k 1) 9 anJ), (h5, aJ (k 1) 9 anJ), (h7, aJ (k 1) 4 (zJ [2, 3]))] _ := hT
                        refine lv_if_eq (tgt := 90) hx hb dX11_factor_81 (by decide) (fun cc => absurd cc (by decide +kernel)) (fun _ => ?_)
                        refine lv_iinc (v := 2) (lv' := [(3, .int 2), (4, .int 2), (0, .ref h0), (1, .int x1), (2, .int x2)]) hx hb dX11_factor_84 hl (k := 0) rfl (by decide) (by decide) rfl (fun ls hl => ?_)
                        refine lv_goto (tgt := 45) hx hb dX11_factor_87 (by decide) ?_
                        refine lv_aload_n hx hb dX11_factor_45 rfl (lv_at hl 2 rfl) ?_
                        refine lv_iload hx hb dX11_factor_46 (lv_at hl 1 rfl) ?_
                        refine lv_iload_n hx hb dX11_factor_48 rfl (lv_at hl 4 rfl) ?_
                        refine lv_iconst (v := 1) hx hb dX11_factor_49 (by decide) ?_
                        refine lv_icmp_ne (tgt := 57) hx hb dX11_factor_50 (by decide) (fun c_546 => ?_) (fun c_546 => ?_)
                        · skip
                          have c_546 := ni_ne c_546 rfl li_1
                          refine lv_iconst (v := 1) hx hb dX11_factor_57 (by decide) ?_
                          refine lv_iload_n hx hb dX11_factor_58 rfl (lv_at hl 4 rfl) ?_
                          refine lv_iconst (v := 3) hx hb dX11_factor_59 (by decide) ?_
                          refine lv_icmp_ne (tgt := 67) hx hb dX11_factor_60 (by decide) (fun c_547 => ?_) (fun c_547 => ?_)
                          · skip
                            have c_547 := ni_ne c_547 rfl li_3
                            exfalso; omega
                          · skip
                            have c_547 := ni_eq c_547 rfl li_3
                            refine lv_iconst (v := 1) hx hb dX11_factor_63 (by decide) ?_
                            refine lv_goto (tgt := 78) hx hb dX11_factor_64 (by decide) ?_
                            have q_q549 := li_2
                            have q_q550 := li_1
                            have q_q551 := li_1
                            refine tcI (Tc := [(h0, ob 8 [.int h0f0, .int h0f1, .int h0f2, .int h0f3, .int h0f4, .int h0f5, .ref h1, .ref h2, .int h0f8, .int h0f9, .ref h3, .ref h4, .ref h5, .ref h6, .ref h7, .ref h8, .ref h9, .int h0f17, .int h0f18, .int h0f19, .ref h10, .ref h11, .ref h12, .ref h13, .int h0f24, .int h0f25, .ref h14, .ref h15, .ref h16, .ref h17, .int h0f30, .int h0f31, .ref h18, .ref h19, .ref h20, .ref h21]), (h4, aJ (k 1) 9 anJ), (h5, aJ (k 1) 9 anJ), (h7, aJ (k 1) 4 (zJ [2, 3]))]) (Tr := [(h1, aI (k 0) 36 anI)]) (as := [h0, h4, h5, h7]) (zcV (q0 := 1) (ci := 8) (As := [.int 2, .int 1, .int 1]) (rest := []) (Tc := [(h0, ob 8 [.int h0f0, .int h0f1, .int h0f2, .int h0f3, .int h0f4, .int h0f5, .ref h1, .ref h2, .int h0f8, .int h0f9, .ref h3, .ref h4, .ref h5, .ref h6, .ref h7, .ref h8, .ref h9, .int h0f17, .int h0f18, .int h0f19, .ref h10, .ref h11, .ref h12, .ref h13, .int h0f24, .int h0f25, .ref h14, .ref h15, .ref h16, .ref h17, .int h0f30, .int h0f31, .ref h18, .ref h19, .ref h20, .ref h21]), (h4, aJ (k 1) 9 anJ), (h5, aJ (k 1) 9 anJ), (h7, aJ (k 1) 4 (zJ [2, 3]))]) hx hb hml hown hU hK hT rfl rfl [1, 2, 3, 4] rfl (by decide) (cX11_takesOut_2378e l D k _ h0 h4 h5 h7 h1 h2 h3 h6 h8 h9 h10 h11 h12 h13 h14 h15 h16 h17 h18 h19 h20 h21 (2) (1) (1) h0f0 h0f1 h0f2 h0f3 h0f4 h0f5 h0f8 h0f9 h0f17 h0f18 h0f19 h0f24 h0f25 h0f30 h0f31 (by have := li_2; omega) (by have := li_1; omega) (by have := li_1; omega) (by omega) (by omega) (by omega) (by omega) (by omega) (by omega) (by omega) (by omega) (by omega) (by omega) (by omega) (by omega) (by omega) (by have := li_2; have := li_1; have := li_1; omega) (by have := li_2; have := li_1; have := li_1; omega)) w999 w996 w998 w41 w72 hdX11_takesOut ⟨rfl, rfl⟩ ⟨Nat.le_of_ble_eq_true rfl, Nat.le_of_ble_eq_true rfl⟩ rfl hl.1 (Nat.le_of_ble_eq_true rfl) dX11_factor_78 ⟨Nat.le_of_ble_eq_true rfl, Nat.le_of_ble_eq_true rfl⟩) hT hS hA [1, 2, 3, 4] [0] rfl rfl rfl (by decide) (by decide) (fun r548 H locs hB J hS => ?_)
                            rcases hB with ⟨rfl, hT1⟩ | ⟨v552, v553, b_v553, c_554, c_555, c_556, c_557, c_558, c_559, c_560, c_561, rfl, hT1⟩
                            · skip
                              have hT := J _ hT1
                              have hT : TP D A [(h1, aI (k 0) 36 anI), (h0, ob 8 [.int h0f0, .int h0f1, .int h0f2, .int h0f3, .int h0f4, .int h0f5, .ref h1, .ref h2, .int h0f8, .int h0f9, .ref h3, .ref h4, .ref h5, .ref h6, .ref h7, .ref h8, .ref h9, .int h0f17, .int h0f18, .int h0f19, .ref h10, .ref h11, .ref h12, .ref h13, .int h0f24, .int h0f25, .ref h14, .ref h15, .ref h16, .ref h17, .int h0f30, .int h0f31, .ref h18, .ref h19, .ref h20, .ref h21]), (h4, aJ (k 1) 9 anJ), (h5, aJ (k 1) 9 anJ), (h7, aJ (k 1) 4 anJ)] _ := hT
                              refine lv_if_eq (tgt := 90) hx hb dX11_factor_81 (by decide) (fun _ => ?_) (fun cc => absurd (by decide +kernel) cc)
                              refine lv_iload_n hx hb dX11_factor_90 rfl (lv_at hl 0 rfl) ?_
                              exact tz_retI (B := B_cX11_factor_71296 D k h0 h1 h4 h5 h7 h2 h3 h6 h8 h9 h10 h11 h12 h13 h14 h15 h16 h17 h18 h19 h20 h21 x1 x2 h0f0 h0f1 h0f2 h0f3 h0f4 h0f5 h0f8 h0f9 h0f17 h0f18 h0f19 h0f24 h0f25 h0f30 h0f31) (v := 2) hQ hx hb hr hlocks hS (Nat.le_of_ble_eq_true rfl) (Nat.le_of_ble_eq_true rfl) dX11_factor_91 (⟨(by have := li_2; omega), (hT.sub [1, 0, 2, 3, 4] (by decide) rfl)⟩)
                            · skip
                              have hT := J _ hT1
                              have hT : TP D A [(h1, aI (k 0) 36 anI), (h0, ob 8 [.int h0f0, .int h0f1, .int h0f2, .int h0f3, .int h0f4, .int h0f5, .ref h1, .ref h2, .int h0f8, .int h0f9, .ref h3, .ref h4, .ref h5, .ref h6, .ref h7, .ref h8, .ref h9, .int h0f17, .int h0f18, .int h0f19, .ref h10, .ref h11, .ref h12, .ref h13, .int h0f24, .int h0f25, .ref h14, .ref h15, .ref h16, .ref h17, .int h0f30, .int h0f31, .ref h18, .ref h19, .ref h20, .ref h21]), (h4, aJ (k 1) 9 anJ), (h5, aJ (k 1) 9 anJ), (h7, aJ (k 1) 4 (zJ [1, 2, 3]))] _ := hT
                              exfalso; omega
                        · skip
                          have c_546 := ni_eq c_546 rfl li_1
                          exfalso; omega
                  · skip
                    have c_506 := ni_eq c_506 rfl li_1
                    exfalso; omega
            · skip
              have c_11 := ni_eq c_11 rfl li_1
              exfalso; omega
          · skip
            have c_10 := ni_nle c_10 li_3 rfl
            refine lv_iconst (v := 1) hx hb dX11_factor_38 (by decide) ?_
            refine lv_goto (tgt := 43) hx hb dX11_factor_39 (by decide) ?_
            refine lv_istore (lv' := [(4, .int 1), (3, .int 0), (0, .ref h0), (1, .int x1), (2, .int x2)]) hx hb dX11_factor_43 hl (by decide) rfl (fun ls hl => ?_)
            refine lv_aload_n hx hb dX11_factor_45 rfl (lv_at hl 2 rfl) ?_
            refine lv_iload hx hb dX11_factor_46 (lv_at hl 0 rfl) ?_
            refine lv_iload_n hx hb dX11_factor_48 rfl (lv_at hl 4 rfl) ?_
            refine lv_iconst (v := 1) hx hb dX11_factor_49 (by decide) ?_
            refine lv_icmp_ne (tgt := 57) hx hb dX11_factor_50 (by decide) (fun c_562 => ?_) (fun c_562 => ?_)
            · skip
              have c_562 := ni_ne c_562 rfl li_1
              refine lv_iconst (v := 1) hx hb dX11_factor_57 (by decide) ?_
              refine lv_iload_n hx hb dX11_factor_58 rfl (lv_at hl 4 rfl) ?_
              refine lv_iconst (v := 3) hx hb dX11_factor_59 (by decide) ?_
              refine lv_icmp_ne (tgt := 67) hx hb dX11_factor_60 (by decide) (fun c_563 => ?_) (fun c_563 => ?_)
              · skip
                have c_563 := ni_ne c_563 rfl li_3
                refine lv_iload_n hx hb dX11_factor_67 rfl (lv_at hl 4 rfl) ?_
                refine lv_bipush (v := 6) hx hb dX11_factor_68 (by decide) ?_
                refine lv_icmp_ne (tgt := 77) hx hb dX11_factor_70 (by decide) (fun c_564 => ?_) (fun c_564 => ?_)
                · skip
                  have c_564 := ni_ne c_564 rfl li_6
                  refine lv_iconst (v := 0) hx hb dX11_factor_77 (by decide) ?_
                  have q_q566 := li_1
                  have q_q567 := li_1
                  have q_q568 := li_0
                  refine tcI (Tc := [(h0, ob 8 [.int h0f0, .int h0f1, .int h0f2, .int h0f3, .int h0f4, .int h0f5, .ref h1, .ref h2, .int h0f8, .int h0f9, .ref h3, .ref h4, .ref h5, .ref h6, .ref h7, .ref h8, .ref h9, .int h0f17, .int h0f18, .int h0f19, .ref h10, .ref h11, .ref h12, .ref h13, .int h0f24, .int h0f25, .ref h14, .ref h15, .ref h16, .ref h17, .int h0f30, .int h0f31, .ref h18, .ref h19, .ref h20, .ref h21]), (h4, aJ (k 1) 9 anJ), (h5, aJ (k 1) 9 anJ), (h7, aJ (k 1) 4 anJ)]) (Tr := [(h1, aI (k 0) 36 anI)]) (as := [h0, h4, h5, h7]) (zcV (q0 := 1) (ci := 8) (As := [.int 1, .int 1, .int 0]) (rest := []) (Tc := [(h0, ob 8 [.int h0f0, .int h0f1, .int h0f2, .int h0f3, .int h0f4, .int h0f5, .ref h1, .ref h2, .int h0f8, .int h0f9, .ref h3, .ref h4, .ref h5, .ref h6, .ref h7, .ref h8, .ref h9, .int h0f17, .int h0f18, .int h0f19, .ref h10, .ref h11, .ref h12, .ref h13, .int h0f24, .int h0f25, .ref h14, .ref h15, .ref h16, .ref h17, .int h0f30, .int h0f31, .ref h18, .ref h19, .ref h20, .ref h21]), (h4, aJ (k 1) 9 anJ), (h5, aJ (k 1) 9 anJ), (h7, aJ (k 1) 4 anJ)]) hx hb hml hown hU hK hT rfl rfl [1, 3, 0, 4] rfl (by decide) (cX11_takesOut_ae7df l D k _ h0 h4 h5 h7 h1 h2 h3 h6 h8 h9 h10 h11 h12 h13 h14 h15 h16 h17 h18 h19 h20 h21 (1) (1) (0) h0f0 h0f1 h0f2 h0f3 h0f4 h0f5 h0f8 h0f9 h0f17 h0f18 h0f19 h0f24 h0f25 h0f30 h0f31 (by have := li_1; omega) (by have := li_1; omega) (by have := li_0; omega) (by omega) (by omega) (by omega) (by omega) (by omega) (by omega) (by omega) (by omega) (by omega) (by omega) (by omega) (by omega) (by omega) (by have := li_1; have := li_1; have := li_0; omega) (by have := li_1; have := li_1; have := li_0; omega)) w999 w996 w998 w41 w72 hdX11_takesOut ⟨rfl, rfl⟩ ⟨Nat.le_of_ble_eq_true rfl, Nat.le_of_ble_eq_true rfl⟩ rfl hl.1 (Nat.le_of_ble_eq_true rfl) dX11_factor_78 ⟨Nat.le_of_ble_eq_true rfl, Nat.le_of_ble_eq_true rfl⟩) hT hS hA [1, 3, 0, 4] [2] rfl rfl rfl (by decide) (by decide) (fun r565 H locs hB J hS => ?_)
                  rcases hB with ⟨rfl, hT1⟩ | ⟨v569, v570, b_v570, c_571, c_572, c_573, c_574, c_575, c_576, c_577, c_578, c_579, c_580, rfl, hT1⟩ | ⟨v581, v582, v583, b_v581, b_v583, c_584, c_585, c_586, c_587, c_588, c_589, c_590, c_591, c_592, c_593, rfl, hT1⟩ | ⟨v594, v595, v596, v597, b_v594, b_v595, b_v597, c_598, c_599, c_600, c_601, c_602, c_603, c_604, c_605, c_606, c_607, rfl, hT1⟩ | ⟨v608, v609, v610, b_v609, b_v610, c_611, c_612, c_613, c_614, c_615, c_616, c_617, c_618, c_619, rfl, hT1⟩ | ⟨v620, v621, v622, v623, b_v620, b_v622, b_v623, c_624, c_625, c_626, c_627, c_628, c_629, c_630, c_631, c_632, rfl, hT1⟩
                  · skip
                    have hT := J _ hT1
                    have hT : TP D A [(h1, aI (k 0) 36 anI), (h0, ob 8 [.int h0f0, .int h0f1, .int h0f2, .int h0f3, .int h0f4, .int h0f5, .ref h1, .ref h2, .int h0f8, .int h0f9, .ref h3, .ref h4, .ref h5, .ref h6, .ref h7, .ref h8, .ref h9, .int h0f17, .int h0f18, .int h0f19, .ref h10, .ref h11, .ref h12, .ref h13, .int h0f24, .int h0f25, .ref h14, .ref h15, .ref h16, .ref h17, .int h0f30, .int h0f31, .ref h18, .ref h19, .ref h20, .ref h21]), (h4, aJ (k 1) 9 anJ), (h5, aJ (k 1) 9 anJ), (h7, aJ (k 1) 4 anJ)] _ := hT
                    refine lv_if_eq (tgt := 90) hx hb dX11_factor_81 (by decide) (fun _ => ?_) (fun cc => absurd (by decide +kernel) cc)
                    refine lv_iload_n hx hb dX11_factor_90 rfl (lv_at hl 1 rfl) ?_
                    exact tz_retI (B := B_cX11_factor_71296 D k h0 h1 h4 h5 h7 h2 h3 h6 h8 h9 h10 h11 h12 h13 h14 h15 h16 h17 h18 h19 h20 h21 x1 x2 h0f0 h0f1 h0f2 h0f3 h0f4 h0f5 h0f8 h0f9 h0f17 h0f18 h0f19 h0f24 h0f25 h0f30 h0f31) (v := 0) hQ hx hb hr hlocks hS (Nat.le_of_ble_eq_true rfl) (Nat.le_of_ble_eq_true rfl) dX11_factor_91 (⟨(by have := li_0; omega), (hT.sub [1, 0, 2, 3, 4] (by decide) rfl)⟩)
                  · skip
                    have hT := J _ hT1
                    have hT : TP D A [(h1, aI (k 0) 36 anI), (h0, ob 8 [.int h0f0, .int h0f1, .int h0f2, .int h0f3, .int h0f4, .int h0f5, .ref h1, .ref h2, .int h0f8, .int h0f9, .ref h3, .ref h4, .ref h5, .ref h6, .ref h7, .ref h8, .ref h9, .int h0f17, .int h0f18, .int h0f19, .ref h10, .ref h11, .ref h12, .ref h13, .int h0f24, .int h0f25, .ref h14, .ref h15, .ref h16, .ref h17, .int h0f30, .int h0f31, .ref h18, .ref h19, .ref h20, .ref h21]), (h4, aJ (k 1) 9 anJ), (h5, aJ (k 1) 9 anJ), (h7, aJ (k 1) 4 (zJ [3]))] _ := hT
                    refine lv_if_eq (tgt := 90) hx hb dX11_factor_81 (by decide) (fun cc => absurd cc (by decide +kernel)) (fun _ => ?_)
                    refine lv_iinc (v := 1) (lv' := [(3, .int 1), (4, .int 1), (0, .ref h0), (1, .int x1), (2, .int x2)]) hx hb dX11_factor_84 hl (k := 1) rfl (by decide) (by decide) rfl (fun ls hl => ?_)
                    refine lv_goto (tgt := 45) hx hb dX11_factor_87 (by decide) ?_
                    refine lv_aload_n hx hb dX11_factor_45 rfl (lv_at hl 2 rfl) ?_
                    refine lv_iload hx hb dX11_factor_46 (lv_at hl 1 rfl) ?_
                    refine lv_iload_n hx hb dX11_factor_48 rfl (lv_at hl 4 rfl) ?_
                    refine lv_iconst (v := 1) hx hb dX11_factor_49 (by decide) ?_
                    refine lv_icmp_ne (tgt := 57) hx hb dX11_factor_50 (by decide) (fun c_633 => ?_) (fun c_633 => ?_)
                    · skip
                      have c_633 := ni_ne c_633 rfl li_1
                      refine lv_iconst (v := 1) hx hb dX11_factor_57 (by decide) ?_
                      refine lv_iload_n hx hb dX11_factor_58 rfl (lv_at hl 4 rfl) ?_
                      refine lv_iconst (v := 3) hx hb dX11_factor_59 (by decide) ?_
                      refine lv_icmp_ne (tgt := 67) hx hb dX11_factor_60 (by decide) (fun c_634 => ?_) (fun c_634 => ?_)
                      · skip
                        have c_634 := ni_ne c_634 rfl li_3
                        refine lv_iload_n hx hb dX11_factor_67 rfl (lv_at hl 4 rfl) ?_
                        refine lv_bipush (v := 6) hx hb dX11_factor_68 (by decide) ?_
                        refine lv_icmp_ne (tgt := 77) hx hb dX11_factor_70 (by decide) (fun c_635 => ?_) (fun c_635 => ?_)
                        · skip
                          have c_635 := ni_ne c_635 rfl li_6
                          refine lv_iconst (v := 0) hx hb dX11_factor_77 (by decide) ?_
                          have q_q637 := li_1
                          have q_q638 := li_1
                          have q_q639 := li_0
                          refine tcI (Tc := [(h0, ob 8 [.int h0f0, .int h0f1, .int h0f2, .int h0f3, .int h0f4, .int h0f5, .ref h1, .ref h2, .int h0f8, .int h0f9, .ref h3, .ref h4, .ref h5, .ref h6, .ref h7, .ref h8, .ref h9, .int h0f17, .int h0f18, .int h0f19, .ref h10, .ref h11, .ref h12, .ref h13, .int h0f24, .int h0f25, .ref h14, .ref h15, .ref h16, .ref h17, .int h0f30, .int h0f31, .ref h18, .ref h19, .ref h20, .ref h21]), (h4, aJ (k 1) 9 anJ), (h5, aJ (k 1) 9 anJ), (h7, aJ (k 1) 4 (zJ [3]))]) (Tr := [(h1, aI (k 0) 36 anI)]) (as := [h0, h4, h5, h7]) (zcV (q0 := 1) (ci := 8) (As := [.int 1, .int 1, .int 0]) (rest := []) (Tc := [(h0, ob 8 [.int h0f0, .int h0f1, .int h0f2, .int h0f3, .int h0f4, .int h0f5, .ref h1, .ref h2, .int h0f8, .int h0f9, .ref h3, .ref h4, .ref h5, .ref h6, .ref h7, .ref h8, .ref h9, .int h0f17, .int h0f18, .int h0f19, .ref h10, .ref h11, .ref h12, .ref h13, .int h0f24, .int h0f25, .ref h14, .ref h15, .ref h16, .ref h17, .int h0f30, .int h0f31, .ref h18, .ref h19, .ref h20, .ref h21]), (h4, aJ (k 1) 9 anJ), (h5, aJ (k 1) 9 anJ), (h7, aJ (k 1) 4 (zJ [3]))]) hx hb hml hown hU hK hT rfl rfl [1, 2, 3, 4] rfl (by decide) (cX11_takesOut_a13ae l D k _ h0 h4 h5 h7 h1 h2 h3 h6 h8 h9 h10 h11 h12 h13 h14 h15 h16 h17 h18 h19 h20 h21 (1) (1) (0) h0f0 h0f1 h0f2 h0f3 h0f4 h0f5 h0f8 h0f9 h0f17 h0f18 h0f19 h0f24 h0f25 h0f30 h0f31 (by have := li_1; omega) (by have := li_1; omega) (by have := li_0; omega) (by omega) (by omega) (by omega) (by omega) (by omega) (by omega) (by omega) (by omega) (by omega) (by omega) (by omega) (by omega) (by omega) (by have := li_1; have := li_1; have := li_0; omega) (by have := li_1; have := li_1; have := li_0; omega)) w999 w996 w998 w41 w72 hdX11_takesOut ⟨rfl, rfl⟩ ⟨Nat.le_of_ble_eq_true rfl, Nat.le_of_ble_eq_true rfl⟩ rfl hl.1 (Nat.le_of_ble_eq_true rfl) dX11_factor_78 ⟨Nat.le_of_ble_eq_true rfl, Nat.le_of_ble_eq_true rfl⟩) hT hS hA [1, 2, 3, 4] [0] rfl rfl rfl (by decide) (by decide) (fun r636 H locs hB J hS => ?_)
                          rcases hB with ⟨rfl, hT1⟩ | ⟨v640, v641, b_v641, c_642, c_643, c_644, c_645, c_646, c_647, c_648, c_649, c_650, rfl, hT1⟩ | ⟨v651, v652, v653, b_v651, b_v653, c_654, c_655, c_656, c_657, c_658, c_659, c_660, c_661, c_662, rfl, hT1⟩ | ⟨v663, v664, v665, b_v664, b_v665, c_666, c_667, c_668, c_669, c_670, c_671, c_672, c_673, rfl, hT1⟩
                          · skip
                            have hT := J _ hT1
                            have hT : TP D A [(h1, aI (k 0) 36 anI), (h0, ob 8 [.int h0f0, .int h0f1, .int h0f2, .int h0f3, .int h0f4, .int h0f5, .ref h1, .ref h2, .int h0f8, .int h0f9, .ref h3, .ref h4, .ref h5, .ref h6, .ref h7, .ref h8, .ref h9, .int h0f17, .int h0f18, .int h0f19, .ref h10, .ref h11, .ref h12, .ref h13, .int h0f24, .int h0f25, .ref h14, .ref h15, .ref h16, .ref h17, .int h0f30, .int h0f31, .ref h18, .ref h19, .ref h20, .ref h21]), (h4, aJ (k 1) 9 anJ), (h5, aJ (k 1) 9 anJ), (h7, aJ (k 1) 4 anJ)] _ := hT
                            refine lv_if_eq (tgt := 90) hx hb dX11_factor_81 (by decide) (fun _ => ?_) (fun cc => absurd (by decide +kernel) cc)
                            refine lv_iload_n hx hb dX11_factor_90 rfl (lv_at hl 0 rfl) ?_
                            exact tz_retI (B := B_cX11_factor_71296 D k h0 h1 h4 h5 h7 h2 h3 h6 h8 h9 h10 h11 h12 h13 h14 h15 h16 h17 h18 h19 h20 h21 x1 x2 h0f0 h0f1 h0f2 h0f3 h0f4 h0f5 h0f8 h0f9 h0f17 h0f18 h0f19 h0f24 h0f25 h0f30 h0f31) (v := 1) hQ hx hb hr hlocks hS (Nat.le_of_ble_eq_true rfl) (Nat.le_of_ble_eq_true rfl) dX11_factor_91 (⟨(by have := li_1; omega), (hT.sub [1, 0, 2, 3, 4] (by decide) rfl)⟩)
                          · skip
                            have hT := J _ hT1
                            have hT : TP D A [(h1, aI (k 0) 36 anI), (h0, ob 8 [.int h0f0, .int h0f1, .int h0f2, .int h0f3, .int h0f4, .int h0f5, .ref h1, .ref h2, .int h0f8, .int h0f9, .ref h3, .ref h4, .ref h5, .ref h6, .ref h7, .ref h8, .ref h9, .int h0f17, .int h0f18, .int h0f19, .ref h10, .ref h11, .ref h12, .ref h13, .int h0f24, .int h0f25, .ref h14, .ref h15, .ref h16, .ref h17, .int h0f30, .int h0f31, .ref h18, .ref h19, .ref h20, .ref h21]), (h4, aJ (k 1) 9 anJ), (h5, aJ (k 1) 9 anJ), (h7, aJ (k 1) 4 (zJ [2, 3]))] _ := hT
                            refine lv_if_eq (tgt := 90) hx hb dX11_factor_81 (by decide) (fun cc => absurd cc (by decide +kernel)) (fun _ => ?_)
                            refine lv_iinc (v := 2) (lv' := [(3, .int 2), (4, .int 1), (0, .ref h0), (1, .int x1), (2, .int x2)]) hx hb dX11_factor_84 hl (k := 0) rfl (by decide) (by decide) rfl (fun ls hl => ?_)
                            refine lv_goto (tgt := 45) hx hb dX11_factor_87 (by decide) ?_
                            refine lv_aload_n hx hb dX11_factor_45 rfl (lv_at hl 2 rfl) ?_
                            refine lv_iload hx hb dX11_factor_46 (lv_at hl 1 rfl) ?_
                            refine lv_iload_n hx hb dX11_factor_48 rfl (lv_at hl 4 rfl) ?_
                            refine lv_iconst (v := 1) hx hb dX11_factor_49 (by decide) ?_
                            refine lv_icmp_ne (tgt := 57) hx hb dX11_factor_50 (by decide) (fun c_674 => ?_) (fun c_674 => ?_)
                            · skip
                              have c_674 := ni_ne c_674 rfl li_1
                              refine lv_iconst (v := 1) hx hb dX11_factor_57 (by decide) ?_
                              refine lv_iload_n hx hb dX11_factor_58 rfl (lv_at hl 4 rfl) ?_
                              refine lv_iconst (v := 3) hx hb dX11_factor_59 (by decide) ?_
                              refine lv_icmp_ne (tgt := 67) hx hb dX11_factor_60 (by decide) (fun c_675 => ?_) (fun c_675 => ?_)
                              · skip
                                have c_675 := ni_ne c_675 rfl li_3
                                refine lv_iload_n hx hb dX11_factor_67 rfl (lv_at hl 4 rfl) ?_
                                refine lv_bipush (v := 6) hx hb dX11_factor_68 (by decide) ?_
                                refine lv_icmp_ne (tgt := 77) hx hb dX11_factor_70 (by decide) (fun c_676 => ?_) (fun c_676 => ?_)
                                · skip
                                  have c_676 := ni_ne c_676 rfl li_6
                                  refine lv_iconst (v := 0) hx hb dX11_factor_77 (by decide) ?_
                                  have q_q678 := li_1
                                  have q_q679 := li_1
                                  have q_q680 := li_0
                                  refine tcI (Tc := [(h0, ob 8 [.int h0f0, .int h0f1, .int h0f2, .int h0f3, .int h0f4, .int h0f5, .ref h1, .ref h2, .int h0f8, .int h0f9, .ref h3, .ref h4, .ref h5, .ref h6, .ref h7, .ref h8, .ref h9, .int h0f17, .int h0f18, .int h0f19, .ref h10, .ref h11, .ref h12, .ref h13, .int h0f24, .int h0f25, .ref h14, .ref h15, .ref h16, .ref h17, .int h0f30, .int h0f31, .ref h18, .ref h19, .ref h20, .ref h21]), (h4, aJ (k 1) 9 anJ), (h5, aJ (k 1) 9 anJ), (h7, aJ (k 1) 4 (zJ [2, 3]))]) (Tr := [(h1, aI (k 0) 36 anI)]) (as := [h0, h4, h5, h7]) (zcV (q0 := 1) (ci := 8) (As := [.int 1, .int 1, .int 0]) (rest := []) (Tc := [(h0, ob 8 [.int h0f0, .int h0f1, .int h0f2, .int h0f3, .int h0f4, .int h0f5, .ref h1, .ref h2, .int h0f8, .int h0f9, .ref h3, .ref h4, .ref h5, .ref h6, .ref h7, .ref h8, .ref h9, .int h0f17, .int h0f18, .int h0f19, .ref h10, .ref h11, .ref h12, .ref h13, .int h0f24, .int h0f25, .ref h14, .ref h15, .ref h16, .ref h17, .int h0f30, .int h0f31, .ref h18, .ref h19, .ref h20, .ref h21]), (h4, aJ (k 1) 9 anJ), (h5, aJ (k 1) 9 anJ), (h7, aJ (k 1) 4 (zJ [2, 3]))]) hx hb hml hown hU hK hT rfl rfl [1, 2, 3, 4] rfl (by decide) (cX11_takesOut_2378e l D k _ h0 h4 h5 h7 h1 h2 h3 h6 h8 h9 h10 h11 h12 h13 h14 h15 h16 h17 h18 h19 h20 h21 (1) (1) (0) h0f0 h0f1 h0f2 h0f3 h0f4 h0f5 h0f8 h0f9 h0f17 h0f18 h0f19 h0f24 h0f25 h0f30 h0f31 (by have := li_1; omega) (by have := li_1; omega) (by have := li_0; omega) (by omega) (by omega) (by omega) (by omega) (by omega) (by omega) (by omega) (by omega) (by omega) (by omega) (by omega) (by omega) (by omega) (by have := li_1; have := li_1; have := li_0; omega) (by have := li_1; have := li_1; have := li_0; omega)) w999 w996 w998 w41 w72 hdX11_takesOut ⟨rfl, rfl⟩ ⟨Nat.le_of_ble_eq_true rfl, Nat.le_of_ble_eq_true rfl⟩ rfl hl.1 (Nat.le_of_ble_eq_true rfl) dX11_factor_78 ⟨Nat.le_of_ble_eq_true rfl, Nat.le_of_ble_eq_true rfl⟩) hT hS hA [1, 2, 3, 4] [0] rfl rfl rfl (by decide) (by decide) (fun r677 H locs hB J hS => ?_)
                                  rcases hB with ⟨rfl, hT1⟩ | ⟨v681, v682, b_v682, c_683, c_684, c_685, c_686, c_687, c_688, c_689, c_690, rfl, hT1⟩
                                  · skip
                                    have hT := J _ hT1
                                    have hT : TP D A [(h1, aI (k 0) 36 anI), (h0, ob 8 [.int h0f0, .int h0f1, .int h0f2, .int h0f3, .int h0f4, .int h0f5, .ref h1, .ref h2, .int h0f8, .int h0f9, .ref h3, .ref h4, .ref h5, .ref h6, .ref h7, .ref h8, .ref h9, .int h0f17, .int h0f18, .int h0f19, .ref h10, .ref h11, .ref h12, .ref h13, .int h0f24, .int h0f25, .ref h14, .ref h15, .ref h16, .ref h17, .int h0f30, .int h0f31, .ref h18, .ref h19, .ref h20, .ref h21]), (h4, aJ (k 1) 9 anJ), (h5, aJ (k 1) 9 anJ), (h7, aJ (k 1) 4 anJ)] _ := hT
                                    refine lv_if_eq (tgt := 90) hx hb dX11_factor_81 (by decide) (fun _ => ?_) (fun cc => absurd (by decide +kernel) cc)
                                    refine lv_iload_n hx hb dX11_factor_90 rfl (lv_at hl 0 rfl) ?_
                                    exact tz_retI (B := B_cX11_factor_71296 D k h0 h1 h4 h5 h7 h2 h3 h6 h8 h9 h10 h11 h12 h13 h14 h15 h16 h17 h18 h19 h20 h21 x1 x2 h0f0 h0f1 h0f2 h0f3 h0f4 h0f5 h0f8 h0f9 h0f17 h0f18 h0f19 h0f24 h0f25 h0f30 h0f31) (v := 2) hQ hx hb hr hlocks hS (Nat.le_of_ble_eq_true rfl) (Nat.le_of_ble_eq_true rfl) dX11_factor_91 (⟨(by have := li_2; omega), (hT.sub [1, 0, 2, 3, 4] (by decide) rfl)⟩)
                                  · skip
                                    have hT := J _ hT1
                                    have hT : TP D A [(h1, aI (k 0) 36 anI), (h0, ob 8 [.int h0f0, .int h0f1, .int h0f2, .int h0f3, .int h0f4, .int h0f5, .ref h1, .ref h2, .int h0f8, .int h0f9, .ref h3, .ref h4, .ref h5, .ref h6, .ref h7, .ref h8, .ref h9, .int h0f17, .int h0f18, .int h0f19, .ref h10, .ref h11, .ref h12, .ref h13, .int h0f24, .int h0f25, .ref h14, .ref h15, .ref h16, .ref h17, .int h0f30, .int h0f31, .ref h18, .ref h19, .ref h20, .ref h21]), (h4, aJ (k 1) 9 anJ), (h5, aJ (k 1) 9 anJ), (h7, aJ (k 1) 4 (zJ [1, 2, 3]))] _ := hT
                                    refine lv_if_eq (tgt := 90) hx hb dX11_factor_81 (by decide) (fun cc => absurd cc (by decide +kernel)) (fun _ => ?_)
                                    refine lv_iinc (v := 3) (lv' := [(3, .int 3), (4, .int 1), (0, .ref h0), (1, .int x1), (2, .int x2)]) hx hb dX11_factor_84 hl (k := 0) rfl (by decide) (by decide) rfl (fun ls hl => ?_)
                                    refine lv_goto (tgt := 45) hx hb dX11_factor_87 (by decide) ?_
                                    refine lv_aload_n hx hb dX11_factor_45 rfl (lv_at hl 2 rfl) ?_
                                    refine lv_iload hx hb dX11_factor_46 (lv_at hl 1 rfl) ?_
                                    refine lv_iload_n hx hb dX11_factor_48 rfl (lv_at hl 4 rfl) ?_
                                    refine lv_iconst (v := 1) hx hb dX11_factor_49 (by decide) ?_
                                    refine lv_icmp_ne (tgt := 57) hx hb dX11_factor_50 (by decide) (fun c_691 => ?_) (fun c_691 => ?_)
                                    · skip
                                      have c_691 := ni_ne c_691 rfl li_1
                                      refine lv_iconst (v := 1) hx hb dX11_factor_57 (by decide) ?_
                                      refine lv_iload_n hx hb dX11_factor_58 rfl (lv_at hl 4 rfl) ?_
                                      refine lv_iconst (v := 3) hx hb dX11_factor_59 (by decide) ?_
                                      refine lv_icmp_ne (tgt := 67) hx hb dX11_factor_60 (by decide) (fun c_692 => ?_) (fun c_692 => ?_)
                                      · skip
                                        have c_692 := ni_ne c_692 rfl li_3
                                        refine lv_iload_n hx hb dX11_factor_67 rfl (lv_at hl 4 rfl) ?_
                                        refine lv_bipush (v := 6) hx hb dX11_factor_68 (by decide) ?_
                                        refine lv_icmp_ne (tgt := 77) hx hb dX11_factor_70 (by decide) (fun c_693 => ?_) (fun c_693 => ?_)
                                        · skip
                                          have c_693 := ni_ne c_693 rfl li_6
                                          refine lv_iconst (v := 0) hx hb dX11_factor_77 (by decide) ?_
                                          have q_q695 := li_1
                                          have q_q696 := li_1
                                          have q_q697 := li_0
                                          refine tcI (Tc := [(h0, ob 8 [.int h0f0, .int h0f1, .int h0f2, .int h0f3, .int h0f4, .int h0f5, .ref h1, .ref h2, .int h0f8, .int h0f9, .ref h3, .ref h4, .ref h5, .ref h6, .ref h7, .ref h8, .ref h9, .int h0f17, .int h0f18, .int h0f19, .ref h10, .ref h11, .ref h12, .ref h13, .int h0f24, .int h0f25, .ref h14, .ref h15, .ref h16, .ref h17, .int h0f30, .int h0f31, .ref h18, .ref h19, .ref h20, .ref h21]), (h7, aJ (k 1) 4 (zJ [1, 2, 3]))]) (Tr := [(h1, aI (k 0) 36 anI), (h4, aJ (k 1) 9 anJ), (h5, aJ (k 1) 9 anJ)]) (as := [h0, h7]) (zcV (q0 := 1) (ci := 8) (As := [.int 1, .int 1, .int 0]) (rest := []) (Tc := [(h0, ob 8 [.int h0f0, .int h0f1, .int h0f2, .int h0f3, .int h0f4, .int h0f5, .ref h1, .ref h2, .int h0f8, .int h0f9, .ref h3, .ref h4, .ref h5, .ref h6, .ref h7, .ref h8, .ref h9, .int h0f17, .int h0f18, .int h0f19, .ref h10, .ref h11, .ref h12, .ref h13, .int h0f24, .int h0f25, .ref h14, .ref h15, .ref h16, .ref h17, .int h0f30, .int h0f31, .ref h18, .ref h19, .ref h20, .ref h21]), (h7, aJ (k 1) 4 (zJ [1, 2, 3]))]) hx hb hml hown hU hK hT rfl rfl [1, 4] rfl (by decide) (cX11_takesOut_3cbb8 l D k _ h0 h7 h1 h2 h3 h4 h5 h6 h8 h9 h10 h11 h12 h13 h14 h15 h16 h17 h18 h19 h20 h21 (1) (1) (0) h0f0 h0f1 h0f2 h0f3 h0f4 h0f5 h0f8 h0f9 h0f17 h0f18 h0f19 h0f24 h0f25 h0f30 h0f31 (by have := li_1; omega) (by have := li_1; omega) (by have := li_0; omega) (by omega) (by omega) (by omega) (by omega) (by omega) (by omega) (by omega) (by omega) (by omega) (by omega) (by omega) (by omega) (by omega) (by have := li_1; have := li_1; have := li_0; omega) (by have := li_1; have := li_1; have := li_0; omega)) w999 w996 w998 w41 w72 hdX11_takesOut ⟨rfl, rfl⟩ ⟨Nat.le_of_ble_eq_true rfl, Nat.le_of_ble_eq_true rfl⟩ rfl hl.1 (Nat.le_of_ble_eq_true rfl) dX11_factor_78 ⟨Nat.le_of_ble_eq_true rfl, Nat.le_of_ble_eq_true rfl⟩) hT hS hA [1, 4] [0, 2, 3] rfl rfl rfl (by decide) (by decide) (fun r694 H locs hB J hS => ?_)
                                          obtain ⟨rfl, hT1⟩ := hB
                                          have hT := J _ hT1
                                          have hT : TP D A [(h1, aI (k 0) 36 anI), (h4, aJ (k 1) 9 anJ), (h5, aJ (k 1) 9 anJ), (h0, ob 8 [.int h0f0, .int h0f1, .int h0f2, .int h0f3, .int h0f4, .int h0f5, .ref h1, .ref h2, .int h0f8, .int h0f9, .ref h3, .ref h4, .ref h5, .ref h6, .ref h7, .ref h8, .ref h9, .int h0f17, .int h0f18, .int h0f19, .ref h10, .ref h11, .ref h12, .ref h13, .int h0f24, .int h0f25, .ref h14, .ref h15, .ref h16, .ref h17, .int h0f30, .int h0f31, .ref h18, .ref h19, .ref h20, .ref h21]), (h7, aJ (k 1) 4 anJ)] _ := hT
                                          refine lv_if_eq (tgt := 90) hx hb dX11_factor_81 (by decide) (fun _ => ?_) (fun cc => absurd (by decide +kernel) cc)
                                          refine lv_iload_n hx hb dX11_factor_90 rfl (lv_at hl 0 rfl) ?_
                                          exact tz_retI (B := B_cX11_factor_71296 D k h0 h1 h4 h5 h7 h2 h3 h6 h8 h9 h10 h11 h12 h13 h14 h15 h16 h17 h18 h19 h20 h21 x1 x2 h0f0 h0f1 h0f2 h0f3 h0f4 h0f5 h0f8 h0f9 h0f17 h0f18 h0f19 h0f24 h0f25 h0f30 h0f31) (v := 3) hQ hx hb hr hlocks hS (Nat.le_of_ble_eq_true rfl) (Nat.le_of_ble_eq_true rfl) dX11_factor_91 (⟨(by have := li_3; omega), (hT.sub [3, 0, 1, 2, 4] (by decide) rfl)⟩)
                                        · skip
                                          have c_693 := ni_eq c_693 rfl li_6
                                          exfalso; omega
                                      · skip
                                        have c_692 := ni_eq c_692 rfl li_3
                                        exfalso; omega
                                    · skip
                                      have c_691 := ni_eq c_691 rfl li_1
                                      exfalso; omega
                                · skip
                                  have c_676 := ni_eq c_676 rfl li_6
                                  exfalso; omega
                              · skip
                                have c_675 := ni_eq c_675 rfl li_3
                                exfalso; omega
                            · skip
                              have c_674 := ni_eq c_674 rfl li_1
                              exfalso; omega
                          · skip
                            have hT := J _ hT1
                            have hT : TP D A [(h1, aI (k 0) 36 anI), (h0, ob 8 [.int h0f0, .int h0f1, .int h0f2, .int h0f3, .int h0f4, .int h0f5, .ref h1, .ref h2, .int h0f8, .int h0f9, .ref h3, .ref h4, .ref h5, .ref h6, .ref h7, .ref h8, .ref h9, .int h0f17, .int h0f18, .int h0f19, .ref h10, .ref h11, .ref h12, .ref h13, .int h0f24, .int h0f25, .ref h14, .ref h15, .ref h16, .ref h17, .int h0f30, .int h0f31, .ref h18, .ref h19, .ref h20, .ref h21]), (h4, aJ (k 1) 9 anJ), (h5, aJ (k 1) 9 anJ), (h7, aJ (k 1) 4 (zJ [2, 3]))] _ := hT
                            refine lv_if_eq (tgt := 90) hx hb dX11_factor_81 (by decide) (fun cc => absurd cc (by decide +kernel)) (fun _ => ?_)
                            refine lv_iinc (v := 2) (lv' := [(3, .int 2), (4, .int 1), (0, .ref h0), (1, .int x1), (2, .int x2)]) hx hb dX11_factor_84 hl (k := 0) rfl (by decide) (by decide) rfl (fun ls hl => ?_)
                            refine lv_goto (tgt := 45) hx hb dX11_factor_87 (by decide) ?_
                            refine lv_aload_n hx hb dX11_factor_45 rfl (lv_at hl 2 rfl) ?_
                            refine lv_iload hx hb dX11_factor_46 (lv_at hl 1 rfl) ?_
                            refine lv_iload_n hx hb dX11_factor_48 rfl (lv_at hl 4 rfl) ?_
                            refine lv_iconst (v := 1) hx hb dX11_factor_49 (by decide) ?_
                            refine lv_icmp_ne (tgt := 57) hx hb dX11_factor_50 (by decide) (fun c_698 => ?_) (fun c_698 => ?_)
                            · skip
                              have c_698 := ni_ne c_698 rfl li_1
                              refine lv_iconst (v := 1) hx hb dX11_factor_57 (by decide) ?_
                              refine lv_iload_n hx hb dX11_factor_58 rfl (lv_at hl 4 rfl) ?_
                              refine lv_iconst (v := 3) hx hb dX11_factor_59 (by decide) ?_
                              refine lv_icmp_ne (tgt := 67) hx hb dX11_factor_60 (by decide) (fun c_699 => ?_) (fun c_699 => ?_)
                              · skip
                                have c_699 := ni_ne c_699 rfl li_3
                                refine lv_iload_n hx hb dX11_factor_67 rfl (lv_at hl 4 rfl) ?_
                                refine lv_bipush (v := 6) hx hb dX11_factor_68 (by decide) ?_
                                refine lv_icmp_ne (tgt := 77) hx hb dX11_factor_70 (by decide) (fun c_700 => ?_) (fun c_700 => ?_)
                                · skip
                                  have c_700 := ni_ne c_700 rfl li_6
                                  refine lv_iconst (v := 0) hx hb dX11_factor_77 (by decide) ?_
                                  have q_q702 := li_1
                                  have q_q703 := li_1
                                  have q_q704 := li_0
                                  refine tcI (Tc := [(h0, ob 8 [.int h0f0, .int h0f1, .int h0f2, .int h0f3, .int h0f4, .int h0f5, .ref h1, .ref h2, .int h0f8, .int h0f9, .ref h3, .ref h4, .ref h5, .ref h6, .ref h7, .ref h8, .ref h9, .int h0f17, .int h0f18, .int h0f19, .ref h10, .ref h11, .ref h12, .ref h13, .int h0f24, .int h0f25, .ref h14, .ref h15, .ref h16, .ref h17, .int h0f30, .int h0f31, .ref h18, .ref h19, .ref h20, .ref h21]), (h4, aJ (k 1) 9 anJ), (h5, aJ (k 1) 9 anJ), (h7, aJ (k 1) 4 (zJ [2, 3]))]) (Tr := [(h1, aI (k 0) 36 anI)]) (as := [h0, h4, h5, h7]) (zcV (q0 := 1) (ci := 8) (As := [.int 1, .int 1, .int 0]) (rest := []) (Tc := [(h0, ob 8 [.int h0f0, .int h0f1, .int h0f2, .int h0f3, .int h0f4, .int h0f5, .ref h1, .ref h2, .int h0f8, .int h0f9, .ref h3, .ref h4, .ref h5, .ref h6, .ref h7, .ref h8, .ref h9, .int h0f17, .int h0f18, .int h0f19, .ref h10, .ref h11, .ref h12, .ref h13, .int h0f24, .int h0f25, .ref h14, .ref h15, .ref h16, .ref h17, .int h0f30, .int h0f31, .ref h18, .ref h19, .ref h20, .ref h21]), (h4, aJ (k 1) 9 anJ), (h5, aJ (k 1) 9 anJ), (h7, aJ (k 1) 4 (zJ [2, 3]))]) hx hb hml hown hU hK hT rfl rfl [1, 2, 3, 4] rfl (by decide) (cX11_takesOut_2378e l D k _ h0 h4 h5 h7 h1 h2 h3 h6 h8 h9 h10 h11 h12 h13 h14 h15 h16 h17 h18 h19 h20 h21 (1) (1) (0) h0f0 h0f1 h0f2 h0f3 h0f4 h0f5 h0f8 h0f9 h0f17 h0f18 h0f19 h0f24 h0f25 h0f30 h0f31 (by have := li_1; omega) (by have := li_1; omega) (by have := li_0; omega) (by omega) (by omega) (by omega) (by omega) (by omega) (by omega) (by omega) (by omega) (by omega) (by omega) (by omega) (by omega) (by omega) (by have := li_1; have := li_1; have := li_0; omega) (by have := li_1; have := li_1; have := li_0; omega)) w999 w996 w998 w41 w72 hdX11_takesOut ⟨rfl, rfl⟩ ⟨Nat.le_of_ble_eq_true rfl, Nat.le_of_ble_eq_true rfl⟩ rfl hl.1 (Nat.le_of_ble_eq_true rfl) dX11_factor_78 ⟨Nat.le_of_ble_eq_true rfl, Nat.le_of_ble_eq_true rfl⟩) hT hS hA [1, 2, 3, 4] [0] rfl rfl rfl (by decide) (by decide) (fun r701 H locs hB J hS => ?_)
                                  rcases hB with ⟨rfl, hT1⟩ | ⟨v705, v706, b_v706, c_707, c_708, c_709, c_710, c_711, c_712, c_713, c_714, rfl, hT1⟩
                                  · skip
                                    have hT := J _ hT1
                                    have hT : TP D A [(h1, aI (k 0) 36 anI), (h0, ob 8 [.int h0f0, .int h0f1, .int h0f2, .int h0f3, .int h0f4, .int h0f5, .ref h1, .ref h2, .int h0f8, .int h0f9, .ref h3, .ref h4, .ref h5, .ref h6, .ref h7, .ref h8, .ref h9, .int h0f17, .int h0f18, .int h0f19, .ref h10, .ref h11, .ref h12, .ref h13, .int h0f24, .int h0f25, .ref h14, .ref h15, .ref h16, .ref h17, .int h0f30, .int h0f31, .ref h18, .ref h19, .ref h20, .ref h21]), (h4, aJ (k 1) 9 anJ), (h5, aJ (k 1) 9 anJ), (h7, aJ (k 1) 4 anJ)] _ := hT
                                    refine lv_if_eq (tgt := 90) hx hb dX11_factor_81 (by decide) (fun _ => ?_) (fun cc => absurd (by decide +kernel) cc)
                                    refine lv_iload_n hx hb dX11_factor_90 rfl (lv_at hl 0 rfl) ?_
                                    exact tz_retI (B := B_cX11_factor_71296 D k h0 h1 h4 h5 h7 h2 h3 h6 h8 h9 h10 h11 h12 h13 h14 h15 h16 h17 h18 h19 h20 h21 x1 x2 h0f0 h0f1 h0f2 h0f3 h0f4 h0f5 h0f8 h0f9 h0f17 h0f18 h0f19 h0f24 h0f25 h0f30 h0f31) (v := 2) hQ hx hb hr hlocks hS (Nat.le_of_ble_eq_true rfl) (Nat.le_of_ble_eq_true rfl) dX11_factor_91 (⟨(by have := li_2; omega), (hT.sub [1, 0, 2, 3, 4] (by decide) rfl)⟩)
                                  · skip
                                    have hT := J _ hT1
                                    have hT : TP D A [(h1, aI (k 0) 36 anI), (h0, ob 8 [.int h0f0, .int h0f1, .int h0f2, .int h0f3, .int h0f4, .int h0f5, .ref h1, .ref h2, .int h0f8, .int h0f9, .ref h3, .ref h4, .ref h5, .ref h6, .ref h7, .ref h8, .ref h9, .int h0f17, .int h0f18, .int h0f19, .ref h10, .ref h11, .ref h12, .ref h13, .int h0f24, .int h0f25, .ref h14, .ref h15, .ref h16, .ref h17, .int h0f30, .int h0f31, .ref h18, .ref h19, .ref h20, .ref h21]), (h4, aJ (k 1) 9 anJ), (h5, aJ (k 1) 9 anJ), (h7, aJ (k 1) 4 (zJ [1, 2, 3]))] _ := hT
                                    refine lv_if_eq (tgt := 90) hx hb dX11_factor_81 (by decide) (fun cc => absurd cc (by decide +kernel)) (fun _ => ?_)
                                    refine lv_iinc (v := 3) (lv' := [(3, .int 3), (4, .int 1), (0, .ref h0), (1, .int x1), (2, .int x2)]) hx hb dX11_factor_84 hl (k := 0) rfl (by decide) (by decide) rfl (fun ls hl => ?_)
                                    refine lv_goto (tgt := 45) hx hb dX11_factor_87 (by decide) ?_
                                    refine lv_aload_n hx hb dX11_factor_45 rfl (lv_at hl 2 rfl) ?_
                                    refine lv_iload hx hb dX11_factor_46 (lv_at hl 1 rfl) ?_
                                    refine lv_iload_n hx hb dX11_factor_48 rfl (lv_at hl 4 rfl) ?_
                                    refine lv_iconst (v := 1) hx hb dX11_factor_49 (by decide) ?_
                                    refine lv_icmp_ne (tgt := 57) hx hb dX11_factor_50 (by decide) (fun c_715 => ?_) (fun c_715 => ?_)
                                    · skip
                                      have c_715 := ni_ne c_715 rfl li_1
                                      refine lv_iconst (v := 1) hx hb dX11_factor_57 (by decide) ?_
                                      refine lv_iload_n hx hb dX11_factor_58 rfl (lv_at hl 4 rfl) ?_
                                      refine lv_iconst (v := 3) hx hb dX11_factor_59 (by decide) ?_
                                      refine lv_icmp_ne (tgt := 67) hx hb dX11_factor_60 (by decide) (fun c_716 => ?_) (fun c_716 => ?_)
                                      · skip
                                        have c_716 := ni_ne c_716 rfl li_3
                                        refine lv_iload_n hx hb dX11_factor_67 rfl (lv_at hl 4 rfl) ?_
                                        refine lv_bipush (v := 6) hx hb dX11_factor_68 (by decide) ?_
                                        refine lv_icmp_ne (tgt := 77) hx hb dX11_factor_70 (by decide) (fun c_717 => ?_) (fun c_717 => ?_)
                                        · skip
                                          have c_717 := ni_ne c_717 rfl li_6
                                          refine lv_iconst (v := 0) hx hb dX11_factor_77 (by decide) ?_
                                          have q_q719 := li_1
                                          have q_q720 := li_1
                                          have q_q721 := li_0
                                          refine tcI (Tc := [(h0, ob 8 [.int h0f0, .int h0f1, .int h0f2, .int h0f3, .int h0f4, .int h0f5, .ref h1, .ref h2, .int h0f8, .int h0f9, .ref h3, .ref h4, .ref h5, .ref h6, .ref h7, .ref h8, .ref h9, .int h0f17, .int h0f18, .int h0f19, .ref h10, .ref h11, .ref h12, .ref h13, .int h0f24, .int h0f25, .ref h14, .ref h15, .ref h16, .ref h17, .int h0f30, .int h0f31, .ref h18, .ref h19, .ref h20, .ref h21]), (h7, aJ (k 1) 4 (zJ [1, 2, 3]))]) (Tr := [(h1, aI (k 0) 36 anI), (h4, aJ (k 1) 9 anJ), (h5, aJ (k 1) 9 anJ)]) (as := [h0, h7]) (zcV (q0 := 1) (ci := 8) (As := [.int 1, .int 1, .int 0]) (rest := []) (Tc := [(h0, ob 8 [.int h0f0, .int h0f1, .int h0f2, .int h0f3, .int h0f4, .int h0f5, .ref h1, .ref h2, .int h0f8, .int h0f9, .ref h3, .ref h4, .ref h5, .ref h6, .ref h7, .ref h8, .ref h9, .int h0f17, .int h0f18, .int h0f19, .ref h10, .ref h11, .ref h12, .ref h13, .int h0f24, .int h0f25, .ref h14, .ref h15, .ref h16, .ref h17, .int h0f30, .int h0f31, .ref h18, .ref h19, .ref h20, .ref h21]), (h7, aJ (k 1) 4 (zJ [1, 2, 3]))]) hx hb hml hown hU hK hT rfl rfl [1, 4] rfl (by decide) (cX11_takesOut_3cbb8 l D k _ h0 h7 h1 h2 h3 h4 h5 h6 h8 h9 h10 h11 h12 h13 h14 h15 h16 h17 h18 h19 h20 h21 (1) (1) (0) h0f0 h0f1 h0f2 h0f3 h0f4 h0f5 h0f8 h0f9 h0f17 h0f18 h0f19 h0f24 h0f25 h0f30 h0f31 (by have := li_1; omega) (by have := li_1; omega) (by have := li_0; omega) (by omega) (by omega) (by omega) (by omega) (by omega) (by omega) (by omega) (by omega) (by omega) (by omega) (by omega) (by omega) (by omega) (by have := li_1; have := li_1; have := li_0; omega) (by have := li_1; have := li_1; have := li_0; omega)) w999 w996 w998 w41 w72 hdX11_takesOut ⟨rfl, rfl⟩ ⟨Nat.le_of_ble_eq_true rfl, Nat.le_of_ble_eq_true rfl⟩ rfl hl.1 (Nat.le_of_ble_eq_true rfl) dX11_factor_78 ⟨Nat.le_of_ble_eq_true rfl, Nat.le_of_ble_eq_true rfl⟩) hT hS hA [1, 4] [0, 2, 3] rfl rfl rfl (by decide) (by decide) (fun r718 H locs hB J hS => ?_)
                                          obtain ⟨rfl, hT1⟩ := hB
                                          have hT := J _ hT1
                                          have hT : TP D A [(h1, aI (k 0) 36 anI), (h4, aJ (k 1) 9 anJ), (h5, aJ (k 1) 9 anJ), (h0, ob 8 [.int h0f0, .int h0f1, .int h0f2, .int h0f3, .int h0f4, .int h0f5, .ref h1, .ref h2, .int h0f8, .int h0f9, .ref h3, .ref h4, .ref h5, .ref h6, .ref h7, .ref h8, .ref h9, .int h0f17, .int h0f18, .int h0f19, .ref h10, .ref h11, .ref h12, .ref h13, .int h0f24, .int h0f25, .ref h14, .ref h15, .ref h16, .ref h17, .int h0f30, .int h0f31, .ref h18, .ref h19, .ref h20, .ref h21]), (h7, aJ (k 1) 4 anJ)] _ := hT
                                          refine lv_if_eq (tgt := 90) hx hb dX11_factor_81 (by decide) (fun _ => ?_) (fun cc => absurd (by decide +kernel) cc)
                                          refine lv_iload_n hx hb dX11_factor_90 rfl (lv_at hl 0 rfl) ?_
                                          exact tz_retI (B := B_cX11_factor_71296 D k h0 h1 h4 h5 h7 h2 h3 h6 h8 h9 h10 h11 h12 h13 h14 h15 h16 h17 h18 h19 h20 h21 x1 x2 h0f0 h0f1 h0f2 h0f3 h0f4 h0f5 h0f8 h0f9 h0f17 h0f18 h0f19 h0f24 h0f25 h0f30 h0f31) (v := 3) hQ hx hb hr hlocks hS (Nat.le_of_ble_eq_true rfl) (Nat.le_of_ble_eq_true rfl) dX11_factor_91 (⟨(by have := li_3; omega), (hT.sub [3, 0, 1, 2, 4] (by decide) rfl)⟩)
                                        · skip
                                          have c_717 := ni_eq c_717 rfl li_6
                                          exfalso; omega
                                      · skip
                                        have c_716 := ni_eq c_716 rfl li_3
                                        exfalso; omega
                                    · skip
                                      have c_715 := ni_eq c_715 rfl li_1
                                      exfalso; omega
                                · skip
                                  have c_700 := ni_eq c_700 rfl li_6
                                  exfalso; omega
                              · skip
                                have c_699 := ni_eq c_699 rfl li_3
                                exfalso; omega
                            · skip
                              have c_698 := ni_eq c_698 rfl li_1
                              exfalso; omega
                          · skip
                            have hT := J _ hT1
                            have hT : TP D A [(h1, aI (k 0) 36 anI), (h0, ob 8 [.int h0f0, .int h0f1, .int h0f2, .int h0f3, .int h0f4, .int h0f5, .ref h1, .ref h2, .int h0f8, .int h0f9, .ref h3, .ref h4, .ref h5, .ref h6, .ref h7, .ref h8, .ref h9, .int h0f17, .int h0f18, .int h0f19, .ref h10, .ref h11, .ref h12, .ref h13, .int h0f24, .int h0f25, .ref h14, .ref h15, .ref h16, .ref h17, .int h0f30, .int h0f31, .ref h18, .ref h19, .ref h20, .ref h21]), (h4, aJ (k 1) 9 anJ), (h5, aJ (k 1) 9 anJ), (h7, aJ (k 1) 4 (zJ [2, 3]))] _ := hT
                            exfalso; omega
                        · skip
                          have c_635 := ni_eq c_635 rfl li_6
                          exfalso; omega
                      · skip
                        have c_634 := ni_eq c_634 rfl li_3
                        exfalso; omega
                    · skip
                      have c_633 := ni_eq c_633 rfl li_1
                      exfalso; omega
                  · skip
                    have hT := J _ hT1
                    have hT : TP D A [(h1, aI (k 0) 36 anI), (h0, ob 8 [.int h0f0, .int h0f1, .int h0f2, .int h0f3, .int h0f4, .int h0f5, .ref h1, .ref h2, .int h0f8, .int h0f9, .ref h3, .ref h4, .ref h5, .ref h6, .ref h7, .ref h8, .ref h9, .int h0f17, .int h0f18, .int h0f19, .ref h10, .ref h11, .ref h12, .ref h13, .int h0f24, .int h0f25, .ref h14, .ref h15, .ref h16, .ref h17, .int h0f30, .int h0f31, .ref h18, .ref h19, .ref h20, .ref h21]), (h4, aJ (k 1) 9 anJ), (h5, aJ (k 1) 9 anJ), (h7, aJ (k 1) 4 (zJ [3]))] _ := hT
                    refine lv_if_eq (tgt := 90) hx hb dX11_factor_81 (by decide) (fun cc => absurd cc (by decide +kernel)) (fun _ => ?_)
                    refine lv_iinc (v := 1) (lv' := [(3, .int 1), (4, .int 1), (0, .ref h0), (1, .int x1), (2, .int x2)]) hx hb dX11_factor_84 hl (k := 1) rfl (by decide) (by decide) rfl (fun ls hl => ?_)
                    refine lv_goto (tgt := 45) hx hb dX11_factor_87 (by decide) ?_
                    refine lv_aload_n hx hb dX11_factor_45 rfl (lv_at hl 2 rfl) ?_
                    refine lv_iload hx hb dX11_factor_46 (lv_at hl 1 rfl) ?_
                    refine lv_iload_n hx hb dX11_factor_48 rfl (lv_at hl 4 rfl) ?_
                    refine lv_iconst (v := 1) hx hb dX11_factor_49 (by decide) ?_
                    refine lv_icmp_ne (tgt := 57) hx hb dX11_factor_50 (by decide) (fun c_722 => ?_) (fun c_722 => ?_)
                    · skip
                      have c_722 := ni_ne c_722 rfl li_1
                      refine lv_iconst (v := 1) hx hb dX11_factor_57 (by decide) ?_
                      refine lv_iload_n hx hb dX11_factor_58 rfl (lv_at hl 4 rfl) ?_
                      refine lv_iconst (v := 3) hx hb dX11_factor_59 (by decide) ?_
                      refine lv_icmp_ne (tgt := 67) hx hb dX11_factor_60 (by decide) (fun c_723 => ?_) (fun c_723 => ?_)
                      · skip
                        have c_723 := ni_ne c_723 rfl li_3
                        refine lv_iload_n hx hb dX11_factor_67 rfl (lv_at hl 4 rfl) ?_
                        refine lv_bipush (v := 6) hx hb dX11_factor_68 (by decide) ?_
                        refine lv_icmp_ne (tgt := 77) hx hb dX11_factor_70 (by decide) (fun c_724 => ?_) (fun c_724 => ?_)
                        · skip
                          have c_724 := ni_ne c_724 rfl li_6
                          refine lv_iconst (v := 0) hx hb dX11_factor_77 (by decide) ?_
                          have q_q726 := li_1
                          have q_q727 := li_1
                          have q_q728 := li_0
                          refine tcI (Tc := [(h0, ob 8 [.int h0f0, .int h0f1, .int h0f2, .int h0f3, .int h0f4, .int h0f5, .ref h1, .ref h2, .int h0f8, .int h0f9, .ref h3, .ref h4, .ref h5, .ref h6, .ref h7, .ref h8, .ref h9, .int h0f17, .int h0f18, .int h0f19, .ref h10, .ref h11, .ref h12, .ref h13, .int h0f24, .int h0f25, .ref h14, .ref h15, .ref h16, .ref h17, .int h0f30, .int h0f31, .ref h18, .ref h19, .ref h20, .ref h21]), (h4, aJ (k 1) 9 anJ), (h5, aJ (k 1) 9 anJ), (h7, aJ (k 1) 4 (zJ [3]))]) (Tr := [(h1, aI (k 0) 36 anI)]) (as := [h0, h4, h5, h7]) (zcV (q0 := 1) (ci := 8) (As := [.int 1, .int 1, .int 0]) (rest := []) (Tc := [(h0, ob 8 [.int h0f0, .int h0f1, .int h0f2, .int h0f3, .int h0f4, .int h0f5, .ref h1, .ref h2, .int h0f8, .int h0f9, .ref h3, .ref h4, .ref h5, .ref h6, .ref h7, .ref h8, .ref h9, .int h0f17, .int h0f18, .int h0f19, .ref h10, .ref h11, .ref h12, .ref h13, .int h0f24, .int h0f25, .ref h14, .ref h15, .ref h16, .ref h17, .int h0f30, .int h0f31, .ref h18, .ref h19, .ref h20, .ref h21]), (h4, aJ (k 1) 9 anJ), (h5, aJ (k 1) 9 anJ), (h7, aJ (k 1) 4 (zJ [3]))]) hx hb hml hown hU hK hT rfl rfl [1, 2, 3, 4] rfl (by decide) (cX11_takesOut_a13ae l D k _ h0 h4 h5 h7 h1 h2 h3 h6 h8 h9 h10 h11 h12 h13 h14 h15 h16 h17 h18 h19 h20 h21 (1) (1) (0) h0f0 h0f1 h0f2 h0f3 h0f4 h0f5 h0f8 h0f9 h0f17 h0f18 h0f19 h0f24 h0f25 h0f30 h0f31 (by have := li_1; omega) (by have := li_1; omega) (by have := li_0; omega) (by omega) (by omega) (by omega) (by omega) (by omega) (by omega) (by omega) (by omega) (by omega) (by omega) (by omega) (by omega) (by omega) (by have := li_1; have := li_1; have := li_0; omega) (by have := li_1; have := li_1; have := li_0; omega)) w999 w996 w998 w41 w72 hdX11_takesOut ⟨rfl, rfl⟩ ⟨Nat.le_of_ble_eq_true rfl, Nat.le_of_ble_eq_true rfl⟩ rfl hl.1 (Nat.le_of_ble_eq_true rfl) dX11_factor_78 ⟨Nat.le_of_ble_eq_true rfl, Nat.le_of_ble_eq_true rfl⟩) hT hS hA [1, 2, 3, 4] [0] rfl rfl rfl (by decide) (by decide) (fun r725 H locs hB J hS => ?_)
                          rcases hB with ⟨rfl, hT1⟩ | ⟨v729, v730, b_v730, c_731, c_732, c_733, c_734, c_735, c_736, c_737, c_738, c_739, rfl, hT1⟩ | ⟨v740, v741, v742, b_v740, b_v742, c_743, c_744, c_745, c_746, c_747, c_748, c_749, c_750, c_751, rfl, hT1⟩ | ⟨v752, v753, v754, b_v753, b_v754, c_755, c_756, c_757, c_758, c_759, c_760, c_761, c_762, rfl, hT1⟩
                          · skip
                            have hT := J _ hT1
                            have hT : TP D A [(h1, aI (k 0) 36 anI), (h0, ob 8 [.int h0f0, .int h0f1, .int h0f2, .int h0f3, .int h0f4, .int h0f5, .ref h1, .ref h2, .int h0f8, .int h0f9, .ref h3, .ref h4, .ref h5, .ref h6, .ref h7, .ref h8, .ref h9, .int h0f17, .int h0f18, .int h0f19, .ref h10, .ref h11, .ref h12, .ref h13, .int h0f24, .int h0f25, .ref h14, .ref h15, .ref h16, .ref h17, .int h0f30, .int h0f31, .ref h18, .ref h19, .ref h20, .ref h21]), (h4, aJ (k 1) 9 anJ), (h5, aJ (k 1) 9 anJ), (h7, aJ (k 1) 4 anJ)] _ := hT
                            refine lv_if_eq (tgt := 90) hx hb dX11_factor_81 (by decide) (fun _ => ?_) (fun cc => absurd (by decide +kernel) cc)
                            refine lv_iload_n hx hb dX11_factor_90 rfl (lv_at hl 0 rfl) ?_
                            exact tz_retI (B := B_cX11_factor_71296 D k h0 h1 h4 h5 h7 h2 h3 h6 h8 h9 h10 h11 h12 h13 h14 h15 h16 h17 h18 h19 h20 h21 x1 x2 h0f0 h0f1 h0f2 h0f3 h0f4 h0f5 h0f8 h0f9 h0f17 h0f18 h0f19 h0f24 h0f25 h0f30 h0f31) (v := 1) hQ hx hb hr hlocks hS (Nat.le_of_ble_eq_true rfl) (Nat.le_of_ble_eq_true rfl) dX11_factor_91 (⟨(by have := li_1; omega), (hT.sub [1, 0, 2, 3, 4] (by decide) rfl)⟩)
                          · skip
                            have hT := J _ hT1
                            have hT : TP D A [(h1, aI (k 0) 36 anI), (h0, ob 8 [.int h0f0, .int h0f1, .int h0f2, .int h0f3, .int h0f4, .int h0f5, .ref h1, .ref h2, .int h0f8, .int h0f9, .ref h3, .ref h4, .ref h5, .ref h6, .ref h7, .ref h8, .ref h9, .int h0f17, .int h0f18, .int h0f19, .ref h10, .ref h11, .ref h12, .ref h13, .int h0f24, .int h0f25, .ref h14, .ref h15, .ref h16, .ref h17, .int h0f30, .int h0f31, .ref h18, .ref h19, .ref h20, .ref h21]), (h4, aJ (k 1) 9 anJ), (h5, aJ (k 1) 9 anJ), (h7, aJ (k 1) 4 (zJ [2, 3]))] _ := hT
                            refine lv_if_eq (tgt := 90) hx hb dX11_factor_81 (by decide) (fun cc => absurd cc (by decide +kernel)) (fun _ => ?_)
                            refine lv_iinc (v := 2) (lv' := [(3, .int 2), (4, .int 1), (0, .ref h0), (1, .int x1), (2, .int x2)]) hx hb dX11_factor_84 hl (k := 0) rfl (by decide) (by decide) rfl (fun ls hl => ?_)
                            refine lv_goto (tgt := 45) hx hb dX11_factor_87 (by decide) ?_
                            refine lv_aload_n hx hb dX11_factor_45 rfl (lv_at hl 2 rfl) ?_
                            refine lv_iload hx hb dX11_factor_46 (lv_at hl 1 rfl) ?_
                            refine lv_iload_n hx hb dX11_factor_48 rfl (lv_at hl 4 rfl) ?_
                            refine lv_iconst (v := 1) hx hb dX11_factor_49 (by decide) ?_
                            refine lv_icmp_ne (tgt := 57) hx hb dX11_factor_50 (by decide) (fun c_763 => ?_) (fun c_763 => ?_)
                            · skip
                              have c_763 := ni_ne c_763 rfl li_1
                              refine lv_iconst (v := 1) hx hb dX11_factor_57 (by decide) ?_
                              refine lv_iload_n hx hb dX11_factor_58 rfl (lv_at hl 4 rfl) ?_
                              refine lv_iconst (v := 3) hx hb dX11_factor_59 (by decide) ?_
                              refine lv_icmp_ne (tgt := 67) hx hb dX11_factor_60 (by decide) (fun c_764 => ?_) (fun c_764 => ?_)
                              · skip
                                have c_764 := ni_ne c_764 rfl li_3
                                refine lv_iload_n hx hb dX11_factor_67 rfl (lv_at hl 4 rfl) ?_
                                refine lv_bipush (v := 6) hx hb dX11_factor_68 (by decide) ?_
                                refine lv_icmp_ne (tgt := 77) hx hb dX11_factor_70 (by decide) (fun c_765 => ?_) (fun c_765 => ?_)
                                · skip
                                  have c_765 := ni_ne c_765 rfl li_6
                                  refine lv_iconst (v := 0) hx hb dX11_factor_77 (by decide) ?_
                                  have q_q767 := li_1
                                  have q_q768 := li_1
                                  have q_q769 := li_0
                                  refine tcI (Tc := [(h0, ob 8 [.int h0f0, .int h0f1, .int h0f2, .int h0f3, .int h0f4, .int h0f5, .ref h1, .ref h2, .int h0f8, .int h0f9, .ref h3, .ref h4, .ref h5, .ref h6, .ref h7, .ref h8, .ref h9, .int h0f17, .int h0f18, .int h0f19, .ref h10, .ref h11, .ref h12, .ref h13, .int h0f24, .int h0f25, .ref h14, .ref h15, .ref h16, .ref h17, .int h0f30, .int h0f31, .ref h18, .ref h19, .ref h20, .ref h21]), (h4, aJ (k 1) 9 anJ), (h5, aJ (k 1) 9 anJ), (h7, aJ (k 1) 4 (zJ [2, 3]))]) (Tr := [(h1, aI (k 0) 36 anI)]) (as := [h0, h4, h5, h7]) (zcV (q0 := 1) (ci := 8) (As := [.int 1, .int 1, .int 0]) (rest := []) (Tc := [(h0, ob 8 [.int h0f0, .int h0f1, .int h0f2, .int h0f3, .int h0f4, .int h0f5, .ref h1, .ref h2, .int h0f8, .int h0f9, .ref h3, .ref h4, .ref h5, .ref h6, .ref h7, .ref h8, .ref h9, .int h0f17, .int h0f18, .int h0f19, .ref h10, .ref h11, .ref h12, .ref h13, .int h0f24, .int h0f25, .ref h14, .ref h15, .ref h16, .ref h17, .int h0f30, .int h0f31, .ref h18, .ref h19, .ref h20, .ref h21]), (h4, aJ (k 1) 9 anJ), (h5, aJ (k 1) 9 anJ), (h7, aJ (k 1) 4 (zJ [2, 3]))]) hx hb hml hown hU hK hT rfl rfl [1, 2, 3, 4] rfl (by decide) (cX11_takesOut_2378e l D k _ h0 h4 h5 h7 h1 h2 h3 h6 h8 h9 h10 h11 h12 h13 h14 h15 h16 h17 h18 h19 h20 h21 (1) (1) (0) h0f0 h0f1 h0f2 h0f3 h0f4 h0f5 h0f8 h0f9 h0f17 h0f18 h0f19 h0f24 h0f25 h0f30 h0f31 (by have := li_1; omega) (by have := li_1; omega) (by have := li_0; omega) (by omega) (by omega) (by omega) (by omega) (by omega) (by omega) (by omega) (by omega) (by omega) (by omega) (by omega) (by omega) (by omega) (by have := li_1; have := li_1; have := li_0; omega) (by have := li_1; have := li_1; have := li_0; omega)) w999 w996 w998 w41 w72 hdX11_takesOut ⟨rfl, rfl⟩ ⟨Nat.le_of_ble_eq_true rfl, Nat.le_of_ble_eq_true rfl⟩ rfl hl.1 (Nat.le_of_ble_eq_true rfl) dX11_factor_78 ⟨Nat.le_of_ble_eq_true rfl, Nat.le_of_ble_eq_true rfl⟩) hT hS hA [1, 2, 3, 4] [0] rfl rfl rfl (by decide) (by decide) (fun r766 H locs hB J hS => ?_)
                                  rcases hB with ⟨rfl, hT1⟩ | ⟨v770, v771, b_v771, c_772, c_773, c_774, c_775, c_776, c_777, c_778, c_779, rfl, hT1⟩
                                  · skip
                                    have hT := J _ hT1
                                    have hT : TP D A [(h1, aI (k 0) 36 anI), (h0, ob 8 [.int h0f0, .int h0f1, .int h0f2, .int h0f3, .int h0f4, .int h0f5, .ref h1, .ref h2, .int h0f8, .int h0f9, .ref h3, .ref h4, .ref h5, .ref h6, .ref h7, .ref h8, .ref h9, .int h0f17, .int h0f18, .int h0f19, .ref h10, .ref h11, .ref h12, .ref h13, .int h0f24, .int h0f25, .ref h14, .ref h15, .ref h16, .ref h17, .int h0f30, .int h0f31, .ref h18, .ref h19, .ref h20, .ref h21]), (h4, aJ (k 1) 9 anJ), (h5, aJ (k 1) 9 anJ), (h7, aJ (k 1) 4 anJ)] _ := hT
                                    refine lv_if_eq (tgt := 90) hx hb dX11_factor_81 (by decide) (fun _ => ?_) (fun cc => absurd (by decide +kernel) cc)
                                    refine lv_iload_n hx hb dX11_factor_90 rfl (lv_at hl 0 rfl) ?_
                                    exact tz_retI (B := B_cX11_factor_71296 D k h0 h1 h4 h5 h7 h2 h3 h6 h8 h9 h10 h11 h12 h13 h14 h15 h16 h17 h18 h19 h20 h21 x1 x2 h0f0 h0f1 h0f2 h0f3 h0f4 h0f5 h0f8 h0f9 h0f17 h0f18 h0f19 h0f24 h0f25 h0f30 h0f31) (v := 2) hQ hx hb hr hlocks hS (Nat.le_of_ble_eq_true rfl) (Nat.le_of_ble_eq_true rfl) dX11_factor_91 (⟨(by have := li_2; omega), (hT.sub [1, 0, 2, 3, 4] (by decide) rfl)⟩)
                                  · skip
                                    have hT := J _ hT1
                                    have hT : TP D A [(h1, aI (k 0) 36 anI), (h0, ob 8 [.int h0f0, .int h0f1, .int h0f2, .int h0f3, .int h0f4, .int h0f5, .ref h1, .ref h2, .int h0f8, .int h0f9, .ref h3, .ref h4, .ref h5, .ref h6, .ref h7, .ref h8, .ref h9, .int h0f17, .int h0f18, .int h0f19, .ref h10, .ref h11, .ref h12, .ref h13, .int h0f24, .int h0f25, .ref h14, .ref h15, .ref h16, .ref h17, .int h0f30, .int h0f31, .ref h18, .ref h19, .ref h20, .ref h21]), (h4, aJ (k 1) 9 anJ), (h5, aJ (k 1) 9 anJ), (h7, aJ (k 1) 4 (zJ [1, 2, 3]))] _ := hT
                                    refine lv_if_eq (tgt := 90) hx hb dX11_factor_81 (by decide) (fun cc => absurd cc (by decide +kernel)) (fun _ => ?_)
                                    refine lv_iinc (v := 3) (lv' := [(3, .int 3), (4, .int 1), (0, .ref h0), (1, .int x1), (2, .int x2)]) hx hb dX11_factor_84 hl (k := 0) rfl (by decide) (by decide) rfl (fun ls hl => ?_)
                                    refine lv_goto (tgt := 45) hx hb dX11_factor_87 (by decide) ?_
                                    refine lv_aload_n hx hb dX11_factor_45 rfl (lv_at hl 2 rfl) ?_
                                    refine lv_iload hx hb dX11_factor_46 (lv_at hl 1 rfl) ?_
                                    refine lv_iload_n hx hb dX11_factor_48 rfl (lv_at hl 4 rfl) ?_
                                    refine lv_iconst (v := 1) hx hb dX11_factor_49 (by decide) ?_
                                    refine lv_icmp_ne (tgt := 57) hx hb dX11_factor_50 (by decide) (fun c_780 => ?_) (fun c_780 => ?_)
                                    · skip
                                      have c_780 := ni_ne c_780 rfl li_1
                                      refine lv_iconst (v := 1) hx hb dX11_factor_57 (by decide) ?_
                                      refine lv_iload_n hx hb dX11_factor_58 rfl (lv_at hl 4 rfl) ?_
                                      refine lv_iconst (v := 3) hx hb dX11_factor_59 (by decide) ?_
                                      refine lv_icmp_ne (tgt := 67) hx hb dX11_factor_60 (by decide) (fun c_781 => ?_) (fun c_781 => ?_)
                                      · skip
                                        have c_781 := ni_ne c_781 rfl li_3
                                        refine lv_iload_n hx hb dX11_factor_67 rfl (lv_at hl 4 rfl) ?_
                                        refine lv_bipush (v := 6) hx hb dX11_factor_68 (by decide) ?_
                                        refine lv_icmp_ne (tgt := 77) hx hb dX11_factor_70 (by decide) (fun c_782 => ?_) (fun c_782 => ?_)
                                        · skip
                                          have c_782 := ni_ne c_782 rfl li_6
                                          refine lv_iconst (v := 0) hx hb dX11_factor_77 (by decide) ?_
                                          have q_q784 := li_1
                                          have q_q785 := li_1
                                          have q_q786 := li_0
                                          refine tcI (Tc := [(h0, ob 8 [.int h0f0, .int h0f1, .int h0f2, .int h0f3, .int h0f4, .int h0f5, .ref h1, .ref h2, .int h0f8, .int h0f9, .ref h3, .ref h4, .ref h5, .ref h6, .ref h7, .ref h8, .ref h9, .int h0f17, .int h0f18, .int h0f19, .ref h10, .ref h11, .ref h12, .ref h13, .int h0f24, .int h0f25, .ref h14, .ref h15, .ref h16, .ref h17, .int h0f30, .int h0f31, .ref h18, .ref h19, .ref h20, .ref h21]), (h7, aJ (k 1) 4 (zJ [1, 2, 3]))]) (Tr := [(h1, aI (k 0) 36 anI), (h4, aJ (k 1) 9 anJ), (h5, aJ (k 1) 9 anJ)]) (as := [h0, h7]) (zcV (q0 := 1) (ci := 8) (As := [.int 1, .int 1, .int 0]) (rest := []) (Tc := [(h0, ob 8 [.int h0f0, .int h0f1, .int h0f2, .int h0f3, .int h0f4, .int h0f5, .ref h1, .ref h2, .int h0f8, .int h0f9, .ref h3, .ref h4, .ref h5, .ref h6, .ref h7, .ref h8, .ref h9, .int h0f17, .int h0f18, .int h0f19, .ref h10, .ref h11, .ref h12, .ref h13, .int h0f24, .int h0f25, .ref h14, .ref h15, .ref h16, .ref h17, .int h0f30, .int h0f31, .ref h18, .ref h19, .ref h20, .ref h21]), (h7, aJ (k 1) 4 (zJ [1, 2, 3]))]) hx hb hml hown hU hK hT rfl rfl [1, 4] rfl (by decide) (cX11_takesOut_3cbb8 l D k _ h0 h7 h1 h2 h3 h4 h5 h6 h8 h9 h10 h11 h12 h13 h14 h15 h16 h17 h18 h19 h20 h21 (1) (1) (0) h0f0 h0f1 h0f2 h0f3 h0f4 h0f5 h0f8 h0f9 h0f17 h0f18 h0f19 h0f24 h0f25 h0f30 h0f31 (by have := li_1; omega) (by have := li_1; omega) (by have := li_0; omega) (by omega) (by omega) (by omega) (by omega) (by omega) (by omega) (by omega) (by omega) (by omega) (by omega) (by omega) (by omega) (by omega) (by have := li_1; have := li_1; have := li_0; omega) (by have := li_1; have := li_1; have := li_0; omega)) w999 w996 w998 w41 w72 hdX11_takesOut ⟨rfl, rfl⟩ ⟨Nat.le_of_ble_eq_true rfl, Nat.le_of_ble_eq_true rfl⟩ rfl hl.1 (Nat.le_of_ble_eq_true rfl) dX11_factor_78 ⟨Nat.le_of_ble_eq_true rfl, Nat.le_of_ble_eq_true rfl⟩) hT hS hA [1, 4] [0, 2, 3] rfl rfl rfl (by decide) (by decide) (fun r783 H locs hB J hS => ?_)
                                          obtain ⟨rfl, hT1⟩ := hB
                                          have hT := J _ hT1
                                          have hT : TP D A [(h1, aI (k 0) 36 anI), (h4, aJ (k 1) 9 anJ), (h5, aJ (k 1) 9 anJ), (h0, ob 8 [.int h0f0, .int h0f1, .int h0f2, .int h0f3, .int h0f4, .int h0f5, .ref h1, .ref h2, .int h0f8, .int h0f9, .ref h3, .ref h4, .ref h5, .ref h6, .ref h7, .ref h8, .ref h9, .int h0f17, .int h0f18, .int h0f19, .ref h10, .ref h11, .ref h12, .ref h13, .int h0f24, .int h0f25, .ref h14, .ref h15, .ref h16, .ref h17, .int h0f30, .int h0f31, .ref h18, .ref h19, .ref h20, .ref h21]), (h7, aJ (k 1) 4 anJ)] _ := hT
                                          refine lv_if_eq (tgt := 90) hx hb dX11_factor_81 (by decide) (fun _ => ?_) (fun cc => absurd (by decide +kernel) cc)
                                          refine lv_iload_n hx hb dX11_factor_90 rfl (lv_at hl 0 rfl) ?_
                                          exact tz_retI (B := B_cX11_factor_71296 D k h0 h1 h4 h5 h7 h2 h3 h6 h8 h9 h10 h11 h12 h13 h14 h15 h16 h17 h18 h19 h20 h21 x1 x2 h0f0 h0f1 h0f2 h0f3 h0f4 h0f5 h0f8 h0f9 h0f17 h0f18 h0f19 h0f24 h0f25 h0f30 h0f31) (v := 3) hQ hx hb hr hlocks hS (Nat.le_of_ble_eq_true rfl) (Nat.le_of_ble_eq_true rfl) dX11_factor_91 (⟨(by have := li_3; omega), (hT.sub [3, 0, 1, 2, 4] (by decide) rfl)⟩)
                                        · skip
                                          have c_782 := ni_eq c_782 rfl li_6
                                          exfalso; omega
                                      · skip
                                        have c_781 := ni_eq c_781 rfl li_3
                                        exfalso; omega
                                    · skip
                                      have c_780 := ni_eq c_780 rfl li_1
                                      exfalso; omega
                                · skip
                                  have c_765 := ni_eq c_765 rfl li_6
                                  exfalso; omega
                              · skip
                                have c_764 := ni_eq c_764 rfl li_3
                                exfalso; omega
                            · skip
                              have c_763 := ni_eq c_763 rfl li_1
                              exfalso; omega
                          · skip
                            have hT := J _ hT1
                            have hT : TP D A [(h1, aI (k 0) 36 anI), (h0, ob 8 [.int h0f0, .int h0f1, .int h0f2, .int h0f3, .int h0f4, .int h0f5, .ref h1, .ref h2, .int h0f8, .int h0f9, .ref h3, .ref h4, .ref h5, .ref h6, .ref h7, .ref h8, .ref h9, .int h0f17, .int h0f18, .int h0f19, .ref h10, .ref h11, .ref h12, .ref h13, .int h0f24, .int h0f25, .ref h14, .ref h15, .ref h16, .ref h17, .int h0f30, .int h0f31, .ref h18, .ref h19, .ref h20, .ref h21]), (h4, aJ (k 1) 9 anJ), (h5, aJ (k 1) 9 anJ), (h7, aJ (k 1) 4 (zJ [2, 3]))] _ := hT
                            refine lv_if_eq (tgt := 90) hx hb dX11_factor_81 (by decide) (fun cc => absurd cc (by decide +kernel)) (fun _ => ?_)
                            refine lv_iinc (v := 2) (lv' := [(3, .int 2), (4, .int 1), (0, .ref h0), (1, .int x1), (2, .int x2)]) hx hb dX11_factor_84 hl (k := 0) rfl (by decide) (by decide) rfl (fun ls hl => ?_)
                            refine lv_goto (tgt := 45) hx hb dX11_factor_87 (by decide) ?_
                            refine lv_aload_n hx hb dX11_factor_45 rfl (lv_at hl 2 rfl) ?_
                            refine lv_iload hx hb dX11_factor_46 (lv_at hl 1 rfl) ?_
                            refine lv_iload_n hx hb dX11_factor_48 rfl (lv_at hl 4 rfl) ?_
                            refine lv_iconst (v := 1) hx hb dX11_factor_49 (by decide) ?_
                            refine lv_icmp_ne (tgt := 57) hx hb dX11_factor_50 (by decide) (fun c_787 => ?_) (fun c_787 => ?_)
                            · skip
                              have c_787 := ni_ne c_787 rfl li_1
                              refine lv_iconst (v := 1) hx hb dX11_factor_57 (by decide) ?_
                              refine lv_iload_n hx hb dX11_factor_58 rfl (lv_at hl 4 rfl) ?_
                              refine lv_iconst (v := 3) hx hb dX11_factor_59 (by decide) ?_
                              refine lv_icmp_ne (tgt := 67) hx hb dX11_factor_60 (by decide) (fun c_788 => ?_) (fun c_788 => ?_)
                              · skip
                                have c_788 := ni_ne c_788 rfl li_3
                                refine lv_iload_n hx hb dX11_factor_67 rfl (lv_at hl 4 rfl) ?_
                                refine lv_bipush (v := 6) hx hb dX11_factor_68 (by decide) ?_
                                refine lv_icmp_ne (tgt := 77) hx hb dX11_factor_70 (by decide) (fun c_789 => ?_) (fun c_789 => ?_)
                                · skip
                                  have c_789 := ni_ne c_789 rfl li_6
                                  refine lv_iconst (v := 0) hx hb dX11_factor_77 (by decide) ?_
                                  have q_q791 := li_1
                                  have q_q792 := li_1
                                  have q_q793 := li_0
                                  refine tcI (Tc := [(h0, ob 8 [.int h0f0, .int h0f1, .int h0f2, .int h0f3, .int h0f4, .int h0f5, .ref h1, .ref h2, .int h0f8, .int h0f9, .ref h3, .ref h4, .ref h5, .ref h6, .ref h7, .ref h8, .ref h9, .int h0f17, .int h0f18, .int h0f19, .ref h10, .ref h11, .ref h12, .ref h13, .int h0f24, .int h0f25, .ref h14, .ref h15, .ref h16, .ref h17, .int h0f30, .int h0f31, .ref h18, .ref h19, .ref h20, .ref h21]), (h4, aJ (k 1) 9 anJ), (h5, aJ (k 1) 9 anJ), (h7, aJ (k 1) 4 (zJ [2, 3]))]) (Tr := [(h1, aI (k 0) 36 anI)]) (as := [h0, h4, h5, h7]) (zcV (q0 := 1) (ci := 8) (As := [.int 1, .int 1, .int 0]) (rest := []) (Tc := [(h0, ob 8 [.int h0f0, .int h0f1, .int h0f2, .int h0f3, .int h0f4, .int h0f5, .ref h1, .ref h2, .int h0f8, .int h0f9, .ref h3, .ref h4, .ref h5, .ref h6, .ref h7, .ref h8, .ref h9, .int h0f17, .int h0f18, .int h0f19, .ref h10, .ref h11, .ref h12, .ref h13, .int h0f24, .int h0f25, .ref h14, .ref h15, .ref h16, .ref h17, .int h0f30, .int h0f31, .ref h18, .ref h19, .ref h20, .ref h21]), (h4, aJ (k 1) 9 anJ), (h5, aJ (k 1) 9 anJ), (h7, aJ (k 1) 4 (zJ [2, 3]))]) hx hb hml hown hU hK hT rfl rfl [1, 2, 3, 4] rfl (by decide) (cX11_takesOut_2378e l D k _ h0 h4 h5 h7 h1 h2 h3 h6 h8 h9 h10 h11 h12 h13 h14 h15 h16 h17 h18 h19 h20 h21 (1) (1) (0) h0f0 h0f1 h0f2 h0f3 h0f4 h0f5 h0f8 h0f9 h0f17 h0f18 h0f19 h0f24 h0f25 h0f30 h0f31 (by have := li_1; omega) (by have := li_1; omega) (by have := li_0; omega) (by omega) (by omega) (by omega) (by omega) (by omega) (by omega) (by omega) (by omega) (by omega) (by omega) (by omega) (by omega) (by omega) (by have := li_1; have := li_1; have := li_0; omega) (by have := li_1; have := li_1; have := li_0; omega)) w999 w996 w998 w41 w72 hdX11_takesOut ⟨rfl, rfl⟩ ⟨Nat.le_of_ble_eq_true rfl, Nat.le_of_ble_eq_true rfl⟩ rfl hl.1 (Nat.le_of_ble_eq_true rfl) dX11_factor_78 ⟨Nat.le_of_ble_eq_true rfl, Nat.le_of_ble_eq_true rfl⟩) hT hS hA [1, 2, 3, 4] [0] rfl rfl rfl (by decide) (by decide) (fun r790 H locs hB J hS => ?_)
                                  rcases hB with ⟨rfl, hT1⟩ | ⟨v794, v795, b_v795, c_796, c_797, c_798, c_799, c_800, c_801, c_802, c_803, rfl, hT1⟩
                                  · skip
                                    have hT := J _ hT1
                                    have hT : TP D A [(h1, aI (k 0) 36 anI), (h0, ob 8 [.int h0f0, .int h0f1, .int h0f2, .int h0f3, .int h0f4, .int h0f5, .ref h1, .ref h2, .int h0f8, .int h0f9, .ref h3, .ref h4, .ref h5, .ref h6, .ref h7, .ref h8, .ref h9, .int h0f17, .int h0f18, .int h0f19, .ref h10, .ref h11, .ref h12, .ref h13, .int h0f24, .int h0f25, .ref h14, .ref h15, .ref h16, .ref h17, .int h0f30, .int h0f31, .ref h18, .ref h19, .ref h20, .ref h21]), (h4, aJ (k 1) 9 anJ), (h5, aJ (k 1) 9 anJ), (h7, aJ (k 1) 4 anJ)] _ := hT
                                    refine lv_if_eq (tgt := 90) hx hb dX11_factor_81 (by decide) (fun _ => ?_) (fun cc => absurd (by decide +kernel) cc)
                                    refine lv_iload_n hx hb dX11_factor_90 rfl (lv_at hl 0 rfl) ?_
                                    exact tz_retI (B := B_cX11_factor_71296 D k h0 h1 h4 h5 h7 h2 h3 h6 h8 h9 h10 h11 h12 h13 h14 h15 h16 h17 h18 h19 h20 h21 x1 x2 h0f0 h0f1 h0f2 h0f3 h0f4 h0f5 h0f8 h0f9 h0f17 h0f18 h0f19 h0f24 h0f25 h0f30 h0f31) (v := 2) hQ hx hb hr hlocks hS (Nat.le_of_ble_eq_true rfl) (Nat.le_of_ble_eq_true rfl) dX11_factor_91 (⟨(by have := li_2; omega), (hT.sub [1, 0, 2, 3, 4] (by decide) rfl)⟩)
                                  · skip
                                    have hT := J _ hT1
                                    have hT : TP D A [(h1, aI (k 0) 36 anI), (h0, ob 8 [.int h0f0, .int h0f1, .int h0f2, .int h0f3, .int h0f4, .int h0f5, .ref h1, .ref h2, .int h0f8, .int h0f9, .ref h3, .ref h4, .ref h5, .ref h6, .ref h7, .ref h8, .ref h9, .int h0f17, .int h0f18, .int h0f19, .ref h10, .ref h11, .ref h12, .ref h13, .int h0f24, .int h0f25, .ref h14, .ref h15, .ref h16, .ref h17, .int h0f30, .int h0f31, .ref h18, .ref h19, .ref h20, .ref h21]), (h4, aJ (k 1) 9 anJ), (h5, aJ (k 1) 9 anJ), (h7, aJ (k 1) 4 (zJ [1, 2, 3]))] _ := hT
                                    refine lv_if_eq (tgt := 90) hx hb dX11_factor_81 (by decide) (fun cc => absurd cc (by decide +kernel)) (fun _ => ?_)
                                    refine lv_iinc (v := 3) (lv' := [(3, .int 3), (4, .int 1), (0, .ref h0), (1, .int x1), (2, .int x2)]) hx hb dX11_factor_84 hl (k := 0) rfl (by decide) (by decide) rfl (fun ls hl => ?_)
                                    refine lv_goto (tgt := 45) hx hb dX11_factor_87 (by decide) ?_
                                    refine lv_aload_n hx hb dX11_factor_45 rfl (lv_at hl 2 rfl) ?_
                                    refine lv_iload hx hb dX11_factor_46 (lv_at hl 1 rfl) ?_
                                    refine lv_iload_n hx hb dX11_factor_48 rfl (lv_at hl 4 rfl) ?_
                                    refine lv_iconst (v := 1) hx hb dX11_factor_49 (by decide) ?_
                                    refine lv_icmp_ne (tgt := 57) hx hb dX11_factor_50 (by decide) (fun c_804 => ?_) (fun c_804 => ?_)
                                    · skip
                                      have c_804 := ni_ne c_804 rfl li_1
                                      refine lv_iconst (v := 1) hx hb dX11_factor_57 (by decide) ?_
                                      refine lv_iload_n hx hb dX11_factor_58 rfl (lv_at hl 4 rfl) ?_
                                      refine lv_iconst (v := 3) hx hb dX11_factor_59 (by decide) ?_
                                      refine lv_icmp_ne (tgt := 67) hx hb dX11_factor_60 (by decide) (fun c_805 => ?_) (fun c_805 => ?_)
                                      · skip
                                        have c_805 := ni_ne c_805 rfl li_3
                                        refine lv_iload_n hx hb dX11_factor_67 rfl (lv_at hl 4 rfl) ?_
                                        refine lv_bipush (v := 6) hx hb dX11_factor_68 (by decide) ?_
                                        refine lv_icmp_ne (tgt := 77) hx hb dX11_factor_70 (by decide) (fun c_806 => ?_) (fun c_806 => ?_)
                                        · skip
                                          have c_806 := ni_ne c_806 rfl li_6
                                          refine lv_iconst (v := 0) hx hb dX11_factor_77 (by decide) ?_
                                          have q_q808 := li_1
                                          have q_q809 := li_1
                                          have q_q810 := li_0
                                          refine tcI (Tc := [(h0, ob 8 [.int h0f0, .int h0f1, .int h0f2, .int h0f3, .int h0f4, .int h0f5, .ref h1, .ref h2, .int h0f8, .int h0f9, .ref h3, .ref h4, .ref h5, .ref h6, .ref h7, .ref h8, .ref h9, .int h0f17, .int h0f18, .int h0f19, .ref h10, .ref h11, .ref h12, .ref h13, .int h0f24, .int h0f25, .ref h14, .ref h15, .ref h16, .ref h17, .int h0f30, .int h0f31, .ref h18, .ref h19, .ref h20, .ref h21]), (h7, aJ (k 1) 4 (zJ [1, 2, 3]))]) (Tr := [(h1, aI (k 0) 36 anI), (h4, aJ (k 1) 9 anJ), (h5, aJ (k 1) 9 anJ)]) (as := [h0, h7]) (zcV (q0 := 1) (ci := 8) (As := [.int 1, .int 1, .int 0]) (rest := []) (Tc := [(h0, ob 8 [.int h0f0, .int h0f1, .int h0f2, .int h0f3, .int h0f4, .int h0f5, .ref h1, .ref h2, .int h0f8, .int h0f9, .ref h3, .ref h4, .ref h5, .ref h6, .ref h7, .ref h8, .ref h9, .int h0f17, .int h0f18, .int h0f19, .ref h10, .ref h11, .ref h12, .ref h13, .int h0f24, .int h0f25, .ref h14, .ref h15, .ref h16, .ref h17, .int h0f30, .int h0f31, .ref h18, .ref h19, .ref h20, .ref h21]), (h7, aJ (k 1) 4 (zJ [1, 2, 3]))]) hx hb hml hown hU hK hT rfl rfl [1, 4] rfl (by decide) (cX11_takesOut_3cbb8 l D k _ h0 h7 h1 h2 h3 h4 h5 h6 h8 h9 h10 h11 h12 h13 h14 h15 h16 h17 h18 h19 h20 h21 (1) (1) (0) h0f0 h0f1 h0f2 h0f3 h0f4 h0f5 h0f8 h0f9 h0f17 h0f18 h0f19 h0f24 h0f25 h0f30 h0f31 (by have := li_1; omega) (by have := li_1; omega) (by have := li_0; omega) (by omega) (by omega) (by omega) (by omega) (by omega) (by omega) (by omega) (by omega) (by omega) (by omega) (by omega) (by omega) (by omega) (by have := li_1; have := li_1; have := li_0; omega) (by have := li_1; have := li_1; have := li_0; omega)) w999 w996 w998 w41 w72 hdX11_takesOut ⟨rfl, rfl⟩ ⟨Nat.le_of_ble_eq_true rfl, Nat.le_of_ble_eq_true rfl⟩ rfl hl.1 (Nat.le_of_ble_eq_true rfl) dX11_factor_78 ⟨Nat.le_of_ble_eq_true rfl, Nat.le_of_ble_eq_true rfl⟩) hT hS hA [1, 4] [0, 2, 3] rfl rfl rfl (by decide) (by decide) (fun r807 H locs hB J hS => ?_)
                                          obtain ⟨rfl, hT1⟩ := hB
                                          have hT := J _ hT1
                                          have hT : TP D A [(h1, aI (k 0) 36 anI), (h4, aJ (k 1) 9 anJ), (h5, aJ (k 1) 9 anJ), (h0, ob 8 [.int h0f0, .int h0f1, .int h0f2, .int h0f3, .int h0f4, .int h0f5, .ref h1, .ref h2, .int h0f8, .int h0f9, .ref h3, .ref h4, .ref h5, .ref h6, .ref h7, .ref h8, .ref h9, .int h0f17, .int h0f18, .int h0f19, .ref h10, .ref h11, .ref h12, .ref h13, .int h0f24, .int h0f25, .ref h14, .ref h15, .ref h16, .ref h17, .int h0f30, .int h0f31, .ref h18, .ref h19, .ref h20, .ref h21]), (h7, aJ (k 1) 4 anJ)] _ := hT
                                          refine lv_if_eq (tgt := 90) hx hb dX11_factor_81 (by decide) (fun _ => ?_) (fun cc => absurd (by decide +kernel) cc)
                                          refine lv_iload_n hx hb dX11_factor_90 rfl (lv_at hl 0 rfl) ?_
                                          exact tz_retI (B := B_cX11_factor_71296 D k h0 h1 h4 h5 h7 h2 h3 h6 h8 h9 h10 h11 h12 h13 h14 h15 h16 h17 h18 h19 h20 h21 x1 x2 h0f0 h0f1 h0f2 h0f3 h0f4 h0f5 h0f8 h0f9 h0f17 h0f18 h0f19 h0f24 h0f25 h0f30 h0f31) (v := 3) hQ hx hb hr hlocks hS (Nat.le_of_ble_eq_true rfl) (Nat.le_of_ble_eq_true rfl) dX11_factor_91 (⟨(by have := li_3; omega), (hT.sub [3, 0, 1, 2, 4] (by decide) rfl)⟩)
                                        · skip
                                          have c_806 := ni_eq c_806 rfl li_6
                                          exfalso; omega
                                      · skip
                                        have c_805 := ni_eq c_805 rfl li_3
                                        exfalso; omega
                                    · skip
                                      have c_804 := ni_eq c_804 rfl li_1
                                      exfalso; omega
                                · skip
                                  have c_789 := ni_eq c_789 rfl li_6
                                  exfalso; omega
                              · skip
                                have c_788 := ni_eq c_788 rfl li_3
                                exfalso; omega
                            · skip
                              have c_787 := ni_eq c_787 rfl li_1
                              exfalso; omega
                          · skip
                            have hT := J _ hT1
                            have hT : TP D A [(h1, aI (k 0) 36 anI), (h0, ob 8 [.int h0f0, .int h0f1, .int h0f2, .int h0f3, .int h0f4, .int h0f5, .ref h1, .ref h2, .int h0f8, .int h0f9, .ref h3, .ref h4, .ref h5, .ref h6, .ref h7, .ref h8, .ref h9, .int h0f17, .int h0f18, .int h0f19, .ref h10, .ref h11, .ref h12, .ref h13, .int h0f24, .int h0f25, .ref h14, .ref h15, .ref h16, .ref h17, .int h0f30, .int h0f31, .ref h18, .ref h19, .ref h20, .ref h21]), (h4, aJ (k 1) 9 anJ), (h5, aJ (k 1) 9 anJ), (h7, aJ (k 1) 4 (zJ [2, 3]))] _ := hT
                            exfalso; omega
                        · skip
                          have c_724 := ni_eq c_724 rfl li_6
                          exfalso; omega
                      · skip
                        have c_723 := ni_eq c_723 rfl li_3
                        exfalso; omega
                    · skip
                      have c_722 := ni_eq c_722 rfl li_1
                      exfalso; omega
                  · skip
                    have hT := J _ hT1
                    have hT : TP D A [(h1, aI (k 0) 36 anI), (h0, ob 8 [.int h0f0, .int h0f1, .int h0f2, .int h0f3, .int h0f4, .int h0f5, .ref h1, .ref h2, .int h0f8, .int h0f9, .ref h3, .ref h4, .ref h5, .ref h6, .ref h7, .ref h8, .ref h9, .int h0f17, .int h0f18, .int h0f19, .ref h10, .ref h11, .ref h12, .ref h13, .int h0f24, .int h0f25, .ref h14, .ref h15, .ref h16, .ref h17, .int h0f30, .int h0f31, .ref h18, .ref h19, .ref h20, .ref h21]), (h4, aJ (k 1) 9 anJ), (h5, aJ (k 1) 9 anJ), (h7, aJ (k 1) 4 (zJ [3]))] _ := hT
                    refine lv_if_eq (tgt := 90) hx hb dX11_factor_81 (by decide) (fun cc => absurd cc (by decide +kernel)) (fun _ => ?_)
                    refine lv_iinc (v := 1) (lv' := [(3, .int 1), (4, .int 1), (0, .ref h0), (1, .int x1), (2, .int x2)]) hx hb dX11_factor_84 hl (k := 1) rfl (by decide) (by decide) rfl (fun ls hl => ?_)
                    refine lv_goto (tgt := 45) hx hb dX11_factor_87 (by decide) ?_
                    refine lv_aload_n hx hb dX11_factor_45 rfl (lv_at hl 2 rfl) ?_
                    refine lv_iload hx hb dX11_factor_46 (lv_at hl 1 rfl) ?_
                    refine lv_iload_n hx hb dX11_factor_48 rfl (lv_at hl 4 rfl) ?_
                    refine lv_iconst (v := 1) hx hb dX11_factor_49 (by decide) ?_
                    refine lv_icmp_ne (tgt := 57) hx hb dX11_factor_50 (by decide) (fun c_811 => ?_) (fun c_811 => ?_)
                    · skip
                      have c_811 := ni_ne c_811 rfl li_1
                      refine lv_iconst (v := 1) hx hb dX11_factor_57 (by decide) ?_
                      refine lv_iload_n hx hb dX11_factor_58 rfl (lv_at hl 4 rfl) ?_
                      refine lv_iconst (v := 3) hx hb dX11_factor_59 (by decide) ?_
                      refine lv_icmp_ne (tgt := 67) hx hb dX11_factor_60 (by decide) (fun c_812 => ?_) (fun c_812 => ?_)
                      · skip
                        have c_812 := ni_ne c_812 rfl li_3
                        refine lv_iload_n hx hb dX11_factor_67 rfl (lv_at hl 4 rfl) ?_
                        refine lv_bipush (v := 6) hx hb dX11_factor_68 (by decide) ?_
                        refine lv_icmp_ne (tgt := 77) hx hb dX11_factor_70 (by decide) (fun c_813 => ?_) (fun c_813 => ?_)
                        · skip
                          have c_813 := ni_ne c_813 rfl li_6
                          refine lv_iconst (v := 0) hx hb dX11_factor_77 (by decide) ?_
                          have q_q815 := li_1
                          have q_q816 := li_1
                          have q_q817 := li_0
                          refine tcI (Tc := [(h0, ob 8 [.int h0f0, .int h0f1, .int h0f2, .int h0f3, .int h0f4, .int h0f5, .ref h1, .ref h2, .int h0f8, .int h0f9, .ref h3, .ref h4, .ref h5, .ref h6, .ref h7, .ref h8, .ref h9, .int h0f17, .int h0f18, .int h0f19, .ref h10, .ref h11, .ref h12, .ref h13, .int h0f24, .int h0f25, .ref h14, .ref h15, .ref h16, .ref h17, .int h0f30, .int h0f31, .ref h18, .ref h19, .ref h20, .ref h21]), (h4, aJ (k 1) 9 anJ), (h5, aJ (k 1) 9 anJ), (h7, aJ (k 1) 4 (zJ [3]))]) (Tr := [(h1, aI (k 0) 36 anI)]) (as := [h0, h4, h5, h7]) (zcV (q0 := 1) (ci := 8) (As := [.int 1, .int 1, .int 0]) (rest := []) (Tc := [(h0, ob 8 [.int h0f0, .int h0f1, .int h0f2, .int h0f3, .int h0f4, .int h0f5, .ref h1, .ref h2, .int h0f8, .int h0f9, .ref h3, .ref h4, .ref h5, .ref h6, .ref h7, .ref h8, .ref h9, .int h0f17, .int h0f18, .int h0f19, .ref h10, .ref h11, .ref h12, .ref h13, .int h0f24, .int h0f25, .ref h14, .ref h15, .ref h16, .ref h17, .int h0f30, .int h0f31, .ref h18, .ref h19, .ref h20, .ref h21]), (h4, aJ (k 1) 9 anJ), (h5, aJ (k 1) 9 anJ), (h7, aJ (k 1) 4 (zJ [3]))]) hx hb hml hown hU hK hT rfl rfl [1, 2, 3, 4] rfl (by decide) (cX11_takesOut_a13ae l D k _ h0 h4 h5 h7 h1 h2 h3 h6 h8 h9 h10 h11 h12 h13 h14 h15 h16 h17 h18 h19 h20 h21 (1) (1) (0) h0f0 h0f1 h0f2 h0f3 h0f4 h0f5 h0f8 h0f9 h0f17 h0f18 h0f19 h0f24 h0f25 h0f30 h0f31 (by have := li_1; omega) (by have := li_1; omega) (by have := li_0; omega) (by omega) (by omega) (by omega) (by omega) (by omega) (by omega) (by omega) (by omega) (by omega) (by omega) (by omega) (by omega) (by omega) (by have := li_1; have := li_1; have := li_0; omega) (by have := li_1; have := li_1; have := li_0; omega)) w999 w996 w998 w41 w72 hdX11_takesOut ⟨rfl, rfl⟩ ⟨Nat.le_of_ble_eq_true rfl, Nat.le_of_ble_eq_true rfl⟩ rfl hl.1 (Nat.le_of_ble_eq_true rfl) dX11_factor_78 ⟨Nat.le_of_ble_eq_true rfl, Nat.le_of_ble_eq_true rfl⟩) hT hS hA [1, 2, 3, 4] [0] rfl rfl rfl (by decide) (by decide) (fun r814 H locs hB J hS => ?_)
                          rcases hB with ⟨rfl, hT1⟩ | ⟨v818, v819, b_v819, c_820, c_821, c_822, c_823, c_824, c_825, c_826, c_827, c_828, rfl, hT1⟩ | ⟨v829, v830, v831, b_v829, b_v831, c_832, c_833, c_834, c_835, c_836, c_837, c_838, c_839, c_840, rfl, hT1⟩ | ⟨v841, v842, v843, b_v842, b_v843, c_844, c_845, c_846, c_847, c_848, c_849, c_850, c_851, rfl, hT1⟩
                          · skip
                            have hT := J _ hT1
                            have hT : TP D A [(h1, aI (k 0) 36 anI), (h0, ob 8 [.int h0f0, .int h0f1, .int h0f2, .int h0f3, .int h0f4, .int h0f5, .ref h1, .ref h2, .int h0f8, .int h0f9, .ref h3, .ref h4, .ref h5, .ref h6, .ref h7, .ref h8, .ref h9, .int h0f17, .int h0f18, .int h0f19, .ref h10, .ref h11, .ref h12, .ref h13, .int h0f24, .int h0f25, .ref h14, .ref h15, .ref h16, .ref h17, .int h0f30, .int h0f31, .ref h18, .ref h19, .ref h20, .ref h21]), (h4, aJ (k 1) 9 anJ), (h5, aJ (k 1) 9 anJ), (h7, aJ (k 1) 4 anJ)] _ := hT
                            refine lv_if_eq (tgt := 90) hx hb dX11_factor_81 (by decide) (fun _ => ?_) (fun cc => absurd (by decide +kernel) cc)
                            refine lv_iload_n hx hb dX11_factor_90 rfl (lv_at hl 0 rfl) ?_
                            exact tz_retI (B := B_cX11_factor_71296 D k h0 h1 h4 h5 h7 h2 h3 h6 h8 h9 h10 h11 h12 h13 h14 h15 h16 h17 h18 h19 h20 h21 x1 x2 h0f0 h0f1 h0f2 h0f3 h0f4 h0f5 h0f8 h0f9 h0f17 h0f18 h0f19 h0f24 h0f25 h0f30 h0f31) (v := 1) hQ hx hb hr hlocks hS (Nat.le_of_ble_eq_true rfl) (Nat.le_of_ble_eq_true rfl) dX11_factor_91 (⟨(by have := li_1; omega), (hT.sub [1, 0, 2, 3, 4] (by decide) rfl)⟩)
                          · skip
                            have hT := J _ hT1
                            have hT : TP D A [(h1, aI (k 0) 36 anI), (h0, ob 8 [.int h0f0, .int h0f1, .int h0f2, .int h0f3, .int h0f4, .int h0f5, .ref h1, .ref h2, .int h0f8, .int h0f9, .ref h3, .ref h4, .ref h5, .ref h6, .ref h7, .ref h8, .ref h9, .int h0f17, .int h0f18, .int h0f19, .ref h10, .ref h11, .ref h12, .ref h13, .int h0f24, .int h0f25, .ref h14, .ref h15, .ref h16, .ref h17, .int h0f30, .int h0f31, .ref h18, .ref h19, .ref h20, .ref h21]), (h4, aJ (k 1) 9 anJ), (h5, aJ (k 1) 9 anJ), (h7, aJ (k 1) 4 (zJ [2, 3]))] _ := hT
                            refine lv_if_eq (tgt := 90) hx hb dX11_factor_81 (by decide) (fun cc => absurd cc (by decide +kernel)) (fun _ => ?_)
                            refine lv_iinc (v := 2) (lv' := [(3, .int 2), (4, .int 1), (0, .ref h0), (1, .int x1), (2, .int x2)]) hx hb dX11_factor_84 hl (k := 0) rfl (by decide) (by decide) rfl (fun ls hl => ?_)
                            refine lv_goto (tgt := 45) hx hb dX11_factor_87 (by decide) ?_
                            refine lv_aload_n hx hb dX11_factor_45 rfl (lv_at hl 2 rfl) ?_
                            refine lv_iload hx hb dX11_factor_46 (lv_at hl 1 rfl) ?_
                            refine lv_iload_n hx hb dX11_factor_48 rfl (lv_at hl 4 rfl) ?_
                            refine lv_iconst (v := 1) hx hb dX11_factor_49 (by decide) ?_
                            refine lv_icmp_ne (tgt := 57) hx hb dX11_factor_50 (by decide) (fun c_852 => ?_) (fun c_852 => ?_)
                            · skip
                              have c_852 := ni_ne c_852 rfl li_1
                              refine lv_iconst (v := 1) hx hb dX11_factor_57 (by decide) ?_
                              refine lv_iload_n hx hb dX11_factor_58 rfl (lv_at hl 4 rfl) ?_
                              refine lv_iconst (v := 3) hx hb dX11_factor_59 (by decide) ?_
                              refine lv_icmp_ne (tgt := 67) hx hb dX11_factor_60 (by decide) (fun c_853 => ?_) (fun c_853 => ?_)
                              · skip
                                have c_853 := ni_ne c_853 rfl li_3
                                refine lv_iload_n hx hb dX11_factor_67 rfl (lv_at hl 4 rfl) ?_
                                refine lv_bipush (v := 6) hx hb dX11_factor_68 (by decide) ?_
                                refine lv_icmp_ne (tgt := 77) hx hb dX11_factor_70 (by decide) (fun c_854 => ?_) (fun c_854 => ?_)
                                · skip
                                  have c_854 := ni_ne c_854 rfl li_6
                                  refine lv_iconst (v := 0) hx hb dX11_factor_77 (by decide) ?_
                                  have q_q856 := li_1
                                  have q_q857 := li_1
                                  have q_q858 := li_0
                                  refine tcI (Tc := [(h0, ob 8 [.int h0f0, .int h0f1, .int h0f2, .int h0f3, .int h0f4, .int h0f5, .ref h1, .ref h2, .int h0f8, .int h0f9, .ref h3, .ref h4, .ref h5, .ref h6, .ref h7, .ref h8, .ref h9, .int h0f17, .int h0f18, .int h0f19, .ref h10, .ref h11, .ref h12, .ref h13, .int h0f24, .int h0f25, .ref h14, .ref h15, .ref h16, .ref h17, .int h0f30, .int h0f31, .ref h18, .ref h19, .ref h20, .ref h21]), (h4, aJ (k 1) 9 anJ), (h5, aJ (k 1) 9 anJ), (h7, aJ (k 1) 4 (zJ [2, 3]))]) (Tr := [(h1, aI (k 0) 36 anI)]) (as := [h0, h4, h5, h7]) (zcV (q0 := 1) (ci := 8) (As := [.int 1, .int 1, .int 0]) (rest := []) (Tc := [(h0, ob 8 [.int h0f0, .int h0f1, .int h0f2, .int h0f3, .int h0f4, .int h0f5, .ref h1, .ref h2, .int h0f8, .int h0f9, .ref h3, .ref h4, .ref h5, .ref h6, .ref h7, .ref h8, .ref h9, .int h0f17, .int h0f18, .int h0f19, .ref h10, .ref h11, .ref h12, .ref h13, .int h0f24, .int h0f25, .ref h14, .ref h15, .ref h16, .ref h17, .int h0f30, .int h0f31, .ref h18, .ref h19, .ref h20, .ref h21]), (h4, aJ (k 1) 9 anJ), (h5, aJ (k 1) 9 anJ), (h7, aJ (k 1) 4 (zJ [2, 3]))]) hx hb hml hown hU hK hT rfl rfl [1, 2, 3, 4] rfl (by decide) (cX11_takesOut_2378e l D k _ h0 h4 h5 h7 h1 h2 h3 h6 h8 h9 h10 h11 h12 h13 h14 h15 h16 h17 h18 h19 h20 h21 (1) (1) (0) h0f0 h0f1 h0f2 h0f3 h0f4 h0f5 h0f8 h0f9 h0f17 h0f18 h0f19 h0f24 h0f25 h0f30 h0f31 (by have := li_1; omega) (by have := li_1; omega) (by have := li_0; omega) (by omega) (by omega) (by omega) (by omega) (by omega) (by omega) (by omega) (by omega) (by omega) (by omega) (by omega) (by omega) (by omega) (by have := li_1; have := li_1; have := li_0; omega) (by have := li_1; have := li_1; have := li_0; omega)) w999 w996 w998 w41 w72 hdX11_takesOut ⟨rfl, rfl⟩ ⟨Nat.le_of_ble_eq_true rfl, Nat.le_of_ble_eq_true rfl⟩ rfl hl.1 (Nat.le_of_ble_eq_true rfl) dX11_factor_78 ⟨Nat.le_of_ble_eq_true rfl, Nat.le_of_ble_eq_true rfl⟩) hT hS hA [1, 2, 3, 4] [0] rfl rfl rfl (by decide) (by decide) (fun r855 H locs hB J hS => ?_)
                                  rcases hB with ⟨rfl, hT1⟩ | ⟨v859, v860, b_v860, c_861, c_862, c_863, c_864, c_865, c_866, c_867, c_868, rfl, hT1⟩
                                  · skip
                                    have hT := J _ hT1
                                    have hT : TP D A [(h1, aI (k 0) 36 anI), (h0, ob 8 [.int h0f0, .int h0f1, .int h0f2, .int h0f3, .int h0f4, .int h0f5, .ref h1, .ref h2, .int h0f8, .int h0f9, .ref h3, .ref h4, .ref h5, .ref h6, .ref h7, .ref h8, .ref h9, .int h0f17, .int h0f18, .int h0f19, .ref h10, .ref h11, .ref h12, .ref h13, .int h0f24, .int h0f25, .ref h14, .ref h15, .ref h16, .ref h17, .int h0f30, .int h0f31, .ref h18, .ref h19, .ref h20, .ref h21]), (h4, aJ (k 1) 9 anJ), (h5, aJ (k 1) 9 anJ), (h7, aJ (k 1) 4 anJ)] _ := hT
                                    refine lv_if_eq (tgt := 90) hx hb dX11_factor_81 (by decide) (fun _ => ?_) (fun cc => absurd (by decide +kernel) cc)
                                    refine lv_iload_n hx hb dX11_factor_90 rfl (lv_at hl 0 rfl) ?_
                                    exact tz_retI (B := B_cX11_factor_71296 D k h0 h1 h4 h5 h7 h2 h3 h6 h8 h9 h10 h11 h12 h13 h14 h15 h16 h17 h18 h19 h20 h21 x1 x2 h0f0 h0f1 h0f2 h0f3 h0f4 h0f5 h0f8 h0f9 h0f17 h0f18 h0f19 h0f24 h0f25 h0f30 h0f31) (v := 2) hQ hx hb hr hlocks hS (Nat.le_of_ble_eq_true rfl) (Nat.le_of_ble_eq_true rfl) dX11_factor_91 (⟨(by have := li_2; omega), (hT.sub [1, 0, 2, 3, 4] (by decide) rfl)⟩)
                                  · skip
                                    have hT := J _ hT1
                                    have hT : TP D A [(h1, aI (k 0) 36 anI), (h0, ob 8 [.int h0f0, .int h0f1, .int h0f2, .int h0f3, .int h0f4, .int h0f5, .ref h1, .ref h2, .int h0f8, .int h0f9, .ref h3, .ref h4, .ref h5, .ref h6, .ref h7, .ref h8, .ref h9, .int h0f17, .int h0f18, .int h0f19, .ref h10, .ref h11, .ref h12, .ref h13, .int h0f24, .int h0f25, .ref h14, .ref h15, .ref h16, .ref h17, .int h0f30, .int h0f31, .ref h18, .ref h19, .ref h20, .ref h21]), (h4, aJ (k 1) 9 anJ), (h5, aJ (k 1) 9 anJ), (h7, aJ (k 1) 4 (zJ [1, 2, 3]))] _ := hT
                                    refine lv_if_eq (tgt := 90) hx hb dX11_factor_81 (by decide) (fun cc => absurd cc (by decide +kernel)) (fun _ => ?_)
                                    refine lv_iinc (v := 3) (lv' := [(3, .int 3), (4, .int 1), (0, .ref h0), (1, .int x1), (2, .int x2)]) hx hb dX11_factor_84 hl (k := 0) rfl (by decide) (by decide) rfl (fun ls hl => ?_)
                                    refine lv_goto (tgt := 45) hx hb dX11_factor_87 (by decide) ?_
                                    refine lv_aload_n hx hb dX11_factor_45 rfl (lv_at hl 2 rfl) ?_
                                    refine lv_iload hx hb dX11_factor_46 (lv_at hl 1 rfl) ?_
                                    refine lv_iload_n hx hb dX11_factor_48 rfl (lv_at hl 4 rfl) ?_
                                    refine lv_iconst (v := 1) hx hb dX11_factor_49 (by decide) ?_
                                    refine lv_icmp_ne (tgt := 57) hx hb dX11_factor_50 (by decide) (fun c_869 => ?_) (fun c_869 => ?_)
                                    · skip
                                      have c_869 := ni_ne c_869 rfl li_1
                                      refine lv_iconst (v := 1) hx hb dX11_factor_57 (by decide) ?_
                                      refine lv_iload_n hx hb dX11_factor_58 rfl (lv_at hl 4 rfl) ?_
                                      refine lv_iconst (v := 3) hx hb dX11_factor_59 (by decide) ?_
                                      refine lv_icmp_ne (tgt := 67) hx hb dX11_factor_60 (by decide) (fun c_870 => ?_) (fun c_870 => ?_)
                                      · skip
                                        have c_870 := ni_ne c_870 rfl li_3
                                        refine lv_iload_n hx hb dX11_factor_67 rfl (lv_at hl 4 rfl) ?_
                                        refine lv_bipush (v := 6) hx hb dX11_factor_68 (by decide) ?_
                                        refine lv_icmp_ne (tgt := 77) hx hb dX11_factor_70 (by decide) (fun c_871 => ?_) (fun c_871 => ?_)
                                        · skip
                                          have c_871 := ni_ne c_871 rfl li_6
                                          refine lv_iconst (v := 0) hx hb dX11_factor_77 (by decide) ?_
                                          have q_q873 := li_1
                                          have q_q874 := li_1
                                          have q_q875 := li_0
                                          refine tcI (Tc := [(h0, ob 8 [.int h0f0, .int h0f1, .int h0f2, .int h0f3, .int h0f4, .int h0f5, .ref h1, .ref h2, .int h0f8, .int h0f9, .ref h3, .ref h4, .ref h5, .ref h6, .ref h7, .ref h8, .ref h9, .int h0f17, .int h0f18, .int h0f19, .ref h10, .ref h11, .ref h12, .ref h13, .int h0f24, .int h0f25, .ref h14, .ref h15, .ref h16, .ref h17, .int h0f30, .int h0f31, .ref h18, .ref h19, .ref h20, .ref h21]), (h7, aJ (k 1) 4 (zJ [1, 2, 3]))]) (Tr := [(h1, aI (k 0) 36 anI), (h4, aJ (k 1) 9 anJ), (h5, aJ (k 1) 9 anJ)]) (as := [h0, h7]) (zcV (q0 := 1) (ci := 8) (As := [.int 1, .int 1, .int 0]) (rest := []) (Tc := [(h0, ob 8 [.int h0f0, .int h0f1, .int h0f2, .int h0f3, .int h0f4, .int h0f5, .ref h1, .ref h2, .int h0f8, .int h0f9, .ref h3, .ref h4, .ref h5, .ref h6, .ref h7, .ref h8, .ref h9, .int h0f17, .int h0f18, .int h0f19, .ref h10, .ref h11, .ref h12, .ref h13, .int h0f24, .int h0f25, .ref h14, .ref h15, .ref h16, .ref h17, .int h0f30, .int h0f31, .ref h18, .ref h19, .ref h20, .ref h21]), (h7, aJ (k 1) 4 (zJ [1, 2, 3]))]) hx hb hml hown hU hK hT rfl rfl [1, 4] rfl (by decide) (cX11_takesOut_3cbb8 l D k _ h0 h7 h1 h2 h3 h4 h5 h6 h8 h9 h10 h11 h12 h13 h14 h15 h16 h17 h18 h19 h20 h21 (1) (1) (0) h0f0 h0f1 h0f2 h0f3 h0f4 h0f5 h0f8 h0f9 h0f17 h0f18 h0f19 h0f24 h0f25 h0f30 h0f31 (by have := li_1; omega) (by have := li_1; omega) (by have := li_0; omega) (by omega) (by omega) (by omega) (by omega) (by omega) (by omega) (by omega) (by omega) (by omega) (by omega) (by omega) (by omega) (by omega) (by have := li_1; have := li_1; have := li_0; omega) (by have := li_1; have := li_1; have := li_0; omega)) w999 w996 w998 w41 w72 hdX11_takesOut ⟨rfl, rfl⟩ ⟨Nat.le_of_ble_eq_true rfl, Nat.le_of_ble_eq_true rfl⟩ rfl hl.1 (Nat.le_of_ble_eq_true rfl) dX11_factor_78 ⟨Nat.le_of_ble_eq_true rfl, Nat.le_of_ble_eq_true rfl⟩) hT hS hA [1, 4] [0, 2, 3] rfl rfl rfl (by decide) (by decide) (fun r872 H locs hB J hS => ?_)
                                          obtain ⟨rfl, hT1⟩ := hB
                                          have hT := J _ hT1
                                          have hT : TP D A [(h1, aI (k 0) 36 anI), (h4, aJ (k 1) 9 anJ), (h5, aJ (k 1) 9 anJ), (h0, ob 8 [.int h0f0, .int h0f1, .int h0f2, .int h0f3, .int h0f4, .int h0f5, .ref h1, .ref h2, .int h0f8, .int h0f9, .ref h3, .ref h4, .ref h5, .ref h6, .ref h7, .ref h8, .ref h9, .int h0f17, .int h0f18, .int h0f19, .ref h10, .ref h11, .ref h12, .ref h13, .int h0f24, .int h0f25, .ref h14, .ref h15, .ref h16, .ref h17, .int h0f30, .int h0f31, .ref h18, .ref h19, .ref h20, .ref h21]), (h7, aJ (k 1) 4 anJ)] _ := hT
                                          refine lv_if_eq (tgt := 90) hx hb dX11_factor_81 (by decide) (fun _ => ?_) (fun cc => absurd (by decide +kernel) cc)
                                          refine lv_iload_n hx hb dX11_factor_90 rfl (lv_at hl 0 rfl) ?_
                                          exact tz_retI (B := B_cX11_factor_71296 D k h0 h1 h4 h5 h7 h2 h3 h6 h8 h9 h10 h11 h12 h13 h14 h15 h16 h17 h18 h19 h20 h21 x1 x2 h0f0 h0f1 h0f2 h0f3 h0f4 h0f5 h0f8 h0f9 h0f17 h0f18 h0f19 h0f24 h0f25 h0f30 h0f31) (v := 3) hQ hx hb hr hlocks hS (Nat.le_of_ble_eq_true rfl) (Nat.le_of_ble_eq_true rfl) dX11_factor_91 (⟨(by have := li_3; omega), (hT.sub [3, 0, 1, 2, 4] (by decide) rfl)⟩)
                                        · skip
                                          have c_871 := ni_eq c_871 rfl li_6
                                          exfalso; omega
                                      · skip
                                        have c_870 := ni_eq c_870 rfl li_3
                                        exfalso; omega
                                    · skip
                                      have c_869 := ni_eq c_869 rfl li_1
                                      exfalso; omega
                                · skip
                                  have c_854 := ni_eq c_854 rfl li_6
                                  exfalso; omega
                              · skip
                                have c_853 := ni_eq c_853 rfl li_3
                                exfalso; omega
                            · skip
                              have c_852 := ni_eq c_852 rfl li_1
                              exfalso; omega
                          · skip
                            have hT := J _ hT1
                            have hT : TP D A [(h1, aI (k 0) 36 anI), (h0, ob 8 [.int h0f0, .int h0f1, .int h0f2, .int h0f3, .int h0f4, .int h0f5, .ref h1, .ref h2, .int h0f8, .int h0f9, .ref h3, .ref h4, .ref h5, .ref h6, .ref h7, .ref h8, .ref h9, .int h0f17, .int h0f18, .int h0f19, .ref h10, .ref h11, .ref h12, .ref h13, .int h0f24, .int h0f25, .ref h14, .ref h15, .ref h16, .ref h17, .int h0f30, .int h0f31, .ref h18, .ref h19, .ref h20, .ref h21]), (h4, aJ (k 1) 9 anJ), (h5, aJ (k 1) 9 anJ), (h7, aJ (k 1) 4 (zJ [2, 3]))] _ := hT
                            refine lv_if_eq (tgt := 90) hx hb dX11_factor_81 (by decide) (fun cc => absurd cc (by decide +kernel)) (fun _ => ?_)
                            refine lv_iinc (v := 2) (lv' := [(3, .int 2), (4, .int 1), (0, .ref h0), (1, .int x1), (2, .int x2)]) hx hb dX11_factor_84 hl (k := 0) rfl (by decide) (by decide) rfl (fun ls hl => ?_)
                            refine lv_goto (tgt := 45) hx hb dX11_factor_87 (by decide) ?_
                            refine lv_aload_n hx hb dX11_factor_45 rfl (lv_at hl 2 rfl) ?_
                            refine lv_iload hx hb dX11_factor_46 (lv_at hl 1 rfl) ?_
                            refine lv_iload_n hx hb dX11_factor_48 rfl (lv_at hl 4 rfl) ?_
                            refine lv_iconst (v := 1) hx hb dX11_factor_49 (by decide) ?_
                            refine lv_icmp_ne (tgt := 57) hx hb dX11_factor_50 (by decide) (fun c_876 => ?_) (fun c_876 => ?_)
                            · skip
                              have c_876 := ni_ne c_876 rfl li_1
                              refine lv_iconst (v := 1) hx hb dX11_factor_57 (by decide) ?_
                              refine lv_iload_n hx hb dX11_factor_58 rfl (lv_at hl 4 rfl) ?_
                              refine lv_iconst (v := 3) hx hb dX11_factor_59 (by decide) ?_
                              refine lv_icmp_ne (tgt := 67) hx hb dX11_factor_60 (by decide) (fun c_877 => ?_) (fun c_877 => ?_)
                              · skip
                                have c_877 := ni_ne c_877 rfl li_3
                                refine lv_iload_n hx hb dX11_factor_67 rfl (lv_at hl 4 rfl) ?_
                                refine lv_bipush (v := 6) hx hb dX11_factor_68 (by decide) ?_
                                refine lv_icmp_ne (tgt := 77) hx hb dX11_factor_70 (by decide) (fun c_878 => ?_) (fun c_878 => ?_)
                                · skip
                                  have c_878 := ni_ne c_878 rfl li_6
                                  refine lv_iconst (v := 0) hx hb dX11_factor_77 (by decide) ?_
                                  have q_q880 := li_1
                                  have q_q881 := li_1
                                  have q_q882 := li_0
                                  refine tcI (Tc := [(h0, ob 8 [.int h0f0, .int h0f1, .int h0f2, .int h0f3, .int h0f4, .int h0f5, .ref h1, .ref h2, .int h0f8, .int h0f9, .ref h3, .ref h4, .ref h5, .ref h6, .ref h7, .ref h8, .ref h9, .int h0f17, .int h0f18, .int h0f19, .ref h10, .ref h11, .ref h12, .ref h13, .int h0f24, .int h0f25, .ref h14, .ref h15, .ref h16, .ref h17, .int h0f30, .int h0f31, .ref h18, .ref h19, .ref h20, .ref h21]), (h4, aJ (k 1) 9 anJ), (h5, aJ (k 1) 9 anJ), (h7, aJ (k 1) 4 (zJ [2, 3]))]) (Tr := [(h1, aI (k 0) 36 anI)]) (as := [h0, h4, h5, h7]) (zcV (q0 := 1) (ci := 8) (As := [.int 1, .int 1, .int 0]) (rest := []) (Tc := [(h0, ob 8 [.int h0f0, .int h0f1, .int h0f2, .int h0f3, .int h0f4, .int h0f5, .ref h1, .ref h2, .int h0f8, .int h0f9, .ref h3, .ref h4, .ref h5, .ref h6, .ref h7, .ref h8, .ref h9, .int h0f17, .int h0f18, .int h0f19, .ref h10, .ref h11, .ref h12, .ref h13, .int h0f24, .int h0f25, .ref h14, .ref h15, .ref h16, .ref h17, .int h0f30, .int h0f31, .ref h18, .ref h19, .ref h20, .ref h21]), (h4, aJ (k 1) 9 anJ), (h5, aJ (k 1) 9 anJ), (h7, aJ (k 1) 4 (zJ [2, 3]))]) hx hb hml hown hU hK hT rfl rfl [1, 2, 3, 4] rfl (by decide) (cX11_takesOut_2378e l D k _ h0 h4 h5 h7 h1 h2 h3 h6 h8 h9 h10 h11 h12 h13 h14 h15 h16 h17 h18 h19 h20 h21 (1) (1) (0) h0f0 h0f1 h0f2 h0f3 h0f4 h0f5 h0f8 h0f9 h0f17 h0f18 h0f19 h0f24 h0f25 h0f30 h0f31 (by have := li_1; omega) (by have := li_1; omega) (by have := li_0; omega) (by omega) (by omega) (by omega) (by omega) (by omega) (by omega) (by omega) (by omega) (by omega) (by omega) (by omega) (by omega) (by omega) (by have := li_1; have := li_1; have := li_0; omega) (by have := li_1; have := li_1; have := li_0; omega)) w999 w996 w998 w41 w72 hdX11_takesOut ⟨rfl, rfl⟩ ⟨Nat.le_of_ble_eq_true rfl, Nat.le_of_ble_eq_true rfl⟩ rfl hl.1 (Nat.le_of_ble_eq_true rfl) dX11_factor_78 ⟨Nat.le_of_ble_eq_true rfl, Nat.le_of_ble_eq_true rfl⟩) hT hS hA [1, 2, 3, 4] [0] rfl rfl rfl (by decide) (by decide) (fun r879 H locs hB J hS => ?_)
                                  rcases hB with ⟨rfl, hT1⟩ | ⟨v883, v884, b_v884, c_885, c_886, c_887, c_888, c_889, c_890, c_891, c_892, rfl, hT1⟩
                                  · skip
                                    have hT := J _ hT1
                                    have hT : TP D A [(h1, aI (k 0) 36 anI), (h0, ob 8 [.int h0f0, .int h0f1, .int h0f2, .int h0f3, .int h0f4, .int h0f5, .ref h1, .ref h2, .int h0f8, .int h0f9, .ref h3, .ref h4, .ref h5, .ref h6, .ref h7, .ref h8, .ref h9, .int h0f17, .int h0f18, .int h0f19, .ref h10, .ref h11, .ref h12, .ref h13, .int h0f24, .int h0f25, .ref h14, .ref h15, .ref h16, .ref h17, .int h0f30, .int h0f31, .ref h18, .ref h19, .ref h20, .ref h21]), (h4, aJ (k 1) 9 anJ), (h5, aJ (k 1) 9 anJ), (h7, aJ (k 1) 4 anJ)] _ := hT
                                    refine lv_if_eq (tgt := 90) hx hb dX11_factor_81 (by decide) (fun _ => ?_) (fun cc => absurd (by decide +kernel) cc)
                                    refine lv_iload_n hx hb dX11_factor_90 rfl (lv_at hl 0 rfl) ?_
                                    exact tz_retI (B := B_cX11_factor_71296 D k h0 h1 h4 h5 h7 h2 h3 h6 h8 h9 h10 h11 h12 h13 h14 h15 h16 h17 h18 h19 h20 h21 x1 x2 h0f0 h0f1 h0f2 h0f3 h0f4 h0f5 h0f8 h0f9 h0f17 h0f18 h0f19 h0f24 h0f25 h0f30 h0f31) (v := 2) hQ hx hb hr hlocks hS (Nat.le_of_ble_eq_true rfl) (Nat.le_of_ble_eq_true rfl) dX11_factor_91 (⟨(by have := li_2; omega), (hT.sub [1, 0, 2, 3, 4] (by decide) rfl)⟩)
                                  · skip
                                    have hT := J _ hT1
                                    have hT : TP D A [(h1, aI (k 0) 36 anI), (h0, ob 8 [.int h0f0, .int h0f1, .int h0f2, .int h0f3, .int h0f4, .int h0f5, .ref h1, .ref h2, .int h0f8, .int h0f9, .ref h3, .ref h4, .ref h5, .ref h6, .ref h7, .ref h8, .ref h9, .int h0f17, .int h0f18, .int h0f19, .ref h10, .ref h11, .ref h12, .ref h13, .int h0f24, .int h0f25, .ref h14, .ref h15, .ref h16, .ref h17, .int h0f30, .int h0f31, .ref h18, .ref h19, .ref h20, .ref h21]), (h4, aJ (k 1) 9 anJ), (h5, aJ (k 1) 9 anJ), (h7, aJ (k 1) 4 (zJ [1, 2, 3]))] _ := hT
                                    refine lv_if_eq (tgt := 90) hx hb dX11_factor_81 (by decide) (fun cc => absurd cc (by decide +kernel)) (fun _ => ?_)
                                    refine lv_iinc (v := 3) (lv' := [(3, .int 3), (4, .int 1), (0, .ref h0), (1, .int x1), (2, .int x2)]) hx hb dX11_factor_84 hl (k := 0) rfl (by decide) (by decide) rfl (fun ls hl => ?_)
                                    refine lv_goto (tgt := 45) hx hb dX11_factor_87 (by decide) ?_
                                    refine lv_aload_n hx hb dX11_factor_45 rfl (lv_at hl 2 rfl) ?_
                                    refine lv_iload hx hb dX11_factor_46 (lv_at hl 1 rfl) ?_
                                    refine lv_iload_n hx hb dX11_factor_48 rfl (lv_at hl 4 rfl) ?_
                                    refine lv_iconst (v := 1) hx hb dX11_factor_49 (by decide) ?_
                                    refine lv_icmp_ne (tgt := 57) hx hb dX11_factor_50 (by decide) (fun c_893 => ?_) (fun c_893 => ?_)
                                    · skip
                                      have c_893 := ni_ne c_893 rfl li_1
                                      refine lv_iconst (v := 1) hx hb dX11_factor_57 (by decide) ?_
                                      refine lv_iload_n hx hb dX11_factor_58 rfl (lv_at hl 4 rfl) ?_
                                      refine lv_iconst (v := 3) hx hb dX11_factor_59 (by decide) ?_
                                      refine lv_icmp_ne (tgt := 67) hx hb dX11_factor_60 (by decide) (fun c_894 => ?_) (fun c_894 => ?_)
                                      · skip
                                        have c_894 := ni_ne c_894 rfl li_3
                                        refine lv_iload_n hx hb dX11_factor_67 rfl (lv_at hl 4 rfl) ?_
                                        refine lv_bipush (v := 6) hx hb dX11_factor_68 (by decide) ?_
                                        refine lv_icmp_ne (tgt := 77) hx hb dX11_factor_70 (by decide) (fun c_895 => ?_) (fun c_895 => ?_)
                                        · skip
                                          have c_895 := ni_ne c_895 rfl li_6
                                          refine lv_iconst (v := 0) hx hb dX11_factor_77 (by decide) ?_
                                          have q_q897 := li_1
                                          have q_q898 := li_1
                                          have q_q899 := li_0
                                          refine tcI (Tc := [(h0, ob 8 [.int h0f0, .int h0f1, .int h0f2, .int h0f3, .int h0f4, .int h0f5, .ref h1, .ref h2, .int h0f8, .int h0f9, .ref h3, .ref h4, .ref h5, .ref h6, .ref h7, .ref h8, .ref h9, .int h0f17, .int h0f18, .int h0f19, .ref h10, .ref h11, .ref h12, .ref h13, .int h0f24, .int h0f25, .ref h14, .ref h15, .ref h16, .ref h17, .int h0f30, .int h0f31, .ref h18, .ref h19, .ref h20, .ref h21]), (h7, aJ (k 1) 4 (zJ [1, 2, 3]))]) (Tr := [(h1, aI (k 0) 36 anI), (h4, aJ (k 1) 9 anJ), (h5, aJ (k 1) 9 anJ)]) (as := [h0, h7]) (zcV (q0 := 1) (ci := 8) (As := [.int 1, .int 1, .int 0]) (rest := []) (Tc := [(h0, ob 8 [.int h0f0, .int h0f1, .int h0f2, .int h0f3, .int h0f4, .int h0f5, .ref h1, .ref h2, .int h0f8, .int h0f9, .ref h3, .ref h4, .ref h5, .ref h6, .ref h7, .ref h8, .ref h9, .int h0f17, .int h0f18, .int h0f19, .ref h10, .ref h11, .ref h12, .ref h13, .int h0f24, .int h0f25, .ref h14, .ref h15, .ref h16, .ref h17, .int h0f30, .int h0f31, .ref h18, .ref h19, .ref h20, .ref h21]), (h7, aJ (k 1) 4 (zJ [1, 2, 3]))]) hx hb hml hown hU hK hT rfl rfl [1, 4] rfl (by decide) (cX11_takesOut_3cbb8 l D k _ h0 h7 h1 h2 h3 h4 h5 h6 h8 h9 h10 h11 h12 h13 h14 h15 h16 h17 h18 h19 h20 h21 (1) (1) (0) h0f0 h0f1 h0f2 h0f3 h0f4 h0f5 h0f8 h0f9 h0f17 h0f18 h0f19 h0f24 h0f25 h0f30 h0f31 (by have := li_1; omega) (by have := li_1; omega) (by have := li_0; omega) (by omega) (by omega) (by omega) (by omega) (by omega) (by omega) (by omega) (by omega) (by omega) (by omega) (by omega) (by omega) (by omega) (by have := li_1; have := li_1; have := li_0; omega) (by have := li_1; have := li_1; have := li_0; omega)) w999 w996 w998 w41 w72 hdX11_takesOut ⟨rfl, rfl⟩ ⟨Nat.le_of_ble_eq_true rfl, Nat.le_of_ble_eq_true rfl⟩ rfl hl.1 (Nat.le_of_ble_eq_true rfl) dX11_factor_78 ⟨Nat.le_of_ble_eq_true rfl, Nat.le_of_ble_eq_true rfl⟩) hT hS hA [1, 4] [0, 2, 3] rfl rfl rfl (by decide) (by decide) (fun r896 H locs hB J hS => ?_)
                                          obtain ⟨rfl, hT1⟩ := hB
                                          have hT := J _ hT1
                                          have hT : TP D A [(h1, aI (k 0) 36 anI), (h4, aJ (k 1) 9 anJ), (h5, aJ (k 1) 9 anJ), (h0, ob 8 [.int h0f0, .int h0f1, .int h0f2, .int h0f3, .int h0f4, .int h0f5, .ref h1, .ref h2, .int h0f8, .int h0f9, .ref h3, .ref h4, .ref h5, .ref h6, .ref h7, .ref h8, .ref h9, .int h0f17, .int h0f18, .int h0f19, .ref h10, .ref h11, .ref h12, .ref h13, .int h0f24, .int h0f25, .ref h14, .ref h15, .ref h16, .ref h17, .int h0f30, .int h0f31, .ref h18, .ref h19, .ref h20, .ref h21]), (h7, aJ (k 1) 4 anJ)] _ := hT
                                          refine lv_if_eq (tgt := 90) hx hb dX11_factor_81 (by decide) (fun _ => ?_) (fun cc => absurd (by decide +kernel) cc)
                                          refine lv_iload_n hx hb dX11_factor_90 rfl (lv_at hl 0 rfl) ?_
                                          exact tz_retI (B := B_cX11_factor_71296 D k h0 h1 h4 h5 h7 h2 h3 h6 h8 h9 h10 h11 h12 h13 h14 h15 h16 h17 h18 h19 h20 h21 x1 x2 h0f0 h0f1 h0f2 h0f3 h0f4 h0f5 h0f8 h0f9 h0f17 h0f18 h0f19 h0f24 h0f25 h0f30 h0f31) (v := 3) hQ hx hb hr hlocks hS (Nat.le_of_ble_eq_true rfl) (Nat.le_of_ble_eq_true rfl) dX11_factor_91 (⟨(by have := li_3; omega), (hT.sub [3, 0, 1, 2, 4] (by decide) rfl)⟩)
                                        · skip
                                          have c_895 := ni_eq c_895 rfl li_6
                                          exfalso; omega
                                      · skip
                                        have c_894 := ni_eq c_894 rfl li_3
                                        exfalso; omega
                                    · skip
                                      have c_893 := ni_eq c_893 rfl li_1
                                      exfalso; omega
                                · skip
                                  have c_878 := ni_eq c_878 rfl li_6
                                  exfalso; omega
                              · skip
                                have c_877 := ni_eq c_877 rfl li_3
                                exfalso; omega
                            · skip
                              have c_876 := ni_eq c_876 rfl li_1
                              exfalso; omega
                          · skip
                            have hT := J _ hT1
                            have hT : TP D A [(h1, aI (k 0) 36 anI), (h0, ob 8 [.int h0f0, .int h0f1, .int h0f2, .int h0f3, .int h0f4, .int h0f5, .ref h1, .ref h2, .int h0f8, .int h0f9, .ref h3, .ref h4, .ref h5, .ref h6, .ref h7, .ref h8, .ref h9, .int h0f17, .int h0f18, .int h0f19, .ref h10, .ref h11, .ref h12, .ref h13, .int h0f24, .int h0f25, .ref h14, .ref h15, .ref h16, .ref h17, .int h0f30, .int h0f31, .ref h18, .ref h19, .ref h20, .ref h21]), (h4, aJ (k 1) 9 anJ), (h5, aJ (k 1) 9 anJ), (h7, aJ (k 1) 4 (zJ [2, 3]))] _ := hT
                            exfalso; omega
                        · skip
                          have c_813 := ni_eq c_813 rfl li_6
                          exfalso; omega
                      · skip
                        have c_812 := ni_eq c_812 rfl li_3
                        exfalso; omega
                    · skip
                      have c_811 := ni_eq c_811 rfl li_1
                      exfalso; omega
                  · skip
                    have hT := J _ hT1
                    have hT : TP D A [(h1, aI (k 0) 36 anI), (h0, ob 8 [.int h0f0, .int h0f1, .int h0f2, .int h0f3, .int h0f4, .int h0f5, .ref h1, .ref h2, .int h0f8, .int h0f9, .ref h3, .ref h4, .ref h5, .ref h6, .ref h7, .ref h8, .ref h9, .int h0f17, .int h0f18, .int h0f19, .ref h10, .ref h11, .ref h12, .ref h13, .int h0f24, .int h0f25, .ref h14, .ref h15, .ref h16, .ref h17, .int h0f30, .int h0f31, .ref h18, .ref h19, .ref h20, .ref h21]), (h4, aJ (k 1) 9 anJ), (h5, aJ (k 1) 9 anJ), (h7, aJ (k 1) 4 (zJ [3]))] _ := hT
                    exfalso; omega
                  · skip
                    have hT := J _ hT1
                    have hT : TP D A [(h1, aI (k 0) 36 anI), (h0, ob 8 [.int h0f0, .int h0f1, .int h0f2, .int h0f3, .int h0f4, .int h0f5, .ref h1, .ref h2, .int h0f8, .int h0f9, .ref h3, .ref h4, .ref h5, .ref h6, .ref h7, .ref h8, .ref h9, .int h0f17, .int h0f18, .int h0f19, .ref h10, .ref h11, .ref h12, .ref h13, .int h0f24, .int h0f25, .ref h14, .ref h15, .ref h16, .ref h17, .int h0f30, .int h0f31, .ref h18, .ref h19, .ref h20, .ref h21]), (h4, aJ (k 1) 9 anJ), (h5, aJ (k 1) 9 anJ), (h7, aJ (k 1) 4 (zJ [3]))] _ := hT
                    exfalso; omega
                · skip
                  have c_564 := ni_eq c_564 rfl li_6
                  exfalso; omega
              · skip
                have c_563 := ni_eq c_563 rfl li_3
                exfalso; omega
            · skip
              have c_562 := ni_eq c_562 rfl li_1
              refine lv_iconst (v := (-1)) hx hb dX11_factor_53 (by decide) ?_
              refine lv_goto (tgt := 58) hx hb dX11_factor_54 (by decide) ?_
              refine lv_iload_n hx hb dX11_factor_58 rfl (lv_at hl 4 rfl) ?_
              refine lv_iconst (v := 3) hx hb dX11_factor_59 (by decide) ?_
              refine lv_icmp_ne (tgt := 67) hx hb dX11_factor_60 (by decide) (fun c_900 => ?_) (fun c_900 => ?_)
              · skip
                have c_900 := ni_ne c_900 rfl li_3
                refine lv_iload_n hx hb dX11_factor_67 rfl (lv_at hl 4 rfl) ?_
                refine lv_bipush (v := 6) hx hb dX11_factor_68 (by decide) ?_
                refine lv_icmp_ne (tgt := 77) hx hb dX11_factor_70 (by decide) (fun c_901 => ?_) (fun c_901 => ?_)
                · skip
                  have c_901 := ni_ne c_901 rfl li_6
                  refine lv_iconst (v := 0) hx hb dX11_factor_77 (by decide) ?_
                  have q_q903 := li_1
                  have q_q904 := li_m1
                  have q_q905 := li_0
                  refine tcI (Tc := [(h0, ob 8 [.int h0f0, .int h0f1, .int h0f2, .int h0f3, .int h0f4, .int h0f5, .ref h1, .ref h2, .int h0f8, .int h0f9, .ref h3, .ref h4, .ref h5, .ref h6, .ref h7, .ref h8, .ref h9, .int h0f17, .int h0f18, .int h0f19, .ref h10, .ref h11, .ref h12, .ref h13, .int h0f24, .int h0f25, .ref h14, .ref h15, .ref h16, .ref h17, .int h0f30, .int h0f31, .ref h18, .ref h19, .ref h20, .ref h21]), (h4, aJ (k 1) 9 anJ), (h5, aJ (k 1) 9 anJ), (h7, aJ (k 1) 4 anJ)]) (Tr := [(h1, aI (k 0) 36 anI)]) (as := [h0, h4, h5, h7]) (zcV (q0 := 1) (ci := 8) (As := [.int 1, .int (-1), .int 0]) (rest := []) (Tc := [(h0, ob 8 [.int h0f0, .int h0f1, .int h0f2, .int h0f3, .int h0f4, .int h0f5, .ref h1, .ref h2, .int h0f8, .int h0f9, .ref h3, .ref h4, .ref h5, .ref h6, .ref h7, .ref h8, .ref h9, .int h0f17, .int h0f18, .int h0f19, .ref h10, .ref h11, .ref h12, .ref h13, .int h0f24, .int h0f25, .ref h14, .ref h15, .ref h16, .ref h17, .int h0f30, .int h0f31, .ref h18, .ref h19, .ref h20, .ref h21]), (h4, aJ (k 1) 9 anJ), (h5, aJ (k 1) 9 anJ), (h7, aJ (k 1) 4 anJ)]) hx hb hml hown hU hK hT rfl rfl [1, 3, 0, 4] rfl (by decide) (cX11_takesOut_ae7df l D k _ h0 h4 h5 h7 h1 h2 h3 h6 h8 h9 h10 h11 h12 h13 h14 h15 h16 h17 h18 h19 h20 h21 (1) ((-1)) (0) h0f0 h0f1 h0f2 h0f3 h0f4 h0f5 h0f8 h0f9 h0f17 h0f18 h0f19 h0f24 h0f25 h0f30 h0f31 (by have := li_1; omega) (by have := li_m1; omega) (by have := li_0; omega) (by omega) (by omega) (by omega) (by omega) (by omega) (by omega) (by omega) (by omega) (by omega) (by omega) (by omega) (by omega) (by omega) (by have := li_1; have := li_m1; have := li_0; omega) (by have := li_1; have := li_m1; have := li_0; omega)) w999 w996 w998 w41 w72 hdX11_takesOut ⟨rfl, rfl⟩ ⟨Nat.le_of_ble_eq_true rfl, Nat.le_of_ble_eq_true rfl⟩ rfl hl.1 (Nat.le_of_ble_eq_true rfl) dX11_factor_78 ⟨Nat.le_of_ble_eq_true rfl, Nat.le_of_ble_eq_true rfl⟩) hT hS hA [1, 3, 0, 4] [2] rfl rfl rfl (by decide) (by decide) (fun r902 H locs hB J hS => ?_)
                  rcases hB with ⟨rfl, hT1⟩ | ⟨v906, v907, b_v907, c_908, c_909, c_910, c_911, c_912, c_913, c_914, c_915, c_916, c_917, rfl, hT1⟩ | ⟨v918, v919, v920, b_v918, b_v920, c_921, c_922, c_923, c_924, c_925, c_926, c_927, c_928, c_929, c_930, rfl, hT1⟩ | ⟨v931, v932, v933, v934, b_v931, b_v932, b_v934, c_935, c_936, c_937, c_938, c_939, c_940, c_941, c_942, c_943, c_944, rfl, hT1⟩ | ⟨v945, v946, v947, b_v946, b_v947, c_948, c_949, c_950, c_951, c_952, c_953, c_954, c_955, c_956, rfl, hT1⟩ | ⟨v957, v958, v959, v960, b_v957, b_v959, b_v960, c_961, c_962, c_963, c_964, c_965, c_966, c_967, c_968, c_969, rfl, hT1⟩
                  · skip
                    have hT := J _ hT1
                    have hT : TP D A [(h1, aI (k 0) 36 anI), (h0, ob 8 [.int h0f0, .int h0f1, .int h0f2, .int h0f3, .int h0f4, .int h0f5, .ref h1, .ref h2, .int h0f8, .int h0f9, .ref h3, .ref h4, .ref h5, .ref h6, .ref h7, .ref h8, .ref h9, .int h0f17, .int h0f18, .int h0f19, .ref h10, .ref h11, .ref h12, .ref h13, .int h0f24, .int h0f25, .ref h14, .ref h15, .ref h16, .ref h17, .int h0f30, .int h0f31, .ref h18, .ref h19, .ref h20, .ref h21]), (h4, aJ (k 1) 9 anJ), (h5, aJ (k 1) 9 anJ), (h7, aJ (k 1) 4 anJ)] _ := hT
                    refine lv_if_eq (tgt := 90) hx hb dX11_factor_81 (by decide) (fun _ => ?_) (fun cc => absurd (by decide +kernel) cc)
                    refine lv_iload_n hx hb dX11_factor_90 rfl (lv_at hl 1 rfl) ?_
                    exact tz_retI (B := B_cX11_factor_71296 D k h0 h1 h4 h5 h7 h2 h3 h6 h8 h9 h10 h11 h12 h13 h14 h15 h16 h17 h18 h19 h20 h21 x1 x2 h0f0 h0f1 h0f2 h0f3 h0f4 h0f5 h0f8 h0f9 h0f17 h0f18 h0f19 h0f24 h0f25 h0f30 h0f31) (v := 0) hQ hx hb hr hlocks hS (Nat.le_of_ble_eq_true rfl) (Nat.le_of_ble_eq_true rfl) dX11_factor_91 (⟨(by have := li_0; omega), (hT.sub [1, 0, 2, 3, 4] (by decide) rfl)⟩)
                  · skip
                    have hT := J _ hT1
                    have hT : TP D A [(h1, aI (k 0) 36 anI), (h0, ob 8 [.int h0f0, .int h0f1, .int h0f2, .int h0f3, .int h0f4, .int h0f5, .ref h1, .ref h2, .int h0f8, .int h0f9, .ref h3, .ref h4, .ref h5, .ref h6, .ref h7, .ref h8, .ref h9, .int h0f17, .int h0f18, .int h0f19, .ref h10, .ref h11, .ref h12, .ref h13, .int h0f24, .int h0f25, .ref h14, .ref h15, .ref h16, .ref h17, .int h0f30, .int h0f31, .ref h18, .ref h19, .ref h20, .ref h21]), (h4, aJ (k 1) 9 anJ), (h5, aJ (k 1) 9 anJ), (h7, aJ (k 1) 4 (zJ [3]))] _ := hT
                    refine lv_if_eq (tgt := 90) hx hb dX11_factor_81 (by decide) (fun cc => absurd cc (by decide +kernel)) (fun _ => ?_)
                    refine lv_iinc (v := 1) (lv' := [(3, .int 1), (4, .int 1), (0, .ref h0), (1, .int x1), (2, .int x2)]) hx hb dX11_factor_84 hl (k := 1) rfl (by decide) (by decide) rfl (fun ls hl => ?_)
                    refine lv_goto (tgt := 45) hx hb dX11_factor_87 (by decide) ?_
                    refine lv_aload_n hx hb dX11_factor_45 rfl (lv_at hl 2 rfl) ?_
                    refine lv_iload hx hb dX11_factor_46 (lv_at hl 1 rfl) ?_
                    refine lv_iload_n hx hb dX11_factor_48 rfl (lv_at hl 4 rfl) ?_
                    refine lv_iconst (v := 1) hx hb dX11_factor_49 (by decide) ?_
                    refine lv_icmp_ne (tgt := 57) hx hb dX11_factor_50 (by decide) (fun c_970 => ?_) (fun c_970 => ?_)
                    · skip
                      have c_970 := ni_ne c_970 rfl li_1
                      exfalso; omega
                    · skip
                      have c_970 := ni_eq c_970 rfl li_1
                      refine lv_iconst (v := (-1)) hx hb dX11_factor_53 (by decide) ?_
                      refine lv_goto (tgt := 58) hx hb dX11_factor_54 (by decide) ?_
                      refine lv_iload_n hx hb dX11_factor_58 rfl (lv_at hl 4 rfl) ?_
                      refine lv_iconst (v := 3) hx hb dX11_factor_59 (by decide) ?_
                      refine lv_icmp_ne (tgt := 67) hx hb dX11_factor_60 (by decide) (fun c_971 => ?_) (fun c_971 => ?_)
                      · skip
                        have c_971 := ni_ne c_971 rfl li_3
                        refine lv_iload_n hx hb dX11_factor_67 rfl (lv_at hl 4 rfl) ?_
                        refine lv_bipush (v := 6) hx hb dX11_factor_68 (by decide) ?_
                        refine lv_icmp_ne (tgt := 77) hx hb dX11_factor_70 (by decide) (fun c_972 => ?_) (fun c_972 => ?_)
                        · skip
                          have c_972 := ni_ne c_972 rfl li_6
                          refine lv_iconst (v := 0) hx hb dX11_factor_77 (by decide) ?_
                          have q_q974 := li_1
                          have q_q975 := li_m1
                          have q_q976 := li_0
                          refine tcI (Tc := [(h0, ob 8 [.int h0f0, .int h0f1, .int h0f2, .int h0f3, .int h0f4, .int h0f5, .ref h1, .ref h2, .int h0f8, .int h0f9, .ref h3, .ref h4, .ref h5, .ref h6, .ref h7, .ref h8, .ref h9, .int h0f17, .int h0f18, .int h0f19, .ref h10, .ref h11, .ref h12, .ref h13, .int h0f24, .int h0f25, .ref h14, .ref h15, .ref h16, .ref h17, .int h0f30, .int h0f31, .ref h18, .ref h19, .ref h20, .ref h21]), (h4, aJ (k 1) 9 anJ), (h5, aJ (k 1) 9 anJ), (h7, aJ (k 1) 4 (zJ [3]))]) (Tr := [(h1, aI (k 0) 36 anI)]) (as := [h0, h4, h5, h7]) (zcV (q0 := 1) (ci := 8) (As := [.int 1, .int (-1), .int 0]) (rest := []) (Tc := [(h0, ob 8 [.int h0f0, .int h0f1, .int h0f2, .int h0f3, .int h0f4, .int h0f5, .ref h1, .ref h2, .int h0f8, .int h0f9, .ref h3, .ref h4, .ref h5, .ref h6, .ref h7, .ref h8, .ref h9, .int h0f17, .int h0f18, .int h0f19, .ref h10, .ref h11, .ref h12, .ref h13, .int h0f24, .int h0f25, .ref h14, .ref h15, .ref h16, .ref h17, .int h0f30, .int h0f31, .ref h18, .ref h19, .ref h20, .ref h21]), (h4, aJ (k 1) 9 anJ), (h5, aJ (k 1) 9 anJ), (h7, aJ (k 1) 4 (zJ [3]))]) hx hb hml hown hU hK hT rfl rfl [1, 2, 3, 4] rfl (by decide) (cX11_takesOut_a13ae l D k _ h0 h4 h5 h7 h1 h2 h3 h6 h8 h9 h10 h11 h12 h13 h14 h15 h16 h17 h18 h19 h20 h21 (1) ((-1)) (0) h0f0 h0f1 h0f2 h0f3 h0f4 h0f5 h0f8 h0f9 h0f17 h0f18 h0f19 h0f24 h0f25 h0f30 h0f31 (by have := li_1; omega) (by have := li_m1; omega) (by have := li_0; omega) (by omega) (by omega) (by omega) (by omega) (by omega) (by omega) (by omega) (by omega) (by omega) (by omega) (by omega) (by omega) (by omega) (by have := li_1; have := li_m1; have := li_0; omega) (by have := li_1; have := li_m1; have := li_0; omega)) w999 w996 w998 w41 w72 hdX11_takesOut ⟨rfl, rfl⟩ ⟨Nat.le_of_ble_eq_true rfl, Nat.le_of_ble_eq_true rfl⟩ rfl hl.1 (Nat.le_of_ble_eq_true rfl) dX11_factor_78 ⟨Nat.le_of_ble_eq_true rfl, Nat.le_of_ble_eq_true rfl⟩) hT hS hA [1, 2, 3, 4] [0] rfl rfl rfl (by decide) (by decide) (fun r973 H locs hB J hS => ?_)
                          rcases hB with ⟨rfl, hT1⟩ | ⟨v977, v978, b_v978, c_979, c_980, c_981, c_982, c_983, c_984, c_985, c_986, c_987, rfl, hT1⟩ | ⟨v988, v989, v990, b_v988, b_v990, c_991, c_992, c_993, c_994, c_995, c_996, c_997, c_998, c_999, rfl, hT1⟩ | ⟨v1000, v1001, v1002, b_v1001, b_v1002, c_1003, c_1004, c_1005, c_1006, c_1007, c_1008, c_1009, c_1010, rfl, hT1⟩
                          · skip
                            have hT := J _ hT1
                            have hT : TP D A [(h1, aI (k 0) 36 anI), (h0, ob 8 [.int h0f0, .int h0f1, .int h0f2, .int h0f3, .int h0f4, .int h0f5, .ref h1, .ref h2, .int h0f8, .int h0f9, .ref h3, .ref h4, .ref h5, .ref h6, .ref h7, .ref h8, .ref h9, .int h0f17, .int h0f18, .int h0f19, .ref h10, .ref h11, .ref h12, .ref h13, .int h0f24, .int h0f25, .ref h14, .ref h15, .ref h16, .ref h17, .int h0f30, .int h0f31, .ref h18, .ref h19, .ref h20, .ref h21]), (h4, aJ (k 1) 9 anJ), (h5, aJ (k 1) 9 anJ), (h7, aJ (k 1) 4 anJ)] _ := hT
                            refine lv_if_eq (tgt := 90) hx hb dX11_factor_81 (by decide) (fun _ => ?_) (fun cc => absurd (by decide +kernel) cc)
                            refine lv_iload_n hx hb dX11_factor_90 rfl (lv_at hl 0 rfl) ?_
                            exact tz_retI (B := B_cX11_factor_71296 D k h0 h1 h4 h5 h7 h2 h3 h6 h8 h9 h10 h11 h12 h13 h14 h15 h16 h17 h18 h19 h20 h21 x1 x2 h0f0 h0f1 h0f2 h0f3 h0f4 h0f5 h0f8 h0f9 h0f17 h0f18 h0f19 h0f24 h0f25 h0f30 h0f31) (v := 1) hQ hx hb hr hlocks hS (Nat.le_of_ble_eq_true rfl) (Nat.le_of_ble_eq_true rfl) dX11_factor_91 (⟨(by have := li_1; omega), (hT.sub [1, 0, 2, 3, 4] (by decide) rfl)⟩)
                          · skip
                            have hT := J _ hT1
                            have hT : TP D A [(h1, aI (k 0) 36 anI), (h0, ob 8 [.int h0f0, .int h0f1, .int h0f2, .int h0f3, .int h0f4, .int h0f5, .ref h1, .ref h2, .int h0f8, .int h0f9, .ref h3, .ref h4, .ref h5, .ref h6, .ref h7, .ref h8, .ref h9, .int h0f17, .int h0f18, .int h0f19, .ref h10, .ref h11, .ref h12, .ref h13, .int h0f24, .int h0f25, .ref h14, .ref h15, .ref h16, .ref h17, .int h0f30, .int h0f31, .ref h18, .ref h19, .ref h20, .ref h21]), (h4, aJ (k 1) 9 anJ), (h5, aJ (k 1) 9 anJ), (h7, aJ (k 1) 4 (zJ [2, 3]))] _ := hT
                            refine lv_if_eq (tgt := 90) hx hb dX11_factor_81 (by decide) (fun cc => absurd cc (by decide +kernel)) (fun _ => ?_)
                            refine lv_iinc (v := 2) (lv' := [(3, .int 2), (4, .int 1), (0, .ref h0), (1, .int x1), (2, .int x2)]) hx hb dX11_factor_84 hl (k := 0) rfl (by decide) (by decide) rfl (fun ls hl => ?_)
                            refine lv_goto (tgt := 45) hx hb dX11_factor_87 (by decide) ?_
                            refine lv_aload_n hx hb dX11_factor_45 rfl (lv_at hl 2 rfl) ?_
                            refine lv_iload hx hb dX11_factor_46 (lv_at hl 1 rfl) ?_
                            refine lv_iload_n hx hb dX11_factor_48 rfl (lv_at hl 4 rfl) ?_
                            refine lv_iconst (v := 1) hx hb dX11_factor_49 (by decide) ?_
                            refine lv_icmp_ne (tgt := 57) hx hb dX11_factor_50 (by decide) (fun c_1011 => ?_) (fun c_1011 => ?_)
                            · skip
                              have c_1011 := ni_ne c_1011 rfl li_1
                              exfalso; omega
                            · skip
                              have c_1011 := ni_eq c_1011 rfl li_1
                              refine lv_iconst (v := (-1)) hx hb dX11_factor_53 (by decide) ?_
                              refine lv_goto (tgt := 58) hx hb dX11_factor_54 (by decide) ?_
                              refine lv_iload_n hx hb dX11_factor_58 rfl (lv_at hl 4 rfl) ?_
                              refine lv_iconst (v := 3) hx hb dX11_factor_59 (by decide) ?_
                              refine lv_icmp_ne (tgt := 67) hx hb dX11_factor_60 (by decide) (fun c_1012 => ?_) (fun c_1012 => ?_)
                              · skip
                                have c_1012 := ni_ne c_1012 rfl li_3
                                refine lv_iload_n hx hb dX11_factor_67 rfl (lv_at hl 4 rfl) ?_
                                refine lv_bipush (v := 6) hx hb dX11_factor_68 (by decide) ?_
                                refine lv_icmp_ne (tgt := 77) hx hb dX11_factor_70 (by decide) (fun c_1013 => ?_) (fun c_1013 => ?_)
                                · skip
                                  have c_1013 := ni_ne c_1013 rfl li_6
                                  refine lv_iconst (v := 0) hx hb dX11_factor_77 (by decide) ?_
                                  have q_q1015 := li_1
                                  have q_q1016 := li_m1
                                  have q_q1017 := li_0
                                  refine tcI (Tc := [(h0, ob 8 [.int h0f0, .int h0f1, .int h0f2, .int h0f3, .int h0f4, .int h0f5, .ref h1, .ref h2, .int h0f8, .int h0f9, .ref h3, .ref h4, .ref h5, .ref h6, .ref h7, .ref h8, .ref h9, .int h0f17, .int h0f18, .int h0f19, .ref h10, .ref h11, .ref h12, .ref h13, .int h0f24, .int h0f25, .ref h14, .ref h15, .ref h16, .ref h17, .int h0f30, .int h0f31, .ref h18, .ref h19, .ref h20, .ref h21]), (h4, aJ (k 1) 9 anJ), (h5, aJ (k 1) 9 anJ), (h7, aJ (k 1) 4 (zJ [2, 3]))]) (Tr := [(h1, aI (k 0) 36 anI)]) (as := [h0, h4, h5, h7]) (zcV (q0 := 1) (ci := 8) (As := [.int 1, .int (-1), .int 0]) (rest := []) (Tc := [(h0, ob 8 [.int h0f0, .int h0f1, .int h0f2, .int h0f3, .int h0f4, .int h0f5, .ref h1, .ref h2, .int h0f8, .int h0f9, .ref h3, .ref h4, .ref h5, .ref h6, .ref h7, .ref h8, .ref h9, .int h0f17, .int h0f18, .int h0f19, .ref h10, .ref h11, .ref h12, .ref h13, .int h0f24, .int h0f25, .ref h14, .ref h15, .ref h16, .ref h17, .int h0f30, .int h0f31, .ref h18, .ref h19, .ref h20, .ref h21]), (h4, aJ (k 1) 9 anJ), (h5, aJ (k 1) 9 anJ), (h7, aJ (k 1) 4 (zJ [2, 3]))]) hx hb hml hown hU hK hT rfl rfl [1, 2, 3, 4] rfl (by decide) (cX11_takesOut_2378e l D k _ h0 h4 h5 h7 h1 h2 h3 h6 h8 h9 h10 h11 h12 h13 h14 h15 h16 h17 h18 h19 h20 h21 (1) ((-1)) (0) h0f0 h0f1 h0f2 h0f3 h0f4 h0f5 h0f8 h0f9 h0f17 h0f18 h0f19 h0f24 h0f25 h0f30 h0f31 (by have := li_1; omega) (by have := li_m1; omega) (by have := li_0; omega) (by omega) (by omega) (by omega) (by omega) (by omega) (by omega) (by omega) (by omega) (by omega) (by omega) (by omega) (by omega) (by omega) (by have := li_1; have := li_m1; have := li_0; omega) (by have := li_1; have := li_m1; have := li_0; omega)) w999 w996 w998 w41 w72 hdX11_takesOut ⟨rfl, rfl⟩ ⟨Nat.le_of_ble_eq_true rfl, Nat.le_of_ble_eq_true rfl⟩ rfl hl.1 (Nat.le_of_ble_eq_true rfl) dX11_factor_78 ⟨Nat.le_of_ble_eq_true rfl, Nat.le_of_ble_eq_true rfl⟩) hT hS hA [1, 2, 3, 4] [0] rfl rfl rfl (by decide) (by decide) (fun r1014 H locs hB J hS => ?_)
                                  rcases hB with ⟨rfl, hT1⟩ | ⟨v1018, v1019, b_v1019, c_1020, c_1021, c_1022, c_1023, c_1024, c_1025, c_1026, c_1027, rfl, hT1⟩
                                  · skip
                                    have hT := J _ hT1
                                    have hT : TP D A [(h1, aI (k 0) 36 anI), (h0, ob 8 [.int h0f0, .int h0f1, .int h0f2, .int h0f3, .int h0f4, .int h0f5, .ref h1, .ref h2, .int h0f8, .int h0f9, .ref h3, .ref h4, .ref h5, .ref h6, .ref h7, .ref h8, .ref h9, .int h0f17, .int h0f18, .int h0f19, .ref h10, .ref h11, .ref h12, .ref h13, .int h0f24, .int h0f25, .ref h14, .ref h15, .ref h16, .ref h17, .int h0f30, .int h0f31, .ref h18, .ref h19, .ref h20, .ref h21]), (h4, aJ (k 1) 9 anJ), (h5, aJ (k 1) 9 anJ), (h7, aJ (k 1) 4 anJ)] _ := hT
                                    refine lv_if_eq (tgt := 90) hx hb dX11_factor_81 (by decide) (fun _ => ?_) (fun cc => absurd (by decide +kernel) cc)
                                    refine lv_iload_n hx hb dX11_factor_90 rfl (lv_at hl 0 rfl) ?_
                                    exact tz_retI (B := B_cX11_factor_71296 D k h0 h1 h4 h5 h7 h2 h3 h6 h8 h9 h10 h11 h12 h13 h14 h15 h16 h17 h18 h19 h20 h21 x1 x2 h0f0 h0f1 h0f2 h0f3 h0f4 h0f5 h0f8 h0f9 h0f17 h0f18 h0f19 h0f24 h0f25 h0f30 h0f31) (v := 2) hQ hx hb hr hlocks hS (Nat.le_of_ble_eq_true rfl) (Nat.le_of_ble_eq_true rfl) dX11_factor_91 (⟨(by have := li_2; omega), (hT.sub [1, 0, 2, 3, 4] (by decide) rfl)⟩)
                                  · skip
                                    have hT := J _ hT1
                                    have hT : TP D A [(h1, aI (k 0) 36 anI), (h0, ob 8 [.int h0f0, .int h0f1, .int h0f2, .int h0f3, .int h0f4, .int h0f5, .ref h1, .ref h2, .int h0f8, .int h0f9, .ref h3, .ref h4, .ref h5, .ref h6, .ref h7, .ref h8, .ref h9, .int h0f17, .int h0f18, .int h0f19, .ref h10, .ref h11, .ref h12, .ref h13, .int h0f24, .int h0f25, .ref h14, .ref h15, .ref h16, .ref h17, .int h0f30, .int h0f31, .ref h18, .ref h19, .ref h20, .ref h21]), (h4, aJ (k 1) 9 anJ), (h5, aJ (k 1) 9 anJ), (h7, aJ (k 1) 4 (zJ [1, 2, 3]))] _ := hT
                                    refine lv_if_eq (tgt := 90) hx hb dX11_factor_81 (by decide) (fun cc => absurd cc (by decide +kernel)) (fun _ => ?_)
                                    refine lv_iinc (v := 3) (lv' := [(3, .int 3), (4, .int 1), (0, .ref h0), (1, .int x1), (2, .int x2)]) hx hb dX11_factor_84 hl (k := 0) rfl (by decide) (by decide) rfl (fun ls hl => ?_)
                                    refine lv_goto (tgt := 45) hx hb dX11_factor_87 (by decide) ?_
                                    refine lv_aload_n hx hb dX11_factor_45 rfl (lv_at hl 2 rfl) ?_
                                    refine lv_iload hx hb dX11_factor_46 (lv_at hl 1 rfl) ?_
                                    refine lv_iload_n hx hb dX11_factor_48 rfl (lv_at hl 4 rfl) ?_
                                    refine lv_iconst (v := 1) hx hb dX11_factor_49 (by decide) ?_
                                    refine lv_icmp_ne (tgt := 57) hx hb dX11_factor_50 (by decide) (fun c_1028 => ?_) (fun c_1028 => ?_)
                                    · skip
                                      have c_1028 := ni_ne c_1028 rfl li_1
                                      exfalso; omega
                                    · skip
                                      have c_1028 := ni_eq c_1028 rfl li_1
                                      refine lv_iconst (v := (-1)) hx hb dX11_factor_53 (by decide) ?_
                                      refine lv_goto (tgt := 58) hx hb dX11_factor_54 (by decide) ?_
                                      refine lv_iload_n hx hb dX11_factor_58 rfl (lv_at hl 4 rfl) ?_
                                      refine lv_iconst (v := 3) hx hb dX11_factor_59 (by decide) ?_
                                      refine lv_icmp_ne (tgt := 67) hx hb dX11_factor_60 (by decide) (fun c_1029 => ?_) (fun c_1029 => ?_)
                                      · skip
                                        have c_1029 := ni_ne c_1029 rfl li_3
                                        refine lv_iload_n hx hb dX11_factor_67 rfl (lv_at hl 4 rfl) ?_
                                        refine lv_bipush (v := 6) hx hb dX11_factor_68 (by decide) ?_
                                        refine lv_icmp_ne (tgt := 77) hx hb dX11_factor_70 (by decide) (fun c_1030 => ?_) (fun c_1030 => ?_)
                                        · skip
                                          have c_1030 := ni_ne c_1030 rfl li_6
                                          refine lv_iconst (v := 0) hx hb dX11_factor_77 (by decide) ?_
                                          have q_q1032 := li_1
                                          have q_q1033 := li_m1
                                          have q_q1034 := li_0
                                          refine tcI (Tc := [(h0, ob 8 [.int h0f0, .int h0f1, .int h0f2, .int h0f3, .int h0f4, .int h0f5, .ref h1, .ref h2, .int h0f8, .int h0f9, .ref h3, .ref h4, .ref h5, .ref h6, .ref h7, .ref h8, .ref h9, .int h0f17, .int h0f18, .int h0f19, .ref h10, .ref h11, .ref h12, .ref h13, .int h0f24, .int h0f25, .ref h14, .ref h15, .ref h16, .ref h17, .int h0f30, .int h0f31, .ref h18, .ref h19, .ref h20, .ref h21]), (h7, aJ (k 1) 4 (zJ [1, 2, 3]))]) (Tr := [(h1, aI (k 0) 36 anI), (h4, aJ (k 1) 9 anJ), (h5, aJ (k 1) 9 anJ)]) (as := [h0, h7]) (zcV (q0 := 1) (ci := 8) (As := [.int 1, .int (-1), .int 0]) (rest := []) (Tc := [(h0, ob 8 [.int h0f0, .int h0f1, .int h0f2, .int h0f3, .int h0f4, .int h0f5, .ref h1, .ref h2, .int h0f8, .int h0f9, .ref h3, .ref h4, .ref h5, .ref h6, .ref h7, .ref h8, .ref h9, .int h0f17, .int h0f18, .int h0f19, .ref h10, .ref h11, .ref h12, .ref h13, .int h0f24, .int h0f25, .ref h14, .ref h15, .ref h16, .ref h17, .int h0f30, .int h0f31, .ref h18, .ref h19, .ref h20, .ref h21]), (h7, aJ (k 1) 4 (zJ [1, 2, 3]))]) hx hb hml hown hU hK hT rfl rfl [1, 4] rfl (by decide) (cX11_takesOut_3cbb8 l D k _ h0 h7 h1 h2 h3 h4 h5 h6 h8 h9 h10 h11 h12 h13 h14 h15 h16 h17 h18 h19 h20 h21 (1) ((-1)) (0) h0f0 h0f1 h0f2 h0f3 h0f4 h0f5 h0f8 h0f9 h0f17 h0f18 h0f19 h0f24 h0f25 h0f30 h0f31 (by have := li_1; omega) (by have := li_m1; omega) (by have := li_0; omega) (by omega) (by omega) (by omega) (by omega) (by omega) (by omega) (by omega) (by omega) (by omega) (by omega) (by omega) (by omega) (by omega) (by have := li_1; have := li_m1; have := li_0; omega) (by have := li_1; have := li_m1; have := li_0; omega)) w999 w996 w998 w41 w72 hdX11_takesOut ⟨rfl, rfl⟩ ⟨Nat.le_of_ble_eq_true rfl, Nat.le_of_ble_eq_true rfl⟩ rfl hl.1 (Nat.le_of_ble_eq_true rfl) dX11_factor_78 ⟨Nat.le_of_ble_eq_true rfl, Nat.le_of_ble_eq_true rfl⟩) hT hS hA [1, 4] [0, 2, 3] rfl rfl rfl (by decide) (by decide) (fun r1031 H locs hB J hS => ?_)
                                          obtain ⟨rfl, hT1⟩ := hB
                                          have hT := J _ hT1
                                          have hT : TP D A [(h1, aI (k 0) 36 anI), (h4, aJ (k 1) 9 anJ), (h5, aJ (k 1) 9 anJ), (h0, ob 8 [.int h0f0, .int h0f1, .int h0f2, .int h0f3, .int h0f4, .int h0f5, .ref h1, .ref h2, .int h0f8, .int h0f9, .ref h3, .ref h4, .ref h5, .ref h6, .ref h7, .ref h8, .ref h9, .int h0f17, .int h0f18, .int h0f19, .ref h10, .ref h11, .ref h12, .ref h13, .int h0f24, .int h0f25, .ref h14, .ref h15, .ref h16, .ref h17, .int h0f30, .int h0f31, .ref h18, .ref h19, .ref h20, .ref h21]), (h7, aJ (k 1) 4 anJ)] _ := hT
                                          refine lv_if_eq (tgt := 90) hx hb dX11_factor_81 (by decide) (fun _ => ?_) (fun cc => absurd (by decide +kernel) cc)
                                          refine lv_iload_n hx hb dX11_factor_90 rfl (lv_at hl 0 rfl) ?_
                                          exact tz_retI (B := B_cX11_factor_71296 D k h0 h1 h4 h5 h7 h2 h3 h6 h8 h9 h10 h11 h12 h13 h14 h15 h16 h17 h18 h19 h20 h21 x1 x2 h0f0 h0f1 h0f2 h0f3 h0f4 h0f5 h0f8 h0f9 h0f17 h0f18 h0f19 h0f24 h0f25 h0f30 h0f31) (v := 3) hQ hx hb hr hlocks hS (Nat.le_of_ble_eq_true rfl) (Nat.le_of_ble_eq_true rfl) dX11_factor_91 (⟨(by have := li_3; omega), (hT.sub [3, 0, 1, 2, 4] (by decide) rfl)⟩)
                                        · skip
                                          have c_1030 := ni_eq c_1030 rfl li_6
                                          exfalso; omega
                                      · skip
                                        have c_1029 := ni_eq c_1029 rfl li_3
                                        exfalso; omega
                                · skip
                                  have c_1013 := ni_eq c_1013 rfl li_6
                                  exfalso; omega
                              · skip
                                have c_1012 := ni_eq c_1012 rfl li_3
                                exfalso; omega
                          · skip
                            have hT := J _ hT1
                            have hT : TP D A [(h1, aI (k 0) 36 anI), (h0, ob 8 [.int h0f0, .int h0f1, .int h0f2, .int h0f3, .int h0f4, .int h0f5, .ref h1, .ref h2, .int h0f8, .int h0f9, .ref h3, .ref h4, .ref h5, .ref h6, .ref h7, .ref h8, .ref h9, .int h0f17, .int h0f18, .int h0f19, .ref h10, .ref h11, .ref h12, .ref h13, .int h0f24, .int h0f25, .ref h14, .ref h15, .ref h16, .ref h17, .int h0f30, .int h0f31, .ref h18, .ref h19, .ref h20, .ref h21]), (h4, aJ (k 1) 9 anJ), (h5, aJ (k 1) 9 anJ), (h7, aJ (k 1) 4 (zJ [2, 3]))] _ := hT
                            refine lv_if_eq (tgt := 90) hx hb dX11_factor_81 (by decide) (fun cc => absurd cc (by decide +kernel)) (fun _ => ?_)
                            refine lv_iinc (v := 2) (lv' := [(3, .int 2), (4, .int 1), (0, .ref h0), (1, .int x1), (2, .int x2)]) hx hb dX11_factor_84 hl (k := 0) rfl (by decide) (by decide) rfl (fun ls hl => ?_)
                            refine lv_goto (tgt := 45) hx hb dX11_factor_87 (by decide) ?_
                            refine lv_aload_n hx hb dX11_factor_45 rfl (lv_at hl 2 rfl) ?_
                            refine lv_iload hx hb dX11_factor_46 (lv_at hl 1 rfl) ?_
                            refine lv_iload_n hx hb dX11_factor_48 rfl (lv_at hl 4 rfl) ?_
                            refine lv_iconst (v := 1) hx hb dX11_factor_49 (by decide) ?_
                            refine lv_icmp_ne (tgt := 57) hx hb dX11_factor_50 (by decide) (fun c_1035 => ?_) (fun c_1035 => ?_)
                            · skip
                              have c_1035 := ni_ne c_1035 rfl li_1
                              exfalso; omega
                            · skip
                              have c_1035 := ni_eq c_1035 rfl li_1
                              refine lv_iconst (v := (-1)) hx hb dX11_factor_53 (by decide) ?_
                              refine lv_goto (tgt := 58) hx hb dX11_factor_54 (by decide) ?_
                              refine lv_iload_n hx hb dX11_factor_58 rfl (lv_at hl 4 rfl) ?_
                              refine lv_iconst (v := 3) hx hb dX11_factor_59 (by decide) ?_
                              refine lv_icmp_ne (tgt := 67) hx hb dX11_factor_60 (by decide) (fun c_1036 => ?_) (fun c_1036 => ?_)
                              · skip
                                have c_1036 := ni_ne c_1036 rfl li_3
                                refine lv_iload_n hx hb dX11_factor_67 rfl (lv_at hl 4 rfl) ?_
                                refine lv_bipush (v := 6) hx hb dX11_factor_68 (by decide) ?_
                                refine lv_icmp_ne (tgt := 77) hx hb dX11_factor_70 (by decide) (fun c_1037 => ?_) (fun c_1037 => ?_)
                                · skip
                                  have c_1037 := ni_ne c_1037 rfl li_6
                                  refine lv_iconst (v := 0) hx hb dX11_factor_77 (by decide) ?_
                                  have q_q1039 := li_1
                                  have q_q1040 := li_m1
                                  have q_q1041 := li_0
                                  refine tcI (Tc := [(h0, ob 8 [.int h0f0, .int h0f1, .int h0f2, .int h0f3, .int h0f4, .int h0f5, .ref h1, .ref h2, .int h0f8, .int h0f9, .ref h3, .ref h4, .ref h5, .ref h6, .ref h7, .ref h8, .ref h9, .int h0f17, .int h0f18, .int h0f19, .ref h10, .ref h11, .ref h12, .ref h13, .int h0f24, .int h0f25, .ref h14, .ref h15, .ref h16, .ref h17, .int h0f30, .int h0f31, .ref h18, .ref h19, .ref h20, .ref h21]), (h4, aJ (k 1) 9 anJ), (h5, aJ (k 1) 9 anJ), (h7, aJ (k 1) 4 (zJ [2, 3]))]) (Tr := [(h1, aI (k 0) 36 anI)]) (as := [h0, h4, h5, h7]) (zcV (q0 := 1) (ci := 8) (As := [.int 1, .int (-1), .int 0]) (rest := []) (Tc := [(h0, ob 8 [.int h0f0, .int h0f1, .int h0f2, .int h0f3, .int h0f4, .int h0f5, .ref h1, .ref h2, .int h0f8, .int h0f9, .ref h3, .ref h4, .ref h5, .ref h6, .ref h7, .ref h8, .ref h9, .int h0f17, .int h0f18, .int h0f19, .ref h10, .ref h11, .ref h12, .ref h13, .int h0f24, .int h0f25, .ref h14, .ref h15, .ref h16, .ref h17, .int h0f30, .int h0f31, .ref h18, .ref h19, .ref h20, .ref h21]), (h4, aJ (k 1) 9 anJ), (h5, aJ (k 1) 9 anJ), (h7, aJ (k 1) 4 (zJ [2, 3]))]) hx hb hml hown hU hK hT rfl rfl [1, 2, 3, 4] rfl (by decide) (cX11_takesOut_2378e l D k _ h0 h4 h5 h7 h1 h2 h3 h6 h8 h9 h10 h11 h12 h13 h14 h15 h16 h17 h18 h19 h20 h21 (1) ((-1)) (0) h0f0 h0f1 h0f2 h0f3 h0f4 h0f5 h0f8 h0f9 h0f17 h0f18 h0f19 h0f24 h0f25 h0f30 h0f31 (by have := li_1; omega) (by have := li_m1; omega) (by have := li_0; omega) (by omega) (by omega) (by omega) (by omega) (by omega) (by omega) (by omega) (by omega) (by omega) (by omega) (by omega) (by omega) (by omega) (by have := li_1; have := li_m1; have := li_0; omega) (by have := li_1; have := li_m1; have := li_0; omega)) w999 w996 w998 w41 w72 hdX11_takesOut ⟨rfl, rfl⟩ ⟨Nat.le_of_ble_eq_true rfl, Nat.le_of_ble_eq_true rfl⟩ rfl hl.1 (Nat.le_of_ble_eq_true rfl) dX11_factor_78 ⟨Nat.le_of_ble_eq_true rfl, Nat.le_of_ble_eq_true rfl⟩) hT hS hA [1, 2, 3, 4] [0] rfl rfl rfl (by decide) (by decide) (fun r1038 H locs hB J hS => ?_)
                                  rcases hB with ⟨rfl, hT1⟩ | ⟨v1042, v1043, b_v1043, c_1044, c_1045, c_1046, c_1047, c_1048, c_1049, c_1050, c_1051, rfl, hT1⟩
                                  · skip
                                    have hT := J _ hT1
                                    have hT : TP D A [(h1, aI (k 0) 36 anI), (h0, ob 8 [.int h0f0, .int h0f1, .int h0f2, .int h0f3, .int h0f4, .int h0f5, .ref h1, .ref h2, .int h0f8, .int h0f9, .ref h3, .ref h4, .ref h5, .ref h6, .ref h7, .ref h8, .ref h9, .int h0f17, .int h0f18, .int h0f19, .ref h10, .ref h11, .ref h12, .ref h13, .int h0f24, .int h0f25, .ref h14, .ref h15, .ref h16, .ref h17, .int h0f30, .int h0f31, .ref h18, .ref h19, .ref h20, .ref h21]), (h4, aJ (k 1) 9 anJ), (h5, aJ (k 1) 9 anJ), (h7, aJ (k 1) 4 anJ)] _ := hT
                                    refine lv_if_eq (tgt := 90) hx hb dX11_factor_81 (by decide) (fun _ => ?_) (fun cc => absurd (by decide +kernel) cc)
                                    refine lv_iload_n hx hb dX11_factor_90 rfl (lv_at hl 0 rfl) ?_
                                    exact tz_retI (B := B_cX11_factor_71296 D k h0 h1 h4 h5 h7 h2 h3 h6 h8 h9 h10 h11 h12 h13 h14 h15 h16 h17 h18 h19 h20 h21 x1 x2 h0f0 h0f1 h0f2 h0f3 h0f4 h0f5 h0f8 h0f9 h0f17 h0f18 h0f19 h0f24 h0f25 h0f30 h0f31) (v := 2) hQ hx hb hr hlocks hS (Nat.le_of_ble_eq_true rfl) (Nat.le_of_ble_eq_true rfl) dX11_factor_91 (⟨(by have := li_2; omega), (hT.sub [1, 0, 2, 3, 4] (by decide) rfl)⟩)
                                  · skip
                                    have hT := J _ hT1
                                    have hT : TP D A [(h1, aI (k 0) 36 anI), (h0, ob 8 [.int h0f0, .int h0f1, .int h0f2, .int h0f3, .int h0f4, .int h0f5, .ref h1, .ref h2, .int h0f8, .int h0f9, .ref h3, .ref h4, .ref h5, .ref h6, .ref h7, .ref h8, .ref h9, .int h0f17, .int h0f18, .int h0f19, .ref h10, .ref h11, .ref h12, .ref h13, .int h0f24, .int h0f25, .ref h14, .ref h15, .ref h16, .ref h17, .int h0f30, .int h0f31, .ref h18, .ref h19, .ref h20, .ref h21]), (h4, aJ (k 1) 9 anJ), (h5, aJ (k 1) 9 anJ), (h7, aJ (k 1) 4 (zJ [1, 2, 3]))] _ := hT
                                    refine lv_if_eq (tgt := 90) hx hb dX11_factor_81 (by decide) (fun cc => absurd cc (by decide +kernel)) (fun _ => ?_)
                                    refine lv_iinc (v := 3) (lv' := [(3, .int 3), (4, .int 1), (0, .ref h0), (1, .int x1), (2, .int x2)]) hx hb dX11_factor_84 hl (k := 0) rfl (by decide) (by decide) rfl (fun ls hl => ?_)
                                    refine lv_goto (tgt := 45) hx hb dX11_factor_87 (by decide) ?_
                                    refine lv_aload_n hx hb dX11_factor_45 rfl (lv_at hl 2 rfl) ?_
                                    refine lv_iload hx hb dX11_factor_46 (lv_at hl 1 rfl) ?_
                                    refine lv_iload_n hx hb dX11_factor_48 rfl (lv_at hl 4 rfl) ?_
                                    refine lv_iconst (v := 1) hx hb dX11_factor_49 (by decide) ?_
                                    refine lv_icmp_ne (tgt := 57) hx hb dX11_factor_50 (by decide) (fun c_1052 => ?_) (fun c_1052 => ?_)
                                    · skip
                                      have c_1052 := ni_ne c_1052 rfl li_1
                                      exfalso; omega
                                    · skip
                                      have c_1052 := ni_eq c_1052 rfl li_1
                                      refine lv_iconst (v := (-1)) hx hb dX11_factor_53 (by decide) ?_
                                      refine lv_goto (tgt := 58) hx hb dX11_factor_54 (by decide) ?_
                                      refine lv_iload_n hx hb dX11_factor_58 rfl (lv_at hl 4 rfl) ?_
                                      refine lv_iconst (v := 3) hx hb dX11_factor_59 (by decide) ?_
                                      refine lv_icmp_ne (tgt := 67) hx hb dX11_factor_60 (by decide) (fun c_1053 => ?_) (fun c_1053 => ?_)
                                      · skip
                                        have c_1053 := ni_ne c_1053 rfl li_3
                                        refine lv_iload_n hx hb dX11_factor_67 rfl (lv_at hl 4 rfl) ?_
                                        refine lv_bipush (v := 6) hx hb dX11_factor_68 (by decide) ?_
                                        refine lv_icmp_ne (tgt := 77) hx hb dX11_factor_70 (by decide) (fun c_1054 => ?_) (fun c_1054 => ?_)
                                        · skip
                                          have c_1054 := ni_ne c_1054 rfl li_6
                                          refine lv_iconst (v := 0) hx hb dX11_factor_77 (by decide) ?_
                                          have q_q1056 := li_1
                                          have q_q1057 := li_m1
                                          have q_q1058 := li_0
                                          refine tcI (Tc := [(h0, ob 8 [.int h0f0, .int h0f1, .int h0f2, .int h0f3, .int h0f4, .int h0f5, .ref h1, .ref h2, .int h0f8, .int h0f9, .ref h3, .ref h4, .ref h5, .ref h6, .ref h7, .ref h8, .ref h9, .int h0f17, .int h0f18, .int h0f19, .ref h10, .ref h11, .ref h12, .ref h13, .int h0f24, .int h0f25, .ref h14, .ref h15, .ref h16, .ref h17, .int h0f30, .int h0f31, .ref h18, .ref h19, .ref h20, .ref h21]), (h7, aJ (k 1) 4 (zJ [1, 2, 3]))]) (Tr := [(h1, aI (k 0) 36 anI), (h4, aJ (k 1) 9 anJ), (h5, aJ (k 1) 9 anJ)]) (as := [h0, h7]) (zcV (q0 := 1) (ci := 8) (As := [.int 1, .int (-1), .int 0]) (rest := []) (Tc := [(h0, ob 8 [.int h0f0, .int h0f1, .int h0f2, .int h0f3, .int h0f4, .int h0f5, .ref h1, .ref h2, .int h0f8, .int h0f9, .ref h3, .ref h4, .ref h5, .ref h6, .ref h7, .ref h8, .ref h9, .int h0f17, .int h0f18, .int h0f19, .ref h10, .ref h11, .ref h12, .ref h13, .int h0f24, .int h0f25, .ref h14, .ref h15, .ref h16, .ref h17, .int h0f30, .int h0f31, .ref h18, .ref h19, .ref h20, .ref h21]), (h7, aJ (k 1) 4 (zJ [1, 2, 3]))]) hx hb hml hown hU hK hT rfl rfl [1, 4] rfl (by decide) (cX11_takesOut_3cbb8 l D k _ h0 h7 h1 h2 h3 h4 h5 h6 h8 h9 h10 h11 h12 h13 h14 h15 h16 h17 h18 h19 h20 h21 (1) ((-1)) (0) h0f0 h0f1 h0f2 h0f3 h0f4 h0f5 h0f8 h0f9 h0f17 h0f18 h0f19 h0f24 h0f25 h0f30 h0f31 (by have := li_1; omega) (by have := li_m1; omega) (by have := li_0; omega) (by omega) (by omega) (by omega) (by omega) (by omega) (by omega) (by omega) (by omega) (by omega) (by omega) (by omega) (by omega) (by omega) (by have := li_1; have := li_m1; have := li_0; omega) (by have := li_1; have := li_m1; have := li_0; omega)) w999 w996 w998 w41 w72 hdX11_takesOut ⟨rfl, rfl⟩ ⟨Nat.le_of_ble_eq_true rfl, Nat.le_of_ble_eq_true rfl⟩ rfl hl.1 (Nat.le_of_ble_eq_true rfl) dX11_factor_78 ⟨Nat.le_of_ble_eq_true rfl, Nat.le_of_ble_eq_true rfl⟩) hT hS hA [1, 4] [0, 2, 3] rfl rfl rfl (by decide) (by decide) (fun r1055 H locs hB J hS => ?_)
                                          obtain ⟨rfl, hT1⟩ := hB
                                          have hT := J _ hT1
                                          have hT : TP D A [(h1, aI (k 0) 36 anI), (h4, aJ (k 1) 9 anJ), (h5, aJ (k 1) 9 anJ), (h0, ob 8 [.int h0f0, .int h0f1, .int h0f2, .int h0f3, .int h0f4, .int h0f5, .ref h1, .ref h2, .int h0f8, .int h0f9, .ref h3, .ref h4, .ref h5, .ref h6, .ref h7, .ref h8, .ref h9, .int h0f17, .int h0f18, .int h0f19, .ref h10, .ref h11, .ref h12, .ref h13, .int h0f24, .int h0f25, .ref h14, .ref h15, .ref h16, .ref h17, .int h0f30, .int h0f31, .ref h18, .ref h19, .ref h20, .ref h21]), (h7, aJ (k 1) 4 anJ)] _ := hT
                                          refine lv_if_eq (tgt := 90) hx hb dX11_factor_81 (by decide) (fun _ => ?_) (fun cc => absurd (by decide +kernel) cc)
                                          refine lv_iload_n hx hb dX11_factor_90 rfl (lv_at hl 0 rfl) ?_
                                          exact tz_retI (B := B_cX11_factor_71296 D k h0 h1 h4 h5 h7 h2 h3 h6 h8 h9 h10 h11 h12 h13 h14 h15 h16 h17 h18 h19 h20 h21 x1 x2 h0f0 h0f1 h0f2 h0f3 h0f4 h0f5 h0f8 h0f9 h0f17 h0f18 h0f19 h0f24 h0f25 h0f30 h0f31) (v := 3) hQ hx hb hr hlocks hS (Nat.le_of_ble_eq_true rfl) (Nat.le_of_ble_eq_true rfl) dX11_factor_91 (⟨(by have := li_3; omega), (hT.sub [3, 0, 1, 2, 4] (by decide) rfl)⟩)
                                        · skip
                                          have c_1054 := ni_eq c_1054 rfl li_6
                                          exfalso; omega
                                      · skip
                                        have c_1053 := ni_eq c_1053 rfl li_3
                                        exfalso; omega
                                · skip
                                  have c_1037 := ni_eq c_1037 rfl li_6
                                  exfalso; omega
                              · skip
                                have c_1036 := ni_eq c_1036 rfl li_3
                                exfalso; omega
                          · skip
                            have hT := J _ hT1
                            have hT : TP D A [(h1, aI (k 0) 36 anI), (h0, ob 8 [.int h0f0, .int h0f1, .int h0f2, .int h0f3, .int h0f4, .int h0f5, .ref h1, .ref h2, .int h0f8, .int h0f9, .ref h3, .ref h4, .ref h5, .ref h6, .ref h7, .ref h8, .ref h9, .int h0f17, .int h0f18, .int h0f19, .ref h10, .ref h11, .ref h12, .ref h13, .int h0f24, .int h0f25, .ref h14, .ref h15, .ref h16, .ref h17, .int h0f30, .int h0f31, .ref h18, .ref h19, .ref h20, .ref h21]), (h4, aJ (k 1) 9 anJ), (h5, aJ (k 1) 9 anJ), (h7, aJ (k 1) 4 (zJ [2, 3]))] _ := hT
                            exfalso; omega
                        · skip
                          have c_972 := ni_eq c_972 rfl li_6
                          exfalso; omega
                      · skip
                        have c_971 := ni_eq c_971 rfl li_3
                        exfalso; omega
                  · skip
                    have hT := J _ hT1
                    have hT : TP D A [(h1, aI (k 0) 36 anI), (h0, ob 8 [.int h0f0, .int h0f1, .int h0f2, .int h0f3, .int h0f4, .int h0f5, .ref h1, .ref h2, .int h0f8, .int h0f9, .ref h3, .ref h4, .ref h5, .ref h6, .ref h7, .ref h8, .ref h9, .int h0f17, .int h0f18, .int h0f19, .ref h10, .ref h11, .ref h12, .ref h13, .int h0f24, .int h0f25, .ref h14, .ref h15, .ref h16, .ref h17, .int h0f30, .int h0f31, .ref h18, .ref h19, .ref h20, .ref h21]), (h4, aJ (k 1) 9 anJ), (h5, aJ (k 1) 9 anJ), (h7, aJ (k 1) 4 (zJ [3]))] _ := hT
                    refine lv_if_eq (tgt := 90) hx hb dX11_factor_81 (by decide) (fun cc => absurd cc (by decide +kernel)) (fun _ => ?_)
                    refine lv_iinc (v := 1) (lv' := [(3, .int 1), (4, .int 1), (0, .ref h0), (1, .int x1), (2, .int x2)]) hx hb dX11_factor_84 hl (k := 1) rfl (by decide) (by decide) rfl (fun ls hl => ?_)
                    refine lv_goto (tgt := 45) hx hb dX11_factor_87 (by decide) ?_
                    refine lv_aload_n hx hb dX11_factor_45 rfl (lv_at hl 2 rfl) ?_
                    refine lv_iload hx hb dX11_factor_46 (lv_at hl 1 rfl) ?_
                    refine lv_iload_n hx hb dX11_factor_48 rfl (lv_at hl 4 rfl) ?_
                    refine lv_iconst (v := 1) hx hb dX11_factor_49 (by decide) ?_
                    refine lv_icmp_ne (tgt := 57) hx hb dX11_factor_50 (by decide) (fun c_1059 => ?_) (fun c_1059 => ?_)
                    · skip
                      have c_1059 := ni_ne c_1059 rfl li_1
                      exfalso; omega
                    · skip
                      have c_1059 := ni_eq c_1059 rfl li_1
                      refine lv_iconst (v := (-1)) hx hb dX11_factor_53 (by decide) ?_
                      refine lv_goto (tgt := 58) hx hb dX11_factor_54 (by decide) ?_
                      refine lv_iload_n hx hb dX11_factor_58 rfl (lv_at hl 4 rfl) ?_
                      refine lv_iconst (v := 3) hx hb dX11_factor_59 (by decide) ?_
                      refine lv_icmp_ne (tgt := 67) hx hb dX11_factor_60 (by decide) (fun c_1060 => ?_) (fun c_1060 => ?_)
                      · skip
                        have c_1060 := ni_ne c_1060 rfl li_3
                        refine lv_iload_n hx hb dX11_factor_67 rfl (lv_at hl 4 rfl) ?_
                        refine lv_bipush (v := 6) hx hb dX11_factor_68 (by decide) ?_
                        refine lv_icmp_ne (tgt := 77) hx hb dX11_factor_70 (by decide) (fun c_1061 => ?_) (fun c_1061 => ?_)
                        · skip
                          have c_1061 := ni_ne c_1061 rfl li_6
                          refine lv_iconst (v := 0) hx hb dX11_factor_77 (by decide) ?_
                          have q_q1063 := li_1
                          have q_q1064 := li_m1
                          have q_q1065 := li_0
                          refine tcI (Tc := [(h0, ob 8 [.int h0f0, .int h0f1, .int h0f2, .int h0f3, .int h0f4, .int h0f5, .ref h1, .ref h2, .int h0f8, .int h0f9, .ref h3, .ref h4, .ref h5, .ref h6, .ref h7, .ref h8, .ref h9, .int h0f17, .int h0f18, .int h0f19, .ref h10, .ref h11, .ref h12, .ref h13, .int h0f24, .int h0f25, .ref h14, .ref h15, .ref h16, .ref h17, .int h0f30, .int h0f31, .ref h18, .ref h19, .ref h20, .ref h21]), (h4, aJ (k 1) 9 anJ), (h5, aJ (k 1) 9 anJ), (h7, aJ (k 1) 4 (zJ [3]))]) (Tr := [(h1, aI (k 0) 36 anI)]) (as := [h0, h4, h5, h7]) (zcV (q0 := 1) (ci := 8) (As := [.int 1, .int (-1), .int 0]) (rest := []) (Tc := [(h0, ob 8 [.int h0f0, .int h0f1, .int h0f2, .int h0f3, .int h0f4, .int h0f5, .ref h1, .ref h2, .int h0f8, .int h0f9, .ref h3, .ref h4, .ref h5, .ref h6, .ref h7, .ref h8, .ref h9, .int h0f17, .int h0f18, .int h0f19, .ref h10, .ref h11, .ref h12, .ref h13, .int h0f24, .int h0f25, .ref h14, .ref h15, .ref h16, .ref h17, .int h0f30, .int h0f31, .ref h18, .ref h19, .ref h20, .ref h21]), (h4, aJ (k 1) 9 anJ), (h5, aJ (k 1) 9 anJ), (h7, aJ (k 1) 4 (zJ [3]))]) hx hb hml hown hU hK hT rfl rfl [1, 2, 3, 4] rfl (by decide) (cX11_takesOut_a13ae l D k _ h0 h4 h5 h7 h1 h2 h3 h6 h8 h9 h10 h11 h12 h13 h14 h15 h16 h17 h18 h19 h20 h21 (1) ((-1)) (0) h0f0 h0f1 h0f2 h0f3 h0f4 h0f5 h0f8 h0f9 h0f17 h0f18 h0f19 h0f24 h0f25 h0f30 h0f31 (by have := li_1; omega) (by have := li_m1; omega) (by have := li_0; omega) (by omega) (by omega) (by omega) (by omega) (by omega) (by omega) (by omega) (by omega) (by omega) (by omega) (by omega) (by omega) (by omega) (by have := li_1; have := li_m1; have := li_0; omega) (by have := li_1; have := li_m1; have := li_0; omega)) w999 w996 w998 w41 w72 hdX11_takesOut ⟨rfl, rfl⟩ ⟨Nat.le_of_ble_eq_true rfl, Nat.le_of_ble_eq_true rfl⟩ rfl hl.1 (Nat.le_of_ble_eq_true rfl) dX11_factor_78 ⟨Nat.le_of_ble_eq_true rfl, Nat.le_of_ble_eq_true rfl⟩) hT hS hA [1, 2, 3, 4] [0] rfl rfl rfl (by decide) (by decide) (fun r1062 H locs hB J hS => ?_)
                          rcases hB with ⟨rfl, hT1⟩ | ⟨v1066, v1067, b_v1067, c_1068, c_1069, c_1070, c_1071, c_1072, c_1073, c_1074, c_1075, c_1076, rfl, hT1⟩ | ⟨v1077, v1078, v1079, b_v1077, b_v1079, c_1080, c_1081, c_1082, c_1083, c_1084, c_1085, c_1086, c_1087, c_1088, rfl, hT1⟩ | ⟨v1089, v1090, v1091, b_v1090, b_v1091, c_1092, c_1093, c_1094, c_1095, c_1096, c_1097, c_1098, c_1099, rfl, hT1⟩
                          · skip
                            have hT := J _ hT1
                            have hT : TP D A [(h1, aI (k 0) 36 anI), (h0, ob 8 [.int h0f0, .int h0f1, .int h0f2, .int h0f3, .int h0f4, .int h0f5, .ref h1, .ref h2, .int h0f8, .int h0f9, .ref h3, .ref h4, .ref h5, .ref h6, .ref h7, .ref h8, .ref h9, .int h0f17, .int h0f18, .int h0f19, .ref h10, .ref h11, .ref h12, .ref h13, .int h0f24, .int h0f25, .ref h14, .ref h15, .ref h16, .ref h17, .int h0f30, .int h0f31, .ref h18, .ref h19, .ref h20, .ref h21]), (h4, aJ (k 1) 9 anJ), (h5, aJ (k 1) 9 anJ), (h7, aJ (k 1) 4 anJ)] _ := hT
                            refine lv_if_eq (tgt := 90) hx hb dX11_factor_81 (by decide) (fun _ => ?_) (fun cc => absurd (by decide +kernel) cc)
                            refine lv_iload_n hx hb dX11_factor_90 rfl (lv_at hl 0 rfl) ?_
                            exact tz_retI (B := B_cX11_factor_71296 D k h0 h1 h4 h5 h7 h2 h3 h6 h8 h9 h10 h11 h12 h13 h14 h15 h16 h17 h18 h19 h20 h21 x1 x2 h0f0 h0f1 h0f2 h0f3 h0f4 h0f5 h0f8 h0f9 h0f17 h0f18 h0f19 h0f24 h0f25 h0f30 h0f31) (v := 1) hQ hx hb hr hlocks hS (Nat.le_of_ble_eq_true rfl) (Nat.le_of_ble_eq_true rfl) dX11_factor_91 (⟨(by have := li_1; omega), (hT.sub [1, 0, 2, 3, 4] (by decide) rfl)⟩)
                          · skip
                            have hT := J _ hT1
                            have hT : TP D A [(h1, aI (k 0) 36 anI), (h0, ob 8 [.int h0f0, .int h0f1, .int h0f2, .int h0f3, .int h0f4, .int h0f5, .ref h1, .ref h2, .int h0f8, .int h0f9, .ref h3, .ref h4, .ref h5, .ref h6, .ref h7, .ref h8, .ref h9, .int h0f17, .int h0f18, .int h0f19, .ref h10, .ref h11, .ref h12, .ref h13, .int h0f24, .int h0f25, .ref h14, .ref h15, .ref h16, .ref h17, .int h0f30, .int h0f31, .ref h18, .ref h19, .ref h20, .ref h21]), (h4, aJ (k 1) 9 anJ), (h5, aJ (k 1) 9 anJ), (h7, aJ (k 1) 4 (zJ [2, 3]))] _ := hT
                            refine lv_if_eq (tgt := 90) hx hb dX11_factor_81 (by decide) (fun cc => absurd cc (by decide +kernel)) (fun _ => ?_)
                            refine lv_iinc (v := 2) (lv' := [(3, .int 2), (4, .int 1), (0, .ref h0), (1, .int x1), (2, .int x2)]) hx hb dX11_factor_84 hl (k := 0) rfl (by decide) (by decide) rfl (fun ls hl => ?_)
                            refine lv_goto (tgt := 45) hx hb dX11_factor_87 (by decide) ?_
                            refine lv_aload_n hx hb dX11_factor_45 rfl (lv_at hl 2 rfl) ?_
                            refine lv_iload hx hb dX11_factor_46 (lv_at hl 1 rfl) ?_
                            refine lv_iload_n hx hb dX11_factor_48 rfl (lv_at hl 4 rfl) ?_
                            refine lv_iconst (v := 1) hx hb dX11_factor_49 (by decide) ?_
                            refine lv_icmp_ne (tgt := 57) hx hb dX11_factor_50 (by decide) (fun c_1100 => ?_) (fun c_1100 => ?_)
                            · skip
                              have c_1100 := ni_ne c_1100 rfl li_1
                              exfalso; omega
                            · skip
                              have c_1100 := ni_eq c_1100 rfl li_1
                              refine lv_iconst (v := (-1)) hx hb dX11_factor_53 (by decide) ?_
                              refine lv_goto (tgt := 58) hx hb dX11_factor_54 (by decide) ?_
                              refine lv_iload_n hx hb dX11_factor_58 rfl (lv_at hl 4 rfl) ?_
                              refine lv_iconst (v := 3) hx hb dX11_factor_59 (by decide) ?_
                              refine lv_icmp_ne (tgt := 67) hx hb dX11_factor_60 (by decide) (fun c_1101 => ?_) (fun c_1101 => ?_)
                              · skip
                                have c_1101 := ni_ne c_1101 rfl li_3
                                refine lv_iload_n hx hb dX11_factor_67 rfl (lv_at hl 4 rfl) ?_
                                refine lv_bipush (v := 6) hx hb dX11_factor_68 (by decide) ?_
                                refine lv_icmp_ne (tgt := 77) hx hb dX11_factor_70 (by decide) (fun c_1102 => ?_) (fun c_1102 => ?_)
                                · skip
                                  have c_1102 := ni_ne c_1102 rfl li_6
                                  refine lv_iconst (v := 0) hx hb dX11_factor_77 (by decide) ?_
                                  have q_q1104 := li_1
                                  have q_q1105 := li_m1
                                  have q_q1106 := li_0
                                  refine tcI (Tc := [(h0, ob 8 [.int h0f0, .int h0f1, .int h0f2, .int h0f3, .int h0f4, .int h0f5, .ref h1, .ref h2, .int h0f8, .int h0f9, .ref h3, .ref h4, .ref h5, .ref h6, .ref h7, .ref h8, .ref h9, .int h0f17, .int h0f18, .int h0f19, .ref h10, .ref h11, .ref h12, .ref h13, .int h0f24, .int h0f25, .ref h14, .ref h15, .ref h16, .ref h17, .int h0f30, .int h0f31, .ref h18, .ref h19, .ref h20, .ref h21]), (h4, aJ (k 1) 9 anJ), (h5, aJ (k 1) 9 anJ), (h7, aJ (k 1) 4 (zJ [2, 3]))]) (Tr := [(h1, aI (k 0) 36 anI)]) (as := [h0, h4, h5, h7]) (zcV (q0 := 1) (ci := 8) (As := [.int 1, .int (-1), .int 0]) (rest := []) (Tc := [(h0, ob 8 [.int h0f0, .int h0f1, .int h0f2, .int h0f3, .int h0f4, .int h0f5, .ref h1, .ref h2, .int h0f8, .int h0f9, .ref h3, .ref h4, .ref h5, .ref h6, .ref h7, .ref h8, .ref h9, .int h0f17, .int h0f18, .int h0f19, .ref h10, .ref h11, .ref h12, .ref h13, .int h0f24, .int h0f25, .ref h14, .ref h15, .ref h16, .ref h17, .int h0f30, .int h0f31, .ref h18, .ref h19, .ref h20, .ref h21]), (h4, aJ (k 1) 9 anJ), (h5, aJ (k 1) 9 anJ), (h7, aJ (k 1) 4 (zJ [2, 3]))]) hx hb hml hown hU hK hT rfl rfl [1, 2, 3, 4] rfl (by decide) (cX11_takesOut_2378e l D k _ h0 h4 h5 h7 h1 h2 h3 h6 h8 h9 h10 h11 h12 h13 h14 h15 h16 h17 h18 h19 h20 h21 (1) ((-1)) (0) h0f0 h0f1 h0f2 h0f3 h0f4 h0f5 h0f8 h0f9 h0f17 h0f18 h0f19 h0f24 h0f25 h0f30 h0f31 (by have := li_1; omega) (by have := li_m1; omega) (by have := li_0; omega) (by omega) (by omega) (by omega) (by omega) (by omega) (by omega) (by omega) (by omega) (by omega) (by omega) (by omega) (by omega) (by omega) (by have := li_1; have := li_m1; have := li_0; omega) (by have := li_1; have := li_m1; have := li_0; omega)) w999 w996 w998 w41 w72 hdX11_takesOut ⟨rfl, rfl⟩ ⟨Nat.le_of_ble_eq_true rfl, Nat.le_of_ble_eq_true rfl⟩ rfl hl.1 (Nat.le_of_ble_eq_true rfl) dX11_factor_78 ⟨Nat.le_of_ble_eq_true rfl, Nat.le_of_ble_eq_true rfl⟩) hT hS hA [1, 2, 3, 4] [0] rfl rfl rfl (by decide) (by decide) (fun r1103 H locs hB J hS => ?_)
                                  rcases hB with ⟨rfl, hT1⟩ | ⟨v1107, v1108, b_v1108, c_1109, c_1110, c_1111, c_1112, c_1113, c_1114, c_1115, c_1116, rfl, hT1⟩
                                  · skip
                                    have hT := J _ hT1
                                    have hT : TP D A [(h1, aI (k 0) 36 anI), (h0, ob 8 [.int h0f0, .int h0f1, .int h0f2, .int h0f3, .int h0f4, .int h0f5, .ref h1, .ref h2, .int h0f8, .int h0f9, .ref h3, .ref h4, .ref h5, .ref h6, .ref h7, .ref h8, .ref h9, .int h0f17, .int h0f18, .int h0f19, .ref h10, .ref h11, .ref h12, .ref h13, .int h0f24, .int h0f25, .ref h14, .ref h15, .ref h16, .ref h17, .int h0f30, .int h0f31, .ref h18, .ref h19, .ref h20, .ref h21]), (h4, aJ (k 1) 9 anJ), (h5, aJ (k 1) 9 anJ), (h7, aJ (k 1) 4 anJ)] _ := hT
                                    refine lv_if_eq (tgt := 90) hx hb dX11_factor_81 (by decide) (fun _ => ?_) (fun cc => absurd (by decide +kernel) cc)
                                    refine lv_iload_n hx hb dX11_factor_90 rfl (lv_at hl 0 rfl) ?_
                                    exact tz_retI (B := B_cX11_factor_71296 D k h0 h1 h4 h5 h7 h2 h3 h6 h8 h9 h10 h11 h12 h13 h14 h15 h16 h17 h18 h19 h20 h21 x1 x2 h0f0 h0f1 h0f2 h0f3 h0f4 h0f5 h0f8 h0f9 h0f17 h0f18 h0f19 h0f24 h0f25 h0f30 h0f31) (v := 2) hQ hx hb hr hlocks hS (Nat.le_of_ble_eq_true rfl) (Nat.le_of_ble_eq_true rfl) dX11_factor_91 (⟨(by have := li_2; omega), (hT.sub [1, 0, 2, 3, 4] (by decide) rfl)⟩)
                                  · skip
                                    have hT := J _ hT1
                                    have hT : TP D A [(h1, aI (k 0) 36 anI), (h0, ob 8 [.int h0f0, .int h0f1, .int h0f2, .int h0f3, .int h0f4, .int h0f5, .ref h1, .ref h2, .int h0f8, .int h0f9, .ref h3, .ref h4, .ref h5, .ref h6, .ref h7, .ref h8, .ref h9, .int h0f17, .int h0f18, .int h0f19, .ref h10, .ref h11, .ref h12, .ref h13, .int h0f24, .int h0f25, .ref h14, .ref h15, .ref h16, .ref h17, .int h0f30, .int h0f31, .ref h18, .ref h19, .ref h20, .ref h21]), (h4, aJ (k 1) 9 anJ), (h5, aJ (k 1) 9 anJ), (h7, aJ (k 1) 4 (zJ [1, 2, 3]))] _ := hT
                                    refine lv_if_eq (tgt := 90) hx hb dX11_factor_81 (by decide) (fun cc => absurd cc (by decide +kernel)) (fun _ => ?_)
                                    refine lv_iinc (v := 3) (lv' := [(3, .int 3), (4, .int 1), (0, .ref h0), (1, .int x1), (2, .int x2)]) hx hb dX11_factor_84 hl (k := 0) rfl (by decide) (by decide) rfl (fun ls hl => ?_)
                                    refine lv_goto (tgt := 45) hx hb dX11_factor_87 (by decide) ?_
                                    refine lv_aload_n hx hb dX11_factor_45 rfl (lv_at hl 2 rfl) ?_
                                    refine lv_iload hx hb dX11_factor_46 (lv_at hl 1 rfl) ?_
                                    refine lv_iload_n hx hb dX11_factor_48 rfl (lv_at hl 4 rfl) ?_
                                    refine lv_iconst (v := 1) hx hb dX11_factor_49 (by decide) ?_
                                    refine lv_icmp_ne (tgt := 57) hx hb dX11_factor_50 (by decide) (fun c_1117 => ?_) (fun c_1117 => ?_)
                                    · skip
                                      have c_1117 := ni_ne c_1117 rfl li_1
                                      exfalso; omega
                                    · skip
                                      have c_1117 := ni_eq c_1117 rfl li_1
                                      refine lv_iconst (v := (-1)) hx hb dX11_factor_53 (by decide) ?_
                                      refine lv_goto (tgt := 58) hx hb dX11_factor_54 (by decide) ?_
                                      refine lv_iload_n hx hb dX11_factor_58 rfl (lv_at hl 4 rfl) ?_
                                      refine lv_iconst (v := 3) hx hb dX11_factor_59 (by decide) ?_
                                      refine lv_icmp_ne (tgt := 67) hx hb dX11_factor_60 (by decide) (fun c_1118 => ?_) (fun c_1118 => ?_)
                                      · skip
                                        have c_1118 := ni_ne c_1118 rfl li_3
                                        refine lv_iload_n hx hb dX11_factor_67 rfl (lv_at hl 4 rfl) ?_
                                        refine lv_bipush (v := 6) hx hb dX11_factor_68 (by decide) ?_
                                        refine lv_icmp_ne (tgt := 77) hx hb dX11_factor_70 (by decide) (fun c_1119 => ?_) (fun c_1119 => ?_)
                                        · skip
                                          have c_1119 := ni_ne c_1119 rfl li_6
                                          refine lv_iconst (v := 0) hx hb dX11_factor_77 (by decide) ?_
                                          have q_q1121 := li_1
                                          have q_q1122 := li_m1
                                          have q_q1123 := li_0
                                          refine tcI (Tc := [(h0, ob 8 [.int h0f0, .int h0f1, .int h0f2, .int h0f3, .int h0f4, .int h0f5, .ref h1, .ref h2, .int h0f8, .int h0f9, .ref h3, .ref h4, .ref h5, .ref h6, .ref h7, .ref h8, .ref h9, .int h0f17, .int h0f18, .int h0f19, .ref h10, .ref h11, .ref h12, .ref h13, .int h0f24, .int h0f25, .ref h14, .ref h15, .ref h16, .ref h17, .int h0f30, .int h0f31, .ref h18, .ref h19, .ref h20, .ref h21]), (h7, aJ (k 1) 4 (zJ [1, 2, 3]))]) (Tr := [(h1, aI (k 0) 36 anI), (h4, aJ (k 1) 9 anJ), (h5, aJ (k 1) 9 anJ)]) (as := [h0, h7]) (zcV (q0 := 1) (ci := 8) (As := [.int 1, .int (-1), .int 0]) (rest := []) (Tc := [(h0, ob 8 [.int h0f0, .int h0f1, .int h0f2, .int h0f3, .int h0f4, .int h0f5, .ref h1, .ref h2, .int h0f8, .int h0f9, .ref h3, .ref h4, .ref h5, .ref h6, .ref h7, .ref h8, .ref h9, .int h0f17, .int h0f18, .int h0f19, .ref h10, .ref h11, .ref h12, .ref h13, .int h0f24, .int h0f25, .ref h14, .ref h15, .ref h16, .ref h17, .int h0f30, .int h0f31, .ref h18, .ref h19, .ref h20, .ref h21]), (h7, aJ (k 1) 4 (zJ [1, 2, 3]))]) hx hb hml hown hU hK hT rfl rfl [1, 4] rfl (by decide) (cX11_takesOut_3cbb8 l D k _ h0 h7 h1 h2 h3 h4 h5 h6 h8 h9 h10 h11 h12 h13 h14 h15 h16 h17 h18 h19 h20 h21 (1) ((-1)) (0) h0f0 h0f1 h0f2 h0f3 h0f4 h0f5 h0f8 h0f9 h0f17 h0f18 h0f19 h0f24 h0f25 h0f30 h0f31 (by have := li_1; omega) (by have := li_m1; omega) (by have := li_0; omega) (by omega) (by omega) (by omega) (by omega) (by omega) (by omega) (by omega) (by omega) (by omega) (by omega) (by omega) (by omega) (by omega) (by have := li_1; have := li_m1; have := li_0; omega) (by have := li_1; have := li_m1; have := li_0; omega)) w999 w996 w998 w41 w72 hdX11_takesOut ⟨rfl, rfl⟩ ⟨Nat.le_of_ble_eq_true rfl, Nat.le_of_ble_eq_true rfl⟩ rfl hl.1 (Nat.le_of_ble_eq_true rfl) dX11_factor_78 ⟨Nat.le_of_ble_eq_true rfl, Nat.le_of_ble_eq_true rfl⟩) hT hS hA [1, 4] [0, 2, 3] rfl rfl rfl (by decide) (by decide) (fun r1120 H locs hB J hS => ?_)
                                          obtain ⟨rfl, hT1⟩ := hB
                                          have hT := J _ hT1
                                          have hT : TP D A [(h1, aI (k 0) 36 anI), (h4, aJ (k 1) 9 anJ), (h5, aJ (k 1) 9 anJ), (h0, ob 8 [.int h0f0, .int h0f1, .int h0f2, .int h0f3, .int h0f4, .int h0f5, .ref h1, .ref h2, .int h0f8, .int h0f9, .ref h3, .ref h4, .ref h5, .ref h6, .ref h7, .ref h8, .ref h9, .int h0f17, .int h0f18, .int h0f19, .ref h10, .ref h11, .ref h12, .ref h13, .int h0f24, .int h0f25, .ref h14, .ref h15, .ref h16, .ref h17, .int h0f30, .int h0f31, .ref h18, .ref h19, .ref h20, .ref h21]), (h7, aJ (k 1) 4 anJ)] _ := hT
                                          refine lv_if_eq (tgt := 90) hx hb dX11_factor_81 (by decide) (fun _ => ?_) (fun cc => absurd (by decide +kernel) cc)
                                          refine lv_iload_n hx hb dX11_factor_90 rfl (lv_at hl 0 rfl) ?_
                                          exact tz_retI (B := B_cX11_factor_71296 D k h0 h1 h4 h5 h7 h2 h3 h6 h8 h9 h10 h11 h12 h13 h14 h15 h16 h17 h18 h19 h20 h21 x1 x2 h0f0 h0f1 h0f2 h0f3 h0f4 h0f5 h0f8 h0f9 h0f17 h0f18 h0f19 h0f24 h0f25 h0f30 h0f31) (v := 3) hQ hx hb hr hlocks hS (Nat.le_of_ble_eq_true rfl) (Nat.le_of_ble_eq_true rfl) dX11_factor_91 (⟨(by have := li_3; omega), (hT.sub [3, 0, 1, 2, 4] (by decide) rfl)⟩)
                                        · skip
                                          have c_1119 := ni_eq c_1119 rfl li_6
                                          exfalso; omega
                                      · skip
                                        have c_1118 := ni_eq c_1118 rfl li_3
                                        exfalso; omega
                                · skip
                                  have c_1102 := ni_eq c_1102 rfl li_6
                                  exfalso; omega
                              · skip
                                have c_1101 := ni_eq c_1101 rfl li_3
                                exfalso; omega
                          · skip
                            have hT := J _ hT1
                            have hT : TP D A [(h1, aI (k 0) 36 anI), (h0, ob 8 [.int h0f0, .int h0f1, .int h0f2, .int h0f3, .int h0f4, .int h0f5, .ref h1, .ref h2, .int h0f8, .int h0f9, .ref h3, .ref h4, .ref h5, .ref h6, .ref h7, .ref h8, .ref h9, .int h0f17, .int h0f18, .int h0f19, .ref h10, .ref h11, .ref h12, .ref h13, .int h0f24, .int h0f25, .ref h14, .ref h15, .ref h16, .ref h17, .int h0f30, .int h0f31, .ref h18, .ref h19, .ref h20, .ref h21]), (h4, aJ (k 1) 9 anJ), (h5, aJ (k 1) 9 anJ), (h7, aJ (k 1) 4 (zJ [2, 3]))] _ := hT
                            refine lv_if_eq (tgt := 90) hx hb dX11_factor_81 (by decide) (fun cc => absurd cc (by decide +kernel)) (fun _ => ?_)
                            refine lv_iinc (v := 2) (lv' := [(3, .int 2), (4, .int 1), (0, .ref h0), (1, .int x1), (2, .int x2)]) hx hb dX11_factor_84 hl (k := 0) rfl (by decide) (by decide) rfl (fun ls hl => ?_)
                            refine lv_goto (tgt := 45) hx hb dX11_factor_87 (by decide) ?_
                            refine lv_aload_n hx hb dX11_factor_45 rfl (lv_at hl 2 rfl) ?_
                            refine lv_iload hx hb dX11_factor_46 (lv_at hl 1 rfl) ?_
                            refine lv_iload_n hx hb dX11_factor_48 rfl (lv_at hl 4 rfl) ?_
                            refine lv_iconst (v := 1) hx hb dX11_factor_49 (by decide) ?_
                            refine lv_icmp_ne (tgt := 57) hx hb dX11_factor_50 (by decide) (fun c_1124 => ?_) (fun c_1124 => ?_)
                            · skip
                              have c_1124 := ni_ne c_1124 rfl li_1
                              exfalso; omega
                            · skip
                              have c_1124 := ni_eq c_1124 rfl li_1
                              refine lv_iconst (v := (-1)) hx hb dX11_factor_53 (by decide) ?_
                              refine lv_goto (tgt := 58) hx hb dX11_factor_54 (by decide) ?_
                              refine lv_iload_n hx hb dX11_factor_58 rfl (lv_at hl 4 rfl) ?_
                              refine lv_iconst (v := 3) hx hb dX11_factor_59 (by decide) ?_
                              refine lv_icmp_ne (tgt := 67) hx hb dX11_factor_60 (by decide) (fun c_1125 => ?_) (fun c_1125 => ?_)
                              · skip
                                have c_1125 := ni_ne c_1125 rfl li_3
                                refine lv_iload_n hx hb dX11_factor_67 rfl (lv_at hl 4 rfl) ?_
                                refine lv_bipush (v := 6) hx hb dX11_factor_68 (by decide) ?_
                                refine lv_icmp_ne (tgt := 77) hx hb dX11_factor_70 (by decide) (fun c_1126 => ?_) (fun c_1126 => ?_)
                                · skip
                                  have c_1126 := ni_ne c_1126 rfl li_6
                                  refine lv_iconst (v := 0) hx hb dX11_factor_77 (by decide) ?_
                                  have q_q1128 := li_1
                                  have q_q1129 := li_m1
                                  have q_q1130 := li_0
                                  refine tcI (Tc := [(h0, ob 8 [.int h0f0, .int h0f1, .int h0f2, .int h0f3, .int h0f4, .int h0f5, .ref h1, .ref h2, .int h0f8, .int h0f9, .ref h3, .ref h4, .ref h5, .ref h6, .ref h7, .ref h8, .ref h9, .int h0f17, .int h0f18, .int h0f19, .ref h10, .ref h11, .ref h12, .ref h13, .int h0f24, .int h0f25, .ref h14, .ref h15, .ref h16, .ref h17, .int h0f30, .int h0f31, .ref h18, .ref h19, .ref h20, .ref h21]), (h4, aJ (k 1) 9 anJ), (h5, aJ (k 1) 9 anJ), (h7, aJ (k 1) 4 (zJ [2, 3]))]) (Tr := [(h1, aI (k 0) 36 anI)]) (as := [h0, h4, h5, h7]) (zcV (q0 := 1) (ci := 8) (As := [.int 1, .int (-1), .int 0]) (rest := []) (Tc := [(h0, ob 8 [.int h0f0, .int h0f1, .int h0f2, .int h0f3, .int h0f4, .int h0f5, .ref h1, .ref h2, .int h0f8, .int h0f9, .ref h3, .ref h4, .ref h5, .ref h6, .ref h7, .ref h8, .ref h9, .int h0f17, .int h0f18, .int h0f19, .ref h10, .ref h11, .ref h12, .ref h13, .int h0f24, .int h0f25, .ref h14, .ref h15, .ref h16, .ref h17, .int h0f30, .int h0f31, .ref h18, .ref h19, .ref h20, .ref h21]), (h4, aJ (k 1) 9 anJ), (h5, aJ (k 1) 9 anJ), (h7, aJ (k 1) 4 (zJ [2, 3]))]) hx hb hml hown hU hK hT rfl rfl [1, 2, 3, 4] rfl (by decide) (cX11_takesOut_2378e l D k _ h0 h4 h5 h7 h1 h2 h3 h6 h8 h9 h10 h11 h12 h13 h14 h15 h16 h17 h18 h19 h20 h21 (1) ((-1)) (0) h0f0 h0f1 h0f2 h0f3 h0f4 h0f5 h0f8 h0f9 h0f17 h0f18 h0f19 h0f24 h0f25 h0f30 h0f31 (by have := li_1; omega) (by have := li_m1; omega) (by have := li_0; omega) (by omega) (by omega) (by omega) (by omega) (by omega) (by omega) (by omega) (by omega) (by omega) (by omega) (by omega) (by omega) (by omega) (by have := li_1; have := li_m1; have := li_0; omega) (by have := li_1; have := li_m1; have := li_0; omega)) w999 w996 w998 w41 w72 hdX11_takesOut ⟨rfl, rfl⟩ ⟨Nat.le_of_ble_eq_true rfl, Nat.le_of_ble_eq_true rfl⟩ rfl hl.1 (Nat.le_of_ble_eq_true rfl) dX11_factor_78 ⟨Nat.le_of_ble_eq_true rfl, Nat.le_of_ble_eq_true rfl⟩) hT hS hA [1, 2, 3, 4] [0] rfl rfl rfl (by decide) (by decide) (fun r1127 H locs hB J hS => ?_)
                                  rcases hB with ⟨rfl, hT1⟩ | ⟨v1131, v1132, b_v1132, c_1133, c_1134, c_1135, c_1136, c_1137, c_1138, c_1139, c_1140, rfl, hT1⟩
                                  · skip
                                    have hT := J _ hT1
                                    have hT : TP D A [(h1, aI (k 0) 36 anI), (h0, ob 8 [.int h0f0, .int h0f1, .int h0f2, .int h0f3, .int h0f4, .int h0f5, .ref h1, .ref h2, .int h0f8, .int h0f9, .ref h3, .ref h4, .ref h5, .ref h6, .ref h7, .ref h8, .ref h9, .int h0f17, .int h0f18, .int h0f19, .ref h10, .ref h11, .ref h12, .ref h13, .int h0f24, .int h0f25, .ref h14, .ref h15, .ref h16, .ref h17, .int h0f30, .int h0f31, .ref h18, .ref h19, .ref h20, .ref h21]), (h4, aJ (k 1) 9 anJ), (h5, aJ (k 1) 9 anJ), (h7, aJ (k 1) 4 anJ)] _ := hT
                                    refine lv_if_eq (tgt := 90) hx hb dX11_factor_81 (by decide) (fun _ => ?_) (fun cc => absurd (by decide +kernel) cc)
                                    refine lv_iload_n hx hb dX11_factor_90 rfl (lv_at hl 0 rfl) ?_
                                    exact tz_retI (B := B_cX11_factor_71296 D k h0 h1 h4 h5 h7 h2 h3 h6 h8 h9 h10 h11 h12 h13 h14 h15 h16 h17 h18 h19 h20 h21 x1 x2 h0f0 h0f1 h0f2 h0f3 h0f4 h0f5 h0f8 h0f9 h0f17 h0f18 h0f19 h0f24 h0f25 h0f30 h0f31) (v := 2) hQ hx hb hr hlocks hS (Nat.le_of_ble_eq_true rfl) (Nat.le_of_ble_eq_true rfl) dX11_factor_91 (⟨(by have := li_2; omega), (hT.sub [1, 0, 2, 3, 4] (by decide) rfl)⟩)
                                  · skip
                                    have hT := J _ hT1
                                    have hT : TP D A [(h1, aI (k 0) 36 anI), (h0, ob 8 [.int h0f0, .int h0f1, .int h0f2, .int h0f3, .int h0f4, .int h0f5, .ref h1, .ref h2, .int h0f8, .int h0f9, .ref h3, .ref h4, .ref h5, .ref h6, .ref h7, .ref h8, .ref h9, .int h0f17, .int h0f18, .int h0f19, .ref h10, .ref h11, .ref h12, .ref h13, .int h0f24, .int h0f25, .ref h14, .ref h15, .ref h16, .ref h17, .int h0f30, .int h0f31, .ref h18, .ref h19, .ref h20, .ref h21]), (h4, aJ (k 1) 9 anJ), (h5, aJ (k 1) 9 anJ), (h7, aJ (k 1) 4 (zJ [1, 2, 3]))] _ := hT
                                    refine lv_if_eq (tgt := 90) hx hb dX11_factor_81 (by decide) (fun cc => absurd cc (by decide +kernel)) (fun _ => ?_)
                                    refine lv_iinc (v := 3) (lv' := [(3, .int 3), (4, .int 1), (0, .ref h0), (1, .int x1), (2, .int x2)]) hx hb dX11_factor_84 hl (k := 0) rfl (by decide) (by decide) rfl (fun ls hl => ?_)
                                    refine lv_goto (tgt := 45) hx hb dX11_factor_87 (by decide) ?_
                                    refine lv_aload_n hx hb dX11_factor_45 rfl (lv_at hl 2 rfl) ?_
                                    refine lv_iload hx hb dX11_factor_46 (lv_at hl 1 rfl) ?_
                                    refine lv_iload_n hx hb dX11_factor_48 rfl (lv_at hl 4 rfl) ?_
                                    refine lv_iconst (v := 1) hx hb dX11_factor_49 (by decide) ?_
                                    refine lv_icmp_ne (tgt := 57) hx hb dX11_factor_50 (by decide) (fun c_1141 => ?_) (fun c_1141 => ?_)
                                    · skip
                                      have c_1141 := ni_ne c_1141 rfl li_1
                                      exfalso; omega
                                    · skip
                                      have c_1141 := ni_eq c_1141 rfl li_1
                                      refine lv_iconst (v := (-1)) hx hb dX11_factor_53 (by decide) ?_
                                      refine lv_goto (tgt := 58) hx hb dX11_factor_54 (by decide) ?_
                                      refine lv_iload_n hx hb dX11_factor_58 rfl (lv_at hl 4 rfl) ?_
                                      refine lv_iconst (v := 3) hx hb dX11_factor_59 (by decide) ?_
                                      refine lv_icmp_ne (tgt := 67) hx hb dX11_factor_60 (by decide) (fun c_1142 => ?_) (fun c_1142 => ?_)
                                      · skip
                                        have c_1142 := ni_ne c_1142 rfl li_3
                                        refine lv_iload_n hx hb dX11_factor_67 rfl (lv_at hl 4 rfl) ?_
                                        refine lv_bipush (v := 6) hx hb dX11_factor_68 (by decide) ?_
                                        refine lv_icmp_ne (tgt := 77) hx hb dX11_factor_70 (by decide) (fun c_1143 => ?_) (fun c_1143 => ?_)
                                        · skip
                                          have c_1143 := ni_ne c_1143 rfl li_6
                                          refine lv_iconst (v := 0) hx hb dX11_factor_77 (by decide) ?_
                                          have q_q1145 := li_1
                                          have q_q1146 := li_m1
                                          have q_q1147 := li_0
                                          refine tcI (Tc := [(h0, ob 8 [.int h0f0, .int h0f1, .int h0f2, .int h0f3, .int h0f4, .int h0f5, .ref h1, .ref h2, .int h0f8, .int h0f9, .ref h3, .ref h4, .ref h5, .ref h6, .ref h7, .ref h8, .ref h9, .int h0f17, .int h0f18, .int h0f19, .ref h10, .ref h11, .ref h12, .ref h13, .int h0f24, .int h0f25, .ref h14, .ref h15, .ref h16, .ref h17, .int h0f30, .int h0f31, .ref h18, .ref h19, .ref h20, .ref h21]), (h7, aJ (k 1) 4 (zJ [1, 2, 3]))]) (Tr := [(h1, aI (k 0) 36 anI), (h4, aJ (k 1) 9 anJ), (h5, aJ (k 1) 9 anJ)]) (as := [h0, h7]) (zcV (q0 := 1) (ci := 8) (As := [.int 1, .int (-1), .int 0]) (rest := []) (Tc := [(h0, ob 8 [.int h0f0, .int h0f1, .int h0f2, .int h0f3, .int h0f4, .int h0f5, .ref h1, .ref h2, .int h0f8, .int h0f9, .ref h3, .ref h4, .ref h5, .ref h6, .ref h7, .ref h8, .ref h9, .int h0f17, .int h0f18, .int h0f19, .ref h10, .ref h11, .ref h12, .ref h13, .int h0f24, .int h0f25, .ref h14, .ref h15, .ref h16, .ref h17, .int h0f30, .int h0f31, .ref h18, .ref h19, .ref h20, .ref h21]), (h7, aJ (k 1) 4 (zJ [1, 2, 3]))]) hx hb hml hown hU hK hT rfl rfl [1, 4] rfl (by decide) (cX11_takesOut_3cbb8 l D k _ h0 h7 h1 h2 h3 h4 h5 h6 h8 h9 h10 h11 h12 h13 h14 h15 h16 h17 h18 h19 h20 h21 (1) ((-1)) (0) h0f0 h0f1 h0f2 h0f3 h0f4 h0f5 h0f8 h0f9 h0f17 h0f18 h0f19 h0f24 h0f25 h0f30 h0f31 (by have := li_1; omega) (by have := li_m1; omega) (by have := li_0; omega) (by omega) (by omega) (by omega) (by omega) (by omega) (by omega) (by omega) (by omega) (by omega) (by omega) (by omega) (by omega) (by omega) (by have := li_1; have := li_m1; have := li_0; omega) (by have := li_1; have := li_m1; have := li_0; omega)) w999 w996 w998 w41 w72 hdX11_takesOut ⟨rfl, rfl⟩ ⟨Nat.le_of_ble_eq_true rfl, Nat.le_of_ble_eq_true rfl⟩ rfl hl.1 (Nat.le_of_ble_eq_true rfl) dX11_factor_78 ⟨Nat.le_of_ble_eq_true rfl, Nat.le_of_ble_eq_true rfl⟩) hT hS hA [1, 4] [0, 2, 3] rfl rfl rfl (by decide) (by decide) (fun r1144 H locs hB J hS => ?_)
                                          obtain ⟨rfl, hT1⟩ := hB
                                          have hT := J _ hT1
                                          have hT : TP D A [(h1, aI (k 0) 36 anI), (h4, aJ (k 1) 9 anJ), (h5, aJ (k 1) 9 anJ), (h0, ob 8 [.int h0f0, .int h0f1, .int h0f2, .int h0f3, .int h0f4, .int h0f5, .ref h1, .ref h2, .int h0f8, .int h0f9, .ref h3, .ref h4, .ref h5, .ref h6, .ref h7, .ref h8, .ref h9, .int h0f17, .int h0f18, .int h0f19, .ref h10, .ref h11, .ref h12, .ref h13, .int h0f24, .int h0f25, .ref h14, .ref h15, .ref h16, .ref h17, .int h0f30, .int h0f31, .ref h18, .ref h19, .ref h20, .ref h21]), (h7, aJ (k 1) 4 anJ)] _ := hT
                                          refine lv_if_eq (tgt := 90) hx hb dX11_factor_81 (by decide) (fun _ => ?_) (fun cc => absurd (by decide +kernel) cc)
                                          refine lv_iload_n hx hb dX11_factor_90 rfl (lv_at hl 0 rfl) ?_
                                          exact tz_retI (B := B_cX11_factor_71296 D k h0 h1 h4 h5 h7 h2 h3 h6 h8 h9 h10 h11 h12 h13 h14 h15 h16 h17 h18 h19 h20 h21 x1 x2 h0f0 h0f1 h0f2 h0f3 h0f4 h0f5 h0f8 h0f9 h0f17 h0f18 h0f19 h0f24 h0f25 h0f30 h0f31) (v := 3) hQ hx hb hr hlocks hS (Nat.le_of_ble_eq_true rfl) (Nat.le_of_ble_eq_true rfl) dX11_factor_91 (⟨(by have := li_3; omega), (hT.sub [3, 0, 1, 2, 4] (by decide) rfl)⟩)
                                        · skip
                                          have c_1143 := ni_eq c_1143 rfl li_6
                                          exfalso; omega
                                      · skip
                                        have c_1142 := ni_eq c_1142 rfl li_3
                                        exfalso; omega
                                · skip
                                  have c_1126 := ni_eq c_1126 rfl li_6
                                  exfalso; omega
                              · skip
                                have c_1125 := ni_eq c_1125 rfl li_3
                                exfalso; omega
                          · skip
                            have hT := J _ hT1
                            have hT : TP D A [(h1, aI (k 0) 36 anI), (h0, ob 8 [.int h0f0, .int h0f1, .int h0f2, .int h0f3, .int h0f4, .int h0f5, .ref h1, .ref h2, .int h0f8, .int h0f9, .ref h3, .ref h4, .ref h5, .ref h6, .ref h7, .ref h8, .ref h9, .int h0f17, .int h0f18, .int h0f19, .ref h10, .ref h11, .ref h12, .ref h13, .int h0f24, .int h0f25, .ref h14, .ref h15, .ref h16, .ref h17, .int h0f30, .int h0f31, .ref h18, .ref h19, .ref h20, .ref h21]), (h4, aJ (k 1) 9 anJ), (h5, aJ (k 1) 9 anJ), (h7, aJ (k 1) 4 (zJ [2, 3]))] _ := hT
                            exfalso; omega
                        · skip
                          have c_1061 := ni_eq c_1061 rfl li_6
                          exfalso; omega
                      · skip
                        have c_1060 := ni_eq c_1060 rfl li_3
                        exfalso; omega
                  · skip
                    have hT := J _ hT1
                    have hT : TP D A [(h1, aI (k 0) 36 anI), (h0, ob 8 [.int h0f0, .int h0f1, .int h0f2, .int h0f3, .int h0f4, .int h0f5, .ref h1, .ref h2, .int h0f8, .int h0f9, .ref h3, .ref h4, .ref h5, .ref h6, .ref h7, .ref h8, .ref h9, .int h0f17, .int h0f18, .int h0f19, .ref h10, .ref h11, .ref h12, .ref h13, .int h0f24, .int h0f25, .ref h14, .ref h15, .ref h16, .ref h17, .int h0f30, .int h0f31, .ref h18, .ref h19, .ref h20, .ref h21]), (h4, aJ (k 1) 9 anJ), (h5, aJ (k 1) 9 anJ), (h7, aJ (k 1) 4 (zJ [3]))] _ := hT
                    refine lv_if_eq (tgt := 90) hx hb dX11_factor_81 (by decide) (fun cc => absurd cc (by decide +kernel)) (fun _ => ?_)
                    refine lv_iinc (v := 1) (lv' := [(3, .int 1), (4, .int 1), (0, .ref h0), (1, .int x1), (2, .int x2)]) hx hb dX11_factor_84 hl (k := 1) rfl (by decide) (by decide) rfl (fun ls hl => ?_)
                    refine lv_goto (tgt := 45) hx hb dX11_factor_87 (by decide) ?_
                    refine lv_aload_n hx hb dX11_factor_45 rfl (lv_at hl 2 rfl) ?_
                    refine lv_iload hx hb dX11_factor_46 (lv_at hl 1 rfl) ?_
                    refine lv_iload_n hx hb dX11_factor_48 rfl (lv_at hl 4 rfl) ?_
                    refine lv_iconst (v := 1) hx hb dX11_factor_49 (by decide) ?_
                    refine lv_icmp_ne (tgt := 57) hx hb dX11_factor_50 (by decide) (fun c_1148 => ?_) (fun c_1148 => ?_)
                    · skip
                      have c_1148 := ni_ne c_1148 rfl li_1
                      exfalso; omega
                    · skip
                      have c_1148 := ni_eq c_1148 rfl li_1
                      refine lv_iconst (v := (-1)) hx hb dX11_factor_53 (by decide) ?_
                      refine lv_goto (tgt := 58) hx hb dX11_factor_54 (by decide) ?_
                      refine lv_iload_n hx hb dX11_factor_58 rfl (lv_at hl 4 rfl) ?_
                      refine lv_iconst (v := 3) hx hb dX11_factor_59 (by decide) ?_
                      refine lv_icmp_ne (tgt := 67) hx hb dX11_factor_60 (by decide) (fun c_1149 => ?_) (fun c_1149 => ?_)
                      · skip
                        have c_1149 := ni_ne c_1149 rfl li_3
                        refine lv_iload_n hx hb dX11_factor_67 rfl (lv_at hl 4 rfl) ?_
                        refine lv_bipush (v := 6) hx hb dX11_factor_68 (by decide) ?_
                        refine lv_icmp_ne (tgt := 77) hx hb dX11_factor_70 (by decide) (fun c_1150 => ?_) (fun c_1150 => ?_)
                        · skip
                          have c_1150 := ni_ne c_1150 rfl li_6
                          refine lv_iconst (v := 0) hx hb dX11_factor_77 (by decide) ?_
                          have q_q1152 := li_1
                          have q_q1153 := li_m1
                          have q_q1154 := li_0
                          refine tcI (Tc := [(h0, ob 8 [.int h0f0, .int h0f1, .int h0f2, .int h0f3, .int h0f4, .int h0f5, .ref h1, .ref h2, .int h0f8, .int h0f9, .ref h3, .ref h4, .ref h5, .ref h6, .ref h7, .ref h8, .ref h9, .int h0f17, .int h0f18, .int h0f19, .ref h10, .ref h11, .ref h12, .ref h13, .int h0f24, .int h0f25, .ref h14, .ref h15, .ref h16, .ref h17, .int h0f30, .int h0f31, .ref h18, .ref h19, .ref h20, .ref h21]), (h4, aJ (k 1) 9 anJ), (h5, aJ (k 1) 9 anJ), (h7, aJ (k 1) 4 (zJ [3]))]) (Tr := [(h1, aI (k 0) 36 anI)]) (as := [h0, h4, h5, h7]) (zcV (q0 := 1) (ci := 8) (As := [.int 1, .int (-1), .int 0]) (rest := []) (Tc := [(h0, ob 8 [.int h0f0, .int h0f1, .int h0f2, .int h0f3, .int h0f4, .int h0f5, .ref h1, .ref h2, .int h0f8, .int h0f9, .ref h3, .ref h4, .ref h5, .ref h6, .ref h7, .ref h8, .ref h9, .int h0f17, .int h0f18, .int h0f19, .ref h10, .ref h11, .ref h12, .ref h13, .int h0f24, .int h0f25, .ref h14, .ref h15, .ref h16, .ref h17, .int h0f30, .int h0f31, .ref h18, .ref h19, .ref h20, .ref h21]), (h4, aJ (k 1) 9 anJ), (h5, aJ (k 1) 9 anJ), (h7, aJ (k 1) 4 (zJ [3]))]) hx hb hml hown hU hK hT rfl rfl [1, 2, 3, 4] rfl (by decide) (cX11_takesOut_a13ae l D k _ h0 h4 h5 h7 h1 h2 h3 h6 h8 h9 h10 h11 h12 h13 h14 h15 h16 h17 h18 h19 h20 h21 (1) ((-1)) (0) h0f0 h0f1 h0f2 h0f3 h0f4 h0f5 h0f8 h0f9 h0f17 h0f18 h0f19 h0f24 h0f25 h0f30 h0f31 (by have := li_1; omega) (by have := li_m1; omega) (by have := li_0; omega) (by omega) (by omega) (by omega) (by omega) (by omega) (by omega) (by omega) (by omega) (by omega) (by omega) (by omega) (by omega) (by omega) (by have := li_1; have := li_m1; have := li_0; omega) (by have := li_1; have := li_m1; have := li_0; omega)) w999 w996 w998 w41 w72 hdX11_takesOut ⟨rfl, rfl⟩ ⟨Nat.le_of_ble_eq_true rfl, Nat.le_of_ble_eq_true rfl⟩ rfl hl.1 (Nat.le_of_ble_eq_true rfl) dX11_factor_78 ⟨Nat.le_of_ble_eq_true rfl, Nat.le_of_ble_eq_true rfl⟩) hT hS hA [1, 2, 3, 4] [0] rfl rfl rfl (by decide) (by decide) (fun r1151 H locs hB J hS => ?_)
                          rcases hB with ⟨rfl, hT1⟩ | ⟨v1155, v1156, b_v1156, c_1157, c_1158, c_1159, c_1160, c_1161, c_1162, c_1163, c_1164, c_1165, rfl, hT1⟩ | ⟨v1166, v1167, v1168, b_v1166, b_v1168, c_1169, c_1170, c_1171, c_1172, c_1173, c_1174, c_1175, c_1176, c_1177, rfl, hT1⟩ | ⟨v1178, v1179, v1180, b_v1179, b_v1180, c_1181, c_1182, c_1183, c_1184, c_1185, c_1186, c_1187, c_1188, rfl, hT1⟩
                          · skip
                            have hT := J _ hT1
                            have hT : TP D A [(h1, aI (k 0) 36 anI), (h0, ob 8 [.int h0f0, .int h0f1, .int h0f2, .int h0f3, .int h0f4, .int h0f5, .ref h1, .ref h2, .int h0f8, .int h0f9, .ref h3, .ref h4, .ref h5, .ref h6, .ref h7, .ref h8, .ref h9, .int h0f17, .int h0f18, .int h0f19, .ref h10, .ref h11, .ref h12, .ref h13, .int h0f24, .int h0f25, .ref h14, .ref h15, .ref h16, .ref h17, .int h0f30, .int h0f31, .ref h18, .ref h19, .ref h20, .ref h21]), (h4, aJ (k 1) 9 anJ), (h5, aJ (k 1) 9 anJ), (h7, aJ (k 1) 4 anJ)] _ := hT
                            refine lv_if_eq (tgt := 90) hx hb dX11_factor_81 (by decide) (fun _ => ?_) (fun cc => absurd (by decide +kernel) cc)
                            refine lv_iload_n hx hb dX11_factor_90 rfl (lv_at hl 0 rfl) ?_
                            exact tz_retI (B := B_cX11_factor_71296 D k h0 h1 h4 h5 h7 h2 h3 h6 h8 h9 h10 h11 h12 h13 h14 h15 h16 h17 h18 h19 h20 h21 x1 x2 h0f0 h0f1 h0f2 h0f3 h0f4 h0f5 h0f8 h0f9 h0f17 h0f18 h0f19 h0f24 h0f25 h0f30 h0f31) (v := 1) hQ hx hb hr hlocks hS (Nat.le_of_ble_eq_true rfl) (Nat.le_of_ble_eq_true rfl) dX11_factor_91 (⟨(by have := li_1; omega), (hT.sub [1, 0, 2, 3, 4] (by decide) rfl)⟩)
                          · skip
                            have hT := J _ hT1
                            have hT : TP D A [(h1, aI (k 0) 36 anI), (h0, ob 8 [.int h0f0, .int h0f1, .int h0f2, .int h0f3, .int h0f4, .int h0f5, .ref h1, .ref h2, .int h0f8, .int h0f9, .ref h3, .ref h4, .ref h5, .ref h6, .ref h7, .ref h8, .ref h9, .int h0f17, .int h0f18, .int h0f19, .ref h10, .ref h11, .ref h12, .ref h13, .int h0f24, .int h0f25, .ref h14, .ref h15, .ref h16, .ref h17, .int h0f30, .int h0f31, .ref h18, .ref h19, .ref h20, .ref h21]), (h4, aJ (k 1) 9 anJ), (h5, aJ (k 1) 9 anJ), (h7, aJ (k 1) 4 (zJ [2, 3]))] _ := hT
                            refine lv_if_eq (tgt := 90) hx hb dX11_factor_81 (by decide) (fun cc => absurd cc (by decide +kernel)) (fun _ => ?_)
                            refine lv_iinc (v := 2) (lv' := [(3, .int 2), (4, .int 1), (0, .ref h0), (1, .int x1), (2, .int x2)]) hx hb dX11_factor_84 hl (k := 0) rfl (by decide) (by decide) rfl (fun ls hl => ?_)
                            refine lv_goto (tgt := 45) hx hb dX11_factor_87 (by decide) ?_
                            refine lv_aload_n hx hb dX11_factor_45 rfl (lv_at hl 2 rfl) ?_
                            refine lv_iload hx hb dX11_factor_46 (lv_at hl 1 rfl) ?_
                            refine lv_iload_n hx hb dX11_factor_48 rfl (lv_at hl 4 rfl) ?_
                            refine lv_iconst (v := 1) hx hb dX11_factor_49 (by decide) ?_
                            refine lv_icmp_ne (tgt := 57) hx hb dX11_factor_50 (by decide) (fun c_1189 => ?_) (fun c_1189 => ?_)
                            · skip
                              have c_1189 := ni_ne c_1189 rfl li_1
                              exfalso; omega
                            · skip
                              have c_1189 := ni_eq c_1189 rfl li_1
                              refine lv_iconst (v := (-1)) hx hb dX11_factor_53 (by decide) ?_
                              refine lv_goto (tgt := 58) hx hb dX11_factor_54 (by decide) ?_
                              refine lv_iload_n hx hb dX11_factor_58 rfl (lv_at hl 4 rfl) ?_
                              refine lv_iconst (v := 3) hx hb dX11_factor_59 (by decide) ?_
                              refine lv_icmp_ne (tgt := 67) hx hb dX11_factor_60 (by decide) (fun c_1190 => ?_) (fun c_1190 => ?_)
                              · skip
                                have c_1190 := ni_ne c_1190 rfl li_3
                                refine lv_iload_n hx hb dX11_factor_67 rfl (lv_at hl 4 rfl) ?_
                                refine lv_bipush (v := 6) hx hb dX11_factor_68 (by decide) ?_
                                refine lv_icmp_ne (tgt := 77) hx hb dX11_factor_70 (by decide) (fun c_1191 => ?_) (fun c_1191 => ?_)
                                · skip
                                  have c_1191 := ni_ne c_1191 rfl li_6
                                  refine lv_iconst (v := 0) hx hb dX11_factor_77 (by decide) ?_
                                  have q_q1193 := li_1
                                  have q_q1194 := li_m1
                                  have q_q1195 := li_0
                                  refine tcI (Tc := [(h0, ob 8 [.int h0f0, .int h0f1, .int h0f2, .int h0f3, .int h0f4, .int h0f5, .ref h1, .ref h2, .int h0f8, .int h0f9, .ref h3, .ref h4, .ref h5, .ref h6, .ref h7, .ref h8, .ref h9, .int h0f17, .int h0f18, .int h0f19, .ref h10, .ref h11, .ref h12, .ref h13, .int h0f24, .int h0f25, .ref h14, .ref h15, .ref h16, .ref h17, .int h0f30, .int h0f31, .ref h18, .ref h19, .ref h20, .ref h21]), (h4, aJ (k 1) 9 anJ), (h5, aJ (k 1) 9 anJ), (h7, aJ (k 1) 4 (zJ [2, 3]))]) (Tr := [(h1, aI (k 0) 36 anI)]) (as := [h0, h4, h5, h7]) (zcV (q0 := 1) (ci := 8) (As := [.int 1, .int (-1), .int 0]) (rest := []) (Tc := [(h0, ob 8 [.int h0f0, .int h0f1, .int h0f2, .int h0f3, .int h0f4, .int h0f5, .ref h1, .ref h2, .int h0f8, .int h0f9, .ref h3, .ref h4, .ref h5, .ref h6, .ref h7, .ref h8, .ref h9, .int h0f17, .int h0f18, .int h0f19, .ref h10, .ref h11, .ref h12, .ref h13, .int h0f24, .int h0f25, .ref h14, .ref h15, .ref h16, .ref h17, .int h0f30, .int h0f31, .ref h18, .ref h19, .ref h20, .ref h21]), (h4, aJ (k 1) 9 anJ), (h5, aJ (k 1) 9 anJ), (h7, aJ (k 1) 4 (zJ [2, 3]))]) hx hb hml hown hU hK hT rfl rfl [1, 2, 3, 4] rfl (by decide) (cX11_takesOut_2378e l D k _ h0 h4 h5 h7 h1 h2 h3 h6 h8 h9 h10 h11 h12 h13 h14 h15 h16 h17 h18 h19 h20 h21 (1) ((-1)) (0) h0f0 h0f1 h0f2 h0f3 h0f4 h0f5 h0f8 h0f9 h0f17 h0f18 h0f19 h0f24 h0f25 h0f30 h0f31 (by have := li_1; omega) (by have := li_m1; omega) (by have := li_0; omega) (by omega) (by omega) (by omega) (by omega) (by omega) (by omega) (by omega) (by omega) (by omega) (by omega) (by omega) (by omega) (by omega) (by have := li_1; have := li_m1; have := li_0; omega) (by have := li_1; have := li_m1; have := li_0; omega)) w999 w996 w998 w41 w72 hdX11_takesOut ⟨rfl, rfl⟩ ⟨Nat.le_of_ble_eq_true rfl, Nat.le_of_ble_eq_true rfl⟩ rfl hl.1 (Nat.le_of_ble_eq_true rfl) dX11_factor_78 ⟨Nat.le_of_ble_eq_true rfl, Nat.le_of_ble_eq_true rfl⟩) hT hS hA [1, 2, 3, 4] [0] rfl rfl rfl (by decide) (by decide) (fun r1192 H locs hB J hS => ?_)
                                  rcases hB with ⟨rfl, hT1⟩ | ⟨v1196, v1197, b_v1197, c_1198, c_1199, c_1200, c_1201, c_1202, c_1203, c_1204, c_1205, rfl, hT1⟩
                                  · skip
                                    have hT := J _ hT1
                                    have hT : TP D A [(h1, aI (k 0) 36 anI), (h0, ob 8 [.int h0f0, .int h0f1, .int h0f2, .int h0f3, .int h0f4, .int h0f5, .ref h1, .ref h2, .int h0f8, .int h0f9, .ref h3, .ref h4, .ref h5, .ref h6, .ref h7, .ref h8, .ref h9, .int h0f17, .int h0f18, .int h0f19, .ref h10, .ref h11, .ref h12, .ref h13, .int h0f24, .int h0f25, .ref h14, .ref h15, .ref h16, .ref h17, .int h0f30, .int h0f31, .ref h18, .ref h19, .ref h20, .ref h21]), (h4, aJ (k 1) 9 anJ), (h5, aJ (k 1) 9 anJ), (h7, aJ (k 1) 4 anJ)] _ := hT
                                    refine lv_if_eq (tgt := 90) hx hb dX11_factor_81 (by decide) (fun _ => ?_) (fun cc => absurd (by decide +kernel) cc)
                                    refine lv_iload_n hx hb dX11_factor_90 rfl (lv_at hl 0 rfl) ?_
                                    exact tz_retI (B := B_cX11_factor_71296 D k h0 h1 h4 h5 h7 h2 h3 h6 h8 h9 h10 h11 h12 h13 h14 h15 h16 h17 h18 h19 h20 h21 x1 x2 h0f0 h0f1 h0f2 h0f3 h0f4 h0f5 h0f8 h0f9 h0f17 h0f18 h0f19 h0f24 h0f25 h0f30 h0f31) (v := 2) hQ hx hb hr hlocks hS (Nat.le_of_ble_eq_true rfl) (Nat.le_of_ble_eq_true rfl) dX11_factor_91 (⟨(by have := li_2; omega), (hT.sub [1, 0, 2, 3, 4] (by decide) rfl)⟩)
                                  · skip
                                    have hT := J _ hT1
                                    have hT : TP D A [(h1, aI (k 0) 36 anI), (h0, ob 8 [.int h0f0, .int h0f1, .int h0f2, .int h0f3, .int h0f4, .int h0f5, .ref h1, .ref h2, .int h0f8, .int h0f9, .ref h3, .ref h4, .ref h5, .ref h6, .ref h7, .ref h8, .ref h9, .int h0f17, .int h0f18, .int h0f19, .ref h10, .ref h11, .ref h12, .ref h13, .int h0f24, .int h0f25, .ref h14, .ref h15, .ref h16, .ref h17, .int h0f30, .int h0f31, .ref h18, .ref h19, .ref h20, .ref h21]), (h4, aJ (k 1) 9 anJ), (h5, aJ (k 1) 9 anJ), (h7, aJ (k 1) 4 (zJ [1, 2, 3]))] _ := hT
                                    refine lv_if_eq (tgt := 90) hx hb dX11_factor_81 (by decide) (fun cc => absurd cc (by decide +kernel)) (fun _ => ?_)
                                    refine lv_iinc (v := 3) (lv' := [(3, .int 3), (4, .int 1), (0, .ref h0), (1, .int x1), (2, .int x2)]) hx hb dX11_factor_84 hl (k := 0) rfl (by decide) (by decide) rfl (fun ls hl => ?_)
                                    refine lv_goto (tgt := 45) hx hb dX11_factor_87 (by decide) ?_
                                    refine lv_aload_n hx hb dX11_factor_45 rfl (lv_at hl 2 rfl) ?_
                                    refine lv_iload hx hb dX11_factor_46 (lv_at hl 1 rfl) ?_
                                    refine lv_iload_n hx hb dX11_factor_48 rfl (lv_at hl 4 rfl) ?_
                                    refine lv_iconst (v := 1) hx hb dX11_factor_49 (by decide) ?_
                                    refine lv_icmp_ne (tgt := 57) hx hb dX11_factor_50 (by decide) (fun c_1206 => ?_) (fun c_1206 => ?_)
                                    · skip
                                      have c_1206 := ni_ne c_1206 rfl li_1
                                      exfalso; omega
                                    · skip
                                      have c_1206 := ni_eq c_1206 rfl li_1
                                      refine lv_iconst (v := (-1)) hx hb dX11_factor_53 (by decide) ?_
                                      refine lv_goto (tgt := 58) hx hb dX11_factor_54 (by decide) ?_
                                      refine lv_iload_n hx hb dX11_factor_58 rfl (lv_at hl 4 rfl) ?_
                                      refine lv_iconst (v := 3) hx hb dX11_factor_59 (by decide) ?_
                                      refine lv_icmp_ne (tgt := 67) hx hb dX11_factor_60 (by decide) (fun c_1207 => ?_) (fun c_1207 => ?_)
                                      · skip
                                        have c_1207 := ni_ne c_1207 rfl li_3
                                        refine lv_iload_n hx hb dX11_factor_67 rfl (lv_at hl 4 rfl) ?_
                                        refine lv_bipush (v := 6) hx hb dX11_factor_68 (by decide) ?_
                                        refine lv_icmp_ne (tgt := 77) hx hb dX11_factor_70 (by decide) (fun c_1208 => ?_) (fun c_1208 => ?_)
                                        · skip
                                          have c_1208 := ni_ne c_1208 rfl li_6
                                          refine lv_iconst (v := 0) hx hb dX11_factor_77 (by decide) ?_
                                          have q_q1210 := li_1
                                          have q_q1211 := li_m1
                                          have q_q1212 := li_0
                                          refine tcI (Tc := [(h0, ob 8 [.int h0f0, .int h0f1, .int h0f2, .int h0f3, .int h0f4, .int h0f5, .ref h1, .ref h2, .int h0f8, .int h0f9, .ref h3, .ref h4, .ref h5, .ref h6, .ref h7, .ref h8, .ref h9, .int h0f17, .int h0f18, .int h0f19, .ref h10, .ref h11, .ref h12, .ref h13, .int h0f24, .int h0f25, .ref h14, .ref h15, .ref h16, .ref h17, .int h0f30, .int h0f31, .ref h18, .ref h19, .ref h20, .ref h21]), (h7, aJ (k 1) 4 (zJ [1, 2, 3]))]) (Tr := [(h1, aI (k 0) 36 anI), (h4, aJ (k 1) 9 anJ), (h5, aJ (k 1) 9 anJ)]) (as := [h0, h7]) (zcV (q0 := 1) (ci := 8) (As := [.int 1, .int (-1), .int 0]) (rest := []) (Tc := [(h0, ob 8 [.int h0f0, .int h0f1, .int h0f2, .int h0f3, .int h0f4, .int h0f5, .ref h1, .ref h2, .int h0f8, .int h0f9, .ref h3, .ref h4, .ref h5, .ref h6, .ref h7, .ref h8, .ref h9, .int h0f17, .int h0f18, .int h0f19, .ref h10, .ref h11, .ref h12, .ref h13, .int h0f24, .int h0f25, .ref h14, .ref h15, .ref h16, .ref h17, .int h0f30, .int h0f31, .ref h18, .ref h19, .ref h20, .ref h21]), (h7, aJ (k 1) 4 (zJ [1, 2, 3]))]) hx hb hml hown hU hK hT rfl rfl [1, 4] rfl (by decide) (cX11_takesOut_3cbb8 l D k _ h0 h7 h1 h2 h3 h4 h5 h6 h8 h9 h10 h11 h12 h13 h14 h15 h16 h17 h18 h19 h20 h21 (1) ((-1)) (0) h0f0 h0f1 h0f2 h0f3 h0f4 h0f5 h0f8 h0f9 h0f17 h0f18 h0f19 h0f24 h0f25 h0f30 h0f31 (by have := li_1; omega) (by have := li_m1; omega) (by have := li_0; omega) (by omega) (by omega) (by omega) (by omega) (by omega) (by omega) (by omega) (by omega) (by omega) (by omega) (by omega) (by omega) (by omega) (by have := li_1; have := li_m1; have := li_0; omega) (by have := li_1; have := li_m1; have := li_0; omega)) w999 w996 w998 w41 w72 hdX11_takesOut ⟨rfl, rfl⟩ ⟨Nat.le_of_ble_eq_true rfl, Nat.le_of_ble_eq_true rfl⟩ rfl hl.1 (Nat.le_of_ble_eq_true rfl) dX11_factor_78 ⟨Nat.le_of_ble_eq_true rfl, Nat.le_of_ble_eq_true rfl⟩) hT hS hA [1, 4] [0, 2, 3] rfl rfl rfl (by decide) (by decide) (fun r1209 H locs hB J hS => ?_)
                                          obtain ⟨rfl, hT1⟩ := hB
                                          have hT := J _ hT1
                                          have hT : TP D A [(h1, aI (k 0) 36 anI), (h4, aJ (k 1) 9 anJ), (h5, aJ (k 1) 9 anJ), (h0, ob 8 [.int h0f0, .int h0f1, .int h0f2, .int h0f3, .int h0f4, .int h0f5, .ref h1, .ref h2, .int h0f8, .int h0f9, .ref h3, .ref h4, .ref h5, .ref h6, .ref h7, .ref h8, .ref h9, .int h0f17, .int h0f18, .int h0f19, .ref h10, .ref h11, .ref h12, .ref h13, .int h0f24, .int h0f25, .ref h14, .ref h15, .ref h16, .ref h17, .int h0f30, .int h0f31, .ref h18, .ref h19, .ref h20, .ref h21]), (h7, aJ (k 1) 4 anJ)] _ := hT
                                          refine lv_if_eq (tgt := 90) hx hb dX11_factor_81 (by decide) (fun _ => ?_) (fun cc => absurd (by decide +kernel) cc)
                                          refine lv_iload_n hx hb dX11_factor_90 rfl (lv_at hl 0 rfl) ?_
                                          exact tz_retI (B := B_cX11_factor_71296 D k h0 h1 h4 h5 h7 h2 h3 h6 h8 h9 h10 h11 h12 h13 h14 h15 h16 h17 h18 h19 h20 h21 x1 x2 h0f0 h0f1 h0f2 h0f3 h0f4 h0f5 h0f8 h0f9 h0f17 h0f18 h0f19 h0f24 h0f25 h0f30 h0f31) (v := 3) hQ hx hb hr hlocks hS (Nat.le_of_ble_eq_true rfl) (Nat.le_of_ble_eq_true rfl) dX11_factor_91 (⟨(by have := li_3; omega), (hT.sub [3, 0, 1, 2, 4] (by decide) rfl)⟩)
                                        · skip
                                          have c_1208 := ni_eq c_1208 rfl li_6
                                          exfalso; omega
                                      · skip
                                        have c_1207 := ni_eq c_1207 rfl li_3
                                        exfalso; omega
                                · skip
                                  have c_1191 := ni_eq c_1191 rfl li_6
                                  exfalso; omega
                              · skip
                                have c_1190 := ni_eq c_1190 rfl li_3
                                exfalso; omega
                          · skip
                            have hT := J _ hT1
                            have hT : TP D A [(h1, aI (k 0) 36 anI), (h0, ob 8 [.int h0f0, .int h0f1, .int h0f2, .int h0f3, .int h0f4, .int h0f5, .ref h1, .ref h2, .int h0f8, .int h0f9, .ref h3, .ref h4, .ref h5, .ref h6, .ref h7, .ref h8, .ref h9, .int h0f17, .int h0f18, .int h0f19, .ref h10, .ref h11, .ref h12, .ref h13, .int h0f24, .int h0f25, .ref h14, .ref h15, .ref h16, .ref h17, .int h0f30, .int h0f31, .ref h18, .ref h19, .ref h20, .ref h21]), (h4, aJ (k 1) 9 anJ), (h5, aJ (k 1) 9 anJ), (h7, aJ (k 1) 4 (zJ [2, 3]))] _ := hT
                            refine lv_if_eq (tgt := 90) hx hb dX11_factor_81 (by decide) (fun cc => absurd cc (by decide +kernel)) (fun _ => ?_)
                            refine lv_iinc (v := 2) (lv' := [(3, .int 2), (4, .int 1), (0, .ref h0), (1, .int x1), (2, .int x2)]) hx hb dX11_factor_84 hl (k := 0) rfl (by decide) (by decide) rfl (fun ls hl => ?_)
                            refine lv_goto (tgt := 45) hx hb dX11_factor_87 (by decide) ?_
                            refine lv_aload_n hx hb dX11_factor_45 rfl (lv_at hl 2 rfl) ?_
                            refine lv_iload hx hb dX11_factor_46 (lv_at hl 1 rfl) ?_
                            refine lv_iload_n hx hb dX11_factor_48 rfl (lv_at hl 4 rfl) ?_
                            refine lv_iconst (v := 1) hx hb dX11_factor_49 (by decide) ?_
                            refine lv_icmp_ne (tgt := 57) hx hb dX11_factor_50 (by decide) (fun c_1213 => ?_) (fun c_1213 => ?_)
                            · skip
                              have c_1213 := ni_ne c_1213 rfl li_1
                              exfalso; omega
                            · skip
                              have c_1213 := ni_eq c_1213 rfl li_1
                              refine lv_iconst (v := (-1)) hx hb dX11_factor_53 (by decide) ?_
                              refine lv_goto (tgt := 58) hx hb dX11_factor_54 (by decide) ?_
                              refine lv_iload_n hx hb dX11_factor_58 rfl (lv_at hl 4 rfl) ?_
                              refine lv_iconst (v := 3) hx hb dX11_factor_59 (by decide) ?_
                              refine lv_icmp_ne (tgt := 67) hx hb dX11_factor_60 (by decide) (fun c_1214 => ?_) (fun c_1214 => ?_)
                              · skip
                                have c_1214 := ni_ne c_1214 rfl li_3
                                refine lv_iload_n hx hb dX11_factor_67 rfl (lv_at hl 4 rfl) ?_
                                refine lv_bipush (v := 6) hx hb dX11_factor_68 (by decide) ?_
                                refine lv_icmp_ne (tgt := 77) hx hb dX11_factor_70 (by decide) (fun c_1215 => ?_) (fun c_1215 => ?_)
                                · skip
                                  have c_1215 := ni_ne c_1215 rfl li_6
                                  refine lv_iconst (v := 0) hx hb dX11_factor_77 (by decide) ?_
                                  have q_q1217 := li_1
                                  have q_q1218 := li_m1
                                  have q_q1219 := li_0
                                  refine tcI (Tc := [(h0, ob 8 [.int h0f0, .int h0f1, .int h0f2, .int h0f3, .int h0f4, .int h0f5, .ref h1, .ref h2, .int h0f8, .int h0f9, .ref h3, .ref h4, .ref h5, .ref h6, .ref h7, .ref h8, .ref h9, .int h0f17, .int h0f18, .int h0f19, .ref h10, .ref h11, .ref h12, .ref h13, .int h0f24, .int h0f25, .ref h14, .ref h15, .ref h16, .ref h17, .int h0f30, .int h0f31, .ref h18, .ref h19, .ref h20, .ref h21]), (h4, aJ (k 1) 9 anJ), (h5, aJ (k 1) 9 anJ), (h7, aJ (k 1) 4 (zJ [2, 3]))]) (Tr := [(h1, aI (k 0) 36 anI)]) (as := [h0, h4, h5, h7]) (zcV (q0 := 1) (ci := 8) (As := [.int 1, .int (-1), .int 0]) (rest := []) (Tc := [(h0, ob 8 [.int h0f0, .int h0f1, .int h0f2, .int h0f3, .int h0f4, .int h0f5, .ref h1, .ref h2, .int h0f8, .int h0f9, .ref h3, .ref h4, .ref h5, .ref h6, .ref h7, .ref h8, .ref h9, .int h0f17, .int h0f18, .int h0f19, .ref h10, .ref h11, .ref h12, .ref h13, .int h0f24, .int h0f25, .ref h14, .ref h15, .ref h16, .ref h17, .int h0f30, .int h0f31, .ref h18, .ref h19, .ref h20, .ref h21]), (h4, aJ (k 1) 9 anJ), (h5, aJ (k 1) 9 anJ), (h7, aJ (k 1) 4 (zJ [2, 3]))]) hx hb hml hown hU hK hT rfl rfl [1, 2, 3, 4] rfl (by decide) (cX11_takesOut_2378e l D k _ h0 h4 h5 h7 h1 h2 h3 h6 h8 h9 h10 h11 h12 h13 h14 h15 h16 h17 h18 h19 h20 h21 (1) ((-1)) (0) h0f0 h0f1 h0f2 h0f3 h0f4 h0f5 h0f8 h0f9 h0f17 h0f18 h0f19 h0f24 h0f25 h0f30 h0f31 (by have := li_1; omega) (by have := li_m1; omega) (by have := li_0; omega) (by omega) (by omega) (by omega) (by omega) (by omega) (by omega) (by omega) (by omega) (by omega) (by omega) (by omega) (by omega) (by omega) (by have := li_1; have := li_m1; have := li_0; omega) (by have := li_1; have := li_m1; have := li_0; omega)) w999 w996 w998 w41 w72 hdX11_takesOut ⟨rfl, rfl⟩ ⟨Nat.le_of_ble_eq_true rfl, Nat.le_of_ble_eq_true rfl⟩ rfl hl.1 (Nat.le_of_ble_eq_true rfl) dX11_factor_78 ⟨Nat.le_of_ble_eq_true rfl, Nat.le_of_ble_eq_true rfl⟩) hT hS hA [1, 2, 3, 4] [0] rfl rfl rfl (by decide) (by decide) (fun r1216 H locs hB J hS => ?_)
                                  rcases hB with ⟨rfl, hT1⟩ | ⟨v1220, v1221, b_v1221, c_1222, c_1223, c_1224, c_1225, c_1226, c_1227, c_1228, c_1229, rfl, hT1⟩
                                  · skip
                                    have hT := J _ hT1
                                    have hT : TP D A [(h1, aI (k 0) 36 anI), (h0, ob 8 [.int h0f0, .int h0f1, .int h0f2, .int h0f3, .int h0f4, .int h0f5, .ref h1, .ref h2, .int h0f8, .int h0f9, .ref h3, .ref h4, .ref h5, .ref h6, .ref h7, .ref h8, .ref h9, .int h0f17, .int h0f18, .int h0f19, .ref h10, .ref h11, .ref h12, .ref h13, .int h0f24, .int h0f25, .ref h14, .ref h15, .ref h16, .ref h17, .int h0f30, .int h0f31, .ref h18, .ref h19, .ref h20, .ref h21]), (h4, aJ (k 1) 9 anJ), (h5, aJ (k 1) 9 anJ), (h7, aJ (k 1) 4 anJ)] _ := hT
                                    refine lv_if_eq (tgt := 90) hx hb dX11_factor_81 (by decide) (fun _ => ?_) (fun cc => absurd (by decide +kernel) cc)
                                    refine lv_iload_n hx hb dX11_factor_90 rfl (lv_at hl 0 rfl) ?_
                                    exact tz_retI (B := B_cX11_factor_71296 D k h0 h1 h4 h5 h7 h2 h3 h6 h8 h9 h10 h11 h12 h13 h14 h15 h16 h17 h18 h19 h20 h21 x1 x2 h0f0 h0f1 h0f2 h0f3 h0f4 h0f5 h0f8 h0f9 h0f17 h0f18 h0f19 h0f24 h0f25 h0f30 h0f31) (v := 2) hQ hx hb hr hlocks hS (Nat.le_of_ble_eq_true rfl) (Nat.le_of_ble_eq_true rfl) dX11_factor_91 (⟨(by have := li_2; omega), (hT.sub [1, 0, 2, 3, 4] (by decide) rfl)⟩)
                                  · skip
                                    have hT := J _ hT1
                                    have hT : TP D A [(h1, aI (k 0) 36 anI), (h0, ob 8 [.int h0f0, .int h0f1, .int h0f2, .int h0f3, .int h0f4, .int h0f5, .ref h1, .ref h2, .int h0f8, .int h0f9, .ref h3, .ref h4, .ref h5, .ref h6, .ref h7, .ref h8, .ref h9, .int h0f17, .int h0f18, .int h0f19, .ref h10, .ref h11, .ref h12, .ref h13, .int h0f24, .int h0f25, .ref h14, .ref h15, .ref h16, .ref h17, .int h0f30, .int h0f31, .ref h18, .ref h19, .ref h20, .ref h21]), (h4, aJ (k 1) 9 anJ), (h5, aJ (k 1) 9 anJ), (h7, aJ (k 1) 4 (zJ [1, 2, 3]))] _ := hT
                                    refine lv_if_eq (tgt := 90) hx hb dX11_factor_81 (by decide) (fun cc => absurd cc (by decide +kernel)) (fun _ => ?_)
                                    refine lv_iinc (v := 3) (lv' := [(3, .int 3), (4, .int 1), (0, .ref h0), (1, .int x1), (2, .int x2)]) hx hb dX11_factor_84 hl (k := 0) rfl (by decide) (by decide) rfl (fun ls hl => ?_)
                                    refine lv_goto (tgt := 45) hx hb dX11_factor_87 (by decide) ?_
                                    refine lv_aload_n hx hb dX11_factor_45 rfl (lv_at hl 2 rfl) ?_
                                    refine lv_iload hx hb dX11_factor_46 (lv_at hl 1 rfl) ?_
                                    refine lv_iload_n hx hb dX11_factor_48 rfl (lv_at hl 4 rfl) ?_
                                    refine lv_iconst (v := 1) hx hb dX11_factor_49 (by decide) ?_
                                    refine lv_icmp_ne (tgt := 57) hx hb dX11_factor_50 (by decide) (fun c_1230 => ?_) (fun c_1230 => ?_)
                                    · skip
                                      have c_1230 := ni_ne c_1230 rfl li_1
                                      exfalso; omega
                                    · skip
                                      have c_1230 := ni_eq c_1230 rfl li_1
                                      refine lv_iconst (v := (-1)) hx hb dX11_factor_53 (by decide) ?_
                                      refine lv_goto (tgt := 58) hx hb dX11_factor_54 (by decide) ?_
                                      refine lv_iload_n hx hb dX11_factor_58 rfl (lv_at hl 4 rfl) ?_
                                      refine lv_iconst (v := 3) hx hb dX11_factor_59 (by decide) ?_
                                      refine lv_icmp_ne (tgt := 67) hx hb dX11_factor_60 (by decide) (fun c_1231 => ?_) (fun c_1231 => ?_)
                                      · skip
                                        have c_1231 := ni_ne c_1231 rfl li_3
                                        refine lv_iload_n hx hb dX11_factor_67 rfl (lv_at hl 4 rfl) ?_
                                        refine lv_bipush (v := 6) hx hb dX11_factor_68 (by decide) ?_
                                        refine lv_icmp_ne (tgt := 77) hx hb dX11_factor_70 (by decide) (fun c_1232 => ?_) (fun c_1232 => ?_)
                                        · skip
                                          have c_1232 := ni_ne c_1232 rfl li_6
                                          refine lv_iconst (v := 0) hx hb dX11_factor_77 (by decide) ?_
                                          have q_q1234 := li_1
                                          have q_q1235 := li_m1
                                          have q_q1236 := li_0
                                          refine tcI (Tc := [(h0, ob 8 [.int h0f0, .int h0f1, .int h0f2, .int h0f3, .int h0f4, .int h0f5, .ref h1, .ref h2, .int h0f8, .int h0f9, .ref h3, .ref h4, .ref h5, .ref h6, .ref h7, .ref h8, .ref h9, .int h0f17, .int h0f18, .int h0f19, .ref h10, .ref h11, .ref h12, .ref h13, .int h0f24, .int h0f25, .ref h14, .ref h15, .ref h16, .ref h17, .int h0f30, .int h0f31, .ref h18, .ref h19, .ref h20, .ref h21]), (h7, aJ (k 1) 4 (zJ [1, 2, 3]))]) (Tr := [(h1, aI (k 0) 36 anI), (h4, aJ (k 1) 9 anJ), (h5, aJ (k 1) 9 anJ)]) (as := [h0, h7]) (zcV (q0 := 1) (ci := 8) (As := [.int 1, .int (-1), .int 0]) (rest := []) (Tc := [(h0, ob 8 [.int h0f0, .int h0f1, .int h0f2, .int h0f3, .int h0f4, .int h0f5, .ref h1, .ref h2, .int h0f8, .int h0f9, .ref h3, .ref h4, .ref h5, .ref h6, .ref h7, .ref h8, .ref h9, .int h0f17, .int h0f18, .int h0f19, .ref h10, .ref h11, .ref h12, .ref h13, .int h0f24, .int h0f25, .ref h14, .ref h15, .ref h16, .ref h17, .int h0f30, .int h0f31, .ref h18, .ref h19, .ref h20, .ref h21]), (h7, aJ (k 1) 4 (zJ [1, 2, 3]))]) hx hb hml hown hU hK hT rfl rfl [1, 4] rfl (by decide) (cX11_takesOut_3cbb8 l D k _ h0 h7 h1 h2 h3 h4 h5 h6 h8 h9 h10 h11 h12 h13 h14 h15 h16 h17 h18 h19 h20 h21 (1) ((-1)) (0) h0f0 h0f1 h0f2 h0f3 h0f4 h0f5 h0f8 h0f9 h0f17 h0f18 h0f19 h0f24 h0f25 h0f30 h0f31 (by have := li_1; omega) (by have := li_m1; omega) (by have := li_0; omega) (by omega) (by omega) (by omega) (by omega) (by omega) (by omega) (by omega) (by omega) (by omega) (by omega) (by omega) (by omega) (by omega) (by have := li_1; have := li_m1; have := li_0; omega) (by have := li_1; have := li_m1; have := li_0; omega)) w999 w996 w998 w41 w72 hdX11_takesOut ⟨rfl, rfl⟩ ⟨Nat.le_of_ble_eq_true rfl, Nat.le_of_ble_eq_true rfl⟩ rfl hl.1 (Nat.le_of_ble_eq_true rfl) dX11_factor_78 ⟨Nat.le_of_ble_eq_true rfl, Nat.le_of_ble_eq_true rfl⟩) hT hS hA [1, 4] [0, 2, 3] rfl rfl rfl (by decide) (by decide) (fun r1233 H locs hB J hS => ?_)
                                          obtain ⟨rfl, hT1⟩ := hB
                                          have hT := J _ hT1
                                          have hT : TP D A [(h1, aI (k 0) 36 anI), (h4, aJ (k 1) 9 anJ), (h5, aJ (k 1) 9 anJ), (h0, ob 8 [.int h0f0, .int h0f1, .int h0f2, .int h0f3, .int h0f4, .int h0f5, .ref h1, .ref h2, .int h0f8, .int h0f9, .ref h3, .ref h4, .ref h5, .ref h6, .ref h7, .ref h8, .ref h9, .int h0f17, .int h0f18, .int h0f19, .ref h10, .ref h11, .ref h12, .ref h13, .int h0f24, .int h0f25, .ref h14, .ref h15, .ref h16, .ref h17, .int h0f30, .int h0f31, .ref h18, .ref h19, .ref h20, .ref h21]), (h7, aJ (k 1) 4 anJ)] _ := hT
                                          refine lv_if_eq (tgt := 90) hx hb dX11_factor_81 (by decide) (fun _ => ?_) (fun cc => absurd (by decide +kernel) cc)
                                          refine lv_iload_n hx hb dX11_factor_90 rfl (lv_at hl 0 rfl) ?_
                                          exact tz_retI (B := B_cX11_factor_71296 D k h0 h1 h4 h5 h7 h2 h3 h6 h8 h9 h10 h11 h12 h13 h14 h15 h16 h17 h18 h19 h20 h21 x1 x2 h0f0 h0f1 h0f2 h0f3 h0f4 h0f5 h0f8 h0f9 h0f17 h0f18 h0f19 h0f24 h0f25 h0f30 h0f31) (v := 3) hQ hx hb hr hlocks hS (Nat.le_of_ble_eq_true rfl) (Nat.le_of_ble_eq_true rfl) dX11_factor_91 (⟨(by have := li_3; omega), (hT.sub [3, 0, 1, 2, 4] (by decide) rfl)⟩)
                                        · skip
                                          have c_1232 := ni_eq c_1232 rfl li_6
                                          exfalso; omega
                                      · skip
                                        have c_1231 := ni_eq c_1231 rfl li_3
                                        exfalso; omega
                                · skip
                                  have c_1215 := ni_eq c_1215 rfl li_6
                                  exfalso; omega
                              · skip
                                have c_1214 := ni_eq c_1214 rfl li_3
                                exfalso; omega
                          · skip
                            have hT := J _ hT1
                            have hT : TP D A [(h1, aI (k 0) 36 anI), (h0, ob 8 [.int h0f0, .int h0f1, .int h0f2, .int h0f3, .int h0f4, .int h0f5, .ref h1, .ref h2, .int h0f8, .int h0f9, .ref h3, .ref h4, .ref h5, .ref h6, .ref h7, .ref h8, .ref h9, .int h0f17, .int h0f18, .int h0f19, .ref h10, .ref h11, .ref h12, .ref h13, .int h0f24, .int h0f25, .ref h14, .ref h15, .ref h16, .ref h17, .int h0f30, .int h0f31, .ref h18, .ref h19, .ref h20, .ref h21]), (h4, aJ (k 1) 9 anJ), (h5, aJ (k 1) 9 anJ), (h7, aJ (k 1) 4 (zJ [2, 3]))] _ := hT
                            exfalso; omega
                        · skip
                          have c_1150 := ni_eq c_1150 rfl li_6
                          exfalso; omega
                      · skip
                        have c_1149 := ni_eq c_1149 rfl li_3
                        exfalso; omega
                  · skip
                    have hT := J _ hT1
                    have hT : TP D A [(h1, aI (k 0) 36 anI), (h0, ob 8 [.int h0f0, .int h0f1, .int h0f2, .int h0f3, .int h0f4, .int h0f5, .ref h1, .ref h2, .int h0f8, .int h0f9, .ref h3, .ref h4, .ref h5, .ref h6, .ref h7, .ref h8, .ref h9, .int h0f17, .int h0f18, .int h0f19, .ref h10, .ref h11, .ref h12, .ref h13, .int h0f24, .int h0f25, .ref h14, .ref h15, .ref h16, .ref h17, .int h0f30, .int h0f31, .ref h18, .ref h19, .ref h20, .ref h21]), (h4, aJ (k 1) 9 anJ), (h5, aJ (k 1) 9 anJ), (h7, aJ (k 1) 4 (zJ [3]))] _ := hT
                    exfalso; omega
                  · skip
                    have hT := J _ hT1
                    have hT : TP D A [(h1, aI (k 0) 36 anI), (h0, ob 8 [.int h0f0, .int h0f1, .int h0f2, .int h0f3, .int h0f4, .int h0f5, .ref h1, .ref h2, .int h0f8, .int h0f9, .ref h3, .ref h4, .ref h5, .ref h6, .ref h7, .ref h8, .ref h9, .int h0f17, .int h0f18, .int h0f19, .ref h10, .ref h11, .ref h12, .ref h13, .int h0f24, .int h0f25, .ref h14, .ref h15, .ref h16, .ref h17, .int h0f30, .int h0f31, .ref h18, .ref h19, .ref h20, .ref h21]), (h4, aJ (k 1) 9 anJ), (h5, aJ (k 1) 9 anJ), (h7, aJ (k 1) 4 (zJ [3]))] _ := hT
                    exfalso; omega
                · skip
                  have c_901 := ni_eq c_901 rfl li_6
                  exfalso; omega
              · skip
                have c_900 := ni_eq c_900 rfl li_3
                exfalso; omega
        · skip
          have c_8 := ni_nle c_8 rfl li_6
          refine lv_iconst (v := (-1)) hx hb dX11_factor_24 (by decide) ?_
          exact tz_retI (B := B_cX11_factor_71296 D k h0 h1 h4 h5 h7 h2 h3 h6 h8 h9 h10 h11 h12 h13 h14 h15 h16 h17 h18 h19 h20 h21 x1 x2 h0f0 h0f1 h0f2 h0f3 h0f4 h0f5 h0f8 h0f9 h0f17 h0f18 h0f19 h0f24 h0f25 h0f30 h0f31) (v := (-1)) hQ hx hb hr hlocks hS (Nat.le_of_ble_eq_true rfl) (Nat.le_of_ble_eq_true rfl) dX11_factor_25 (⟨(by have := li_m1; omega), (hT.sub [4, 0, 1, 2, 3] (by decide) rfl)⟩)
