abbrev Rm_cX11_takesOut_75942 : Room := { frames := 0, cells := 0, slots := 0, locals := 0 }
abbrev B_cX11_takesOut_75942 (D : va_G) (k : Nat → ClassId) (h0 h4 h5 h7 h1 h2 h3 h6 h8 h9 h10 h11 h12 h13 h14 h15 h16 h17 h18 h19 h20 h21 : Nat) (x1 : Int32) (x2 : Int32) (x3 : Int32) (h0f0 : Int32) (h0f1 : Int32) (h0f2 : Int32) (h0f3 : Int32) (h0f4 : Int32) (h0f5 : Int32) (h0f8 : Int32) (h0f9 : Int32) (h0f17 : Int32) (h0f18 : Int32) (h0f19 : Int32) (h0f24 : Int32) (h0f25 : Int32) (h0f30 : Int32) (h0f31 : Int32) (A : Nat → Prop) (r : Int32) (H : Heap) : Prop := (0 = r ∧ TP D A [(h0, ob 8 [.int h0f0, .int h0f1, .int h0f2, .int h0f3, .int h0f4, .int h0f5, .ref h1, .ref h2, .int h0f8, .int h0f9, .ref h3, .ref h4, .ref h5, .ref h6, .ref h7, .ref h8, .ref h9, .int h0f17, .int h0f18, .int h0f19, .ref h10, .ref h11, .ref h12, .ref h13, .int h0f24, .int h0f25, .ref h14, .ref h15, .ref h16, .ref h17, .int h0f30, .int h0f31, .ref h18, .ref h19, .ref h20, .ref h21]), (h4, aJ (k 1) 9 anJ), (h5, aJ (k 1) 9 anJ), (h7, aJ (k 1) 4 anJ)] H) ∨ (∃ o0 : Int64, ∃ o1 : Int64, (0 ≤ o1.toInt ∧ o1.toInt ≤ 0) ∧ x1.toInt = 1 ∧ o0.toInt ≠ 0 ∧ x1.toInt ≤ 2 ∧ x1.toInt ≠ 2 ∧ x1.toInt ≤ 1 ∧ 0 < x1.toInt ∧ o1.toInt = 0 ∧ 1 = r ∧ TP D A [(h0, ob 8 [.int h0f0, .int h0f1, .int h0f2, .int h0f3, .int h0f4, .int h0f5, .ref h1, .ref h2, .int h0f8, .int h0f9, .ref h3, .ref h4, .ref h5, .ref h6, .ref h7, .ref h8, .ref h9, .int h0f17, .int h0f18, .int h0f19, .ref h10, .ref h11, .ref h12, .ref h13, .int h0f24, .int h0f25, .ref h14, .ref h15, .ref h16, .ref h17, .int h0f30, .int h0f31, .ref h18, .ref h19, .ref h20, .ref h21]), (h4, aJ (k 1) 9 anJ), (h5, aJ (k 1) 9 anJ), (h7, aJ (k 1) 4 (zJ [2, 3]))] H) ∨ (∃ o0 : Int64, ∃ o1 : Int64, ∃ o2 : Int64, (0 ≤ o0.toInt ∧ o0.toInt ≤ 0) ∧ (0 ≤ o2.toInt ∧ o2.toInt ≤ 0) ∧ x1.toInt = 1 ∧ o0.toInt = 0 ∧ o1.toInt ≠ 0 ∧ x1.toInt ≤ 1 ∧ x1.toInt ≠ 2 ∧ 0 < x1.toInt ∧ o2.toInt = 0 ∧ 1 = r ∧ TP D A [(h0, ob 8 [.int h0f0, .int h0f1, .int h0f2, .int h0f3, .int h0f4, .int h0f5, .ref h1, .ref h2, .int h0f8, .int h0f9, .ref h3, .ref h4, .ref h5, .ref h6, .ref h7, .ref h8, .ref h9, .int h0f17, .int h0f18, .int h0f19, .ref h10, .ref h11, .ref h12, .ref h13, .int h0f24, .int h0f25, .ref h14, .ref h15, .ref h16, .ref h17, .int h0f30, .int h0f31, .ref h18, .ref h19, .ref h20, .ref h21]), (h4, aJ (k 1) 9 anJ), (h5, aJ (k 1) 9 anJ), (h7, aJ (k 1) 4 (zJ [2, 3]))] H) ∨ (∃ o0 : Int64, ∃ o1 : Int64, ∃ o2 : Int64, (0 ≤ o1.toInt ∧ o1.toInt ≤ 0) ∧ (0 ≤ o2.toInt ∧ o2.toInt ≤ 0) ∧ x1.toInt = 2 ∧ o0.toInt ≠ 0 ∧ x1.toInt ≤ 2 ∧ 1 < x1.toInt ∧ o1.toInt = 0 ∧ o2.toInt = 0 ∧ 1 = r ∧ TP D A [(h0, ob 8 [.int h0f0, .int h0f1, .int h0f2, .int h0f3, .int h0f4, .int h0f5, .ref h1, .ref h2, .int h0f8, .int h0f9, .ref h3, .ref h4, .ref h5, .ref h6, .ref h7, .ref h8, .ref h9, .int h0f17, .int h0f18, .int h0f19, .ref h10, .ref h11, .ref h12, .ref h13, .int h0f24, .int h0f25, .ref h14, .ref h15, .ref h16, .ref h17, .int h0f30, .int h0f31, .ref h18, .ref h19, .ref h20, .ref h21]), (h4, aJ (k 1) 9 anJ), (h5, aJ (k 1) 9 anJ), (h7, aJ (k 1) 4 (zJ [2, 3]))] H)
set_option maxHeartbeats 4000000 in
set_option maxRecDepth 100000 in
theorem cX11_takesOut_75942 (l : Launch) (D : va_G) (k : Nat → ClassId) (sz : Nat) (h0 h4 h5 h7 h1 h2 h3 h6 h8 h9 h10 h11 h12 h13 h14 h15 h16 h17 h18 h19 h20 h21 : Nat) (x1 : Int32) (x2 : Int32) (x3 : Int32) (h0f0 : Int32) (h0f1 : Int32) (h0f2 : Int32) (h0f3 : Int32) (h0f4 : Int32) (h0f5 : Int32) (h0f8 : Int32) (h0f9 : Int32) (h0f17 : Int32) (h0f18 : Int32) (h0f19 : Int32) (h0f24 : Int32) (h0f25 : Int32) (h0f30 : Int32) (h0f31 : Int32) (b_x1 : 1 ≤ x1.toInt ∧ x1.toInt ≤ 2) (b_x2 : (-1) ≤ x2.toInt ∧ x2.toInt ≤ 1) (b_x3 : (-1) ≤ x3.toInt ∧ x3.toInt ≤ 1) (b_h0f0 : 1 ≤ h0f0.toInt ∧ h0f0.toInt ≤ 3) (b_h0f1 : 1 ≤ h0f1.toInt ∧ h0f1.toInt ≤ 4) (b_h0f3 : 0 ≤ h0f3.toInt ∧ h0f3.toInt ≤ 3) (b_h0f4 : 0 ≤ h0f4.toInt ∧ h0f4.toInt ≤ 4) (b_h0f8 : 0 ≤ h0f8.toInt ∧ h0f8.toInt ≤ 1) (b_h0f9 : 0 ≤ h0f9.toInt ∧ h0f9.toInt ≤ 1) (b_h0f17 : 0 ≤ h0f17.toInt ∧ h0f17.toInt ≤ 120) (b_h0f18 : 0 ≤ h0f18.toInt ∧ h0f18.toInt ≤ 120) (b_h0f19 : 0 ≤ h0f19.toInt ∧ h0f19.toInt ≤ 4) (b_h0f24 : 0 ≤ h0f24.toInt ∧ h0f24.toInt ≤ 100) (b_h0f25 : 0 ≤ h0f25.toInt ∧ h0f25.toInt ≤ 1) (b_h0f30 : 0 ≤ h0f30.toInt ∧ h0f30.toInt ≤ 60) (b_h0f31 : 0 ≤ h0f31.toInt ∧ h0f31.toInt ≤ 1) : Met l yX11_takesOut (Cond.code yX11_takesOut cX11_takesOut 8 (some .boolean) :: uw) Rm_cX11_takesOut_75942 (pT D k sz [.ref h0, .int x1, .int x2, .int x3] [(h0, ob 8 [.int h0f0, .int h0f1, .int h0f2, .int h0f3, .int h0f4, .int h0f5, .ref h1, .ref h2, .int h0f8, .int h0f9, .ref h3, .ref h4, .ref h5, .ref h6, .ref h7, .ref h8, .ref h9, .int h0f17, .int h0f18, .int h0f19, .ref h10, .ref h11, .ref h12, .ref h13, .int h0f24, .int h0f25, .ref h14, .ref h15, .ref h16, .ref h17, .int h0f30, .int h0f31, .ref h18, .ref h19, .ref h20, .ref h21]), (h4, aJ (k 1) 9 anJ), (h5, aJ (k 1) 9 anJ), (h7, aJ (k 1) 4 (zJ [3]))]) (qI (B_cX11_takesOut_75942 D k h0 h4 h5 h7 h1 h2 h3 h6 h8 h9 h10 h11 h12 h13 h14 h15 h16 h17 h18 h19 h20 h21 x1 x2 x3 h0f0 h0f1 h0f2 h0f3 h0f4 h0f5 h0f8 h0f9 h0f17 h0f18 h0f19 h0f24 h0f25 h0f30 h0f31 (zA [h0, h4, h5, h7] sz)) (zA [h0, h4, h5, h7] sz)) 0 0 (zA [h0, h4, h5, h7] sz) := by
  refine tz_begin (as := [h0, h4, h5, h7]) (Qc := fun A => qI (B_cX11_takesOut_75942 D k h0 h4 h5 h7 h1 h2 h3 h6 h8 h9 h10 h11 h12 h13 h14 h15 h16 h17 h18 h19 h20 h21 x1 x2 x3 h0f0 h0f1 h0f2 h0f3 h0f4 h0f5 h0f8 h0f9 h0f17 h0f18 h0f19 h0f24 h0f25 h0f30 h0f31 A) A) (by decide +kernel) rfl (Nat.le_of_ble_eq_true rfl) ?_
  intro p e s m args below meth c ls A Q hx hb hr hml hown hlocks hin hU hK hT hS hA hl hQ
  have hl : lv_has ls 8 [(0, .ref h0), (1, .int x1), (2, .int x2), (3, .int x3)] := hl
  have hT : TP D A [(h0, ob 8 [.int h0f0, .int h0f1, .int h0f2, .int h0f3, .int h0f4, .int h0f5, .ref h1, .ref h2, .int h0f8, .int h0f9, .ref h3, .ref h4, .ref h5, .ref h6, .ref h7, .ref h8, .ref h9, .int h0f17, .int h0f18, .int h0f19, .ref h10, .ref h11, .ref h12, .ref h13, .int h0f24, .int h0f25, .ref h14, .ref h15, .ref h16, .ref h17, .int h0f30, .int h0f31, .ref h18, .ref h19, .ref h20, .ref h21]), (h4, aJ (k 1) 9 anJ), (h5, aJ (k 1) 9 anJ), (h7, aJ (k 1) 4 (zJ [3]))] s.heap := hT
  rcases (show x1.toInt = 1 ∨ x1.toInt = 2 by omega) with hq1 | hq1
  · skip
    refine lv_iconst (v := 3) hx hb dX11_takesOut_0 (by decide) ?_
    refine lv_istore (lv' := [(4, .int 3), (0, .ref h0), (1, .int x1), (2, .int x2), (3, .int x3)]) hx hb dX11_takesOut_1 hl (by decide) rfl (fun ls hl => ?_)
    refine lv_iload hx hb dX11_takesOut_3 (lv_at hl 0 rfl) ?_
    refine lv_if_le (tgt := 26) hx hb dX11_takesOut_5 (by decide) (fun cc => absurd cc (by decide +kernel)) (fun _ => ?_)
    refine lv_aload_n hx hb dX11_takesOut_8 rfl (lv_at hl 1 rfl) ?_
    refine tz_get (ci := 8) (v := .ref h7) (C := RX11) (F := TX11) (N := 36) hx hb hU iX11 hown hK hT 0 rfl rfl 14 (by decide) w799 (fun _ h9 => h9) rfl dX11_takesOut_9 ?_
    refine lv_iload hx hb dX11_takesOut_12 (lv_at hl 0 rfl) ?_
    refine tz_lald hx hb hK hT 3 rfl (by have := li_3; omega) dX11_takesOut_14 (fun v2 e_v2 => ?_)
    have e_v2 := z_get (z := 3) e_v2 li_3 (by decide)
    subst e_v2
    refine lv_lconst (v := 0) hx hb dX11_takesOut_15 (by decide) ?_
    refine W.lcmp hx hb dX11_takesOut_16 (sv_i (v := 0) (by decide +kernel) ?_)
    refine lv_if_ne (tgt := 26) hx hb dX11_takesOut_17 (by decide) (fun cc => absurd (by decide +kernel) cc) (fun _ => ?_)
    refine lv_iinc (v := 2) (lv' := [(4, .int 2), (0, .ref h0), (1, .int x1), (2, .int x2), (3, .int x3)]) hx hb dX11_takesOut_20 hl (k := 0) rfl (by decide) (by decide) rfl (fun ls hl => ?_)
    refine lv_goto (tgt := 3) hx hb dX11_takesOut_23 (by decide) ?_
    refine lv_iload hx hb dX11_takesOut_3 (lv_at hl 0 rfl) ?_
    refine lv_if_le (tgt := 26) hx hb dX11_takesOut_5 (by decide) (fun cc => absurd cc (by decide +kernel)) (fun _ => ?_)
    refine lv_aload_n hx hb dX11_takesOut_8 rfl (lv_at hl 1 rfl) ?_
    refine tz_get (ci := 8) (v := .ref h7) (C := RX11) (F := TX11) (N := 36) hx hb hU iX11 hown hK hT 0 rfl rfl 14 (by decide) w799 (fun _ h9 => h9) rfl dX11_takesOut_9 ?_
    refine lv_iload hx hb dX11_takesOut_12 (lv_at hl 0 rfl) ?_
    refine tz_lald hx hb hK hT 3 rfl (by have := li_2; omega) dX11_takesOut_14 (fun v3 e_v3 => ?_)
    clear e_v3
    refine lv_lconst (v := 0) hx hb dX11_takesOut_15 (by decide) ?_
    refine W.lcmp hx hb dX11_takesOut_16 ?_
    refine lv_if_ne (tgt := 26) hx hb dX11_takesOut_17 (by decide) (fun c_4 => ?_) (fun c_4 => ?_)
    · skip
      have c_4 := nl_ne c_4 rfl ll_0
      refine lv_iload hx hb dX11_takesOut_26 (lv_at hl 0 rfl) ?_
      refine lv_iload_n hx hb dX11_takesOut_28 rfl (lv_at hl 2 rfl) ?_
      refine lv_icmp_ge (tgt := 34) hx hb dX11_takesOut_29 (by decide) (fun c_5 => ?_) (fun c_5 => ?_)
      · skip
        have c_5 := ni_le c_5 hq1 li_2
        refine lv_iconst (v := 0) hx hb dX11_takesOut_34 (by decide) ?_
        refine lv_istore (lv' := [(5, .int 0), (4, .int 2), (0, .ref h0), (1, .int x1), (2, .int x2), (3, .int x3)]) hx hb dX11_takesOut_35 hl (by decide) rfl (fun ls hl => ?_)
        refine lv_iload hx hb dX11_takesOut_37 (lv_at hl 0 rfl) ?_
        refine lv_iconst (v := 4) hx hb dX11_takesOut_39 (by decide) ?_
        refine lv_icmp_ge (tgt := 71) hx hb dX11_takesOut_40 (by decide) (fun cc => absurd cc (by decide +kernel)) (fun _ => ?_)
        refine lv_aload_n hx hb dX11_takesOut_43 rfl (lv_at hl 2 rfl) ?_
        refine tz_get (ci := 8) (v := .ref h4) (C := RX11) (F := TX11) (N := 36) hx hb hU iX11 hown hK hT 0 rfl rfl 11 (by decide) w796 (fun _ h9 => h9) rfl dX11_takesOut_44 ?_
        refine lv_iload hx hb dX11_takesOut_47 (lv_at hl 0 rfl) ?_
        refine lv_aload_n hx hb dX11_takesOut_49 rfl (lv_at hl 2 rfl) ?_
        refine tz_get (ci := 8) (v := .ref h7) (C := RX11) (F := TX11) (N := 36) hx hb hU iX11 hown hK hT 0 rfl rfl 14 (by decide) w799 (fun _ h9 => h9) rfl dX11_takesOut_50 ?_
        refine lv_iload hx hb dX11_takesOut_53 (lv_at hl 0 rfl) ?_
        refine tz_lald hx hb hK hT 3 rfl (by have := li_0; omega) dX11_takesOut_55 (fun v6 e_v6 => ?_)
        clear e_v6
        have hT := hT.wk (q := 1) rfl (z_of (c := k 1) (n := 9))
        have hT : TP D A [(h0, ob 8 [.int h0f0, .int h0f1, .int h0f2, .int h0f3, .int h0f4, .int h0f5, .ref h1, .ref h2, .int h0f8, .int h0f9, .ref h3, .ref h4, .ref h5, .ref h6, .ref h7, .ref h8, .ref h9, .int h0f17, .int h0f18, .int h0f19, .ref h10, .ref h11, .ref h12, .ref h13, .int h0f24, .int h0f25, .ref h14, .ref h15, .ref h16, .ref h17, .int h0f30, .int h0f31, .ref h18, .ref h19, .ref h20, .ref h21]), (h4, aJ (k 1) 9 (zJ [])), (h5, aJ (k 1) 9 anJ), (h7, aJ (k 1) 4 (zJ [3]))] H := hT
        refine tz_lastP hx hb hK hT hS 1 (zJ []) rfl (by have := li_0; omega) (z_putx (z := 0) li_0 (by decide)) dX11_takesOut_56 (fun H locs hT hS => ?_)
        have hT : TP D A [(h0, ob 8 [.int h0f0, .int h0f1, .int h0f2, .int h0f3, .int h0f4, .int h0f5, .ref h1, .ref h2, .int h0f8, .int h0f9, .ref h3, .ref h4, .ref h5, .ref h6, .ref h7, .ref h8, .ref h9, .int h0f17, .int h0f18, .int h0f19, .ref h10, .ref h11, .ref h12, .ref h13, .int h0f24, .int h0f25, .ref h14, .ref h15, .ref h16, .ref h17, .int h0f30, .int h0f31, .ref h18, .ref h19, .ref h20, .ref h21]), (h4, aJ (k 1) 9 (zJ [])), (h5, aJ (k 1) 9 anJ), (h7, aJ (k 1) 4 (zJ [3]))] H := hT
        refine lv_aload_n hx hb dX11_takesOut_57 rfl (lv_at hl 2 rfl) ?_
        refine tz_get (ci := 8) (v := .ref h5) (C := RX11) (F := TX11) (N := 36) hx hb hU iX11 hown hK hT 0 rfl rfl 12 (by decide) w797 (fun _ h9 => h9) rfl dX11_takesOut_58 ?_
        refine lv_iload hx hb dX11_takesOut_61 (lv_at hl 0 rfl) ?_
        refine lv_lconst (v := 0) hx hb dX11_takesOut_63 (by decide) ?_
        have hT := hT.wk (q := 2) rfl (z_of (c := k 1) (n := 9))
        have hT : TP D A [(h0, ob 8 [.int h0f0, .int h0f1, .int h0f2, .int h0f3, .int h0f4, .int h0f5, .ref h1, .ref h2, .int h0f8, .int h0f9, .ref h3, .ref h4, .ref h5, .ref h6, .ref h7, .ref h8, .ref h9, .int h0f17, .int h0f18, .int h0f19, .ref h10, .ref h11, .ref h12, .ref h13, .int h0f24, .int h0f25, .ref h14, .ref h15, .ref h16, .ref h17, .int h0f30, .int h0f31, .ref h18, .ref h19, .ref h20, .ref h21]), (h4, aJ (k 1) 9 (zJ [])), (h5, aJ (k 1) 9 (zJ [])), (h7, aJ (k 1) 4 (zJ [3]))] H := hT
        refine tz_lastP hx hb hK hT hS 2 (zJ [0]) rfl (by have := li_0; omega) (z_put0 (z := 0) li_0 (by decide)) dX11_takesOut_64 (fun H locs hT hS => ?_)
        have hT : TP D A [(h0, ob 8 [.int h0f0, .int h0f1, .int h0f2, .int h0f3, .int h0f4, .int h0f5, .ref h1, .ref h2, .int h0f8, .int h0f9, .ref h3, .ref h4, .ref h5, .ref h6, .ref h7, .ref h8, .ref h9, .int h0f17, .int h0f18, .int h0f19, .ref h10, .ref h11, .ref h12, .ref h13, .int h0f24, .int h0f25, .ref h14, .ref h15, .ref h16, .ref h17, .int h0f30, .int h0f31, .ref h18, .ref h19, .ref h20, .ref h21]), (h4, aJ (k 1) 9 (zJ [])), (h5, aJ (k 1) 9 (zJ [0])), (h7, aJ (k 1) 4 (zJ [3]))] H := hT
        refine lv_iinc (v := 1) (lv' := [(5, .int 1), (4, .int 2), (0, .ref h0), (1, .int x1), (2, .int x2), (3, .int x3)]) hx hb dX11_takesOut_65 hl (k := 0) rfl (by decide) (by decide) rfl (fun ls hl => ?_)
        refine lv_goto (tgt := 37) hx hb dX11_takesOut_68 (by decide) ?_
        refine lv_iload hx hb dX11_takesOut_37 (lv_at hl 0 rfl) ?_
        refine lv_iconst (v := 4) hx hb dX11_takesOut_39 (by decide) ?_
        refine lv_icmp_ge (tgt := 71) hx hb dX11_takesOut_40 (by decide) (fun cc => absurd cc (by decide +kernel)) (fun _ => ?_)
        refine lv_aload_n hx hb dX11_takesOut_43 rfl (lv_at hl 2 rfl) ?_
        refine tz_get (ci := 8) (v := .ref h4) (C := RX11) (F := TX11) (N := 36) hx hb hU iX11 hown hK hT 0 rfl rfl 11 (by decide) w796 (fun _ h9 => h9) rfl dX11_takesOut_44 ?_
        refine lv_iload hx hb dX11_takesOut_47 (lv_at hl 0 rfl) ?_
        refine lv_aload_n hx hb dX11_takesOut_49 rfl (lv_at hl 2 rfl) ?_
        refine tz_get (ci := 8) (v := .ref h7) (C := RX11) (F := TX11) (N := 36) hx hb hU iX11 hown hK hT 0 rfl rfl 14 (by decide) w799 (fun _ h9 => h9) rfl dX11_takesOut_50 ?_
        refine lv_iload hx hb dX11_takesOut_53 (lv_at hl 0 rfl) ?_
        refine tz_lald hx hb hK hT 3 rfl (by have := li_1; omega) dX11_takesOut_55 (fun v7 e_v7 => ?_)
        clear e_v7
        refine tz_lastP hx hb hK hT hS 1 (zJ []) rfl (by have := li_1; omega) (z_putx (z := 1) li_1 (by decide)) dX11_takesOut_56 (fun H locs hT hS => ?_)
        have hT : TP D A [(h0, ob 8 [.int h0f0, .int h0f1, .int h0f2, .int h0f3, .int h0f4, .int h0f5, .ref h1, .ref h2, .int h0f8, .int h0f9, .ref h3, .ref h4, .ref h5, .ref h6, .ref h7, .ref h8, .ref h9, .int h0f17, .int h0f18, .int h0f19, .ref h10, .ref h11, .ref h12, .ref h13, .int h0f24, .int h0f25, .ref h14, .ref h15, .ref h16, .ref h17, .int h0f30, .int h0f31, .ref h18, .ref h19, .ref h20, .ref h21]), (h4, aJ (k 1) 9 (zJ [])), (h5, aJ (k 1) 9 (zJ [0])), (h7, aJ (k 1) 4 (zJ [3]))] H := hT
        refine lv_aload_n hx hb dX11_takesOut_57 rfl (lv_at hl 2 rfl) ?_
        refine tz_get (ci := 8) (v := .ref h5) (C := RX11) (F := TX11) (N := 36) hx hb hU iX11 hown hK hT 0 rfl rfl 12 (by decide) w797 (fun _ h9 => h9) rfl dX11_takesOut_58 ?_
        refine lv_iload hx hb dX11_takesOut_61 (lv_at hl 0 rfl) ?_
        refine lv_lconst (v := 0) hx hb dX11_takesOut_63 (by decide) ?_
        refine tz_lastP hx hb hK hT hS 2 (zJ [0, 1]) rfl (by have := li_1; omega) (z_put0 (z := 1) li_1 (by decide)) dX11_takesOut_64 (fun H locs hT hS => ?_)
        have hT : TP D A [(h0, ob 8 [.int h0f0, .int h0f1, .int h0f2, .int h0f3, .int h0f4, .int h0f5, .ref h1, .ref h2, .int h0f8, .int h0f9, .ref h3, .ref h4, .ref h5, .ref h6, .ref h7, .ref h8, .ref h9, .int h0f17, .int h0f18, .int h0f19, .ref h10, .ref h11, .ref h12, .ref h13, .int h0f24, .int h0f25, .ref h14, .ref h15, .ref h16, .ref h17, .int h0f30, .int h0f31, .ref h18, .ref h19, .ref h20, .ref h21]), (h4, aJ (k 1) 9 (zJ [])), (h5, aJ (k 1) 9 (zJ [0, 1])), (h7, aJ (k 1) 4 (zJ [3]))] H := hT
        refine lv_iinc (v := 2) (lv' := [(5, .int 2), (4, .int 2), (0, .ref h0), (1, .int x1), (2, .int x2), (3, .int x3)]) hx hb dX11_takesOut_65 hl (k := 0) rfl (by decide) (by decide) rfl (fun ls hl => ?_)
        refine lv_goto (tgt := 37) hx hb dX11_takesOut_68 (by decide) ?_
        refine lv_iload hx hb dX11_takesOut_37 (lv_at hl 0 rfl) ?_
        refine lv_iconst (v := 4) hx hb dX11_takesOut_39 (by decide) ?_
        refine lv_icmp_ge (tgt := 71) hx hb dX11_takesOut_40 (by decide) (fun cc => absurd cc (by decide +kernel)) (fun _ => ?_)
        refine lv_aload_n hx hb dX11_takesOut_43 rfl (lv_at hl 2 rfl) ?_
        refine tz_get (ci := 8) (v := .ref h4) (C := RX11) (F := TX11) (N := 36) hx hb hU iX11 hown hK hT 0 rfl rfl 11 (by decide) w796 (fun _ h9 => h9) rfl dX11_takesOut_44 ?_
        refine lv_iload hx hb dX11_takesOut_47 (lv_at hl 0 rfl) ?_
        refine lv_aload_n hx hb dX11_takesOut_49 rfl (lv_at hl 2 rfl) ?_
        refine tz_get (ci := 8) (v := .ref h7) (C := RX11) (F := TX11) (N := 36) hx hb hU iX11 hown hK hT 0 rfl rfl 14 (by decide) w799 (fun _ h9 => h9) rfl dX11_takesOut_50 ?_
        refine lv_iload hx hb dX11_takesOut_53 (lv_at hl 0 rfl) ?_
        refine tz_lald hx hb hK hT 3 rfl (by have := li_2; omega) dX11_takesOut_55 (fun v8 e_v8 => ?_)
        clear e_v8
        refine tz_lastP hx hb hK hT hS 1 (zJ []) rfl (by have := li_2; omega) (z_putx (z := 2) li_2 (by decide)) dX11_takesOut_56 (fun H locs hT hS => ?_)
        have hT : TP D A [(h0, ob 8 [.int h0f0, .int h0f1, .int h0f2, .int h0f3, .int h0f4, .int h0f5, .ref h1, .ref h2, .int h0f8, .int h0f9, .ref h3, .ref h4, .ref h5, .ref h6, .ref h7, .ref h8, .ref h9, .int h0f17, .int h0f18, .int h0f19, .ref h10, .ref h11, .ref h12, .ref h13, .int h0f24, .int h0f25, .ref h14, .ref h15, .ref h16, .ref h17, .int h0f30, .int h0f31, .ref h18, .ref h19, .ref h20, .ref h21]), (h4, aJ (k 1) 9 (zJ [])), (h5, aJ (k 1) 9 (zJ [0, 1])), (h7, aJ (k 1) 4 (zJ [3]))] H := hT
        refine lv_aload_n hx hb dX11_takesOut_57 rfl (lv_at hl 2 rfl) ?_
        refine tz_get (ci := 8) (v := .ref h5) (C := RX11) (F := TX11) (N := 36) hx hb hU iX11 hown hK hT 0 rfl rfl 12 (by decide) w797 (fun _ h9 => h9) rfl dX11_takesOut_58 ?_
        refine lv_iload hx hb dX11_takesOut_61 (lv_at hl 0 rfl) ?_
        refine lv_lconst (v := 0) hx hb dX11_takesOut_63 (by decide) ?_
        refine tz_lastP hx hb hK hT hS 2 (zJ [0, 1, 2]) rfl (by have := li_2; omega) (z_put0 (z := 2) li_2 (by decide)) dX11_takesOut_64 (fun H locs hT hS => ?_)
        have hT : TP D A [(h0, ob 8 [.int h0f0, .int h0f1, .int h0f2, .int h0f3, .int h0f4, .int h0f5, .ref h1, .ref h2, .int h0f8, .int h0f9, .ref h3, .ref h4, .ref h5, .ref h6, .ref h7, .ref h8, .ref h9, .int h0f17, .int h0f18, .int h0f19, .ref h10, .ref h11, .ref h12, .ref h13, .int h0f24, .int h0f25, .ref h14, .ref h15, .ref h16, .ref h17, .int h0f30, .int h0f31, .ref h18, .ref h19, .ref h20, .ref h21]), (h4, aJ (k 1) 9 (zJ [])), (h5, aJ (k 1) 9 (zJ [0, 1, 2])), (h7, aJ (k 1) 4 (zJ [3]))] H := hT
        refine lv_iinc (v := 3) (lv' := [(5, .int 3), (4, .int 2), (0, .ref h0), (1, .int x1), (2, .int x2), (3, .int x3)]) hx hb dX11_takesOut_65 hl (k := 0) rfl (by decide) (by decide) rfl (fun ls hl => ?_)
        refine lv_goto (tgt := 37) hx hb dX11_takesOut_68 (by decide) ?_
        refine lv_iload hx hb dX11_takesOut_37 (lv_at hl 0 rfl) ?_
        refine lv_iconst (v := 4) hx hb dX11_takesOut_39 (by decide) ?_
        refine lv_icmp_ge (tgt := 71) hx hb dX11_takesOut_40 (by decide) (fun cc => absurd cc (by decide +kernel)) (fun _ => ?_)
        refine lv_aload_n hx hb dX11_takesOut_43 rfl (lv_at hl 2 rfl) ?_
        refine tz_get (ci := 8) (v := .ref h4) (C := RX11) (F := TX11) (N := 36) hx hb hU iX11 hown hK hT 0 rfl rfl 11 (by decide) w796 (fun _ h9 => h9) rfl dX11_takesOut_44 ?_
        refine lv_iload hx hb dX11_takesOut_47 (lv_at hl 0 rfl) ?_
        refine lv_aload_n hx hb dX11_takesOut_49 rfl (lv_at hl 2 rfl) ?_
        refine tz_get (ci := 8) (v := .ref h7) (C := RX11) (F := TX11) (N := 36) hx hb hU iX11 hown hK hT 0 rfl rfl 14 (by decide) w799 (fun _ h9 => h9) rfl dX11_takesOut_50 ?_
        refine lv_iload hx hb dX11_takesOut_53 (lv_at hl 0 rfl) ?_
        refine tz_lald hx hb hK hT 3 rfl (by have := li_3; omega) dX11_takesOut_55 (fun v9 e_v9 => ?_)
        have e_v9 := z_get (z := 3) e_v9 li_3 (by decide)
        subst e_v9
        refine tz_lastP hx hb hK hT hS 1 (zJ [3]) rfl (by have := li_3; omega) (z_put0 (z := 3) li_3 (by decide)) dX11_takesOut_56 (fun H locs hT hS => ?_)
        have hT : TP D A [(h0, ob 8 [.int h0f0, .int h0f1, .int h0f2, .int h0f3, .int h0f4, .int h0f5, .ref h1, .ref h2, .int h0f8, .int h0f9, .ref h3, .ref h4, .ref h5, .ref h6, .ref h7, .ref h8, .ref h9, .int h0f17, .int h0f18, .int h0f19, .ref h10, .ref h11, .ref h12, .ref h13, .int h0f24, .int h0f25, .ref h14, .ref h15, .ref h16, .ref h17, .int h0f30, .int h0f31, .ref h18, .ref h19, .ref h20, .ref h21]), (h4, aJ (k 1) 9 (zJ [3])), (h5, aJ (k 1) 9 (zJ [0, 1, 2])), (h7, aJ (k 1) 4 (zJ [3]))] H := hT
        refine lv_aload_n hx hb dX11_takesOut_57 rfl (lv_at hl 2 rfl) ?_
        refine tz_get (ci := 8) (v := .ref h5) (C := RX11) (F := TX11) (N := 36) hx hb hU iX11 hown hK hT 0 rfl rfl 12 (by decide) w797 (fun _ h9 => h9) rfl dX11_takesOut_58 ?_
        refine lv_iload hx hb dX11_takesOut_61 (lv_at hl 0 rfl) ?_
        refine lv_lconst (v := 0) hx hb dX11_takesOut_63 (by decide) ?_
        refine tz_lastP hx hb hK hT hS 2 (zJ [0, 1, 2, 3]) rfl (by have := li_3; omega) (z_put0 (z := 3) li_3 (by decide)) dX11_takesOut_64 (fun H locs hT hS => ?_)
        have hT : TP D A [(h0, ob 8 [.int h0f0, .int h0f1, .int h0f2, .int h0f3, .int h0f4, .int h0f5, .ref h1, .ref h2, .int h0f8, .int h0f9, .ref h3, .ref h4, .ref h5, .ref h6, .ref h7, .ref h8, .ref h9, .int h0f17, .int h0f18, .int h0f19, .ref h10, .ref h11, .ref h12, .ref h13, .int h0f24, .int h0f25, .ref h14, .ref h15, .ref h16, .ref h17, .int h0f30, .int h0f31, .ref h18, .ref h19, .ref h20, .ref h21]), (h4, aJ (k 1) 9 (zJ [3])), (h5, aJ (k 1) 9 (zJ [0, 1, 2, 3])), (h7, aJ (k 1) 4 (zJ [3]))] H := hT
        refine lv_iinc (v := 4) (lv' := [(5, .int 4), (4, .int 2), (0, .ref h0), (1, .int x1), (2, .int x2), (3, .int x3)]) hx hb dX11_takesOut_65 hl (k := 0) rfl (by decide) (by decide) rfl (fun ls hl => ?_)
        refine lv_goto (tgt := 37) hx hb dX11_takesOut_68 (by decide) ?_
        refine lv_iload hx hb dX11_takesOut_37 (lv_at hl 0 rfl) ?_
        refine lv_iconst (v := 4) hx hb dX11_takesOut_39 (by decide) ?_
        refine lv_icmp_ge (tgt := 71) hx hb dX11_takesOut_40 (by decide) (fun _ => ?_) (fun cc => absurd (by decide +kernel) cc)
        refine lv_iload hx hb dX11_takesOut_71 (lv_at hl 1 rfl) ?_
        refine lv_istore (lv' := [(5, .int 2), (4, .int 2), (0, .ref h0), (1, .int x1), (2, .int x2), (3, .int x3)]) hx hb dX11_takesOut_73 hl (by decide) rfl (fun ls hl => ?_)
        refine lv_iload hx hb dX11_takesOut_75 (lv_at hl 0 rfl) ?_
        refine lv_iload_n hx hb dX11_takesOut_77 rfl (lv_at hl 3 rfl) ?_
        refine lv_icmp_lt (tgt := 154) hx hb dX11_takesOut_78 (by decide) (fun c_10 => ?_) (fun c_10 => ?_)
        · skip
          have c_10 := ni_lt c_10 li_2 hq1
          exfalso; omega
        · skip
          have c_10 := ni_nlt c_10 li_2 hq1
          refine lv_aload_n hx hb dX11_takesOut_81 rfl (lv_at hl 2 rfl) ?_
          refine tz_get (ci := 8) (v := .ref h4) (C := RX11) (F := TX11) (N := 36) hx hb hU iX11 hown hK hT 0 rfl rfl 11 (by decide) w796 (fun _ h9 => h9) rfl dX11_takesOut_82 ?_
          refine lv_iload hx hb dX11_takesOut_85 (lv_at hl 0 rfl) ?_
          refine tz_lald hx hb hK hT 1 rfl (by have := li_2; omega) dX11_takesOut_87 (fun v11 e_v11 => ?_)
          clear e_v11
          refine lv_lstore (lv' := [(6, .long v11), (5, .int 2), (4, .int 2), (0, .ref h0), (1, .int x1), (2, .int x2), (3, .int x3)]) hx hb dX11_takesOut_88 hl (by decide) rfl (fun ls hl => ?_)
          refine lv_aload_n hx hb dX11_takesOut_90 rfl (lv_at hl 3 rfl) ?_
          refine tz_get (ci := 8) (v := .ref h5) (C := RX11) (F := TX11) (N := 36) hx hb hU iX11 hown hK hT 0 rfl rfl 12 (by decide) w797 (fun _ h9 => h9) rfl dX11_takesOut_91 ?_
          refine lv_iload hx hb dX11_takesOut_94 (lv_at hl 1 rfl) ?_
          refine lv_iload_n hx hb dX11_takesOut_96 rfl (lv_at hl 4 rfl) ?_
          refine lv_isub hx hb dX11_takesOut_97 (lv_topi (fun v12 e_v12 => ?_))
          have e_v12 := ai_sub e_v12 li_2 hq1 (by omega)
          refine lv_lload hx hb dX11_takesOut_98 (lv_at hl 0 rfl) ?_
          refine tz_lastP hx hb hK hT hS 2 (zJ [0, 2, 3]) rfl (by omega) (z_putx (z := 1) (show v12.toInt = 1 by omega) (by decide)) dX11_takesOut_100 (fun H locs hT hS => ?_)
          have hT : TP D A [(h0, ob 8 [.int h0f0, .int h0f1, .int h0f2, .int h0f3, .int h0f4, .int h0f5, .ref h1, .ref h2, .int h0f8, .int h0f9, .ref h3, .ref h4, .ref h5, .ref h6, .ref h7, .ref h8, .ref h9, .int h0f17, .int h0f18, .int h0f19, .ref h10, .ref h11, .ref h12, .ref h13, .int h0f24, .int h0f25, .ref h14, .ref h15, .ref h16, .ref h17, .int h0f30, .int h0f31, .ref h18, .ref h19, .ref h20, .ref h21]), (h4, aJ (k 1) 9 (zJ [3])), (h5, aJ (k 1) 9 (zJ [0, 2, 3])), (h7, aJ (k 1) 4 (zJ [3]))] H := hT
          refine lv_aload_n hx hb dX11_takesOut_101 rfl (lv_at hl 3 rfl) ?_
          refine tz_get (ci := 8) (v := .ref h4) (C := RX11) (F := TX11) (N := 36) hx hb hU iX11 hown hK hT 0 rfl rfl 11 (by decide) w796 (fun _ h9 => h9) rfl dX11_takesOut_102 ?_
          refine lv_iload hx hb dX11_takesOut_105 (lv_at hl 1 rfl) ?_
          refine lv_iload_n hx hb dX11_takesOut_107 rfl (lv_at hl 4 rfl) ?_
          refine lv_isub hx hb dX11_takesOut_108 (lv_topi (fun v13 e_v13 => ?_))
          have e_v13 := ai_sub e_v13 li_2 hq1 (by omega)
          refine lv_dup2_11 hx hb dX11_takesOut_109 rfl rfl ?_
          refine tz_lald hx hb hK hT 1 rfl (by omega) dX11_takesOut_110 (fun v14 e_v14 => ?_)
          clear e_v14
          refine lv_lload hx hb dX11_takesOut_111 (lv_at hl 0 rfl) ?_
          refine lv_iload_n hx hb dX11_takesOut_113 rfl (lv_at hl 5 rfl) ?_
          obtain ⟨v15, e_v15⟩ : ∃ x : Int64, x2.toInt64 = x := ⟨_, rfl⟩
          refine lv_i2l (v := v15) hx hb dX11_takesOut_114 e_v15 ?_
          have e_v15 := ai_i2l e_v15 rfl
          refine lv_lmul hx hb dX11_takesOut_115 (lv_topl (fun v16 e_v16 => ?_))
          refine lv_lsub hx hb dX11_takesOut_116 (lv_topl (fun v17 e_v17 => ?_))
          refine tz_lastP hx hb hK hT hS 1 (zJ [3]) rfl (by omega) (z_putx (z := 1) (show v13.toInt = 1 by omega) (by decide)) dX11_takesOut_117 (fun H locs hT hS => ?_)
          have hT : TP D A [(h0, ob 8 [.int h0f0, .int h0f1, .int h0f2, .int h0f3, .int h0f4, .int h0f5, .ref h1, .ref h2, .int h0f8, .int h0f9, .ref h3, .ref h4, .ref h5, .ref h6, .ref h7, .ref h8, .ref h9, .int h0f17, .int h0f18, .int h0f19, .ref h10, .ref h11, .ref h12, .ref h13, .int h0f24, .int h0f25, .ref h14, .ref h15, .ref h16, .ref h17, .int h0f30, .int h0f31, .ref h18, .ref h19, .ref h20, .ref h21]), (h4, aJ (k 1) 9 (zJ [3])), (h5, aJ (k 1) 9 (zJ [0, 2, 3])), (h7, aJ (k 1) 4 (zJ [3]))] H := hT
          refine lv_iload_n hx hb dX11_takesOut_118 rfl (lv_at hl 4 rfl) ?_
          refine lv_iconst (v := 2) hx hb dX11_takesOut_119 (by decide) ?_
          refine lv_icmp_ne (tgt := 140) hx hb dX11_takesOut_120 (by decide) (fun c_18 => ?_) (fun c_18 => ?_)
          · skip
            have c_18 := ni_ne c_18 hq1 li_2
            refine lv_aload_n hx hb dX11_takesOut_140 rfl (lv_at hl 3 rfl) ?_
            refine tz_get (ci := 8) (v := .ref h4) (C := RX11) (F := TX11) (N := 36) hx hb hU iX11 hown hK hT 0 rfl rfl 11 (by decide) w796 (fun _ h9 => h9) rfl dX11_takesOut_141 ?_
            refine lv_iload hx hb dX11_takesOut_144 (lv_at hl 1 rfl) ?_
            refine lv_lconst (v := 0) hx hb dX11_takesOut_146 (by decide) ?_
            refine tz_lastP hx hb hK hT hS 1 (zJ [2, 3]) rfl (by have := li_2; omega) (z_put0 (z := 2) li_2 (by decide)) dX11_takesOut_147 (fun H locs hT hS => ?_)
            have hT : TP D A [(h0, ob 8 [.int h0f0, .int h0f1, .int h0f2, .int h0f3, .int h0f4, .int h0f5, .ref h1, .ref h2, .int h0f8, .int h0f9, .ref h3, .ref h4, .ref h5, .ref h6, .ref h7, .ref h8, .ref h9, .int h0f17, .int h0f18, .int h0f19, .ref h10, .ref h11, .ref h12, .ref h13, .int h0f24, .int h0f25, .ref h14, .ref h15, .ref h16, .ref h17, .int h0f30, .int h0f31, .ref h18, .ref h19, .ref h20, .ref h21]), (h4, aJ (k 1) 9 (zJ [2, 3])), (h5, aJ (k 1) 9 (zJ [0, 2, 3])), (h7, aJ (k 1) 4 (zJ [3]))] H := hT
            refine lv_iinc (v := 1) (lv' := [(5, .int 1), (6, .long v11), (4, .int 2), (0, .ref h0), (1, .int x1), (2, .int x2), (3, .int x3)]) hx hb dX11_takesOut_148 hl (k := 1) rfl (by decide) (by decide) rfl (fun ls hl => ?_)
            refine lv_goto (tgt := 75) hx hb dX11_takesOut_151 (by decide) ?_
            refine lv_iload hx hb dX11_takesOut_75 (lv_at hl 0 rfl) ?_
            refine lv_iload_n hx hb dX11_takesOut_77 rfl (lv_at hl 4 rfl) ?_
            refine lv_icmp_lt (tgt := 154) hx hb dX11_takesOut_78 (by decide) (fun c_19 => ?_) (fun c_19 => ?_)
            · skip
              have c_19 := ni_lt c_19 li_1 hq1
              exfalso; omega
            · skip
              have c_19 := ni_nlt c_19 li_1 hq1
              refine lv_aload_n hx hb dX11_takesOut_81 rfl (lv_at hl 3 rfl) ?_
              refine tz_get (ci := 8) (v := .ref h4) (C := RX11) (F := TX11) (N := 36) hx hb hU iX11 hown hK hT 0 rfl rfl 11 (by decide) w796 (fun _ h9 => h9) rfl dX11_takesOut_82 ?_
              refine lv_iload hx hb dX11_takesOut_85 (lv_at hl 0 rfl) ?_
              refine tz_lald hx hb hK hT 1 rfl (by have := li_1; omega) dX11_takesOut_87 (fun v20 e_v20 => ?_)
              clear e_v20
              refine lv_lstore (lv' := [(6, .long v20), (5, .int 1), (4, .int 2), (0, .ref h0), (1, .int x1), (2, .int x2), (3, .int x3)]) hx hb dX11_takesOut_88 hl (by decide) rfl (fun ls hl => ?_)
              refine lv_aload_n hx hb dX11_takesOut_90 rfl (lv_at hl 3 rfl) ?_
              refine tz_get (ci := 8) (v := .ref h5) (C := RX11) (F := TX11) (N := 36) hx hb hU iX11 hown hK hT 0 rfl rfl 12 (by decide) w797 (fun _ h9 => h9) rfl dX11_takesOut_91 ?_
              refine lv_iload hx hb dX11_takesOut_94 (lv_at hl 1 rfl) ?_
              refine lv_iload_n hx hb dX11_takesOut_96 rfl (lv_at hl 4 rfl) ?_
              refine lv_isub hx hb dX11_takesOut_97 (lv_topi (fun v21 e_v21 => ?_))
              have e_v21 := ai_sub e_v21 li_1 hq1 (by omega)
              refine lv_lload hx hb dX11_takesOut_98 (lv_at hl 0 rfl) ?_
              refine tz_lastP hx hb hK hT hS 2 (zJ [2, 3]) rfl (by omega) (z_putx (z := 0) (show v21.toInt = 0 by omega) (by decide)) dX11_takesOut_100 (fun H locs hT hS => ?_)
              have hT : TP D A [(h0, ob 8 [.int h0f0, .int h0f1, .int h0f2, .int h0f3, .int h0f4, .int h0f5, .ref h1, .ref h2, .int h0f8, .int h0f9, .ref h3, .ref h4, .ref h5, .ref h6, .ref h7, .ref h8, .ref h9, .int h0f17, .int h0f18, .int h0f19, .ref h10, .ref h11, .ref h12, .ref h13, .int h0f24, .int h0f25, .ref h14, .ref h15, .ref h16, .ref h17, .int h0f30, .int h0f31, .ref h18, .ref h19, .ref h20, .ref h21]), (h4, aJ (k 1) 9 (zJ [2, 3])), (h5, aJ (k 1) 9 (zJ [2, 3])), (h7, aJ (k 1) 4 (zJ [3]))] H := hT
              refine lv_aload_n hx hb dX11_takesOut_101 rfl (lv_at hl 3 rfl) ?_
              refine tz_get (ci := 8) (v := .ref h4) (C := RX11) (F := TX11) (N := 36) hx hb hU iX11 hown hK hT 0 rfl rfl 11 (by decide) w796 (fun _ h9 => h9) rfl dX11_takesOut_102 ?_
              refine lv_iload hx hb dX11_takesOut_105 (lv_at hl 1 rfl) ?_
              refine lv_iload_n hx hb dX11_takesOut_107 rfl (lv_at hl 4 rfl) ?_
              refine lv_isub hx hb dX11_takesOut_108 (lv_topi (fun v22 e_v22 => ?_))
              have e_v22 := ai_sub e_v22 li_1 hq1 (by omega)
              refine lv_dup2_11 hx hb dX11_takesOut_109 rfl rfl ?_
              refine tz_lald hx hb hK hT 1 rfl (by omega) dX11_takesOut_110 (fun v23 e_v23 => ?_)
              clear e_v23
              refine lv_lload hx hb dX11_takesOut_111 (lv_at hl 0 rfl) ?_
              refine lv_iload_n hx hb dX11_takesOut_113 rfl (lv_at hl 5 rfl) ?_
              obtain ⟨v24, e_v24⟩ : ∃ x : Int64, x2.toInt64 = x := ⟨_, rfl⟩
              refine lv_i2l (v := v24) hx hb dX11_takesOut_114 e_v24 ?_
              have e_v24 := ai_i2l e_v24 rfl
              refine lv_lmul hx hb dX11_takesOut_115 (lv_topl (fun v25 e_v25 => ?_))
              refine lv_lsub hx hb dX11_takesOut_116 (lv_topl (fun v26 e_v26 => ?_))
              refine tz_lastP hx hb hK hT hS 1 (zJ [2, 3]) rfl (by omega) (z_putx (z := 0) (show v22.toInt = 0 by omega) (by decide)) dX11_takesOut_117 (fun H locs hT hS => ?_)
              have hT : TP D A [(h0, ob 8 [.int h0f0, .int h0f1, .int h0f2, .int h0f3, .int h0f4, .int h0f5, .ref h1, .ref h2, .int h0f8, .int h0f9, .ref h3, .ref h4, .ref h5, .ref h6, .ref h7, .ref h8, .ref h9, .int h0f17, .int h0f18, .int h0f19, .ref h10, .ref h11, .ref h12, .ref h13, .int h0f24, .int h0f25, .ref h14, .ref h15, .ref h16, .ref h17, .int h0f30, .int h0f31, .ref h18, .ref h19, .ref h20, .ref h21]), (h4, aJ (k 1) 9 (zJ [2, 3])), (h5, aJ (k 1) 9 (zJ [2, 3])), (h7, aJ (k 1) 4 (zJ [3]))] H := hT
              refine lv_iload_n hx hb dX11_takesOut_118 rfl (lv_at hl 4 rfl) ?_
              refine lv_iconst (v := 2) hx hb dX11_takesOut_119 (by decide) ?_
              refine lv_icmp_ne (tgt := 140) hx hb dX11_takesOut_120 (by decide) (fun c_27 => ?_) (fun c_27 => ?_)
              · skip
                have c_27 := ni_ne c_27 hq1 li_2
                refine lv_aload_n hx hb dX11_takesOut_140 rfl (lv_at hl 3 rfl) ?_
                refine tz_get (ci := 8) (v := .ref h4) (C := RX11) (F := TX11) (N := 36) hx hb hU iX11 hown hK hT 0 rfl rfl 11 (by decide) w796 (fun _ h9 => h9) rfl dX11_takesOut_141 ?_
                refine lv_iload hx hb dX11_takesOut_144 (lv_at hl 1 rfl) ?_
                refine lv_lconst (v := 0) hx hb dX11_takesOut_146 (by decide) ?_
                refine tz_lastP hx hb hK hT hS 1 (zJ [1, 2, 3]) rfl (by have := li_1; omega) (z_put0 (z := 1) li_1 (by decide)) dX11_takesOut_147 (fun H locs hT hS => ?_)
                have hT : TP D A [(h0, ob 8 [.int h0f0, .int h0f1, .int h0f2, .int h0f3, .int h0f4, .int h0f5, .ref h1, .ref h2, .int h0f8, .int h0f9, .ref h3, .ref h4, .ref h5, .ref h6, .ref h7, .ref h8, .ref h9, .int h0f17, .int h0f18, .int h0f19, .ref h10, .ref h11, .ref h12, .ref h13, .int h0f24, .int h0f25, .ref h14, .ref h15, .ref h16, .ref h17, .int h0f30, .int h0f31, .ref h18, .ref h19, .ref h20, .ref h21]), (h4, aJ (k 1) 9 (zJ [1, 2, 3])), (h5, aJ (k 1) 9 (zJ [2, 3])), (h7, aJ (k 1) 4 (zJ [3]))] H := hT
                refine lv_iinc (v := 0) (lv' := [(5, .int 0), (6, .long v20), (4, .int 2), (0, .ref h0), (1, .int x1), (2, .int x2), (3, .int x3)]) hx hb dX11_takesOut_148 hl (k := 1) rfl (by decide) (by decide) rfl (fun ls hl => ?_)
                refine lv_goto (tgt := 75) hx hb dX11_takesOut_151 (by decide) ?_
                refine lv_iload hx hb dX11_takesOut_75 (lv_at hl 0 rfl) ?_
                refine lv_iload_n hx hb dX11_takesOut_77 rfl (lv_at hl 4 rfl) ?_
                refine lv_icmp_lt (tgt := 154) hx hb dX11_takesOut_78 (by decide) (fun c_28 => ?_) (fun c_28 => ?_)
                · skip
                  have c_28 := ni_lt c_28 li_0 hq1
                  refine lv_aload_n hx hb dX11_takesOut_154 rfl (lv_at hl 3 rfl) ?_
                  refine tz_get (ci := 8) (v := .ref h4) (C := RX11) (F := TX11) (N := 36) hx hb hU iX11 hown hK hT 0 rfl rfl 11 (by decide) w796 (fun _ h9 => h9) rfl dX11_takesOut_155 ?_
                  refine lv_iconst (v := 0) hx hb dX11_takesOut_158 (by decide) ?_
                  refine tz_lald hx hb hK hT 1 rfl (by have := li_0; omega) dX11_takesOut_159 (fun v29 e_v29 => ?_)
                  clear e_v29
                  refine lv_lconst (v := 0) hx hb dX11_takesOut_160 (by decide) ?_
                  refine W.lcmp hx hb dX11_takesOut_161 ?_
                  refine lv_if_ne (tgt := 176) hx hb dX11_takesOut_162 (by decide) (fun c_30 => ?_) (fun c_30 => ?_)
                  · skip
                    have c_30 := nl_ne c_30 rfl ll_0
                    refine lv_iconst (v := 0) hx hb dX11_takesOut_176 (by decide) ?_
                    have hT := hT.wk (q := 1) rfl (an_J (c := k 1) (n := 9))
                    have hT : TP D A [(h0, ob 8 [.int h0f0, .int h0f1, .int h0f2, .int h0f3, .int h0f4, .int h0f5, .ref h1, .ref h2, .int h0f8, .int h0f9, .ref h3, .ref h4, .ref h5, .ref h6, .ref h7, .ref h8, .ref h9, .int h0f17, .int h0f18, .int h0f19, .ref h10, .ref h11, .ref h12, .ref h13, .int h0f24, .int h0f25, .ref h14, .ref h15, .ref h16, .ref h17, .int h0f30, .int h0f31, .ref h18, .ref h19, .ref h20, .ref h21]), (h4, aJ (k 1) 9 anJ), (h5, aJ (k 1) 9 (zJ [2, 3])), (h7, aJ (k 1) 4 (zJ [3]))] H := hT
                    have hT := hT.wk (q := 2) rfl (an_J (c := k 1) (n := 9))
                    have hT : TP D A [(h0, ob 8 [.int h0f0, .int h0f1, .int h0f2, .int h0f3, .int h0f4, .int h0f5, .ref h1, .ref h2, .int h0f8, .int h0f9, .ref h3, .ref h4, .ref h5, .ref h6, .ref h7, .ref h8, .ref h9, .int h0f17, .int h0f18, .int h0f19, .ref h10, .ref h11, .ref h12, .ref h13, .int h0f24, .int h0f25, .ref h14, .ref h15, .ref h16, .ref h17, .int h0f30, .int h0f31, .ref h18, .ref h19, .ref h20, .ref h21]), (h4, aJ (k 1) 9 anJ), (h5, aJ (k 1) 9 anJ), (h7, aJ (k 1) 4 (zJ [3]))] H := hT
                    have hT := hT.wk (q := 3) rfl (an_J (c := k 1) (n := 4))
                    have hT : TP D A [(h0, ob 8 [.int h0f0, .int h0f1, .int h0f2, .int h0f3, .int h0f4, .int h0f5, .ref h1, .ref h2, .int h0f8, .int h0f9, .ref h3, .ref h4, .ref h5, .ref h6, .ref h7, .ref h8, .ref h9, .int h0f17, .int h0f18, .int h0f19, .ref h10, .ref h11, .ref h12, .ref h13, .int h0f24, .int h0f25, .ref h14, .ref h15, .ref h16, .ref h17, .int h0f30, .int h0f31, .ref h18, .ref h19, .ref h20, .ref h21]), (h4, aJ (k 1) 9 anJ), (h5, aJ (k 1) 9 anJ), (h7, aJ (k 1) 4 anJ)] H := hT
                    exact tz_retZ (B := B_cX11_takesOut_75942 D k h0 h4 h5 h7 h1 h2 h3 h6 h8 h9 h10 h11 h12 h13 h14 h15 h16 h17 h18 h19 h20 h21 x1 x2 x3 h0f0 h0f1 h0f2 h0f3 h0f4 h0f5 h0f8 h0f9 h0f17 h0f18 h0f19 h0f24 h0f25 h0f30 h0f31) (v := 0) hQ hx hb hr hlocks hS (Nat.le_of_ble_eq_true rfl) (Nat.le_of_ble_eq_true rfl) dX11_takesOut_177 (by have := li_0; omega) (Or.inl ⟨rfl, hT⟩)
                  · skip
                    have c_30 := nl_eq c_30 rfl ll_0
                    refine lv_aload_n hx hb dX11_takesOut_165 rfl (lv_at hl 3 rfl) ?_
                    refine tz_get (ci := 8) (v := .ref h4) (C := RX11) (F := TX11) (N := 36) hx hb hU iX11 hown hK hT 0 rfl rfl 11 (by decide) w796 (fun _ h9 => h9) rfl dX11_takesOut_166 ?_
                    refine lv_iconst (v := 1) hx hb dX11_takesOut_169 (by decide) ?_
                    refine tz_lald hx hb hK hT 1 rfl (by have := li_1; omega) dX11_takesOut_170 (fun v31 e_v31 => ?_)
                    have e_v31 := z_get (z := 1) e_v31 li_1 (by decide)
                    subst e_v31
                    refine lv_lconst (v := 0) hx hb dX11_takesOut_171 (by decide) ?_
                    refine W.lcmp hx hb dX11_takesOut_172 (sv_i (v := 0) (by decide +kernel) ?_)
                    refine lv_if_eq (tgt := 178) hx hb dX11_takesOut_173 (by decide) (fun _ => ?_) (fun cc => absurd (by decide +kernel) cc)
                    refine lv_iconst (v := 0) hx hb dX11_takesOut_178 (by decide) ?_
                    refine lv_istore (lv' := [(5, .int 0), (6, .long v20), (4, .int 2), (0, .ref h0), (1, .int x1), (2, .int x2), (3, .int x3)]) hx hb dX11_takesOut_179 hl (by decide) rfl (fun ls hl => ?_)
                    refine lv_iload hx hb dX11_takesOut_181 (lv_at hl 0 rfl) ?_
                    refine lv_iconst (v := 4) hx hb dX11_takesOut_183 (by decide) ?_
                    refine lv_icmp_ge (tgt := 207) hx hb dX11_takesOut_184 (by decide) (fun cc => absurd cc (by decide +kernel)) (fun _ => ?_)
                    refine lv_aload_n hx hb dX11_takesOut_187 rfl (lv_at hl 3 rfl) ?_
                    refine tz_get (ci := 8) (v := .ref h7) (C := RX11) (F := TX11) (N := 36) hx hb hU iX11 hown hK hT 0 rfl rfl 14 (by decide) w799 (fun _ h9 => h9) rfl dX11_takesOut_188 ?_
                    refine lv_iload hx hb dX11_takesOut_191 (lv_at hl 0 rfl) ?_
                    refine lv_aload_n hx hb dX11_takesOut_193 rfl (lv_at hl 3 rfl) ?_
                    refine tz_get (ci := 8) (v := .ref h5) (C := RX11) (F := TX11) (N := 36) hx hb hU iX11 hown hK hT 0 rfl rfl 12 (by decide) w797 (fun _ h9 => h9) rfl dX11_takesOut_194 ?_
                    refine lv_iload hx hb dX11_takesOut_197 (lv_at hl 0 rfl) ?_
                    refine tz_lald hx hb hK hT 2 rfl (by have := li_0; omega) dX11_takesOut_199 (fun v32 e_v32 => ?_)
                    clear e_v32
                    refine tz_lastP hx hb hK hT hS 3 (zJ [3]) rfl (by have := li_0; omega) (z_putx (z := 0) li_0 (by decide)) dX11_takesOut_200 (fun H locs hT hS => ?_)
                    have hT : TP D A [(h0, ob 8 [.int h0f0, .int h0f1, .int h0f2, .int h0f3, .int h0f4, .int h0f5, .ref h1, .ref h2, .int h0f8, .int h0f9, .ref h3, .ref h4, .ref h5, .ref h6, .ref h7, .ref h8, .ref h9, .int h0f17, .int h0f18, .int h0f19, .ref h10, .ref h11, .ref h12, .ref h13, .int h0f24, .int h0f25, .ref h14, .ref h15, .ref h16, .ref h17, .int h0f30, .int h0f31, .ref h18, .ref h19, .ref h20, .ref h21]), (h4, aJ (k 1) 9 (zJ [1, 2, 3])), (h5, aJ (k 1) 9 (zJ [2, 3])), (h7, aJ (k 1) 4 (zJ [3]))] H := hT
                    refine lv_iinc (v := 1) (lv' := [(5, .int 1), (6, .long v20), (4, .int 2), (0, .ref h0), (1, .int x1), (2, .int x2), (3, .int x3)]) hx hb dX11_takesOut_201 hl (k := 0) rfl (by decide) (by decide) rfl (fun ls hl => ?_)
                    refine lv_goto (tgt := 181) hx hb dX11_takesOut_204 (by decide) ?_
                    refine lv_iload hx hb dX11_takesOut_181 (lv_at hl 0 rfl) ?_
                    refine lv_iconst (v := 4) hx hb dX11_takesOut_183 (by decide) ?_
                    refine lv_icmp_ge (tgt := 207) hx hb dX11_takesOut_184 (by decide) (fun cc => absurd cc (by decide +kernel)) (fun _ => ?_)
                    refine lv_aload_n hx hb dX11_takesOut_187 rfl (lv_at hl 3 rfl) ?_
                    refine tz_get (ci := 8) (v := .ref h7) (C := RX11) (F := TX11) (N := 36) hx hb hU iX11 hown hK hT 0 rfl rfl 14 (by decide) w799 (fun _ h9 => h9) rfl dX11_takesOut_188 ?_
                    refine lv_iload hx hb dX11_takesOut_191 (lv_at hl 0 rfl) ?_
                    refine lv_aload_n hx hb dX11_takesOut_193 rfl (lv_at hl 3 rfl) ?_
                    refine tz_get (ci := 8) (v := .ref h5) (C := RX11) (F := TX11) (N := 36) hx hb hU iX11 hown hK hT 0 rfl rfl 12 (by decide) w797 (fun _ h9 => h9) rfl dX11_takesOut_194 ?_
                    refine lv_iload hx hb dX11_takesOut_197 (lv_at hl 0 rfl) ?_
                    refine tz_lald hx hb hK hT 2 rfl (by have := li_1; omega) dX11_takesOut_199 (fun v33 e_v33 => ?_)
                    clear e_v33
                    refine tz_lastP hx hb hK hT hS 3 (zJ [3]) rfl (by have := li_1; omega) (z_putx (z := 1) li_1 (by decide)) dX11_takesOut_200 (fun H locs hT hS => ?_)
                    have hT : TP D A [(h0, ob 8 [.int h0f0, .int h0f1, .int h0f2, .int h0f3, .int h0f4, .int h0f5, .ref h1, .ref h2, .int h0f8, .int h0f9, .ref h3, .ref h4, .ref h5, .ref h6, .ref h7, .ref h8, .ref h9, .int h0f17, .int h0f18, .int h0f19, .ref h10, .ref h11, .ref h12, .ref h13, .int h0f24, .int h0f25, .ref h14, .ref h15, .ref h16, .ref h17, .int h0f30, .int h0f31, .ref h18, .ref h19, .ref h20, .ref h21]), (h4, aJ (k 1) 9 (zJ [1, 2, 3])), (h5, aJ (k 1) 9 (zJ [2, 3])), (h7, aJ (k 1) 4 (zJ [3]))] H := hT
                    refine lv_iinc (v := 2) (lv' := [(5, .int 2), (6, .long v20), (4, .int 2), (0, .ref h0), (1, .int x1), (2, .int x2), (3, .int x3)]) hx hb dX11_takesOut_201 hl (k := 0) rfl (by decide) (by decide) rfl (fun ls hl => ?_)
                    refine lv_goto (tgt := 181) hx hb dX11_takesOut_204 (by decide) ?_
                    refine lv_iload hx hb dX11_takesOut_181 (lv_at hl 0 rfl) ?_
                    refine lv_iconst (v := 4) hx hb dX11_takesOut_183 (by decide) ?_
                    refine lv_icmp_ge (tgt := 207) hx hb dX11_takesOut_184 (by decide) (fun cc => absurd cc (by decide +kernel)) (fun _ => ?_)
                    refine lv_aload_n hx hb dX11_takesOut_187 rfl (lv_at hl 3 rfl) ?_
                    refine tz_get (ci := 8) (v := .ref h7) (C := RX11) (F := TX11) (N := 36) hx hb hU iX11 hown hK hT 0 rfl rfl 14 (by decide) w799 (fun _ h9 => h9) rfl dX11_takesOut_188 ?_
                    refine lv_iload hx hb dX11_takesOut_191 (lv_at hl 0 rfl) ?_
                    refine lv_aload_n hx hb dX11_takesOut_193 rfl (lv_at hl 3 rfl) ?_
                    refine tz_get (ci := 8) (v := .ref h5) (C := RX11) (F := TX11) (N := 36) hx hb hU iX11 hown hK hT 0 rfl rfl 12 (by decide) w797 (fun _ h9 => h9) rfl dX11_takesOut_194 ?_
                    refine lv_iload hx hb dX11_takesOut_197 (lv_at hl 0 rfl) ?_
                    refine tz_lald hx hb hK hT 2 rfl (by have := li_2; omega) dX11_takesOut_199 (fun v34 e_v34 => ?_)
                    have e_v34 := z_get (z := 2) e_v34 li_2 (by decide)
                    subst e_v34
                    refine tz_lastP hx hb hK hT hS 3 (zJ [2, 3]) rfl (by have := li_2; omega) (z_put0 (z := 2) li_2 (by decide)) dX11_takesOut_200 (fun H locs hT hS => ?_)
                    have hT : TP D A [(h0, ob 8 [.int h0f0, .int h0f1, .int h0f2, .int h0f3, .int h0f4, .int h0f5, .ref h1, .ref h2, .int h0f8, .int h0f9, .ref h3, .ref h4, .ref h5, .ref h6, .ref h7, .ref h8, .ref h9, .int h0f17, .int h0f18, .int h0f19, .ref h10, .ref h11, .ref h12, .ref h13, .int h0f24, .int h0f25, .ref h14, .ref h15, .ref h16, .ref h17, .int h0f30, .int h0f31, .ref h18, .ref h19, .ref h20, .ref h21]), (h4, aJ (k 1) 9 (zJ [1, 2, 3])), (h5, aJ (k 1) 9 (zJ [2, 3])), (h7, aJ (k 1) 4 (zJ [2, 3]))] H := hT
                    refine lv_iinc (v := 3) (lv' := [(5, .int 3), (6, .long v20), (4, .int 2), (0, .ref h0), (1, .int x1), (2, .int x2), (3, .int x3)]) hx hb dX11_takesOut_201 hl (k := 0) rfl (by decide) (by decide) rfl (fun ls hl => ?_)
                    refine lv_goto (tgt := 181) hx hb dX11_takesOut_204 (by decide) ?_
                    refine lv_iload hx hb dX11_takesOut_181 (lv_at hl 0 rfl) ?_
                    refine lv_iconst (v := 4) hx hb dX11_takesOut_183 (by decide) ?_
                    refine lv_icmp_ge (tgt := 207) hx hb dX11_takesOut_184 (by decide) (fun cc => absurd cc (by decide +kernel)) (fun _ => ?_)
                    refine lv_aload_n hx hb dX11_takesOut_187 rfl (lv_at hl 3 rfl) ?_
                    refine tz_get (ci := 8) (v := .ref h7) (C := RX11) (F := TX11) (N := 36) hx hb hU iX11 hown hK hT 0 rfl rfl 14 (by decide) w799 (fun _ h9 => h9) rfl dX11_takesOut_188 ?_
                    refine lv_iload hx hb dX11_takesOut_191 (lv_at hl 0 rfl) ?_
                    refine lv_aload_n hx hb dX11_takesOut_193 rfl (lv_at hl 3 rfl) ?_
                    refine tz_get (ci := 8) (v := .ref h5) (C := RX11) (F := TX11) (N := 36) hx hb hU iX11 hown hK hT 0 rfl rfl 12 (by decide) w797 (fun _ h9 => h9) rfl dX11_takesOut_194 ?_
                    refine lv_iload hx hb dX11_takesOut_197 (lv_at hl 0 rfl) ?_
                    refine tz_lald hx hb hK hT 2 rfl (by have := li_3; omega) dX11_takesOut_199 (fun v35 e_v35 => ?_)
                    have e_v35 := z_get (z := 3) e_v35 li_3 (by decide)
                    subst e_v35
                    refine tz_lastP hx hb hK hT hS 3 (zJ [2, 3]) rfl (by have := li_3; omega) (z_put0 (z := 3) li_3 (by decide)) dX11_takesOut_200 (fun H locs hT hS => ?_)
                    have hT : TP D A [(h0, ob 8 [.int h0f0, .int h0f1, .int h0f2, .int h0f3, .int h0f4, .int h0f5, .ref h1, .ref h2, .int h0f8, .int h0f9, .ref h3, .ref h4, .ref h5, .ref h6, .ref h7, .ref h8, .ref h9, .int h0f17, .int h0f18, .int h0f19, .ref h10, .ref h11, .ref h12, .ref h13, .int h0f24, .int h0f25, .ref h14, .ref h15, .ref h16, .ref h17, .int h0f30, .int h0f31, .ref h18, .ref h19, .ref h20, .ref h21]), (h4, aJ (k 1) 9 (zJ [1, 2, 3])), (h5, aJ (k 1) 9 (zJ [2, 3])), (h7, aJ (k 1) 4 (zJ [2, 3]))] H := hT
                    refine lv_iinc (v := 4) (lv' := [(5, .int 4), (6, .long v20), (4, .int 2), (0, .ref h0), (1, .int x1), (2, .int x2), (3, .int x3)]) hx hb dX11_takesOut_201 hl (k := 0) rfl (by decide) (by decide) rfl (fun ls hl => ?_)
                    refine lv_goto (tgt := 181) hx hb dX11_takesOut_204 (by decide) ?_
                    refine lv_iload hx hb dX11_takesOut_181 (lv_at hl 0 rfl) ?_
                    refine lv_iconst (v := 4) hx hb dX11_takesOut_183 (by decide) ?_
                    refine lv_icmp_ge (tgt := 207) hx hb dX11_takesOut_184 (by decide) (fun _ => ?_) (fun cc => absurd (by decide +kernel) cc)
                    refine lv_iconst (v := 1) hx hb dX11_takesOut_207 (by decide) ?_
                    have hT := hT.wk (q := 1) rfl (an_J (c := k 1) (n := 9))
                    have hT : TP D A [(h0, ob 8 [.int h0f0, .int h0f1, .int h0f2, .int h0f3, .int h0f4, .int h0f5, .ref h1, .ref h2, .int h0f8, .int h0f9, .ref h3, .ref h4, .ref h5, .ref h6, .ref h7, .ref h8, .ref h9, .int h0f17, .int h0f18, .int h0f19, .ref h10, .ref h11, .ref h12, .ref h13, .int h0f24, .int h0f25, .ref h14, .ref h15, .ref h16, .ref h17, .int h0f30, .int h0f31, .ref h18, .ref h19, .ref h20, .ref h21]), (h4, aJ (k 1) 9 anJ), (h5, aJ (k 1) 9 (zJ [2, 3])), (h7, aJ (k 1) 4 (zJ [2, 3]))] H := hT
                    have hT := hT.wk (q := 2) rfl (an_J (c := k 1) (n := 9))
                    have hT : TP D A [(h0, ob 8 [.int h0f0, .int h0f1, .int h0f2, .int h0f3, .int h0f4, .int h0f5, .ref h1, .ref h2, .int h0f8, .int h0f9, .ref h3, .ref h4, .ref h5, .ref h6, .ref h7, .ref h8, .ref h9, .int h0f17, .int h0f18, .int h0f19, .ref h10, .ref h11, .ref h12, .ref h13, .int h0f24, .int h0f25, .ref h14, .ref h15, .ref h16, .ref h17, .int h0f30, .int h0f31, .ref h18, .ref h19, .ref h20, .ref h21]), (h4, aJ (k 1) 9 anJ), (h5, aJ (k 1) 9 anJ), (h7, aJ (k 1) 4 (zJ [2, 3]))] H := hT
                    exact tz_retZ (B := B_cX11_takesOut_75942 D k h0 h4 h5 h7 h1 h2 h3 h6 h8 h9 h10 h11 h12 h13 h14 h15 h16 h17 h18 h19 h20 h21 x1 x2 x3 h0f0 h0f1 h0f2 h0f3 h0f4 h0f5 h0f8 h0f9 h0f17 h0f18 h0f19 h0f24 h0f25 h0f30 h0f31) (v := 1) hQ hx hb hr hlocks hS (Nat.le_of_ble_eq_true rfl) (Nat.le_of_ble_eq_true rfl) dX11_takesOut_208 (by have := li_1; omega) (Or.inr (Or.inl ⟨v3, v29, (by have := li_1; omega), (by have := li_1; omega), (by have := li_1; omega), (by have := li_1; omega), (by have := li_1; omega), (by have := li_1; omega), (by have := li_1; omega), (by have := li_1; omega), rfl, hT⟩))
                · skip
                  have c_28 := ni_nlt c_28 li_0 hq1
                  exfalso; omega
              · skip
                have c_27 := ni_eq c_27 hq1 li_2
                exfalso; omega
          · skip
            have c_18 := ni_eq c_18 hq1 li_2
            exfalso; omega
      · skip
        have c_5 := ni_nle c_5 hq1 li_2
        exfalso; omega
    · skip
      have c_4 := nl_eq c_4 rfl ll_0
      refine lv_iinc (v := 1) (lv' := [(4, .int 1), (0, .ref h0), (1, .int x1), (2, .int x2), (3, .int x3)]) hx hb dX11_takesOut_20 hl (k := 0) rfl (by decide) (by decide) rfl (fun ls hl => ?_)
      refine lv_goto (tgt := 3) hx hb dX11_takesOut_23 (by decide) ?_
      refine lv_iload hx hb dX11_takesOut_3 (lv_at hl 0 rfl) ?_
      refine lv_if_le (tgt := 26) hx hb dX11_takesOut_5 (by decide) (fun cc => absurd cc (by decide +kernel)) (fun _ => ?_)
      refine lv_aload_n hx hb dX11_takesOut_8 rfl (lv_at hl 1 rfl) ?_
      refine tz_get (ci := 8) (v := .ref h7) (C := RX11) (F := TX11) (N := 36) hx hb hU iX11 hown hK hT 0 rfl rfl 14 (by decide) w799 (fun _ h9 => h9) rfl dX11_takesOut_9 ?_
      refine lv_iload hx hb dX11_takesOut_12 (lv_at hl 0 rfl) ?_
      refine tz_lald hx hb hK hT 3 rfl (by have := li_1; omega) dX11_takesOut_14 (fun v36 e_v36 => ?_)
      clear e_v36
      refine lv_lconst (v := 0) hx hb dX11_takesOut_15 (by decide) ?_
      refine W.lcmp hx hb dX11_takesOut_16 ?_
      refine lv_if_ne (tgt := 26) hx hb dX11_takesOut_17 (by decide) (fun c_37 => ?_) (fun c_37 => ?_)
      · skip
        have c_37 := nl_ne c_37 rfl ll_0
        refine lv_iload hx hb dX11_takesOut_26 (lv_at hl 0 rfl) ?_
        refine lv_iload_n hx hb dX11_takesOut_28 rfl (lv_at hl 2 rfl) ?_
        refine lv_icmp_ge (tgt := 34) hx hb dX11_takesOut_29 (by decide) (fun c_38 => ?_) (fun c_38 => ?_)
        · skip
          have c_38 := ni_le c_38 hq1 li_1
          refine lv_iconst (v := 0) hx hb dX11_takesOut_34 (by decide) ?_
          refine lv_istore (lv' := [(5, .int 0), (4, .int 1), (0, .ref h0), (1, .int x1), (2, .int x2), (3, .int x3)]) hx hb dX11_takesOut_35 hl (by decide) rfl (fun ls hl => ?_)
          refine lv_iload hx hb dX11_takesOut_37 (lv_at hl 0 rfl) ?_
          refine lv_iconst (v := 4) hx hb dX11_takesOut_39 (by decide) ?_
          refine lv_icmp_ge (tgt := 71) hx hb dX11_takesOut_40 (by decide) (fun cc => absurd cc (by decide +kernel)) (fun _ => ?_)
          refine lv_aload_n hx hb dX11_takesOut_43 rfl (lv_at hl 2 rfl) ?_
          refine tz_get (ci := 8) (v := .ref h4) (C := RX11) (F := TX11) (N := 36) hx hb hU iX11 hown hK hT 0 rfl rfl 11 (by decide) w796 (fun _ h9 => h9) rfl dX11_takesOut_44 ?_
          refine lv_iload hx hb dX11_takesOut_47 (lv_at hl 0 rfl) ?_
          refine lv_aload_n hx hb dX11_takesOut_49 rfl (lv_at hl 2 rfl) ?_
          refine tz_get (ci := 8) (v := .ref h7) (C := RX11) (F := TX11) (N := 36) hx hb hU iX11 hown hK hT 0 rfl rfl 14 (by decide) w799 (fun _ h9 => h9) rfl dX11_takesOut_50 ?_
          refine lv_iload hx hb dX11_takesOut_53 (lv_at hl 0 rfl) ?_
          refine tz_lald hx hb hK hT 3 rfl (by have := li_0; omega) dX11_takesOut_55 (fun v39 e_v39 => ?_)
          clear e_v39
          have hT := hT.wk (q := 1) rfl (z_of (c := k 1) (n := 9))
          have hT : TP D A [(h0, ob 8 [.int h0f0, .int h0f1, .int h0f2, .int h0f3, .int h0f4, .int h0f5, .ref h1, .ref h2, .int h0f8, .int h0f9, .ref h3, .ref h4, .ref h5, .ref h6, .ref h7, .ref h8, .ref h9, .int h0f17, .int h0f18, .int h0f19, .ref h10, .ref h11, .ref h12, .ref h13, .int h0f24, .int h0f25, .ref h14, .ref h15, .ref h16, .ref h17, .int h0f30, .int h0f31, .ref h18, .ref h19, .ref h20, .ref h21]), (h4, aJ (k 1) 9 (zJ [])), (h5, aJ (k 1) 9 anJ), (h7, aJ (k 1) 4 (zJ [3]))] H := hT
          refine tz_lastP hx hb hK hT hS 1 (zJ []) rfl (by have := li_0; omega) (z_putx (z := 0) li_0 (by decide)) dX11_takesOut_56 (fun H locs hT hS => ?_)
          have hT : TP D A [(h0, ob 8 [.int h0f0, .int h0f1, .int h0f2, .int h0f3, .int h0f4, .int h0f5, .ref h1, .ref h2, .int h0f8, .int h0f9, .ref h3, .ref h4, .ref h5, .ref h6, .ref h7, .ref h8, .ref h9, .int h0f17, .int h0f18, .int h0f19, .ref h10, .ref h11, .ref h12, .ref h13, .int h0f24, .int h0f25, .ref h14, .ref h15, .ref h16, .ref h17, .int h0f30, .int h0f31, .ref h18, .ref h19, .ref h20, .ref h21]), (h4, aJ (k 1) 9 (zJ [])), (h5, aJ (k 1) 9 anJ), (h7, aJ (k 1) 4 (zJ [3]))] H := hT
          refine lv_aload_n hx hb dX11_takesOut_57 rfl (lv_at hl 2 rfl) ?_
          refine tz_get (ci := 8) (v := .ref h5) (C := RX11) (F := TX11) (N := 36) hx hb hU iX11 hown hK hT 0 rfl rfl 12 (by decide) w797 (fun _ h9 => h9) rfl dX11_takesOut_58 ?_
          refine lv_iload hx hb dX11_takesOut_61 (lv_at hl 0 rfl) ?_
          refine lv_lconst (v := 0) hx hb dX11_takesOut_63 (by decide) ?_
          have hT := hT.wk (q := 2) rfl (z_of (c := k 1) (n := 9))
          have hT : TP D A [(h0, ob 8 [.int h0f0, .int h0f1, .int h0f2, .int h0f3, .int h0f4, .int h0f5, .ref h1, .ref h2, .int h0f8, .int h0f9, .ref h3, .ref h4, .ref h5, .ref h6, .ref h7, .ref h8, .ref h9, .int h0f17, .int h0f18, .int h0f19, .ref h10, .ref h11, .ref h12, .ref h13, .int h0f24, .int h0f25, .ref h14, .ref h15, .ref h16, .ref h17, .int h0f30, .int h0f31, .ref h18, .ref h19, .ref h20, .ref h21]), (h4, aJ (k 1) 9 (zJ [])), (h5, aJ (k 1) 9 (zJ [])), (h7, aJ (k 1) 4 (zJ [3]))] H := hT
          refine tz_lastP hx hb hK hT hS 2 (zJ [0]) rfl (by have := li_0; omega) (z_put0 (z := 0) li_0 (by decide)) dX11_takesOut_64 (fun H locs hT hS => ?_)
          have hT : TP D A [(h0, ob 8 [.int h0f0, .int h0f1, .int h0f2, .int h0f3, .int h0f4, .int h0f5, .ref h1, .ref h2, .int h0f8, .int h0f9, .ref h3, .ref h4, .ref h5, .ref h6, .ref h7, .ref h8, .ref h9, .int h0f17, .int h0f18, .int h0f19, .ref h10, .ref h11, .ref h12, .ref h13, .int h0f24, .int h0f25, .ref h14, .ref h15, .ref h16, .ref h17, .int h0f30, .int h0f31, .ref h18, .ref h19, .ref h20, .ref h21]), (h4, aJ (k 1) 9 (zJ [])), (h5, aJ (k 1) 9 (zJ [0])), (h7, aJ (k 1) 4 (zJ [3]))] H := hT
          refine lv_iinc (v := 1) (lv' := [(5, .int 1), (4, .int 1), (0, .ref h0), (1, .int x1), (2, .int x2), (3, .int x3)]) hx hb dX11_takesOut_65 hl (k := 0) rfl (by decide) (by decide) rfl (fun ls hl => ?_)
          refine lv_goto (tgt := 37) hx hb dX11_takesOut_68 (by decide) ?_
          refine lv_iload hx hb dX11_takesOut_37 (lv_at hl 0 rfl) ?_
          refine lv_iconst (v := 4) hx hb dX11_takesOut_39 (by decide) ?_
          refine lv_icmp_ge (tgt := 71) hx hb dX11_takesOut_40 (by decide) (fun cc => absurd cc (by decide +kernel)) (fun _ => ?_)
          refine lv_aload_n hx hb dX11_takesOut_43 rfl (lv_at hl 2 rfl) ?_
          refine tz_get (ci := 8) (v := .ref h4) (C := RX11) (F := TX11) (N := 36) hx hb hU iX11 hown hK hT 0 rfl rfl 11 (by decide) w796 (fun _ h9 => h9) rfl dX11_takesOut_44 ?_
          refine lv_iload hx hb dX11_takesOut_47 (lv_at hl 0 rfl) ?_
          refine lv_aload_n hx hb dX11_takesOut_49 rfl (lv_at hl 2 rfl) ?_
          refine tz_get (ci := 8) (v := .ref h7) (C := RX11) (F := TX11) (N := 36) hx hb hU iX11 hown hK hT 0 rfl rfl 14 (by decide) w799 (fun _ h9 => h9) rfl dX11_takesOut_50 ?_
          refine lv_iload hx hb dX11_takesOut_53 (lv_at hl 0 rfl) ?_
          refine tz_lald hx hb hK hT 3 rfl (by have := li_1; omega) dX11_takesOut_55 (fun v40 e_v40 => ?_)
          clear e_v40
          refine tz_lastP hx hb hK hT hS 1 (zJ []) rfl (by have := li_1; omega) (z_putx (z := 1) li_1 (by decide)) dX11_takesOut_56 (fun H locs hT hS => ?_)
          have hT : TP D A [(h0, ob 8 [.int h0f0, .int h0f1, .int h0f2, .int h0f3, .int h0f4, .int h0f5, .ref h1, .ref h2, .int h0f8, .int h0f9, .ref h3, .ref h4, .ref h5, .ref h6, .ref h7, .ref h8, .ref h9, .int h0f17, .int h0f18, .int h0f19, .ref h10, .ref h11, .ref h12, .ref h13, .int h0f24, .int h0f25, .ref h14, .ref h15, .ref h16, .ref h17, .int h0f30, .int h0f31, .ref h18, .ref h19, .ref h20, .ref h21]), (h4, aJ (k 1) 9 (zJ [])), (h5, aJ (k 1) 9 (zJ [0])), (h7, aJ (k 1) 4 (zJ [3]))] H := hT
          refine lv_aload_n hx hb dX11_takesOut_57 rfl (lv_at hl 2 rfl) ?_
          refine tz_get (ci := 8) (v := .ref h5) (C := RX11) (F := TX11) (N := 36) hx hb hU iX11 hown hK hT 0 rfl rfl 12 (by decide) w797 (fun _ h9 => h9) rfl dX11_takesOut_58 ?_
          refine lv_iload hx hb dX11_takesOut_61 (lv_at hl 0 rfl) ?_
          refine lv_lconst (v := 0) hx hb dX11_takesOut_63 (by decide) ?_
          refine tz_lastP hx hb hK hT hS 2 (zJ [0, 1]) rfl (by have := li_1; omega) (z_put0 (z := 1) li_1 (by decide)) dX11_takesOut_64 (fun H locs hT hS => ?_)
          have hT : TP D A [(h0, ob 8 [.int h0f0, .int h0f1, .int h0f2, .int h0f3, .int h0f4, .int h0f5, .ref h1, .ref h2, .int h0f8, .int h0f9, .ref h3, .ref h4, .ref h5, .ref h6, .ref h7, .ref h8, .ref h9, .int h0f17, .int h0f18, .int h0f19, .ref h10, .ref h11, .ref h12, .ref h13, .int h0f24, .int h0f25, .ref h14, .ref h15, .ref h16, .ref h17, .int h0f30, .int h0f31, .ref h18, .ref h19, .ref h20, .ref h21]), (h4, aJ (k 1) 9 (zJ [])), (h5, aJ (k 1) 9 (zJ [0, 1])), (h7, aJ (k 1) 4 (zJ [3]))] H := hT
          refine lv_iinc (v := 2) (lv' := [(5, .int 2), (4, .int 1), (0, .ref h0), (1, .int x1), (2, .int x2), (3, .int x3)]) hx hb dX11_takesOut_65 hl (k := 0) rfl (by decide) (by decide) rfl (fun ls hl => ?_)
          refine lv_goto (tgt := 37) hx hb dX11_takesOut_68 (by decide) ?_
          refine lv_iload hx hb dX11_takesOut_37 (lv_at hl 0 rfl) ?_
          refine lv_iconst (v := 4) hx hb dX11_takesOut_39 (by decide) ?_
          refine lv_icmp_ge (tgt := 71) hx hb dX11_takesOut_40 (by decide) (fun cc => absurd cc (by decide +kernel)) (fun _ => ?_)
          refine lv_aload_n hx hb dX11_takesOut_43 rfl (lv_at hl 2 rfl) ?_
          refine tz_get (ci := 8) (v := .ref h4) (C := RX11) (F := TX11) (N := 36) hx hb hU iX11 hown hK hT 0 rfl rfl 11 (by decide) w796 (fun _ h9 => h9) rfl dX11_takesOut_44 ?_
          refine lv_iload hx hb dX11_takesOut_47 (lv_at hl 0 rfl) ?_
          refine lv_aload_n hx hb dX11_takesOut_49 rfl (lv_at hl 2 rfl) ?_
          refine tz_get (ci := 8) (v := .ref h7) (C := RX11) (F := TX11) (N := 36) hx hb hU iX11 hown hK hT 0 rfl rfl 14 (by decide) w799 (fun _ h9 => h9) rfl dX11_takesOut_50 ?_
          refine lv_iload hx hb dX11_takesOut_53 (lv_at hl 0 rfl) ?_
          refine tz_lald hx hb hK hT 3 rfl (by have := li_2; omega) dX11_takesOut_55 (fun v41 e_v41 => ?_)
          clear e_v41
          refine tz_lastP hx hb hK hT hS 1 (zJ []) rfl (by have := li_2; omega) (z_putx (z := 2) li_2 (by decide)) dX11_takesOut_56 (fun H locs hT hS => ?_)
          have hT : TP D A [(h0, ob 8 [.int h0f0, .int h0f1, .int h0f2, .int h0f3, .int h0f4, .int h0f5, .ref h1, .ref h2, .int h0f8, .int h0f9, .ref h3, .ref h4, .ref h5, .ref h6, .ref h7, .ref h8, .ref h9, .int h0f17, .int h0f18, .int h0f19, .ref h10, .ref h11, .ref h12, .ref h13, .int h0f24, .int h0f25, .ref h14, .ref h15, .ref h16, .ref h17, .int h0f30, .int h0f31, .ref h18, .ref h19, .ref h20, .ref h21]), (h4, aJ (k 1) 9 (zJ [])), (h5, aJ (k 1) 9 (zJ [0, 1])), (h7, aJ (k 1) 4 (zJ [3]))] H := hT
          refine lv_aload_n hx hb dX11_takesOut_57 rfl (lv_at hl 2 rfl) ?_
          refine tz_get (ci := 8) (v := .ref h5) (C := RX11) (F := TX11) (N := 36) hx hb hU iX11 hown hK hT 0 rfl rfl 12 (by decide) w797 (fun _ h9 => h9) rfl dX11_takesOut_58 ?_
          refine lv_iload hx hb dX11_takesOut_61 (lv_at hl 0 rfl) ?_
          refine lv_lconst (v := 0) hx hb dX11_takesOut_63 (by decide) ?_
          refine tz_lastP hx hb hK hT hS 2 (zJ [0, 1, 2]) rfl (by have := li_2; omega) (z_put0 (z := 2) li_2 (by decide)) dX11_takesOut_64 (fun H locs hT hS => ?_)
          have hT : TP D A [(h0, ob 8 [.int h0f0, .int h0f1, .int h0f2, .int h0f3, .int h0f4, .int h0f5, .ref h1, .ref h2, .int h0f8, .int h0f9, .ref h3, .ref h4, .ref h5, .ref h6, .ref h7, .ref h8, .ref h9, .int h0f17, .int h0f18, .int h0f19, .ref h10, .ref h11, .ref h12, .ref h13, .int h0f24, .int h0f25, .ref h14, .ref h15, .ref h16, .ref h17, .int h0f30, .int h0f31, .ref h18, .ref h19, .ref h20, .ref h21]), (h4, aJ (k 1) 9 (zJ [])), (h5, aJ (k 1) 9 (zJ [0, 1, 2])), (h7, aJ (k 1) 4 (zJ [3]))] H := hT
          refine lv_iinc (v := 3) (lv' := [(5, .int 3), (4, .int 1), (0, .ref h0), (1, .int x1), (2, .int x2), (3, .int x3)]) hx hb dX11_takesOut_65 hl (k := 0) rfl (by decide) (by decide) rfl (fun ls hl => ?_)
          refine lv_goto (tgt := 37) hx hb dX11_takesOut_68 (by decide) ?_
          refine lv_iload hx hb dX11_takesOut_37 (lv_at hl 0 rfl) ?_
          refine lv_iconst (v := 4) hx hb dX11_takesOut_39 (by decide) ?_
          refine lv_icmp_ge (tgt := 71) hx hb dX11_takesOut_40 (by decide) (fun cc => absurd cc (by decide +kernel)) (fun _ => ?_)
          refine lv_aload_n hx hb dX11_takesOut_43 rfl (lv_at hl 2 rfl) ?_
          refine tz_get (ci := 8) (v := .ref h4) (C := RX11) (F := TX11) (N := 36) hx hb hU iX11 hown hK hT 0 rfl rfl 11 (by decide) w796 (fun _ h9 => h9) rfl dX11_takesOut_44 ?_
          refine lv_iload hx hb dX11_takesOut_47 (lv_at hl 0 rfl) ?_
          refine lv_aload_n hx hb dX11_takesOut_49 rfl (lv_at hl 2 rfl) ?_
          refine tz_get (ci := 8) (v := .ref h7) (C := RX11) (F := TX11) (N := 36) hx hb hU iX11 hown hK hT 0 rfl rfl 14 (by decide) w799 (fun _ h9 => h9) rfl dX11_takesOut_50 ?_
          refine lv_iload hx hb dX11_takesOut_53 (lv_at hl 0 rfl) ?_
          refine tz_lald hx hb hK hT 3 rfl (by have := li_3; omega) dX11_takesOut_55 (fun v42 e_v42 => ?_)
          have e_v42 := z_get (z := 3) e_v42 li_3 (by decide)
          subst e_v42
          refine tz_lastP hx hb hK hT hS 1 (zJ [3]) rfl (by have := li_3; omega) (z_put0 (z := 3) li_3 (by decide)) dX11_takesOut_56 (fun H locs hT hS => ?_)
          have hT : TP D A [(h0, ob 8 [.int h0f0, .int h0f1, .int h0f2, .int h0f3, .int h0f4, .int h0f5, .ref h1, .ref h2, .int h0f8, .int h0f9, .ref h3, .ref h4, .ref h5, .ref h6, .ref h7, .ref h8, .ref h9, .int h0f17, .int h0f18, .int h0f19, .ref h10, .ref h11, .ref h12, .ref h13, .int h0f24, .int h0f25, .ref h14, .ref h15, .ref h16, .ref h17, .int h0f30, .int h0f31, .ref h18, .ref h19, .ref h20, .ref h21]), (h4, aJ (k 1) 9 (zJ [3])), (h5, aJ (k 1) 9 (zJ [0, 1, 2])), (h7, aJ (k 1) 4 (zJ [3]))] H := hT
          refine lv_aload_n hx hb dX11_takesOut_57 rfl (lv_at hl 2 rfl) ?_
          refine tz_get (ci := 8) (v := .ref h5) (C := RX11) (F := TX11) (N := 36) hx hb hU iX11 hown hK hT 0 rfl rfl 12 (by decide) w797 (fun _ h9 => h9) rfl dX11_takesOut_58 ?_
          refine lv_iload hx hb dX11_takesOut_61 (lv_at hl 0 rfl) ?_
          refine lv_lconst (v := 0) hx hb dX11_takesOut_63 (by decide) ?_
          refine tz_lastP hx hb hK hT hS 2 (zJ [0, 1, 2, 3]) rfl (by have := li_3; omega) (z_put0 (z := 3) li_3 (by decide)) dX11_takesOut_64 (fun H locs hT hS => ?_)
          have hT : TP D A [(h0, ob 8 [.int h0f0, .int h0f1, .int h0f2, .int h0f3, .int h0f4, .int h0f5, .ref h1, .ref h2, .int h0f8, .int h0f9, .ref h3, .ref h4, .ref h5, .ref h6, .ref h7, .ref h8, .ref h9, .int h0f17, .int h0f18, .int h0f19, .ref h10, .ref h11, .ref h12, .ref h13, .int h0f24, .int h0f25, .ref h14, .ref h15, .ref h16, .ref h17, .int h0f30, .int h0f31, .ref h18, .ref h19, .ref h20, .ref h21]), (h4, aJ (k 1) 9 (zJ [3])), (h5, aJ (k 1) 9 (zJ [0, 1, 2, 3])), (h7, aJ (k 1) 4 (zJ [3]))] H := hT
          refine lv_iinc (v := 4) (lv' := [(5, .int 4), (4, .int 1), (0, .ref h0), (1, .int x1), (2, .int x2), (3, .int x3)]) hx hb dX11_takesOut_65 hl (k := 0) rfl (by decide) (by decide) rfl (fun ls hl => ?_)
          refine lv_goto (tgt := 37) hx hb dX11_takesOut_68 (by decide) ?_
          refine lv_iload hx hb dX11_takesOut_37 (lv_at hl 0 rfl) ?_
          refine lv_iconst (v := 4) hx hb dX11_takesOut_39 (by decide) ?_
          refine lv_icmp_ge (tgt := 71) hx hb dX11_takesOut_40 (by decide) (fun _ => ?_) (fun cc => absurd (by decide +kernel) cc)
          refine lv_iload hx hb dX11_takesOut_71 (lv_at hl 1 rfl) ?_
          refine lv_istore (lv' := [(5, .int 1), (4, .int 1), (0, .ref h0), (1, .int x1), (2, .int x2), (3, .int x3)]) hx hb dX11_takesOut_73 hl (by decide) rfl (fun ls hl => ?_)
          refine lv_iload hx hb dX11_takesOut_75 (lv_at hl 0 rfl) ?_
          refine lv_iload_n hx hb dX11_takesOut_77 rfl (lv_at hl 3 rfl) ?_
          refine lv_icmp_lt (tgt := 154) hx hb dX11_takesOut_78 (by decide) (fun c_43 => ?_) (fun c_43 => ?_)
          · skip
            have c_43 := ni_lt c_43 li_1 hq1
            exfalso; omega
          · skip
            have c_43 := ni_nlt c_43 li_1 hq1
            refine lv_aload_n hx hb dX11_takesOut_81 rfl (lv_at hl 2 rfl) ?_
            refine tz_get (ci := 8) (v := .ref h4) (C := RX11) (F := TX11) (N := 36) hx hb hU iX11 hown hK hT 0 rfl rfl 11 (by decide) w796 (fun _ h9 => h9) rfl dX11_takesOut_82 ?_
            refine lv_iload hx hb dX11_takesOut_85 (lv_at hl 0 rfl) ?_
            refine tz_lald hx hb hK hT 1 rfl (by have := li_1; omega) dX11_takesOut_87 (fun v44 e_v44 => ?_)
            clear e_v44
            refine lv_lstore (lv' := [(6, .long v44), (5, .int 1), (4, .int 1), (0, .ref h0), (1, .int x1), (2, .int x2), (3, .int x3)]) hx hb dX11_takesOut_88 hl (by decide) rfl (fun ls hl => ?_)
            refine lv_aload_n hx hb dX11_takesOut_90 rfl (lv_at hl 3 rfl) ?_
            refine tz_get (ci := 8) (v := .ref h5) (C := RX11) (F := TX11) (N := 36) hx hb hU iX11 hown hK hT 0 rfl rfl 12 (by decide) w797 (fun _ h9 => h9) rfl dX11_takesOut_91 ?_
            refine lv_iload hx hb dX11_takesOut_94 (lv_at hl 1 rfl) ?_
            refine lv_iload_n hx hb dX11_takesOut_96 rfl (lv_at hl 4 rfl) ?_
            refine lv_isub hx hb dX11_takesOut_97 (lv_topi (fun v45 e_v45 => ?_))
            have e_v45 := ai_sub e_v45 li_1 hq1 (by omega)
            refine lv_lload hx hb dX11_takesOut_98 (lv_at hl 0 rfl) ?_
            refine tz_lastP hx hb hK hT hS 2 (zJ [1, 2, 3]) rfl (by omega) (z_putx (z := 0) (show v45.toInt = 0 by omega) (by decide)) dX11_takesOut_100 (fun H locs hT hS => ?_)
            have hT : TP D A [(h0, ob 8 [.int h0f0, .int h0f1, .int h0f2, .int h0f3, .int h0f4, .int h0f5, .ref h1, .ref h2, .int h0f8, .int h0f9, .ref h3, .ref h4, .ref h5, .ref h6, .ref h7, .ref h8, .ref h9, .int h0f17, .int h0f18, .int h0f19, .ref h10, .ref h11, .ref h12, .ref h13, .int h0f24, .int h0f25, .ref h14, .ref h15, .ref h16, .ref h17, .int h0f30, .int h0f31, .ref h18, .ref h19, .ref h20, .ref h21]), (h4, aJ (k 1) 9 (zJ [3])), (h5, aJ (k 1) 9 (zJ [1, 2, 3])), (h7, aJ (k 1) 4 (zJ [3]))] H := hT
            refine lv_aload_n hx hb dX11_takesOut_101 rfl (lv_at hl 3 rfl) ?_
            refine tz_get (ci := 8) (v := .ref h4) (C := RX11) (F := TX11) (N := 36) hx hb hU iX11 hown hK hT 0 rfl rfl 11 (by decide) w796 (fun _ h9 => h9) rfl dX11_takesOut_102 ?_
            refine lv_iload hx hb dX11_takesOut_105 (lv_at hl 1 rfl) ?_
            refine lv_iload_n hx hb dX11_takesOut_107 rfl (lv_at hl 4 rfl) ?_
            refine lv_isub hx hb dX11_takesOut_108 (lv_topi (fun v46 e_v46 => ?_))
            have e_v46 := ai_sub e_v46 li_1 hq1 (by omega)
            refine lv_dup2_11 hx hb dX11_takesOut_109 rfl rfl ?_
            refine tz_lald hx hb hK hT 1 rfl (by omega) dX11_takesOut_110 (fun v47 e_v47 => ?_)
            clear e_v47
            refine lv_lload hx hb dX11_takesOut_111 (lv_at hl 0 rfl) ?_
            refine lv_iload_n hx hb dX11_takesOut_113 rfl (lv_at hl 5 rfl) ?_
            obtain ⟨v48, e_v48⟩ : ∃ x : Int64, x2.toInt64 = x := ⟨_, rfl⟩
            refine lv_i2l (v := v48) hx hb dX11_takesOut_114 e_v48 ?_
            have e_v48 := ai_i2l e_v48 rfl
            refine lv_lmul hx hb dX11_takesOut_115 (lv_topl (fun v49 e_v49 => ?_))
            refine lv_lsub hx hb dX11_takesOut_116 (lv_topl (fun v50 e_v50 => ?_))
            refine tz_lastP hx hb hK hT hS 1 (zJ [3]) rfl (by omega) (z_putx (z := 0) (show v46.toInt = 0 by omega) (by decide)) dX11_takesOut_117 (fun H locs hT hS => ?_)
            have hT : TP D A [(h0, ob 8 [.int h0f0, .int h0f1, .int h0f2, .int h0f3, .int h0f4, .int h0f5, .ref h1, .ref h2, .int h0f8, .int h0f9, .ref h3, .ref h4, .ref h5, .ref h6, .ref h7, .ref h8, .ref h9, .int h0f17, .int h0f18, .int h0f19, .ref h10, .ref h11, .ref h12, .ref h13, .int h0f24, .int h0f25, .ref h14, .ref h15, .ref h16, .ref h17, .int h0f30, .int h0f31, .ref h18, .ref h19, .ref h20, .ref h21]), (h4, aJ (k 1) 9 (zJ [3])), (h5, aJ (k 1) 9 (zJ [1, 2, 3])), (h7, aJ (k 1) 4 (zJ [3]))] H := hT
            refine lv_iload_n hx hb dX11_takesOut_118 rfl (lv_at hl 4 rfl) ?_
            refine lv_iconst (v := 2) hx hb dX11_takesOut_119 (by decide) ?_
            refine lv_icmp_ne (tgt := 140) hx hb dX11_takesOut_120 (by decide) (fun c_51 => ?_) (fun c_51 => ?_)
            · skip
              have c_51 := ni_ne c_51 hq1 li_2
              refine lv_aload_n hx hb dX11_takesOut_140 rfl (lv_at hl 3 rfl) ?_
              refine tz_get (ci := 8) (v := .ref h4) (C := RX11) (F := TX11) (N := 36) hx hb hU iX11 hown hK hT 0 rfl rfl 11 (by decide) w796 (fun _ h9 => h9) rfl dX11_takesOut_141 ?_
              refine lv_iload hx hb dX11_takesOut_144 (lv_at hl 1 rfl) ?_
              refine lv_lconst (v := 0) hx hb dX11_takesOut_146 (by decide) ?_
              refine tz_lastP hx hb hK hT hS 1 (zJ [1, 3]) rfl (by have := li_1; omega) (z_put0 (z := 1) li_1 (by decide)) dX11_takesOut_147 (fun H locs hT hS => ?_)
              have hT : TP D A [(h0, ob 8 [.int h0f0, .int h0f1, .int h0f2, .int h0f3, .int h0f4, .int h0f5, .ref h1, .ref h2, .int h0f8, .int h0f9, .ref h3, .ref h4, .ref h5, .ref h6, .ref h7, .ref h8, .ref h9, .int h0f17, .int h0f18, .int h0f19, .ref h10, .ref h11, .ref h12, .ref h13, .int h0f24, .int h0f25, .ref h14, .ref h15, .ref h16, .ref h17, .int h0f30, .int h0f31, .ref h18, .ref h19, .ref h20, .ref h21]), (h4, aJ (k 1) 9 (zJ [1, 3])), (h5, aJ (k 1) 9 (zJ [1, 2, 3])), (h7, aJ (k 1) 4 (zJ [3]))] H := hT
              refine lv_iinc (v := 0) (lv' := [(5, .int 0), (6, .long v44), (4, .int 1), (0, .ref h0), (1, .int x1), (2, .int x2), (3, .int x3)]) hx hb dX11_takesOut_148 hl (k := 1) rfl (by decide) (by decide) rfl (fun ls hl => ?_)
              refine lv_goto (tgt := 75) hx hb dX11_takesOut_151 (by decide) ?_
              refine lv_iload hx hb dX11_takesOut_75 (lv_at hl 0 rfl) ?_
              refine lv_iload_n hx hb dX11_takesOut_77 rfl (lv_at hl 4 rfl) ?_
              refine lv_icmp_lt (tgt := 154) hx hb dX11_takesOut_78 (by decide) (fun c_52 => ?_) (fun c_52 => ?_)
              · skip
                have c_52 := ni_lt c_52 li_0 hq1
                refine lv_aload_n hx hb dX11_takesOut_154 rfl (lv_at hl 3 rfl) ?_
                refine tz_get (ci := 8) (v := .ref h4) (C := RX11) (F := TX11) (N := 36) hx hb hU iX11 hown hK hT 0 rfl rfl 11 (by decide) w796 (fun _ h9 => h9) rfl dX11_takesOut_155 ?_
                refine lv_iconst (v := 0) hx hb dX11_takesOut_158 (by decide) ?_
                refine tz_lald hx hb hK hT 1 rfl (by have := li_0; omega) dX11_takesOut_159 (fun v53 e_v53 => ?_)
                clear e_v53
                refine lv_lconst (v := 0) hx hb dX11_takesOut_160 (by decide) ?_
                refine W.lcmp hx hb dX11_takesOut_161 ?_
                refine lv_if_ne (tgt := 176) hx hb dX11_takesOut_162 (by decide) (fun c_54 => ?_) (fun c_54 => ?_)
                · skip
                  have c_54 := nl_ne c_54 rfl ll_0
                  refine lv_iconst (v := 0) hx hb dX11_takesOut_176 (by decide) ?_
                  have hT := hT.wk (q := 1) rfl (an_J (c := k 1) (n := 9))
                  have hT : TP D A [(h0, ob 8 [.int h0f0, .int h0f1, .int h0f2, .int h0f3, .int h0f4, .int h0f5, .ref h1, .ref h2, .int h0f8, .int h0f9, .ref h3, .ref h4, .ref h5, .ref h6, .ref h7, .ref h8, .ref h9, .int h0f17, .int h0f18, .int h0f19, .ref h10, .ref h11, .ref h12, .ref h13, .int h0f24, .int h0f25, .ref h14, .ref h15, .ref h16, .ref h17, .int h0f30, .int h0f31, .ref h18, .ref h19, .ref h20, .ref h21]), (h4, aJ (k 1) 9 anJ), (h5, aJ (k 1) 9 (zJ [1, 2, 3])), (h7, aJ (k 1) 4 (zJ [3]))] H := hT
                  have hT := hT.wk (q := 2) rfl (an_J (c := k 1) (n := 9))
                  have hT : TP D A [(h0, ob 8 [.int h0f0, .int h0f1, .int h0f2, .int h0f3, .int h0f4, .int h0f5, .ref h1, .ref h2, .int h0f8, .int h0f9, .ref h3, .ref h4, .ref h5, .ref h6, .ref h7, .ref h8, .ref h9, .int h0f17, .int h0f18, .int h0f19, .ref h10, .ref h11, .ref h12, .ref h13, .int h0f24, .int h0f25, .ref h14, .ref h15, .ref h16, .ref h17, .int h0f30, .int h0f31, .ref h18, .ref h19, .ref h20, .ref h21]), (h4, aJ (k 1) 9 anJ), (h5, aJ (k 1) 9 anJ), (h7, aJ (k 1) 4 (zJ [3]))] H := hT
                  have hT := hT.wk (q := 3) rfl (an_J (c := k 1) (n := 4))
                  have hT : TP D A [(h0, ob 8 [.int h0f0, .int h0f1, .int h0f2, .int h0f3, .int h0f4, .int h0f5, .ref h1, .ref h2, .int h0f8, .int h0f9, .ref h3, .ref h4, .ref h5, .ref h6, .ref h7, .ref h8, .ref h9, .int h0f17, .int h0f18, .int h0f19, .ref h10, .ref h11, .ref h12, .ref h13, .int h0f24, .int h0f25, .ref h14, .ref h15, .ref h16, .ref h17, .int h0f30, .int h0f31, .ref h18, .ref h19, .ref h20, .ref h21]), (h4, aJ (k 1) 9 anJ), (h5, aJ (k 1) 9 anJ), (h7, aJ (k 1) 4 anJ)] H := hT
                  exact tz_retZ (B := B_cX11_takesOut_75942 D k h0 h4 h5 h7 h1 h2 h3 h6 h8 h9 h10 h11 h12 h13 h14 h15 h16 h17 h18 h19 h20 h21 x1 x2 x3 h0f0 h0f1 h0f2 h0f3 h0f4 h0f5 h0f8 h0f9 h0f17 h0f18 h0f19 h0f24 h0f25 h0f30 h0f31) (v := 0) hQ hx hb hr hlocks hS (Nat.le_of_ble_eq_true rfl) (Nat.le_of_ble_eq_true rfl) dX11_takesOut_177 (by have := li_0; omega) (Or.inl ⟨rfl, hT⟩)
                · skip
                  have c_54 := nl_eq c_54 rfl ll_0
                  refine lv_aload_n hx hb dX11_takesOut_165 rfl (lv_at hl 3 rfl) ?_
                  refine tz_get (ci := 8) (v := .ref h4) (C := RX11) (F := TX11) (N := 36) hx hb hU iX11 hown hK hT 0 rfl rfl 11 (by decide) w796 (fun _ h9 => h9) rfl dX11_takesOut_166 ?_
                  refine lv_iconst (v := 1) hx hb dX11_takesOut_169 (by decide) ?_
                  refine tz_lald hx hb hK hT 1 rfl (by have := li_1; omega) dX11_takesOut_170 (fun v55 e_v55 => ?_)
                  have e_v55 := z_get (z := 1) e_v55 li_1 (by decide)
                  subst e_v55
                  refine lv_lconst (v := 0) hx hb dX11_takesOut_171 (by decide) ?_
                  refine W.lcmp hx hb dX11_takesOut_172 (sv_i (v := 0) (by decide +kernel) ?_)
                  refine lv_if_eq (tgt := 178) hx hb dX11_takesOut_173 (by decide) (fun _ => ?_) (fun cc => absurd (by decide +kernel) cc)
                  refine lv_iconst (v := 0) hx hb dX11_takesOut_178 (by decide) ?_
                  refine lv_istore (lv' := [(5, .int 0), (6, .long v44), (4, .int 1), (0, .ref h0), (1, .int x1), (2, .int x2), (3, .int x3)]) hx hb dX11_takesOut_179 hl (by decide) rfl (fun ls hl => ?_)
                  refine lv_iload hx hb dX11_takesOut_181 (lv_at hl 0 rfl) ?_
                  refine lv_iconst (v := 4) hx hb dX11_takesOut_183 (by decide) ?_
                  refine lv_icmp_ge (tgt := 207) hx hb dX11_takesOut_184 (by decide) (fun cc => absurd cc (by decide +kernel)) (fun _ => ?_)
                  refine lv_aload_n hx hb dX11_takesOut_187 rfl (lv_at hl 3 rfl) ?_
                  refine tz_get (ci := 8) (v := .ref h7) (C := RX11) (F := TX11) (N := 36) hx hb hU iX11 hown hK hT 0 rfl rfl 14 (by decide) w799 (fun _ h9 => h9) rfl dX11_takesOut_188 ?_
                  refine lv_iload hx hb dX11_takesOut_191 (lv_at hl 0 rfl) ?_
                  refine lv_aload_n hx hb dX11_takesOut_193 rfl (lv_at hl 3 rfl) ?_
                  refine tz_get (ci := 8) (v := .ref h5) (C := RX11) (F := TX11) (N := 36) hx hb hU iX11 hown hK hT 0 rfl rfl 12 (by decide) w797 (fun _ h9 => h9) rfl dX11_takesOut_194 ?_
                  refine lv_iload hx hb dX11_takesOut_197 (lv_at hl 0 rfl) ?_
                  refine tz_lald hx hb hK hT 2 rfl (by have := li_0; omega) dX11_takesOut_199 (fun v56 e_v56 => ?_)
                  clear e_v56
                  refine tz_lastP hx hb hK hT hS 3 (zJ [3]) rfl (by have := li_0; omega) (z_putx (z := 0) li_0 (by decide)) dX11_takesOut_200 (fun H locs hT hS => ?_)
                  have hT : TP D A [(h0, ob 8 [.int h0f0, .int h0f1, .int h0f2, .int h0f3, .int h0f4, .int h0f5, .ref h1, .ref h2, .int h0f8, .int h0f9, .ref h3, .ref h4, .ref h5, .ref h6, .ref h7, .ref h8, .ref h9, .int h0f17, .int h0f18, .int h0f19, .ref h10, .ref h11, .ref h12, .ref h13, .int h0f24, .int h0f25, .ref h14, .ref h15, .ref h16, .ref h17, .int h0f30, .int h0f31, .ref h18, .ref h19, .ref h20, .ref h21]), (h4, aJ (k 1) 9 (zJ [1, 3])), (h5, aJ (k 1) 9 (zJ [1, 2, 3])), (h7, aJ (k 1) 4 (zJ [3]))] H := hT
                  refine lv_iinc (v := 1) (lv' := [(5, .int 1), (6, .long v44), (4, .int 1), (0, .ref h0), (1, .int x1), (2, .int x2), (3, .int x3)]) hx hb dX11_takesOut_201 hl (k := 0) rfl (by decide) (by decide) rfl (fun ls hl => ?_)
                  refine lv_goto (tgt := 181) hx hb dX11_takesOut_204 (by decide) ?_
                  refine lv_iload hx hb dX11_takesOut_181 (lv_at hl 0 rfl) ?_
                  refine lv_iconst (v := 4) hx hb dX11_takesOut_183 (by decide) ?_
                  refine lv_icmp_ge (tgt := 207) hx hb dX11_takesOut_184 (by decide) (fun cc => absurd cc (by decide +kernel)) (fun _ => ?_)
                  refine lv_aload_n hx hb dX11_takesOut_187 rfl (lv_at hl 3 rfl) ?_
                  refine tz_get (ci := 8) (v := .ref h7) (C := RX11) (F := TX11) (N := 36) hx hb hU iX11 hown hK hT 0 rfl rfl 14 (by decide) w799 (fun _ h9 => h9) rfl dX11_takesOut_188 ?_
                  refine lv_iload hx hb dX11_takesOut_191 (lv_at hl 0 rfl) ?_
                  refine lv_aload_n hx hb dX11_takesOut_193 rfl (lv_at hl 3 rfl) ?_
                  refine tz_get (ci := 8) (v := .ref h5) (C := RX11) (F := TX11) (N := 36) hx hb hU iX11 hown hK hT 0 rfl rfl 12 (by decide) w797 (fun _ h9 => h9) rfl dX11_takesOut_194 ?_
                  refine lv_iload hx hb dX11_takesOut_197 (lv_at hl 0 rfl) ?_
                  refine tz_lald hx hb hK hT 2 rfl (by have := li_1; omega) dX11_takesOut_199 (fun v57 e_v57 => ?_)
                  have e_v57 := z_get (z := 1) e_v57 li_1 (by decide)
                  subst e_v57
                  refine tz_lastP hx hb hK hT hS 3 (zJ [1, 3]) rfl (by have := li_1; omega) (z_put0 (z := 1) li_1 (by decide)) dX11_takesOut_200 (fun H locs hT hS => ?_)
                  have hT : TP D A [(h0, ob 8 [.int h0f0, .int h0f1, .int h0f2, .int h0f3, .int h0f4, .int h0f5, .ref h1, .ref h2, .int h0f8, .int h0f9, .ref h3, .ref h4, .ref h5, .ref h6, .ref h7, .ref h8, .ref h9, .int h0f17, .int h0f18, .int h0f19, .ref h10, .ref h11, .ref h12, .ref h13, .int h0f24, .int h0f25, .ref h14, .ref h15, .ref h16, .ref h17, .int h0f30, .int h0f31, .ref h18, .ref h19, .ref h20, .ref h21]), (h4, aJ (k 1) 9 (zJ [1, 3])), (h5, aJ (k 1) 9 (zJ [1, 2, 3])), (h7, aJ (k 1) 4 (zJ [1, 3]))] H := hT
                  refine lv_iinc (v := 2) (lv' := [(5, .int 2), (6, .long v44), (4, .int 1), (0, .ref h0), (1, .int x1), (2, .int x2), (3, .int x3)]) hx hb dX11_takesOut_201 hl (k := 0) rfl (by decide) (by decide) rfl (fun ls hl => ?_)
                  refine lv_goto (tgt := 181) hx hb dX11_takesOut_204 (by decide) ?_
                  refine lv_iload hx hb dX11_takesOut_181 (lv_at hl 0 rfl) ?_
                  refine lv_iconst (v := 4) hx hb dX11_takesOut_183 (by decide) ?_
                  refine lv_icmp_ge (tgt := 207) hx hb dX11_takesOut_184 (by decide) (fun cc => absurd cc (by decide +kernel)) (fun _ => ?_)
                  refine lv_aload_n hx hb dX11_takesOut_187 rfl (lv_at hl 3 rfl) ?_
                  refine tz_get (ci := 8) (v := .ref h7) (C := RX11) (F := TX11) (N := 36) hx hb hU iX11 hown hK hT 0 rfl rfl 14 (by decide) w799 (fun _ h9 => h9) rfl dX11_takesOut_188 ?_
                  refine lv_iload hx hb dX11_takesOut_191 (lv_at hl 0 rfl) ?_
                  refine lv_aload_n hx hb dX11_takesOut_193 rfl (lv_at hl 3 rfl) ?_
                  refine tz_get (ci := 8) (v := .ref h5) (C := RX11) (F := TX11) (N := 36) hx hb hU iX11 hown hK hT 0 rfl rfl 12 (by decide) w797 (fun _ h9 => h9) rfl dX11_takesOut_194 ?_
                  refine lv_iload hx hb dX11_takesOut_197 (lv_at hl 0 rfl) ?_
                  refine tz_lald hx hb hK hT 2 rfl (by have := li_2; omega) dX11_takesOut_199 (fun v58 e_v58 => ?_)
                  have e_v58 := z_get (z := 2) e_v58 li_2 (by decide)
                  subst e_v58
                  refine tz_lastP hx hb hK hT hS 3 (zJ [1, 2, 3]) rfl (by have := li_2; omega) (z_put0 (z := 2) li_2 (by decide)) dX11_takesOut_200 (fun H locs hT hS => ?_)
                  have hT : TP D A [(h0, ob 8 [.int h0f0, .int h0f1, .int h0f2, .int h0f3, .int h0f4, .int h0f5, .ref h1, .ref h2, .int h0f8, .int h0f9, .ref h3, .ref h4, .ref h5, .ref h6, .ref h7, .ref h8, .ref h9, .int h0f17, .int h0f18, .int h0f19, .ref h10, .ref h11, .ref h12, .ref h13, .int h0f24, .int h0f25, .ref h14, .ref h15, .ref h16, .ref h17, .int h0f30, .int h0f31, .ref h18, .ref h19, .ref h20, .ref h21]), (h4, aJ (k 1) 9 (zJ [1, 3])), (h5, aJ (k 1) 9 (zJ [1, 2, 3])), (h7, aJ (k 1) 4 (zJ [1, 2, 3]))] H := hT
                  refine lv_iinc (v := 3) (lv' := [(5, .int 3), (6, .long v44), (4, .int 1), (0, .ref h0), (1, .int x1), (2, .int x2), (3, .int x3)]) hx hb dX11_takesOut_201 hl (k := 0) rfl (by decide) (by decide) rfl (fun ls hl => ?_)
                  refine lv_goto (tgt := 181) hx hb dX11_takesOut_204 (by decide) ?_
                  refine lv_iload hx hb dX11_takesOut_181 (lv_at hl 0 rfl) ?_
                  refine lv_iconst (v := 4) hx hb dX11_takesOut_183 (by decide) ?_
                  refine lv_icmp_ge (tgt := 207) hx hb dX11_takesOut_184 (by decide) (fun cc => absurd cc (by decide +kernel)) (fun _ => ?_)
                  refine lv_aload_n hx hb dX11_takesOut_187 rfl (lv_at hl 3 rfl) ?_
                  refine tz_get (ci := 8) (v := .ref h7) (C := RX11) (F := TX11) (N := 36) hx hb hU iX11 hown hK hT 0 rfl rfl 14 (by decide) w799 (fun _ h9 => h9) rfl dX11_takesOut_188 ?_
                  refine lv_iload hx hb dX11_takesOut_191 (lv_at hl 0 rfl) ?_
                  refine lv_aload_n hx hb dX11_takesOut_193 rfl (lv_at hl 3 rfl) ?_
                  refine tz_get (ci := 8) (v := .ref h5) (C := RX11) (F := TX11) (N := 36) hx hb hU iX11 hown hK hT 0 rfl rfl 12 (by decide) w797 (fun _ h9 => h9) rfl dX11_takesOut_194 ?_
                  refine lv_iload hx hb dX11_takesOut_197 (lv_at hl 0 rfl) ?_
                  refine tz_lald hx hb hK hT 2 rfl (by have := li_3; omega) dX11_takesOut_199 (fun v59 e_v59 => ?_)
                  have e_v59 := z_get (z := 3) e_v59 li_3 (by decide)
                  subst e_v59
                  refine tz_lastP hx hb hK hT hS 3 (zJ [1, 2, 3]) rfl (by have := li_3; omega) (z_put0 (z := 3) li_3 (by decide)) dX11_takesOut_200 (fun H locs hT hS => ?_)
                  have hT : TP D A [(h0, ob 8 [.int h0f0, .int h0f1, .int h0f2, .int h0f3, .int h0f4, .int h0f5, .ref h1, .ref h2, .int h0f8, .int h0f9, .ref h3, .ref h4, .ref h5, .ref h6, .ref h7, .ref h8, .ref h9, .int h0f17, .int h0f18, .int h0f19, .ref h10, .ref h11, .ref h12, .ref h13, .int h0f24, .int h0f25, .ref h14, .ref h15, .ref h16, .ref h17, .int h0f30, .int h0f31, .ref h18, .ref h19, .ref h20, .ref h21]), (h4, aJ (k 1) 9 (zJ [1, 3])), (h5, aJ (k 1) 9 (zJ [1, 2, 3])), (h7, aJ (k 1) 4 (zJ [1, 2, 3]))] H := hT
                  refine lv_iinc (v := 4) (lv' := [(5, .int 4), (6, .long v44), (4, .int 1), (0, .ref h0), (1, .int x1), (2, .int x2), (3, .int x3)]) hx hb dX11_takesOut_201 hl (k := 0) rfl (by decide) (by decide) rfl (fun ls hl => ?_)
                  refine lv_goto (tgt := 181) hx hb dX11_takesOut_204 (by decide) ?_
                  refine lv_iload hx hb dX11_takesOut_181 (lv_at hl 0 rfl) ?_
                  refine lv_iconst (v := 4) hx hb dX11_takesOut_183 (by decide) ?_
                  refine lv_icmp_ge (tgt := 207) hx hb dX11_takesOut_184 (by decide) (fun _ => ?_) (fun cc => absurd (by decide +kernel) cc)
                  refine lv_iconst (v := 1) hx hb dX11_takesOut_207 (by decide) ?_
                  have hT := hT.wk (q := 1) rfl (an_J (c := k 1) (n := 9))
                  have hT : TP D A [(h0, ob 8 [.int h0f0, .int h0f1, .int h0f2, .int h0f3, .int h0f4, .int h0f5, .ref h1, .ref h2, .int h0f8, .int h0f9, .ref h3, .ref h4, .ref h5, .ref h6, .ref h7, .ref h8, .ref h9, .int h0f17, .int h0f18, .int h0f19, .ref h10, .ref h11, .ref h12, .ref h13, .int h0f24, .int h0f25, .ref h14, .ref h15, .ref h16, .ref h17, .int h0f30, .int h0f31, .ref h18, .ref h19, .ref h20, .ref h21]), (h4, aJ (k 1) 9 anJ), (h5, aJ (k 1) 9 (zJ [1, 2, 3])), (h7, aJ (k 1) 4 (zJ [1, 2, 3]))] H := hT
                  have hT := hT.wk (q := 2) rfl (an_J (c := k 1) (n := 9))
                  have hT : TP D A [(h0, ob 8 [.int h0f0, .int h0f1, .int h0f2, .int h0f3, .int h0f4, .int h0f5, .ref h1, .ref h2, .int h0f8, .int h0f9, .ref h3, .ref h4, .ref h5, .ref h6, .ref h7, .ref h8, .ref h9, .int h0f17, .int h0f18, .int h0f19, .ref h10, .ref h11, .ref h12, .ref h13, .int h0f24, .int h0f25, .ref h14, .ref h15, .ref h16, .ref h17, .int h0f30, .int h0f31, .ref h18, .ref h19, .ref h20, .ref h21]), (h4, aJ (k 1) 9 anJ), (h5, aJ (k 1) 9 anJ), (h7, aJ (k 1) 4 (zJ [1, 2, 3]))] H := hT
                  have hT := hT.wk (q := 3) rfl (z_sub (c := k 1) (n := 4) (l := [1, 2, 3]) (m := [2, 3]) (by decide))
                  have hT : TP D A [(h0, ob 8 [.int h0f0, .int h0f1, .int h0f2, .int h0f3, .int h0f4, .int h0f5, .ref h1, .ref h2, .int h0f8, .int h0f9, .ref h3, .ref h4, .ref h5, .ref h6, .ref h7, .ref h8, .ref h9, .int h0f17, .int h0f18, .int h0f19, .ref h10, .ref h11, .ref h12, .ref h13, .int h0f24, .int h0f25, .ref h14, .ref h15, .ref h16, .ref h17, .int h0f30, .int h0f31, .ref h18, .ref h19, .ref h20, .ref h21]), (h4, aJ (k 1) 9 anJ), (h5, aJ (k 1) 9 anJ), (h7, aJ (k 1) 4 (zJ [2, 3]))] H := hT
                  exact tz_retZ (B := B_cX11_takesOut_75942 D k h0 h4 h5 h7 h1 h2 h3 h6 h8 h9 h10 h11 h12 h13 h14 h15 h16 h17 h18 h19 h20 h21 x1 x2 x3 h0f0 h0f1 h0f2 h0f3 h0f4 h0f5 h0f8 h0f9 h0f17 h0f18 h0f19 h0f24 h0f25 h0f30 h0f31) (v := 1) hQ hx hb hr hlocks hS (Nat.le_of_ble_eq_true rfl) (Nat.le_of_ble_eq_true rfl) dX11_takesOut_208 (by have := li_1; omega) (Or.inr (Or.inr (Or.inl ⟨v3, v36, v53, (by have := li_1; omega), (by have := li_1; omega), (by have := li_1; omega), (by have := li_1; omega), (by have := li_1; omega), (by have := li_1; omega), (by have := li_1; omega), (by have := li_1; omega), (by have := li_1; omega), rfl, hT⟩)))
              · skip
                have c_52 := ni_nlt c_52 li_0 hq1
                exfalso; omega
            · skip
              have c_51 := ni_eq c_51 hq1 li_2
              exfalso; omega
        · skip
          have c_38 := ni_nle c_38 hq1 li_1
          exfalso; omega
      · skip
        have c_37 := nl_eq c_37 rfl ll_0
        refine lv_iinc (v := 0) (lv' := [(4, .int 0), (0, .ref h0), (1, .int x1), (2, .int x2), (3, .int x3)]) hx hb dX11_takesOut_20 hl (k := 0) rfl (by decide) (by decide) rfl (fun ls hl => ?_)
        refine lv_goto (tgt := 3) hx hb dX11_takesOut_23 (by decide) ?_
        refine lv_iload hx hb dX11_takesOut_3 (lv_at hl 0 rfl) ?_
        refine lv_if_le (tgt := 26) hx hb dX11_takesOut_5 (by decide) (fun _ => ?_) (fun cc => absurd (by decide +kernel) cc)
        refine lv_iload hx hb dX11_takesOut_26 (lv_at hl 0 rfl) ?_
        refine lv_iload_n hx hb dX11_takesOut_28 rfl (lv_at hl 2 rfl) ?_
        refine lv_icmp_ge (tgt := 34) hx hb dX11_takesOut_29 (by decide) (fun c_60 => ?_) (fun c_60 => ?_)
        · skip
          have c_60 := ni_le c_60 hq1 li_0
          exfalso; omega
        · skip
          have c_60 := ni_nle c_60 hq1 li_0
          refine lv_iconst (v := 0) hx hb dX11_takesOut_32 (by decide) ?_
          have hT := hT.wk (q := 3) rfl (an_J (c := k 1) (n := 4))
          have hT : TP D A [(h0, ob 8 [.int h0f0, .int h0f1, .int h0f2, .int h0f3, .int h0f4, .int h0f5, .ref h1, .ref h2, .int h0f8, .int h0f9, .ref h3, .ref h4, .ref h5, .ref h6, .ref h7, .ref h8, .ref h9, .int h0f17, .int h0f18, .int h0f19, .ref h10, .ref h11, .ref h12, .ref h13, .int h0f24, .int h0f25, .ref h14, .ref h15, .ref h16, .ref h17, .int h0f30, .int h0f31, .ref h18, .ref h19, .ref h20, .ref h21]), (h4, aJ (k 1) 9 anJ), (h5, aJ (k 1) 9 anJ), (h7, aJ (k 1) 4 anJ)] H := hT
          exact tz_retZ (B := B_cX11_takesOut_75942 D k h0 h4 h5 h7 h1 h2 h3 h6 h8 h9 h10 h11 h12 h13 h14 h15 h16 h17 h18 h19 h20 h21 x1 x2 x3 h0f0 h0f1 h0f2 h0f3 h0f4 h0f5 h0f8 h0f9 h0f17 h0f18 h0f19 h0f24 h0f25 h0f30 h0f31) (v := 0) hQ hx hb hr hlocks hS (Nat.le_of_ble_eq_true rfl) (Nat.le_of_ble_eq_true rfl) dX11_takesOut_33 (by have := li_0; omega) (Or.inl ⟨rfl, hT⟩)
  · skip
    refine lv_iconst (v := 3) hx hb dX11_takesOut_0 (by decide) ?_
    refine lv_istore (lv' := [(4, .int 3), (0, .ref h0), (1, .int x1), (2, .int x2), (3, .int x3)]) hx hb dX11_takesOut_1 hl (by decide) rfl (fun ls hl => ?_)
    refine lv_iload hx hb dX11_takesOut_3 (lv_at hl 0 rfl) ?_
    refine lv_if_le (tgt := 26) hx hb dX11_takesOut_5 (by decide) (fun cc => absurd cc (by decide +kernel)) (fun _ => ?_)
    refine lv_aload_n hx hb dX11_takesOut_8 rfl (lv_at hl 1 rfl) ?_
    refine tz_get (ci := 8) (v := .ref h7) (C := RX11) (F := TX11) (N := 36) hx hb hU iX11 hown hK hT 0 rfl rfl 14 (by decide) w799 (fun _ h9 => h9) rfl dX11_takesOut_9 ?_
    refine lv_iload hx hb dX11_takesOut_12 (lv_at hl 0 rfl) ?_
    refine tz_lald hx hb hK hT 3 rfl (by have := li_3; omega) dX11_takesOut_14 (fun v61 e_v61 => ?_)
    have e_v61 := z_get (z := 3) e_v61 li_3 (by decide)
    subst e_v61
    refine lv_lconst (v := 0) hx hb dX11_takesOut_15 (by decide) ?_
    refine W.lcmp hx hb dX11_takesOut_16 (sv_i (v := 0) (by decide +kernel) ?_)
    refine lv_if_ne (tgt := 26) hx hb dX11_takesOut_17 (by decide) (fun cc => absurd (by decide +kernel) cc) (fun _ => ?_)
    refine lv_iinc (v := 2) (lv' := [(4, .int 2), (0, .ref h0), (1, .int x1), (2, .int x2), (3, .int x3)]) hx hb dX11_takesOut_20 hl (k := 0) rfl (by decide) (by decide) rfl (fun ls hl => ?_)
    refine lv_goto (tgt := 3) hx hb dX11_takesOut_23 (by decide) ?_
    refine lv_iload hx hb dX11_takesOut_3 (lv_at hl 0 rfl) ?_
    refine lv_if_le (tgt := 26) hx hb dX11_takesOut_5 (by decide) (fun cc => absurd cc (by decide +kernel)) (fun _ => ?_)
    refine lv_aload_n hx hb dX11_takesOut_8 rfl (lv_at hl 1 rfl) ?_
    refine tz_get (ci := 8) (v := .ref h7) (C := RX11) (F := TX11) (N := 36) hx hb hU iX11 hown hK hT 0 rfl rfl 14 (by decide) w799 (fun _ h9 => h9) rfl dX11_takesOut_9 ?_
    refine lv_iload hx hb dX11_takesOut_12 (lv_at hl 0 rfl) ?_
    refine tz_lald hx hb hK hT 3 rfl (by have := li_2; omega) dX11_takesOut_14 (fun v62 e_v62 => ?_)
    clear e_v62
    refine lv_lconst (v := 0) hx hb dX11_takesOut_15 (by decide) ?_
    refine W.lcmp hx hb dX11_takesOut_16 ?_
    refine lv_if_ne (tgt := 26) hx hb dX11_takesOut_17 (by decide) (fun c_63 => ?_) (fun c_63 => ?_)
    · skip
      have c_63 := nl_ne c_63 rfl ll_0
      refine lv_iload hx hb dX11_takesOut_26 (lv_at hl 0 rfl) ?_
      refine lv_iload_n hx hb dX11_takesOut_28 rfl (lv_at hl 2 rfl) ?_
      refine lv_icmp_ge (tgt := 34) hx hb dX11_takesOut_29 (by decide) (fun c_64 => ?_) (fun c_64 => ?_)
      · skip
        have c_64 := ni_le c_64 hq1 li_2
        refine lv_iconst (v := 0) hx hb dX11_takesOut_34 (by decide) ?_
        refine lv_istore (lv' := [(5, .int 0), (4, .int 2), (0, .ref h0), (1, .int x1), (2, .int x2), (3, .int x3)]) hx hb dX11_takesOut_35 hl (by decide) rfl (fun ls hl => ?_)
        refine lv_iload hx hb dX11_takesOut_37 (lv_at hl 0 rfl) ?_
        refine lv_iconst (v := 4) hx hb dX11_takesOut_39 (by decide) ?_
        refine lv_icmp_ge (tgt := 71) hx hb dX11_takesOut_40 (by decide) (fun cc => absurd cc (by decide +kernel)) (fun _ => ?_)
        refine lv_aload_n hx hb dX11_takesOut_43 rfl (lv_at hl 2 rfl) ?_
        refine tz_get (ci := 8) (v := .ref h4) (C := RX11) (F := TX11) (N := 36) hx hb hU iX11 hown hK hT 0 rfl rfl 11 (by decide) w796 (fun _ h9 => h9) rfl dX11_takesOut_44 ?_
        refine lv_iload hx hb dX11_takesOut_47 (lv_at hl 0 rfl) ?_
        refine lv_aload_n hx hb dX11_takesOut_49 rfl (lv_at hl 2 rfl) ?_
        refine tz_get (ci := 8) (v := .ref h7) (C := RX11) (F := TX11) (N := 36) hx hb hU iX11 hown hK hT 0 rfl rfl 14 (by decide) w799 (fun _ h9 => h9) rfl dX11_takesOut_50 ?_
        refine lv_iload hx hb dX11_takesOut_53 (lv_at hl 0 rfl) ?_
        refine tz_lald hx hb hK hT 3 rfl (by have := li_0; omega) dX11_takesOut_55 (fun v65 e_v65 => ?_)
        clear e_v65
        have hT := hT.wk (q := 1) rfl (z_of (c := k 1) (n := 9))
        have hT : TP D A [(h0, ob 8 [.int h0f0, .int h0f1, .int h0f2, .int h0f3, .int h0f4, .int h0f5, .ref h1, .ref h2, .int h0f8, .int h0f9, .ref h3, .ref h4, .ref h5, .ref h6, .ref h7, .ref h8, .ref h9, .int h0f17, .int h0f18, .int h0f19, .ref h10, .ref h11, .ref h12, .ref h13, .int h0f24, .int h0f25, .ref h14, .ref h15, .ref h16, .ref h17, .int h0f30, .int h0f31, .ref h18, .ref h19, .ref h20, .ref h21]), (h4, aJ (k 1) 9 (zJ [])), (h5, aJ (k 1) 9 anJ), (h7, aJ (k 1) 4 (zJ [3]))] H := hT
        refine tz_lastP hx hb hK hT hS 1 (zJ []) rfl (by have := li_0; omega) (z_putx (z := 0) li_0 (by decide)) dX11_takesOut_56 (fun H locs hT hS => ?_)
        have hT : TP D A [(h0, ob 8 [.int h0f0, .int h0f1, .int h0f2, .int h0f3, .int h0f4, .int h0f5, .ref h1, .ref h2, .int h0f8, .int h0f9, .ref h3, .ref h4, .ref h5, .ref h6, .ref h7, .ref h8, .ref h9, .int h0f17, .int h0f18, .int h0f19, .ref h10, .ref h11, .ref h12, .ref h13, .int h0f24, .int h0f25, .ref h14, .ref h15, .ref h16, .ref h17, .int h0f30, .int h0f31, .ref h18, .ref h19, .ref h20, .ref h21]), (h4, aJ (k 1) 9 (zJ [])), (h5, aJ (k 1) 9 anJ), (h7, aJ (k 1) 4 (zJ [3]))] H := hT
        refine lv_aload_n hx hb dX11_takesOut_57 rfl (lv_at hl 2 rfl) ?_
        refine tz_get (ci := 8) (v := .ref h5) (C := RX11) (F := TX11) (N := 36) hx hb hU iX11 hown hK hT 0 rfl rfl 12 (by decide) w797 (fun _ h9 => h9) rfl dX11_takesOut_58 ?_
        refine lv_iload hx hb dX11_takesOut_61 (lv_at hl 0 rfl) ?_
        refine lv_lconst (v := 0) hx hb dX11_takesOut_63 (by decide) ?_
        have hT := hT.wk (q := 2) rfl (z_of (c := k 1) (n := 9))
        have hT : TP D A [(h0, ob 8 [.int h0f0, .int h0f1, .int h0f2, .int h0f3, .int h0f4, .int h0f5, .ref h1, .ref h2, .int h0f8, .int h0f9, .ref h3, .ref h4, .ref h5, .ref h6, .ref h7, .ref h8, .ref h9, .int h0f17, .int h0f18, .int h0f19, .ref h10, .ref h11, .ref h12, .ref h13, .int h0f24, .int h0f25, .ref h14, .ref h15, .ref h16, .ref h17, .int h0f30, .int h0f31, .ref h18, .ref h19, .ref h20, .ref h21]), (h4, aJ (k 1) 9 (zJ [])), (h5, aJ (k 1) 9 (zJ [])), (h7, aJ (k 1) 4 (zJ [3]))] H := hT
        refine tz_lastP hx hb hK hT hS 2 (zJ [0]) rfl (by have := li_0; omega) (z_put0 (z := 0) li_0 (by decide)) dX11_takesOut_64 (fun H locs hT hS => ?_)
        have hT : TP D A [(h0, ob 8 [.int h0f0, .int h0f1, .int h0f2, .int h0f3, .int h0f4, .int h0f5, .ref h1, .ref h2, .int h0f8, .int h0f9, .ref h3, .ref h4, .ref h5, .ref h6, .ref h7, .ref h8, .ref h9, .int h0f17, .int h0f18, .int h0f19, .ref h10, .ref h11, .ref h12, .ref h13, .int h0f24, .int h0f25, .ref h14, .ref h15, .ref h16, .ref h17, .int h0f30, .int h0f31, .ref h18, .ref h19, .ref h20, .ref h21]), (h4, aJ (k 1) 9 (zJ [])), (h5, aJ (k 1) 9 (zJ [0])), (h7, aJ (k 1) 4 (zJ [3]))] H := hT
        refine lv_iinc (v := 1) (lv' := [(5, .int 1), (4, .int 2), (0, .ref h0), (1, .int x1), (2, .int x2), (3, .int x3)]) hx hb dX11_takesOut_65 hl (k := 0) rfl (by decide) (by decide) rfl (fun ls hl => ?_)
        refine lv_goto (tgt := 37) hx hb dX11_takesOut_68 (by decide) ?_
        refine lv_iload hx hb dX11_takesOut_37 (lv_at hl 0 rfl) ?_
        refine lv_iconst (v := 4) hx hb dX11_takesOut_39 (by decide) ?_
        refine lv_icmp_ge (tgt := 71) hx hb dX11_takesOut_40 (by decide) (fun cc => absurd cc (by decide +kernel)) (fun _ => ?_)
        refine lv_aload_n hx hb dX11_takesOut_43 rfl (lv_at hl 2 rfl) ?_
        refine tz_get (ci := 8) (v := .ref h4) (C := RX11) (F := TX11) (N := 36) hx hb hU iX11 hown hK hT 0 rfl rfl 11 (by decide) w796 (fun _ h9 => h9) rfl dX11_takesOut_44 ?_
        refine lv_iload hx hb dX11_takesOut_47 (lv_at hl 0 rfl) ?_
        refine lv_aload_n hx hb dX11_takesOut_49 rfl (lv_at hl 2 rfl) ?_
        refine tz_get (ci := 8) (v := .ref h7) (C := RX11) (F := TX11) (N := 36) hx hb hU iX11 hown hK hT 0 rfl rfl 14 (by decide) w799 (fun _ h9 => h9) rfl dX11_takesOut_50 ?_
        refine lv_iload hx hb dX11_takesOut_53 (lv_at hl 0 rfl) ?_
        refine tz_lald hx hb hK hT 3 rfl (by have := li_1; omega) dX11_takesOut_55 (fun v66 e_v66 => ?_)
        clear e_v66
        refine tz_lastP hx hb hK hT hS 1 (zJ []) rfl (by have := li_1; omega) (z_putx (z := 1) li_1 (by decide)) dX11_takesOut_56 (fun H locs hT hS => ?_)
        have hT : TP D A [(h0, ob 8 [.int h0f0, .int h0f1, .int h0f2, .int h0f3, .int h0f4, .int h0f5, .ref h1, .ref h2, .int h0f8, .int h0f9, .ref h3, .ref h4, .ref h5, .ref h6, .ref h7, .ref h8, .ref h9, .int h0f17, .int h0f18, .int h0f19, .ref h10, .ref h11, .ref h12, .ref h13, .int h0f24, .int h0f25, .ref h14, .ref h15, .ref h16, .ref h17, .int h0f30, .int h0f31, .ref h18, .ref h19, .ref h20, .ref h21]), (h4, aJ (k 1) 9 (zJ [])), (h5, aJ (k 1) 9 (zJ [0])), (h7, aJ (k 1) 4 (zJ [3]))] H := hT
        refine lv_aload_n hx hb dX11_takesOut_57 rfl (lv_at hl 2 rfl) ?_
        refine tz_get (ci := 8) (v := .ref h5) (C := RX11) (F := TX11) (N := 36) hx hb hU iX11 hown hK hT 0 rfl rfl 12 (by decide) w797 (fun _ h9 => h9) rfl dX11_takesOut_58 ?_
        refine lv_iload hx hb dX11_takesOut_61 (lv_at hl 0 rfl) ?_
        refine lv_lconst (v := 0) hx hb dX11_takesOut_63 (by decide) ?_
        refine tz_lastP hx hb hK hT hS 2 (zJ [0, 1]) rfl (by have := li_1; omega) (z_put0 (z := 1) li_1 (by decide)) dX11_takesOut_64 (fun H locs hT hS => ?_)
        have hT : TP D A [(h0, ob 8 [.int h0f0, .int h0f1, .int h0f2, .int h0f3, .int h0f4, .int h0f5, .ref h1, .ref h2, .int h0f8, .int h0f9, .ref h3, .ref h4, .ref h5, .ref h6, .ref h7, .ref h8, .ref h9, .int h0f17, .int h0f18, .int h0f19, .ref h10, .ref h11, .ref h12, .ref h13, .int h0f24, .int h0f25, .ref h14, .ref h15, .ref h16, .ref h17, .int h0f30, .int h0f31, .ref h18, .ref h19, .ref h20, .ref h21]), (h4, aJ (k 1) 9 (zJ [])), (h5, aJ (k 1) 9 (zJ [0, 1])), (h7, aJ (k 1) 4 (zJ [3]))] H := hT
        refine lv_iinc (v := 2) (lv' := [(5, .int 2), (4, .int 2), (0, .ref h0), (1, .int x1), (2, .int x2), (3, .int x3)]) hx hb dX11_takesOut_65 hl (k := 0) rfl (by decide) (by decide) rfl (fun ls hl => ?_)
        refine lv_goto (tgt := 37) hx hb dX11_takesOut_68 (by decide) ?_
        refine lv_iload hx hb dX11_takesOut_37 (lv_at hl 0 rfl) ?_
        refine lv_iconst (v := 4) hx hb dX11_takesOut_39 (by decide) ?_
        refine lv_icmp_ge (tgt := 71) hx hb dX11_takesOut_40 (by decide) (fun cc => absurd cc (by decide +kernel)) (fun _ => ?_)
        refine lv_aload_n hx hb dX11_takesOut_43 rfl (lv_at hl 2 rfl) ?_
        refine tz_get (ci := 8) (v := .ref h4) (C := RX11) (F := TX11) (N := 36) hx hb hU iX11 hown hK hT 0 rfl rfl 11 (by decide) w796 (fun _ h9 => h9) rfl dX11_takesOut_44 ?_
        refine lv_iload hx hb dX11_takesOut_47 (lv_at hl 0 rfl) ?_
        refine lv_aload_n hx hb dX11_takesOut_49 rfl (lv_at hl 2 rfl) ?_
        refine tz_get (ci := 8) (v := .ref h7) (C := RX11) (F := TX11) (N := 36) hx hb hU iX11 hown hK hT 0 rfl rfl 14 (by decide) w799 (fun _ h9 => h9) rfl dX11_takesOut_50 ?_
        refine lv_iload hx hb dX11_takesOut_53 (lv_at hl 0 rfl) ?_
        refine tz_lald hx hb hK hT 3 rfl (by have := li_2; omega) dX11_takesOut_55 (fun v67 e_v67 => ?_)
        clear e_v67
        refine tz_lastP hx hb hK hT hS 1 (zJ []) rfl (by have := li_2; omega) (z_putx (z := 2) li_2 (by decide)) dX11_takesOut_56 (fun H locs hT hS => ?_)
        have hT : TP D A [(h0, ob 8 [.int h0f0, .int h0f1, .int h0f2, .int h0f3, .int h0f4, .int h0f5, .ref h1, .ref h2, .int h0f8, .int h0f9, .ref h3, .ref h4, .ref h5, .ref h6, .ref h7, .ref h8, .ref h9, .int h0f17, .int h0f18, .int h0f19, .ref h10, .ref h11, .ref h12, .ref h13, .int h0f24, .int h0f25, .ref h14, .ref h15, .ref h16, .ref h17, .int h0f30, .int h0f31, .ref h18, .ref h19, .ref h20, .ref h21]), (h4, aJ (k 1) 9 (zJ [])), (h5, aJ (k 1) 9 (zJ [0, 1])), (h7, aJ (k 1) 4 (zJ [3]))] H := hT
        refine lv_aload_n hx hb dX11_takesOut_57 rfl (lv_at hl 2 rfl) ?_
        refine tz_get (ci := 8) (v := .ref h5) (C := RX11) (F := TX11) (N := 36) hx hb hU iX11 hown hK hT 0 rfl rfl 12 (by decide) w797 (fun _ h9 => h9) rfl dX11_takesOut_58 ?_
        refine lv_iload hx hb dX11_takesOut_61 (lv_at hl 0 rfl) ?_
        refine lv_lconst (v := 0) hx hb dX11_takesOut_63 (by decide) ?_
        refine tz_lastP hx hb hK hT hS 2 (zJ [0, 1, 2]) rfl (by have := li_2; omega) (z_put0 (z := 2) li_2 (by decide)) dX11_takesOut_64 (fun H locs hT hS => ?_)
        have hT : TP D A [(h0, ob 8 [.int h0f0, .int h0f1, .int h0f2, .int h0f3, .int h0f4, .int h0f5, .ref h1, .ref h2, .int h0f8, .int h0f9, .ref h3, .ref h4, .ref h5, .ref h6, .ref h7, .ref h8, .ref h9, .int h0f17, .int h0f18, .int h0f19, .ref h10, .ref h11, .ref h12, .ref h13, .int h0f24, .int h0f25, .ref h14, .ref h15, .ref h16, .ref h17, .int h0f30, .int h0f31, .ref h18, .ref h19, .ref h20, .ref h21]), (h4, aJ (k 1) 9 (zJ [])), (h5, aJ (k 1) 9 (zJ [0, 1, 2])), (h7, aJ (k 1) 4 (zJ [3]))] H := hT
        refine lv_iinc (v := 3) (lv' := [(5, .int 3), (4, .int 2), (0, .ref h0), (1, .int x1), (2, .int x2), (3, .int x3)]) hx hb dX11_takesOut_65 hl (k := 0) rfl (by decide) (by decide) rfl (fun ls hl => ?_)
        refine lv_goto (tgt := 37) hx hb dX11_takesOut_68 (by decide) ?_
        refine lv_iload hx hb dX11_takesOut_37 (lv_at hl 0 rfl) ?_
        refine lv_iconst (v := 4) hx hb dX11_takesOut_39 (by decide) ?_
        refine lv_icmp_ge (tgt := 71) hx hb dX11_takesOut_40 (by decide) (fun cc => absurd cc (by decide +kernel)) (fun _ => ?_)
        refine lv_aload_n hx hb dX11_takesOut_43 rfl (lv_at hl 2 rfl) ?_
        refine tz_get (ci := 8) (v := .ref h4) (C := RX11) (F := TX11) (N := 36) hx hb hU iX11 hown hK hT 0 rfl rfl 11 (by decide) w796 (fun _ h9 => h9) rfl dX11_takesOut_44 ?_
        refine lv_iload hx hb dX11_takesOut_47 (lv_at hl 0 rfl) ?_
        refine lv_aload_n hx hb dX11_takesOut_49 rfl (lv_at hl 2 rfl) ?_
        refine tz_get (ci := 8) (v := .ref h7) (C := RX11) (F := TX11) (N := 36) hx hb hU iX11 hown hK hT 0 rfl rfl 14 (by decide) w799 (fun _ h9 => h9) rfl dX11_takesOut_50 ?_
        refine lv_iload hx hb dX11_takesOut_53 (lv_at hl 0 rfl) ?_
        refine tz_lald hx hb hK hT 3 rfl (by have := li_3; omega) dX11_takesOut_55 (fun v68 e_v68 => ?_)
        have e_v68 := z_get (z := 3) e_v68 li_3 (by decide)
        subst e_v68
        refine tz_lastP hx hb hK hT hS 1 (zJ [3]) rfl (by have := li_3; omega) (z_put0 (z := 3) li_3 (by decide)) dX11_takesOut_56 (fun H locs hT hS => ?_)
        have hT : TP D A [(h0, ob 8 [.int h0f0, .int h0f1, .int h0f2, .int h0f3, .int h0f4, .int h0f5, .ref h1, .ref h2, .int h0f8, .int h0f9, .ref h3, .ref h4, .ref h5, .ref h6, .ref h7, .ref h8, .ref h9, .int h0f17, .int h0f18, .int h0f19, .ref h10, .ref h11, .ref h12, .ref h13, .int h0f24, .int h0f25, .ref h14, .ref h15, .ref h16, .ref h17, .int h0f30, .int h0f31, .ref h18, .ref h19, .ref h20, .ref h21]), (h4, aJ (k 1) 9 (zJ [3])), (h5, aJ (k 1) 9 (zJ [0, 1, 2])), (h7, aJ (k 1) 4 (zJ [3]))] H := hT
        refine lv_aload_n hx hb dX11_takesOut_57 rfl (lv_at hl 2 rfl) ?_
        refine tz_get (ci := 8) (v := .ref h5) (C := RX11) (F := TX11) (N := 36) hx hb hU iX11 hown hK hT 0 rfl rfl 12 (by decide) w797 (fun _ h9 => h9) rfl dX11_takesOut_58 ?_
        refine lv_iload hx hb dX11_takesOut_61 (lv_at hl 0 rfl) ?_
        refine lv_lconst (v := 0) hx hb dX11_takesOut_63 (by decide) ?_
        refine tz_lastP hx hb hK hT hS 2 (zJ [0, 1, 2, 3]) rfl (by have := li_3; omega) (z_put0 (z := 3) li_3 (by decide)) dX11_takesOut_64 (fun H locs hT hS => ?_)
        have hT : TP D A [(h0, ob 8 [.int h0f0, .int h0f1, .int h0f2, .int h0f3, .int h0f4, .int h0f5, .ref h1, .ref h2, .int h0f8, .int h0f9, .ref h3, .ref h4, .ref h5, .ref h6, .ref h7, .ref h8, .ref h9, .int h0f17, .int h0f18, .int h0f19, .ref h10, .ref h11, .ref h12, .ref h13, .int h0f24, .int h0f25, .ref h14, .ref h15, .ref h16, .ref h17, .int h0f30, .int h0f31, .ref h18, .ref h19, .ref h20, .ref h21]), (h4, aJ (k 1) 9 (zJ [3])), (h5, aJ (k 1) 9 (zJ [0, 1, 2, 3])), (h7, aJ (k 1) 4 (zJ [3]))] H := hT
        refine lv_iinc (v := 4) (lv' := [(5, .int 4), (4, .int 2), (0, .ref h0), (1, .int x1), (2, .int x2), (3, .int x3)]) hx hb dX11_takesOut_65 hl (k := 0) rfl (by decide) (by decide) rfl (fun ls hl => ?_)
        refine lv_goto (tgt := 37) hx hb dX11_takesOut_68 (by decide) ?_
        refine lv_iload hx hb dX11_takesOut_37 (lv_at hl 0 rfl) ?_
        refine lv_iconst (v := 4) hx hb dX11_takesOut_39 (by decide) ?_
        refine lv_icmp_ge (tgt := 71) hx hb dX11_takesOut_40 (by decide) (fun _ => ?_) (fun cc => absurd (by decide +kernel) cc)
        refine lv_iload hx hb dX11_takesOut_71 (lv_at hl 1 rfl) ?_
        refine lv_istore (lv' := [(5, .int 2), (4, .int 2), (0, .ref h0), (1, .int x1), (2, .int x2), (3, .int x3)]) hx hb dX11_takesOut_73 hl (by decide) rfl (fun ls hl => ?_)
        refine lv_iload hx hb dX11_takesOut_75 (lv_at hl 0 rfl) ?_
        refine lv_iload_n hx hb dX11_takesOut_77 rfl (lv_at hl 3 rfl) ?_
        refine lv_icmp_lt (tgt := 154) hx hb dX11_takesOut_78 (by decide) (fun c_69 => ?_) (fun c_69 => ?_)
        · skip
          have c_69 := ni_lt c_69 li_2 hq1
          exfalso; omega
        · skip
          have c_69 := ni_nlt c_69 li_2 hq1
          refine lv_aload_n hx hb dX11_takesOut_81 rfl (lv_at hl 2 rfl) ?_
          refine tz_get (ci := 8) (v := .ref h4) (C := RX11) (F := TX11) (N := 36) hx hb hU iX11 hown hK hT 0 rfl rfl 11 (by decide) w796 (fun _ h9 => h9) rfl dX11_takesOut_82 ?_
          refine lv_iload hx hb dX11_takesOut_85 (lv_at hl 0 rfl) ?_
          refine tz_lald hx hb hK hT 1 rfl (by have := li_2; omega) dX11_takesOut_87 (fun v70 e_v70 => ?_)
          clear e_v70
          refine lv_lstore (lv' := [(6, .long v70), (5, .int 2), (4, .int 2), (0, .ref h0), (1, .int x1), (2, .int x2), (3, .int x3)]) hx hb dX11_takesOut_88 hl (by decide) rfl (fun ls hl => ?_)
          refine lv_aload_n hx hb dX11_takesOut_90 rfl (lv_at hl 3 rfl) ?_
          refine tz_get (ci := 8) (v := .ref h5) (C := RX11) (F := TX11) (N := 36) hx hb hU iX11 hown hK hT 0 rfl rfl 12 (by decide) w797 (fun _ h9 => h9) rfl dX11_takesOut_91 ?_
          refine lv_iload hx hb dX11_takesOut_94 (lv_at hl 1 rfl) ?_
          refine lv_iload_n hx hb dX11_takesOut_96 rfl (lv_at hl 4 rfl) ?_
          refine lv_isub hx hb dX11_takesOut_97 (lv_topi (fun v71 e_v71 => ?_))
          have e_v71 := ai_sub e_v71 li_2 hq1 (by omega)
          refine lv_lload hx hb dX11_takesOut_98 (lv_at hl 0 rfl) ?_
          refine tz_lastP hx hb hK hT hS 2 (zJ [1, 2, 3]) rfl (by omega) (z_putx (z := 0) (show v71.toInt = 0 by omega) (by decide)) dX11_takesOut_100 (fun H locs hT hS => ?_)
          have hT : TP D A [(h0, ob 8 [.int h0f0, .int h0f1, .int h0f2, .int h0f3, .int h0f4, .int h0f5, .ref h1, .ref h2, .int h0f8, .int h0f9, .ref h3, .ref h4, .ref h5, .ref h6, .ref h7, .ref h8, .ref h9, .int h0f17, .int h0f18, .int h0f19, .ref h10, .ref h11, .ref h12, .ref h13, .int h0f24, .int h0f25, .ref h14, .ref h15, .ref h16, .ref h17, .int h0f30, .int h0f31, .ref h18, .ref h19, .ref h20, .ref h21]), (h4, aJ (k 1) 9 (zJ [3])), (h5, aJ (k 1) 9 (zJ [1, 2, 3])), (h7, aJ (k 1) 4 (zJ [3]))] H := hT
          refine lv_aload_n hx hb dX11_takesOut_101 rfl (lv_at hl 3 rfl) ?_
          refine tz_get (ci := 8) (v := .ref h4) (C := RX11) (F := TX11) (N := 36) hx hb hU iX11 hown hK hT 0 rfl rfl 11 (by decide) w796 (fun _ h9 => h9) rfl dX11_takesOut_102 ?_
          refine lv_iload hx hb dX11_takesOut_105 (lv_at hl 1 rfl) ?_
          refine lv_iload_n hx hb dX11_takesOut_107 rfl (lv_at hl 4 rfl) ?_
          refine lv_isub hx hb dX11_takesOut_108 (lv_topi (fun v72 e_v72 => ?_))
          have e_v72 := ai_sub e_v72 li_2 hq1 (by omega)
          refine lv_dup2_11 hx hb dX11_takesOut_109 rfl rfl ?_
          refine tz_lald hx hb hK hT 1 rfl (by omega) dX11_takesOut_110 (fun v73 e_v73 => ?_)
          clear e_v73
          refine lv_lload hx hb dX11_takesOut_111 (lv_at hl 0 rfl) ?_
          refine lv_iload_n hx hb dX11_takesOut_113 rfl (lv_at hl 5 rfl) ?_
          obtain ⟨v74, e_v74⟩ : ∃ x : Int64, x2.toInt64 = x := ⟨_, rfl⟩
          refine lv_i2l (v := v74) hx hb dX11_takesOut_114 e_v74 ?_
          have e_v74 := ai_i2l e_v74 rfl
          refine lv_lmul hx hb dX11_takesOut_115 (lv_topl (fun v75 e_v75 => ?_))
          refine lv_lsub hx hb dX11_takesOut_116 (lv_topl (fun v76 e_v76 => ?_))
          refine tz_lastP hx hb hK hT hS 1 (zJ [3]) rfl (by omega) (z_putx (z := 0) (show v72.toInt = 0 by omega) (by decide)) dX11_takesOut_117 (fun H locs hT hS => ?_)
          have hT : TP D A [(h0, ob 8 [.int h0f0, .int h0f1, .int h0f2, .int h0f3, .int h0f4, .int h0f5, .ref h1, .ref h2, .int h0f8, .int h0f9, .ref h3, .ref h4, .ref h5, .ref h6, .ref h7, .ref h8, .ref h9, .int h0f17, .int h0f18, .int h0f19, .ref h10, .ref h11, .ref h12, .ref h13, .int h0f24, .int h0f25, .ref h14, .ref h15, .ref h16, .ref h17, .int h0f30, .int h0f31, .ref h18, .ref h19, .ref h20, .ref h21]), (h4, aJ (k 1) 9 (zJ [3])), (h5, aJ (k 1) 9 (zJ [1, 2, 3])), (h7, aJ (k 1) 4 (zJ [3]))] H := hT
          refine lv_iload_n hx hb dX11_takesOut_118 rfl (lv_at hl 4 rfl) ?_
          refine lv_iconst (v := 2) hx hb dX11_takesOut_119 (by decide) ?_
          refine lv_icmp_ne (tgt := 140) hx hb dX11_takesOut_120 (by decide) (fun c_77 => ?_) (fun c_77 => ?_)
          · skip
            have c_77 := ni_ne c_77 hq1 li_2
            exfalso; omega
          · skip
            have c_77 := ni_eq c_77 hq1 li_2
            refine lv_aload_n hx hb dX11_takesOut_123 rfl (lv_at hl 3 rfl) ?_
            refine tz_get (ci := 8) (v := .ref h4) (C := RX11) (F := TX11) (N := 36) hx hb hU iX11 hown hK hT 0 rfl rfl 11 (by decide) w796 (fun _ h9 => h9) rfl dX11_takesOut_124 ?_
            refine lv_iload hx hb dX11_takesOut_127 (lv_at hl 1 rfl) ?_
            refine lv_iconst (v := 1) hx hb dX11_takesOut_129 (by decide) ?_
            refine lv_isub hx hb dX11_takesOut_130 (sv_i (v := 1) (by decide +kernel) ?_)
            refine lv_dup2_11 hx hb dX11_takesOut_131 rfl rfl ?_
            refine tz_lald hx hb hK hT 1 rfl (by have := li_1; omega) dX11_takesOut_132 (fun v78 e_v78 => ?_)
            clear e_v78
            refine lv_lload hx hb dX11_takesOut_133 (lv_at hl 0 rfl) ?_
            refine lv_iload_n hx hb dX11_takesOut_135 rfl (lv_at hl 6 rfl) ?_
            obtain ⟨v79, e_v79⟩ : ∃ x : Int64, x3.toInt64 = x := ⟨_, rfl⟩
            refine lv_i2l (v := v79) hx hb dX11_takesOut_136 e_v79 ?_
            have e_v79 := ai_i2l e_v79 rfl
            refine lv_lmul hx hb dX11_takesOut_137 (lv_topl (fun v80 e_v80 => ?_))
            refine lv_lsub hx hb dX11_takesOut_138 (lv_topl (fun v81 e_v81 => ?_))
            refine tz_lastP hx hb hK hT hS 1 (zJ [3]) rfl (by have := li_1; omega) (z_putx (z := 1) li_1 (by decide)) dX11_takesOut_139 (fun H locs hT hS => ?_)
            have hT : TP D A [(h0, ob 8 [.int h0f0, .int h0f1, .int h0f2, .int h0f3, .int h0f4, .int h0f5, .ref h1, .ref h2, .int h0f8, .int h0f9, .ref h3, .ref h4, .ref h5, .ref h6, .ref h7, .ref h8, .ref h9, .int h0f17, .int h0f18, .int h0f19, .ref h10, .ref h11, .ref h12, .ref h13, .int h0f24, .int h0f25, .ref h14, .ref h15, .ref h16, .ref h17, .int h0f30, .int h0f31, .ref h18, .ref h19, .ref h20, .ref h21]), (h4, aJ (k 1) 9 (zJ [3])), (h5, aJ (k 1) 9 (zJ [1, 2, 3])), (h7, aJ (k 1) 4 (zJ [3]))] H := hT
            refine lv_aload_n hx hb dX11_takesOut_140 rfl (lv_at hl 3 rfl) ?_
            refine tz_get (ci := 8) (v := .ref h4) (C := RX11) (F := TX11) (N := 36) hx hb hU iX11 hown hK hT 0 rfl rfl 11 (by decide) w796 (fun _ h9 => h9) rfl dX11_takesOut_141 ?_
            refine lv_iload hx hb dX11_takesOut_144 (lv_at hl 1 rfl) ?_
            refine lv_lconst (v := 0) hx hb dX11_takesOut_146 (by decide) ?_
            refine tz_lastP hx hb hK hT hS 1 (zJ [2, 3]) rfl (by have := li_2; omega) (z_put0 (z := 2) li_2 (by decide)) dX11_takesOut_147 (fun H locs hT hS => ?_)
            have hT : TP D A [(h0, ob 8 [.int h0f0, .int h0f1, .int h0f2, .int h0f3, .int h0f4, .int h0f5, .ref h1, .ref h2, .int h0f8, .int h0f9, .ref h3, .ref h4, .ref h5, .ref h6, .ref h7, .ref h8, .ref h9, .int h0f17, .int h0f18, .int h0f19, .ref h10, .ref h11, .ref h12, .ref h13, .int h0f24, .int h0f25, .ref h14, .ref h15, .ref h16, .ref h17, .int h0f30, .int h0f31, .ref h18, .ref h19, .ref h20, .ref h21]), (h4, aJ (k 1) 9 (zJ [2, 3])), (h5, aJ (k 1) 9 (zJ [1, 2, 3])), (h7, aJ (k 1) 4 (zJ [3]))] H := hT
            refine lv_iinc (v := 1) (lv' := [(5, .int 1), (6, .long v70), (4, .int 2), (0, .ref h0), (1, .int x1), (2, .int x2), (3, .int x3)]) hx hb dX11_takesOut_148 hl (k := 1) rfl (by decide) (by decide) rfl (fun ls hl => ?_)
            refine lv_goto (tgt := 75) hx hb dX11_takesOut_151 (by decide) ?_
            refine lv_iload hx hb dX11_takesOut_75 (lv_at hl 0 rfl) ?_
            refine lv_iload_n hx hb dX11_takesOut_77 rfl (lv_at hl 4 rfl) ?_
            refine lv_icmp_lt (tgt := 154) hx hb dX11_takesOut_78 (by decide) (fun c_82 => ?_) (fun c_82 => ?_)
            · skip
              have c_82 := ni_lt c_82 li_1 hq1
              refine lv_aload_n hx hb dX11_takesOut_154 rfl (lv_at hl 3 rfl) ?_
              refine tz_get (ci := 8) (v := .ref h4) (C := RX11) (F := TX11) (N := 36) hx hb hU iX11 hown hK hT 0 rfl rfl 11 (by decide) w796 (fun _ h9 => h9) rfl dX11_takesOut_155 ?_
              refine lv_iconst (v := 0) hx hb dX11_takesOut_158 (by decide) ?_
              refine tz_lald hx hb hK hT 1 rfl (by have := li_0; omega) dX11_takesOut_159 (fun v83 e_v83 => ?_)
              clear e_v83
              refine lv_lconst (v := 0) hx hb dX11_takesOut_160 (by decide) ?_
              refine W.lcmp hx hb dX11_takesOut_161 ?_
              refine lv_if_ne (tgt := 176) hx hb dX11_takesOut_162 (by decide) (fun c_84 => ?_) (fun c_84 => ?_)
              · skip
                have c_84 := nl_ne c_84 rfl ll_0
                refine lv_iconst (v := 0) hx hb dX11_takesOut_176 (by decide) ?_
                have hT := hT.wk (q := 1) rfl (an_J (c := k 1) (n := 9))
                have hT : TP D A [(h0, ob 8 [.int h0f0, .int h0f1, .int h0f2, .int h0f3, .int h0f4, .int h0f5, .ref h1, .ref h2, .int h0f8, .int h0f9, .ref h3, .ref h4, .ref h5, .ref h6, .ref h7, .ref h8, .ref h9, .int h0f17, .int h0f18, .int h0f19, .ref h10, .ref h11, .ref h12, .ref h13, .int h0f24, .int h0f25, .ref h14, .ref h15, .ref h16, .ref h17, .int h0f30, .int h0f31, .ref h18, .ref h19, .ref h20, .ref h21]), (h4, aJ (k 1) 9 anJ), (h5, aJ (k 1) 9 (zJ [1, 2, 3])), (h7, aJ (k 1) 4 (zJ [3]))] H := hT
                have hT := hT.wk (q := 2) rfl (an_J (c := k 1) (n := 9))
                have hT : TP D A [(h0, ob 8 [.int h0f0, .int h0f1, .int h0f2, .int h0f3, .int h0f4, .int h0f5, .ref h1, .ref h2, .int h0f8, .int h0f9, .ref h3, .ref h4, .ref h5, .ref h6, .ref h7, .ref h8, .ref h9, .int h0f17, .int h0f18, .int h0f19, .ref h10, .ref h11, .ref h12, .ref h13, .int h0f24, .int h0f25, .ref h14, .ref h15, .ref h16, .ref h17, .int h0f30, .int h0f31, .ref h18, .ref h19, .ref h20, .ref h21]), (h4, aJ (k 1) 9 anJ), (h5, aJ (k 1) 9 anJ), (h7, aJ (k 1) 4 (zJ [3]))] H := hT
                have hT := hT.wk (q := 3) rfl (an_J (c := k 1) (n := 4))
                have hT : TP D A [(h0, ob 8 [.int h0f0, .int h0f1, .int h0f2, .int h0f3, .int h0f4, .int h0f5, .ref h1, .ref h2, .int h0f8, .int h0f9, .ref h3, .ref h4, .ref h5, .ref h6, .ref h7, .ref h8, .ref h9, .int h0f17, .int h0f18, .int h0f19, .ref h10, .ref h11, .ref h12, .ref h13, .int h0f24, .int h0f25, .ref h14, .ref h15, .ref h16, .ref h17, .int h0f30, .int h0f31, .ref h18, .ref h19, .ref h20, .ref h21]), (h4, aJ (k 1) 9 anJ), (h5, aJ (k 1) 9 anJ), (h7, aJ (k 1) 4 anJ)] H := hT
                exact tz_retZ (B := B_cX11_takesOut_75942 D k h0 h4 h5 h7 h1 h2 h3 h6 h8 h9 h10 h11 h12 h13 h14 h15 h16 h17 h18 h19 h20 h21 x1 x2 x3 h0f0 h0f1 h0f2 h0f3 h0f4 h0f5 h0f8 h0f9 h0f17 h0f18 h0f19 h0f24 h0f25 h0f30 h0f31) (v := 0) hQ hx hb hr hlocks hS (Nat.le_of_ble_eq_true rfl) (Nat.le_of_ble_eq_true rfl) dX11_takesOut_177 (by have := li_0; omega) (Or.inl ⟨rfl, hT⟩)
              · skip
                have c_84 := nl_eq c_84 rfl ll_0
                refine lv_aload_n hx hb dX11_takesOut_165 rfl (lv_at hl 3 rfl) ?_
                refine tz_get (ci := 8) (v := .ref h4) (C := RX11) (F := TX11) (N := 36) hx hb hU iX11 hown hK hT 0 rfl rfl 11 (by decide) w796 (fun _ h9 => h9) rfl dX11_takesOut_166 ?_
                refine lv_iconst (v := 1) hx hb dX11_takesOut_169 (by decide) ?_
                refine tz_lald hx hb hK hT 1 rfl (by have := li_1; omega) dX11_takesOut_170 (fun v85 e_v85 => ?_)
                clear e_v85
                refine lv_lconst (v := 0) hx hb dX11_takesOut_171 (by decide) ?_
                refine W.lcmp hx hb dX11_takesOut_172 ?_
                refine lv_if_eq (tgt := 178) hx hb dX11_takesOut_173 (by decide) (fun c_86 => ?_) (fun c_86 => ?_)
                · skip
                  have c_86 := nl_eq c_86 rfl ll_0
                  refine lv_iconst (v := 0) hx hb dX11_takesOut_178 (by decide) ?_
                  refine lv_istore (lv' := [(5, .int 0), (6, .long v70), (4, .int 2), (0, .ref h0), (1, .int x1), (2, .int x2), (3, .int x3)]) hx hb dX11_takesOut_179 hl (by decide) rfl (fun ls hl => ?_)
                  refine lv_iload hx hb dX11_takesOut_181 (lv_at hl 0 rfl) ?_
                  refine lv_iconst (v := 4) hx hb dX11_takesOut_183 (by decide) ?_
                  refine lv_icmp_ge (tgt := 207) hx hb dX11_takesOut_184 (by decide) (fun cc => absurd cc (by decide +kernel)) (fun _ => ?_)
                  refine lv_aload_n hx hb dX11_takesOut_187 rfl (lv_at hl 3 rfl) ?_
                  refine tz_get (ci := 8) (v := .ref h7) (C := RX11) (F := TX11) (N := 36) hx hb hU iX11 hown hK hT 0 rfl rfl 14 (by decide) w799 (fun _ h9 => h9) rfl dX11_takesOut_188 ?_
                  refine lv_iload hx hb dX11_takesOut_191 (lv_at hl 0 rfl) ?_
                  refine lv_aload_n hx hb dX11_takesOut_193 rfl (lv_at hl 3 rfl) ?_
                  refine tz_get (ci := 8) (v := .ref h5) (C := RX11) (F := TX11) (N := 36) hx hb hU iX11 hown hK hT 0 rfl rfl 12 (by decide) w797 (fun _ h9 => h9) rfl dX11_takesOut_194 ?_
                  refine lv_iload hx hb dX11_takesOut_197 (lv_at hl 0 rfl) ?_
                  refine tz_lald hx hb hK hT 2 rfl (by have := li_0; omega) dX11_takesOut_199 (fun v87 e_v87 => ?_)
                  clear e_v87
                  refine tz_lastP hx hb hK hT hS 3 (zJ [3]) rfl (by have := li_0; omega) (z_putx (z := 0) li_0 (by decide)) dX11_takesOut_200 (fun H locs hT hS => ?_)
                  have hT : TP D A [(h0, ob 8 [.int h0f0, .int h0f1, .int h0f2, .int h0f3, .int h0f4, .int h0f5, .ref h1, .ref h2, .int h0f8, .int h0f9, .ref h3, .ref h4, .ref h5, .ref h6, .ref h7, .ref h8, .ref h9, .int h0f17, .int h0f18, .int h0f19, .ref h10, .ref h11, .ref h12, .ref h13, .int h0f24, .int h0f25, .ref h14, .ref h15, .ref h16, .ref h17, .int h0f30, .int h0f31, .ref h18, .ref h19, .ref h20, .ref h21]), (h4, aJ (k 1) 9 (zJ [2, 3])), (h5, aJ (k 1) 9 (zJ [1, 2, 3])), (h7, aJ (k 1) 4 (zJ [3]))] H := hT
                  refine lv_iinc (v := 1) (lv' := [(5, .int 1), (6, .long v70), (4, .int 2), (0, .ref h0), (1, .int x1), (2, .int x2), (3, .int x3)]) hx hb dX11_takesOut_201 hl (k := 0) rfl (by decide) (by decide) rfl (fun ls hl => ?_)
                  refine lv_goto (tgt := 181) hx hb dX11_takesOut_204 (by decide) ?_
                  refine lv_iload hx hb dX11_takesOut_181 (lv_at hl 0 rfl) ?_
                  refine lv_iconst (v := 4) hx hb dX11_takesOut_183 (by decide) ?_
                  refine lv_icmp_ge (tgt := 207) hx hb dX11_takesOut_184 (by decide) (fun cc => absurd cc (by decide +kernel)) (fun _ => ?_)
                  refine lv_aload_n hx hb dX11_takesOut_187 rfl (lv_at hl 3 rfl) ?_
                  refine tz_get (ci := 8) (v := .ref h7) (C := RX11) (F := TX11) (N := 36) hx hb hU iX11 hown hK hT 0 rfl rfl 14 (by decide) w799 (fun _ h9 => h9) rfl dX11_takesOut_188 ?_
                  refine lv_iload hx hb dX11_takesOut_191 (lv_at hl 0 rfl) ?_
                  refine lv_aload_n hx hb dX11_takesOut_193 rfl (lv_at hl 3 rfl) ?_
                  refine tz_get (ci := 8) (v := .ref h5) (C := RX11) (F := TX11) (N := 36) hx hb hU iX11 hown hK hT 0 rfl rfl 12 (by decide) w797 (fun _ h9 => h9) rfl dX11_takesOut_194 ?_
                  refine lv_iload hx hb dX11_takesOut_197 (lv_at hl 0 rfl) ?_
                  refine tz_lald hx hb hK hT 2 rfl (by have := li_1; omega) dX11_takesOut_199 (fun v88 e_v88 => ?_)
                  have e_v88 := z_get (z := 1) e_v88 li_1 (by decide)
                  subst e_v88
                  refine tz_lastP hx hb hK hT hS 3 (zJ [1, 3]) rfl (by have := li_1; omega) (z_put0 (z := 1) li_1 (by decide)) dX11_takesOut_200 (fun H locs hT hS => ?_)
                  have hT : TP D A [(h0, ob 8 [.int h0f0, .int h0f1, .int h0f2, .int h0f3, .int h0f4, .int h0f5, .ref h1, .ref h2, .int h0f8, .int h0f9, .ref h3, .ref h4, .ref h5, .ref h6, .ref h7, .ref h8, .ref h9, .int h0f17, .int h0f18, .int h0f19, .ref h10, .ref h11, .ref h12, .ref h13, .int h0f24, .int h0f25, .ref h14, .ref h15, .ref h16, .ref h17, .int h0f30, .int h0f31, .ref h18, .ref h19, .ref h20, .ref h21]), (h4, aJ (k 1) 9 (zJ [2, 3])), (h5, aJ (k 1) 9 (zJ [1, 2, 3])), (h7, aJ (k 1) 4 (zJ [1, 3]))] H := hT
                  refine lv_iinc (v := 2) (lv' := [(5, .int 2), (6, .long v70), (4, .int 2), (0, .ref h0), (1, .int x1), (2, .int x2), (3, .int x3)]) hx hb dX11_takesOut_201 hl (k := 0) rfl (by decide) (by decide) rfl (fun ls hl => ?_)
                  refine lv_goto (tgt := 181) hx hb dX11_takesOut_204 (by decide) ?_
                  refine lv_iload hx hb dX11_takesOut_181 (lv_at hl 0 rfl) ?_
                  refine lv_iconst (v := 4) hx hb dX11_takesOut_183 (by decide) ?_
                  refine lv_icmp_ge (tgt := 207) hx hb dX11_takesOut_184 (by decide) (fun cc => absurd cc (by decide +kernel)) (fun _ => ?_)
                  refine lv_aload_n hx hb dX11_takesOut_187 rfl (lv_at hl 3 rfl) ?_
                  refine tz_get (ci := 8) (v := .ref h7) (C := RX11) (F := TX11) (N := 36) hx hb hU iX11 hown hK hT 0 rfl rfl 14 (by decide) w799 (fun _ h9 => h9) rfl dX11_takesOut_188 ?_
                  refine lv_iload hx hb dX11_takesOut_191 (lv_at hl 0 rfl) ?_
                  refine lv_aload_n hx hb dX11_takesOut_193 rfl (lv_at hl 3 rfl) ?_
                  refine tz_get (ci := 8) (v := .ref h5) (C := RX11) (F := TX11) (N := 36) hx hb hU iX11 hown hK hT 0 rfl rfl 12 (by decide) w797 (fun _ h9 => h9) rfl dX11_takesOut_194 ?_
                  refine lv_iload hx hb dX11_takesOut_197 (lv_at hl 0 rfl) ?_
                  refine tz_lald hx hb hK hT 2 rfl (by have := li_2; omega) dX11_takesOut_199 (fun v89 e_v89 => ?_)
                  have e_v89 := z_get (z := 2) e_v89 li_2 (by decide)
                  subst e_v89
                  refine tz_lastP hx hb hK hT hS 3 (zJ [1, 2, 3]) rfl (by have := li_2; omega) (z_put0 (z := 2) li_2 (by decide)) dX11_takesOut_200 (fun H locs hT hS => ?_)
                  have hT : TP D A [(h0, ob 8 [.int h0f0, .int h0f1, .int h0f2, .int h0f3, .int h0f4, .int h0f5, .ref h1, .ref h2, .int h0f8, .int h0f9, .ref h3, .ref h4, .ref h5, .ref h6, .ref h7, .ref h8, .ref h9, .int h0f17, .int h0f18, .int h0f19, .ref h10, .ref h11, .ref h12, .ref h13, .int h0f24, .int h0f25, .ref h14, .ref h15, .ref h16, .ref h17, .int h0f30, .int h0f31, .ref h18, .ref h19, .ref h20, .ref h21]), (h4, aJ (k 1) 9 (zJ [2, 3])), (h5, aJ (k 1) 9 (zJ [1, 2, 3])), (h7, aJ (k 1) 4 (zJ [1, 2, 3]))] H := hT
                  refine lv_iinc (v := 3) (lv' := [(5, .int 3), (6, .long v70), (4, .int 2), (0, .ref h0), (1, .int x1), (2, .int x2), (3, .int x3)]) hx hb dX11_takesOut_201 hl (k := 0) rfl (by decide) (by decide) rfl (fun ls hl => ?_)
                  refine lv_goto (tgt := 181) hx hb dX11_takesOut_204 (by decide) ?_
                  refine lv_iload hx hb dX11_takesOut_181 (lv_at hl 0 rfl) ?_
                  refine lv_iconst (v := 4) hx hb dX11_takesOut_183 (by decide) ?_
                  refine lv_icmp_ge (tgt := 207) hx hb dX11_takesOut_184 (by decide) (fun cc => absurd cc (by decide +kernel)) (fun _ => ?_)
                  refine lv_aload_n hx hb dX11_takesOut_187 rfl (lv_at hl 3 rfl) ?_
                  refine tz_get (ci := 8) (v := .ref h7) (C := RX11) (F := TX11) (N := 36) hx hb hU iX11 hown hK hT 0 rfl rfl 14 (by decide) w799 (fun _ h9 => h9) rfl dX11_takesOut_188 ?_
                  refine lv_iload hx hb dX11_takesOut_191 (lv_at hl 0 rfl) ?_
                  refine lv_aload_n hx hb dX11_takesOut_193 rfl (lv_at hl 3 rfl) ?_
                  refine tz_get (ci := 8) (v := .ref h5) (C := RX11) (F := TX11) (N := 36) hx hb hU iX11 hown hK hT 0 rfl rfl 12 (by decide) w797 (fun _ h9 => h9) rfl dX11_takesOut_194 ?_
                  refine lv_iload hx hb dX11_takesOut_197 (lv_at hl 0 rfl) ?_
                  refine tz_lald hx hb hK hT 2 rfl (by have := li_3; omega) dX11_takesOut_199 (fun v90 e_v90 => ?_)
                  have e_v90 := z_get (z := 3) e_v90 li_3 (by decide)
                  subst e_v90
                  refine tz_lastP hx hb hK hT hS 3 (zJ [1, 2, 3]) rfl (by have := li_3; omega) (z_put0 (z := 3) li_3 (by decide)) dX11_takesOut_200 (fun H locs hT hS => ?_)
                  have hT : TP D A [(h0, ob 8 [.int h0f0, .int h0f1, .int h0f2, .int h0f3, .int h0f4, .int h0f5, .ref h1, .ref h2, .int h0f8, .int h0f9, .ref h3, .ref h4, .ref h5, .ref h6, .ref h7, .ref h8, .ref h9, .int h0f17, .int h0f18, .int h0f19, .ref h10, .ref h11, .ref h12, .ref h13, .int h0f24, .int h0f25, .ref h14, .ref h15, .ref h16, .ref h17, .int h0f30, .int h0f31, .ref h18, .ref h19, .ref h20, .ref h21]), (h4, aJ (k 1) 9 (zJ [2, 3])), (h5, aJ (k 1) 9 (zJ [1, 2, 3])), (h7, aJ (k 1) 4 (zJ [1, 2, 3]))] H := hT
                  refine lv_iinc (v := 4) (lv' := [(5, .int 4), (6, .long v70), (4, .int 2), (0, .ref h0), (1, .int x1), (2, .int x2), (3, .int x3)]) hx hb dX11_takesOut_201 hl (k := 0) rfl (by decide) (by decide) rfl (fun ls hl => ?_)
                  refine lv_goto (tgt := 181) hx hb dX11_takesOut_204 (by decide) ?_
                  refine lv_iload hx hb dX11_takesOut_181 (lv_at hl 0 rfl) ?_
                  refine lv_iconst (v := 4) hx hb dX11_takesOut_183 (by decide) ?_
                  refine lv_icmp_ge (tgt := 207) hx hb dX11_takesOut_184 (by decide) (fun _ => ?_) (fun cc => absurd (by decide +kernel) cc)
                  refine lv_iconst (v := 1) hx hb dX11_takesOut_207 (by decide) ?_
                  have hT := hT.wk (q := 1) rfl (an_J (c := k 1) (n := 9))
                  have hT : TP D A [(h0, ob 8 [.int h0f0, .int h0f1, .int h0f2, .int h0f3, .int h0f4, .int h0f5, .ref h1, .ref h2, .int h0f8, .int h0f9, .ref h3, .ref h4, .ref h5, .ref h6, .ref h7, .ref h8, .ref h9, .int h0f17, .int h0f18, .int h0f19, .ref h10, .ref h11, .ref h12, .ref h13, .int h0f24, .int h0f25, .ref h14, .ref h15, .ref h16, .ref h17, .int h0f30, .int h0f31, .ref h18, .ref h19, .ref h20, .ref h21]), (h4, aJ (k 1) 9 anJ), (h5, aJ (k 1) 9 (zJ [1, 2, 3])), (h7, aJ (k 1) 4 (zJ [1, 2, 3]))] H := hT
                  have hT := hT.wk (q := 2) rfl (an_J (c := k 1) (n := 9))
                  have hT : TP D A [(h0, ob 8 [.int h0f0, .int h0f1, .int h0f2, .int h0f3, .int h0f4, .int h0f5, .ref h1, .ref h2, .int h0f8, .int h0f9, .ref h3, .ref h4, .ref h5, .ref h6, .ref h7, .ref h8, .ref h9, .int h0f17, .int h0f18, .int h0f19, .ref h10, .ref h11, .ref h12, .ref h13, .int h0f24, .int h0f25, .ref h14, .ref h15, .ref h16, .ref h17, .int h0f30, .int h0f31, .ref h18, .ref h19, .ref h20, .ref h21]), (h4, aJ (k 1) 9 anJ), (h5, aJ (k 1) 9 anJ), (h7, aJ (k 1) 4 (zJ [1, 2, 3]))] H := hT
                  have hT := hT.wk (q := 3) rfl (z_sub (c := k 1) (n := 4) (l := [1, 2, 3]) (m := [2, 3]) (by decide))
                  have hT : TP D A [(h0, ob 8 [.int h0f0, .int h0f1, .int h0f2, .int h0f3, .int h0f4, .int h0f5, .ref h1, .ref h2, .int h0f8, .int h0f9, .ref h3, .ref h4, .ref h5, .ref h6, .ref h7, .ref h8, .ref h9, .int h0f17, .int h0f18, .int h0f19, .ref h10, .ref h11, .ref h12, .ref h13, .int h0f24, .int h0f25, .ref h14, .ref h15, .ref h16, .ref h17, .int h0f30, .int h0f31, .ref h18, .ref h19, .ref h20, .ref h21]), (h4, aJ (k 1) 9 anJ), (h5, aJ (k 1) 9 anJ), (h7, aJ (k 1) 4 (zJ [2, 3]))] H := hT
                  exact tz_retZ (B := B_cX11_takesOut_75942 D k h0 h4 h5 h7 h1 h2 h3 h6 h8 h9 h10 h11 h12 h13 h14 h15 h16 h17 h18 h19 h20 h21 x1 x2 x3 h0f0 h0f1 h0f2 h0f3 h0f4 h0f5 h0f8 h0f9 h0f17 h0f18 h0f19 h0f24 h0f25 h0f30 h0f31) (v := 1) hQ hx hb hr hlocks hS (Nat.le_of_ble_eq_true rfl) (Nat.le_of_ble_eq_true rfl) dX11_takesOut_208 (by have := li_1; omega) (Or.inr (Or.inr (Or.inr (⟨v62, v83, v85, (by have := li_1; omega), (by have := li_1; omega), (by have := li_1; omega), (by have := li_1; omega), (by have := li_1; omega), (by have := li_1; omega), (by have := li_1; omega), (by have := li_1; omega), rfl, hT⟩))))
                · skip
                  have c_86 := nl_ne c_86 rfl ll_0
                  refine lv_iconst (v := 0) hx hb dX11_takesOut_176 (by decide) ?_
                  have hT := hT.wk (q := 1) rfl (an_J (c := k 1) (n := 9))
                  have hT : TP D A [(h0, ob 8 [.int h0f0, .int h0f1, .int h0f2, .int h0f3, .int h0f4, .int h0f5, .ref h1, .ref h2, .int h0f8, .int h0f9, .ref h3, .ref h4, .ref h5, .ref h6, .ref h7, .ref h8, .ref h9, .int h0f17, .int h0f18, .int h0f19, .ref h10, .ref h11, .ref h12, .ref h13, .int h0f24, .int h0f25, .ref h14, .ref h15, .ref h16, .ref h17, .int h0f30, .int h0f31, .ref h18, .ref h19, .ref h20, .ref h21]), (h4, aJ (k 1) 9 anJ), (h5, aJ (k 1) 9 (zJ [1, 2, 3])), (h7, aJ (k 1) 4 (zJ [3]))] H := hT
                  have hT := hT.wk (q := 2) rfl (an_J (c := k 1) (n := 9))
                  have hT : TP D A [(h0, ob 8 [.int h0f0, .int h0f1, .int h0f2, .int h0f3, .int h0f4, .int h0f5, .ref h1, .ref h2, .int h0f8, .int h0f9, .ref h3, .ref h4, .ref h5, .ref h6, .ref h7, .ref h8, .ref h9, .int h0f17, .int h0f18, .int h0f19, .ref h10, .ref h11, .ref h12, .ref h13, .int h0f24, .int h0f25, .ref h14, .ref h15, .ref h16, .ref h17, .int h0f30, .int h0f31, .ref h18, .ref h19, .ref h20, .ref h21]), (h4, aJ (k 1) 9 anJ), (h5, aJ (k 1) 9 anJ), (h7, aJ (k 1) 4 (zJ [3]))] H := hT
                  have hT := hT.wk (q := 3) rfl (an_J (c := k 1) (n := 4))
                  have hT : TP D A [(h0, ob 8 [.int h0f0, .int h0f1, .int h0f2, .int h0f3, .int h0f4, .int h0f5, .ref h1, .ref h2, .int h0f8, .int h0f9, .ref h3, .ref h4, .ref h5, .ref h6, .ref h7, .ref h8, .ref h9, .int h0f17, .int h0f18, .int h0f19, .ref h10, .ref h11, .ref h12, .ref h13, .int h0f24, .int h0f25, .ref h14, .ref h15, .ref h16, .ref h17, .int h0f30, .int h0f31, .ref h18, .ref h19, .ref h20, .ref h21]), (h4, aJ (k 1) 9 anJ), (h5, aJ (k 1) 9 anJ), (h7, aJ (k 1) 4 anJ)] H := hT
                  exact tz_retZ (B := B_cX11_takesOut_75942 D k h0 h4 h5 h7 h1 h2 h3 h6 h8 h9 h10 h11 h12 h13 h14 h15 h16 h17 h18 h19 h20 h21 x1 x2 x3 h0f0 h0f1 h0f2 h0f3 h0f4 h0f5 h0f8 h0f9 h0f17 h0f18 h0f19 h0f24 h0f25 h0f30 h0f31) (v := 0) hQ hx hb hr hlocks hS (Nat.le_of_ble_eq_true rfl) (Nat.le_of_ble_eq_true rfl) dX11_takesOut_177 (by have := li_0; omega) (Or.inl ⟨rfl, hT⟩)
            · skip
              have c_82 := ni_nlt c_82 li_1 hq1
              exfalso; omega
      · skip
        have c_64 := ni_nle c_64 hq1 li_2
        exfalso; omega
    · skip
      have c_63 := nl_eq c_63 rfl ll_0
      refine lv_iinc (v := 1) (lv' := [(4, .int 1), (0, .ref h0), (1, .int x1), (2, .int x2), (3, .int x3)]) hx hb dX11_takesOut_20 hl (k := 0) rfl (by decide) (by decide) rfl (fun ls hl => ?_)
      refine lv_goto (tgt := 3) hx hb dX11_takesOut_23 (by decide) ?_
      refine lv_iload hx hb dX11_takesOut_3 (lv_at hl 0 rfl) ?_
      refine lv_if_le (tgt := 26) hx hb dX11_takesOut_5 (by decide) (fun cc => absurd cc (by decide +kernel)) (fun _ => ?_)
      refine lv_aload_n hx hb dX11_takesOut_8 rfl (lv_at hl 1 rfl) ?_
      refine tz_get (ci := 8) (v := .ref h7) (C := RX11) (F := TX11) (N := 36) hx hb hU iX11 hown hK hT 0 rfl rfl 14 (by decide) w799 (fun _ h9 => h9) rfl dX11_takesOut_9 ?_
      refine lv_iload hx hb dX11_takesOut_12 (lv_at hl 0 rfl) ?_
      refine tz_lald hx hb hK hT 3 rfl (by have := li_1; omega) dX11_takesOut_14 (fun v91 e_v91 => ?_)
      clear e_v91
      refine lv_lconst (v := 0) hx hb dX11_takesOut_15 (by decide) ?_
      refine W.lcmp hx hb dX11_takesOut_16 ?_
      refine lv_if_ne (tgt := 26) hx hb dX11_takesOut_17 (by decide) (fun c_92 => ?_) (fun c_92 => ?_)
      · skip
        have c_92 := nl_ne c_92 rfl ll_0
        refine lv_iload hx hb dX11_takesOut_26 (lv_at hl 0 rfl) ?_
        refine lv_iload_n hx hb dX11_takesOut_28 rfl (lv_at hl 2 rfl) ?_
        refine lv_icmp_ge (tgt := 34) hx hb dX11_takesOut_29 (by decide) (fun c_93 => ?_) (fun c_93 => ?_)
        · skip
          have c_93 := ni_le c_93 hq1 li_1
          exfalso; omega
        · skip
          have c_93 := ni_nle c_93 hq1 li_1
          refine lv_iconst (v := 0) hx hb dX11_takesOut_32 (by decide) ?_
          have hT := hT.wk (q := 3) rfl (an_J (c := k 1) (n := 4))
          have hT : TP D A [(h0, ob 8 [.int h0f0, .int h0f1, .int h0f2, .int h0f3, .int h0f4, .int h0f5, .ref h1, .ref h2, .int h0f8, .int h0f9, .ref h3, .ref h4, .ref h5, .ref h6, .ref h7, .ref h8, .ref h9, .int h0f17, .int h0f18, .int h0f19, .ref h10, .ref h11, .ref h12, .ref h13, .int h0f24, .int h0f25, .ref h14, .ref h15, .ref h16, .ref h17, .int h0f30, .int h0f31, .ref h18, .ref h19, .ref h20, .ref h21]), (h4, aJ (k 1) 9 anJ), (h5, aJ (k 1) 9 anJ), (h7, aJ (k 1) 4 anJ)] H := hT
          exact tz_retZ (B := B_cX11_takesOut_75942 D k h0 h4 h5 h7 h1 h2 h3 h6 h8 h9 h10 h11 h12 h13 h14 h15 h16 h17 h18 h19 h20 h21 x1 x2 x3 h0f0 h0f1 h0f2 h0f3 h0f4 h0f5 h0f8 h0f9 h0f17 h0f18 h0f19 h0f24 h0f25 h0f30 h0f31) (v := 0) hQ hx hb hr hlocks hS (Nat.le_of_ble_eq_true rfl) (Nat.le_of_ble_eq_true rfl) dX11_takesOut_33 (by have := li_0; omega) (Or.inl ⟨rfl, hT⟩)
      · skip
        have c_92 := nl_eq c_92 rfl ll_0
        refine lv_iinc (v := 0) (lv' := [(4, .int 0), (0, .ref h0), (1, .int x1), (2, .int x2), (3, .int x3)]) hx hb dX11_takesOut_20 hl (k := 0) rfl (by decide) (by decide) rfl (fun ls hl => ?_)
        refine lv_goto (tgt := 3) hx hb dX11_takesOut_23 (by decide) ?_
        refine lv_iload hx hb dX11_takesOut_3 (lv_at hl 0 rfl) ?_
        refine lv_if_le (tgt := 26) hx hb dX11_takesOut_5 (by decide) (fun _ => ?_) (fun cc => absurd (by decide +kernel) cc)
        refine lv_iload hx hb dX11_takesOut_26 (lv_at hl 0 rfl) ?_
        refine lv_iload_n hx hb dX11_takesOut_28 rfl (lv_at hl 2 rfl) ?_
        refine lv_icmp_ge (tgt := 34) hx hb dX11_takesOut_29 (by decide) (fun c_94 => ?_) (fun c_94 => ?_)
        · skip
          have c_94 := ni_le c_94 hq1 li_0
          exfalso; omega
        · skip
          have c_94 := ni_nle c_94 hq1 li_0
          refine lv_iconst (v := 0) hx hb dX11_takesOut_32 (by decide) ?_
          have hT := hT.wk (q := 3) rfl (an_J (c := k 1) (n := 4))
          have hT : TP D A [(h0, ob 8 [.int h0f0, .int h0f1, .int h0f2, .int h0f3, .int h0f4, .int h0f5, .ref h1, .ref h2, .int h0f8, .int h0f9, .ref h3, .ref h4, .ref h5, .ref h6, .ref h7, .ref h8, .ref h9, .int h0f17, .int h0f18, .int h0f19, .ref h10, .ref h11, .ref h12, .ref h13, .int h0f24, .int h0f25, .ref h14, .ref h15, .ref h16, .ref h17, .int h0f30, .int h0f31, .ref h18, .ref h19, .ref h20, .ref h21]), (h4, aJ (k 1) 9 anJ), (h5, aJ (k 1) 9 anJ), (h7, aJ (k 1) 4 anJ)] H := hT
          exact tz_retZ (B := B_cX11_takesOut_75942 D k h0 h4 h5 h7 h1 h2 h3 h6 h8 h9 h10 h11 h12 h13 h14 h15 h16 h17 h18 h19 h20 h21 x1 x2 x3 h0f0 h0f1 h0f2 h0f3 h0f4 h0f5 h0f8 h0f9 h0f17 h0f18 h0f19 h0f24 h0f25 h0f30 h0f31) (v := 0) hQ hx hb hr hlocks hS (Nat.le_of_ble_eq_true rfl) (Nat.le_of_ble_eq_true rfl) dX11_takesOut_33 (by have := li_0; omega) (Or.inl ⟨rfl, hT⟩)
abbrev Rm_cX11_takesOut_c755e : Room := { frames := 0, cells := 0, slots := 0, locals := 0 }
abbrev B_cX11_takesOut_c755e (D : va_G) (k : Nat → ClassId) (h0 h4 h5 h7 h1 h2 h3 h6 h8 h9 h10 h11 h12 h13 h14 h15 h16 h17 h18 h19 h20 h21 : Nat) (x1 : Int32) (x2 : Int32) (x3 : Int32) (h0f0 : Int32) (h0f1 : Int32) (h0f2 : Int32) (h0f3 : Int32) (h0f4 : Int32) (h0f5 : Int32) (h0f8 : Int32) (h0f9 : Int32) (h0f17 : Int32) (h0f18 : Int32) (h0f19 : Int32) (h0f24 : Int32) (h0f25 : Int32) (h0f30 : Int32) (h0f31 : Int32) (A : Nat → Prop) (r : Int32) (H : Heap) : Prop := (0 = r ∧ TP D A [(h0, ob 8 [.int h0f0, .int h0f1, .int h0f2, .int h0f3, .int h0f4, .int h0f5, .ref h1, .ref h2, .int h0f8, .int h0f9, .ref h3, .ref h4, .ref h5, .ref h6, .ref h7, .ref h8, .ref h9, .int h0f17, .int h0f18, .int h0f19, .ref h10, .ref h11, .ref h12, .ref h13, .int h0f24, .int h0f25, .ref h14, .ref h15, .ref h16, .ref h17, .int h0f30, .int h0f31, .ref h18, .ref h19, .ref h20, .ref h21]), (h4, aJ (k 1) 9 anJ), (h5, aJ (k 1) 9 anJ), (h7, aJ (k 1) 4 anJ)] H) ∨ (∃ o0 : Int64, ∃ o1 : Int64, (0 ≤ o1.toInt ∧ o1.toInt ≤ 0) ∧ x1.toInt = 1 ∧ o0.toInt ≠ 0 ∧ x1.toInt ≤ 1 ∧ x1.toInt ≠ 2 ∧ 0 < x1.toInt ∧ o1.toInt = 0 ∧ 1 = r ∧ TP D A [(h0, ob 8 [.int h0f0, .int h0f1, .int h0f2, .int h0f3, .int h0f4, .int h0f5, .ref h1, .ref h2, .int h0f8, .int h0f9, .ref h3, .ref h4, .ref h5, .ref h6, .ref h7, .ref h8, .ref h9, .int h0f17, .int h0f18, .int h0f19, .ref h10, .ref h11, .ref h12, .ref h13, .int h0f24, .int h0f25, .ref h14, .ref h15, .ref h16, .ref h17, .int h0f30, .int h0f31, .ref h18, .ref h19, .ref h20, .ref h21]), (h4, aJ (k 1) 9 anJ), (h5, aJ (k 1) 9 anJ), (h7, aJ (k 1) 4 (zJ [1, 2, 3]))] H)
set_option maxHeartbeats 4000000 in
set_option maxRecDepth 100000 in
theorem cX11_takesOut_c755e (l : Launch) (D : va_G) (k : Nat → ClassId) (sz : Nat) (h0 h4 h5 h7 h1 h2 h3 h6 h8 h9 h10 h11 h12 h13 h14 h15 h16 h17 h18 h19 h20 h21 : Nat) (x1 : Int32) (x2 : Int32) (x3 : Int32) (h0f0 : Int32) (h0f1 : Int32) (h0f2 : Int32) (h0f3 : Int32) (h0f4 : Int32) (h0f5 : Int32) (h0f8 : Int32) (h0f9 : Int32) (h0f17 : Int32) (h0f18 : Int32) (h0f19 : Int32) (h0f24 : Int32) (h0f25 : Int32) (h0f30 : Int32) (h0f31 : Int32) (b_x1 : 1 ≤ x1.toInt ∧ x1.toInt ≤ 2) (b_x2 : (-1) ≤ x2.toInt ∧ x2.toInt ≤ 1) (b_x3 : (-1) ≤ x3.toInt ∧ x3.toInt ≤ 1) (b_h0f0 : 1 ≤ h0f0.toInt ∧ h0f0.toInt ≤ 3) (b_h0f1 : 1 ≤ h0f1.toInt ∧ h0f1.toInt ≤ 4) (b_h0f3 : 0 ≤ h0f3.toInt ∧ h0f3.toInt ≤ 3) (b_h0f4 : 0 ≤ h0f4.toInt ∧ h0f4.toInt ≤ 4) (b_h0f8 : 0 ≤ h0f8.toInt ∧ h0f8.toInt ≤ 1) (b_h0f9 : 0 ≤ h0f9.toInt ∧ h0f9.toInt ≤ 1) (b_h0f17 : 0 ≤ h0f17.toInt ∧ h0f17.toInt ≤ 120) (b_h0f18 : 0 ≤ h0f18.toInt ∧ h0f18.toInt ≤ 120) (b_h0f19 : 0 ≤ h0f19.toInt ∧ h0f19.toInt ≤ 4) (b_h0f24 : 0 ≤ h0f24.toInt ∧ h0f24.toInt ≤ 100) (b_h0f25 : 0 ≤ h0f25.toInt ∧ h0f25.toInt ≤ 1) (b_h0f30 : 0 ≤ h0f30.toInt ∧ h0f30.toInt ≤ 60) (b_h0f31 : 0 ≤ h0f31.toInt ∧ h0f31.toInt ≤ 1) : Met l yX11_takesOut (Cond.code yX11_takesOut cX11_takesOut 8 (some .boolean) :: uw) Rm_cX11_takesOut_c755e (pT D k sz [.ref h0, .int x1, .int x2, .int x3] [(h0, ob 8 [.int h0f0, .int h0f1, .int h0f2, .int h0f3, .int h0f4, .int h0f5, .ref h1, .ref h2, .int h0f8, .int h0f9, .ref h3, .ref h4, .ref h5, .ref h6, .ref h7, .ref h8, .ref h9, .int h0f17, .int h0f18, .int h0f19, .ref h10, .ref h11, .ref h12, .ref h13, .int h0f24, .int h0f25, .ref h14, .ref h15, .ref h16, .ref h17, .int h0f30, .int h0f31, .ref h18, .ref h19, .ref h20, .ref h21]), (h4, aJ (k 1) 9 anJ), (h5, aJ (k 1) 9 anJ), (h7, aJ (k 1) 4 (zJ [2, 3]))]) (qI (B_cX11_takesOut_c755e D k h0 h4 h5 h7 h1 h2 h3 h6 h8 h9 h10 h11 h12 h13 h14 h15 h16 h17 h18 h19 h20 h21 x1 x2 x3 h0f0 h0f1 h0f2 h0f3 h0f4 h0f5 h0f8 h0f9 h0f17 h0f18 h0f19 h0f24 h0f25 h0f30 h0f31 (zA [h0, h4, h5, h7] sz)) (zA [h0, h4, h5, h7] sz)) 0 0 (zA [h0, h4, h5, h7] sz) := by
  refine tz_begin (as := [h0, h4, h5, h7]) (Qc := fun A => qI (B_cX11_takesOut_c755e D k h0 h4 h5 h7 h1 h2 h3 h6 h8 h9 h10 h11 h12 h13 h14 h15 h16 h17 h18 h19 h20 h21 x1 x2 x3 h0f0 h0f1 h0f2 h0f3 h0f4 h0f5 h0f8 h0f9 h0f17 h0f18 h0f19 h0f24 h0f25 h0f30 h0f31 A) A) (by decide +kernel) rfl (Nat.le_of_ble_eq_true rfl) ?_
  intro p e s m args below meth c ls A Q hx hb hr hml hown hlocks hin hU hK hT hS hA hl hQ
  have hl : lv_has ls 8 [(0, .ref h0), (1, .int x1), (2, .int x2), (3, .int x3)] := hl
  have hT : TP D A [(h0, ob 8 [.int h0f0, .int h0f1, .int h0f2, .int h0f3, .int h0f4, .int h0f5, .ref h1, .ref h2, .int h0f8, .int h0f9, .ref h3, .ref h4, .ref h5, .ref h6, .ref h7, .ref h8, .ref h9, .int h0f17, .int h0f18, .int h0f19, .ref h10, .ref h11, .ref h12, .ref h13, .int h0f24, .int h0f25, .ref h14, .ref h15, .ref h16, .ref h17, .int h0f30, .int h0f31, .ref h18, .ref h19, .ref h20, .ref h21]), (h4, aJ (k 1) 9 anJ), (h5, aJ (k 1) 9 anJ), (h7, aJ (k 1) 4 (zJ [2, 3]))] s.heap := hT
  rcases (show x1.toInt = 1 ∨ x1.toInt = 2 by omega) with hq1 | hq1
  · skip
    refine lv_iconst (v := 3) hx hb dX11_takesOut_0 (by decide) ?_
    refine lv_istore (lv' := [(4, .int 3), (0, .ref h0), (1, .int x1), (2, .int x2), (3, .int x3)]) hx hb dX11_takesOut_1 hl (by decide) rfl (fun ls hl => ?_)
    refine lv_iload hx hb dX11_takesOut_3 (lv_at hl 0 rfl) ?_
    refine lv_if_le (tgt := 26) hx hb dX11_takesOut_5 (by decide) (fun cc => absurd cc (by decide +kernel)) (fun _ => ?_)
    refine lv_aload_n hx hb dX11_takesOut_8 rfl (lv_at hl 1 rfl) ?_
    refine tz_get (ci := 8) (v := .ref h7) (C := RX11) (F := TX11) (N := 36) hx hb hU iX11 hown hK hT 0 rfl rfl 14 (by decide) w799 (fun _ h9 => h9) rfl dX11_takesOut_9 ?_
    refine lv_iload hx hb dX11_takesOut_12 (lv_at hl 0 rfl) ?_
    refine tz_lald hx hb hK hT 3 rfl (by have := li_3; omega) dX11_takesOut_14 (fun v2 e_v2 => ?_)
    have e_v2 := z_get (z := 3) e_v2 li_3 (by decide)
    subst e_v2
    refine lv_lconst (v := 0) hx hb dX11_takesOut_15 (by decide) ?_
    refine W.lcmp hx hb dX11_takesOut_16 (sv_i (v := 0) (by decide +kernel) ?_)
    refine lv_if_ne (tgt := 26) hx hb dX11_takesOut_17 (by decide) (fun cc => absurd (by decide +kernel) cc) (fun _ => ?_)
    refine lv_iinc (v := 2) (lv' := [(4, .int 2), (0, .ref h0), (1, .int x1), (2, .int x2), (3, .int x3)]) hx hb dX11_takesOut_20 hl (k := 0) rfl (by decide) (by decide) rfl (fun ls hl => ?_)
    refine lv_goto (tgt := 3) hx hb dX11_takesOut_23 (by decide) ?_
    refine lv_iload hx hb dX11_takesOut_3 (lv_at hl 0 rfl) ?_
    refine lv_if_le (tgt := 26) hx hb dX11_takesOut_5 (by decide) (fun cc => absurd cc (by decide +kernel)) (fun _ => ?_)
    refine lv_aload_n hx hb dX11_takesOut_8 rfl (lv_at hl 1 rfl) ?_
    refine tz_get (ci := 8) (v := .ref h7) (C := RX11) (F := TX11) (N := 36) hx hb hU iX11 hown hK hT 0 rfl rfl 14 (by decide) w799 (fun _ h9 => h9) rfl dX11_takesOut_9 ?_
    refine lv_iload hx hb dX11_takesOut_12 (lv_at hl 0 rfl) ?_
    refine tz_lald hx hb hK hT 3 rfl (by have := li_2; omega) dX11_takesOut_14 (fun v3 e_v3 => ?_)
    have e_v3 := z_get (z := 2) e_v3 li_2 (by decide)
    subst e_v3
    refine lv_lconst (v := 0) hx hb dX11_takesOut_15 (by decide) ?_
    refine W.lcmp hx hb dX11_takesOut_16 (sv_i (v := 0) (by decide +kernel) ?_)
    refine lv_if_ne (tgt := 26) hx hb dX11_takesOut_17 (by decide) (fun cc => absurd (by decide +kernel) cc) (fun _ => ?_)
    refine lv_iinc (v := 1) (lv' := [(4, .int 1), (0, .ref h0), (1, .int x1), (2, .int x2), (3, .int x3)]) hx hb dX11_takesOut_20 hl (k := 0) rfl (by decide) (by decide) rfl (fun ls hl => ?_)
    refine lv_goto (tgt := 3) hx hb dX11_takesOut_23 (by decide) ?_
    refine lv_iload hx hb dX11_takesOut_3 (lv_at hl 0 rfl) ?_
    refine lv_if_le (tgt := 26) hx hb dX11_takesOut_5 (by decide) (fun cc => absurd cc (by decide +kernel)) (fun _ => ?_)
    refine lv_aload_n hx hb dX11_takesOut_8 rfl (lv_at hl 1 rfl) ?_
    refine tz_get (ci := 8) (v := .ref h7) (C := RX11) (F := TX11) (N := 36) hx hb hU iX11 hown hK hT 0 rfl rfl 14 (by decide) w799 (fun _ h9 => h9) rfl dX11_takesOut_9 ?_
    refine lv_iload hx hb dX11_takesOut_12 (lv_at hl 0 rfl) ?_
    refine tz_lald hx hb hK hT 3 rfl (by have := li_1; omega) dX11_takesOut_14 (fun v4 e_v4 => ?_)
    clear e_v4
    refine lv_lconst (v := 0) hx hb dX11_takesOut_15 (by decide) ?_
    refine W.lcmp hx hb dX11_takesOut_16 ?_
    refine lv_if_ne (tgt := 26) hx hb dX11_takesOut_17 (by decide) (fun c_5 => ?_) (fun c_5 => ?_)
    · skip
      have c_5 := nl_ne c_5 rfl ll_0
      refine lv_iload hx hb dX11_takesOut_26 (lv_at hl 0 rfl) ?_
      refine lv_iload_n hx hb dX11_takesOut_28 rfl (lv_at hl 2 rfl) ?_
      refine lv_icmp_ge (tgt := 34) hx hb dX11_takesOut_29 (by decide) (fun c_6 => ?_) (fun c_6 => ?_)
      · skip
        have c_6 := ni_le c_6 hq1 li_1
        refine lv_iconst (v := 0) hx hb dX11_takesOut_34 (by decide) ?_
        refine lv_istore (lv' := [(5, .int 0), (4, .int 1), (0, .ref h0), (1, .int x1), (2, .int x2), (3, .int x3)]) hx hb dX11_takesOut_35 hl (by decide) rfl (fun ls hl => ?_)
        refine lv_iload hx hb dX11_takesOut_37 (lv_at hl 0 rfl) ?_
        refine lv_iconst (v := 4) hx hb dX11_takesOut_39 (by decide) ?_
        refine lv_icmp_ge (tgt := 71) hx hb dX11_takesOut_40 (by decide) (fun cc => absurd cc (by decide +kernel)) (fun _ => ?_)
        refine lv_aload_n hx hb dX11_takesOut_43 rfl (lv_at hl 2 rfl) ?_
        refine tz_get (ci := 8) (v := .ref h4) (C := RX11) (F := TX11) (N := 36) hx hb hU iX11 hown hK hT 0 rfl rfl 11 (by decide) w796 (fun _ h9 => h9) rfl dX11_takesOut_44 ?_
        refine lv_iload hx hb dX11_takesOut_47 (lv_at hl 0 rfl) ?_
        refine lv_aload_n hx hb dX11_takesOut_49 rfl (lv_at hl 2 rfl) ?_
        refine tz_get (ci := 8) (v := .ref h7) (C := RX11) (F := TX11) (N := 36) hx hb hU iX11 hown hK hT 0 rfl rfl 14 (by decide) w799 (fun _ h9 => h9) rfl dX11_takesOut_50 ?_
        refine lv_iload hx hb dX11_takesOut_53 (lv_at hl 0 rfl) ?_
        refine tz_lald hx hb hK hT 3 rfl (by have := li_0; omega) dX11_takesOut_55 (fun v7 e_v7 => ?_)
        clear e_v7
        have hT := hT.wk (q := 1) rfl (z_of (c := k 1) (n := 9))
        have hT : TP D A [(h0, ob 8 [.int h0f0, .int h0f1, .int h0f2, .int h0f3, .int h0f4, .int h0f5, .ref h1, .ref h2, .int h0f8, .int h0f9, .ref h3, .ref h4, .ref h5, .ref h6, .ref h7, .ref h8, .ref h9, .int h0f17, .int h0f18, .int h0f19, .ref h10, .ref h11, .ref h12, .ref h13, .int h0f24, .int h0f25, .ref h14, .ref h15, .ref h16, .ref h17, .int h0f30, .int h0f31, .ref h18, .ref h19, .ref h20, .ref h21]), (h4, aJ (k 1) 9 (zJ [])), (h5, aJ (k 1) 9 anJ), (h7, aJ (k 1) 4 (zJ [2, 3]))] H := hT
        refine tz_lastP hx hb hK hT hS 1 (zJ []) rfl (by have := li_0; omega) (z_putx (z := 0) li_0 (by decide)) dX11_takesOut_56 (fun H locs hT hS => ?_)
        have hT : TP D A [(h0, ob 8 [.int h0f0, .int h0f1, .int h0f2, .int h0f3, .int h0f4, .int h0f5, .ref h1, .ref h2, .int h0f8, .int h0f9, .ref h3, .ref h4, .ref h5, .ref h6, .ref h7, .ref h8, .ref h9, .int h0f17, .int h0f18, .int h0f19, .ref h10, .ref h11, .ref h12, .ref h13, .int h0f24, .int h0f25, .ref h14, .ref h15, .ref h16, .ref h17, .int h0f30, .int h0f31, .ref h18, .ref h19, .ref h20, .ref h21]), (h4, aJ (k 1) 9 (zJ [])), (h5, aJ (k 1) 9 anJ), (h7, aJ (k 1) 4 (zJ [2, 3]))] H := hT
        refine lv_aload_n hx hb dX11_takesOut_57 rfl (lv_at hl 2 rfl) ?_
        refine tz_get (ci := 8) (v := .ref h5) (C := RX11) (F := TX11) (N := 36) hx hb hU iX11 hown hK hT 0 rfl rfl 12 (by decide) w797 (fun _ h9 => h9) rfl dX11_takesOut_58 ?_
        refine lv_iload hx hb dX11_takesOut_61 (lv_at hl 0 rfl) ?_
        refine lv_lconst (v := 0) hx hb dX11_takesOut_63 (by decide) ?_
        have hT := hT.wk (q := 2) rfl (z_of (c := k 1) (n := 9))
        have hT : TP D A [(h0, ob 8 [.int h0f0, .int h0f1, .int h0f2, .int h0f3, .int h0f4, .int h0f5, .ref h1, .ref h2, .int h0f8, .int h0f9, .ref h3, .ref h4, .ref h5, .ref h6, .ref h7, .ref h8, .ref h9, .int h0f17, .int h0f18, .int h0f19, .ref h10, .ref h11, .ref h12, .ref h13, .int h0f24, .int h0f25, .ref h14, .ref h15, .ref h16, .ref h17, .int h0f30, .int h0f31, .ref h18, .ref h19, .ref h20, .ref h21]), (h4, aJ (k 1) 9 (zJ [])), (h5, aJ (k 1) 9 (zJ [])), (h7, aJ (k 1) 4 (zJ [2, 3]))] H := hT
        refine tz_lastP hx hb hK hT hS 2 (zJ [0]) rfl (by have := li_0; omega) (z_put0 (z := 0) li_0 (by decide)) dX11_takesOut_64 (fun H locs hT hS => ?_)
        have hT : TP D A [(h0, ob 8 [.int h0f0, .int h0f1, .int h0f2, .int h0f3, .int h0f4, .int h0f5, .ref h1, .ref h2, .int h0f8, .int h0f9, .ref h3, .ref h4, .ref h5, .ref h6, .ref h7, .ref h8, .ref h9, .int h0f17, .int h0f18, .int h0f19, .ref h10, .ref h11, .ref h12, .ref h13, .int h0f24, .int h0f25, .ref h14, .ref h15, .ref h16, .ref h17, .int h0f30, .int h0f31, .ref h18, .ref h19, .ref h20, .ref h21]), (h4, aJ (k 1) 9 (zJ [])), (h5, aJ (k 1) 9 (zJ [0])), (h7, aJ (k 1) 4 (zJ [2, 3]))] H := hT
        refine lv_iinc (v := 1) (lv' := [(5, .int 1), (4, .int 1), (0, .ref h0), (1, .int x1), (2, .int x2), (3, .int x3)]) hx hb dX11_takesOut_65 hl (k := 0) rfl (by decide) (by decide) rfl (fun ls hl => ?_)
        refine lv_goto (tgt := 37) hx hb dX11_takesOut_68 (by decide) ?_
        refine lv_iload hx hb dX11_takesOut_37 (lv_at hl 0 rfl) ?_
        refine lv_iconst (v := 4) hx hb dX11_takesOut_39 (by decide) ?_
        refine lv_icmp_ge (tgt := 71) hx hb dX11_takesOut_40 (by decide) (fun cc => absurd cc (by decide +kernel)) (fun _ => ?_)
        refine lv_aload_n hx hb dX11_takesOut_43 rfl (lv_at hl 2 rfl) ?_
        refine tz_get (ci := 8) (v := .ref h4) (C := RX11) (F := TX11) (N := 36) hx hb hU iX11 hown hK hT 0 rfl rfl 11 (by decide) w796 (fun _ h9 => h9) rfl dX11_takesOut_44 ?_
        refine lv_iload hx hb dX11_takesOut_47 (lv_at hl 0 rfl) ?_
        refine lv_aload_n hx hb dX11_takesOut_49 rfl (lv_at hl 2 rfl) ?_
        refine tz_get (ci := 8) (v := .ref h7) (C := RX11) (F := TX11) (N := 36) hx hb hU iX11 hown hK hT 0 rfl rfl 14 (by decide) w799 (fun _ h9 => h9) rfl dX11_takesOut_50 ?_
        refine lv_iload hx hb dX11_takesOut_53 (lv_at hl 0 rfl) ?_
        refine tz_lald hx hb hK hT 3 rfl (by have := li_1; omega) dX11_takesOut_55 (fun v8 e_v8 => ?_)
        clear e_v8
        refine tz_lastP hx hb hK hT hS 1 (zJ []) rfl (by have := li_1; omega) (z_putx (z := 1) li_1 (by decide)) dX11_takesOut_56 (fun H locs hT hS => ?_)
        have hT : TP D A [(h0, ob 8 [.int h0f0, .int h0f1, .int h0f2, .int h0f3, .int h0f4, .int h0f5, .ref h1, .ref h2, .int h0f8, .int h0f9, .ref h3, .ref h4, .ref h5, .ref h6, .ref h7, .ref h8, .ref h9, .int h0f17, .int h0f18, .int h0f19, .ref h10, .ref h11, .ref h12, .ref h13, .int h0f24, .int h0f25, .ref h14, .ref h15, .ref h16, .ref h17, .int h0f30, .int h0f31, .ref h18, .ref h19, .ref h20, .ref h21]), (h4, aJ (k 1) 9 (zJ [])), (h5, aJ (k 1) 9 (zJ [0])), (h7, aJ (k 1) 4 (zJ [2, 3]))] H := hT
        refine lv_aload_n hx hb dX11_takesOut_57 rfl (lv_at hl 2 rfl) ?_
        refine tz_get (ci := 8) (v := .ref h5) (C := RX11) (F := TX11) (N := 36) hx hb hU iX11 hown hK hT 0 rfl rfl 12 (by decide) w797 (fun _ h9 => h9) rfl dX11_takesOut_58 ?_
        refine lv_iload hx hb dX11_takesOut_61 (lv_at hl 0 rfl) ?_
        refine lv_lconst (v := 0) hx hb dX11_takesOut_63 (by decide) ?_
        refine tz_lastP hx hb hK hT hS 2 (zJ [0, 1]) rfl (by have := li_1; omega) (z_put0 (z := 1) li_1 (by decide)) dX11_takesOut_64 (fun H locs hT hS => ?_)
        have hT : TP D A [(h0, ob 8 [.int h0f0, .int h0f1, .int h0f2, .int h0f3, .int h0f4, .int h0f5, .ref h1, .ref h2, .int h0f8, .int h0f9, .ref h3, .ref h4, .ref h5, .ref h6, .ref h7, .ref h8, .ref h9, .int h0f17, .int h0f18, .int h0f19, .ref h10, .ref h11, .ref h12, .ref h13, .int h0f24, .int h0f25, .ref h14, .ref h15, .ref h16, .ref h17, .int h0f30, .int h0f31, .ref h18, .ref h19, .ref h20, .ref h21]), (h4, aJ (k 1) 9 (zJ [])), (h5, aJ (k 1) 9 (zJ [0, 1])), (h7, aJ (k 1) 4 (zJ [2, 3]))] H := hT
        refine lv_iinc (v := 2) (lv' := [(5, .int 2), (4, .int 1), (0, .ref h0), (1, .int x1), (2, .int x2), (3, .int x3)]) hx hb dX11_takesOut_65 hl (k := 0) rfl (by decide) (by decide) rfl (fun ls hl => ?_)
        refine lv_goto (tgt := 37) hx hb dX11_takesOut_68 (by decide) ?_
        refine lv_iload hx hb dX11_takesOut_37 (lv_at hl 0 rfl) ?_
        refine lv_iconst (v := 4) hx hb dX11_takesOut_39 (by decide) ?_
        refine lv_icmp_ge (tgt := 71) hx hb dX11_takesOut_40 (by decide) (fun cc => absurd cc (by decide +kernel)) (fun _ => ?_)
        refine lv_aload_n hx hb dX11_takesOut_43 rfl (lv_at hl 2 rfl) ?_
        refine tz_get (ci := 8) (v := .ref h4) (C := RX11) (F := TX11) (N := 36) hx hb hU iX11 hown hK hT 0 rfl rfl 11 (by decide) w796 (fun _ h9 => h9) rfl dX11_takesOut_44 ?_
        refine lv_iload hx hb dX11_takesOut_47 (lv_at hl 0 rfl) ?_
        refine lv_aload_n hx hb dX11_takesOut_49 rfl (lv_at hl 2 rfl) ?_
        refine tz_get (ci := 8) (v := .ref h7) (C := RX11) (F := TX11) (N := 36) hx hb hU iX11 hown hK hT 0 rfl rfl 14 (by decide) w799 (fun _ h9 => h9) rfl dX11_takesOut_50 ?_
        refine lv_iload hx hb dX11_takesOut_53 (lv_at hl 0 rfl) ?_
        refine tz_lald hx hb hK hT 3 rfl (by have := li_2; omega) dX11_takesOut_55 (fun v9 e_v9 => ?_)
        have e_v9 := z_get (z := 2) e_v9 li_2 (by decide)
        subst e_v9
        refine tz_lastP hx hb hK hT hS 1 (zJ [2]) rfl (by have := li_2; omega) (z_put0 (z := 2) li_2 (by decide)) dX11_takesOut_56 (fun H locs hT hS => ?_)
        have hT : TP D A [(h0, ob 8 [.int h0f0, .int h0f1, .int h0f2, .int h0f3, .int h0f4, .int h0f5, .ref h1, .ref h2, .int h0f8, .int h0f9, .ref h3, .ref h4, .ref h5, .ref h6, .ref h7, .ref h8, .ref h9, .int h0f17, .int h0f18, .int h0f19, .ref h10, .ref h11, .ref h12, .ref h13, .int h0f24, .int h0f25, .ref h14, .ref h15, .ref h16, .ref h17, .int h0f30, .int h0f31, .ref h18, .ref h19, .ref h20, .ref h21]), (h4, aJ (k 1) 9 (zJ [2])), (h5, aJ (k 1) 9 (zJ [0, 1])), (h7, aJ (k 1) 4 (zJ [2, 3]))] H := hT
        refine lv_aload_n hx hb dX11_takesOut_57 rfl (lv_at hl 2 rfl) ?_
        refine tz_get (ci := 8) (v := .ref h5) (C := RX11) (F := TX11) (N := 36) hx hb hU iX11 hown hK hT 0 rfl rfl 12 (by decide) w797 (fun _ h9 => h9) rfl dX11_takesOut_58 ?_
        refine lv_iload hx hb dX11_takesOut_61 (lv_at hl 0 rfl) ?_
        refine lv_lconst (v := 0) hx hb dX11_takesOut_63 (by decide) ?_
        refine tz_lastP hx hb hK hT hS 2 (zJ [0, 1, 2]) rfl (by have := li_2; omega) (z_put0 (z := 2) li_2 (by decide)) dX11_takesOut_64 (fun H locs hT hS => ?_)
        have hT : TP D A [(h0, ob 8 [.int h0f0, .int h0f1, .int h0f2, .int h0f3, .int h0f4, .int h0f5, .ref h1, .ref h2, .int h0f8, .int h0f9, .ref h3, .ref h4, .ref h5, .ref h6, .ref h7, .ref h8, .ref h9, .int h0f17, .int h0f18, .int h0f19, .ref h10, .ref h11, .ref h12, .ref h13, .int h0f24, .int h0f25, .ref h14, .ref h15, .ref h16, .ref h17, .int h0f30, .int h0f31, .ref h18, .ref h19, .ref h20, .ref h21]), (h4, aJ (k 1) 9 (zJ [2])), (h5, aJ (k 1) 9 (zJ [0, 1, 2])), (h7, aJ (k 1) 4 (zJ [2, 3]))] H := hT
        refine lv_iinc (v := 3) (lv' := [(5, .int 3), (4, .int 1), (0, .ref h0), (1, .int x1), (2, .int x2), (3, .int x3)]) hx hb dX11_takesOut_65 hl (k := 0) rfl (by decide) (by decide) rfl (fun ls hl => ?_)
        refine lv_goto (tgt := 37) hx hb dX11_takesOut_68 (by decide) ?_
        refine lv_iload hx hb dX11_takesOut_37 (lv_at hl 0 rfl) ?_
        refine lv_iconst (v := 4) hx hb dX11_takesOut_39 (by decide) ?_
        refine lv_icmp_ge (tgt := 71) hx hb dX11_takesOut_40 (by decide) (fun cc => absurd cc (by decide +kernel)) (fun _ => ?_)
        refine lv_aload_n hx hb dX11_takesOut_43 rfl (lv_at hl 2 rfl) ?_
        refine tz_get (ci := 8) (v := .ref h4) (C := RX11) (F := TX11) (N := 36) hx hb hU iX11 hown hK hT 0 rfl rfl 11 (by decide) w796 (fun _ h9 => h9) rfl dX11_takesOut_44 ?_
        refine lv_iload hx hb dX11_takesOut_47 (lv_at hl 0 rfl) ?_
        refine lv_aload_n hx hb dX11_takesOut_49 rfl (lv_at hl 2 rfl) ?_
        refine tz_get (ci := 8) (v := .ref h7) (C := RX11) (F := TX11) (N := 36) hx hb hU iX11 hown hK hT 0 rfl rfl 14 (by decide) w799 (fun _ h9 => h9) rfl dX11_takesOut_50 ?_
        refine lv_iload hx hb dX11_takesOut_53 (lv_at hl 0 rfl) ?_
        refine tz_lald hx hb hK hT 3 rfl (by have := li_3; omega) dX11_takesOut_55 (fun v10 e_v10 => ?_)
        have e_v10 := z_get (z := 3) e_v10 li_3 (by decide)
        subst e_v10
        refine tz_lastP hx hb hK hT hS 1 (zJ [2, 3]) rfl (by have := li_3; omega) (z_put0 (z := 3) li_3 (by decide)) dX11_takesOut_56 (fun H locs hT hS => ?_)
        have hT : TP D A [(h0, ob 8 [.int h0f0, .int h0f1, .int h0f2, .int h0f3, .int h0f4, .int h0f5, .ref h1, .ref h2, .int h0f8, .int h0f9, .ref h3, .ref h4, .ref h5, .ref h6, .ref h7, .ref h8, .ref h9, .int h0f17, .int h0f18, .int h0f19, .ref h10, .ref h11, .ref h12, .ref h13, .int h0f24, .int h0f25, .ref h14, .ref h15, .ref h16, .ref h17, .int h0f30, .int h0f31, .ref h18, .ref h19, .ref h20, .ref h21]), (h4, aJ (k 1) 9 (zJ [2, 3])), (h5, aJ (k 1) 9 (zJ [0, 1, 2])), (h7, aJ (k 1) 4 (zJ [2, 3]))] H := hT
        refine lv_aload_n hx hb dX11_takesOut_57 rfl (lv_at hl 2 rfl) ?_
        refine tz_get (ci := 8) (v := .ref h5) (C := RX11) (F := TX11) (N := 36) hx hb hU iX11 hown hK hT 0 rfl rfl 12 (by decide) w797 (fun _ h9 => h9) rfl dX11_takesOut_58 ?_
        refine lv_iload hx hb dX11_takesOut_61 (lv_at hl 0 rfl) ?_
        refine lv_lconst (v := 0) hx hb dX11_takesOut_63 (by decide) ?_
        refine tz_lastP hx hb hK hT hS 2 (zJ [0, 1, 2, 3]) rfl (by have := li_3; omega) (z_put0 (z := 3) li_3 (by decide)) dX11_takesOut_64 (fun H locs hT hS => ?_)
        have hT : TP D A [(h0, ob 8 [.int h0f0, .int h0f1, .int h0f2, .int h0f3, .int h0f4, .int h0f5, .ref h1, .ref h2, .int h0f8, .int h0f9, .ref h3, .ref h4, .ref h5, .ref h6, .ref h7, .ref h8, .ref h9, .int h0f17, .int h0f18, .int h0f19, .ref h10, .ref h11, .ref h12, .ref h13, .int h0f24, .int h0f25, .ref h14, .ref h15, .ref h16, .ref h17, .int h0f30, .int h0f31, .ref h18, .ref h19, .ref h20, .ref h21]), (h4, aJ (k 1) 9 (zJ [2, 3])), (h5, aJ (k 1) 9 (zJ [0, 1, 2, 3])), (h7, aJ (k 1) 4 (zJ [2, 3]))] H := hT
        refine lv_iinc (v := 4) (lv' := [(5, .int 4), (4, .int 1), (0, .ref h0), (1, .int x1), (2, .int x2), (3, .int x3)]) hx hb dX11_takesOut_65 hl (k := 0) rfl (by decide) (by decide) rfl (fun ls hl => ?_)
        refine lv_goto (tgt := 37) hx hb dX11_takesOut_68 (by decide) ?_
        refine lv_iload hx hb dX11_takesOut_37 (lv_at hl 0 rfl) ?_
        refine lv_iconst (v := 4) hx hb dX11_takesOut_39 (by decide) ?_
        refine lv_icmp_ge (tgt := 71) hx hb dX11_takesOut_40 (by decide) (fun _ => ?_) (fun cc => absurd (by decide +kernel) cc)
        refine lv_iload hx hb dX11_takesOut_71 (lv_at hl 1 rfl) ?_
        refine lv_istore (lv' := [(5, .int 1), (4, .int 1), (0, .ref h0), (1, .int x1), (2, .int x2), (3, .int x3)]) hx hb dX11_takesOut_73 hl (by decide) rfl (fun ls hl => ?_)
        refine lv_iload hx hb dX11_takesOut_75 (lv_at hl 0 rfl) ?_
        refine lv_iload_n hx hb dX11_takesOut_77 rfl (lv_at hl 3 rfl) ?_
        refine lv_icmp_lt (tgt := 154) hx hb dX11_takesOut_78 (by decide) (fun c_11 => ?_) (fun c_11 => ?_)
        · skip
          have c_11 := ni_lt c_11 li_1 hq1
          exfalso; omega
        · skip
          have c_11 := ni_nlt c_11 li_1 hq1
          refine lv_aload_n hx hb dX11_takesOut_81 rfl (lv_at hl 2 rfl) ?_
          refine tz_get (ci := 8) (v := .ref h4) (C := RX11) (F := TX11) (N := 36) hx hb hU iX11 hown hK hT 0 rfl rfl 11 (by decide) w796 (fun _ h9 => h9) rfl dX11_takesOut_82 ?_
          refine lv_iload hx hb dX11_takesOut_85 (lv_at hl 0 rfl) ?_
          refine tz_lald hx hb hK hT 1 rfl (by have := li_1; omega) dX11_takesOut_87 (fun v12 e_v12 => ?_)
          clear e_v12
          refine lv_lstore (lv' := [(6, .long v12), (5, .int 1), (4, .int 1), (0, .ref h0), (1, .int x1), (2, .int x2), (3, .int x3)]) hx hb dX11_takesOut_88 hl (by decide) rfl (fun ls hl => ?_)
          refine lv_aload_n hx hb dX11_takesOut_90 rfl (lv_at hl 3 rfl) ?_
          refine tz_get (ci := 8) (v := .ref h5) (C := RX11) (F := TX11) (N := 36) hx hb hU iX11 hown hK hT 0 rfl rfl 12 (by decide) w797 (fun _ h9 => h9) rfl dX11_takesOut_91 ?_
          refine lv_iload hx hb dX11_takesOut_94 (lv_at hl 1 rfl) ?_
          refine lv_iload_n hx hb dX11_takesOut_96 rfl (lv_at hl 4 rfl) ?_
          refine lv_isub hx hb dX11_takesOut_97 (lv_topi (fun v13 e_v13 => ?_))
          have e_v13 := ai_sub e_v13 li_1 hq1 (by omega)
          refine lv_lload hx hb dX11_takesOut_98 (lv_at hl 0 rfl) ?_
          refine tz_lastP hx hb hK hT hS 2 (zJ [1, 2, 3]) rfl (by omega) (z_putx (z := 0) (show v13.toInt = 0 by omega) (by decide)) dX11_takesOut_100 (fun H locs hT hS => ?_)
          have hT : TP D A [(h0, ob 8 [.int h0f0, .int h0f1, .int h0f2, .int h0f3, .int h0f4, .int h0f5, .ref h1, .ref h2, .int h0f8, .int h0f9, .ref h3, .ref h4, .ref h5, .ref h6, .ref h7, .ref h8, .ref h9, .int h0f17, .int h0f18, .int h0f19, .ref h10, .ref h11, .ref h12, .ref h13, .int h0f24, .int h0f25, .ref h14, .ref h15, .ref h16, .ref h17, .int h0f30, .int h0f31, .ref h18, .ref h19, .ref h20, .ref h21]), (h4, aJ (k 1) 9 (zJ [2, 3])), (h5, aJ (k 1) 9 (zJ [1, 2, 3])), (h7, aJ (k 1) 4 (zJ [2, 3]))] H := hT
          refine lv_aload_n hx hb dX11_takesOut_101 rfl (lv_at hl 3 rfl) ?_
          refine tz_get (ci := 8) (v := .ref h4) (C := RX11) (F := TX11) (N := 36) hx hb hU iX11 hown hK hT 0 rfl rfl 11 (by decide) w796 (fun _ h9 => h9) rfl dX11_takesOut_102 ?_
          refine lv_iload hx hb dX11_takesOut_105 (lv_at hl 1 rfl) ?_
          refine lv_iload_n hx hb dX11_takesOut_107 rfl (lv_at hl 4 rfl) ?_
          refine lv_isub hx hb dX11_takesOut_108 (lv_topi (fun v14 e_v14 => ?_))
          have e_v14 := ai_sub e_v14 li_1 hq1 (by omega)
          refine lv_dup2_11 hx hb dX11_takesOut_109 rfl rfl ?_
          refine tz_lald hx hb hK hT 1 rfl (by omega) dX11_takesOut_110 (fun v15 e_v15 => ?_)
          clear e_v15
          refine lv_lload hx hb dX11_takesOut_111 (lv_at hl 0 rfl) ?_
          refine lv_iload_n hx hb dX11_takesOut_113 rfl (lv_at hl 5 rfl) ?_
          obtain ⟨v16, e_v16⟩ : ∃ x : Int64, x2.toInt64 = x := ⟨_, rfl⟩
          refine lv_i2l (v := v16) hx hb dX11_takesOut_114 e_v16 ?_
          have e_v16 := ai_i2l e_v16 rfl
          refine lv_lmul hx hb dX11_takesOut_115 (lv_topl (fun v17 e_v17 => ?_))
          refine lv_lsub hx hb dX11_takesOut_116 (lv_topl (fun v18 e_v18 => ?_))
          refine tz_lastP hx hb hK hT hS 1 (zJ [2, 3]) rfl (by omega) (z_putx (z := 0) (show v14.toInt = 0 by omega) (by decide)) dX11_takesOut_117 (fun H locs hT hS => ?_)
          have hT : TP D A [(h0, ob 8 [.int h0f0, .int h0f1, .int h0f2, .int h0f3, .int h0f4, .int h0f5, .ref h1, .ref h2, .int h0f8, .int h0f9, .ref h3, .ref h4, .ref h5, .ref h6, .ref h7, .ref h8, .ref h9, .int h0f17, .int h0f18, .int h0f19, .ref h10, .ref h11, .ref h12, .ref h13, .int h0f24, .int h0f25, .ref h14, .ref h15, .ref h16, .ref h17, .int h0f30, .int h0f31, .ref h18, .ref h19, .ref h20, .ref h21]), (h4, aJ (k 1) 9 (zJ [2, 3])), (h5, aJ (k 1) 9 (zJ [1, 2, 3])), (h7, aJ (k 1) 4 (zJ [2, 3]))] H := hT
          refine lv_iload_n hx hb dX11_takesOut_118 rfl (lv_at hl 4 rfl) ?_
          refine lv_iconst (v := 2) hx hb dX11_takesOut_119 (by decide) ?_
          refine lv_icmp_ne (tgt := 140) hx hb dX11_takesOut_120 (by decide) (fun c_19 => ?_) (fun c_19 => ?_)
          · skip
            have c_19 := ni_ne c_19 hq1 li_2
            refine lv_aload_n hx hb dX11_takesOut_140 rfl (lv_at hl 3 rfl) ?_
            refine tz_get (ci := 8) (v := .ref h4) (C := RX11) (F := TX11) (N := 36) hx hb hU iX11 hown hK hT 0 rfl rfl 11 (by decide) w796 (fun _ h9 => h9) rfl dX11_takesOut_141 ?_
            refine lv_iload hx hb dX11_takesOut_144 (lv_at hl 1 rfl) ?_
            refine lv_lconst (v := 0) hx hb dX11_takesOut_146 (by decide) ?_
            refine tz_lastP hx hb hK hT hS 1 (zJ [1, 2, 3]) rfl (by have := li_1; omega) (z_put0 (z := 1) li_1 (by decide)) dX11_takesOut_147 (fun H locs hT hS => ?_)
            have hT : TP D A [(h0, ob 8 [.int h0f0, .int h0f1, .int h0f2, .int h0f3, .int h0f4, .int h0f5, .ref h1, .ref h2, .int h0f8, .int h0f9, .ref h3, .ref h4, .ref h5, .ref h6, .ref h7, .ref h8, .ref h9, .int h0f17, .int h0f18, .int h0f19, .ref h10, .ref h11, .ref h12, .ref h13, .int h0f24, .int h0f25, .ref h14, .ref h15, .ref h16, .ref h17, .int h0f30, .int h0f31, .ref h18, .ref h19, .ref h20, .ref h21]), (h4, aJ (k 1) 9 (zJ [1, 2, 3])), (h5, aJ (k 1) 9 (zJ [1, 2, 3])), (h7, aJ (k 1) 4 (zJ [2, 3]))] H := hT
            refine lv_iinc (v := 0) (lv' := [(5, .int 0), (6, .long v12), (4, .int 1), (0, .ref h0), (1, .int x1), (2, .int x2), (3, .int x3)]) hx hb dX11_takesOut_148 hl (k := 1) rfl (by decide) (by decide) rfl (fun ls hl => ?_)
            refine lv_goto (tgt := 75) hx hb dX11_takesOut_151 (by decide) ?_
            refine lv_iload hx hb dX11_takesOut_75 (lv_at hl 0 rfl) ?_
            refine lv_iload_n hx hb dX11_takesOut_77 rfl (lv_at hl 4 rfl) ?_
            refine lv_icmp_lt (tgt := 154) hx hb dX11_takesOut_78 (by decide) (fun c_20 => ?_) (fun c_20 => ?_)
            · skip
              have c_20 := ni_lt c_20 li_0 hq1
              refine lv_aload_n hx hb dX11_takesOut_154 rfl (lv_at hl 3 rfl) ?_
              refine tz_get (ci := 8) (v := .ref h4) (C := RX11) (F := TX11) (N := 36) hx hb hU iX11 hown hK hT 0 rfl rfl 11 (by decide) w796 (fun _ h9 => h9) rfl dX11_takesOut_155 ?_
              refine lv_iconst (v := 0) hx hb dX11_takesOut_158 (by decide) ?_
              refine tz_lald hx hb hK hT 1 rfl (by have := li_0; omega) dX11_takesOut_159 (fun v21 e_v21 => ?_)
              clear e_v21
              refine lv_lconst (v := 0) hx hb dX11_takesOut_160 (by decide) ?_
              refine W.lcmp hx hb dX11_takesOut_161 ?_
              refine lv_if_ne (tgt := 176) hx hb dX11_takesOut_162 (by decide) (fun c_22 => ?_) (fun c_22 => ?_)
              · skip
                have c_22 := nl_ne c_22 rfl ll_0
                refine lv_iconst (v := 0) hx hb dX11_takesOut_176 (by decide) ?_
                have hT := hT.wk (q := 1) rfl (an_J (c := k 1) (n := 9))
                have hT : TP D A [(h0, ob 8 [.int h0f0, .int h0f1, .int h0f2, .int h0f3, .int h0f4, .int h0f5, .ref h1, .ref h2, .int h0f8, .int h0f9, .ref h3, .ref h4, .ref h5, .ref h6, .ref h7, .ref h8, .ref h9, .int h0f17, .int h0f18, .int h0f19, .ref h10, .ref h11, .ref h12, .ref h13, .int h0f24, .int h0f25, .ref h14, .ref h15, .ref h16, .ref h17, .int h0f30, .int h0f31, .ref h18, .ref h19, .ref h20, .ref h21]), (h4, aJ (k 1) 9 anJ), (h5, aJ (k 1) 9 (zJ [1, 2, 3])), (h7, aJ (k 1) 4 (zJ [2, 3]))] H := hT
                have hT := hT.wk (q := 2) rfl (an_J (c := k 1) (n := 9))
                have hT : TP D A [(h0, ob 8 [.int h0f0, .int h0f1, .int h0f2, .int h0f3, .int h0f4, .int h0f5, .ref h1, .ref h2, .int h0f8, .int h0f9, .ref h3, .ref h4, .ref h5, .ref h6, .ref h7, .ref h8, .ref h9, .int h0f17, .int h0f18, .int h0f19, .ref h10, .ref h11, .ref h12, .ref h13, .int h0f24, .int h0f25, .ref h14, .ref h15, .ref h16, .ref h17, .int h0f30, .int h0f31, .ref h18, .ref h19, .ref h20, .ref h21]), (h4, aJ (k 1) 9 anJ), (h5, aJ (k 1) 9 anJ), (h7, aJ (k 1) 4 (zJ [2, 3]))] H := hT
                have hT := hT.wk (q := 3) rfl (an_J (c := k 1) (n := 4))
                have hT : TP D A [(h0, ob 8 [.int h0f0, .int h0f1, .int h0f2, .int h0f3, .int h0f4, .int h0f5, .ref h1, .ref h2, .int h0f8, .int h0f9, .ref h3, .ref h4, .ref h5, .ref h6, .ref h7, .ref h8, .ref h9, .int h0f17, .int h0f18, .int h0f19, .ref h10, .ref h11, .ref h12, .ref h13, .int h0f24, .int h0f25, .ref h14, .ref h15, .ref h16, .ref h17, .int h0f30, .int h0f31, .ref h18, .ref h19, .ref h20, .ref h21]), (h4, aJ (k 1) 9 anJ), (h5, aJ (k 1) 9 anJ), (h7, aJ (k 1) 4 anJ)] H := hT
                exact tz_retZ (B := B_cX11_takesOut_c755e D k h0 h4 h5 h7 h1 h2 h3 h6 h8 h9 h10 h11 h12 h13 h14 h15 h16 h17 h18 h19 h20 h21 x1 x2 x3 h0f0 h0f1 h0f2 h0f3 h0f4 h0f5 h0f8 h0f9 h0f17 h0f18 h0f19 h0f24 h0f25 h0f30 h0f31) (v := 0) hQ hx hb hr hlocks hS (Nat.le_of_ble_eq_true rfl) (Nat.le_of_ble_eq_true rfl) dX11_takesOut_177 (by have := li_0; omega) (Or.inl ⟨rfl, hT⟩)
              · skip
                have c_22 := nl_eq c_22 rfl ll_0
                refine lv_aload_n hx hb dX11_takesOut_165 rfl (lv_at hl 3 rfl) ?_
                refine tz_get (ci := 8) (v := .ref h4) (C := RX11) (F := TX11) (N := 36) hx hb hU iX11 hown hK hT 0 rfl rfl 11 (by decide) w796 (fun _ h9 => h9) rfl dX11_takesOut_166 ?_
                refine lv_iconst (v := 1) hx hb dX11_takesOut_169 (by decide) ?_
                refine tz_lald hx hb hK hT 1 rfl (by have := li_1; omega) dX11_takesOut_170 (fun v23 e_v23 => ?_)
                have e_v23 := z_get (z := 1) e_v23 li_1 (by decide)
                subst e_v23
                refine lv_lconst (v := 0) hx hb dX11_takesOut_171 (by decide) ?_
                refine W.lcmp hx hb dX11_takesOut_172 (sv_i (v := 0) (by decide +kernel) ?_)
                refine lv_if_eq (tgt := 178) hx hb dX11_takesOut_173 (by decide) (fun _ => ?_) (fun cc => absurd (by decide +kernel) cc)
                refine lv_iconst (v := 0) hx hb dX11_takesOut_178 (by decide) ?_
                refine lv_istore (lv' := [(5, .int 0), (6, .long v12), (4, .int 1), (0, .ref h0), (1, .int x1), (2, .int x2), (3, .int x3)]) hx hb dX11_takesOut_179 hl (by decide) rfl (fun ls hl => ?_)
                refine lv_iload hx hb dX11_takesOut_181 (lv_at hl 0 rfl) ?_
                refine lv_iconst (v := 4) hx hb dX11_takesOut_183 (by decide) ?_
                refine lv_icmp_ge (tgt := 207) hx hb dX11_takesOut_184 (by decide) (fun cc => absurd cc (by decide +kernel)) (fun _ => ?_)
                refine lv_aload_n hx hb dX11_takesOut_187 rfl (lv_at hl 3 rfl) ?_
                refine tz_get (ci := 8) (v := .ref h7) (C := RX11) (F := TX11) (N := 36) hx hb hU iX11 hown hK hT 0 rfl rfl 14 (by decide) w799 (fun _ h9 => h9) rfl dX11_takesOut_188 ?_
                refine lv_iload hx hb dX11_takesOut_191 (lv_at hl 0 rfl) ?_
                refine lv_aload_n hx hb dX11_takesOut_193 rfl (lv_at hl 3 rfl) ?_
                refine tz_get (ci := 8) (v := .ref h5) (C := RX11) (F := TX11) (N := 36) hx hb hU iX11 hown hK hT 0 rfl rfl 12 (by decide) w797 (fun _ h9 => h9) rfl dX11_takesOut_194 ?_
                refine lv_iload hx hb dX11_takesOut_197 (lv_at hl 0 rfl) ?_
                refine tz_lald hx hb hK hT 2 rfl (by have := li_0; omega) dX11_takesOut_199 (fun v24 e_v24 => ?_)
                clear e_v24
                refine tz_lastP hx hb hK hT hS 3 (zJ [2, 3]) rfl (by have := li_0; omega) (z_putx (z := 0) li_0 (by decide)) dX11_takesOut_200 (fun H locs hT hS => ?_)
                have hT : TP D A [(h0, ob 8 [.int h0f0, .int h0f1, .int h0f2, .int h0f3, .int h0f4, .int h0f5, .ref h1, .ref h2, .int h0f8, .int h0f9, .ref h3, .ref h4, .ref h5, .ref h6, .ref h7, .ref h8, .ref h9, .int h0f17, .int h0f18, .int h0f19, .ref h10, .ref h11, .ref h12, .ref h13, .int h0f24, .int h0f25, .ref h14, .ref h15, .ref h16, .ref h17, .int h0f30, .int h0f31, .ref h18, .ref h19, .ref h20, .ref h21]), (h4, aJ (k 1) 9 (zJ [1, 2, 3])), (h5, aJ (k 1) 9 (zJ [1, 2, 3])), (h7, aJ (k 1) 4 (zJ [2, 3]))] H := hT
                refine lv_iinc (v := 1) (lv' := [(5, .int 1), (6, .long v12), (4, .int 1), (0, .ref h0), (1, .int x1), (2, .int x2), (3, .int x3)]) hx hb dX11_takesOut_201 hl (k := 0) rfl (by decide) (by decide) rfl (fun ls hl => ?_)
                refine lv_goto (tgt := 181) hx hb dX11_takesOut_204 (by decide) ?_
                refine lv_iload hx hb dX11_takesOut_181 (lv_at hl 0 rfl) ?_
                refine lv_iconst (v := 4) hx hb dX11_takesOut_183 (by decide) ?_
                refine lv_icmp_ge (tgt := 207) hx hb dX11_takesOut_184 (by decide) (fun cc => absurd cc (by decide +kernel)) (fun _ => ?_)
                refine lv_aload_n hx hb dX11_takesOut_187 rfl (lv_at hl 3 rfl) ?_
                refine tz_get (ci := 8) (v := .ref h7) (C := RX11) (F := TX11) (N := 36) hx hb hU iX11 hown hK hT 0 rfl rfl 14 (by decide) w799 (fun _ h9 => h9) rfl dX11_takesOut_188 ?_
                refine lv_iload hx hb dX11_takesOut_191 (lv_at hl 0 rfl) ?_
                refine lv_aload_n hx hb dX11_takesOut_193 rfl (lv_at hl 3 rfl) ?_
                refine tz_get (ci := 8) (v := .ref h5) (C := RX11) (F := TX11) (N := 36) hx hb hU iX11 hown hK hT 0 rfl rfl 12 (by decide) w797 (fun _ h9 => h9) rfl dX11_takesOut_194 ?_
                refine lv_iload hx hb dX11_takesOut_197 (lv_at hl 0 rfl) ?_
                refine tz_lald hx hb hK hT 2 rfl (by have := li_1; omega) dX11_takesOut_199 (fun v25 e_v25 => ?_)
                have e_v25 := z_get (z := 1) e_v25 li_1 (by decide)
                subst e_v25
                refine tz_lastP hx hb hK hT hS 3 (zJ [1, 2, 3]) rfl (by have := li_1; omega) (z_put0 (z := 1) li_1 (by decide)) dX11_takesOut_200 (fun H locs hT hS => ?_)
                have hT : TP D A [(h0, ob 8 [.int h0f0, .int h0f1, .int h0f2, .int h0f3, .int h0f4, .int h0f5, .ref h1, .ref h2, .int h0f8, .int h0f9, .ref h3, .ref h4, .ref h5, .ref h6, .ref h7, .ref h8, .ref h9, .int h0f17, .int h0f18, .int h0f19, .ref h10, .ref h11, .ref h12, .ref h13, .int h0f24, .int h0f25, .ref h14, .ref h15, .ref h16, .ref h17, .int h0f30, .int h0f31, .ref h18, .ref h19, .ref h20, .ref h21]), (h4, aJ (k 1) 9 (zJ [1, 2, 3])), (h5, aJ (k 1) 9 (zJ [1, 2, 3])), (h7, aJ (k 1) 4 (zJ [1, 2, 3]))] H := hT
                refine lv_iinc (v := 2) (lv' := [(5, .int 2), (6, .long v12), (4, .int 1), (0, .ref h0), (1, .int x1), (2, .int x2), (3, .int x3)]) hx hb dX11_takesOut_201 hl (k := 0) rfl (by decide) (by decide) rfl (fun ls hl => ?_)
                refine lv_goto (tgt := 181) hx hb dX11_takesOut_204 (by decide) ?_
                refine lv_iload hx hb dX11_takesOut_181 (lv_at hl 0 rfl) ?_
                refine lv_iconst (v := 4) hx hb dX11_takesOut_183 (by decide) ?_
                refine lv_icmp_ge (tgt := 207) hx hb dX11_takesOut_184 (by decide) (fun cc => absurd cc (by decide +kernel)) (fun _ => ?_)
                refine lv_aload_n hx hb dX11_takesOut_187 rfl (lv_at hl 3 rfl) ?_
                refine tz_get (ci := 8) (v := .ref h7) (C := RX11) (F := TX11) (N := 36) hx hb hU iX11 hown hK hT 0 rfl rfl 14 (by decide) w799 (fun _ h9 => h9) rfl dX11_takesOut_188 ?_
                refine lv_iload hx hb dX11_takesOut_191 (lv_at hl 0 rfl) ?_
                refine lv_aload_n hx hb dX11_takesOut_193 rfl (lv_at hl 3 rfl) ?_
                refine tz_get (ci := 8) (v := .ref h5) (C := RX11) (F := TX11) (N := 36) hx hb hU iX11 hown hK hT 0 rfl rfl 12 (by decide) w797 (fun _ h9 => h9) rfl dX11_takesOut_194 ?_
                refine lv_iload hx hb dX11_takesOut_197 (lv_at hl 0 rfl) ?_
                refine tz_lald hx hb hK hT 2 rfl (by have := li_2; omega) dX11_takesOut_199 (fun v26 e_v26 => ?_)
                have e_v26 := z_get (z := 2) e_v26 li_2 (by decide)
                subst e_v26
                refine tz_lastP hx hb hK hT hS 3 (zJ [1, 2, 3]) rfl (by have := li_2; omega) (z_put0 (z := 2) li_2 (by decide)) dX11_takesOut_200 (fun H locs hT hS => ?_)
                have hT : TP D A [(h0, ob 8 [.int h0f0, .int h0f1, .int h0f2, .int h0f3, .int h0f4, .int h0f5, .ref h1, .ref h2, .int h0f8, .int h0f9, .ref h3, .ref h4, .ref h5, .ref h6, .ref h7, .ref h8, .ref h9, .int h0f17, .int h0f18, .int h0f19, .ref h10, .ref h11, .ref h12, .ref h13, .int h0f24, .int h0f25, .ref h14, .ref h15, .ref h16, .ref h17, .int h0f30, .int h0f31, .ref h18, .ref h19, .ref h20, .ref h21]), (h4, aJ (k 1) 9 (zJ [1, 2, 3])), (h5, aJ (k 1) 9 (zJ [1, 2, 3])), (h7, aJ (k 1) 4 (zJ [1, 2, 3]))] H := hT
                refine lv_iinc (v := 3) (lv' := [(5, .int 3), (6, .long v12), (4, .int 1), (0, .ref h0), (1, .int x1), (2, .int x2), (3, .int x3)]) hx hb dX11_takesOut_201 hl (k := 0) rfl (by decide) (by decide) rfl (fun ls hl => ?_)
                refine lv_goto (tgt := 181) hx hb dX11_takesOut_204 (by decide) ?_
                refine lv_iload hx hb dX11_takesOut_181 (lv_at hl 0 rfl) ?_
                refine lv_iconst (v := 4) hx hb dX11_takesOut_183 (by decide) ?_
                refine lv_icmp_ge (tgt := 207) hx hb dX11_takesOut_184 (by decide) (fun cc => absurd cc (by decide +kernel)) (fun _ => ?_)
                refine lv_aload_n hx hb dX11_takesOut_187 rfl (lv_at hl 3 rfl) ?_
                refine tz_get (ci := 8) (v := .ref h7) (C := RX11) (F := TX11) (N := 36) hx hb hU iX11 hown hK hT 0 rfl rfl 14 (by decide) w799 (fun _ h9 => h9) rfl dX11_takesOut_188 ?_
                refine lv_iload hx hb dX11_takesOut_191 (lv_at hl 0 rfl) ?_
                refine lv_aload_n hx hb dX11_takesOut_193 rfl (lv_at hl 3 rfl) ?_
                refine tz_get (ci := 8) (v := .ref h5) (C := RX11) (F := TX11) (N := 36) hx hb hU iX11 hown hK hT 0 rfl rfl 12 (by decide) w797 (fun _ h9 => h9) rfl dX11_takesOut_194 ?_
                refine lv_iload hx hb dX11_takesOut_197 (lv_at hl 0 rfl) ?_
                refine tz_lald hx hb hK hT 2 rfl (by have := li_3; omega) dX11_takesOut_199 (fun v27 e_v27 => ?_)
                have e_v27 := z_get (z := 3) e_v27 li_3 (by decide)
                subst e_v27
                refine tz_lastP hx hb hK hT hS 3 (zJ [1, 2, 3]) rfl (by have := li_3; omega) (z_put0 (z := 3) li_3 (by decide)) dX11_takesOut_200 (fun H locs hT hS => ?_)
                have hT : TP D A [(h0, ob 8 [.int h0f0, .int h0f1, .int h0f2, .int h0f3, .int h0f4, .int h0f5, .ref h1, .ref h2, .int h0f8, .int h0f9, .ref h3, .ref h4, .ref h5, .ref h6, .ref h7, .ref h8, .ref h9, .int h0f17, .int h0f18, .int h0f19, .ref h10, .ref h11, .ref h12, .ref h13, .int h0f24, .int h0f25, .ref h14, .ref h15, .ref h16, .ref h17, .int h0f30, .int h0f31, .ref h18, .ref h19, .ref h20, .ref h21]), (h4, aJ (k 1) 9 (zJ [1, 2, 3])), (h5, aJ (k 1) 9 (zJ [1, 2, 3])), (h7, aJ (k 1) 4 (zJ [1, 2, 3]))] H := hT
                refine lv_iinc (v := 4) (lv' := [(5, .int 4), (6, .long v12), (4, .int 1), (0, .ref h0), (1, .int x1), (2, .int x2), (3, .int x3)]) hx hb dX11_takesOut_201 hl (k := 0) rfl (by decide) (by decide) rfl (fun ls hl => ?_)
                refine lv_goto (tgt := 181) hx hb dX11_takesOut_204 (by decide) ?_
                refine lv_iload hx hb dX11_takesOut_181 (lv_at hl 0 rfl) ?_
                refine lv_iconst (v := 4) hx hb dX11_takesOut_183 (by decide) ?_
                refine lv_icmp_ge (tgt := 207) hx hb dX11_takesOut_184 (by decide) (fun _ => ?_) (fun cc => absurd (by decide +kernel) cc)
                refine lv_iconst (v := 1) hx hb dX11_takesOut_207 (by decide) ?_
                have hT := hT.wk (q := 1) rfl (an_J (c := k 1) (n := 9))
                have hT : TP D A [(h0, ob 8 [.int h0f0, .int h0f1, .int h0f2, .int h0f3, .int h0f4, .int h0f5, .ref h1, .ref h2, .int h0f8, .int h0f9, .ref h3, .ref h4, .ref h5, .ref h6, .ref h7, .ref h8, .ref h9, .int h0f17, .int h0f18, .int h0f19, .ref h10, .ref h11, .ref h12, .ref h13, .int h0f24, .int h0f25, .ref h14, .ref h15, .ref h16, .ref h17, .int h0f30, .int h0f31, .ref h18, .ref h19, .ref h20, .ref h21]), (h4, aJ (k 1) 9 anJ), (h5, aJ (k 1) 9 (zJ [1, 2, 3])), (h7, aJ (k 1) 4 (zJ [1, 2, 3]))] H := hT
                have hT := hT.wk (q := 2) rfl (an_J (c := k 1) (n := 9))
                have hT : TP D A [(h0, ob 8 [.int h0f0, .int h0f1, .int h0f2, .int h0f3, .int h0f4, .int h0f5, .ref h1, .ref h2, .int h0f8, .int h0f9, .ref h3, .ref h4, .ref h5, .ref h6, .ref h7, .ref h8, .ref h9, .int h0f17, .int h0f18, .int h0f19, .ref h10, .ref h11, .ref h12, .ref h13, .int h0f24, .int h0f25, .ref h14, .ref h15, .ref h16, .ref h17, .int h0f30, .int h0f31, .ref h18, .ref h19, .ref h20, .ref h21]), (h4, aJ (k 1) 9 anJ), (h5, aJ (k 1) 9 anJ), (h7, aJ (k 1) 4 (zJ [1, 2, 3]))] H := hT
                exact tz_retZ (B := B_cX11_takesOut_c755e D k h0 h4 h5 h7 h1 h2 h3 h6 h8 h9 h10 h11 h12 h13 h14 h15 h16 h17 h18 h19 h20 h21 x1 x2 x3 h0f0 h0f1 h0f2 h0f3 h0f4 h0f5 h0f8 h0f9 h0f17 h0f18 h0f19 h0f24 h0f25 h0f30 h0f31) (v := 1) hQ hx hb hr hlocks hS (Nat.le_of_ble_eq_true rfl) (Nat.le_of_ble_eq_true rfl) dX11_takesOut_208 (by have := li_1; omega) (Or.inr (⟨v4, v21, (by have := li_1; omega), (by have := li_1; omega), (by have := li_1; omega), (by have := li_1; omega), (by have := li_1; omega), (by have := li_1; omega), (by have := li_1; omega), rfl, hT⟩))
            · skip
              have c_20 := ni_nlt c_20 li_0 hq1
              exfalso; omega
          · skip
            have c_19 := ni_eq c_19 hq1 li_2
            exfalso; omega
      · skip
        have c_6 := ni_nle c_6 hq1 li_1
        exfalso; omega
    · skip
      have c_5 := nl_eq c_5 rfl ll_0
      refine lv_iinc (v := 0) (lv' := [(4, .int 0), (0, .ref h0), (1, .int x1), (2, .int x2), (3, .int x3)]) hx hb dX11_takesOut_20 hl (k := 0) rfl (by decide) (by decide) rfl (fun ls hl => ?_)
      refine lv_goto (tgt := 3) hx hb dX11_takesOut_23 (by decide) ?_
      refine lv_iload hx hb dX11_takesOut_3 (lv_at hl 0 rfl) ?_
      refine lv_if_le (tgt := 26) hx hb dX11_takesOut_5 (by decide) (fun _ => ?_) (fun cc => absurd (by decide +kernel) cc)
      refine lv_iload hx hb dX11_takesOut_26 (lv_at hl 0 rfl) ?_
      refine lv_iload_n hx hb dX11_takesOut_28 rfl (lv_at hl 2 rfl) ?_
      refine lv_icmp_ge (tgt := 34) hx hb dX11_takesOut_29 (by decide) (fun c_28 => ?_) (fun c_28 => ?_)
      · skip
        have c_28 := ni_le c_28 hq1 li_0
        exfalso; omega
      · skip
        have c_28 := ni_nle c_28 hq1 li_0
        refine lv_iconst (v := 0) hx hb dX11_takesOut_32 (by decide) ?_
        have hT := hT.wk (q := 3) rfl (an_J (c := k 1) (n := 4))
        have hT : TP D A [(h0, ob 8 [.int h0f0, .int h0f1, .int h0f2, .int h0f3, .int h0f4, .int h0f5, .ref h1, .ref h2, .int h0f8, .int h0f9, .ref h3, .ref h4, .ref h5, .ref h6, .ref h7, .ref h8, .ref h9, .int h0f17, .int h0f18, .int h0f19, .ref h10, .ref h11, .ref h12, .ref h13, .int h0f24, .int h0f25, .ref h14, .ref h15, .ref h16, .ref h17, .int h0f30, .int h0f31, .ref h18, .ref h19, .ref h20, .ref h21]), (h4, aJ (k 1) 9 anJ), (h5, aJ (k 1) 9 anJ), (h7, aJ (k 1) 4 anJ)] H := hT
        exact tz_retZ (B := B_cX11_takesOut_c755e D k h0 h4 h5 h7 h1 h2 h3 h6 h8 h9 h10 h11 h12 h13 h14 h15 h16 h17 h18 h19 h20 h21 x1 x2 x3 h0f0 h0f1 h0f2 h0f3 h0f4 h0f5 h0f8 h0f9 h0f17 h0f18 h0f19 h0f24 h0f25 h0f30 h0f31) (v := 0) hQ hx hb hr hlocks hS (Nat.le_of_ble_eq_true rfl) (Nat.le_of_ble_eq_true rfl) dX11_takesOut_33 (by have := li_0; omega) (Or.inl ⟨rfl, hT⟩)
  · skip
    refine lv_iconst (v := 3) hx hb dX11_takesOut_0 (by decide) ?_
    refine lv_istore (lv' := [(4, .int 3), (0, .ref h0), (1, .int x1), (2, .int x2), (3, .int x3)]) hx hb dX11_takesOut_1 hl (by decide) rfl (fun ls hl => ?_)
    refine lv_iload hx hb dX11_takesOut_3 (lv_at hl 0 rfl) ?_
    refine lv_if_le (tgt := 26) hx hb dX11_takesOut_5 (by decide) (fun cc => absurd cc (by decide +kernel)) (fun _ => ?_)
    refine lv_aload_n hx hb dX11_takesOut_8 rfl (lv_at hl 1 rfl) ?_
    refine tz_get (ci := 8) (v := .ref h7) (C := RX11) (F := TX11) (N := 36) hx hb hU iX11 hown hK hT 0 rfl rfl 14 (by decide) w799 (fun _ h9 => h9) rfl dX11_takesOut_9 ?_
    refine lv_iload hx hb dX11_takesOut_12 (lv_at hl 0 rfl) ?_
    refine tz_lald hx hb hK hT 3 rfl (by have := li_3; omega) dX11_takesOut_14 (fun v29 e_v29 => ?_)
    have e_v29 := z_get (z := 3) e_v29 li_3 (by decide)
    subst e_v29
    refine lv_lconst (v := 0) hx hb dX11_takesOut_15 (by decide) ?_
    refine W.lcmp hx hb dX11_takesOut_16 (sv_i (v := 0) (by decide +kernel) ?_)
    refine lv_if_ne (tgt := 26) hx hb dX11_takesOut_17 (by decide) (fun cc => absurd (by decide +kernel) cc) (fun _ => ?_)
    refine lv_iinc (v := 2) (lv' := [(4, .int 2), (0, .ref h0), (1, .int x1), (2, .int x2), (3, .int x3)]) hx hb dX11_takesOut_20 hl (k := 0) rfl (by decide) (by decide) rfl (fun ls hl => ?_)
    refine lv_goto (tgt := 3) hx hb dX11_takesOut_23 (by decide) ?_
    refine lv_iload hx hb dX11_takesOut_3 (lv_at hl 0 rfl) ?_
    refine lv_if_le (tgt := 26) hx hb dX11_takesOut_5 (by decide) (fun cc => absurd cc (by decide +kernel)) (fun _ => ?_)
    refine lv_aload_n hx hb dX11_takesOut_8 rfl (lv_at hl 1 rfl) ?_
    refine tz_get (ci := 8) (v := .ref h7) (C := RX11) (F := TX11) (N := 36) hx hb hU iX11 hown hK hT 0 rfl rfl 14 (by decide) w799 (fun _ h9 => h9) rfl dX11_takesOut_9 ?_
    refine lv_iload hx hb dX11_takesOut_12 (lv_at hl 0 rfl) ?_
    refine tz_lald hx hb hK hT 3 rfl (by have := li_2; omega) dX11_takesOut_14 (fun v30 e_v30 => ?_)
    have e_v30 := z_get (z := 2) e_v30 li_2 (by decide)
    subst e_v30
    refine lv_lconst (v := 0) hx hb dX11_takesOut_15 (by decide) ?_
    refine W.lcmp hx hb dX11_takesOut_16 (sv_i (v := 0) (by decide +kernel) ?_)
    refine lv_if_ne (tgt := 26) hx hb dX11_takesOut_17 (by decide) (fun cc => absurd (by decide +kernel) cc) (fun _ => ?_)
    refine lv_iinc (v := 1) (lv' := [(4, .int 1), (0, .ref h0), (1, .int x1), (2, .int x2), (3, .int x3)]) hx hb dX11_takesOut_20 hl (k := 0) rfl (by decide) (by decide) rfl (fun ls hl => ?_)
    refine lv_goto (tgt := 3) hx hb dX11_takesOut_23 (by decide) ?_
    refine lv_iload hx hb dX11_takesOut_3 (lv_at hl 0 rfl) ?_
    refine lv_if_le (tgt := 26) hx hb dX11_takesOut_5 (by decide) (fun cc => absurd cc (by decide +kernel)) (fun _ => ?_)
    refine lv_aload_n hx hb dX11_takesOut_8 rfl (lv_at hl 1 rfl) ?_
    refine tz_get (ci := 8) (v := .ref h7) (C := RX11) (F := TX11) (N := 36) hx hb hU iX11 hown hK hT 0 rfl rfl 14 (by decide) w799 (fun _ h9 => h9) rfl dX11_takesOut_9 ?_
    refine lv_iload hx hb dX11_takesOut_12 (lv_at hl 0 rfl) ?_
    refine tz_lald hx hb hK hT 3 rfl (by have := li_1; omega) dX11_takesOut_14 (fun v31 e_v31 => ?_)
    clear e_v31
    refine lv_lconst (v := 0) hx hb dX11_takesOut_15 (by decide) ?_
    refine W.lcmp hx hb dX11_takesOut_16 ?_
    refine lv_if_ne (tgt := 26) hx hb dX11_takesOut_17 (by decide) (fun c_32 => ?_) (fun c_32 => ?_)
    · skip
      have c_32 := nl_ne c_32 rfl ll_0
      refine lv_iload hx hb dX11_takesOut_26 (lv_at hl 0 rfl) ?_
      refine lv_iload_n hx hb dX11_takesOut_28 rfl (lv_at hl 2 rfl) ?_
      refine lv_icmp_ge (tgt := 34) hx hb dX11_takesOut_29 (by decide) (fun c_33 => ?_) (fun c_33 => ?_)
      · skip
        have c_33 := ni_le c_33 hq1 li_1
        exfalso; omega
      · skip
        have c_33 := ni_nle c_33 hq1 li_1
        refine lv_iconst (v := 0) hx hb dX11_takesOut_32 (by decide) ?_
        have hT := hT.wk (q := 3) rfl (an_J (c := k 1) (n := 4))
        have hT : TP D A [(h0, ob 8 [.int h0f0, .int h0f1, .int h0f2, .int h0f3, .int h0f4, .int h0f5, .ref h1, .ref h2, .int h0f8, .int h0f9, .ref h3, .ref h4, .ref h5, .ref h6, .ref h7, .ref h8, .ref h9, .int h0f17, .int h0f18, .int h0f19, .ref h10, .ref h11, .ref h12, .ref h13, .int h0f24, .int h0f25, .ref h14, .ref h15, .ref h16, .ref h17, .int h0f30, .int h0f31, .ref h18, .ref h19, .ref h20, .ref h21]), (h4, aJ (k 1) 9 anJ), (h5, aJ (k 1) 9 anJ), (h7, aJ (k 1) 4 anJ)] H := hT
        exact tz_retZ (B := B_cX11_takesOut_c755e D k h0 h4 h5 h7 h1 h2 h3 h6 h8 h9 h10 h11 h12 h13 h14 h15 h16 h17 h18 h19 h20 h21 x1 x2 x3 h0f0 h0f1 h0f2 h0f3 h0f4 h0f5 h0f8 h0f9 h0f17 h0f18 h0f19 h0f24 h0f25 h0f30 h0f31) (v := 0) hQ hx hb hr hlocks hS (Nat.le_of_ble_eq_true rfl) (Nat.le_of_ble_eq_true rfl) dX11_takesOut_33 (by have := li_0; omega) (Or.inl ⟨rfl, hT⟩)
    · skip
      have c_32 := nl_eq c_32 rfl ll_0
      refine lv_iinc (v := 0) (lv' := [(4, .int 0), (0, .ref h0), (1, .int x1), (2, .int x2), (3, .int x3)]) hx hb dX11_takesOut_20 hl (k := 0) rfl (by decide) (by decide) rfl (fun ls hl => ?_)
      refine lv_goto (tgt := 3) hx hb dX11_takesOut_23 (by decide) ?_
      refine lv_iload hx hb dX11_takesOut_3 (lv_at hl 0 rfl) ?_
      refine lv_if_le (tgt := 26) hx hb dX11_takesOut_5 (by decide) (fun _ => ?_) (fun cc => absurd (by decide +kernel) cc)
      refine lv_iload hx hb dX11_takesOut_26 (lv_at hl 0 rfl) ?_
      refine lv_iload_n hx hb dX11_takesOut_28 rfl (lv_at hl 2 rfl) ?_
      refine lv_icmp_ge (tgt := 34) hx hb dX11_takesOut_29 (by decide) (fun c_34 => ?_) (fun c_34 => ?_)
      · skip
        have c_34 := ni_le c_34 hq1 li_0
        exfalso; omega
      · skip
        have c_34 := ni_nle c_34 hq1 li_0
        refine lv_iconst (v := 0) hx hb dX11_takesOut_32 (by decide) ?_
        have hT := hT.wk (q := 3) rfl (an_J (c := k 1) (n := 4))
        have hT : TP D A [(h0, ob 8 [.int h0f0, .int h0f1, .int h0f2, .int h0f3, .int h0f4, .int h0f5, .ref h1, .ref h2, .int h0f8, .int h0f9, .ref h3, .ref h4, .ref h5, .ref h6, .ref h7, .ref h8, .ref h9, .int h0f17, .int h0f18, .int h0f19, .ref h10, .ref h11, .ref h12, .ref h13, .int h0f24, .int h0f25, .ref h14, .ref h15, .ref h16, .ref h17, .int h0f30, .int h0f31, .ref h18, .ref h19, .ref h20, .ref h21]), (h4, aJ (k 1) 9 anJ), (h5, aJ (k 1) 9 anJ), (h7, aJ (k 1) 4 anJ)] H := hT
        exact tz_retZ (B := B_cX11_takesOut_c755e D k h0 h4 h5 h7 h1 h2 h3 h6 h8 h9 h10 h11 h12 h13 h14 h15 h16 h17 h18 h19 h20 h21 x1 x2 x3 h0f0 h0f1 h0f2 h0f3 h0f4 h0f5 h0f8 h0f9 h0f17 h0f18 h0f19 h0f24 h0f25 h0f30 h0f31) (v := 0) hQ hx hb hr hlocks hS (Nat.le_of_ble_eq_true rfl) (Nat.le_of_ble_eq_true rfl) dX11_takesOut_33 (by have := li_0; omega) (Or.inl ⟨rfl, hT⟩)
abbrev Rm_cX11_takesOut_51a3e : Room := { frames := 0, cells := 0, slots := 0, locals := 0 }
abbrev B_cX11_takesOut_51a3e (D : va_G) (k : Nat → ClassId) (h0 h7 h1 h2 h3 h4 h5 h6 h8 h9 h10 h11 h12 h13 h14 h15 h16 h17 h18 h19 h20 h21 : Nat) (x1 : Int32) (x2 : Int32) (x3 : Int32) (h0f0 : Int32) (h0f1 : Int32) (h0f2 : Int32) (h0f3 : Int32) (h0f4 : Int32) (h0f5 : Int32) (h0f8 : Int32) (h0f9 : Int32) (h0f17 : Int32) (h0f18 : Int32) (h0f19 : Int32) (h0f24 : Int32) (h0f25 : Int32) (h0f30 : Int32) (h0f31 : Int32) (A : Nat → Prop) (r : Int32) (H : Heap) : Prop := 0 = r ∧ TP D A [(h0, ob 8 [.int h0f0, .int h0f1, .int h0f2, .int h0f3, .int h0f4, .int h0f5, .ref h1, .ref h2, .int h0f8, .int h0f9, .ref h3, .ref h4, .ref h5, .ref h6, .ref h7, .ref h8, .ref h9, .int h0f17, .int h0f18, .int h0f19, .ref h10, .ref h11, .ref h12, .ref h13, .int h0f24, .int h0f25, .ref h14, .ref h15, .ref h16, .ref h17, .int h0f30, .int h0f31, .ref h18, .ref h19, .ref h20, .ref h21]), (h7, aJ (k 1) 4 anJ)] H
set_option maxHeartbeats 4000000 in
set_option maxRecDepth 100000 in
theorem cX11_takesOut_51a3e (l : Launch) (D : va_G) (k : Nat → ClassId) (sz : Nat) (h0 h7 h1 h2 h3 h4 h5 h6 h8 h9 h10 h11 h12 h13 h14 h15 h16 h17 h18 h19 h20 h21 : Nat) (x1 : Int32) (x2 : Int32) (x3 : Int32) (h0f0 : Int32) (h0f1 : Int32) (h0f2 : Int32) (h0f3 : Int32) (h0f4 : Int32) (h0f5 : Int32) (h0f8 : Int32) (h0f9 : Int32) (h0f17 : Int32) (h0f18 : Int32) (h0f19 : Int32) (h0f24 : Int32) (h0f25 : Int32) (h0f30 : Int32) (h0f31 : Int32) (b_x1 : 1 ≤ x1.toInt ∧ x1.toInt ≤ 1) (b_x2 : (-1) ≤ x2.toInt ∧ x2.toInt ≤ 1) (b_x3 : 0 ≤ x3.toInt ∧ x3.toInt ≤ 0) (b_h0f0 : 1 ≤ h0f0.toInt ∧ h0f0.toInt ≤ 3) (b_h0f1 : 1 ≤ h0f1.toInt ∧ h0f1.toInt ≤ 4) (b_h0f3 : 0 ≤ h0f3.toInt ∧ h0f3.toInt ≤ 3) (b_h0f4 : 0 ≤ h0f4.toInt ∧ h0f4.toInt ≤ 4) (b_h0f8 : 0 ≤ h0f8.toInt ∧ h0f8.toInt ≤ 1) (b_h0f9 : 0 ≤ h0f9.toInt ∧ h0f9.toInt ≤ 1) (b_h0f17 : 0 ≤ h0f17.toInt ∧ h0f17.toInt ≤ 120) (b_h0f18 : 0 ≤ h0f18.toInt ∧ h0f18.toInt ≤ 120) (b_h0f19 : 0 ≤ h0f19.toInt ∧ h0f19.toInt ≤ 4) (b_h0f24 : 0 ≤ h0f24.toInt ∧ h0f24.toInt ≤ 100) (b_h0f25 : 0 ≤ h0f25.toInt ∧ h0f25.toInt ≤ 1) (b_h0f30 : 0 ≤ h0f30.toInt ∧ h0f30.toInt ≤ 60) (b_h0f31 : 0 ≤ h0f31.toInt ∧ h0f31.toInt ≤ 1) : Met l yX11_takesOut (Cond.code yX11_takesOut cX11_takesOut 8 (some .boolean) :: uw) Rm_cX11_takesOut_51a3e (pT D k sz [.ref h0, .int x1, .int x2, .int x3] [(h0, ob 8 [.int h0f0, .int h0f1, .int h0f2, .int h0f3, .int h0f4, .int h0f5, .ref h1, .ref h2, .int h0f8, .int h0f9, .ref h3, .ref h4, .ref h5, .ref h6, .ref h7, .ref h8, .ref h9, .int h0f17, .int h0f18, .int h0f19, .ref h10, .ref h11, .ref h12, .ref h13, .int h0f24, .int h0f25, .ref h14, .ref h15, .ref h16, .ref h17, .int h0f30, .int h0f31, .ref h18, .ref h19, .ref h20, .ref h21]), (h7, aJ (k 1) 4 (zJ [1, 2, 3]))]) (qI (B_cX11_takesOut_51a3e D k h0 h7 h1 h2 h3 h4 h5 h6 h8 h9 h10 h11 h12 h13 h14 h15 h16 h17 h18 h19 h20 h21 x1 x2 x3 h0f0 h0f1 h0f2 h0f3 h0f4 h0f5 h0f8 h0f9 h0f17 h0f18 h0f19 h0f24 h0f25 h0f30 h0f31 (zA [h0, h7] sz)) (zA [h0, h7] sz)) 0 0 (zA [h0, h7] sz) := by
  refine tz_begin (as := [h0, h7]) (Qc := fun A => qI (B_cX11_takesOut_51a3e D k h0 h7 h1 h2 h3 h4 h5 h6 h8 h9 h10 h11 h12 h13 h14 h15 h16 h17 h18 h19 h20 h21 x1 x2 x3 h0f0 h0f1 h0f2 h0f3 h0f4 h0f5 h0f8 h0f9 h0f17 h0f18 h0f19 h0f24 h0f25 h0f30 h0f31 A) A) (by decide +kernel) rfl (Nat.le_of_ble_eq_true rfl) ?_
  intro p e s m args below meth c ls A Q hx hb hr hml hown hlocks hin hU hK hT hS hA hl hQ
  have hl : lv_has ls 8 [(0, .ref h0), (1, .int x1), (2, .int x2), (3, .int x3)] := hl
  have hT : TP D A [(h0, ob 8 [.int h0f0, .int h0f1, .int h0f2, .int h0f3, .int h0f4, .int h0f5, .ref h1, .ref h2, .int h0f8, .int h0f9, .ref h3, .ref h4, .ref h5, .ref h6, .ref h7, .ref h8, .ref h9, .int h0f17, .int h0f18, .int h0f19, .ref h10, .ref h11, .ref h12, .ref h13, .int h0f24, .int h0f25, .ref h14, .ref h15, .ref h16, .ref h17, .int h0f30, .int h0f31, .ref h18, .ref h19, .ref h20, .ref h21]), (h7, aJ (k 1) 4 (zJ [1, 2, 3]))] s.heap := hT
  have hq1 : x1.toInt = 1 := by omega
  refine lv_iconst (v := 3) hx hb dX11_takesOut_0 (by decide) ?_
  refine lv_istore (lv' := [(4, .int 3), (0, .ref h0), (1, .int x1), (2, .int x2), (3, .int x3)]) hx hb dX11_takesOut_1 hl (by decide) rfl (fun ls hl => ?_)
  refine lv_iload hx hb dX11_takesOut_3 (lv_at hl 0 rfl) ?_
  refine lv_if_le (tgt := 26) hx hb dX11_takesOut_5 (by decide) (fun cc => absurd cc (by decide +kernel)) (fun _ => ?_)
  refine lv_aload_n hx hb dX11_takesOut_8 rfl (lv_at hl 1 rfl) ?_
  refine tz_get (ci := 8) (v := .ref h7) (C := RX11) (F := TX11) (N := 36) hx hb hU iX11 hown hK hT 0 rfl rfl 14 (by decide) w799 (fun _ h9 => h9) rfl dX11_takesOut_9 ?_
  refine lv_iload hx hb dX11_takesOut_12 (lv_at hl 0 rfl) ?_
  refine tz_lald hx hb hK hT 1 rfl (by have := li_3; omega) dX11_takesOut_14 (fun v2 e_v2 => ?_)
  have e_v2 := z_get (z := 3) e_v2 li_3 (by decide)
  subst e_v2
  refine lv_lconst (v := 0) hx hb dX11_takesOut_15 (by decide) ?_
  refine W.lcmp hx hb dX11_takesOut_16 (sv_i (v := 0) (by decide +kernel) ?_)
  refine lv_if_ne (tgt := 26) hx hb dX11_takesOut_17 (by decide) (fun cc => absurd (by decide +kernel) cc) (fun _ => ?_)
  refine lv_iinc (v := 2) (lv' := [(4, .int 2), (0, .ref h0), (1, .int x1), (2, .int x2), (3, .int x3)]) hx hb dX11_takesOut_20 hl (k := 0) rfl (by decide) (by decide) rfl (fun ls hl => ?_)
  refine lv_goto (tgt := 3) hx hb dX11_takesOut_23 (by decide) ?_
  refine lv_iload hx hb dX11_takesOut_3 (lv_at hl 0 rfl) ?_
  refine lv_if_le (tgt := 26) hx hb dX11_takesOut_5 (by decide) (fun cc => absurd cc (by decide +kernel)) (fun _ => ?_)
  refine lv_aload_n hx hb dX11_takesOut_8 rfl (lv_at hl 1 rfl) ?_
  refine tz_get (ci := 8) (v := .ref h7) (C := RX11) (F := TX11) (N := 36) hx hb hU iX11 hown hK hT 0 rfl rfl 14 (by decide) w799 (fun _ h9 => h9) rfl dX11_takesOut_9 ?_
  refine lv_iload hx hb dX11_takesOut_12 (lv_at hl 0 rfl) ?_
  refine tz_lald hx hb hK hT 1 rfl (by have := li_2; omega) dX11_takesOut_14 (fun v3 e_v3 => ?_)
  have e_v3 := z_get (z := 2) e_v3 li_2 (by decide)
  subst e_v3
  refine lv_lconst (v := 0) hx hb dX11_takesOut_15 (by decide) ?_
  refine W.lcmp hx hb dX11_takesOut_16 (sv_i (v := 0) (by decide +kernel) ?_)
  refine lv_if_ne (tgt := 26) hx hb dX11_takesOut_17 (by decide) (fun cc => absurd (by decide +kernel) cc) (fun _ => ?_)
  refine lv_iinc (v := 1) (lv' := [(4, .int 1), (0, .ref h0), (1, .int x1), (2, .int x2), (3, .int x3)]) hx hb dX11_takesOut_20 hl (k := 0) rfl (by decide) (by decide) rfl (fun ls hl => ?_)
  refine lv_goto (tgt := 3) hx hb dX11_takesOut_23 (by decide) ?_
  refine lv_iload hx hb dX11_takesOut_3 (lv_at hl 0 rfl) ?_
  refine lv_if_le (tgt := 26) hx hb dX11_takesOut_5 (by decide) (fun cc => absurd cc (by decide +kernel)) (fun _ => ?_)
  refine lv_aload_n hx hb dX11_takesOut_8 rfl (lv_at hl 1 rfl) ?_
  refine tz_get (ci := 8) (v := .ref h7) (C := RX11) (F := TX11) (N := 36) hx hb hU iX11 hown hK hT 0 rfl rfl 14 (by decide) w799 (fun _ h9 => h9) rfl dX11_takesOut_9 ?_
  refine lv_iload hx hb dX11_takesOut_12 (lv_at hl 0 rfl) ?_
  refine tz_lald hx hb hK hT 1 rfl (by have := li_1; omega) dX11_takesOut_14 (fun v4 e_v4 => ?_)
  have e_v4 := z_get (z := 1) e_v4 li_1 (by decide)
  subst e_v4
  refine lv_lconst (v := 0) hx hb dX11_takesOut_15 (by decide) ?_
  refine W.lcmp hx hb dX11_takesOut_16 (sv_i (v := 0) (by decide +kernel) ?_)
  refine lv_if_ne (tgt := 26) hx hb dX11_takesOut_17 (by decide) (fun cc => absurd (by decide +kernel) cc) (fun _ => ?_)
  refine lv_iinc (v := 0) (lv' := [(4, .int 0), (0, .ref h0), (1, .int x1), (2, .int x2), (3, .int x3)]) hx hb dX11_takesOut_20 hl (k := 0) rfl (by decide) (by decide) rfl (fun ls hl => ?_)
  refine lv_goto (tgt := 3) hx hb dX11_takesOut_23 (by decide) ?_
  refine lv_iload hx hb dX11_takesOut_3 (lv_at hl 0 rfl) ?_
  refine lv_if_le (tgt := 26) hx hb dX11_takesOut_5 (by decide) (fun _ => ?_) (fun cc => absurd (by decide +kernel) cc)
  refine lv_iload hx hb dX11_takesOut_26 (lv_at hl 0 rfl) ?_
  refine lv_iload_n hx hb dX11_takesOut_28 rfl (lv_at hl 2 rfl) ?_
  refine lv_icmp_ge (tgt := 34) hx hb dX11_takesOut_29 (by decide) (fun c_5 => ?_) (fun c_5 => ?_)
  · skip
    have c_5 := ni_le c_5 hq1 li_0
    exfalso; omega
  · skip
    have c_5 := ni_nle c_5 hq1 li_0
    refine lv_iconst (v := 0) hx hb dX11_takesOut_32 (by decide) ?_
    have hT := hT.wk (q := 1) rfl (an_J (c := k 1) (n := 4))
    have hT : TP D A [(h0, ob 8 [.int h0f0, .int h0f1, .int h0f2, .int h0f3, .int h0f4, .int h0f5, .ref h1, .ref h2, .int h0f8, .int h0f9, .ref h3, .ref h4, .ref h5, .ref h6, .ref h7, .ref h8, .ref h9, .int h0f17, .int h0f18, .int h0f19, .ref h10, .ref h11, .ref h12, .ref h13, .int h0f24, .int h0f25, .ref h14, .ref h15, .ref h16, .ref h17, .int h0f30, .int h0f31, .ref h18, .ref h19, .ref h20, .ref h21]), (h7, aJ (k 1) 4 anJ)] H := hT
    exact tz_retZ (B := B_cX11_takesOut_51a3e D k h0 h7 h1 h2 h3 h4 h5 h6 h8 h9 h10 h11 h12 h13 h14 h15 h16 h17 h18 h19 h20 h21 x1 x2 x3 h0f0 h0f1 h0f2 h0f3 h0f4 h0f5 h0f8 h0f9 h0f17 h0f18 h0f19 h0f24 h0f25 h0f30 h0f31) (v := 0) hQ hx hb hr hlocks hS (Nat.le_of_ble_eq_true rfl) (Nat.le_of_ble_eq_true rfl) dX11_takesOut_33 (by have := li_0; omega) (⟨rfl, hT⟩)
abbrev Rm_cX11_factor_03481 : Room := { frames := 2, cells := 0, slots := 0, locals := 50 }
abbrev B_cX11_factor_03481 (D : va_G) (k : Nat → ClassId) (h0 h1 h4 h5 h7 h2 h3 h6 h8 h9 h10 h11 h12 h13 h14 h15 h16 h17 h18 h19 h20 h21 : Nat) (x1 : Int32) (x2 : Int32) (h0f0 : Int32) (h0f1 : Int32) (h0f2 : Int32) (h0f3 : Int32) (h0f4 : Int32) (h0f5 : Int32) (h0f8 : Int32) (h0f9 : Int32) (h0f17 : Int32) (h0f18 : Int32) (h0f19 : Int32) (h0f24 : Int32) (h0f25 : Int32) (h0f30 : Int32) (h0f31 : Int32) (A : Nat → Prop) (r : Int32) (H : Heap) : Prop := ((-1) ≤ r.toInt ∧ r.toInt ≤ 3) ∧ TP D A [(h0, ob 8 [.int h0f0, .int h0f1, .int h0f2, .int h0f3, .int h0f4, .int h0f5, .ref h1, .ref h2, .int h0f8, .int h0f9, .ref h3, .ref h4, .ref h5, .ref h6, .ref h7, .ref h8, .ref h9, .int h0f17, .int h0f18, .int h0f19, .ref h10, .ref h11, .ref h12, .ref h13, .int h0f24, .int h0f25, .ref h14, .ref h15, .ref h16, .ref h17, .int h0f30, .int h0f31, .ref h18, .ref h19, .ref h20, .ref h21]), (h1, aI (k 0) 36 anI), (h4, aJ (k 1) 9 anJ), (h5, aJ (k 1) 9 anJ), (h7, aJ (k 1) 4 anJ)] H
set_option maxHeartbeats 4000000 in
set_option maxRecDepth 100000 in
theorem cX11_factor_03481 (l : Launch) (D : va_G) (k : Nat → ClassId) (sz : Nat) (h0 h1 h4 h5 h7 h2 h3 h6 h8 h9 h10 h11 h12 h13 h14 h15 h16 h17 h18 h19 h20 h21 : Nat) (x1 : Int32) (x2 : Int32) (h0f0 : Int32) (h0f1 : Int32) (h0f2 : Int32) (h0f3 : Int32) (h0f4 : Int32) (h0f5 : Int32) (h0f8 : Int32) (h0f9 : Int32) (h0f17 : Int32) (h0f18 : Int32) (h0f19 : Int32) (h0f24 : Int32) (h0f25 : Int32) (h0f30 : Int32) (h0f31 : Int32) (b_h0f0 : 1 ≤ h0f0.toInt ∧ h0f0.toInt ≤ 3) (b_h0f1 : 0 ≤ h0f1.toInt ∧ h0f1.toInt ≤ 4) (b_h0f3 : 0 ≤ h0f3.toInt ∧ h0f3.toInt ≤ 3) (b_h0f4 : 0 ≤ h0f4.toInt ∧ h0f4.toInt ≤ 4) (b_h0f8 : 0 ≤ h0f8.toInt ∧ h0f8.toInt ≤ 1) (b_h0f9 : 0 ≤ h0f9.toInt ∧ h0f9.toInt ≤ 1) (b_h0f17 : 0 ≤ h0f17.toInt ∧ h0f17.toInt ≤ 120) (b_h0f18 : 0 ≤ h0f18.toInt ∧ h0f18.toInt ≤ 120) (b_h0f19 : 0 ≤ h0f19.toInt ∧ h0f19.toInt ≤ 4) (b_h0f24 : 0 ≤ h0f24.toInt ∧ h0f24.toInt ≤ 100) (b_h0f25 : 0 ≤ h0f25.toInt ∧ h0f25.toInt ≤ 1) (b_h0f30 : 0 ≤ h0f30.toInt ∧ h0f30.toInt ≤ 60) (b_h0f31 : 0 ≤ h0f31.toInt ∧ h0f31.toInt ≤ 1) : Met l yX11_factor (Cond.code yX11_factor cX11_factor 5 (some .int) :: uw) Rm_cX11_factor_03481 (pT D k sz [.ref h0, .int x1, .int x2] [(h0, ob 8 [.int h0f0, .int h0f1, .int h0f2, .int h0f3, .int h0f4, .int h0f5, .ref h1, .ref h2, .int h0f8, .int h0f9, .ref h3, .ref h4, .ref h5, .ref h6, .ref h7, .ref h8, .ref h9, .int h0f17, .int h0f18, .int h0f19, .ref h10, .ref h11, .ref h12, .ref h13, .int h0f24, .int h0f25, .ref h14, .ref h15, .ref h16, .ref h17, .int h0f30, .int h0f31, .ref h18, .ref h19, .ref h20, .ref h21]), (h1, aI (k 0) 36 anI), (h4, aJ (k 1) 9 anJ), (h5, aJ (k 1) 9 anJ), (h7, aJ (k 1) 4 anJ)]) (qI (B_cX11_factor_03481 D k h0 h1 h4 h5 h7 h2 h3 h6 h8 h9 h10 h11 h12 h13 h14 h15 h16 h17 h18 h19 h20 h21 x1 x2 h0f0 h0f1 h0f2 h0f3 h0f4 h0f5 h0f8 h0f9 h0f17 h0f18 h0f19 h0f24 h0f25 h0f30 h0f31 (zA [h0, h1, h4, h5, h7] sz)) (zA [h0, h1, h4, h5, h7] sz)) 0 0 (zA [h0, h1, h4, h5, h7] sz) := by
  refine tz_begin (as := [h0, h1, h4, h5, h7]) (Qc := fun A => qI (B_cX11_factor_03481 D k h0 h1 h4 h5 h7 h2 h3 h6 h8 h9 h10 h11 h12 h13 h14 h15 h16 h17 h18 h19 h20 h21 x1 x2 h0f0 h0f1 h0f2 h0f3 h0f4 h0f5 h0f8 h0f9 h0f17 h0f18 h0f19 h0f24 h0f25 h0f30 h0f31 A) A) (by decide +kernel) rfl (Nat.le_of_ble_eq_true rfl) ?_
  intro p e s m args below meth c ls A Q hx hb hr hml hown hlocks hin hU hK hT hS hA hl hQ
  have hl : lv_has ls 5 [(0, .ref h0), (1, .int x1), (2, .int x2)] := hl
  have hT : TP D A [(h0, ob 8 [.int h0f0, .int h0f1, .int h0f2, .int h0f3, .int h0f4, .int h0f5, .ref h1, .ref h2, .int h0f8, .int h0f9, .ref h3, .ref h4, .ref h5, .ref h6, .ref h7, .ref h8, .ref h9, .int h0f17, .int h0f18, .int h0f19, .ref h10, .ref h11, .ref h12, .ref h13, .int h0f24, .int h0f25, .ref h14, .ref h15, .ref h16, .ref h17, .int h0f30, .int h0f31, .ref h18, .ref h19, .ref h20, .ref h21]), (h1, aI (k 0) 36 anI), (h4, aJ (k 1) 9 anJ), (h5, aJ (k 1) 9 anJ), (h7, aJ (k 1) 4 anJ)] s.heap := hT
  refine lv_aload_n hx hb dX11_factor_0 rfl (lv_at hl 0 rfl) ?_
  refine lv_iload_n hx hb dX11_factor_1 rfl (lv_at hl 1 rfl) ?_
  refine tcI (Tc := [(h0, ob 8 [.int h0f0, .int h0f1, .int h0f2, .int h0f3, .int h0f4, .int h0f5, .ref h1, .ref h2, .int h0f8, .int h0f9, .ref h3, .ref h4, .ref h5, .ref h6, .ref h7, .ref h8, .ref h9, .int h0f17, .int h0f18, .int h0f19, .ref h10, .ref h11, .ref h12, .ref h13, .int h0f24, .int h0f25, .ref h14, .ref h15, .ref h16, .ref h17, .int h0f30, .int h0f31, .ref h18, .ref h19, .ref h20, .ref h21])]) (Tr := [(h1, aI (k 0) 36 anI), (h4, aJ (k 1) 9 anJ), (h5, aJ (k 1) 9 anJ), (h7, aJ (k 1) 4 anJ)]) (as := [h0]) (zcV (q0 := 0) (ci := 8) (As := [.int x1]) (rest := []) (Tc := [(h0, ob 8 [.int h0f0, .int h0f1, .int h0f2, .int h0f3, .int h0f4, .int h0f5, .ref h1, .ref h2, .int h0f8, .int h0f9, .ref h3, .ref h4, .ref h5, .ref h6, .ref h7, .ref h8, .ref h9, .int h0f17, .int h0f18, .int h0f19, .ref h10, .ref h11, .ref h12, .ref h13, .int h0f24, .int h0f25, .ref h14, .ref h15, .ref h16, .ref h17, .int h0f30, .int h0f31, .ref h18, .ref h19, .ref h20, .ref h21])]) hx hb hml hown hU hK hT rfl rfl [0] rfl (by decide) (cX11_isGen_590eb l D k _ h0 h1 h2 h3 h4 h5 h6 h7 h8 h9 h10 h11 h12 h13 h14 h15 h16 h17 h18 h19 h20 h21 x1 h0f0 h0f1 h0f2 h0f3 h0f4 h0f5 h0f8 h0f9 h0f17 h0f18 h0f19 h0f24 h0f25 h0f30 h0f31 (by omega) (by omega) (by omega) (by omega) (by omega) (by omega) (by omega) (by omega) (by omega) (by omega) (by omega) (by omega) (by omega)) w935 w932 w934 w31 w72 hdX11_isGen ⟨rfl, rfl⟩ ⟨Nat.le_of_ble_eq_true rfl, Nat.le_of_ble_eq_true rfl⟩ rfl hl.1 (Nat.le_of_ble_eq_true rfl) dX11_factor_2 ⟨Nat.le_of_ble_eq_true rfl, Nat.le_of_ble_eq_true rfl⟩) hT hS hA [0] [1, 2, 3, 4] rfl rfl rfl (by decide) (by decide) (fun r1 H locs hB J hS => ?_)
  rcases hB with ⟨rfl, hT1⟩ | ⟨c_2, c_3, rfl, hT1⟩
  · skip
    have hT := J _ hT1
    have hT : TP D A [(h1, aI (k 0) 36 anI), (h4, aJ (k 1) 9 anJ), (h5, aJ (k 1) 9 anJ), (h7, aJ (k 1) 4 anJ), (h0, ob 8 [.int h0f0, .int h0f1, .int h0f2, .int h0f3, .int h0f4, .int h0f5, .ref h1, .ref h2, .int h0f8, .int h0f9, .ref h3, .ref h4, .ref h5, .ref h6, .ref h7, .ref h8, .ref h9, .int h0f17, .int h0f18, .int h0f19, .ref h10, .ref h11, .ref h12, .ref h13, .int h0f24, .int h0f25, .ref h14, .ref h15, .ref h16, .ref h17, .int h0f30, .int h0f31, .ref h18, .ref h19, .ref h20, .ref h21])] H := hT
    refine lv_if_eq (tgt := 24) hx hb dX11_factor_5 (by decide) (fun _ => ?_) (fun cc => absurd (by decide +kernel) cc)
    refine lv_iconst (v := (-1)) hx hb dX11_factor_24 (by decide) ?_
    exact tz_retI (B := B_cX11_factor_03481 D k h0 h1 h4 h5 h7 h2 h3 h6 h8 h9 h10 h11 h12 h13 h14 h15 h16 h17 h18 h19 h20 h21 x1 x2 h0f0 h0f1 h0f2 h0f3 h0f4 h0f5 h0f8 h0f9 h0f17 h0f18 h0f19 h0f24 h0f25 h0f30 h0f31) (v := (-1)) hQ hx hb hr hlocks hS (Nat.le_of_ble_eq_true rfl) (Nat.le_of_ble_eq_true rfl) dX11_factor_25 (⟨(by have := li_m1; omega), (hT.sub [4, 0, 1, 2, 3] (by decide) rfl)⟩)
  · skip
    have hT := J _ hT1
    have hT : TP D A [(h1, aI (k 0) 36 anI), (h4, aJ (k 1) 9 anJ), (h5, aJ (k 1) 9 anJ), (h7, aJ (k 1) 4 anJ), (h0, ob 8 [.int h0f0, .int h0f1, .int h0f2, .int h0f3, .int h0f4, .int h0f5, .ref h1, .ref h2, .int h0f8, .int h0f9, .ref h3, .ref h4, .ref h5, .ref h6, .ref h7, .ref h8, .ref h9, .int h0f17, .int h0f18, .int h0f19, .ref h10, .ref h11, .ref h12, .ref h13, .int h0f24, .int h0f25, .ref h14, .ref h15, .ref h16, .ref h17, .int h0f30, .int h0f31, .ref h18, .ref h19, .ref h20, .ref h21])] H := hT
    refine lv_if_eq (tgt := 24) hx hb dX11_factor_5 (by decide) (fun cc => absurd cc (by decide +kernel)) (fun _ => ?_)
    refine lv_iload_n hx hb dX11_factor_8 rfl (lv_at hl 2 rfl) ?_
    refine lv_iconst (v := 1) hx hb dX11_factor_9 (by decide) ?_
    refine lv_icmp_lt (tgt := 24) hx hb dX11_factor_10 (by decide) (fun c_4 => ?_) (fun c_4 => ?_)
    · skip
      have c_4 := ni_lt c_4 rfl li_1
      refine lv_iconst (v := (-1)) hx hb dX11_factor_24 (by decide) ?_
      exact tz_retI (B := B_cX11_factor_03481 D k h0 h1 h4 h5 h7 h2 h3 h6 h8 h9 h10 h11 h12 h13 h14 h15 h16 h17 h18 h19 h20 h21 x1 x2 h0f0 h0f1 h0f2 h0f3 h0f4 h0f5 h0f8 h0f9 h0f17 h0f18 h0f19 h0f24 h0f25 h0f30 h0f31) (v := (-1)) hQ hx hb hr hlocks hS (Nat.le_of_ble_eq_true rfl) (Nat.le_of_ble_eq_true rfl) dX11_factor_25 (⟨(by have := li_m1; omega), (hT.sub [4, 0, 1, 2, 3] (by decide) rfl)⟩)
    · skip
      have c_4 := ni_nlt c_4 rfl li_1
      refine lv_iload_n hx hb dX11_factor_13 rfl (lv_at hl 2 rfl) ?_
      refine lv_iconst (v := 5) hx hb dX11_factor_14 (by decide) ?_
      refine lv_icmp_eq (tgt := 24) hx hb dX11_factor_15 (by decide) (fun c_5 => ?_) (fun c_5 => ?_)
      · skip
        have c_5 := ni_eq c_5 rfl li_5
        refine lv_iconst (v := (-1)) hx hb dX11_factor_24 (by decide) ?_
        exact tz_retI (B := B_cX11_factor_03481 D k h0 h1 h4 h5 h7 h2 h3 h6 h8 h9 h10 h11 h12 h13 h14 h15 h16 h17 h18 h19 h20 h21 x1 x2 h0f0 h0f1 h0f2 h0f3 h0f4 h0f5 h0f8 h0f9 h0f17 h0f18 h0f19 h0f24 h0f25 h0f30 h0f31) (v := (-1)) hQ hx hb hr hlocks hS (Nat.le_of_ble_eq_true rfl) (Nat.le_of_ble_eq_true rfl) dX11_factor_25 (⟨(by have := li_m1; omega), (hT.sub [4, 0, 1, 2, 3] (by decide) rfl)⟩)
      · skip
        have c_5 := ni_ne c_5 rfl li_5
        refine lv_iload_n hx hb dX11_factor_18 rfl (lv_at hl 2 rfl) ?_
        refine lv_bipush (v := 6) hx hb dX11_factor_19 (by decide) ?_
        refine lv_icmp_le (tgt := 26) hx hb dX11_factor_21 (by decide) (fun c_6 => ?_) (fun c_6 => ?_)
        · skip
          have c_6 := ni_le c_6 rfl li_6
          refine lv_aload_n hx hb dX11_factor_26 rfl (lv_at hl 0 rfl) ?_
          refine lv_iload_n hx hb dX11_factor_27 rfl (lv_at hl 1 rfl) ?_
          refine tcV (Tc := [(h0, ob 8 [.int h0f0, .int h0f1, .int h0f2, .int h0f3, .int h0f4, .int h0f5, .ref h1, .ref h2, .int h0f8, .int h0f9, .ref h3, .ref h4, .ref h5, .ref h6, .ref h7, .ref h8, .ref h9, .int h0f17, .int h0f18, .int h0f19, .ref h10, .ref h11, .ref h12, .ref h13, .int h0f24, .int h0f25, .ref h14, .ref h15, .ref h16, .ref h17, .int h0f30, .int h0f31, .ref h18, .ref h19, .ref h20, .ref h21]), (h1, aI (k 0) 36 anI), (h4, aJ (k 1) 9 anJ), (h7, aJ (k 1) 4 anJ)]) (Tr := [(h5, aJ (k 1) 9 anJ)]) (as := [h0, h1, h4, h7]) (zcV (q0 := 4) (ci := 8) (As := [.int x1]) (rest := []) (Tc := [(h0, ob 8 [.int h0f0, .int h0f1, .int h0f2, .int h0f3, .int h0f4, .int h0f5, .ref h1, .ref h2, .int h0f8, .int h0f9, .ref h3, .ref h4, .ref h5, .ref h6, .ref h7, .ref h8, .ref h9, .int h0f17, .int h0f18, .int h0f19, .ref h10, .ref h11, .ref h12, .ref h13, .int h0f24, .int h0f25, .ref h14, .ref h15, .ref h16, .ref h17, .int h0f30, .int h0f31, .ref h18, .ref h19, .ref h20, .ref h21]), (h1, aI (k 0) 36 anI), (h4, aJ (k 1) 9 anJ), (h7, aJ (k 1) 4 anJ)]) hx hb hml hown hU hK hT rfl rfl [4, 0, 1, 3] rfl (by decide) (cX11_finds_96b14 l D k _ h0 h1 h4 h7 h2 h3 h5 h6 h8 h9 h10 h11 h12 h13 h14 h15 h16 h17 h18 h19 h20 h21 x1 h0f0 h0f1 h0f2 h0f3 h0f4 h0f5 h0f8 h0f9 h0f17 h0f18 h0f19 h0f24 h0f25 h0f30 h0f31 (by omega) (by omega) (by omega) (by omega) (by omega) (by omega) (by omega) (by omega) (by omega) (by omega) (by omega) (by omega) (by omega) (by omega)) w990 w987 w989 w40 w72 hdX11_finds ⟨rfl, rfl⟩ ⟨Nat.le_of_ble_eq_true rfl, Nat.le_of_ble_eq_true rfl⟩ rfl hl.1 (Nat.le_of_ble_eq_true rfl) dX11_factor_28 ⟨Nat.le_of_ble_eq_true rfl, Nat.le_of_ble_eq_true rfl⟩) hT hS hA [4, 0, 1, 3] [2] rfl rfl rfl (by decide) (by decide) (fun H locs hB J hS => ?_)
          have hT1 := hB
          have hT := J _ hT1
          have hT : TP D A [(h5, aJ (k 1) 9 anJ), (h0, ob 8 [.int h0f0, .int h0f1, .int h0f2, .int h0f3, .int h0f4, .int h0f5, .ref h1, .ref h2, .int h0f8, .int h0f9, .ref h3, .ref h4, .ref h5, .ref h6, .ref h7, .ref h8, .ref h9, .int h0f17, .int h0f18, .int h0f19, .ref h10, .ref h11, .ref h12, .ref h13, .int h0f24, .int h0f25, .ref h14, .ref h15, .ref h16, .ref h17, .int h0f30, .int h0f31, .ref h18, .ref h19, .ref h20, .ref h21]), (h1, aI (k 0) 36 anI), (h4, aJ (k 1) 9 anJ), (h7, aJ (k 1) 4 anJ)] H := hT
          refine lv_iconst (v := 0) hx hb dX11_factor_31 (by decide) ?_
          refine lv_istore_n (lv' := [(3, .int 0), (0, .ref h0), (1, .int x1), (2, .int x2)]) hx hb dX11_factor_32 rfl hl (by decide) rfl (fun ls hl => ?_)
          refine lv_iload_n hx hb dX11_factor_33 rfl (lv_at hl 3 rfl) ?_
          refine lv_iconst (v := 3) hx hb dX11_factor_34 (by decide) ?_
          refine lv_icmp_ge (tgt := 42) hx hb dX11_factor_35 (by decide) (fun c_8 => ?_) (fun c_8 => ?_)
          · skip
            have c_8 := ni_le c_8 li_3 rfl
            refine lv_iconst (v := 2) hx hb dX11_factor_42 (by decide) ?_
            refine lv_istore (lv' := [(4, .int 2), (3, .int 0), (0, .ref h0), (1, .int x1), (2, .int x2)]) hx hb dX11_factor_43 hl (by decide) rfl (fun ls hl => ?_)
            refine lv_aload_n hx hb dX11_factor_45 rfl (lv_at hl 2 rfl) ?_
            refine lv_iload hx hb dX11_factor_46 (lv_at hl 0 rfl) ?_
            refine lv_iload_n hx hb dX11_factor_48 rfl (lv_at hl 4 rfl) ?_
            refine lv_iconst (v := 1) hx hb dX11_factor_49 (by decide) ?_
            refine lv_icmp_ne (tgt := 57) hx hb dX11_factor_50 (by decide) (fun c_9 => ?_) (fun c_9 => ?_)
            · skip
              have c_9 := ni_ne c_9 rfl li_1
              refine lv_iconst (v := 1) hx hb dX11_factor_57 (by decide) ?_
              refine lv_iload_n hx hb dX11_factor_58 rfl (lv_at hl 4 rfl) ?_
              refine lv_iconst (v := 3) hx hb dX11_factor_59 (by decide) ?_
              refine lv_icmp_ne (tgt := 67) hx hb dX11_factor_60 (by decide) (fun c_10 => ?_) (fun c_10 => ?_)
              · skip
                have c_10 := ni_ne c_10 rfl li_3
                refine lv_iload_n hx hb dX11_factor_67 rfl (lv_at hl 4 rfl) ?_
                refine lv_bipush (v := 6) hx hb dX11_factor_68 (by decide) ?_
                refine lv_icmp_ne (tgt := 77) hx hb dX11_factor_70 (by decide) (fun c_11 => ?_) (fun c_11 => ?_)
                · skip
                  have c_11 := ni_ne c_11 rfl li_6
                  refine lv_iconst (v := 0) hx hb dX11_factor_77 (by decide) ?_
                  have q_q13 := li_2
                  have q_q14 := li_1
                  have q_q15 := li_0
                  refine tcI (Tc := [(h0, ob 8 [.int h0f0, .int h0f1, .int h0f2, .int h0f3, .int h0f4, .int h0f5, .ref h1, .ref h2, .int h0f8, .int h0f9, .ref h3, .ref h4, .ref h5, .ref h6, .ref h7, .ref h8, .ref h9, .int h0f17, .int h0f18, .int h0f19, .ref h10, .ref h11, .ref h12, .ref h13, .int h0f24, .int h0f25, .ref h14, .ref h15, .ref h16, .ref h17, .int h0f30, .int h0f31, .ref h18, .ref h19, .ref h20, .ref h21]), (h4, aJ (k 1) 9 anJ), (h5, aJ (k 1) 9 anJ), (h7, aJ (k 1) 4 anJ)]) (Tr := [(h1, aI (k 0) 36 anI)]) (as := [h0, h4, h5, h7]) (zcV (q0 := 1) (ci := 8) (As := [.int 2, .int 1, .int 0]) (rest := []) (Tc := [(h0, ob 8 [.int h0f0, .int h0f1, .int h0f2, .int h0f3, .int h0f4, .int h0f5, .ref h1, .ref h2, .int h0f8, .int h0f9, .ref h3, .ref h4, .ref h5, .ref h6, .ref h7, .ref h8, .ref h9, .int h0f17, .int h0f18, .int h0f19, .ref h10, .ref h11, .ref h12, .ref h13, .int h0f24, .int h0f25, .ref h14, .ref h15, .ref h16, .ref h17, .int h0f30, .int h0f31, .ref h18, .ref h19, .ref h20, .ref h21]), (h4, aJ (k 1) 9 anJ), (h5, aJ (k 1) 9 anJ), (h7, aJ (k 1) 4 anJ)]) hx hb hml hown hU hK hT rfl rfl [1, 3, 0, 4] rfl (by decide) (cX11_takesOut_0c94b l D k _ h0 h4 h5 h7 h1 h2 h3 h6 h8 h9 h10 h11 h12 h13 h14 h15 h16 h17 h18 h19 h20 h21 (2) (1) (0) h0f0 h0f1 h0f2 h0f3 h0f4 h0f5 h0f8 h0f9 h0f17 h0f18 h0f19 h0f24 h0f25 h0f30 h0f31 (by have := li_2; omega) (by have := li_1; omega) (by have := li_0; omega) (by omega) (by omega) (by omega) (by omega) (by omega) (by omega) (by omega) (by omega) (by omega) (by omega) (by omega) (by omega) (by omega)) w999 w996 w998 w41 w72 hdX11_takesOut ⟨rfl, rfl⟩ ⟨Nat.le_of_ble_eq_true rfl, Nat.le_of_ble_eq_true rfl⟩ rfl hl.1 (Nat.le_of_ble_eq_true rfl) dX11_factor_78 ⟨Nat.le_of_ble_eq_true rfl, Nat.le_of_ble_eq_true rfl⟩) hT hS hA [1, 3, 0, 4] [2] rfl rfl rfl (by decide) (by decide) (fun r12 H locs hB J hS => ?_)
                  rcases hB with ⟨rfl, hT1⟩ | ⟨v16, v17, b_v17, c_18, c_19, c_20, c_21, c_22, c_23, c_24, c_25, rfl, hT1⟩ | ⟨v26, v27, v28, b_v26, b_v28, c_29, c_30, c_31, c_32, c_33, c_34, c_35, c_36, rfl, hT1⟩ | ⟨v37, v38, v39, v40, b_v37, b_v38, b_v40, c_41, c_42, c_43, c_44, c_45, c_46, c_47, c_48, rfl, hT1⟩ | ⟨v49, v50, v51, b_v50, b_v51, c_52, c_53, c_54, c_55, c_56, c_57, c_58, rfl, hT1⟩ | ⟨v59, v60, v61, v62, b_v59, b_v61, b_v62, c_63, c_64, c_65, c_66, c_67, c_68, c_69, rfl, hT1⟩
                  · skip
                    have hT := J _ hT1
                    have hT : TP D A [(h1, aI (k 0) 36 anI), (h0, ob 8 [.int h0f0, .int h0f1, .int h0f2, .int h0f3, .int h0f4, .int h0f5, .ref h1, .ref h2, .int h0f8, .int h0f9, .ref h3, .ref h4, .ref h5, .ref h6, .ref h7, .ref h8, .ref h9, .int h0f17, .int h0f18, .int h0f19, .ref h10, .ref h11, .ref h12, .ref h13, .int h0f24, .int h0f25, .ref h14, .ref h15, .ref h16, .ref h17, .int h0f30, .int h0f31, .ref h18, .ref h19, .ref h20, .ref h21]), (h4, aJ (k 1) 9 anJ), (h5, aJ (k 1) 9 anJ), (h7, aJ (k 1) 4 anJ)] H := hT
                    refine lv_if_eq (tgt := 90) hx hb dX11_factor_81 (by decide) (fun _ => ?_) (fun cc => absurd (by decide +kernel) cc)
                    refine lv_iload_n hx hb dX11_factor_90 rfl (lv_at hl 1 rfl) ?_
                    exact tz_retI (B := B_cX11_factor_03481 D k h0 h1 h4 h5 h7 h2 h3 h6 h8 h9 h10 h11 h12 h13 h14 h15 h16 h17 h18 h19 h20 h21 x1 x2 h0f0 h0f1 h0f2 h0f3 h0f4 h0f5 h0f8 h0f9 h0f17 h0f18 h0f19 h0f24 h0f25 h0f30 h0f31) (v := 0) hQ hx hb hr hlocks hS (Nat.le_of_ble_eq_true rfl) (Nat.le_of_ble_eq_true rfl) dX11_factor_91 (⟨(by have := li_0; omega), (hT.sub [1, 0, 2, 3, 4] (by decide) rfl)⟩)
                  · skip
                    have hT := J _ hT1
                    have hT : TP D A [(h1, aI (k 0) 36 anI), (h0, ob 8 [.int h0f0, .int h0f1, .int h0f2, .int h0f3, .int h0f4, .int h0f5, .ref h1, .ref h2, .int h0f8, .int h0f9, .ref h3, .ref h4, .ref h5, .ref h6, .ref h7, .ref h8, .ref h9, .int h0f17, .int h0f18, .int h0f19, .ref h10, .ref h11, .ref h12, .ref h13, .int h0f24, .int h0f25, .ref h14, .ref h15, .ref h16, .ref h17, .int h0f30, .int h0f31, .ref h18, .ref h19, .ref h20, .ref h21]), (h4, aJ (k 1) 9 anJ), (h5, aJ (k 1) 9 anJ), (h7, aJ (k 1) 4 (zJ [3]))] H := hT
                    exfalso; omega
                  · skip
                    have hT := J _ hT1
                    have hT : TP D A [(h1, aI (k 0) 36 anI), (h0, ob 8 [.int h0f0, .int h0f1, .int h0f2, .int h0f3, .int h0f4, .int h0f5, .ref h1, .ref h2, .int h0f8, .int h0f9, .ref h3, .ref h4, .ref h5, .ref h6, .ref h7, .ref h8, .ref h9, .int h0f17, .int h0f18, .int h0f19, .ref h10, .ref h11, .ref h12, .ref h13, .int h0f24, .int h0f25, .ref h14, .ref h15, .ref h16, .ref h17, .int h0f30, .int h0f31, .ref h18, .ref h19, .ref h20, .ref h21]), (h4, aJ (k 1) 9 anJ), (h5, aJ (k 1) 9 anJ), (h7, aJ (k 1) 4 (zJ [3]))] H := hT
                    exfalso; omega
                  · skip
                    have hT := J _ hT1
                    have hT : TP D A [(h1, aI (k 0) 36 anI), (h0, ob 8 [.int h0f0, .int h0f1, .int h0f2, .int h0f3, .int h0f4, .int h0f5, .ref h1, .ref h2, .int h0f8, .int h0f9, .ref h3, .ref h4, .ref h5, .ref h6, .ref h7, .ref h8, .ref h9, .int h0f17, .int h0f18, .int h0f19, .ref h10, .ref h11, .ref h12, .ref h13, .int h0f24, .int h0f25, .ref h14, .ref h15, .ref h16, .ref h17, .int h0f30, .int h0f31, .ref h18, .ref h19, .ref h20, .ref h21]), (h4, aJ (k 1) 9 anJ), (h5, aJ (k 1) 9 anJ), (h7, aJ (k 1) 4 (zJ [3]))] H := hT
                    exfalso; omega
                  · skip
                    have hT := J _ hT1
                    have hT : TP D A [(h1, aI (k 0) 36 anI), (h0, ob 8 [.int h0f0, .int h0f1, .int h0f2, .int h0f3, .int h0f4, .int h0f5, .ref h1, .ref h2, .int h0f8, .int h0f9, .ref h3, .ref h4, .ref h5, .ref h6, .ref h7, .ref h8, .ref h9, .int h0f17, .int h0f18, .int h0f19, .ref h10, .ref h11, .ref h12, .ref h13, .int h0f24, .int h0f25, .ref h14, .ref h15, .ref h16, .ref h17, .int h0f30, .int h0f31, .ref h18, .ref h19, .ref h20, .ref h21]), (h4, aJ (k 1) 9 anJ), (h5, aJ (k 1) 9 anJ), (h7, aJ (k 1) 4 (zJ [3]))] H := hT
                    refine lv_if_eq (tgt := 90) hx hb dX11_factor_81 (by decide) (fun cc => absurd cc (by decide +kernel)) (fun _ => ?_)
                    refine lv_iinc (v := 1) (lv' := [(3, .int 1), (4, .int 2), (0, .ref h0), (1, .int x1), (2, .int x2)]) hx hb dX11_factor_84 hl (k := 1) rfl (by decide) (by decide) rfl (fun ls hl => ?_)
                    refine lv_goto (tgt := 45) hx hb dX11_factor_87 (by decide) ?_
                    refine lv_aload_n hx hb dX11_factor_45 rfl (lv_at hl 2 rfl) ?_
                    refine lv_iload hx hb dX11_factor_46 (lv_at hl 1 rfl) ?_
                    refine lv_iload_n hx hb dX11_factor_48 rfl (lv_at hl 4 rfl) ?_
                    refine lv_iconst (v := 1) hx hb dX11_factor_49 (by decide) ?_
                    refine lv_icmp_ne (tgt := 57) hx hb dX11_factor_50 (by decide) (fun c_70 => ?_) (fun c_70 => ?_)
                    · skip
                      have c_70 := ni_ne c_70 rfl li_1
                      refine lv_iconst (v := 1) hx hb dX11_factor_57 (by decide) ?_
                      refine lv_iload_n hx hb dX11_factor_58 rfl (lv_at hl 4 rfl) ?_
                      refine lv_iconst (v := 3) hx hb dX11_factor_59 (by decide) ?_
                      refine lv_icmp_ne (tgt := 67) hx hb dX11_factor_60 (by decide) (fun c_71 => ?_) (fun c_71 => ?_)
                      · skip
                        have c_71 := ni_ne c_71 rfl li_3
                        refine lv_iload_n hx hb dX11_factor_67 rfl (lv_at hl 4 rfl) ?_
                        refine lv_bipush (v := 6) hx hb dX11_factor_68 (by decide) ?_
                        refine lv_icmp_ne (tgt := 77) hx hb dX11_factor_70 (by decide) (fun c_72 => ?_) (fun c_72 => ?_)
                        · skip
                          have c_72 := ni_ne c_72 rfl li_6
                          refine lv_iconst (v := 0) hx hb dX11_factor_77 (by decide) ?_
                          have q_q74 := li_2
                          have q_q75 := li_1
                          have q_q76 := li_0
                          refine tcI (Tc := [(h0, ob 8 [.int h0f0, .int h0f1, .int h0f2, .int h0f3, .int h0f4, .int h0f5, .ref h1, .ref h2, .int h0f8, .int h0f9, .ref h3, .ref h4, .ref h5, .ref h6, .ref h7, .ref h8, .ref h9, .int h0f17, .int h0f18, .int h0f19, .ref h10, .ref h11, .ref h12, .ref h13, .int h0f24, .int h0f25, .ref h14, .ref h15, .ref h16, .ref h17, .int h0f30, .int h0f31, .ref h18, .ref h19, .ref h20, .ref h21]), (h4, aJ (k 1) 9 anJ), (h5, aJ (k 1) 9 anJ), (h7, aJ (k 1) 4 (zJ [3]))]) (Tr := [(h1, aI (k 0) 36 anI)]) (as := [h0, h4, h5, h7]) (zcV (q0 := 1) (ci := 8) (As := [.int 2, .int 1, .int 0]) (rest := []) (Tc := [(h0, ob 8 [.int h0f0, .int h0f1, .int h0f2, .int h0f3, .int h0f4, .int h0f5, .ref h1, .ref h2, .int h0f8, .int h0f9, .ref h3, .ref h4, .ref h5, .ref h6, .ref h7, .ref h8, .ref h9, .int h0f17, .int h0f18, .int h0f19, .ref h10, .ref h11, .ref h12, .ref h13, .int h0f24, .int h0f25, .ref h14, .ref h15, .ref h16, .ref h17, .int h0f30, .int h0f31, .ref h18, .ref h19, .ref h20, .ref h21]), (h4, aJ (k 1) 9 anJ), (h5, aJ (k 1) 9 anJ), (h7, aJ (k 1) 4 (zJ [3]))]) hx hb hml hown hU hK hT rfl rfl [1, 2, 3, 4] rfl (by decide) (cX11_takesOut_75942 l D k _ h0 h4 h5 h7 h1 h2 h3 h6 h8 h9 h10 h11 h12 h13 h14 h15 h16 h17 h18 h19 h20 h21 (2) (1) (0) h0f0 h0f1 h0f2 h0f3 h0f4 h0f5 h0f8 h0f9 h0f17 h0f18 h0f19 h0f24 h0f25 h0f30 h0f31 (by have := li_2; omega) (by have := li_1; omega) (by have := li_0; omega) (by omega) (by omega) (by omega) (by omega) (by omega) (by omega) (by omega) (by omega) (by omega) (by omega) (by omega) (by omega) (by omega)) w999 w996 w998 w41 w72 hdX11_takesOut ⟨rfl, rfl⟩ ⟨Nat.le_of_ble_eq_true rfl, Nat.le_of_ble_eq_true rfl⟩ rfl hl.1 (Nat.le_of_ble_eq_true rfl) dX11_factor_78 ⟨Nat.le_of_ble_eq_true rfl, Nat.le_of_ble_eq_true rfl⟩) hT hS hA [1, 2, 3, 4] [0] rfl rfl rfl (by decide) (by decide) (fun r73 H locs hB J hS => ?_)
                          rcases hB with ⟨rfl, hT1⟩ | ⟨v77, v78, b_v78, c_79, c_80, c_81, c_82, c_83, c_84, c_85, rfl, hT1⟩ | ⟨v86, v87, v88, b_v86, b_v88, c_89, c_90, c_91, c_92, c_93, c_94, c_95, rfl, hT1⟩ | ⟨v96, v97, v98, b_v97, b_v98, c_99, c_100, c_101, c_102, c_103, c_104, rfl, hT1⟩
                          · skip
                            have hT := J _ hT1
                            have hT : TP D A [(h1, aI (k 0) 36 anI), (h0, ob 8 [.int h0f0, .int h0f1, .int h0f2, .int h0f3, .int h0f4, .int h0f5, .ref h1, .ref h2, .int h0f8, .int h0f9, .ref h3, .ref h4, .ref h5, .ref h6, .ref h7, .ref h8, .ref h9, .int h0f17, .int h0f18, .int h0f19, .ref h10, .ref h11, .ref h12, .ref h13, .int h0f24, .int h0f25, .ref h14, .ref h15, .ref h16, .ref h17, .int h0f30, .int h0f31, .ref h18, .ref h19, .ref h20, .ref h21]), (h4, aJ (k 1) 9 anJ), (h5, aJ (k 1) 9 anJ), (h7, aJ (k 1) 4 anJ)] H := hT
                            refine lv_if_eq (tgt := 90) hx hb dX11_factor_81 (by decide) (fun _ => ?_) (fun cc => absurd (by decide +kernel) cc)
                            refine lv_iload_n hx hb dX11_factor_90 rfl (lv_at hl 0 rfl) ?_
                            exact tz_retI (B := B_cX11_factor_03481 D k h0 h1 h4 h5 h7 h2 h3 h6 h8 h9 h10 h11 h12 h13 h14 h15 h16 h17 h18 h19 h20 h21 x1 x2 h0f0 h0f1 h0f2 h0f3 h0f4 h0f5 h0f8 h0f9 h0f17 h0f18 h0f19 h0f24 h0f25 h0f30 h0f31) (v := 1) hQ hx hb hr hlocks hS (Nat.le_of_ble_eq_true rfl) (Nat.le_of_ble_eq_true rfl) dX11_factor_91 (⟨(by have := li_1; omega), (hT.sub [1, 0, 2, 3, 4] (by decide) rfl)⟩)
                          · skip
                            have hT := J _ hT1
                            have hT : TP D A [(h1, aI (k 0) 36 anI), (h0, ob 8 [.int h0f0, .int h0f1, .int h0f2, .int h0f3, .int h0f4, .int h0f5, .ref h1, .ref h2, .int h0f8, .int h0f9, .ref h3, .ref h4, .ref h5, .ref h6, .ref h7, .ref h8, .ref h9, .int h0f17, .int h0f18, .int h0f19, .ref h10, .ref h11, .ref h12, .ref h13, .int h0f24, .int h0f25, .ref h14, .ref h15, .ref h16, .ref h17, .int h0f30, .int h0f31, .ref h18, .ref h19, .ref h20, .ref h21]), (h4, aJ (k 1) 9 anJ), (h5, aJ (k 1) 9 anJ), (h7, aJ (k 1) 4 (zJ [2, 3]))] H := hT
                            exfalso; omega
                          · skip
                            have hT := J _ hT1
                            have hT : TP D A [(h1, aI (k 0) 36 anI), (h0, ob 8 [.int h0f0, .int h0f1, .int h0f2, .int h0f3, .int h0f4, .int h0f5, .ref h1, .ref h2, .int h0f8, .int h0f9, .ref h3, .ref h4, .ref h5, .ref h6, .ref h7, .ref h8, .ref h9, .int h0f17, .int h0f18, .int h0f19, .ref h10, .ref h11, .ref h12, .ref h13, .int h0f24, .int h0f25, .ref h14, .ref h15, .ref h16, .ref h17, .int h0f30, .int h0f31, .ref h18, .ref h19, .ref h20, .ref h21]), (h4, aJ (k 1) 9 anJ), (h5, aJ (k 1) 9 anJ), (h7, aJ (k 1) 4 (zJ [2, 3]))] H := hT
                            exfalso; omega
                          · skip
                            have hT := J _ hT1
                            have hT : TP D A [(h1, aI (k 0) 36 anI), (h0, ob 8 [.int h0f0, .int h0f1, .int h0f2, .int h0f3, .int h0f4, .int h0f5, .ref h1, .ref h2, .int h0f8, .int h0f9, .ref h3, .ref h4, .ref h5, .ref h6, .ref h7, .ref h8, .ref h9, .int h0f17, .int h0f18, .int h0f19, .ref h10, .ref h11, .ref h12, .ref h13, .int h0f24, .int h0f25, .ref h14, .ref h15, .ref h16, .ref h17, .int h0f30, .int h0f31, .ref h18, .ref h19, .ref h20, .ref h21]), (h4, aJ (k 1) 9 anJ), (h5, aJ (k 1) 9 anJ), (h7, aJ (k 1) 4 (zJ [2, 3]))] H := hT
                            refine lv_if_eq (tgt := 90) hx hb dX11_factor_81 (by decide) (fun cc => absurd cc (by decide +kernel)) (fun _ => ?_)
                            refine lv_iinc (v := 2) (lv' := [(3, .int 2), (4, .int 2), (0, .ref h0), (1, .int x1), (2, .int x2)]) hx hb dX11_factor_84 hl (k := 0) rfl (by decide) (by decide) rfl (fun ls hl => ?_)
                            refine lv_goto (tgt := 45) hx hb dX11_factor_87 (by decide) ?_
                            refine lv_aload_n hx hb dX11_factor_45 rfl (lv_at hl 2 rfl) ?_
                            refine lv_iload hx hb dX11_factor_46 (lv_at hl 1 rfl) ?_
                            refine lv_iload_n hx hb dX11_factor_48 rfl (lv_at hl 4 rfl) ?_
                            refine lv_iconst (v := 1) hx hb dX11_factor_49 (by decide) ?_
                            refine lv_icmp_ne (tgt := 57) hx hb dX11_factor_50 (by decide) (fun c_105 => ?_) (fun c_105 => ?_)
                            · skip
                              have c_105 := ni_ne c_105 rfl li_1
                              refine lv_iconst (v := 1) hx hb dX11_factor_57 (by decide) ?_
                              refine lv_iload_n hx hb dX11_factor_58 rfl (lv_at hl 4 rfl) ?_
                              refine lv_iconst (v := 3) hx hb dX11_factor_59 (by decide) ?_
                              refine lv_icmp_ne (tgt := 67) hx hb dX11_factor_60 (by decide) (fun c_106 => ?_) (fun c_106 => ?_)
                              · skip
                                have c_106 := ni_ne c_106 rfl li_3
                                refine lv_iload_n hx hb dX11_factor_67 rfl (lv_at hl 4 rfl) ?_
                                refine lv_bipush (v := 6) hx hb dX11_factor_68 (by decide) ?_
                                refine lv_icmp_ne (tgt := 77) hx hb dX11_factor_70 (by decide) (fun c_107 => ?_) (fun c_107 => ?_)
                                · skip
                                  have c_107 := ni_ne c_107 rfl li_6
                                  refine lv_iconst (v := 0) hx hb dX11_factor_77 (by decide) ?_
                                  have q_q109 := li_2
                                  have q_q110 := li_1
                                  have q_q111 := li_0
                                  refine tcI (Tc := [(h0, ob 8 [.int h0f0, .int h0f1, .int h0f2, .int h0f3, .int h0f4, .int h0f5, .ref h1, .ref h2, .int h0f8, .int h0f9, .ref h3, .ref h4, .ref h5, .ref h6, .ref h7, .ref h8, .ref h9, .int h0f17, .int h0f18, .int h0f19, .ref h10, .ref h11, .ref h12, .ref h13, .int h0f24, .int h0f25, .ref h14, .ref h15, .ref h16, .ref h17, .int h0f30, .int h0f31, .ref h18, .ref h19, .ref h20, .ref h21]), (h4, aJ (k 1) 9 anJ), (h5, aJ (k 1) 9 anJ), (h7, aJ (k 1) 4 (zJ [2, 3]))]) (Tr := [(h1, aI (k 0) 36 anI)]) (as := [h0, h4, h5, h7]) (zcV (q0 := 1) (ci := 8) (As := [.int 2, .int 1, .int 0]) (rest := []) (Tc := [(h0, ob 8 [.int h0f0, .int h0f1, .int h0f2, .int h0f3, .int h0f4, .int h0f5, .ref h1, .ref h2, .int h0f8, .int h0f9, .ref h3, .ref h4, .ref h5, .ref h6, .ref h7, .ref h8, .ref h9, .int h0f17, .int h0f18, .int h0f19, .ref h10, .ref h11, .ref h12, .ref h13, .int h0f24, .int h0f25, .ref h14, .ref h15, .ref h16, .ref h17, .int h0f30, .int h0f31, .ref h18, .ref h19, .ref h20, .ref h21]), (h4, aJ (k 1) 9 anJ), (h5, aJ (k 1) 9 anJ), (h7, aJ (k 1) 4 (zJ [2, 3]))]) hx hb hml hown hU hK hT rfl rfl [1, 2, 3, 4] rfl (by decide) (cX11_takesOut_c755e l D k _ h0 h4 h5 h7 h1 h2 h3 h6 h8 h9 h10 h11 h12 h13 h14 h15 h16 h17 h18 h19 h20 h21 (2) (1) (0) h0f0 h0f1 h0f2 h0f3 h0f4 h0f5 h0f8 h0f9 h0f17 h0f18 h0f19 h0f24 h0f25 h0f30 h0f31 (by have := li_2; omega) (by have := li_1; omega) (by have := li_0; omega) (by omega) (by omega) (by omega) (by omega) (by omega) (by omega) (by omega) (by omega) (by omega) (by omega) (by omega) (by omega) (by omega)) w999 w996 w998 w41 w72 hdX11_takesOut ⟨rfl, rfl⟩ ⟨Nat.le_of_ble_eq_true rfl, Nat.le_of_ble_eq_true rfl⟩ rfl hl.1 (Nat.le_of_ble_eq_true rfl) dX11_factor_78 ⟨Nat.le_of_ble_eq_true rfl, Nat.le_of_ble_eq_true rfl⟩) hT hS hA [1, 2, 3, 4] [0] rfl rfl rfl (by decide) (by decide) (fun r108 H locs hB J hS => ?_)
                                  rcases hB with ⟨rfl, hT1⟩ | ⟨v112, v113, b_v113, c_114, c_115, c_116, c_117, c_118, c_119, rfl, hT1⟩
                                  · skip
                                    have hT := J _ hT1
                                    have hT : TP D A [(h1, aI (k 0) 36 anI), (h0, ob 8 [.int h0f0, .int h0f1, .int h0f2, .int h0f3, .int h0f4, .int h0f5, .ref h1, .ref h2, .int h0f8, .int h0f9, .ref h3, .ref h4, .ref h5, .ref h6, .ref h7, .ref h8, .ref h9, .int h0f17, .int h0f18, .int h0f19, .ref h10, .ref h11, .ref h12, .ref h13, .int h0f24, .int h0f25, .ref h14, .ref h15, .ref h16, .ref h17, .int h0f30, .int h0f31, .ref h18, .ref h19, .ref h20, .ref h21]), (h4, aJ (k 1) 9 anJ), (h5, aJ (k 1) 9 anJ), (h7, aJ (k 1) 4 anJ)] H := hT
                                    refine lv_if_eq (tgt := 90) hx hb dX11_factor_81 (by decide) (fun _ => ?_) (fun cc => absurd (by decide +kernel) cc)
                                    refine lv_iload_n hx hb dX11_factor_90 rfl (lv_at hl 0 rfl) ?_
                                    exact tz_retI (B := B_cX11_factor_03481 D k h0 h1 h4 h5 h7 h2 h3 h6 h8 h9 h10 h11 h12 h13 h14 h15 h16 h17 h18 h19 h20 h21 x1 x2 h0f0 h0f1 h0f2 h0f3 h0f4 h0f5 h0f8 h0f9 h0f17 h0f18 h0f19 h0f24 h0f25 h0f30 h0f31) (v := 2) hQ hx hb hr hlocks hS (Nat.le_of_ble_eq_true rfl) (Nat.le_of_ble_eq_true rfl) dX11_factor_91 (⟨(by have := li_2; omega), (hT.sub [1, 0, 2, 3, 4] (by decide) rfl)⟩)
                                  · skip
                                    have hT := J _ hT1
                                    have hT : TP D A [(h1, aI (k 0) 36 anI), (h0, ob 8 [.int h0f0, .int h0f1, .int h0f2, .int h0f3, .int h0f4, .int h0f5, .ref h1, .ref h2, .int h0f8, .int h0f9, .ref h3, .ref h4, .ref h5, .ref h6, .ref h7, .ref h8, .ref h9, .int h0f17, .int h0f18, .int h0f19, .ref h10, .ref h11, .ref h12, .ref h13, .int h0f24, .int h0f25, .ref h14, .ref h15, .ref h16, .ref h17, .int h0f30, .int h0f31, .ref h18, .ref h19, .ref h20, .ref h21]), (h4, aJ (k 1) 9 anJ), (h5, aJ (k 1) 9 anJ), (h7, aJ (k 1) 4 (zJ [1, 2, 3]))] H := hT
                                    exfalso; omega
                                · skip
                                  have c_107 := ni_eq c_107 rfl li_6
                                  exfalso; omega
                              · skip
                                have c_106 := ni_eq c_106 rfl li_3
                                exfalso; omega
                            · skip
                              have c_105 := ni_eq c_105 rfl li_1
                              exfalso; omega
                        · skip
                          have c_72 := ni_eq c_72 rfl li_6
                          exfalso; omega
                      · skip
                        have c_71 := ni_eq c_71 rfl li_3
                        exfalso; omega
                    · skip
                      have c_70 := ni_eq c_70 rfl li_1
                      exfalso; omega
                  · skip
                    have hT := J _ hT1
                    have hT : TP D A [(h1, aI (k 0) 36 anI), (h0, ob 8 [.int h0f0, .int h0f1, .int h0f2, .int h0f3, .int h0f4, .int h0f5, .ref h1, .ref h2, .int h0f8, .int h0f9, .ref h3, .ref h4, .ref h5, .ref h6, .ref h7, .ref h8, .ref h9, .int h0f17, .int h0f18, .int h0f19, .ref h10, .ref h11, .ref h12, .ref h13, .int h0f24, .int h0f25, .ref h14, .ref h15, .ref h16, .ref h17, .int h0f30, .int h0f31, .ref h18, .ref h19, .ref h20, .ref h21]), (h4, aJ (k 1) 9 anJ), (h5, aJ (k 1) 9 anJ), (h7, aJ (k 1) 4 (zJ [3]))] H := hT
                    refine lv_if_eq (tgt := 90) hx hb dX11_factor_81 (by decide) (fun cc => absurd cc (by decide +kernel)) (fun _ => ?_)
                    refine lv_iinc (v := 1) (lv' := [(3, .int 1), (4, .int 2), (0, .ref h0), (1, .int x1), (2, .int x2)]) hx hb dX11_factor_84 hl (k := 1) rfl (by decide) (by decide) rfl (fun ls hl => ?_)
                    refine lv_goto (tgt := 45) hx hb dX11_factor_87 (by decide) ?_
                    refine lv_aload_n hx hb dX11_factor_45 rfl (lv_at hl 2 rfl) ?_
                    refine lv_iload hx hb dX11_factor_46 (lv_at hl 1 rfl) ?_
                    refine lv_iload_n hx hb dX11_factor_48 rfl (lv_at hl 4 rfl) ?_
                    refine lv_iconst (v := 1) hx hb dX11_factor_49 (by decide) ?_
                    refine lv_icmp_ne (tgt := 57) hx hb dX11_factor_50 (by decide) (fun c_120 => ?_) (fun c_120 => ?_)
                    · skip
                      have c_120 := ni_ne c_120 rfl li_1
                      refine lv_iconst (v := 1) hx hb dX11_factor_57 (by decide) ?_
                      refine lv_iload_n hx hb dX11_factor_58 rfl (lv_at hl 4 rfl) ?_
                      refine lv_iconst (v := 3) hx hb dX11_factor_59 (by decide) ?_
                      refine lv_icmp_ne (tgt := 67) hx hb dX11_factor_60 (by decide) (fun c_121 => ?_) (fun c_121 => ?_)
                      · skip
                        have c_121 := ni_ne c_121 rfl li_3
                        refine lv_iload_n hx hb dX11_factor_67 rfl (lv_at hl 4 rfl) ?_
                        refine lv_bipush (v := 6) hx hb dX11_factor_68 (by decide) ?_
                        refine lv_icmp_ne (tgt := 77) hx hb dX11_factor_70 (by decide) (fun c_122 => ?_) (fun c_122 => ?_)
                        · skip
                          have c_122 := ni_ne c_122 rfl li_6
                          refine lv_iconst (v := 0) hx hb dX11_factor_77 (by decide) ?_
                          have q_q124 := li_2
                          have q_q125 := li_1
                          have q_q126 := li_0
                          refine tcI (Tc := [(h0, ob 8 [.int h0f0, .int h0f1, .int h0f2, .int h0f3, .int h0f4, .int h0f5, .ref h1, .ref h2, .int h0f8, .int h0f9, .ref h3, .ref h4, .ref h5, .ref h6, .ref h7, .ref h8, .ref h9, .int h0f17, .int h0f18, .int h0f19, .ref h10, .ref h11, .ref h12, .ref h13, .int h0f24, .int h0f25, .ref h14, .ref h15, .ref h16, .ref h17, .int h0f30, .int h0f31, .ref h18, .ref h19, .ref h20, .ref h21]), (h4, aJ (k 1) 9 anJ), (h5, aJ (k 1) 9 anJ), (h7, aJ (k 1) 4 (zJ [3]))]) (Tr := [(h1, aI (k 0) 36 anI)]) (as := [h0, h4, h5, h7]) (zcV (q0 := 1) (ci := 8) (As := [.int 2, .int 1, .int 0]) (rest := []) (Tc := [(h0, ob 8 [.int h0f0, .int h0f1, .int h0f2, .int h0f3, .int h0f4, .int h0f5, .ref h1, .ref h2, .int h0f8, .int h0f9, .ref h3, .ref h4, .ref h5, .ref h6, .ref h7, .ref h8, .ref h9, .int h0f17, .int h0f18, .int h0f19, .ref h10, .ref h11, .ref h12, .ref h13, .int h0f24, .int h0f25, .ref h14, .ref h15, .ref h16, .ref h17, .int h0f30, .int h0f31, .ref h18, .ref h19, .ref h20, .ref h21]), (h4, aJ (k 1) 9 anJ), (h5, aJ (k 1) 9 anJ), (h7, aJ (k 1) 4 (zJ [3]))]) hx hb hml hown hU hK hT rfl rfl [1, 2, 3, 4] rfl (by decide) (cX11_takesOut_75942 l D k _ h0 h4 h5 h7 h1 h2 h3 h6 h8 h9 h10 h11 h12 h13 h14 h15 h16 h17 h18 h19 h20 h21 (2) (1) (0) h0f0 h0f1 h0f2 h0f3 h0f4 h0f5 h0f8 h0f9 h0f17 h0f18 h0f19 h0f24 h0f25 h0f30 h0f31 (by have := li_2; omega) (by have := li_1; omega) (by have := li_0; omega) (by omega) (by omega) (by omega) (by omega) (by omega) (by omega) (by omega) (by omega) (by omega) (by omega) (by omega) (by omega) (by omega)) w999 w996 w998 w41 w72 hdX11_takesOut ⟨rfl, rfl⟩ ⟨Nat.le_of_ble_eq_true rfl, Nat.le_of_ble_eq_true rfl⟩ rfl hl.1 (Nat.le_of_ble_eq_true rfl) dX11_factor_78 ⟨Nat.le_of_ble_eq_true rfl, Nat.le_of_ble_eq_true rfl⟩) hT hS hA [1, 2, 3, 4] [0] rfl rfl rfl (by decide) (by decide) (fun r123 H locs hB J hS => ?_)
                          rcases hB with ⟨rfl, hT1⟩ | ⟨v127, v128, b_v128, c_129, c_130, c_131, c_132, c_133, c_134, c_135, rfl, hT1⟩ | ⟨v136, v137, v138, b_v136, b_v138, c_139, c_140, c_141, c_142, c_143, c_144, c_145, rfl, hT1⟩ | ⟨v146, v147, v148, b_v147, b_v148, c_149, c_150, c_151, c_152, c_153, c_154, rfl, hT1⟩
                          · skip
                            have hT := J _ hT1
                            have hT : TP D A [(h1, aI (k 0) 36 anI), (h0, ob 8 [.int h0f0, .int h0f1, .int h0f2, .int h0f3, .int h0f4, .int h0f5, .ref h1, .ref h2, .int h0f8, .int h0f9, .ref h3, .ref h4, .ref h5, .ref h6, .ref h7, .ref h8, .ref h9, .int h0f17, .int h0f18, .int h0f19, .ref h10, .ref h11, .ref h12, .ref h13, .int h0f24, .int h0f25, .ref h14, .ref h15, .ref h16, .ref h17, .int h0f30, .int h0f31, .ref h18, .ref h19, .ref h20, .ref h21]), (h4, aJ (k 1) 9 anJ), (h5, aJ (k 1) 9 anJ), (h7, aJ (k 1) 4 anJ)] H := hT
                            refine lv_if_eq (tgt := 90) hx hb dX11_factor_81 (by decide) (fun _ => ?_) (fun cc => absurd (by decide +kernel) cc)
                            refine lv_iload_n hx hb dX11_factor_90 rfl (lv_at hl 0 rfl) ?_
                            exact tz_retI (B := B_cX11_factor_03481 D k h0 h1 h4 h5 h7 h2 h3 h6 h8 h9 h10 h11 h12 h13 h14 h15 h16 h17 h18 h19 h20 h21 x1 x2 h0f0 h0f1 h0f2 h0f3 h0f4 h0f5 h0f8 h0f9 h0f17 h0f18 h0f19 h0f24 h0f25 h0f30 h0f31) (v := 1) hQ hx hb hr hlocks hS (Nat.le_of_ble_eq_true rfl) (Nat.le_of_ble_eq_true rfl) dX11_factor_91 (⟨(by have := li_1; omega), (hT.sub [1, 0, 2, 3, 4] (by decide) rfl)⟩)
                          · skip
                            have hT := J _ hT1
                            have hT : TP D A [(h1, aI (k 0) 36 anI), (h0, ob 8 [.int h0f0, .int h0f1, .int h0f2, .int h0f3, .int h0f4, .int h0f5, .ref h1, .ref h2, .int h0f8, .int h0f9, .ref h3, .ref h4, .ref h5, .ref h6, .ref h7, .ref h8, .ref h9, .int h0f17, .int h0f18, .int h0f19, .ref h10, .ref h11, .ref h12, .ref h13, .int h0f24, .int h0f25, .ref h14, .ref h15, .ref h16, .ref h17, .int h0f30, .int h0f31, .ref h18, .ref h19, .ref h20, .ref h21]), (h4, aJ (k 1) 9 anJ), (h5, aJ (k 1) 9 anJ), (h7, aJ (k 1) 4 (zJ [2, 3]))] H := hT
                            exfalso; omega
                          · skip
                            have hT := J _ hT1
                            have hT : TP D A [(h1, aI (k 0) 36 anI), (h0, ob 8 [.int h0f0, .int h0f1, .int h0f2, .int h0f3, .int h0f4, .int h0f5, .ref h1, .ref h2, .int h0f8, .int h0f9, .ref h3, .ref h4, .ref h5, .ref h6, .ref h7, .ref h8, .ref h9, .int h0f17, .int h0f18, .int h0f19, .ref h10, .ref h11, .ref h12, .ref h13, .int h0f24, .int h0f25, .ref h14, .ref h15, .ref h16, .ref h17, .int h0f30, .int h0f31, .ref h18, .ref h19, .ref h20, .ref h21]), (h4, aJ (k 1) 9 anJ), (h5, aJ (k 1) 9 anJ), (h7, aJ (k 1) 4 (zJ [2, 3]))] H := hT
                            exfalso; omega
                          · skip
                            have hT := J _ hT1
                            have hT : TP D A [(h1, aI (k 0) 36 anI), (h0, ob 8 [.int h0f0, .int h0f1, .int h0f2, .int h0f3, .int h0f4, .int h0f5, .ref h1, .ref h2, .int h0f8, .int h0f9, .ref h3, .ref h4, .ref h5, .ref h6, .ref h7, .ref h8, .ref h9, .int h0f17, .int h0f18, .int h0f19, .ref h10, .ref h11, .ref h12, .ref h13, .int h0f24, .int h0f25, .ref h14, .ref h15, .ref h16, .ref h17, .int h0f30, .int h0f31, .ref h18, .ref h19, .ref h20, .ref h21]), (h4, aJ (k 1) 9 anJ), (h5, aJ (k 1) 9 anJ), (h7, aJ (k 1) 4 (zJ [2, 3]))] H := hT
                            refine lv_if_eq (tgt := 90) hx hb dX11_factor_81 (by decide) (fun cc => absurd cc (by decide +kernel)) (fun _ => ?_)
                            refine lv_iinc (v := 2) (lv' := [(3, .int 2), (4, .int 2), (0, .ref h0), (1, .int x1), (2, .int x2)]) hx hb dX11_factor_84 hl (k := 0) rfl (by decide) (by decide) rfl (fun ls hl => ?_)
                            refine lv_goto (tgt := 45) hx hb dX11_factor_87 (by decide) ?_
                            refine lv_aload_n hx hb dX11_factor_45 rfl (lv_at hl 2 rfl) ?_
                            refine lv_iload hx hb dX11_factor_46 (lv_at hl 1 rfl) ?_
                            refine lv_iload_n hx hb dX11_factor_48 rfl (lv_at hl 4 rfl) ?_
                            refine lv_iconst (v := 1) hx hb dX11_factor_49 (by decide) ?_
                            refine lv_icmp_ne (tgt := 57) hx hb dX11_factor_50 (by decide) (fun c_155 => ?_) (fun c_155 => ?_)
                            · skip
                              have c_155 := ni_ne c_155 rfl li_1
                              refine lv_iconst (v := 1) hx hb dX11_factor_57 (by decide) ?_
                              refine lv_iload_n hx hb dX11_factor_58 rfl (lv_at hl 4 rfl) ?_
                              refine lv_iconst (v := 3) hx hb dX11_factor_59 (by decide) ?_
                              refine lv_icmp_ne (tgt := 67) hx hb dX11_factor_60 (by decide) (fun c_156 => ?_) (fun c_156 => ?_)
                              · skip
                                have c_156 := ni_ne c_156 rfl li_3
                                refine lv_iload_n hx hb dX11_factor_67 rfl (lv_at hl 4 rfl) ?_
                                refine lv_bipush (v := 6) hx hb dX11_factor_68 (by decide) ?_
                                refine lv_icmp_ne (tgt := 77) hx hb dX11_factor_70 (by decide) (fun c_157 => ?_) (fun c_157 => ?_)
                                · skip
                                  have c_157 := ni_ne c_157 rfl li_6
                                  refine lv_iconst (v := 0) hx hb dX11_factor_77 (by decide) ?_
                                  have q_q159 := li_2
                                  have q_q160 := li_1
                                  have q_q161 := li_0
                                  refine tcI (Tc := [(h0, ob 8 [.int h0f0, .int h0f1, .int h0f2, .int h0f3, .int h0f4, .int h0f5, .ref h1, .ref h2, .int h0f8, .int h0f9, .ref h3, .ref h4, .ref h5, .ref h6, .ref h7, .ref h8, .ref h9, .int h0f17, .int h0f18, .int h0f19, .ref h10, .ref h11, .ref h12, .ref h13, .int h0f24, .int h0f25, .ref h14, .ref h15, .ref h16, .ref h17, .int h0f30, .int h0f31, .ref h18, .ref h19, .ref h20, .ref h21]), (h4, aJ (k 1) 9 anJ), (h5, aJ (k 1) 9 anJ), (h7, aJ (k 1) 4 (zJ [2, 3]))]) (Tr := [(h1, aI (k 0) 36 anI)]) (as := [h0, h4, h5, h7]) (zcV (q0 := 1) (ci := 8) (As := [.int 2, .int 1, .int 0]) (rest := []) (Tc := [(h0, ob 8 [.int h0f0, .int h0f1, .int h0f2, .int h0f3, .int h0f4, .int h0f5, .ref h1, .ref h2, .int h0f8, .int h0f9, .ref h3, .ref h4, .ref h5, .ref h6, .ref h7, .ref h8, .ref h9, .int h0f17, .int h0f18, .int h0f19, .ref h10, .ref h11, .ref h12, .ref h13, .int h0f24, .int h0f25, .ref h14, .ref h15, .ref h16, .ref h17, .int h0f30, .int h0f31, .ref h18, .ref h19, .ref h20, .ref h21]), (h4, aJ (k 1) 9 anJ), (h5, aJ (k 1) 9 anJ), (h7, aJ (k 1) 4 (zJ [2, 3]))]) hx hb hml hown hU hK hT rfl rfl [1, 2, 3, 4] rfl (by decide) (cX11_takesOut_c755e l D k _ h0 h4 h5 h7 h1 h2 h3 h6 h8 h9 h10 h11 h12 h13 h14 h15 h16 h17 h18 h19 h20 h21 (2) (1) (0) h0f0 h0f1 h0f2 h0f3 h0f4 h0f5 h0f8 h0f9 h0f17 h0f18 h0f19 h0f24 h0f25 h0f30 h0f31 (by have := li_2; omega) (by have := li_1; omega) (by have := li_0; omega) (by omega) (by omega) (by omega) (by omega) (by omega) (by omega) (by omega) (by omega) (by omega) (by omega) (by omega) (by omega) (by omega)) w999 w996 w998 w41 w72 hdX11_takesOut ⟨rfl, rfl⟩ ⟨Nat.le_of_ble_eq_true rfl, Nat.le_of_ble_eq_true rfl⟩ rfl hl.1 (Nat.le_of_ble_eq_true rfl) dX11_factor_78 ⟨Nat.le_of_ble_eq_true rfl, Nat.le_of_ble_eq_true rfl⟩) hT hS hA [1, 2, 3, 4] [0] rfl rfl rfl (by decide) (by decide) (fun r158 H locs hB J hS => ?_)
                                  rcases hB with ⟨rfl, hT1⟩ | ⟨v162, v163, b_v163, c_164, c_165, c_166, c_167, c_168, c_169, rfl, hT1⟩
                                  · skip
                                    have hT := J _ hT1
                                    have hT : TP D A [(h1, aI (k 0) 36 anI), (h0, ob 8 [.int h0f0, .int h0f1, .int h0f2, .int h0f3, .int h0f4, .int h0f5, .ref h1, .ref h2, .int h0f8, .int h0f9, .ref h3, .ref h4, .ref h5, .ref h6, .ref h7, .ref h8, .ref h9, .int h0f17, .int h0f18, .int h0f19, .ref h10, .ref h11, .ref h12, .ref h13, .int h0f24, .int h0f25, .ref h14, .ref h15, .ref h16, .ref h17, .int h0f30, .int h0f31, .ref h18, .ref h19, .ref h20, .ref h21]), (h4, aJ (k 1) 9 anJ), (h5, aJ (k 1) 9 anJ), (h7, aJ (k 1) 4 anJ)] H := hT
                                    refine lv_if_eq (tgt := 90) hx hb dX11_factor_81 (by decide) (fun _ => ?_) (fun cc => absurd (by decide +kernel) cc)
                                    refine lv_iload_n hx hb dX11_factor_90 rfl (lv_at hl 0 rfl) ?_
                                    exact tz_retI (B := B_cX11_factor_03481 D k h0 h1 h4 h5 h7 h2 h3 h6 h8 h9 h10 h11 h12 h13 h14 h15 h16 h17 h18 h19 h20 h21 x1 x2 h0f0 h0f1 h0f2 h0f3 h0f4 h0f5 h0f8 h0f9 h0f17 h0f18 h0f19 h0f24 h0f25 h0f30 h0f31) (v := 2) hQ hx hb hr hlocks hS (Nat.le_of_ble_eq_true rfl) (Nat.le_of_ble_eq_true rfl) dX11_factor_91 (⟨(by have := li_2; omega), (hT.sub [1, 0, 2, 3, 4] (by decide) rfl)⟩)
                                  · skip
                                    have hT := J _ hT1
                                    have hT : TP D A [(h1, aI (k 0) 36 anI), (h0, ob 8 [.int h0f0, .int h0f1, .int h0f2, .int h0f3, .int h0f4, .int h0f5, .ref h1, .ref h2, .int h0f8, .int h0f9, .ref h3, .ref h4, .ref h5, .ref h6, .ref h7, .ref h8, .ref h9, .int h0f17, .int h0f18, .int h0f19, .ref h10, .ref h11, .ref h12, .ref h13, .int h0f24, .int h0f25, .ref h14, .ref h15, .ref h16, .ref h17, .int h0f30, .int h0f31, .ref h18, .ref h19, .ref h20, .ref h21]), (h4, aJ (k 1) 9 anJ), (h5, aJ (k 1) 9 anJ), (h7, aJ (k 1) 4 (zJ [1, 2, 3]))] H := hT
                                    exfalso; omega
                                · skip
                                  have c_157 := ni_eq c_157 rfl li_6
                                  exfalso; omega
                              · skip
                                have c_156 := ni_eq c_156 rfl li_3
                                exfalso; omega
                            · skip
                              have c_155 := ni_eq c_155 rfl li_1
                              exfalso; omega
                        · skip
                          have c_122 := ni_eq c_122 rfl li_6
                          exfalso; omega
                      · skip
                        have c_121 := ni_eq c_121 rfl li_3
                        exfalso; omega
                    · skip
                      have c_120 := ni_eq c_120 rfl li_1
                      exfalso; omega
                · skip
                  have c_11 := ni_eq c_11 rfl li_6
                  refine lv_iconst (v := (-1)) hx hb dX11_factor_73 (by decide) ?_
                  refine lv_goto (tgt := 78) hx hb dX11_factor_74 (by decide) ?_
                  have q_q171 := li_2
                  have q_q172 := li_1
                  have q_q173 := li_m1
                  refine tcI (Tc := [(h0, ob 8 [.int h0f0, .int h0f1, .int h0f2, .int h0f3, .int h0f4, .int h0f5, .ref h1, .ref h2, .int h0f8, .int h0f9, .ref h3, .ref h4, .ref h5, .ref h6, .ref h7, .ref h8, .ref h9, .int h0f17, .int h0f18, .int h0f19, .ref h10, .ref h11, .ref h12, .ref h13, .int h0f24, .int h0f25, .ref h14, .ref h15, .ref h16, .ref h17, .int h0f30, .int h0f31, .ref h18, .ref h19, .ref h20, .ref h21]), (h4, aJ (k 1) 9 anJ), (h5, aJ (k 1) 9 anJ), (h7, aJ (k 1) 4 anJ)]) (Tr := [(h1, aI (k 0) 36 anI)]) (as := [h0, h4, h5, h7]) (zcV (q0 := 1) (ci := 8) (As := [.int 2, .int 1, .int (-1)]) (rest := []) (Tc := [(h0, ob 8 [.int h0f0, .int h0f1, .int h0f2, .int h0f3, .int h0f4, .int h0f5, .ref h1, .ref h2, .int h0f8, .int h0f9, .ref h3, .ref h4, .ref h5, .ref h6, .ref h7, .ref h8, .ref h9, .int h0f17, .int h0f18, .int h0f19, .ref h10, .ref h11, .ref h12, .ref h13, .int h0f24, .int h0f25, .ref h14, .ref h15, .ref h16, .ref h17, .int h0f30, .int h0f31, .ref h18, .ref h19, .ref h20, .ref h21]), (h4, aJ (k 1) 9 anJ), (h5, aJ (k 1) 9 anJ), (h7, aJ (k 1) 4 anJ)]) hx hb hml hown hU hK hT rfl rfl [1, 3, 0, 4] rfl (by decide) (cX11_takesOut_0c94b l D k _ h0 h4 h5 h7 h1 h2 h3 h6 h8 h9 h10 h11 h12 h13 h14 h15 h16 h17 h18 h19 h20 h21 (2) (1) ((-1)) h0f0 h0f1 h0f2 h0f3 h0f4 h0f5 h0f8 h0f9 h0f17 h0f18 h0f19 h0f24 h0f25 h0f30 h0f31 (by have := li_2; omega) (by have := li_1; omega) (by have := li_m1; omega) (by omega) (by omega) (by omega) (by omega) (by omega) (by omega) (by omega) (by omega) (by omega) (by omega) (by omega) (by omega) (by omega)) w999 w996 w998 w41 w72 hdX11_takesOut ⟨rfl, rfl⟩ ⟨Nat.le_of_ble_eq_true rfl, Nat.le_of_ble_eq_true rfl⟩ rfl hl.1 (Nat.le_of_ble_eq_true rfl) dX11_factor_78 ⟨Nat.le_of_ble_eq_true rfl, Nat.le_of_ble_eq_true rfl⟩) hT hS hA [1, 3, 0, 4] [2] rfl rfl rfl (by decide) (by decide) (fun r170 H locs hB J hS => ?_)
                  rcases hB with ⟨rfl, hT1⟩ | ⟨v174, v175, b_v175, c_176, c_177, c_178, c_179, c_180, c_181, c_182, c_183, rfl, hT1⟩ | ⟨v184, v185, v186, b_v184, b_v186, c_187, c_188, c_189, c_190, c_191, c_192, c_193, c_194, rfl, hT1⟩ | ⟨v195, v196, v197, v198, b_v195, b_v196, b_v198, c_199, c_200, c_201, c_202, c_203, c_204, c_205, c_206, rfl, hT1⟩ | ⟨v207, v208, v209, b_v208, b_v209, c_210, c_211, c_212, c_213, c_214, c_215, c_216, rfl, hT1⟩ | ⟨v217, v218, v219, v220, b_v217, b_v219, b_v220, c_221, c_222, c_223, c_224, c_225, c_226, c_227, rfl, hT1⟩
                  · skip
                    have hT := J _ hT1
                    have hT : TP D A [(h1, aI (k 0) 36 anI), (h0, ob 8 [.int h0f0, .int h0f1, .int h0f2, .int h0f3, .int h0f4, .int h0f5, .ref h1, .ref h2, .int h0f8, .int h0f9, .ref h3, .ref h4, .ref h5, .ref h6, .ref h7, .ref h8, .ref h9, .int h0f17, .int h0f18, .int h0f19, .ref h10, .ref h11, .ref h12, .ref h13, .int h0f24, .int h0f25, .ref h14, .ref h15, .ref h16, .ref h17, .int h0f30, .int h0f31, .ref h18, .ref h19, .ref h20, .ref h21]), (h4, aJ (k 1) 9 anJ), (h5, aJ (k 1) 9 anJ), (h7, aJ (k 1) 4 anJ)] H := hT
                    refine lv_if_eq (tgt := 90) hx hb dX11_factor_81 (by decide) (fun _ => ?_) (fun cc => absurd (by decide +kernel) cc)
                    refine lv_iload_n hx hb dX11_factor_90 rfl (lv_at hl 1 rfl) ?_
                    exact tz_retI (B := B_cX11_factor_03481 D k h0 h1 h4 h5 h7 h2 h3 h6 h8 h9 h10 h11 h12 h13 h14 h15 h16 h17 h18 h19 h20 h21 x1 x2 h0f0 h0f1 h0f2 h0f3 h0f4 h0f5 h0f8 h0f9 h0f17 h0f18 h0f19 h0f24 h0f25 h0f30 h0f31) (v := 0) hQ hx hb hr hlocks hS (Nat.le_of_ble_eq_true rfl) (Nat.le_of_ble_eq_true rfl) dX11_factor_91 (⟨(by have := li_0; omega), (hT.sub [1, 0, 2, 3, 4] (by decide) rfl)⟩)
                  · skip
                    have hT := J _ hT1
                    have hT : TP D A [(h1, aI (k 0) 36 anI), (h0, ob 8 [.int h0f0, .int h0f1, .int h0f2, .int h0f3, .int h0f4, .int h0f5, .ref h1, .ref h2, .int h0f8, .int h0f9, .ref h3, .ref h4, .ref h5, .ref h6, .ref h7, .ref h8, .ref h9, .int h0f17, .int h0f18, .int h0f19, .ref h10, .ref h11, .ref h12, .ref h13, .int h0f24, .int h0f25, .ref h14, .ref h15, .ref h16, .ref h17, .int h0f30, .int h0f31, .ref h18, .ref h19, .ref h20, .ref h21]), (h4, aJ (k 1) 9 anJ), (h5, aJ (k 1) 9 anJ), (h7, aJ (k 1) 4 (zJ [3]))] H := hT
                    exfalso; omega
                  · skip
                    have hT := J _ hT1
                    have hT : TP D A [(h1, aI (k 0) 36 anI), (h0, ob 8 [.int h0f0, .int h0f1, .int h0f2, .int h0f3, .int h0f4, .int h0f5, .ref h1, .ref h2, .int h0f8, .int h0f9, .ref h3, .ref h4, .ref h5, .ref h6, .ref h7, .ref h8, .ref h9, .int h0f17, .int h0f18, .int h0f19, .ref h10, .ref h11, .ref h12, .ref h13, .int h0f24, .int h0f25, .ref h14, .ref h15, .ref h16, .ref h17, .int h0f30, .int h0f31, .ref h18, .ref h19, .ref h20, .ref h21]), (h4, aJ (k 1) 9 anJ), (h5, aJ (k 1) 9 anJ), (h7, aJ (k 1) 4 (zJ [3]))] H := hT
                    exfalso; omega
                  · skip
                    have hT := J _ hT1
                    have hT : TP D A [(h1, aI (k 0) 36 anI), (h0, ob 8 [.int h0f0, .int h0f1, .int h0f2, .int h0f3, .int h0f4, .int h0f5, .ref h1, .ref h2, .int h0f8, .int h0f9, .ref h3, .ref h4, .ref h5, .ref h6, .ref h7, .ref h8, .ref h9, .int h0f17, .int h0f18, .int h0f19, .ref h10, .ref h11, .ref h12, .ref h13, .int h0f24, .int h0f25, .ref h14, .ref h15, .ref h16, .ref h17, .int h0f30, .int h0f31, .ref h18, .ref h19, .ref h20, .ref h21]), (h4, aJ (k 1) 9 anJ), (h5, aJ (k 1) 9 anJ), (h7, aJ (k 1) 4 (zJ [3]))] H := hT
                    exfalso; omega
                  · skip
                    have hT := J _ hT1
                    have hT : TP D A [(h1, aI (k 0) 36 anI), (h0, ob 8 [.int h0f0, .int h0f1, .int h0f2, .int h0f3, .int h0f4, .int h0f5, .ref h1, .ref h2, .int h0f8, .int h0f9, .ref h3, .ref h4, .ref h5, .ref h6, .ref h7, .ref h8, .ref h9, .int h0f17, .int h0f18, .int h0f19, .ref h10, .ref h11, .ref h12, .ref h13, .int h0f24, .int h0f25, .ref h14, .ref h15, .ref h16, .ref h17, .int h0f30, .int h0f31, .ref h18, .ref h19, .ref h20, .ref h21]), (h4, aJ (k 1) 9 anJ), (h5, aJ (k 1) 9 anJ), (h7, aJ (k 1) 4 (zJ [3]))] H := hT
                    refine lv_if_eq (tgt := 90) hx hb dX11_factor_81 (by decide) (fun cc => absurd cc (by decide +kernel)) (fun _ => ?_)
                    refine lv_iinc (v := 1) (lv' := [(3, .int 1), (4, .int 2), (0, .ref h0), (1, .int x1), (2, .int x2)]) hx hb dX11_factor_84 hl (k := 1) rfl (by decide) (by decide) rfl (fun ls hl => ?_)
                    refine lv_goto (tgt := 45) hx hb dX11_factor_87 (by decide) ?_
                    refine lv_aload_n hx hb dX11_factor_45 rfl (lv_at hl 2 rfl) ?_
                    refine lv_iload hx hb dX11_factor_46 (lv_at hl 1 rfl) ?_
                    refine lv_iload_n hx hb dX11_factor_48 rfl (lv_at hl 4 rfl) ?_
                    refine lv_iconst (v := 1) hx hb dX11_factor_49 (by decide) ?_
                    refine lv_icmp_ne (tgt := 57) hx hb dX11_factor_50 (by decide) (fun c_228 => ?_) (fun c_228 => ?_)
                    · skip
                      have c_228 := ni_ne c_228 rfl li_1
                      refine lv_iconst (v := 1) hx hb dX11_factor_57 (by decide) ?_
                      refine lv_iload_n hx hb dX11_factor_58 rfl (lv_at hl 4 rfl) ?_
                      refine lv_iconst (v := 3) hx hb dX11_factor_59 (by decide) ?_
                      refine lv_icmp_ne (tgt := 67) hx hb dX11_factor_60 (by decide) (fun c_229 => ?_) (fun c_229 => ?_)
                      · skip
                        have c_229 := ni_ne c_229 rfl li_3
                        refine lv_iload_n hx hb dX11_factor_67 rfl (lv_at hl 4 rfl) ?_
                        refine lv_bipush (v := 6) hx hb dX11_factor_68 (by decide) ?_
                        refine lv_icmp_ne (tgt := 77) hx hb dX11_factor_70 (by decide) (fun c_230 => ?_) (fun c_230 => ?_)
                        · skip
                          have c_230 := ni_ne c_230 rfl li_6
                          exfalso; omega
                        · skip
                          have c_230 := ni_eq c_230 rfl li_6
                          refine lv_iconst (v := (-1)) hx hb dX11_factor_73 (by decide) ?_
                          refine lv_goto (tgt := 78) hx hb dX11_factor_74 (by decide) ?_
                          have q_q232 := li_2
                          have q_q233 := li_1
                          have q_q234 := li_m1
                          refine tcI (Tc := [(h0, ob 8 [.int h0f0, .int h0f1, .int h0f2, .int h0f3, .int h0f4, .int h0f5, .ref h1, .ref h2, .int h0f8, .int h0f9, .ref h3, .ref h4, .ref h5, .ref h6, .ref h7, .ref h8, .ref h9, .int h0f17, .int h0f18, .int h0f19, .ref h10, .ref h11, .ref h12, .ref h13, .int h0f24, .int h0f25, .ref h14, .ref h15, .ref h16, .ref h17, .int h0f30, .int h0f31, .ref h18, .ref h19, .ref h20, .ref h21]), (h4, aJ (k 1) 9 anJ), (h5, aJ (k 1) 9 anJ), (h7, aJ (k 1) 4 (zJ [3]))]) (Tr := [(h1, aI (k 0) 36 anI)]) (as := [h0, h4, h5, h7]) (zcV (q0 := 1) (ci := 8) (As := [.int 2, .int 1, .int (-1)]) (rest := []) (Tc := [(h0, ob 8 [.int h0f0, .int h0f1, .int h0f2, .int h0f3, .int h0f4, .int h0f5, .ref h1, .ref h2, .int h0f8, .int h0f9, .ref h3, .ref h4, .ref h5, .ref h6, .ref h7, .ref h8, .ref h9, .int h0f17, .int h0f18, .int h0f19, .ref h10, .ref h11, .ref h12, .ref h13, .int h0f24, .int h0f25, .ref h14, .ref h15, .ref h16, .ref h17, .int h0f30, .int h0f31, .ref h18, .ref h19, .ref h20, .ref h21]), (h4, aJ (k 1) 9 anJ), (h5, aJ (k 1) 9 anJ), (h7, aJ (k 1) 4 (zJ [3]))]) hx hb hml hown hU hK hT rfl rfl [1, 2, 3, 4] rfl (by decide) (cX11_takesOut_75942 l D k _ h0 h4 h5 h7 h1 h2 h3 h6 h8 h9 h10 h11 h12 h13 h14 h15 h16 h17 h18 h19 h20 h21 (2) (1) ((-1)) h0f0 h0f1 h0f2 h0f3 h0f4 h0f5 h0f8 h0f9 h0f17 h0f18 h0f19 h0f24 h0f25 h0f30 h0f31 (by have := li_2; omega) (by have := li_1; omega) (by have := li_m1; omega) (by omega) (by omega) (by omega) (by omega) (by omega) (by omega) (by omega) (by omega) (by omega) (by omega) (by omega) (by omega) (by omega)) w999 w996 w998 w41 w72 hdX11_takesOut ⟨rfl, rfl⟩ ⟨Nat.le_of_ble_eq_true rfl, Nat.le_of_ble_eq_true rfl⟩ rfl hl.1 (Nat.le_of_ble_eq_true rfl) dX11_factor_78 ⟨Nat.le_of_ble_eq_true rfl, Nat.le_of_ble_eq_true rfl⟩) hT hS hA [1, 2, 3, 4] [0] rfl rfl rfl (by decide) (by decide) (fun r231 H locs hB J hS => ?_)
                          rcases hB with ⟨rfl, hT1⟩ | ⟨v235, v236, b_v236, c_237, c_238, c_239, c_240, c_241, c_242, c_243, rfl, hT1⟩ | ⟨v244, v245, v246, b_v244, b_v246, c_247, c_248, c_249, c_250, c_251, c_252, c_253, rfl, hT1⟩ | ⟨v254, v255, v256, b_v255, b_v256, c_257, c_258, c_259, c_260, c_261, c_262, rfl, hT1⟩
                          · skip
                            have hT := J _ hT1
                            have hT : TP D A [(h1, aI (k 0) 36 anI), (h0, ob 8 [.int h0f0, .int h0f1, .int h0f2, .int h0f3, .int h0f4, .int h0f5, .ref h1, .ref h2, .int h0f8, .int h0f9, .ref h3, .ref h4, .ref h5, .ref h6, .ref h7, .ref h8, .ref h9, .int h0f17, .int h0f18, .int h0f19, .ref h10, .ref h11, .ref h12, .ref h13, .int h0f24, .int h0f25, .ref h14, .ref h15, .ref h16, .ref h17, .int h0f30, .int h0f31, .ref h18, .ref h19, .ref h20, .ref h21]), (h4, aJ (k 1) 9 anJ), (h5, aJ (k 1) 9 anJ), (h7, aJ (k 1) 4 anJ)] H := hT
                            refine lv_if_eq (tgt := 90) hx hb dX11_factor_81 (by decide) (fun _ => ?_) (fun cc => absurd (by decide +kernel) cc)
                            refine lv_iload_n hx hb dX11_factor_90 rfl (lv_at hl 0 rfl) ?_
                            exact tz_retI (B := B_cX11_factor_03481 D k h0 h1 h4 h5 h7 h2 h3 h6 h8 h9 h10 h11 h12 h13 h14 h15 h16 h17 h18 h19 h20 h21 x1 x2 h0f0 h0f1 h0f2 h0f3 h0f4 h0f5 h0f8 h0f9 h0f17 h0f18 h0f19 h0f24 h0f25 h0f30 h0f31) (v := 1) hQ hx hb hr hlocks hS (Nat.le_of_ble_eq_true rfl) (Nat.le_of_ble_eq_true rfl) dX11_factor_91 (⟨(by have := li_1; omega), (hT.sub [1, 0, 2, 3, 4] (by decide) rfl)⟩)
                          · skip
                            have hT := J _ hT1
                            have hT : TP D A [(h1, aI (k 0) 36 anI), (h0, ob 8 [.int h0f0, .int h0f1, .int h0f2, .int h0f3, .int h0f4, .int h0f5, .ref h1, .ref h2, .int h0f8, .int h0f9, .ref h3, .ref h4, .ref h5, .ref h6, .ref h7, .ref h8, .ref h9, .int h0f17, .int h0f18, .int h0f19, .ref h10, .ref h11, .ref h12, .ref h13, .int h0f24, .int h0f25, .ref h14, .ref h15, .ref h16, .ref h17, .int h0f30, .int h0f31, .ref h18, .ref h19, .ref h20, .ref h21]), (h4, aJ (k 1) 9 anJ), (h5, aJ (k 1) 9 anJ), (h7, aJ (k 1) 4 (zJ [2, 3]))] H := hT
                            exfalso; omega
                          · skip
                            have hT := J _ hT1
                            have hT : TP D A [(h1, aI (k 0) 36 anI), (h0, ob 8 [.int h0f0, .int h0f1, .int h0f2, .int h0f3, .int h0f4, .int h0f5, .ref h1, .ref h2, .int h0f8, .int h0f9, .ref h3, .ref h4, .ref h5, .ref h6, .ref h7, .ref h8, .ref h9, .int h0f17, .int h0f18, .int h0f19, .ref h10, .ref h11, .ref h12, .ref h13, .int h0f24, .int h0f25, .ref h14, .ref h15, .ref h16, .ref h17, .int h0f30, .int h0f31, .ref h18, .ref h19, .ref h20, .ref h21]), (h4, aJ (k 1) 9 anJ), (h5, aJ (k 1) 9 anJ), (h7, aJ (k 1) 4 (zJ [2, 3]))] H := hT
                            exfalso; omega
                          · skip
                            have hT := J _ hT1
                            have hT : TP D A [(h1, aI (k 0) 36 anI), (h0, ob 8 [.int h0f0, .int h0f1, .int h0f2, .int h0f3, .int h0f4, .int h0f5, .ref h1, .ref h2, .int h0f8, .int h0f9, .ref h3, .ref h4, .ref h5, .ref h6, .ref h7, .ref h8, .ref h9, .int h0f17, .int h0f18, .int h0f19, .ref h10, .ref h11, .ref h12, .ref h13, .int h0f24, .int h0f25, .ref h14, .ref h15, .ref h16, .ref h17, .int h0f30, .int h0f31, .ref h18, .ref h19, .ref h20, .ref h21]), (h4, aJ (k 1) 9 anJ), (h5, aJ (k 1) 9 anJ), (h7, aJ (k 1) 4 (zJ [2, 3]))] H := hT
                            refine lv_if_eq (tgt := 90) hx hb dX11_factor_81 (by decide) (fun cc => absurd cc (by decide +kernel)) (fun _ => ?_)
                            refine lv_iinc (v := 2) (lv' := [(3, .int 2), (4, .int 2), (0, .ref h0), (1, .int x1), (2, .int x2)]) hx hb dX11_factor_84 hl (k := 0) rfl (by decide) (by decide) rfl (fun ls hl => ?_)
                            refine lv_goto (tgt := 45) hx hb dX11_factor_87 (by decide) ?_
                            refine lv_aload_n hx hb dX11_factor_45 rfl (lv_at hl 2 rfl) ?_
                            refine lv_iload hx hb dX11_factor_46 (lv_at hl 1 rfl) ?_
                            refine lv_iload_n hx hb dX11_factor_48 rfl (lv_at hl 4 rfl) ?_
                            refine lv_iconst (v := 1) hx hb dX11_factor_49 (by decide) ?_
                            refine lv_icmp_ne (tgt := 57) hx hb dX11_factor_50 (by decide) (fun c_263 => ?_) (fun c_263 => ?_)
                            · skip
                              have c_263 := ni_ne c_263 rfl li_1
                              refine lv_iconst (v := 1) hx hb dX11_factor_57 (by decide) ?_
                              refine lv_iload_n hx hb dX11_factor_58 rfl (lv_at hl 4 rfl) ?_
                              refine lv_iconst (v := 3) hx hb dX11_factor_59 (by decide) ?_
                              refine lv_icmp_ne (tgt := 67) hx hb dX11_factor_60 (by decide) (fun c_264 => ?_) (fun c_264 => ?_)
                              · skip
                                have c_264 := ni_ne c_264 rfl li_3
                                refine lv_iload_n hx hb dX11_factor_67 rfl (lv_at hl 4 rfl) ?_
                                refine lv_bipush (v := 6) hx hb dX11_factor_68 (by decide) ?_
                                refine lv_icmp_ne (tgt := 77) hx hb dX11_factor_70 (by decide) (fun c_265 => ?_) (fun c_265 => ?_)
                                · skip
                                  have c_265 := ni_ne c_265 rfl li_6
                                  exfalso; omega
                                · skip
                                  have c_265 := ni_eq c_265 rfl li_6
                                  refine lv_iconst (v := (-1)) hx hb dX11_factor_73 (by decide) ?_
                                  refine lv_goto (tgt := 78) hx hb dX11_factor_74 (by decide) ?_
                                  have q_q267 := li_2
                                  have q_q268 := li_1
                                  have q_q269 := li_m1
                                  refine tcI (Tc := [(h0, ob 8 [.int h0f0, .int h0f1, .int h0f2, .int h0f3, .int h0f4, .int h0f5, .ref h1, .ref h2, .int h0f8, .int h0f9, .ref h3, .ref h4, .ref h5, .ref h6, .ref h7, .ref h8, .ref h9, .int h0f17, .int h0f18, .int h0f19, .ref h10, .ref h11, .ref h12, .ref h13, .int h0f24, .int h0f25, .ref h14, .ref h15, .ref h16, .ref h17, .int h0f30, .int h0f31, .ref h18, .ref h19, .ref h20, .ref h21]), (h4, aJ (k 1) 9 anJ), (h5, aJ (k 1) 9 anJ), (h7, aJ (k 1) 4 (zJ [2, 3]))]) (Tr := [(h1, aI (k 0) 36 anI)]) (as := [h0, h4, h5, h7]) (zcV (q0 := 1) (ci := 8) (As := [.int 2, .int 1, .int (-1)]) (rest := []) (Tc := [(h0, ob 8 [.int h0f0, .int h0f1, .int h0f2, .int h0f3, .int h0f4, .int h0f5, .ref h1, .ref h2, .int h0f8, .int h0f9, .ref h3, .ref h4, .ref h5, .ref h6, .ref h7, .ref h8, .ref h9, .int h0f17, .int h0f18, .int h0f19, .ref h10, .ref h11, .ref h12, .ref h13, .int h0f24, .int h0f25, .ref h14, .ref h15, .ref h16, .ref h17, .int h0f30, .int h0f31, .ref h18, .ref h19, .ref h20, .ref h21]), (h4, aJ (k 1) 9 anJ), (h5, aJ (k 1) 9 anJ), (h7, aJ (k 1) 4 (zJ [2, 3]))]) hx hb hml hown hU hK hT rfl rfl [1, 2, 3, 4] rfl (by decide) (cX11_takesOut_c755e l D k _ h0 h4 h5 h7 h1 h2 h3 h6 h8 h9 h10 h11 h12 h13 h14 h15 h16 h17 h18 h19 h20 h21 (2) (1) ((-1)) h0f0 h0f1 h0f2 h0f3 h0f4 h0f5 h0f8 h0f9 h0f17 h0f18 h0f19 h0f24 h0f25 h0f30 h0f31 (by have := li_2; omega) (by have := li_1; omega) (by have := li_m1; omega) (by omega) (by omega) (by omega) (by omega) (by omega) (by omega) (by omega) (by omega) (by omega) (by omega) (by omega) (by omega) (by omega)) w999 w996 w998 w41 w72 hdX11_takesOut ⟨rfl, rfl⟩ ⟨Nat.le_of_ble_eq_true rfl, Nat.le_of_ble_eq_true rfl⟩ rfl hl.1 (Nat.le_of_ble_eq_true rfl) dX11_factor_78 ⟨Nat.le_of_ble_eq_true rfl, Nat.le_of_ble_eq_true rfl⟩) hT hS hA [1, 2, 3, 4] [0] rfl rfl rfl (by decide) (by decide) (fun r266 H locs hB J hS => ?_)
                                  rcases hB with ⟨rfl, hT1⟩ | ⟨v270, v271, b_v271, c_272, c_273, c_274, c_275, c_276, c_277, rfl, hT1⟩
                                  · skip
                                    have hT := J _ hT1
                                    have hT : TP D A [(h1, aI (k 0) 36 anI), (h0, ob 8 [.int h0f0, .int h0f1, .int h0f2, .int h0f3, .int h0f4, .int h0f5, .ref h1, .ref h2, .int h0f8, .int h0f9, .ref h3, .ref h4, .ref h5, .ref h6, .ref h7, .ref h8, .ref h9, .int h0f17, .int h0f18, .int h0f19, .ref h10, .ref h11, .ref h12, .ref h13, .int h0f24, .int h0f25, .ref h14, .ref h15, .ref h16, .ref h17, .int h0f30, .int h0f31, .ref h18, .ref h19, .ref h20, .ref h21]), (h4, aJ (k 1) 9 anJ), (h5, aJ (k 1) 9 anJ), (h7, aJ (k 1) 4 anJ)] H := hT
                                    refine lv_if_eq (tgt := 90) hx hb dX11_factor_81 (by decide) (fun _ => ?_) (fun cc => absurd (by decide +kernel) cc)
                                    refine lv_iload_n hx hb dX11_factor_90 rfl (lv_at hl 0 rfl) ?_
                                    exact tz_retI (B := B_cX11_factor_03481 D k h0 h1 h4 h5 h7 h2 h3 h6 h8 h9 h10 h11 h12 h13 h14 h15 h16 h17 h18 h19 h20 h21 x1 x2 h0f0 h0f1 h0f2 h0f3 h0f4 h0f5 h0f8 h0f9 h0f17 h0f18 h0f19 h0f24 h0f25 h0f30 h0f31) (v := 2) hQ hx hb hr hlocks hS (Nat.le_of_ble_eq_true rfl) (Nat.le_of_ble_eq_true rfl) dX11_factor_91 (⟨(by have := li_2; omega), (hT.sub [1, 0, 2, 3, 4] (by decide) rfl)⟩)
                                  · skip
                                    have hT := J _ hT1
                                    have hT : TP D A [(h1, aI (k 0) 36 anI), (h0, ob 8 [.int h0f0, .int h0f1, .int h0f2, .int h0f3, .int h0f4, .int h0f5, .ref h1, .ref h2, .int h0f8, .int h0f9, .ref h3, .ref h4, .ref h5, .ref h6, .ref h7, .ref h8, .ref h9, .int h0f17, .int h0f18, .int h0f19, .ref h10, .ref h11, .ref h12, .ref h13, .int h0f24, .int h0f25, .ref h14, .ref h15, .ref h16, .ref h17, .int h0f30, .int h0f31, .ref h18, .ref h19, .ref h20, .ref h21]), (h4, aJ (k 1) 9 anJ), (h5, aJ (k 1) 9 anJ), (h7, aJ (k 1) 4 (zJ [1, 2, 3]))] H := hT
                                    exfalso; omega
                              · skip
                                have c_264 := ni_eq c_264 rfl li_3
                                exfalso; omega
                            · skip
                              have c_263 := ni_eq c_263 rfl li_1
                              exfalso; omega
                      · skip
                        have c_229 := ni_eq c_229 rfl li_3
                        exfalso; omega
                    · skip
                      have c_228 := ni_eq c_228 rfl li_1
                      exfalso; omega
                  · skip
                    have hT := J _ hT1
                    have hT : TP D A [(h1, aI (k 0) 36 anI), (h0, ob 8 [.int h0f0, .int h0f1, .int h0f2, .int h0f3, .int h0f4, .int h0f5, .ref h1, .ref h2, .int h0f8, .int h0f9, .ref h3, .ref h4, .ref h5, .ref h6, .ref h7, .ref h8, .ref h9, .int h0f17, .int h0f18, .int h0f19, .ref h10, .ref h11, .ref h12, .ref h13, .int h0f24, .int h0f25, .ref h14, .ref h15, .ref h16, .ref h17, .int h0f30, .int h0f31, .ref h18, .ref h19, .ref h20, .ref h21]), (h4, aJ (k 1) 9 anJ), (h5, aJ (k 1) 9 anJ), (h7, aJ (k 1) 4 (zJ [3]))] H := hT
                    refine lv_if_eq (tgt := 90) hx hb dX11_factor_81 (by decide) (fun cc => absurd cc (by decide +kernel)) (fun _ => ?_)
                    refine lv_iinc (v := 1) (lv' := [(3, .int 1), (4, .int 2), (0, .ref h0), (1, .int x1), (2, .int x2)]) hx hb dX11_factor_84 hl (k := 1) rfl (by decide) (by decide) rfl (fun ls hl => ?_)
                    refine lv_goto (tgt := 45) hx hb dX11_factor_87 (by decide) ?_
                    refine lv_aload_n hx hb dX11_factor_45 rfl (lv_at hl 2 rfl) ?_
                    refine lv_iload hx hb dX11_factor_46 (lv_at hl 1 rfl) ?_
                    refine lv_iload_n hx hb dX11_factor_48 rfl (lv_at hl 4 rfl) ?_
                    refine lv_iconst (v := 1) hx hb dX11_factor_49 (by decide) ?_
                    refine lv_icmp_ne (tgt := 57) hx hb dX11_factor_50 (by decide) (fun c_278 => ?_) (fun c_278 => ?_)
                    · skip
                      have c_278 := ni_ne c_278 rfl li_1
                      refine lv_iconst (v := 1) hx hb dX11_factor_57 (by decide) ?_
                      refine lv_iload_n hx hb dX11_factor_58 rfl (lv_at hl 4 rfl) ?_
                      refine lv_iconst (v := 3) hx hb dX11_factor_59 (by decide) ?_
                      refine lv_icmp_ne (tgt := 67) hx hb dX11_factor_60 (by decide) (fun c_279 => ?_) (fun c_279 => ?_)
                      · skip
                        have c_279 := ni_ne c_279 rfl li_3
                        refine lv_iload_n hx hb dX11_factor_67 rfl (lv_at hl 4 rfl) ?_
                        refine lv_bipush (v := 6) hx hb dX11_factor_68 (by decide) ?_
                        refine lv_icmp_ne (tgt := 77) hx hb dX11_factor_70 (by decide) (fun c_280 => ?_) (fun c_280 => ?_)
                        · skip
                          have c_280 := ni_ne c_280 rfl li_6
                          exfalso; omega
                        · skip
                          have c_280 := ni_eq c_280 rfl li_6
                          refine lv_iconst (v := (-1)) hx hb dX11_factor_73 (by decide) ?_
                          refine lv_goto (tgt := 78) hx hb dX11_factor_74 (by decide) ?_
                          have q_q282 := li_2
                          have q_q283 := li_1
                          have q_q284 := li_m1
                          refine tcI (Tc := [(h0, ob 8 [.int h0f0, .int h0f1, .int h0f2, .int h0f3, .int h0f4, .int h0f5, .ref h1, .ref h2, .int h0f8, .int h0f9, .ref h3, .ref h4, .ref h5, .ref h6, .ref h7, .ref h8, .ref h9, .int h0f17, .int h0f18, .int h0f19, .ref h10, .ref h11, .ref h12, .ref h13, .int h0f24, .int h0f25, .ref h14, .ref h15, .ref h16, .ref h17, .int h0f30, .int h0f31, .ref h18, .ref h19, .ref h20, .ref h21]), (h4, aJ (k 1) 9 anJ), (h5, aJ (k 1) 9 anJ), (h7, aJ (k 1) 4 (zJ [3]))]) (Tr := [(h1, aI (k 0) 36 anI)]) (as := [h0, h4, h5, h7]) (zcV (q0 := 1) (ci := 8) (As := [.int 2, .int 1, .int (-1)]) (rest := []) (Tc := [(h0, ob 8 [.int h0f0, .int h0f1, .int h0f2, .int h0f3, .int h0f4, .int h0f5, .ref h1, .ref h2, .int h0f8, .int h0f9, .ref h3, .ref h4, .ref h5, .ref h6, .ref h7, .ref h8, .ref h9, .int h0f17, .int h0f18, .int h0f19, .ref h10, .ref h11, .ref h12, .ref h13, .int h0f24, .int h0f25, .ref h14, .ref h15, .ref h16, .ref h17, .int h0f30, .int h0f31, .ref h18, .ref h19, .ref h20, .ref h21]), (h4, aJ (k 1) 9 anJ), (h5, aJ (k 1) 9 anJ), (h7, aJ (k 1) 4 (zJ [3]))]) hx hb hml hown hU hK hT rfl rfl [1, 2, 3, 4] rfl (by decide) (cX11_takesOut_75942 l D k _ h0 h4 h5 h7 h1 h2 h3 h6 h8 h9 h10 h11 h12 h13 h14 h15 h16 h17 h18 h19 h20 h21 (2) (1) ((-1)) h0f0 h0f1 h0f2 h0f3 h0f4 h0f5 h0f8 h0f9 h0f17 h0f18 h0f19 h0f24 h0f25 h0f30 h0f31 (by have := li_2; omega) (by have := li_1; omega) (by have := li_m1; omega) (by omega) (by omega) (by omega) (by omega) (by omega) (by omega) (by omega) (by omega) (by omega) (by omega) (by omega) (by omega) (by omega)) w999 w996 w998 w41 w72 hdX11_takesOut ⟨rfl, rfl⟩ ⟨Nat.le_of_ble_eq_true rfl, Nat.le_of_ble_eq_true rfl⟩ rfl hl.1 (Nat.le_of_ble_eq_true rfl) dX11_factor_78 ⟨Nat.le_of_ble_eq_true rfl, Nat.le_of_ble_eq_true rfl⟩) hT hS hA [1, 2, 3, 4] [0] rfl rfl rfl (by decide) (by decide) (fun r281 H locs hB J hS => ?_)
                          rcases hB with ⟨rfl, hT1⟩ | ⟨v285, v286, b_v286, c_287, c_288, c_289, c_290, c_291, c_292, c_293, rfl, hT1⟩ | ⟨v294, v295, v296, b_v294, b_v296, c_297, c_298, c_299, c_300, c_301, c_302, c_303, rfl, hT1⟩ | ⟨v304, v305, v306, b_v305, b_v306, c_307, c_308, c_309, c_310, c_311, c_312, rfl, hT1⟩
                          · skip
                            have hT := J _ hT1
                            have hT : TP D A [(h1, aI (k 0) 36 anI), (h0, ob 8 [.int h0f0, .int h0f1, .int h0f2, .int h0f3, .int h0f4, .int h0f5, .ref h1, .ref h2, .int h0f8, .int h0f9, .ref h3, .ref h4, .ref h5, .ref h6, .ref h7, .ref h8, .ref h9, .int h0f17, .int h0f18, .int h0f19, .ref h10, .ref h11, .ref h12, .ref h13, .int h0f24, .int h0f25, .ref h14, .ref h15, .ref h16, .ref h17, .int h0f30, .int h0f31, .ref h18, .ref h19, .ref h20, .ref h21]), (h4, aJ (k 1) 9 anJ), (h5, aJ (k 1) 9 anJ), (h7, aJ (k 1) 4 anJ)] H := hT
                            refine lv_if_eq (tgt := 90) hx hb dX11_factor_81 (by decide) (fun _ => ?_) (fun cc => absurd (by decide +kernel) cc)
                            refine lv_iload_n hx hb dX11_factor_90 rfl (lv_at hl 0 rfl) ?_
                            exact tz_retI (B := B_cX11_factor_03481 D k h0 h1 h4 h5 h7 h2 h3 h6 h8 h9 h10 h11 h12 h13 h14 h15 h16 h17 h18 h19 h20 h21 x1 x2 h0f0 h0f1 h0f2 h0f3 h0f4 h0f5 h0f8 h0f9 h0f17 h0f18 h0f19 h0f24 h0f25 h0f30 h0f31) (v := 1) hQ hx hb hr hlocks hS (Nat.le_of_ble_eq_true rfl) (Nat.le_of_ble_eq_true rfl) dX11_factor_91 (⟨(by have := li_1; omega), (hT.sub [1, 0, 2, 3, 4] (by decide) rfl)⟩)
                          · skip
                            have hT := J _ hT1
                            have hT : TP D A [(h1, aI (k 0) 36 anI), (h0, ob 8 [.int h0f0, .int h0f1, .int h0f2, .int h0f3, .int h0f4, .int h0f5, .ref h1, .ref h2, .int h0f8, .int h0f9, .ref h3, .ref h4, .ref h5, .ref h6, .ref h7, .ref h8, .ref h9, .int h0f17, .int h0f18, .int h0f19, .ref h10, .ref h11, .ref h12, .ref h13, .int h0f24, .int h0f25, .ref h14, .ref h15, .ref h16, .ref h17, .int h0f30, .int h0f31, .ref h18, .ref h19, .ref h20, .ref h21]), (h4, aJ (k 1) 9 anJ), (h5, aJ (k 1) 9 anJ), (h7, aJ (k 1) 4 (zJ [2, 3]))] H := hT
                            exfalso; omega
                          · skip
                            have hT := J _ hT1
                            have hT : TP D A [(h1, aI (k 0) 36 anI), (h0, ob 8 [.int h0f0, .int h0f1, .int h0f2, .int h0f3, .int h0f4, .int h0f5, .ref h1, .ref h2, .int h0f8, .int h0f9, .ref h3, .ref h4, .ref h5, .ref h6, .ref h7, .ref h8, .ref h9, .int h0f17, .int h0f18, .int h0f19, .ref h10, .ref h11, .ref h12, .ref h13, .int h0f24, .int h0f25, .ref h14, .ref h15, .ref h16, .ref h17, .int h0f30, .int h0f31, .ref h18, .ref h19, .ref h20, .ref h21]), (h4, aJ (k 1) 9 anJ), (h5, aJ (k 1) 9 anJ), (h7, aJ (k 1) 4 (zJ [2, 3]))] H := hT
                            exfalso; omega
                          · skip
                            have hT := J _ hT1
                            have hT : TP D A [(h1, aI (k 0) 36 anI), (h0, ob 8 [.int h0f0, .int h0f1, .int h0f2, .int h0f3, .int h0f4, .int h0f5, .ref h1, .ref h2, .int h0f8, .int h0f9, .ref h3, .ref h4, .ref h5, .ref h6, .ref h7, .ref h8, .ref h9, .int h0f17, .int h0f18, .int h0f19, .ref h10, .ref h11, .ref h12, .ref h13, .int h0f24, .int h0f25, .ref h14, .ref h15, .ref h16, .ref h17, .int h0f30, .int h0f31, .ref h18, .ref h19, .ref h20, .ref h21]), (h4, aJ (k 1) 9 anJ), (h5, aJ (k 1) 9 anJ), (h7, aJ (k 1) 4 (zJ [2, 3]))] H := hT
                            refine lv_if_eq (tgt := 90) hx hb dX11_factor_81 (by decide) (fun cc => absurd cc (by decide +kernel)) (fun _ => ?_)
                            refine lv_iinc (v := 2) (lv' := [(3, .int 2), (4, .int 2), (0, .ref h0), (1, .int x1), (2, .int x2)]) hx hb dX11_factor_84 hl (k := 0) rfl (by decide) (by decide) rfl (fun ls hl => ?_)
                            refine lv_goto (tgt := 45) hx hb dX11_factor_87 (by decide) ?_
                            refine lv_aload_n hx hb dX11_factor_45 rfl (lv_at hl 2 rfl) ?_
                            refine lv_iload hx hb dX11_factor_46 (lv_at hl 1 rfl) ?_
                            refine lv_iload_n hx hb dX11_factor_48 rfl (lv_at hl 4 rfl) ?_
                            refine lv_iconst (v := 1) hx hb dX11_factor_49 (by decide) ?_
                            refine lv_icmp_ne (tgt := 57) hx hb dX11_factor_50 (by decide) (fun c_313 => ?_) (fun c_313 => ?_)
                            · skip
                              have c_313 := ni_ne c_313 rfl li_1
                              refine lv_iconst (v := 1) hx hb dX11_factor_57 (by decide) ?_
                              refine lv_iload_n hx hb dX11_factor_58 rfl (lv_at hl 4 rfl) ?_
                              refine lv_iconst (v := 3) hx hb dX11_factor_59 (by decide) ?_
                              refine lv_icmp_ne (tgt := 67) hx hb dX11_factor_60 (by decide) (fun c_314 => ?_) (fun c_314 => ?_)
                              · skip
                                have c_314 := ni_ne c_314 rfl li_3
                                refine lv_iload_n hx hb dX11_factor_67 rfl (lv_at hl 4 rfl) ?_
                                refine lv_bipush (v := 6) hx hb dX11_factor_68 (by decide) ?_
                                refine lv_icmp_ne (tgt := 77) hx hb dX11_factor_70 (by decide) (fun c_315 => ?_) (fun c_315 => ?_)
                                · skip
                                  have c_315 := ni_ne c_315 rfl li_6
                                  exfalso; omega
                                · skip
                                  have c_315 := ni_eq c_315 rfl li_6
                                  refine lv_iconst (v := (-1)) hx hb dX11_factor_73 (by decide) ?_
                                  refine lv_goto (tgt := 78) hx hb dX11_factor_74 (by decide) ?_
                                  have q_q317 := li_2
                                  have q_q318 := li_1
                                  have q_q319 := li_m1
                                  refine tcI (Tc := [(h0, ob 8 [.int h0f0, .int h0f1, .int h0f2, .int h0f3, .int h0f4, .int h0f5, .ref h1, .ref h2, .int h0f8, .int h0f9, .ref h3, .ref h4, .ref h5, .ref h6, .ref h7, .ref h8, .ref h9, .int h0f17, .int h0f18, .int h0f19, .ref h10, .ref h11, .ref h12, .ref h13, .int h0f24, .int h0f25, .ref h14, .ref h15, .ref h16, .ref h17, .int h0f30, .int h0f31, .ref h18, .ref h19, .ref h20, .ref h21]), (h4, aJ (k 1) 9 anJ), (h5, aJ (k 1) 9 anJ), (h7, aJ (k 1) 4 (zJ [2, 3]))]) (Tr := [(h1, aI (k 0) 36 anI)]) (as := [h0, h4, h5, h7]) (zcV (q0 := 1) (ci := 8) (As := [.int 2, .int 1, .int (-1)]) (rest := []) (Tc := [(h0, ob 8 [.int h0f0, .int h0f1, .int h0f2, .int h0f3, .int h0f4, .int h0f5, .ref h1, .ref h2, .int h0f8, .int h0f9, .ref h3, .ref h4, .ref h5, .ref h6, .ref h7, .ref h8, .ref h9, .int h0f17, .int h0f18, .int h0f19, .ref h10, .ref h11, .ref h12, .ref h13, .int h0f24, .int h0f25, .ref h14, .ref h15, .ref h16, .ref h17, .int h0f30, .int h0f31, .ref h18, .ref h19, .ref h20, .ref h21]), (h4, aJ (k 1) 9 anJ), (h5, aJ (k 1) 9 anJ), (h7, aJ (k 1) 4 (zJ [2, 3]))]) hx hb hml hown hU hK hT rfl rfl [1, 2, 3, 4] rfl (by decide) (cX11_takesOut_c755e l D k _ h0 h4 h5 h7 h1 h2 h3 h6 h8 h9 h10 h11 h12 h13 h14 h15 h16 h17 h18 h19 h20 h21 (2) (1) ((-1)) h0f0 h0f1 h0f2 h0f3 h0f4 h0f5 h0f8 h0f9 h0f17 h0f18 h0f19 h0f24 h0f25 h0f30 h0f31 (by have := li_2; omega) (by have := li_1; omega) (by have := li_m1; omega) (by omega) (by omega) (by omega) (by omega) (by omega) (by omega) (by omega) (by omega) (by omega) (by omega) (by omega) (by omega) (by omega)) w999 w996 w998 w41 w72 hdX11_takesOut ⟨rfl, rfl⟩ ⟨Nat.le_of_ble_eq_true rfl, Nat.le_of_ble_eq_true rfl⟩ rfl hl.1 (Nat.le_of_ble_eq_true rfl) dX11_factor_78 ⟨Nat.le_of_ble_eq_true rfl, Nat.le_of_ble_eq_true rfl⟩) hT hS hA [1, 2, 3, 4] [0] rfl rfl rfl (by decide) (by decide) (fun r316 H locs hB J hS => ?_)
                                  rcases hB with ⟨rfl, hT1⟩ | ⟨v320, v321, b_v321, c_322, c_323, c_324, c_325, c_326, c_327, rfl, hT1⟩
                                  · skip
                                    have hT := J _ hT1
                                    have hT : TP D A [(h1, aI (k 0) 36 anI), (h0, ob 8 [.int h0f0, .int h0f1, .int h0f2, .int h0f3, .int h0f4, .int h0f5, .ref h1, .ref h2, .int h0f8, .int h0f9, .ref h3, .ref h4, .ref h5, .ref h6, .ref h7, .ref h8, .ref h9, .int h0f17, .int h0f18, .int h0f19, .ref h10, .ref h11, .ref h12, .ref h13, .int h0f24, .int h0f25, .ref h14, .ref h15, .ref h16, .ref h17, .int h0f30, .int h0f31, .ref h18, .ref h19, .ref h20, .ref h21]), (h4, aJ (k 1) 9 anJ), (h5, aJ (k 1) 9 anJ), (h7, aJ (k 1) 4 anJ)] H := hT
                                    refine lv_if_eq (tgt := 90) hx hb dX11_factor_81 (by decide) (fun _ => ?_) (fun cc => absurd (by decide +kernel) cc)
                                    refine lv_iload_n hx hb dX11_factor_90 rfl (lv_at hl 0 rfl) ?_
                                    exact tz_retI (B := B_cX11_factor_03481 D k h0 h1 h4 h5 h7 h2 h3 h6 h8 h9 h10 h11 h12 h13 h14 h15 h16 h17 h18 h19 h20 h21 x1 x2 h0f0 h0f1 h0f2 h0f3 h0f4 h0f5 h0f8 h0f9 h0f17 h0f18 h0f19 h0f24 h0f25 h0f30 h0f31) (v := 2) hQ hx hb hr hlocks hS (Nat.le_of_ble_eq_true rfl) (Nat.le_of_ble_eq_true rfl) dX11_factor_91 (⟨(by have := li_2; omega), (hT.sub [1, 0, 2, 3, 4] (by decide) rfl)⟩)
                                  · skip
                                    have hT := J _ hT1
                                    have hT : TP D A [(h1, aI (k 0) 36 anI), (h0, ob 8 [.int h0f0, .int h0f1, .int h0f2, .int h0f3, .int h0f4, .int h0f5, .ref h1, .ref h2, .int h0f8, .int h0f9, .ref h3, .ref h4, .ref h5, .ref h6, .ref h7, .ref h8, .ref h9, .int h0f17, .int h0f18, .int h0f19, .ref h10, .ref h11, .ref h12, .ref h13, .int h0f24, .int h0f25, .ref h14, .ref h15, .ref h16, .ref h17, .int h0f30, .int h0f31, .ref h18, .ref h19, .ref h20, .ref h21]), (h4, aJ (k 1) 9 anJ), (h5, aJ (k 1) 9 anJ), (h7, aJ (k 1) 4 (zJ [1, 2, 3]))] H := hT
                                    exfalso; omega
                              · skip
                                have c_314 := ni_eq c_314 rfl li_3
                                exfalso; omega
                            · skip
                              have c_313 := ni_eq c_313 rfl li_1
                              exfalso; omega
                      · skip
                        have c_279 := ni_eq c_279 rfl li_3
                        exfalso; omega
                    · skip
                      have c_278 := ni_eq c_278 rfl li_1
                      exfalso; omega
              · skip
                have c_10 := ni_eq c_10 rfl li_3
                refine lv_iconst (v := 1) hx hb dX11_factor_63 (by decide) ?_
                refine lv_goto (tgt := 78) hx hb dX11_factor_64 (by decide) ?_
                have q_q329 := li_2
                have q_q330 := li_1
                have q_q331 := li_1
                refine tcI (Tc := [(h0, ob 8 [.int h0f0, .int h0f1, .int h0f2, .int h0f3, .int h0f4, .int h0f5, .ref h1, .ref h2, .int h0f8, .int h0f9, .ref h3, .ref h4, .ref h5, .ref h6, .ref h7, .ref h8, .ref h9, .int h0f17, .int h0f18, .int h0f19, .ref h10, .ref h11, .ref h12, .ref h13, .int h0f24, .int h0f25, .ref h14, .ref h15, .ref h16, .ref h17, .int h0f30, .int h0f31, .ref h18, .ref h19, .ref h20, .ref h21]), (h4, aJ (k 1) 9 anJ), (h5, aJ (k 1) 9 anJ), (h7, aJ (k 1) 4 anJ)]) (Tr := [(h1, aI (k 0) 36 anI)]) (as := [h0, h4, h5, h7]) (zcV (q0 := 1) (ci := 8) (As := [.int 2, .int 1, .int 1]) (rest := []) (Tc := [(h0, ob 8 [.int h0f0, .int h0f1, .int h0f2, .int h0f3, .int h0f4, .int h0f5, .ref h1, .ref h2, .int h0f8, .int h0f9, .ref h3, .ref h4, .ref h5, .ref h6, .ref h7, .ref h8, .ref h9, .int h0f17, .int h0f18, .int h0f19, .ref h10, .ref h11, .ref h12, .ref h13, .int h0f24, .int h0f25, .ref h14, .ref h15, .ref h16, .ref h17, .int h0f30, .int h0f31, .ref h18, .ref h19, .ref h20, .ref h21]), (h4, aJ (k 1) 9 anJ), (h5, aJ (k 1) 9 anJ), (h7, aJ (k 1) 4 anJ)]) hx hb hml hown hU hK hT rfl rfl [1, 3, 0, 4] rfl (by decide) (cX11_takesOut_0c94b l D k _ h0 h4 h5 h7 h1 h2 h3 h6 h8 h9 h10 h11 h12 h13 h14 h15 h16 h17 h18 h19 h20 h21 (2) (1) (1) h0f0 h0f1 h0f2 h0f3 h0f4 h0f5 h0f8 h0f9 h0f17 h0f18 h0f19 h0f24 h0f25 h0f30 h0f31 (by have := li_2; omega) (by have := li_1; omega) (by have := li_1; omega) (by omega) (by omega) (by omega) (by omega) (by omega) (by omega) (by omega) (by omega) (by omega) (by omega) (by omega) (by omega) (by omega)) w999 w996 w998 w41 w72 hdX11_takesOut ⟨rfl, rfl⟩ ⟨Nat.le_of_ble_eq_true rfl, Nat.le_of_ble_eq_true rfl⟩ rfl hl.1 (Nat.le_of_ble_eq_true rfl) dX11_factor_78 ⟨Nat.le_of_ble_eq_true rfl, Nat.le_of_ble_eq_true rfl⟩) hT hS hA [1, 3, 0, 4] [2] rfl rfl rfl (by decide) (by decide) (fun r328 H locs hB J hS => ?_)
                rcases hB with ⟨rfl, hT1⟩ | ⟨v332, v333, b_v333, c_334, c_335, c_336, c_337, c_338, c_339, c_340, c_341, rfl, hT1⟩ | ⟨v342, v343, v344, b_v342, b_v344, c_345, c_346, c_347, c_348, c_349, c_350, c_351, c_352, rfl, hT1⟩ | ⟨v353, v354, v355, v356, b_v353, b_v354, b_v356, c_357, c_358, c_359, c_360, c_361, c_362, c_363, c_364, rfl, hT1⟩ | ⟨v365, v366, v367, b_v366, b_v367, c_368, c_369, c_370, c_371, c_372, c_373, c_374, rfl, hT1⟩ | ⟨v375, v376, v377, v378, b_v375, b_v377, b_v378, c_379, c_380, c_381, c_382, c_383, c_384, c_385, rfl, hT1⟩
                · skip
                  have hT := J _ hT1
                  have hT : TP D A [(h1, aI (k 0) 36 anI), (h0, ob 8 [.int h0f0, .int h0f1, .int h0f2, .int h0f3, .int h0f4, .int h0f5, .ref h1, .ref h2, .int h0f8, .int h0f9, .ref h3, .ref h4, .ref h5, .ref h6, .ref h7, .ref h8, .ref h9, .int h0f17, .int h0f18, .int h0f19, .ref h10, .ref h11, .ref h12, .ref h13, .int h0f24, .int h0f25, .ref h14, .ref h15, .ref h16, .ref h17, .int h0f30, .int h0f31, .ref h18, .ref h19, .ref h20, .ref h21]), (h4, aJ (k 1) 9 anJ), (h5, aJ (k 1) 9 anJ), (h7, aJ (k 1) 4 anJ)] H := hT
                  refine lv_if_eq (tgt := 90) hx hb dX11_factor_81 (by decide) (fun _ => ?_) (fun cc => absurd (by decide +kernel) cc)
                  refine lv_iload_n hx hb dX11_factor_90 rfl (lv_at hl 1 rfl) ?_
                  exact tz_retI (B := B_cX11_factor_03481 D k h0 h1 h4 h5 h7 h2 h3 h6 h8 h9 h10 h11 h12 h13 h14 h15 h16 h17 h18 h19 h20 h21 x1 x2 h0f0 h0f1 h0f2 h0f3 h0f4 h0f5 h0f8 h0f9 h0f17 h0f18 h0f19 h0f24 h0f25 h0f30 h0f31) (v := 0) hQ hx hb hr hlocks hS (Nat.le_of_ble_eq_true rfl) (Nat.le_of_ble_eq_true rfl) dX11_factor_91 (⟨(by have := li_0; omega), (hT.sub [1, 0, 2, 3, 4] (by decide) rfl)⟩)
                · skip
                  have hT := J _ hT1
                  have hT : TP D A [(h1, aI (k 0) 36 anI), (h0, ob 8 [.int h0f0, .int h0f1, .int h0f2, .int h0f3, .int h0f4, .int h0f5, .ref h1, .ref h2, .int h0f8, .int h0f9, .ref h3, .ref h4, .ref h5, .ref h6, .ref h7, .ref h8, .ref h9, .int h0f17, .int h0f18, .int h0f19, .ref h10, .ref h11, .ref h12, .ref h13, .int h0f24, .int h0f25, .ref h14, .ref h15, .ref h16, .ref h17, .int h0f30, .int h0f31, .ref h18, .ref h19, .ref h20, .ref h21]), (h4, aJ (k 1) 9 anJ), (h5, aJ (k 1) 9 anJ), (h7, aJ (k 1) 4 (zJ [3]))] H := hT
                  exfalso; omega
                · skip
                  have hT := J _ hT1
                  have hT : TP D A [(h1, aI (k 0) 36 anI), (h0, ob 8 [.int h0f0, .int h0f1, .int h0f2, .int h0f3, .int h0f4, .int h0f5, .ref h1, .ref h2, .int h0f8, .int h0f9, .ref h3, .ref h4, .ref h5, .ref h6, .ref h7, .ref h8, .ref h9, .int h0f17, .int h0f18, .int h0f19, .ref h10, .ref h11, .ref h12, .ref h13, .int h0f24, .int h0f25, .ref h14, .ref h15, .ref h16, .ref h17, .int h0f30, .int h0f31, .ref h18, .ref h19, .ref h20, .ref h21]), (h4, aJ (k 1) 9 anJ), (h5, aJ (k 1) 9 anJ), (h7, aJ (k 1) 4 (zJ [3]))] H := hT
                  exfalso; omega
                · skip
                  have hT := J _ hT1
                  have hT : TP D A [(h1, aI (k 0) 36 anI), (h0, ob 8 [.int h0f0, .int h0f1, .int h0f2, .int h0f3, .int h0f4, .int h0f5, .ref h1, .ref h2, .int h0f8, .int h0f9, .ref h3, .ref h4, .ref h5, .ref h6, .ref h7, .ref h8, .ref h9, .int h0f17, .int h0f18, .int h0f19, .ref h10, .ref h11, .ref h12, .ref h13, .int h0f24, .int h0f25, .ref h14, .ref h15, .ref h16, .ref h17, .int h0f30, .int h0f31, .ref h18, .ref h19, .ref h20, .ref h21]), (h4, aJ (k 1) 9 anJ), (h5, aJ (k 1) 9 anJ), (h7, aJ (k 1) 4 (zJ [3]))] H := hT
                  exfalso; omega
                · skip
                  have hT := J _ hT1
                  have hT : TP D A [(h1, aI (k 0) 36 anI), (h0, ob 8 [.int h0f0, .int h0f1, .int h0f2, .int h0f3, .int h0f4, .int h0f5, .ref h1, .ref h2, .int h0f8, .int h0f9, .ref h3, .ref h4, .ref h5, .ref h6, .ref h7, .ref h8, .ref h9, .int h0f17, .int h0f18, .int h0f19, .ref h10, .ref h11, .ref h12, .ref h13, .int h0f24, .int h0f25, .ref h14, .ref h15, .ref h16, .ref h17, .int h0f30, .int h0f31, .ref h18, .ref h19, .ref h20, .ref h21]), (h4, aJ (k 1) 9 anJ), (h5, aJ (k 1) 9 anJ), (h7, aJ (k 1) 4 (zJ [3]))] H := hT
                  refine lv_if_eq (tgt := 90) hx hb dX11_factor_81 (by decide) (fun cc => absurd cc (by decide +kernel)) (fun _ => ?_)
                  refine lv_iinc (v := 1) (lv' := [(3, .int 1), (4, .int 2), (0, .ref h0), (1, .int x1), (2, .int x2)]) hx hb dX11_factor_84 hl (k := 1) rfl (by decide) (by decide) rfl (fun ls hl => ?_)
                  refine lv_goto (tgt := 45) hx hb dX11_factor_87 (by decide) ?_
                  refine lv_aload_n hx hb dX11_factor_45 rfl (lv_at hl 2 rfl) ?_
                  refine lv_iload hx hb dX11_factor_46 (lv_at hl 1 rfl) ?_
                  refine lv_iload_n hx hb dX11_factor_48 rfl (lv_at hl 4 rfl) ?_
                  refine lv_iconst (v := 1) hx hb dX11_factor_49 (by decide) ?_
                  refine lv_icmp_ne (tgt := 57) hx hb dX11_factor_50 (by decide) (fun c_386 => ?_) (fun c_386 => ?_)
                  · skip
                    have c_386 := ni_ne c_386 rfl li_1
                    refine lv_iconst (v := 1) hx hb dX11_factor_57 (by decide) ?_
                    refine lv_iload_n hx hb dX11_factor_58 rfl (lv_at hl 4 rfl) ?_
                    refine lv_iconst (v := 3) hx hb dX11_factor_59 (by decide) ?_
                    refine lv_icmp_ne (tgt := 67) hx hb dX11_factor_60 (by decide) (fun c_387 => ?_) (fun c_387 => ?_)
                    · skip
                      have c_387 := ni_ne c_387 rfl li_3
                      exfalso; omega
                    · skip
                      have c_387 := ni_eq c_387 rfl li_3
                      refine lv_iconst (v := 1) hx hb dX11_factor_63 (by decide) ?_
                      refine lv_goto (tgt := 78) hx hb dX11_factor_64 (by decide) ?_
                      have q_q389 := li_2
                      have q_q390 := li_1
                      have q_q391 := li_1
                      refine tcI (Tc := [(h0, ob 8 [.int h0f0, .int h0f1, .int h0f2, .int h0f3, .int h0f4, .int h0f5, .ref h1, .ref h2, .int h0f8, .int h0f9, .ref h3, .ref h4, .ref h5, .ref h6, .ref h7, .ref h8, .ref h9, .int h0f17, .int h0f18, .int h0f19, .ref h10, .ref h11, .ref h12, .ref h13, .int h0f24, .int h0f25, .ref h14, .ref h15, .ref h16, .ref h17, .int h0f30, .int h0f31, .ref h18, .ref h19, .ref h20, .ref h21]), (h4, aJ (k 1) 9 anJ), (h5, aJ (k 1) 9 anJ), (h7, aJ (k 1) 4 (zJ [3]))]) (Tr := [(h1, aI (k 0) 36 anI)]) (as := [h0, h4, h5, h7]) (zcV (q0 := 1) (ci := 8) (As := [.int 2, .int 1, .int 1]) (rest := []) (Tc := [(h0, ob 8 [.int h0f0, .int h0f1, .int h0f2, .int h0f3, .int h0f4, .int h0f5, .ref h1, .ref h2, .int h0f8, .int h0f9, .ref h3, .ref h4, .ref h5, .ref h6, .ref h7, .ref h8, .ref h9, .int h0f17, .int h0f18, .int h0f19, .ref h10, .ref h11, .ref h12, .ref h13, .int h0f24, .int h0f25, .ref h14, .ref h15, .ref h16, .ref h17, .int h0f30, .int h0f31, .ref h18, .ref h19, .ref h20, .ref h21]), (h4, aJ (k 1) 9 anJ), (h5, aJ (k 1) 9 anJ), (h7, aJ (k 1) 4 (zJ [3]))]) hx hb hml hown hU hK hT rfl rfl [1, 2, 3, 4] rfl (by decide) (cX11_takesOut_75942 l D k _ h0 h4 h5 h7 h1 h2 h3 h6 h8 h9 h10 h11 h12 h13 h14 h15 h16 h17 h18 h19 h20 h21 (2) (1) (1) h0f0 h0f1 h0f2 h0f3 h0f4 h0f5 h0f8 h0f9 h0f17 h0f18 h0f19 h0f24 h0f25 h0f30 h0f31 (by have := li_2; omega) (by have := li_1; omega) (by have := li_1; omega) (by omega) (by omega) (by omega) (by omega) (by omega) (by omega) (by omega) (by omega) (by omega) (by omega) (by omega) (by omega) (by omega)) w999 w996 w998 w41 w72 hdX11_takesOut ⟨rfl, rfl⟩ ⟨Nat.le_of_ble_eq_true rfl, Nat.le_of_ble_eq_true rfl⟩ rfl hl.1 (Nat.le_of_ble_eq_true rfl) dX11_factor_78 ⟨Nat.le_of_ble_eq_true rfl, Nat.le_of_ble_eq_true rfl⟩) hT hS hA [1, 2, 3, 4] [0] rfl rfl rfl (by decide) (by decide) (fun r388 H locs hB J hS => ?_)
                      rcases hB with ⟨rfl, hT1⟩ | ⟨v392, v393, b_v393, c_394, c_395, c_396, c_397, c_398, c_399, c_400, rfl, hT1⟩ | ⟨v401, v402, v403, b_v401, b_v403, c_404, c_405, c_406, c_407, c_408, c_409, c_410, rfl, hT1⟩ | ⟨v411, v412, v413, b_v412, b_v413, c_414, c_415, c_416, c_417, c_418, c_419, rfl, hT1⟩
                      · skip
                        have hT := J _ hT1
                        have hT : TP D A [(h1, aI (k 0) 36 anI), (h0, ob 8 [.int h0f0, .int h0f1, .int h0f2, .int h0f3, .int h0f4, .int h0f5, .ref h1, .ref h2, .int h0f8, .int h0f9, .ref h3, .ref h4, .ref h5, .ref h6, .ref h7, .ref h8, .ref h9, .int h0f17, .int h0f18, .int h0f19, .ref h10, .ref h11, .ref h12, .ref h13, .int h0f24, .int h0f25, .ref h14, .ref h15, .ref h16, .ref h17, .int h0f30, .int h0f31, .ref h18, .ref h19, .ref h20, .ref h21]), (h4, aJ (k 1) 9 anJ), (h5, aJ (k 1) 9 anJ), (h7, aJ (k 1) 4 anJ)] H := hT
                        refine lv_if_eq (tgt := 90) hx hb dX11_factor_81 (by decide) (fun _ => ?_) (fun cc => absurd (by decide +kernel) cc)
                        refine lv_iload_n hx hb dX11_factor_90 rfl (lv_at hl 0 rfl) ?_
                        exact tz_retI (B := B_cX11_factor_03481 D k h0 h1 h4 h5 h7 h2 h3 h6 h8 h9 h10 h11 h12 h13 h14 h15 h16 h17 h18 h19 h20 h21 x1 x2 h0f0 h0f1 h0f2 h0f3 h0f4 h0f5 h0f8 h0f9 h0f17 h0f18 h0f19 h0f24 h0f25 h0f30 h0f31) (v := 1) hQ hx hb hr hlocks hS (Nat.le_of_ble_eq_true rfl) (Nat.le_of_ble_eq_true rfl) dX11_factor_91 (⟨(by have := li_1; omega), (hT.sub [1, 0, 2, 3, 4] (by decide) rfl)⟩)
                      · skip
                        have hT := J _ hT1
                        have hT : TP D A [(h1, aI (k 0) 36 anI), (h0, ob 8 [.int h0f0, .int h0f1, .int h0f2, .int h0f3, .int h0f4, .int h0f5, .ref h1, .ref h2, .int h0f8, .int h0f9, .ref h3, .ref h4, .ref h5, .ref h6, .ref h7, .ref h8, .ref h9, .int h0f17, .int h0f18, .int h0f19, .ref h10, .ref h11, .ref h12, .ref h13, .int h0f24, .int h0f25, .ref h14, .ref h15, .ref h16, .ref h17, .int h0f30, .int h0f31, .ref h18, .ref h19, .ref h20, .ref h21]), (h4, aJ (k 1) 9 anJ), (h5, aJ (k 1) 9 anJ), (h7, aJ (k 1) 4 (zJ [2, 3]))] H := hT
                        exfalso; omega
                      · skip
                        have hT := J _ hT1
                        have hT : TP D A [(h1, aI (k 0) 36 anI), (h0, ob 8 [.int h0f0, .int h0f1, .int h0f2, .int h0f3, .int h0f4, .int h0f5, .ref h1, .ref h2, .int h0f8, .int h0f9, .ref h3, .ref h4, .ref h5, .ref h6, .ref h7, .ref h8, .ref h9, .int h0f17, .int h0f18, .int h0f19, .ref h10, .ref h11, .ref h12, .ref h13, .int h0f24, .int h0f25, .ref h14, .ref h15, .ref h16, .ref h17, .int h0f30, .int h0f31, .ref h18, .ref h19, .ref h20, .ref h21]), (h4, aJ (k 1) 9 anJ), (h5, aJ (k 1) 9 anJ), (h7, aJ (k 1) 4 (zJ [2, 3]))] H := hT
                        exfalso; omega
                      · skip
                        have hT := J _ hT1
                        have hT : TP D A [(h1, aI (k 0) 36 anI), (h0, ob 8 [.int h0f0, .int h0f1, .int h0f2, .int h0f3, .int h0f4, .int h0f5, .ref h1, .ref h2, .int h0f8, .int h0f9, .ref h3, .ref h4, .ref h5, .ref h6, .ref h7, .ref h8, .ref h9, .int h0f17, .int h0f18, .int h0f19, .ref h10, .ref h11, .ref h12, .ref h13, .int h0f24, .int h0f25, .ref h14, .ref h15, .ref h16, .ref h17, .int h0f30, .int h0f31, .ref h18, .ref h19, .ref h20, .ref h21]), (h4, aJ (k 1) 9 anJ), (h5, aJ (k 1) 9 anJ), (h7, aJ (k 1) 4 (zJ [2, 3]))] H := hT
                        refine lv_if_eq (tgt := 90) hx hb dX11_factor_81 (by decide) (fun cc => absurd cc (by decide +kernel)) (fun _ => ?_)
                        refine lv_iinc (v := 2) (lv' := [(3, .int 2), (4, .int 2), (0, .ref h0), (1, .int x1), (2, .int x2)]) hx hb dX11_factor_84 hl (k := 0) rfl (by decide) (by decide) rfl (fun ls hl => ?_)
                        refine lv_goto (tgt := 45) hx hb dX11_factor_87 (by decide) ?_
                        refine lv_aload_n hx hb dX11_factor_45 rfl (lv_at hl 2 rfl) ?_
                        refine lv_iload hx hb dX11_factor_46 (lv_at hl 1 rfl) ?_
                        refine lv_iload_n hx hb dX11_factor_48 rfl (lv_at hl 4 rfl) ?_
                        refine lv_iconst (v := 1) hx hb dX11_factor_49 (by decide) ?_
                        refine lv_icmp_ne (tgt := 57) hx hb dX11_factor_50 (by decide) (fun c_420 => ?_) (fun c_420 => ?_)
                        · skip
                          have c_420 := ni_ne c_420 rfl li_1
                          refine lv_iconst (v := 1) hx hb dX11_factor_57 (by decide) ?_
                          refine lv_iload_n hx hb dX11_factor_58 rfl (lv_at hl 4 rfl) ?_
                          refine lv_iconst (v := 3) hx hb dX11_factor_59 (by decide) ?_
                          refine lv_icmp_ne (tgt := 67) hx hb dX11_factor_60 (by decide) (fun c_421 => ?_) (fun c_421 => ?_)
                          · skip
                            have c_421 := ni_ne c_421 rfl li_3
                            exfalso; omega
                          · skip
                            have c_421 := ni_eq c_421 rfl li_3
                            refine lv_iconst (v := 1) hx hb dX11_factor_63 (by decide) ?_
                            refine lv_goto (tgt := 78) hx hb dX11_factor_64 (by decide) ?_
                            have q_q423 := li_2
                            have q_q424 := li_1
                            have q_q425 := li_1
                            refine tcI (Tc := [(h0, ob 8 [.int h0f0, .int h0f1, .int h0f2, .int h0f3, .int h0f4, .int h0f5, .ref h1, .ref h2, .int h0f8, .int h0f9, .ref h3, .ref h4, .ref h5, .ref h6, .ref h7, .ref h8, .ref h9, .int h0f17, .int h0f18, .int h0f19, .ref h10, .ref h11, .ref h12, .ref h13, .int h0f24, .int h0f25, .ref h14, .ref h15, .ref h16, .ref h17, .int h0f30, .int h0f31, .ref h18, .ref h19, .ref h20, .ref h21]), (h4, aJ (k 1) 9 anJ), (h5, aJ (k 1) 9 anJ), (h7, aJ (k 1) 4 (zJ [2, 3]))]) (Tr := [(h1, aI (k 0) 36 anI)]) (as := [h0, h4, h5, h7]) (zcV (q0 := 1) (ci := 8) (As := [.int 2, .int 1, .int 1]) (rest := []) (Tc := [(h0, ob 8 [.int h0f0, .int h0f1, .int h0f2, .int h0f3, .int h0f4, .int h0f5, .ref h1, .ref h2, .int h0f8, .int h0f9, .ref h3, .ref h4, .ref h5, .ref h6, .ref h7, .ref h8, .ref h9, .int h0f17, .int h0f18, .int h0f19, .ref h10, .ref h11, .ref h12, .ref h13, .int h0f24, .int h0f25, .ref h14, .ref h15, .ref h16, .ref h17, .int h0f30, .int h0f31, .ref h18, .ref h19, .ref h20, .ref h21]), (h4, aJ (k 1) 9 anJ), (h5, aJ (k 1) 9 anJ), (h7, aJ (k 1) 4 (zJ [2, 3]))]) hx hb hml hown hU hK hT rfl rfl [1, 2, 3, 4] rfl (by decide) (cX11_takesOut_c755e l D k _ h0 h4 h5 h7 h1 h2 h3 h6 h8 h9 h10 h11 h12 h13 h14 h15 h16 h17 h18 h19 h20 h21 (2) (1) (1) h0f0 h0f1 h0f2 h0f3 h0f4 h0f5 h0f8 h0f9 h0f17 h0f18 h0f19 h0f24 h0f25 h0f30 h0f31 (by have := li_2; omega) (by have := li_1; omega) (by have := li_1; omega) (by omega) (by omega) (by omega) (by omega) (by omega) (by omega) (by omega) (by omega) (by omega) (by omega) (by omega) (by omega) (by omega)) w999 w996 w998 w41 w72 hdX11_takesOut ⟨rfl, rfl⟩ ⟨Nat.le_of_ble_eq_true rfl, Nat.le_of_ble_eq_true rfl⟩ rfl hl.1 (Nat.le_of_ble_eq_true rfl) dX11_factor_78 ⟨Nat.le_of_ble_eq_true rfl, Nat.le_of_ble_eq_true rfl⟩) hT hS hA [1, 2, 3, 4] [0] rfl rfl rfl (by decide) (by decide) (fun r422 H locs hB J hS => ?_)
                            rcases hB with ⟨rfl, hT1⟩ | ⟨v426, v427, b_v427, c_428, c_429, c_430, c_431, c_432, c_433, rfl, hT1⟩
                            · skip
                              have hT := J _ hT1
                              have hT : TP D A [(h1, aI (k 0) 36 anI), (h0, ob 8 [.int h0f0, .int h0f1, .int h0f2, .int h0f3, .int h0f4, .int h0f5, .ref h1, .ref h2, .int h0f8, .int h0f9, .ref h3, .ref h4, .ref h5, .ref h6, .ref h7, .ref h8, .ref h9, .int h0f17, .int h0f18, .int h0f19, .ref h10, .ref h11, .ref h12, .ref h13, .int h0f24, .int h0f25, .ref h14, .ref h15, .ref h16, .ref h17, .int h0f30, .int h0f31, .ref h18, .ref h19, .ref h20, .ref h21]), (h4, aJ (k 1) 9 anJ), (h5, aJ (k 1) 9 anJ), (h7, aJ (k 1) 4 anJ)] H := hT
                              refine lv_if_eq (tgt := 90) hx hb dX11_factor_81 (by decide) (fun _ => ?_) (fun cc => absurd (by decide +kernel) cc)
                              refine lv_iload_n hx hb dX11_factor_90 rfl (lv_at hl 0 rfl) ?_
                              exact tz_retI (B := B_cX11_factor_03481 D k h0 h1 h4 h5 h7 h2 h3 h6 h8 h9 h10 h11 h12 h13 h14 h15 h16 h17 h18 h19 h20 h21 x1 x2 h0f0 h0f1 h0f2 h0f3 h0f4 h0f5 h0f8 h0f9 h0f17 h0f18 h0f19 h0f24 h0f25 h0f30 h0f31) (v := 2) hQ hx hb hr hlocks hS (Nat.le_of_ble_eq_true rfl) (Nat.le_of_ble_eq_true rfl) dX11_factor_91 (⟨(by have := li_2; omega), (hT.sub [1, 0, 2, 3, 4] (by decide) rfl)⟩)
                            · skip
                              have hT := J _ hT1
                              have hT : TP D A [(h1, aI (k 0) 36 anI), (h0, ob 8 [.int h0f0, .int h0f1, .int h0f2, .int h0f3, .int h0f4, .int h0f5, .ref h1, .ref h2, .int h0f8, .int h0f9, .ref h3, .ref h4, .ref h5, .ref h6, .ref h7, .ref h8, .ref h9, .int h0f17, .int h0f18, .int h0f19, .ref h10, .ref h11, .ref h12, .ref h13, .int h0f24, .int h0f25, .ref h14, .ref h15, .ref h16, .ref h17, .int h0f30, .int h0f31, .ref h18, .ref h19, .ref h20, .ref h21]), (h4, aJ (k 1) 9 anJ), (h5, aJ (k 1) 9 anJ), (h7, aJ (k 1) 4 (zJ [1, 2, 3]))] H := hT
                              exfalso; omega
                        · skip
                          have c_420 := ni_eq c_420 rfl li_1
                          exfalso; omega
                  · skip
                    have c_386 := ni_eq c_386 rfl li_1
                    exfalso; omega
                · skip
                  have hT := J _ hT1
                  have hT : TP D A [(h1, aI (k 0) 36 anI), (h0, ob 8 [.int h0f0, .int h0f1, .int h0f2, .int h0f3, .int h0f4, .int h0f5, .ref h1, .ref h2, .int h0f8, .int h0f9, .ref h3, .ref h4, .ref h5, .ref h6, .ref h7, .ref h8, .ref h9, .int h0f17, .int h0f18, .int h0f19, .ref h10, .ref h11, .ref h12, .ref h13, .int h0f24, .int h0f25, .ref h14, .ref h15, .ref h16, .ref h17, .int h0f30, .int h0f31, .ref h18, .ref h19, .ref h20, .ref h21]), (h4, aJ (k 1) 9 anJ), (h5, aJ (k 1) 9 anJ), (h7, aJ (k 1) 4 (zJ [3]))] H := hT
                  refine lv_if_eq (tgt := 90) hx hb dX11_factor_81 (by decide) (fun cc => absurd cc (by decide +kernel)) (fun _ => ?_)
                  refine lv_iinc (v := 1) (lv' := [(3, .int 1), (4, .int 2), (0, .ref h0), (1, .int x1), (2, .int x2)]) hx hb dX11_factor_84 hl (k := 1) rfl (by decide) (by decide) rfl (fun ls hl => ?_)
                  refine lv_goto (tgt := 45) hx hb dX11_factor_87 (by decide) ?_
                  refine lv_aload_n hx hb dX11_factor_45 rfl (lv_at hl 2 rfl) ?_
                  refine lv_iload hx hb dX11_factor_46 (lv_at hl 1 rfl) ?_
                  refine lv_iload_n hx hb dX11_factor_48 rfl (lv_at hl 4 rfl) ?_
                  refine lv_iconst (v := 1) hx hb dX11_factor_49 (by decide) ?_
                  refine lv_icmp_ne (tgt := 57) hx hb dX11_factor_50 (by decide) (fun c_434 => ?_) (fun c_434 => ?_)
                  · skip
                    have c_434 := ni_ne c_434 rfl li_1
                    refine lv_iconst (v := 1) hx hb dX11_factor_57 (by decide) ?_
                    refine lv_iload_n hx hb dX11_factor_58 rfl (lv_at hl 4 rfl) ?_
                    refine lv_iconst (v := 3) hx hb dX11_factor_59 (by decide) ?_
                    refine lv_icmp_ne (tgt := 67) hx hb dX11_factor_60 (by decide) (fun c_435 => ?_) (fun c_435 => ?_)
                    · skip
                      have c_435 := ni_ne c_435 rfl li_3
                      exfalso; omega
                    · skip
                      have c_435 := ni_eq c_435 rfl li_3
                      refine lv_iconst (v := 1) hx hb dX11_factor_63 (by decide) ?_
                      refine lv_goto (tgt := 78) hx hb dX11_factor_64 (by decide) ?_
                      have q_q437 := li_2
                      have q_q438 := li_1
                      have q_q439 := li_1
                      refine tcI (Tc := [(h0, ob 8 [.int h0f0, .int h0f1, .int h0f2, .int h0f3, .int h0f4, .int h0f5, .ref h1, .ref h2, .int h0f8, .int h0f9, .ref h3, .ref h4, .ref h5, .ref h6, .ref h7, .ref h8, .ref h9, .int h0f17, .int h0f18, .int h0f19, .ref h10, .ref h11, .ref h12, .ref h13, .int h0f24, .int h0f25, .ref h14, .ref h15, .ref h16, .ref h17, .int h0f30, .int h0f31, .ref h18, .ref h19, .ref h20, .ref h21]), (h4, aJ (k 1) 9 anJ), (h5, aJ (k 1) 9 anJ), (h7, aJ (k 1) 4 (zJ [3]))]) (Tr := [(h1, aI (k 0) 36 anI)]) (as := [h0, h4, h5, h7]) (zcV (q0 := 1) (ci := 8) (As := [.int 2, .int 1, .int 1]) (rest := []) (Tc := [(h0, ob 8 [.int h0f0, .int h0f1, .int h0f2, .int h0f3, .int h0f4, .int h0f5, .ref h1, .ref h2, .int h0f8, .int h0f9, .ref h3, .ref h4, .ref h5, .ref h6, .ref h7, .ref h8, .ref h9, .int h0f17, .int h0f18, .int h0f19, .ref h10, .ref h11, .ref h12, .ref h13, .int h0f24, .int h0f25, .ref h14, .ref h15, .ref h16, .ref h17, .int h0f30, .int h0f31, .ref h18, .ref h19, .ref h20, .ref h21]), (h4, aJ (k 1) 9 anJ), (h5, aJ (k 1) 9 anJ), (h7, aJ (k 1) 4 (zJ [3]))]) hx hb hml hown hU hK hT rfl rfl [1, 2, 3, 4] rfl (by decide) (cX11_takesOut_75942 l D k _ h0 h4 h5 h7 h1 h2 h3 h6 h8 h9 h10 h11 h12 h13 h14 h15 h16 h17 h18 h19 h20 h21 (2) (1) (1) h0f0 h0f1 h0f2 h0f3 h0f4 h0f5 h0f8 h0f9 h0f17 h0f18 h0f19 h0f24 h0f25 h0f30 h0f31 (by have := li_2; omega) (by have := li_1; omega) (by have := li_1; omega) (by omega) (by omega) (by omega) (by omega) (by omega) (by omega) (by omega) (by omega) (by omega) (by omega) (by omega) (by omega) (by omega)) w999 w996 w998 w41 w72 hdX11_takesOut ⟨rfl, rfl⟩ ⟨Nat.le_of_ble_eq_true rfl, Nat.le_of_ble_eq_true rfl⟩ rfl hl.1 (Nat.le_of_ble_eq_true rfl) dX11_factor_78 ⟨Nat.le_of_ble_eq_true rfl, Nat.le_of_ble_eq_true rfl⟩) hT hS hA [1, 2, 3, 4] [0] rfl rfl rfl (by decide) (by decide) (fun r436 H locs hB J hS => ?_)
                      rcases hB with ⟨rfl, hT1⟩ | ⟨v440, v441, b_v441, c_442, c_443, c_444, c_445, c_446, c_447, c_448, rfl, hT1⟩ | ⟨v449, v450, v451, b_v449, b_v451, c_452, c_453, c_454, c_455, c_456, c_457, c_458, rfl, hT1⟩ | ⟨v459, v460, v461, b_v460, b_v461, c_462, c_463, c_464, c_465, c_466, c_467, rfl, hT1⟩
                      · skip
                        have hT := J _ hT1
                        have hT : TP D A [(h1, aI (k 0) 36 anI), (h0, ob 8 [.int h0f0, .int h0f1, .int h0f2, .int h0f3, .int h0f4, .int h0f5, .ref h1, .ref h2, .int h0f8, .int h0f9, .ref h3, .ref h4, .ref h5, .ref h6, .ref h7, .ref h8, .ref h9, .int h0f17, .int h0f18, .int h0f19, .ref h10, .ref h11, .ref h12, .ref h13, .int h0f24, .int h0f25, .ref h14, .ref h15, .ref h16, .ref h17, .int h0f30, .int h0f31, .ref h18, .ref h19, .ref h20, .ref h21]), (h4, aJ (k 1) 9 anJ), (h5, aJ (k 1) 9 anJ), (h7, aJ (k 1) 4 anJ)] H := hT
                        refine lv_if_eq (tgt := 90) hx hb dX11_factor_81 (by decide) (fun _ => ?_) (fun cc => absurd (by decide +kernel) cc)
                        refine lv_iload_n hx hb dX11_factor_90 rfl (lv_at hl 0 rfl) ?_
                        exact tz_retI (B := B_cX11_factor_03481 D k h0 h1 h4 h5 h7 h2 h3 h6 h8 h9 h10 h11 h12 h13 h14 h15 h16 h17 h18 h19 h20 h21 x1 x2 h0f0 h0f1 h0f2 h0f3 h0f4 h0f5 h0f8 h0f9 h0f17 h0f18 h0f19 h0f24 h0f25 h0f30 h0f31) (v := 1) hQ hx hb hr hlocks hS (Nat.le_of_ble_eq_true rfl) (Nat.le_of_ble_eq_true rfl) dX11_factor_91 (⟨(by have := li_1; omega), (hT.sub [1, 0, 2, 3, 4] (by decide) rfl)⟩)
                      · skip
                        have hT := J _ hT1
                        have hT : TP D A [(h1, aI (k 0) 36 anI), (h0, ob 8 [.int h0f0, .int h0f1, .int h0f2, .int h0f3, .int h0f4, .int h0f5, .ref h1, .ref h2, .int h0f8, .int h0f9, .ref h3, .ref h4, .ref h5, .ref h6, .ref h7, .ref h8, .ref h9, .int h0f17, .int h0f18, .int h0f19, .ref h10, .ref h11, .ref h12, .ref h13, .int h0f24, .int h0f25, .ref h14, .ref h15, .ref h16, .ref h17, .int h0f30, .int h0f31, .ref h18, .ref h19, .ref h20, .ref h21]), (h4, aJ (k 1) 9 anJ), (h5, aJ (k 1) 9 anJ), (h7, aJ (k 1) 4 (zJ [2, 3]))] H := hT
                        exfalso; omega
                      · skip
                        have hT := J _ hT1
                        have hT : TP D A [(h1, aI (k 0) 36 anI), (h0, ob 8 [.int h0f0, .int h0f1, .int h0f2, .int h0f3, .int h0f4, .int h0f5, .ref h1, .ref h2, .int h0f8, .int h0f9, .ref h3, .ref h4, .ref h5, .ref h6, .ref h7, .ref h8, .ref h9, .int h0f17, .int h0f18, .int h0f19, .ref h10, .ref h11, .ref h12, .ref h13, .int h0f24, .int h0f25, .ref h14, .ref h15, .ref h16, .ref h17, .int h0f30, .int h0f31, .ref h18, .ref h19, .ref h20, .ref h21]), (h4, aJ (k 1) 9 anJ), (h5, aJ (k 1) 9 anJ), (h7, aJ (k 1) 4 (zJ [2, 3]))] H := hT
                        exfalso; omega
                      · skip
                        have hT := J _ hT1
                        have hT : TP D A [(h1, aI (k 0) 36 anI), (h0, ob 8 [.int h0f0, .int h0f1, .int h0f2, .int h0f3, .int h0f4, .int h0f5, .ref h1, .ref h2, .int h0f8, .int h0f9, .ref h3, .ref h4, .ref h5, .ref h6, .ref h7, .ref h8, .ref h9, .int h0f17, .int h0f18, .int h0f19, .ref h10, .ref h11, .ref h12, .ref h13, .int h0f24, .int h0f25, .ref h14, .ref h15, .ref h16, .ref h17, .int h0f30, .int h0f31, .ref h18, .ref h19, .ref h20, .ref h21]), (h4, aJ (k 1) 9 anJ), (h5, aJ (k 1) 9 anJ), (h7, aJ (k 1) 4 (zJ [2, 3]))] H := hT
                        refine lv_if_eq (tgt := 90) hx hb dX11_factor_81 (by decide) (fun cc => absurd cc (by decide +kernel)) (fun _ => ?_)
                        refine lv_iinc (v := 2) (lv' := [(3, .int 2), (4, .int 2), (0, .ref h0), (1, .int x1), (2, .int x2)]) hx hb dX11_factor_84 hl (k := 0) rfl (by decide) (by decide) rfl (fun ls hl => ?_)
                        refine lv_goto (tgt := 45) hx hb dX11_factor_87 (by decide) ?_
                        refine lv_aload_n hx hb dX11_factor_45 rfl (lv_at hl 2 rfl) ?_
                        refine lv_iload hx hb dX11_factor_46 (lv_at hl 1 rfl) ?_
                        refine lv_iload_n hx hb dX11_factor_48 rfl (lv_at hl 4 rfl) ?_
                        refine lv_iconst (v := 1) hx hb dX11_factor_49 (by decide) ?_
                        refine lv_icmp_ne (tgt := 57) hx hb dX11_factor_50 (by decide) (fun c_468 => ?_) (fun c_468 => ?_)
                        · skip
                          have c_468 := ni_ne c_468 rfl li_1
                          refine lv_iconst (v := 1) hx hb dX11_factor_57 (by decide) ?_
                          refine lv_iload_n hx hb dX11_factor_58 rfl (lv_at hl 4 rfl) ?_
                          refine lv_iconst (v := 3) hx hb dX11_factor_59 (by decide) ?_
                          refine lv_icmp_ne (tgt := 67) hx hb dX11_factor_60 (by decide) (fun c_469 => ?_) (fun c_469 => ?_)
                          · skip
                            have c_469 := ni_ne c_469 rfl li_3
                            exfalso; omega
                          · skip
                            have c_469 := ni_eq c_469 rfl li_3
                            refine lv_iconst (v := 1) hx hb dX11_factor_63 (by decide) ?_
                            refine lv_goto (tgt := 78) hx hb dX11_factor_64 (by decide) ?_
                            have q_q471 := li_2
                            have q_q472 := li_1
                            have q_q473 := li_1
                            refine tcI (Tc := [(h0, ob 8 [.int h0f0, .int h0f1, .int h0f2, .int h0f3, .int h0f4, .int h0f5, .ref h1, .ref h2, .int h0f8, .int h0f9, .ref h3, .ref h4, .ref h5, .ref h6, .ref h7, .ref h8, .ref h9, .int h0f17, .int h0f18, .int h0f19, .ref h10, .ref h11, .ref h12, .ref h13, .int h0f24, .int h0f25, .ref h14, .ref h15, .ref h16, .ref h17, .int h0f30, .int h0f31, .ref h18, .ref h19, .ref h20, .ref h21]), (h4, aJ (k 1) 9 anJ), (h5, aJ (k 1) 9 anJ), (h7, aJ (k 1) 4 (zJ [2, 3]))]) (Tr := [(h1, aI (k 0) 36 anI)]) (as := [h0, h4, h5, h7]) (zcV (q0 := 1) (ci := 8) (As := [.int 2, .int 1, .int 1]) (rest := []) (Tc := [(h0, ob 8 [.int h0f0, .int h0f1, .int h0f2, .int h0f3, .int h0f4, .int h0f5, .ref h1, .ref h2, .int h0f8, .int h0f9, .ref h3, .ref h4, .ref h5, .ref h6, .ref h7, .ref h8, .ref h9, .int h0f17, .int h0f18, .int h0f19, .ref h10, .ref h11, .ref h12, .ref h13, .int h0f24, .int h0f25, .ref h14, .ref h15, .ref h16, .ref h17, .int h0f30, .int h0f31, .ref h18, .ref h19, .ref h20, .ref h21]), (h4, aJ (k 1) 9 anJ), (h5, aJ (k 1) 9 anJ), (h7, aJ (k 1) 4 (zJ [2, 3]))]) hx hb hml hown hU hK hT rfl rfl [1, 2, 3, 4] rfl (by decide) (cX11_takesOut_c755e l D k _ h0 h4 h5 h7 h1 h2 h3 h6 h8 h9 h10 h11 h12 h13 h14 h15 h16 h17 h18 h19 h20 h21 (2) (1) (1) h0f0 h0f1 h0f2 h0f3 h0f4 h0f5 h0f8 h0f9 h0f17 h0f18 h0f19 h0f24 h0f25 h0f30 h0f31 (by have := li_2; omega) (by have := li_1; omega) (by have := li_1; omega) (by omega) (by omega) (by omega) (by omega) (by omega) (by omega) (by omega) (by omega) (by omega) (by omega) (by omega) (by omega) (by omega)) w999 w996 w998 w41 w72 hdX11_takesOut ⟨rfl, rfl⟩ ⟨Nat.le_of_ble_eq_true rfl, Nat.le_of_ble_eq_true rfl⟩ rfl hl.1 (Nat.le_of_ble_eq_true rfl) dX11_factor_78 ⟨Nat.le_of_ble_eq_true rfl, Nat.le_of_ble_eq_true rfl⟩) hT hS hA [1, 2, 3, 4] [0] rfl rfl rfl (by decide) (by decide) (fun r470 H locs hB J hS => ?_)
                            rcases hB with ⟨rfl, hT1⟩ | ⟨v474, v475, b_v475, c_476, c_477, c_478, c_479, c_480, c_481, rfl, hT1⟩
                            · skip
                              have hT := J _ hT1
                              have hT : TP D A [(h1, aI (k 0) 36 anI), (h0, ob 8 [.int h0f0, .int h0f1, .int h0f2, .int h0f3, .int h0f4, .int h0f5, .ref h1, .ref h2, .int h0f8, .int h0f9, .ref h3, .ref h4, .ref h5, .ref h6, .ref h7, .ref h8, .ref h9, .int h0f17, .int h0f18, .int h0f19, .ref h10, .ref h11, .ref h12, .ref h13, .int h0f24, .int h0f25, .ref h14, .ref h15, .ref h16, .ref h17, .int h0f30, .int h0f31, .ref h18, .ref h19, .ref h20, .ref h21]), (h4, aJ (k 1) 9 anJ), (h5, aJ (k 1) 9 anJ), (h7, aJ (k 1) 4 anJ)] H := hT
                              refine lv_if_eq (tgt := 90) hx hb dX11_factor_81 (by decide) (fun _ => ?_) (fun cc => absurd (by decide +kernel) cc)
                              refine lv_iload_n hx hb dX11_factor_90 rfl (lv_at hl 0 rfl) ?_
                              exact tz_retI (B := B_cX11_factor_03481 D k h0 h1 h4 h5 h7 h2 h3 h6 h8 h9 h10 h11 h12 h13 h14 h15 h16 h17 h18 h19 h20 h21 x1 x2 h0f0 h0f1 h0f2 h0f3 h0f4 h0f5 h0f8 h0f9 h0f17 h0f18 h0f19 h0f24 h0f25 h0f30 h0f31) (v := 2) hQ hx hb hr hlocks hS (Nat.le_of_ble_eq_true rfl) (Nat.le_of_ble_eq_true rfl) dX11_factor_91 (⟨(by have := li_2; omega), (hT.sub [1, 0, 2, 3, 4] (by decide) rfl)⟩)
                            · skip
                              have hT := J _ hT1
                              have hT : TP D A [(h1, aI (k 0) 36 anI), (h0, ob 8 [.int h0f0, .int h0f1, .int h0f2, .int h0f3, .int h0f4, .int h0f5, .ref h1, .ref h2, .int h0f8, .int h0f9, .ref h3, .ref h4, .ref h5, .ref h6, .ref h7, .ref h8, .ref h9, .int h0f17, .int h0f18, .int h0f19, .ref h10, .ref h11, .ref h12, .ref h13, .int h0f24, .int h0f25, .ref h14, .ref h15, .ref h16, .ref h17, .int h0f30, .int h0f31, .ref h18, .ref h19, .ref h20, .ref h21]), (h4, aJ (k 1) 9 anJ), (h5, aJ (k 1) 9 anJ), (h7, aJ (k 1) 4 (zJ [1, 2, 3]))] H := hT
                              exfalso; omega
                        · skip
                          have c_468 := ni_eq c_468 rfl li_1
                          exfalso; omega
                  · skip
                    have c_434 := ni_eq c_434 rfl li_1
                    exfalso; omega
            · skip
              have c_9 := ni_eq c_9 rfl li_1
              exfalso; omega
          · skip
            have c_8 := ni_nle c_8 li_3 rfl
            refine lv_iconst (v := 1) hx hb dX11_factor_38 (by decide) ?_
            refine lv_goto (tgt := 43) hx hb dX11_factor_39 (by decide) ?_
            refine lv_istore (lv' := [(4, .int 1), (3, .int 0), (0, .ref h0), (1, .int x1), (2, .int x2)]) hx hb dX11_factor_43 hl (by decide) rfl (fun ls hl => ?_)
            refine lv_aload_n hx hb dX11_factor_45 rfl (lv_at hl 2 rfl) ?_
            refine lv_iload hx hb dX11_factor_46 (lv_at hl 0 rfl) ?_
            refine lv_iload_n hx hb dX11_factor_48 rfl (lv_at hl 4 rfl) ?_
            refine lv_iconst (v := 1) hx hb dX11_factor_49 (by decide) ?_
            refine lv_icmp_ne (tgt := 57) hx hb dX11_factor_50 (by decide) (fun c_482 => ?_) (fun c_482 => ?_)
            · skip
              have c_482 := ni_ne c_482 rfl li_1
              refine lv_iconst (v := 1) hx hb dX11_factor_57 (by decide) ?_
              refine lv_iload_n hx hb dX11_factor_58 rfl (lv_at hl 4 rfl) ?_
              refine lv_iconst (v := 3) hx hb dX11_factor_59 (by decide) ?_
              refine lv_icmp_ne (tgt := 67) hx hb dX11_factor_60 (by decide) (fun c_483 => ?_) (fun c_483 => ?_)
              · skip
                have c_483 := ni_ne c_483 rfl li_3
                refine lv_iload_n hx hb dX11_factor_67 rfl (lv_at hl 4 rfl) ?_
                refine lv_bipush (v := 6) hx hb dX11_factor_68 (by decide) ?_
                refine lv_icmp_ne (tgt := 77) hx hb dX11_factor_70 (by decide) (fun c_484 => ?_) (fun c_484 => ?_)
                · skip
                  have c_484 := ni_ne c_484 rfl li_6
                  refine lv_iconst (v := 0) hx hb dX11_factor_77 (by decide) ?_
                  have q_q486 := li_1
                  have q_q487 := li_1
                  have q_q488 := li_0
                  refine tcI (Tc := [(h0, ob 8 [.int h0f0, .int h0f1, .int h0f2, .int h0f3, .int h0f4, .int h0f5, .ref h1, .ref h2, .int h0f8, .int h0f9, .ref h3, .ref h4, .ref h5, .ref h6, .ref h7, .ref h8, .ref h9, .int h0f17, .int h0f18, .int h0f19, .ref h10, .ref h11, .ref h12, .ref h13, .int h0f24, .int h0f25, .ref h14, .ref h15, .ref h16, .ref h17, .int h0f30, .int h0f31, .ref h18, .ref h19, .ref h20, .ref h21]), (h4, aJ (k 1) 9 anJ), (h5, aJ (k 1) 9 anJ), (h7, aJ (k 1) 4 anJ)]) (Tr := [(h1, aI (k 0) 36 anI)]) (as := [h0, h4, h5, h7]) (zcV (q0 := 1) (ci := 8) (As := [.int 1, .int 1, .int 0]) (rest := []) (Tc := [(h0, ob 8 [.int h0f0, .int h0f1, .int h0f2, .int h0f3, .int h0f4, .int h0f5, .ref h1, .ref h2, .int h0f8, .int h0f9, .ref h3, .ref h4, .ref h5, .ref h6, .ref h7, .ref h8, .ref h9, .int h0f17, .int h0f18, .int h0f19, .ref h10, .ref h11, .ref h12, .ref h13, .int h0f24, .int h0f25, .ref h14, .ref h15, .ref h16, .ref h17, .int h0f30, .int h0f31, .ref h18, .ref h19, .ref h20, .ref h21]), (h4, aJ (k 1) 9 anJ), (h5, aJ (k 1) 9 anJ), (h7, aJ (k 1) 4 anJ)]) hx hb hml hown hU hK hT rfl rfl [1, 3, 0, 4] rfl (by decide) (cX11_takesOut_0c94b l D k _ h0 h4 h5 h7 h1 h2 h3 h6 h8 h9 h10 h11 h12 h13 h14 h15 h16 h17 h18 h19 h20 h21 (1) (1) (0) h0f0 h0f1 h0f2 h0f3 h0f4 h0f5 h0f8 h0f9 h0f17 h0f18 h0f19 h0f24 h0f25 h0f30 h0f31 (by have := li_1; omega) (by have := li_1; omega) (by have := li_0; omega) (by omega) (by omega) (by omega) (by omega) (by omega) (by omega) (by omega) (by omega) (by omega) (by omega) (by omega) (by omega) (by omega)) w999 w996 w998 w41 w72 hdX11_takesOut ⟨rfl, rfl⟩ ⟨Nat.le_of_ble_eq_true rfl, Nat.le_of_ble_eq_true rfl⟩ rfl hl.1 (Nat.le_of_ble_eq_true rfl) dX11_factor_78 ⟨Nat.le_of_ble_eq_true rfl, Nat.le_of_ble_eq_true rfl⟩) hT hS hA [1, 3, 0, 4] [2] rfl rfl rfl (by decide) (by decide) (fun r485 H locs hB J hS => ?_)
                  rcases hB with ⟨rfl, hT1⟩ | ⟨v489, v490, b_v490, c_491, c_492, c_493, c_494, c_495, c_496, c_497, c_498, rfl, hT1⟩ | ⟨v499, v500, v501, b_v499, b_v501, c_502, c_503, c_504, c_505, c_506, c_507, c_508, c_509, rfl, hT1⟩ | ⟨v510, v511, v512, v513, b_v510, b_v511, b_v513, c_514, c_515, c_516, c_517, c_518, c_519, c_520, c_521, rfl, hT1⟩ | ⟨v522, v523, v524, b_v523, b_v524, c_525, c_526, c_527, c_528, c_529, c_530, c_531, rfl, hT1⟩ | ⟨v532, v533, v534, v535, b_v532, b_v534, b_v535, c_536, c_537, c_538, c_539, c_540, c_541, c_542, rfl, hT1⟩
                  · skip
                    have hT := J _ hT1
                    have hT : TP D A [(h1, aI (k 0) 36 anI), (h0, ob 8 [.int h0f0, .int h0f1, .int h0f2, .int h0f3, .int h0f4, .int h0f5, .ref h1, .ref h2, .int h0f8, .int h0f9, .ref h3, .ref h4, .ref h5, .ref h6, .ref h7, .ref h8, .ref h9, .int h0f17, .int h0f18, .int h0f19, .ref h10, .ref h11, .ref h12, .ref h13, .int h0f24, .int h0f25, .ref h14, .ref h15, .ref h16, .ref h17, .int h0f30, .int h0f31, .ref h18, .ref h19, .ref h20, .ref h21]), (h4, aJ (k 1) 9 anJ), (h5, aJ (k 1) 9 anJ), (h7, aJ (k 1) 4 anJ)] H := hT
                    refine lv_if_eq (tgt := 90) hx hb dX11_factor_81 (by decide) (fun _ => ?_) (fun cc => absurd (by decide +kernel) cc)
                    refine lv_iload_n hx hb dX11_factor_90 rfl (lv_at hl 1 rfl) ?_
                    exact tz_retI (B := B_cX11_factor_03481 D k h0 h1 h4 h5 h7 h2 h3 h6 h8 h9 h10 h11 h12 h13 h14 h15 h16 h17 h18 h19 h20 h21 x1 x2 h0f0 h0f1 h0f2 h0f3 h0f4 h0f5 h0f8 h0f9 h0f17 h0f18 h0f19 h0f24 h0f25 h0f30 h0f31) (v := 0) hQ hx hb hr hlocks hS (Nat.le_of_ble_eq_true rfl) (Nat.le_of_ble_eq_true rfl) dX11_factor_91 (⟨(by have := li_0; omega), (hT.sub [1, 0, 2, 3, 4] (by decide) rfl)⟩)
                  · skip
                    have hT := J _ hT1
                    have hT : TP D A [(h1, aI (k 0) 36 anI), (h0, ob 8 [.int h0f0, .int h0f1, .int h0f2, .int h0f3, .int h0f4, .int h0f5, .ref h1, .ref h2, .int h0f8, .int h0f9, .ref h3, .ref h4, .ref h5, .ref h6, .ref h7, .ref h8, .ref h9, .int h0f17, .int h0f18, .int h0f19, .ref h10, .ref h11, .ref h12, .ref h13, .int h0f24, .int h0f25, .ref h14, .ref h15, .ref h16, .ref h17, .int h0f30, .int h0f31, .ref h18, .ref h19, .ref h20, .ref h21]), (h4, aJ (k 1) 9 anJ), (h5, aJ (k 1) 9 anJ), (h7, aJ (k 1) 4 (zJ [3]))] H := hT
                    refine lv_if_eq (tgt := 90) hx hb dX11_factor_81 (by decide) (fun cc => absurd cc (by decide +kernel)) (fun _ => ?_)
                    refine lv_iinc (v := 1) (lv' := [(3, .int 1), (4, .int 1), (0, .ref h0), (1, .int x1), (2, .int x2)]) hx hb dX11_factor_84 hl (k := 1) rfl (by decide) (by decide) rfl (fun ls hl => ?_)
                    refine lv_goto (tgt := 45) hx hb dX11_factor_87 (by decide) ?_
                    refine lv_aload_n hx hb dX11_factor_45 rfl (lv_at hl 2 rfl) ?_
                    refine lv_iload hx hb dX11_factor_46 (lv_at hl 1 rfl) ?_
                    refine lv_iload_n hx hb dX11_factor_48 rfl (lv_at hl 4 rfl) ?_
                    refine lv_iconst (v := 1) hx hb dX11_factor_49 (by decide) ?_
                    refine lv_icmp_ne (tgt := 57) hx hb dX11_factor_50 (by decide) (fun c_543 => ?_) (fun c_543 => ?_)
                    · skip
                      have c_543 := ni_ne c_543 rfl li_1
                      refine lv_iconst (v := 1) hx hb dX11_factor_57 (by decide) ?_
                      refine lv_iload_n hx hb dX11_factor_58 rfl (lv_at hl 4 rfl) ?_
                      refine lv_iconst (v := 3) hx hb dX11_factor_59 (by decide) ?_
                      refine lv_icmp_ne (tgt := 67) hx hb dX11_factor_60 (by decide) (fun c_544 => ?_) (fun c_544 => ?_)
                      · skip
                        have c_544 := ni_ne c_544 rfl li_3
                        refine lv_iload_n hx hb dX11_factor_67 rfl (lv_at hl 4 rfl) ?_
                        refine lv_bipush (v := 6) hx hb dX11_factor_68 (by decide) ?_
                        refine lv_icmp_ne (tgt := 77) hx hb dX11_factor_70 (by decide) (fun c_545 => ?_) (fun c_545 => ?_)
                        · skip
                          have c_545 := ni_ne c_545 rfl li_6
                          refine lv_iconst (v := 0) hx hb dX11_factor_77 (by decide) ?_
                          have q_q547 := li_1
                          have q_q548 := li_1
                          have q_q549 := li_0
                          refine tcI (Tc := [(h0, ob 8 [.int h0f0, .int h0f1, .int h0f2, .int h0f3, .int h0f4, .int h0f5, .ref h1, .ref h2, .int h0f8, .int h0f9, .ref h3, .ref h4, .ref h5, .ref h6, .ref h7, .ref h8, .ref h9, .int h0f17, .int h0f18, .int h0f19, .ref h10, .ref h11, .ref h12, .ref h13, .int h0f24, .int h0f25, .ref h14, .ref h15, .ref h16, .ref h17, .int h0f30, .int h0f31, .ref h18, .ref h19, .ref h20, .ref h21]), (h4, aJ (k 1) 9 anJ), (h5, aJ (k 1) 9 anJ), (h7, aJ (k 1) 4 (zJ [3]))]) (Tr := [(h1, aI (k 0) 36 anI)]) (as := [h0, h4, h5, h7]) (zcV (q0 := 1) (ci := 8) (As := [.int 1, .int 1, .int 0]) (rest := []) (Tc := [(h0, ob 8 [.int h0f0, .int h0f1, .int h0f2, .int h0f3, .int h0f4, .int h0f5, .ref h1, .ref h2, .int h0f8, .int h0f9, .ref h3, .ref h4, .ref h5, .ref h6, .ref h7, .ref h8, .ref h9, .int h0f17, .int h0f18, .int h0f19, .ref h10, .ref h11, .ref h12, .ref h13, .int h0f24, .int h0f25, .ref h14, .ref h15, .ref h16, .ref h17, .int h0f30, .int h0f31, .ref h18, .ref h19, .ref h20, .ref h21]), (h4, aJ (k 1) 9 anJ), (h5, aJ (k 1) 9 anJ), (h7, aJ (k 1) 4 (zJ [3]))]) hx hb hml hown hU hK hT rfl rfl [1, 2, 3, 4] rfl (by decide) (cX11_takesOut_75942 l D k _ h0 h4 h5 h7 h1 h2 h3 h6 h8 h9 h10 h11 h12 h13 h14 h15 h16 h17 h18 h19 h20 h21 (1) (1) (0) h0f0 h0f1 h0f2 h0f3 h0f4 h0f5 h0f8 h0f9 h0f17 h0f18 h0f19 h0f24 h0f25 h0f30 h0f31 (by have := li_1; omega) (by have := li_1; omega) (by have := li_0; omega) (by omega) (by omega) (by omega) (by omega) (by omega) (by omega) (by omega) (by omega) (by omega) (by omega) (by omega) (by omega) (by omega)) w999 w996 w998 w41 w72 hdX11_takesOut ⟨rfl, rfl⟩ ⟨Nat.le_of_ble_eq_true rfl, Nat.le_of_ble_eq_true rfl⟩ rfl hl.1 (Nat.le_of_ble_eq_true rfl) dX11_factor_78 ⟨Nat.le_of_ble_eq_true rfl, Nat.le_of_ble_eq_true rfl⟩) hT hS hA [1, 2, 3, 4] [0] rfl rfl rfl (by decide) (by decide) (fun r546 H locs hB J hS => ?_)
                          rcases hB with ⟨rfl, hT1⟩ | ⟨v550, v551, b_v551, c_552, c_553, c_554, c_555, c_556, c_557, c_558, rfl, hT1⟩ | ⟨v559, v560, v561, b_v559, b_v561, c_562, c_563, c_564, c_565, c_566, c_567, c_568, rfl, hT1⟩ | ⟨v569, v570, v571, b_v570, b_v571, c_572, c_573, c_574, c_575, c_576, c_577, rfl, hT1⟩
                          · skip
                            have hT := J _ hT1
                            have hT : TP D A [(h1, aI (k 0) 36 anI), (h0, ob 8 [.int h0f0, .int h0f1, .int h0f2, .int h0f3, .int h0f4, .int h0f5, .ref h1, .ref h2, .int h0f8, .int h0f9, .ref h3, .ref h4, .ref h5, .ref h6, .ref h7, .ref h8, .ref h9, .int h0f17, .int h0f18, .int h0f19, .ref h10, .ref h11, .ref h12, .ref h13, .int h0f24, .int h0f25, .ref h14, .ref h15, .ref h16, .ref h17, .int h0f30, .int h0f31, .ref h18, .ref h19, .ref h20, .ref h21]), (h4, aJ (k 1) 9 anJ), (h5, aJ (k 1) 9 anJ), (h7, aJ (k 1) 4 anJ)] H := hT
                            refine lv_if_eq (tgt := 90) hx hb dX11_factor_81 (by decide) (fun _ => ?_) (fun cc => absurd (by decide +kernel) cc)
                            refine lv_iload_n hx hb dX11_factor_90 rfl (lv_at hl 0 rfl) ?_
                            exact tz_retI (B := B_cX11_factor_03481 D k h0 h1 h4 h5 h7 h2 h3 h6 h8 h9 h10 h11 h12 h13 h14 h15 h16 h17 h18 h19 h20 h21 x1 x2 h0f0 h0f1 h0f2 h0f3 h0f4 h0f5 h0f8 h0f9 h0f17 h0f18 h0f19 h0f24 h0f25 h0f30 h0f31) (v := 1) hQ hx hb hr hlocks hS (Nat.le_of_ble_eq_true rfl) (Nat.le_of_ble_eq_true rfl) dX11_factor_91 (⟨(by have := li_1; omega), (hT.sub [1, 0, 2, 3, 4] (by decide) rfl)⟩)
                          · skip
                            have hT := J _ hT1
                            have hT : TP D A [(h1, aI (k 0) 36 anI), (h0, ob 8 [.int h0f0, .int h0f1, .int h0f2, .int h0f3, .int h0f4, .int h0f5, .ref h1, .ref h2, .int h0f8, .int h0f9, .ref h3, .ref h4, .ref h5, .ref h6, .ref h7, .ref h8, .ref h9, .int h0f17, .int h0f18, .int h0f19, .ref h10, .ref h11, .ref h12, .ref h13, .int h0f24, .int h0f25, .ref h14, .ref h15, .ref h16, .ref h17, .int h0f30, .int h0f31, .ref h18, .ref h19, .ref h20, .ref h21]), (h4, aJ (k 1) 9 anJ), (h5, aJ (k 1) 9 anJ), (h7, aJ (k 1) 4 (zJ [2, 3]))] H := hT
                            refine lv_if_eq (tgt := 90) hx hb dX11_factor_81 (by decide) (fun cc => absurd cc (by decide +kernel)) (fun _ => ?_)
                            refine lv_iinc (v := 2) (lv' := [(3, .int 2), (4, .int 1), (0, .ref h0), (1, .int x1), (2, .int x2)]) hx hb dX11_factor_84 hl (k := 0) rfl (by decide) (by decide) rfl (fun ls hl => ?_)
                            refine lv_goto (tgt := 45) hx hb dX11_factor_87 (by decide) ?_
                            refine lv_aload_n hx hb dX11_factor_45 rfl (lv_at hl 2 rfl) ?_
                            refine lv_iload hx hb dX11_factor_46 (lv_at hl 1 rfl) ?_
                            refine lv_iload_n hx hb dX11_factor_48 rfl (lv_at hl 4 rfl) ?_
                            refine lv_iconst (v := 1) hx hb dX11_factor_49 (by decide) ?_
                            refine lv_icmp_ne (tgt := 57) hx hb dX11_factor_50 (by decide) (fun c_578 => ?_) (fun c_578 => ?_)
                            · skip
                              have c_578 := ni_ne c_578 rfl li_1
                              refine lv_iconst (v := 1) hx hb dX11_factor_57 (by decide) ?_
                              refine lv_iload_n hx hb dX11_factor_58 rfl (lv_at hl 4 rfl) ?_
                              refine lv_iconst (v := 3) hx hb dX11_factor_59 (by decide) ?_
                              refine lv_icmp_ne (tgt := 67) hx hb dX11_factor_60 (by decide) (fun c_579 => ?_) (fun c_579 => ?_)
                              · skip
                                have c_579 := ni_ne c_579 rfl li_3
                                refine lv_iload_n hx hb dX11_factor_67 rfl (lv_at hl 4 rfl) ?_
                                refine lv_bipush (v := 6) hx hb dX11_factor_68 (by decide) ?_
                                refine lv_icmp_ne (tgt := 77) hx hb dX11_factor_70 (by decide) (fun c_580 => ?_) (fun c_580 => ?_)
                                · skip
                                  have c_580 := ni_ne c_580 rfl li_6
                                  refine lv_iconst (v := 0) hx hb dX11_factor_77 (by decide) ?_
                                  have q_q582 := li_1
                                  have q_q583 := li_1
                                  have q_q584 := li_0
                                  refine tcI (Tc := [(h0, ob 8 [.int h0f0, .int h0f1, .int h0f2, .int h0f3, .int h0f4, .int h0f5, .ref h1, .ref h2, .int h0f8, .int h0f9, .ref h3, .ref h4, .ref h5, .ref h6, .ref h7, .ref h8, .ref h9, .int h0f17, .int h0f18, .int h0f19, .ref h10, .ref h11, .ref h12, .ref h13, .int h0f24, .int h0f25, .ref h14, .ref h15, .ref h16, .ref h17, .int h0f30, .int h0f31, .ref h18, .ref h19, .ref h20, .ref h21]), (h4, aJ (k 1) 9 anJ), (h5, aJ (k 1) 9 anJ), (h7, aJ (k 1) 4 (zJ [2, 3]))]) (Tr := [(h1, aI (k 0) 36 anI)]) (as := [h0, h4, h5, h7]) (zcV (q0 := 1) (ci := 8) (As := [.int 1, .int 1, .int 0]) (rest := []) (Tc := [(h0, ob 8 [.int h0f0, .int h0f1, .int h0f2, .int h0f3, .int h0f4, .int h0f5, .ref h1, .ref h2, .int h0f8, .int h0f9, .ref h3, .ref h4, .ref h5, .ref h6, .ref h7, .ref h8, .ref h9, .int h0f17, .int h0f18, .int h0f19, .ref h10, .ref h11, .ref h12, .ref h13, .int h0f24, .int h0f25, .ref h14, .ref h15, .ref h16, .ref h17, .int h0f30, .int h0f31, .ref h18, .ref h19, .ref h20, .ref h21]), (h4, aJ (k 1) 9 anJ), (h5, aJ (k 1) 9 anJ), (h7, aJ (k 1) 4 (zJ [2, 3]))]) hx hb hml hown hU hK hT rfl rfl [1, 2, 3, 4] rfl (by decide) (cX11_takesOut_c755e l D k _ h0 h4 h5 h7 h1 h2 h3 h6 h8 h9 h10 h11 h12 h13 h14 h15 h16 h17 h18 h19 h20 h21 (1) (1) (0) h0f0 h0f1 h0f2 h0f3 h0f4 h0f5 h0f8 h0f9 h0f17 h0f18 h0f19 h0f24 h0f25 h0f30 h0f31 (by have := li_1; omega) (by have := li_1; omega) (by have := li_0; omega) (by omega) (by omega) (by omega) (by omega) (by omega) (by omega) (by omega) (by omega) (by omega) (by omega) (by omega) (by omega) (by omega)) w999 w996 w998 w41 w72 hdX11_takesOut ⟨rfl, rfl⟩ ⟨Nat.le_of_ble_eq_true rfl, Nat.le_of_ble_eq_true rfl⟩ rfl hl.1 (Nat.le_of_ble_eq_true rfl) dX11_factor_78 ⟨Nat.le_of_ble_eq_true rfl, Nat.le_of_ble_eq_true rfl⟩) hT hS hA [1, 2, 3, 4] [0] rfl rfl rfl (by decide) (by decide) (fun r581 H locs hB J hS => ?_)
                                  rcases hB with ⟨rfl, hT1⟩ | ⟨v585, v586, b_v586, c_587, c_588, c_589, c_590, c_591, c_592, rfl, hT1⟩
                                  · skip
                                    have hT := J _ hT1
                                    have hT : TP D A [(h1, aI (k 0) 36 anI), (h0, ob 8 [.int h0f0, .int h0f1, .int h0f2, .int h0f3, .int h0f4, .int h0f5, .ref h1, .ref h2, .int h0f8, .int h0f9, .ref h3, .ref h4, .ref h5, .ref h6, .ref h7, .ref h8, .ref h9, .int h0f17, .int h0f18, .int h0f19, .ref h10, .ref h11, .ref h12, .ref h13, .int h0f24, .int h0f25, .ref h14, .ref h15, .ref h16, .ref h17, .int h0f30, .int h0f31, .ref h18, .ref h19, .ref h20, .ref h21]), (h4, aJ (k 1) 9 anJ), (h5, aJ (k 1) 9 anJ), (h7, aJ (k 1) 4 anJ)] H := hT
                                    refine lv_if_eq (tgt := 90) hx hb dX11_factor_81 (by decide) (fun _ => ?_) (fun cc => absurd (by decide +kernel) cc)
                                    refine lv_iload_n hx hb dX11_factor_90 rfl (lv_at hl 0 rfl) ?_
                                    exact tz_retI (B := B_cX11_factor_03481 D k h0 h1 h4 h5 h7 h2 h3 h6 h8 h9 h10 h11 h12 h13 h14 h15 h16 h17 h18 h19 h20 h21 x1 x2 h0f0 h0f1 h0f2 h0f3 h0f4 h0f5 h0f8 h0f9 h0f17 h0f18 h0f19 h0f24 h0f25 h0f30 h0f31) (v := 2) hQ hx hb hr hlocks hS (Nat.le_of_ble_eq_true rfl) (Nat.le_of_ble_eq_true rfl) dX11_factor_91 (⟨(by have := li_2; omega), (hT.sub [1, 0, 2, 3, 4] (by decide) rfl)⟩)
                                  · skip
                                    have hT := J _ hT1
                                    have hT : TP D A [(h1, aI (k 0) 36 anI), (h0, ob 8 [.int h0f0, .int h0f1, .int h0f2, .int h0f3, .int h0f4, .int h0f5, .ref h1, .ref h2, .int h0f8, .int h0f9, .ref h3, .ref h4, .ref h5, .ref h6, .ref h7, .ref h8, .ref h9, .int h0f17, .int h0f18, .int h0f19, .ref h10, .ref h11, .ref h12, .ref h13, .int h0f24, .int h0f25, .ref h14, .ref h15, .ref h16, .ref h17, .int h0f30, .int h0f31, .ref h18, .ref h19, .ref h20, .ref h21]), (h4, aJ (k 1) 9 anJ), (h5, aJ (k 1) 9 anJ), (h7, aJ (k 1) 4 (zJ [1, 2, 3]))] H := hT
                                    refine lv_if_eq (tgt := 90) hx hb dX11_factor_81 (by decide) (fun cc => absurd cc (by decide +kernel)) (fun _ => ?_)
                                    refine lv_iinc (v := 3) (lv' := [(3, .int 3), (4, .int 1), (0, .ref h0), (1, .int x1), (2, .int x2)]) hx hb dX11_factor_84 hl (k := 0) rfl (by decide) (by decide) rfl (fun ls hl => ?_)
                                    refine lv_goto (tgt := 45) hx hb dX11_factor_87 (by decide) ?_
                                    refine lv_aload_n hx hb dX11_factor_45 rfl (lv_at hl 2 rfl) ?_
                                    refine lv_iload hx hb dX11_factor_46 (lv_at hl 1 rfl) ?_
                                    refine lv_iload_n hx hb dX11_factor_48 rfl (lv_at hl 4 rfl) ?_
                                    refine lv_iconst (v := 1) hx hb dX11_factor_49 (by decide) ?_
                                    refine lv_icmp_ne (tgt := 57) hx hb dX11_factor_50 (by decide) (fun c_593 => ?_) (fun c_593 => ?_)
                                    · skip
                                      have c_593 := ni_ne c_593 rfl li_1
                                      refine lv_iconst (v := 1) hx hb dX11_factor_57 (by decide) ?_
                                      refine lv_iload_n hx hb dX11_factor_58 rfl (lv_at hl 4 rfl) ?_
                                      refine lv_iconst (v := 3) hx hb dX11_factor_59 (by decide) ?_
                                      refine lv_icmp_ne (tgt := 67) hx hb dX11_factor_60 (by decide) (fun c_594 => ?_) (fun c_594 => ?_)
                                      · skip
                                        have c_594 := ni_ne c_594 rfl li_3
                                        refine lv_iload_n hx hb dX11_factor_67 rfl (lv_at hl 4 rfl) ?_
                                        refine lv_bipush (v := 6) hx hb dX11_factor_68 (by decide) ?_
                                        refine lv_icmp_ne (tgt := 77) hx hb dX11_factor_70 (by decide) (fun c_595 => ?_) (fun c_595 => ?_)
                                        · skip
                                          have c_595 := ni_ne c_595 rfl li_6
                                          refine lv_iconst (v := 0) hx hb dX11_factor_77 (by decide) ?_
                                          have q_q597 := li_1
                                          have q_q598 := li_1
                                          have q_q599 := li_0
                                          refine tcI (Tc := [(h0, ob 8 [.int h0f0, .int h0f1, .int h0f2, .int h0f3, .int h0f4, .int h0f5, .ref h1, .ref h2, .int h0f8, .int h0f9, .ref h3, .ref h4, .ref h5, .ref h6, .ref h7, .ref h8, .ref h9, .int h0f17, .int h0f18, .int h0f19, .ref h10, .ref h11, .ref h12, .ref h13, .int h0f24, .int h0f25, .ref h14, .ref h15, .ref h16, .ref h17, .int h0f30, .int h0f31, .ref h18, .ref h19, .ref h20, .ref h21]), (h7, aJ (k 1) 4 (zJ [1, 2, 3]))]) (Tr := [(h1, aI (k 0) 36 anI), (h4, aJ (k 1) 9 anJ), (h5, aJ (k 1) 9 anJ)]) (as := [h0, h7]) (zcV (q0 := 1) (ci := 8) (As := [.int 1, .int 1, .int 0]) (rest := []) (Tc := [(h0, ob 8 [.int h0f0, .int h0f1, .int h0f2, .int h0f3, .int h0f4, .int h0f5, .ref h1, .ref h2, .int h0f8, .int h0f9, .ref h3, .ref h4, .ref h5, .ref h6, .ref h7, .ref h8, .ref h9, .int h0f17, .int h0f18, .int h0f19, .ref h10, .ref h11, .ref h12, .ref h13, .int h0f24, .int h0f25, .ref h14, .ref h15, .ref h16, .ref h17, .int h0f30, .int h0f31, .ref h18, .ref h19, .ref h20, .ref h21]), (h7, aJ (k 1) 4 (zJ [1, 2, 3]))]) hx hb hml hown hU hK hT rfl rfl [1, 4] rfl (by decide) (cX11_takesOut_51a3e l D k _ h0 h7 h1 h2 h3 h4 h5 h6 h8 h9 h10 h11 h12 h13 h14 h15 h16 h17 h18 h19 h20 h21 (1) (1) (0) h0f0 h0f1 h0f2 h0f3 h0f4 h0f5 h0f8 h0f9 h0f17 h0f18 h0f19 h0f24 h0f25 h0f30 h0f31 (by have := li_1; omega) (by have := li_1; omega) (by have := li_0; omega) (by omega) (by omega) (by omega) (by omega) (by omega) (by omega) (by omega) (by omega) (by omega) (by omega) (by omega) (by omega) (by omega)) w999 w996 w998 w41 w72 hdX11_takesOut ⟨rfl, rfl⟩ ⟨Nat.le_of_ble_eq_true rfl, Nat.le_of_ble_eq_true rfl⟩ rfl hl.1 (Nat.le_of_ble_eq_true rfl) dX11_factor_78 ⟨Nat.le_of_ble_eq_true rfl, Nat.le_of_ble_eq_true rfl⟩) hT hS hA [1, 4] [0, 2, 3] rfl rfl rfl (by decide) (by decide) (fun r596 H locs hB J hS => ?_)
                                          obtain ⟨rfl, hT1⟩ := hB
                                          have hT := J _ hT1
                                          have hT : TP D A [(h1, aI (k 0) 36 anI), (h4, aJ (k 1) 9 anJ), (h5, aJ (k 1) 9 anJ), (h0, ob 8 [.int h0f0, .int h0f1, .int h0f2, .int h0f3, .int h0f4, .int h0f5, .ref h1, .ref h2, .int h0f8, .int h0f9, .ref h3, .ref h4, .ref h5, .ref h6, .ref h7, .ref h8, .ref h9, .int h0f17, .int h0f18, .int h0f19, .ref h10, .ref h11, .ref h12, .ref h13, .int h0f24, .int h0f25, .ref h14, .ref h15, .ref h16, .ref h17, .int h0f30, .int h0f31, .ref h18, .ref h19, .ref h20, .ref h21]), (h7, aJ (k 1) 4 anJ)] H := hT
                                          refine lv_if_eq (tgt := 90) hx hb dX11_factor_81 (by decide) (fun _ => ?_) (fun cc => absurd (by decide +kernel) cc)
                                          refine lv_iload_n hx hb dX11_factor_90 rfl (lv_at hl 0 rfl) ?_
                                          exact tz_retI (B := B_cX11_factor_03481 D k h0 h1 h4 h5 h7 h2 h3 h6 h8 h9 h10 h11 h12 h13 h14 h15 h16 h17 h18 h19 h20 h21 x1 x2 h0f0 h0f1 h0f2 h0f3 h0f4 h0f5 h0f8 h0f9 h0f17 h0f18 h0f19 h0f24 h0f25 h0f30 h0f31) (v := 3) hQ hx hb hr hlocks hS (Nat.le_of_ble_eq_true rfl) (Nat.le_of_ble_eq_true rfl) dX11_factor_91 (⟨(by have := li_3; omega), (hT.sub [3, 0, 1, 2, 4] (by decide) rfl)⟩)
                                        · skip
                                          have c_595 := ni_eq c_595 rfl li_6
                                          exfalso; omega
                                      · skip
                                        have c_594 := ni_eq c_594 rfl li_3
                                        exfalso; omega
                                    · skip
                                      have c_593 := ni_eq c_593 rfl li_1
                                      exfalso; omega
                                · skip
                                  have c_580 := ni_eq c_580 rfl li_6
                                  exfalso; omega
                              · skip
                                have c_579 := ni_eq c_579 rfl li_3
                                exfalso; omega
                            · skip
                              have c_578 := ni_eq c_578 rfl li_1
                              exfalso; omega
                          · skip
                            have hT := J _ hT1
                            have hT : TP D A [(h1, aI (k 0) 36 anI), (h0, ob 8 [.int h0f0, .int h0f1, .int h0f2, .int h0f3, .int h0f4, .int h0f5, .ref h1, .ref h2, .int h0f8, .int h0f9, .ref h3, .ref h4, .ref h5, .ref h6, .ref h7, .ref h8, .ref h9, .int h0f17, .int h0f18, .int h0f19, .ref h10, .ref h11, .ref h12, .ref h13, .int h0f24, .int h0f25, .ref h14, .ref h15, .ref h16, .ref h17, .int h0f30, .int h0f31, .ref h18, .ref h19, .ref h20, .ref h21]), (h4, aJ (k 1) 9 anJ), (h5, aJ (k 1) 9 anJ), (h7, aJ (k 1) 4 (zJ [2, 3]))] H := hT
                            refine lv_if_eq (tgt := 90) hx hb dX11_factor_81 (by decide) (fun cc => absurd cc (by decide +kernel)) (fun _ => ?_)
                            refine lv_iinc (v := 2) (lv' := [(3, .int 2), (4, .int 1), (0, .ref h0), (1, .int x1), (2, .int x2)]) hx hb dX11_factor_84 hl (k := 0) rfl (by decide) (by decide) rfl (fun ls hl => ?_)
                            refine lv_goto (tgt := 45) hx hb dX11_factor_87 (by decide) ?_
                            refine lv_aload_n hx hb dX11_factor_45 rfl (lv_at hl 2 rfl) ?_
                            refine lv_iload hx hb dX11_factor_46 (lv_at hl 1 rfl) ?_
                            refine lv_iload_n hx hb dX11_factor_48 rfl (lv_at hl 4 rfl) ?_
                            refine lv_iconst (v := 1) hx hb dX11_factor_49 (by decide) ?_
                            refine lv_icmp_ne (tgt := 57) hx hb dX11_factor_50 (by decide) (fun c_600 => ?_) (fun c_600 => ?_)
                            · skip
                              have c_600 := ni_ne c_600 rfl li_1
                              refine lv_iconst (v := 1) hx hb dX11_factor_57 (by decide) ?_
                              refine lv_iload_n hx hb dX11_factor_58 rfl (lv_at hl 4 rfl) ?_
                              refine lv_iconst (v := 3) hx hb dX11_factor_59 (by decide) ?_
                              refine lv_icmp_ne (tgt := 67) hx hb dX11_factor_60 (by decide) (fun c_601 => ?_) (fun c_601 => ?_)
                              · skip
                                have c_601 := ni_ne c_601 rfl li_3
                                refine lv_iload_n hx hb dX11_factor_67 rfl (lv_at hl 4 rfl) ?_
                                refine lv_bipush (v := 6) hx hb dX11_factor_68 (by decide) ?_
                                refine lv_icmp_ne (tgt := 77) hx hb dX11_factor_70 (by decide) (fun c_602 => ?_) (fun c_602 => ?_)
                                · skip
                                  have c_602 := ni_ne c_602 rfl li_6
                                  refine lv_iconst (v := 0) hx hb dX11_factor_77 (by decide) ?_
                                  have q_q604 := li_1
                                  have q_q605 := li_1
                                  have q_q606 := li_0
                                  refine tcI (Tc := [(h0, ob 8 [.int h0f0, .int h0f1, .int h0f2, .int h0f3, .int h0f4, .int h0f5, .ref h1, .ref h2, .int h0f8, .int h0f9, .ref h3, .ref h4, .ref h5, .ref h6, .ref h7, .ref h8, .ref h9, .int h0f17, .int h0f18, .int h0f19, .ref h10, .ref h11, .ref h12, .ref h13, .int h0f24, .int h0f25, .ref h14, .ref h15, .ref h16, .ref h17, .int h0f30, .int h0f31, .ref h18, .ref h19, .ref h20, .ref h21]), (h4, aJ (k 1) 9 anJ), (h5, aJ (k 1) 9 anJ), (h7, aJ (k 1) 4 (zJ [2, 3]))]) (Tr := [(h1, aI (k 0) 36 anI)]) (as := [h0, h4, h5, h7]) (zcV (q0 := 1) (ci := 8) (As := [.int 1, .int 1, .int 0]) (rest := []) (Tc := [(h0, ob 8 [.int h0f0, .int h0f1, .int h0f2, .int h0f3, .int h0f4, .int h0f5, .ref h1, .ref h2, .int h0f8, .int h0f9, .ref h3, .ref h4, .ref h5, .ref h6, .ref h7, .ref h8, .ref h9, .int h0f17, .int h0f18, .int h0f19, .ref h10, .ref h11, .ref h12, .ref h13, .int h0f24, .int h0f25, .ref h14, .ref h15, .ref h16, .ref h17, .int h0f30, .int h0f31, .ref h18, .ref h19, .ref h20, .ref h21]), (h4, aJ (k 1) 9 anJ), (h5, aJ (k 1) 9 anJ), (h7, aJ (k 1) 4 (zJ [2, 3]))]) hx hb hml hown hU hK hT rfl rfl [1, 2, 3, 4] rfl (by decide) (cX11_takesOut_c755e l D k _ h0 h4 h5 h7 h1 h2 h3 h6 h8 h9 h10 h11 h12 h13 h14 h15 h16 h17 h18 h19 h20 h21 (1) (1) (0) h0f0 h0f1 h0f2 h0f3 h0f4 h0f5 h0f8 h0f9 h0f17 h0f18 h0f19 h0f24 h0f25 h0f30 h0f31 (by have := li_1; omega) (by have := li_1; omega) (by have := li_0; omega) (by omega) (by omega) (by omega) (by omega) (by omega) (by omega) (by omega) (by omega) (by omega) (by omega) (by omega) (by omega) (by omega)) w999 w996 w998 w41 w72 hdX11_takesOut ⟨rfl, rfl⟩ ⟨Nat.le_of_ble_eq_true rfl, Nat.le_of_ble_eq_true rfl⟩ rfl hl.1 (Nat.le_of_ble_eq_true rfl) dX11_factor_78 ⟨Nat.le_of_ble_eq_true rfl, Nat.le_of_ble_eq_true rfl⟩) hT hS hA [1, 2, 3, 4] [0] rfl rfl rfl (by decide) (by decide) (fun r603 H locs hB J hS => ?_)
                                  rcases hB with ⟨rfl, hT1⟩ | ⟨v607, v608, b_v608, c_609, c_610, c_611, c_612, c_613, c_614, rfl, hT1⟩
                                  · skip
                                    have hT := J _ hT1
                                    have hT : TP D A [(h1, aI (k 0) 36 anI), (h0, ob 8 [.int h0f0, .int h0f1, .int h0f2, .int h0f3, .int h0f4, .int h0f5, .ref h1, .ref h2, .int h0f8, .int h0f9, .ref h3, .ref h4, .ref h5, .ref h6, .ref h7, .ref h8, .ref h9, .int h0f17, .int h0f18, .int h0f19, .ref h10, .ref h11, .ref h12, .ref h13, .int h0f24, .int h0f25, .ref h14, .ref h15, .ref h16, .ref h17, .int h0f30, .int h0f31, .ref h18, .ref h19, .ref h20, .ref h21]), (h4, aJ (k 1) 9 anJ), (h5, aJ (k 1) 9 anJ), (h7, aJ (k 1) 4 anJ)] H := hT
                                    refine lv_if_eq (tgt := 90) hx hb dX11_factor_81 (by decide) (fun _ => ?_) (fun cc => absurd (by decide +kernel) cc)
                                    refine lv_iload_n hx hb dX11_factor_90 rfl (lv_at hl 0 rfl) ?_
                                    exact tz_retI (B := B_cX11_factor_03481 D k h0 h1 h4 h5 h7 h2 h3 h6 h8 h9 h10 h11 h12 h13 h14 h15 h16 h17 h18 h19 h20 h21 x1 x2 h0f0 h0f1 h0f2 h0f3 h0f4 h0f5 h0f8 h0f9 h0f17 h0f18 h0f19 h0f24 h0f25 h0f30 h0f31) (v := 2) hQ hx hb hr hlocks hS (Nat.le_of_ble_eq_true rfl) (Nat.le_of_ble_eq_true rfl) dX11_factor_91 (⟨(by have := li_2; omega), (hT.sub [1, 0, 2, 3, 4] (by decide) rfl)⟩)
                                  · skip
                                    have hT := J _ hT1
                                    have hT : TP D A [(h1, aI (k 0) 36 anI), (h0, ob 8 [.int h0f0, .int h0f1, .int h0f2, .int h0f3, .int h0f4, .int h0f5, .ref h1, .ref h2, .int h0f8, .int h0f9, .ref h3, .ref h4, .ref h5, .ref h6, .ref h7, .ref h8, .ref h9, .int h0f17, .int h0f18, .int h0f19, .ref h10, .ref h11, .ref h12, .ref h13, .int h0f24, .int h0f25, .ref h14, .ref h15, .ref h16, .ref h17, .int h0f30, .int h0f31, .ref h18, .ref h19, .ref h20, .ref h21]), (h4, aJ (k 1) 9 anJ), (h5, aJ (k 1) 9 anJ), (h7, aJ (k 1) 4 (zJ [1, 2, 3]))] H := hT
                                    refine lv_if_eq (tgt := 90) hx hb dX11_factor_81 (by decide) (fun cc => absurd cc (by decide +kernel)) (fun _ => ?_)
                                    refine lv_iinc (v := 3) (lv' := [(3, .int 3), (4, .int 1), (0, .ref h0), (1, .int x1), (2, .int x2)]) hx hb dX11_factor_84 hl (k := 0) rfl (by decide) (by decide) rfl (fun ls hl => ?_)
                                    refine lv_goto (tgt := 45) hx hb dX11_factor_87 (by decide) ?_
                                    refine lv_aload_n hx hb dX11_factor_45 rfl (lv_at hl 2 rfl) ?_
                                    refine lv_iload hx hb dX11_factor_46 (lv_at hl 1 rfl) ?_
                                    refine lv_iload_n hx hb dX11_factor_48 rfl (lv_at hl 4 rfl) ?_
                                    refine lv_iconst (v := 1) hx hb dX11_factor_49 (by decide) ?_
                                    refine lv_icmp_ne (tgt := 57) hx hb dX11_factor_50 (by decide) (fun c_615 => ?_) (fun c_615 => ?_)
                                    · skip
                                      have c_615 := ni_ne c_615 rfl li_1
                                      refine lv_iconst (v := 1) hx hb dX11_factor_57 (by decide) ?_
                                      refine lv_iload_n hx hb dX11_factor_58 rfl (lv_at hl 4 rfl) ?_
                                      refine lv_iconst (v := 3) hx hb dX11_factor_59 (by decide) ?_
                                      refine lv_icmp_ne (tgt := 67) hx hb dX11_factor_60 (by decide) (fun c_616 => ?_) (fun c_616 => ?_)
                                      · skip
                                        have c_616 := ni_ne c_616 rfl li_3
                                        refine lv_iload_n hx hb dX11_factor_67 rfl (lv_at hl 4 rfl) ?_
                                        refine lv_bipush (v := 6) hx hb dX11_factor_68 (by decide) ?_
                                        refine lv_icmp_ne (tgt := 77) hx hb dX11_factor_70 (by decide) (fun c_617 => ?_) (fun c_617 => ?_)
                                        · skip
                                          have c_617 := ni_ne c_617 rfl li_6
                                          refine lv_iconst (v := 0) hx hb dX11_factor_77 (by decide) ?_
                                          have q_q619 := li_1
                                          have q_q620 := li_1
                                          have q_q621 := li_0
                                          refine tcI (Tc := [(h0, ob 8 [.int h0f0, .int h0f1, .int h0f2, .int h0f3, .int h0f4, .int h0f5, .ref h1, .ref h2, .int h0f8, .int h0f9, .ref h3, .ref h4, .ref h5, .ref h6, .ref h7, .ref h8, .ref h9, .int h0f17, .int h0f18, .int h0f19, .ref h10, .ref h11, .ref h12, .ref h13, .int h0f24, .int h0f25, .ref h14, .ref h15, .ref h16, .ref h17, .int h0f30, .int h0f31, .ref h18, .ref h19, .ref h20, .ref h21]), (h7, aJ (k 1) 4 (zJ [1, 2, 3]))]) (Tr := [(h1, aI (k 0) 36 anI), (h4, aJ (k 1) 9 anJ), (h5, aJ (k 1) 9 anJ)]) (as := [h0, h7]) (zcV (q0 := 1) (ci := 8) (As := [.int 1, .int 1, .int 0]) (rest := []) (Tc := [(h0, ob 8 [.int h0f0, .int h0f1, .int h0f2, .int h0f3, .int h0f4, .int h0f5, .ref h1, .ref h2, .int h0f8, .int h0f9, .ref h3, .ref h4, .ref h5, .ref h6, .ref h7, .ref h8, .ref h9, .int h0f17, .int h0f18, .int h0f19, .ref h10, .ref h11, .ref h12, .ref h13, .int h0f24, .int h0f25, .ref h14, .ref h15, .ref h16, .ref h17, .int h0f30, .int h0f31, .ref h18, .ref h19, .ref h20, .ref h21]), (h7, aJ (k 1) 4 (zJ [1, 2, 3]))]) hx hb hml hown hU hK hT rfl rfl [1, 4] rfl (by decide) (cX11_takesOut_51a3e l D k _ h0 h7 h1 h2 h3 h4 h5 h6 h8 h9 h10 h11 h12 h13 h14 h15 h16 h17 h18 h19 h20 h21 (1) (1) (0) h0f0 h0f1 h0f2 h0f3 h0f4 h0f5 h0f8 h0f9 h0f17 h0f18 h0f19 h0f24 h0f25 h0f30 h0f31 (by have := li_1; omega) (by have := li_1; omega) (by have := li_0; omega) (by omega) (by omega) (by omega) (by omega) (by omega) (by omega) (by omega) (by omega) (by omega) (by omega) (by omega) (by omega) (by omega)) w999 w996 w998 w41 w72 hdX11_takesOut ⟨rfl, rfl⟩ ⟨Nat.le_of_ble_eq_true rfl, Nat.le_of_ble_eq_true rfl⟩ rfl hl.1 (Nat.le_of_ble_eq_true rfl) dX11_factor_78 ⟨Nat.le_of_ble_eq_true rfl, Nat.le_of_ble_eq_true rfl⟩) hT hS hA [1, 4] [0, 2, 3] rfl rfl rfl (by decide) (by decide) (fun r618 H locs hB J hS => ?_)
                                          obtain ⟨rfl, hT1⟩ := hB
                                          have hT := J _ hT1
                                          have hT : TP D A [(h1, aI (k 0) 36 anI), (h4, aJ (k 1) 9 anJ), (h5, aJ (k 1) 9 anJ), (h0, ob 8 [.int h0f0, .int h0f1, .int h0f2, .int h0f3, .int h0f4, .int h0f5, .ref h1, .ref h2, .int h0f8, .int h0f9, .ref h3, .ref h4, .ref h5, .ref h6, .ref h7, .ref h8, .ref h9, .int h0f17, .int h0f18, .int h0f19, .ref h10, .ref h11, .ref h12, .ref h13, .int h0f24, .int h0f25, .ref h14, .ref h15, .ref h16, .ref h17, .int h0f30, .int h0f31, .ref h18, .ref h19, .ref h20, .ref h21]), (h7, aJ (k 1) 4 anJ)] H := hT
                                          refine lv_if_eq (tgt := 90) hx hb dX11_factor_81 (by decide) (fun _ => ?_) (fun cc => absurd (by decide +kernel) cc)
                                          refine lv_iload_n hx hb dX11_factor_90 rfl (lv_at hl 0 rfl) ?_
                                          exact tz_retI (B := B_cX11_factor_03481 D k h0 h1 h4 h5 h7 h2 h3 h6 h8 h9 h10 h11 h12 h13 h14 h15 h16 h17 h18 h19 h20 h21 x1 x2 h0f0 h0f1 h0f2 h0f3 h0f4 h0f5 h0f8 h0f9 h0f17 h0f18 h0f19 h0f24 h0f25 h0f30 h0f31) (v := 3) hQ hx hb hr hlocks hS (Nat.le_of_ble_eq_true rfl) (Nat.le_of_ble_eq_true rfl) dX11_factor_91 (⟨(by have := li_3; omega), (hT.sub [3, 0, 1, 2, 4] (by decide) rfl)⟩)
                                        · skip
                                          have c_617 := ni_eq c_617 rfl li_6
                                          exfalso; omega
                                      · skip
                                        have c_616 := ni_eq c_616 rfl li_3
                                        exfalso; omega
                                    · skip
                                      have c_615 := ni_eq c_615 rfl li_1
                                      exfalso; omega
                                · skip
                                  have c_602 := ni_eq c_602 rfl li_6
                                  exfalso; omega
                              · skip
                                have c_601 := ni_eq c_601 rfl li_3
                                exfalso; omega
                            · skip
                              have c_600 := ni_eq c_600 rfl li_1
                              exfalso; omega
                          · skip
                            have hT := J _ hT1
                            have hT : TP D A [(h1, aI (k 0) 36 anI), (h0, ob 8 [.int h0f0, .int h0f1, .int h0f2, .int h0f3, .int h0f4, .int h0f5, .ref h1, .ref h2, .int h0f8, .int h0f9, .ref h3, .ref h4, .ref h5, .ref h6, .ref h7, .ref h8, .ref h9, .int h0f17, .int h0f18, .int h0f19, .ref h10, .ref h11, .ref h12, .ref h13, .int h0f24, .int h0f25, .ref h14, .ref h15, .ref h16, .ref h17, .int h0f30, .int h0f31, .ref h18, .ref h19, .ref h20, .ref h21]), (h4, aJ (k 1) 9 anJ), (h5, aJ (k 1) 9 anJ), (h7, aJ (k 1) 4 (zJ [2, 3]))] H := hT
                            exfalso; omega
                        · skip
                          have c_545 := ni_eq c_545 rfl li_6
                          exfalso; omega
                      · skip
                        have c_544 := ni_eq c_544 rfl li_3
                        exfalso; omega
                    · skip
                      have c_543 := ni_eq c_543 rfl li_1
                      exfalso; omega
                  · skip
                    have hT := J _ hT1
                    have hT : TP D A [(h1, aI (k 0) 36 anI), (h0, ob 8 [.int h0f0, .int h0f1, .int h0f2, .int h0f3, .int h0f4, .int h0f5, .ref h1, .ref h2, .int h0f8, .int h0f9, .ref h3, .ref h4, .ref h5, .ref h6, .ref h7, .ref h8, .ref h9, .int h0f17, .int h0f18, .int h0f19, .ref h10, .ref h11, .ref h12, .ref h13, .int h0f24, .int h0f25, .ref h14, .ref h15, .ref h16, .ref h17, .int h0f30, .int h0f31, .ref h18, .ref h19, .ref h20, .ref h21]), (h4, aJ (k 1) 9 anJ), (h5, aJ (k 1) 9 anJ), (h7, aJ (k 1) 4 (zJ [3]))] H := hT
                    refine lv_if_eq (tgt := 90) hx hb dX11_factor_81 (by decide) (fun cc => absurd cc (by decide +kernel)) (fun _ => ?_)
                    refine lv_iinc (v := 1) (lv' := [(3, .int 1), (4, .int 1), (0, .ref h0), (1, .int x1), (2, .int x2)]) hx hb dX11_factor_84 hl (k := 1) rfl (by decide) (by decide) rfl (fun ls hl => ?_)
                    refine lv_goto (tgt := 45) hx hb dX11_factor_87 (by decide) ?_
                    refine lv_aload_n hx hb dX11_factor_45 rfl (lv_at hl 2 rfl) ?_
                    refine lv_iload hx hb dX11_factor_46 (lv_at hl 1 rfl) ?_
                    refine lv_iload_n hx hb dX11_factor_48 rfl (lv_at hl 4 rfl) ?_
                    refine lv_iconst (v := 1) hx hb dX11_factor_49 (by decide) ?_
                    refine lv_icmp_ne (tgt := 57) hx hb dX11_factor_50 (by decide) (fun c_622 => ?_) (fun c_622 => ?_)
                    · skip
                      have c_622 := ni_ne c_622 rfl li_1
                      refine lv_iconst (v := 1) hx hb dX11_factor_57 (by decide) ?_
                      refine lv_iload_n hx hb dX11_factor_58 rfl (lv_at hl 4 rfl) ?_
                      refine lv_iconst (v := 3) hx hb dX11_factor_59 (by decide) ?_
                      refine lv_icmp_ne (tgt := 67) hx hb dX11_factor_60 (by decide) (fun c_623 => ?_) (fun c_623 => ?_)
                      · skip
                        have c_623 := ni_ne c_623 rfl li_3
                        refine lv_iload_n hx hb dX11_factor_67 rfl (lv_at hl 4 rfl) ?_
                        refine lv_bipush (v := 6) hx hb dX11_factor_68 (by decide) ?_
                        refine lv_icmp_ne (tgt := 77) hx hb dX11_factor_70 (by decide) (fun c_624 => ?_) (fun c_624 => ?_)
                        · skip
                          have c_624 := ni_ne c_624 rfl li_6
                          refine lv_iconst (v := 0) hx hb dX11_factor_77 (by decide) ?_
                          have q_q626 := li_1
                          have q_q627 := li_1
                          have q_q628 := li_0
                          refine tcI (Tc := [(h0, ob 8 [.int h0f0, .int h0f1, .int h0f2, .int h0f3, .int h0f4, .int h0f5, .ref h1, .ref h2, .int h0f8, .int h0f9, .ref h3, .ref h4, .ref h5, .ref h6, .ref h7, .ref h8, .ref h9, .int h0f17, .int h0f18, .int h0f19, .ref h10, .ref h11, .ref h12, .ref h13, .int h0f24, .int h0f25, .ref h14, .ref h15, .ref h16, .ref h17, .int h0f30, .int h0f31, .ref h18, .ref h19, .ref h20, .ref h21]), (h4, aJ (k 1) 9 anJ), (h5, aJ (k 1) 9 anJ), (h7, aJ (k 1) 4 (zJ [3]))]) (Tr := [(h1, aI (k 0) 36 anI)]) (as := [h0, h4, h5, h7]) (zcV (q0 := 1) (ci := 8) (As := [.int 1, .int 1, .int 0]) (rest := []) (Tc := [(h0, ob 8 [.int h0f0, .int h0f1, .int h0f2, .int h0f3, .int h0f4, .int h0f5, .ref h1, .ref h2, .int h0f8, .int h0f9, .ref h3, .ref h4, .ref h5, .ref h6, .ref h7, .ref h8, .ref h9, .int h0f17, .int h0f18, .int h0f19, .ref h10, .ref h11, .ref h12, .ref h13, .int h0f24, .int h0f25, .ref h14, .ref h15, .ref h16, .ref h17, .int h0f30, .int h0f31, .ref h18, .ref h19, .ref h20, .ref h21]), (h4, aJ (k 1) 9 anJ), (h5, aJ (k 1) 9 anJ), (h7, aJ (k 1) 4 (zJ [3]))]) hx hb hml hown hU hK hT rfl rfl [1, 2, 3, 4] rfl (by decide) (cX11_takesOut_75942 l D k _ h0 h4 h5 h7 h1 h2 h3 h6 h8 h9 h10 h11 h12 h13 h14 h15 h16 h17 h18 h19 h20 h21 (1) (1) (0) h0f0 h0f1 h0f2 h0f3 h0f4 h0f5 h0f8 h0f9 h0f17 h0f18 h0f19 h0f24 h0f25 h0f30 h0f31 (by have := li_1; omega) (by have := li_1; omega) (by have := li_0; omega) (by omega) (by omega) (by omega) (by omega) (by omega) (by omega) (by omega) (by omega) (by omega) (by omega) (by omega) (by omega) (by omega)) w999 w996 w998 w41 w72 hdX11_takesOut ⟨rfl, rfl⟩ ⟨Nat.le_of_ble_eq_true rfl, Nat.le_of_ble_eq_true rfl⟩ rfl hl.1 (Nat.le_of_ble_eq_true rfl) dX11_factor_78 ⟨Nat.le_of_ble_eq_true rfl, Nat.le_of_ble_eq_true rfl⟩) hT hS hA [1, 2, 3, 4] [0] rfl rfl rfl (by decide) (by decide) (fun r625 H locs hB J hS => ?_)
                          rcases hB with ⟨rfl, hT1⟩ | ⟨v629, v630, b_v630, c_631, c_632, c_633, c_634, c_635, c_636, c_637, rfl, hT1⟩ | ⟨v638, v639, v640, b_v638, b_v640, c_641, c_642, c_643, c_644, c_645, c_646, c_647, rfl, hT1⟩ | ⟨v648, v649, v650, b_v649, b_v650, c_651, c_652, c_653, c_654, c_655, c_656, rfl, hT1⟩
                          · skip
                            have hT := J _ hT1
                            have hT : TP D A [(h1, aI (k 0) 36 anI), (h0, ob 8 [.int h0f0, .int h0f1, .int h0f2, .int h0f3, .int h0f4, .int h0f5, .ref h1, .ref h2, .int h0f8, .int h0f9, .ref h3, .ref h4, .ref h5, .ref h6, .ref h7, .ref h8, .ref h9, .int h0f17, .int h0f18, .int h0f19, .ref h10, .ref h11, .ref h12, .ref h13, .int h0f24, .int h0f25, .ref h14, .ref h15, .ref h16, .ref h17, .int h0f30, .int h0f31, .ref h18, .ref h19, .ref h20, .ref h21]), (h4, aJ (k 1) 9 anJ), (h5, aJ (k 1) 9 anJ), (h7, aJ (k 1) 4 anJ)] H := hT
                            refine lv_if_eq (tgt := 90) hx hb dX11_factor_81 (by decide) (fun _ => ?_) (fun cc => absurd (by decide +kernel) cc)
                            refine lv_iload_n hx hb dX11_factor_90 rfl (lv_at hl 0 rfl) ?_
                            exact tz_retI (B := B_cX11_factor_03481 D k h0 h1 h4 h5 h7 h2 h3 h6 h8 h9 h10 h11 h12 h13 h14 h15 h16 h17 h18 h19 h20 h21 x1 x2 h0f0 h0f1 h0f2 h0f3 h0f4 h0f5 h0f8 h0f9 h0f17 h0f18 h0f19 h0f24 h0f25 h0f30 h0f31) (v := 1) hQ hx hb hr hlocks hS (Nat.le_of_ble_eq_true rfl) (Nat.le_of_ble_eq_true rfl) dX11_factor_91 (⟨(by have := li_1; omega), (hT.sub [1, 0, 2, 3, 4] (by decide) rfl)⟩)
                          · skip
                            have hT := J _ hT1
                            have hT : TP D A [(h1, aI (k 0) 36 anI), (h0, ob 8 [.int h0f0, .int h0f1, .int h0f2, .int h0f3, .int h0f4, .int h0f5, .ref h1, .ref h2, .int h0f8, .int h0f9, .ref h3, .ref h4, .ref h5, .ref h6, .ref h7, .ref h8, .ref h9, .int h0f17, .int h0f18, .int h0f19, .ref h10, .ref h11, .ref h12, .ref h13, .int h0f24, .int h0f25, .ref h14, .ref h15, .ref h16, .ref h17, .int h0f30, .int h0f31, .ref h18, .ref h19, .ref h20, .ref h21]), (h4, aJ (k 1) 9 anJ), (h5, aJ (k 1) 9 anJ), (h7, aJ (k 1) 4 (zJ [2, 3]))] H := hT
                            refine lv_if_eq (tgt := 90) hx hb dX11_factor_81 (by decide) (fun cc => absurd cc (by decide +kernel)) (fun _ => ?_)
                            refine lv_iinc (v := 2) (lv' := [(3, .int 2), (4, .int 1), (0, .ref h0), (1, .int x1), (2, .int x2)]) hx hb dX11_factor_84 hl (k := 0) rfl (by decide) (by decide) rfl (fun ls hl => ?_)
                            refine lv_goto (tgt := 45) hx hb dX11_factor_87 (by decide) ?_
                            refine lv_aload_n hx hb dX11_factor_45 rfl (lv_at hl 2 rfl) ?_
                            refine lv_iload hx hb dX11_factor_46 (lv_at hl 1 rfl) ?_
                            refine lv_iload_n hx hb dX11_factor_48 rfl (lv_at hl 4 rfl) ?_
                            refine lv_iconst (v := 1) hx hb dX11_factor_49 (by decide) ?_
                            refine lv_icmp_ne (tgt := 57) hx hb dX11_factor_50 (by decide) (fun c_657 => ?_) (fun c_657 => ?_)
                            · skip
                              have c_657 := ni_ne c_657 rfl li_1
                              refine lv_iconst (v := 1) hx hb dX11_factor_57 (by decide) ?_
                              refine lv_iload_n hx hb dX11_factor_58 rfl (lv_at hl 4 rfl) ?_
                              refine lv_iconst (v := 3) hx hb dX11_factor_59 (by decide) ?_
                              refine lv_icmp_ne (tgt := 67) hx hb dX11_factor_60 (by decide) (fun c_658 => ?_) (fun c_658 => ?_)
                              · skip
                                have c_658 := ni_ne c_658 rfl li_3
                                refine lv_iload_n hx hb dX11_factor_67 rfl (lv_at hl 4 rfl) ?_
                                refine lv_bipush (v := 6) hx hb dX11_factor_68 (by decide) ?_
                                refine lv_icmp_ne (tgt := 77) hx hb dX11_factor_70 (by decide) (fun c_659 => ?_) (fun c_659 => ?_)
                                · skip
                                  have c_659 := ni_ne c_659 rfl li_6
                                  refine lv_iconst (v := 0) hx hb dX11_factor_77 (by decide) ?_
                                  have q_q661 := li_1
                                  have q_q662 := li_1
                                  have q_q663 := li_0
                                  refine tcI (Tc := [(h0, ob 8 [.int h0f0, .int h0f1, .int h0f2, .int h0f3, .int h0f4, .int h0f5, .ref h1, .ref h2, .int h0f8, .int h0f9, .ref h3, .ref h4, .ref h5, .ref h6, .ref h7, .ref h8, .ref h9, .int h0f17, .int h0f18, .int h0f19, .ref h10, .ref h11, .ref h12, .ref h13, .int h0f24, .int h0f25, .ref h14, .ref h15, .ref h16, .ref h17, .int h0f30, .int h0f31, .ref h18, .ref h19, .ref h20, .ref h21]), (h4, aJ (k 1) 9 anJ), (h5, aJ (k 1) 9 anJ), (h7, aJ (k 1) 4 (zJ [2, 3]))]) (Tr := [(h1, aI (k 0) 36 anI)]) (as := [h0, h4, h5, h7]) (zcV (q0 := 1) (ci := 8) (As := [.int 1, .int 1, .int 0]) (rest := []) (Tc := [(h0, ob 8 [.int h0f0, .int h0f1, .int h0f2, .int h0f3, .int h0f4, .int h0f5, .ref h1, .ref h2, .int h0f8, .int h0f9, .ref h3, .ref h4, .ref h5, .ref h6, .ref h7, .ref h8, .ref h9, .int h0f17, .int h0f18, .int h0f19, .ref h10, .ref h11, .ref h12, .ref h13, .int h0f24, .int h0f25, .ref h14, .ref h15, .ref h16, .ref h17, .int h0f30, .int h0f31, .ref h18, .ref h19, .ref h20, .ref h21]), (h4, aJ (k 1) 9 anJ), (h5, aJ (k 1) 9 anJ), (h7, aJ (k 1) 4 (zJ [2, 3]))]) hx hb hml hown hU hK hT rfl rfl [1, 2, 3, 4] rfl (by decide) (cX11_takesOut_c755e l D k _ h0 h4 h5 h7 h1 h2 h3 h6 h8 h9 h10 h11 h12 h13 h14 h15 h16 h17 h18 h19 h20 h21 (1) (1) (0) h0f0 h0f1 h0f2 h0f3 h0f4 h0f5 h0f8 h0f9 h0f17 h0f18 h0f19 h0f24 h0f25 h0f30 h0f31 (by have := li_1; omega) (by have := li_1; omega) (by have := li_0; omega) (by omega) (by omega) (by omega) (by omega) (by omega) (by omega) (by omega) (by omega) (by omega) (by omega) (by omega) (by omega) (by omega)) w999 w996 w998 w41 w72 hdX11_takesOut ⟨rfl, rfl⟩ ⟨Nat.le_of_ble_eq_true rfl, Nat.le_of_ble_eq_true rfl⟩ rfl hl.1 (Nat.le_of_ble_eq_true rfl) dX11_factor_78 ⟨Nat.le_of_ble_eq_true rfl, Nat.le_of_ble_eq_true rfl⟩) hT hS hA [1, 2, 3, 4] [0] rfl rfl rfl (by decide) (by decide) (fun r660 H locs hB J hS => ?_)
                                  rcases hB with ⟨rfl, hT1⟩ | ⟨v664, v665, b_v665, c_666, c_667, c_668, c_669, c_670, c_671, rfl, hT1⟩
                                  · skip
                                    have hT := J _ hT1
                                    have hT : TP D A [(h1, aI (k 0) 36 anI), (h0, ob 8 [.int h0f0, .int h0f1, .int h0f2, .int h0f3, .int h0f4, .int h0f5, .ref h1, .ref h2, .int h0f8, .int h0f9, .ref h3, .ref h4, .ref h5, .ref h6, .ref h7, .ref h8, .ref h9, .int h0f17, .int h0f18, .int h0f19, .ref h10, .ref h11, .ref h12, .ref h13, .int h0f24, .int h0f25, .ref h14, .ref h15, .ref h16, .ref h17, .int h0f30, .int h0f31, .ref h18, .ref h19, .ref h20, .ref h21]), (h4, aJ (k 1) 9 anJ), (h5, aJ (k 1) 9 anJ), (h7, aJ (k 1) 4 anJ)] H := hT
                                    refine lv_if_eq (tgt := 90) hx hb dX11_factor_81 (by decide) (fun _ => ?_) (fun cc => absurd (by decide +kernel) cc)
                                    refine lv_iload_n hx hb dX11_factor_90 rfl (lv_at hl 0 rfl) ?_
                                    exact tz_retI (B := B_cX11_factor_03481 D k h0 h1 h4 h5 h7 h2 h3 h6 h8 h9 h10 h11 h12 h13 h14 h15 h16 h17 h18 h19 h20 h21 x1 x2 h0f0 h0f1 h0f2 h0f3 h0f4 h0f5 h0f8 h0f9 h0f17 h0f18 h0f19 h0f24 h0f25 h0f30 h0f31) (v := 2) hQ hx hb hr hlocks hS (Nat.le_of_ble_eq_true rfl) (Nat.le_of_ble_eq_true rfl) dX11_factor_91 (⟨(by have := li_2; omega), (hT.sub [1, 0, 2, 3, 4] (by decide) rfl)⟩)
                                  · skip
                                    have hT := J _ hT1
                                    have hT : TP D A [(h1, aI (k 0) 36 anI), (h0, ob 8 [.int h0f0, .int h0f1, .int h0f2, .int h0f3, .int h0f4, .int h0f5, .ref h1, .ref h2, .int h0f8, .int h0f9, .ref h3, .ref h4, .ref h5, .ref h6, .ref h7, .ref h8, .ref h9, .int h0f17, .int h0f18, .int h0f19, .ref h10, .ref h11, .ref h12, .ref h13, .int h0f24, .int h0f25, .ref h14, .ref h15, .ref h16, .ref h17, .int h0f30, .int h0f31, .ref h18, .ref h19, .ref h20, .ref h21]), (h4, aJ (k 1) 9 anJ), (h5, aJ (k 1) 9 anJ), (h7, aJ (k 1) 4 (zJ [1, 2, 3]))] H := hT
                                    refine lv_if_eq (tgt := 90) hx hb dX11_factor_81 (by decide) (fun cc => absurd cc (by decide +kernel)) (fun _ => ?_)
                                    refine lv_iinc (v := 3) (lv' := [(3, .int 3), (4, .int 1), (0, .ref h0), (1, .int x1), (2, .int x2)]) hx hb dX11_factor_84 hl (k := 0) rfl (by decide) (by decide) rfl (fun ls hl => ?_)
                                    refine lv_goto (tgt := 45) hx hb dX11_factor_87 (by decide) ?_
                                    refine lv_aload_n hx hb dX11_factor_45 rfl (lv_at hl 2 rfl) ?_
                                    refine lv_iload hx hb dX11_factor_46 (lv_at hl 1 rfl) ?_
                                    refine lv_iload_n hx hb dX11_factor_48 rfl (lv_at hl 4 rfl) ?_
                                    refine lv_iconst (v := 1) hx hb dX11_factor_49 (by decide) ?_
                                    refine lv_icmp_ne (tgt := 57) hx hb dX11_factor_50 (by decide) (fun c_672 => ?_) (fun c_672 => ?_)
                                    · skip
                                      have c_672 := ni_ne c_672 rfl li_1
                                      refine lv_iconst (v := 1) hx hb dX11_factor_57 (by decide) ?_
                                      refine lv_iload_n hx hb dX11_factor_58 rfl (lv_at hl 4 rfl) ?_
                                      refine lv_iconst (v := 3) hx hb dX11_factor_59 (by decide) ?_
                                      refine lv_icmp_ne (tgt := 67) hx hb dX11_factor_60 (by decide) (fun c_673 => ?_) (fun c_673 => ?_)
                                      · skip
                                        have c_673 := ni_ne c_673 rfl li_3
                                        refine lv_iload_n hx hb dX11_factor_67 rfl (lv_at hl 4 rfl) ?_
                                        refine lv_bipush (v := 6) hx hb dX11_factor_68 (by decide) ?_
                                        refine lv_icmp_ne (tgt := 77) hx hb dX11_factor_70 (by decide) (fun c_674 => ?_) (fun c_674 => ?_)
                                        · skip
                                          have c_674 := ni_ne c_674 rfl li_6
                                          refine lv_iconst (v := 0) hx hb dX11_factor_77 (by decide) ?_
                                          have q_q676 := li_1
                                          have q_q677 := li_1
                                          have q_q678 := li_0
                                          refine tcI (Tc := [(h0, ob 8 [.int h0f0, .int h0f1, .int h0f2, .int h0f3, .int h0f4, .int h0f5, .ref h1, .ref h2, .int h0f8, .int h0f9, .ref h3, .ref h4, .ref h5, .ref h6, .ref h7, .ref h8, .ref h9, .int h0f17, .int h0f18, .int h0f19, .ref h10, .ref h11, .ref h12, .ref h13, .int h0f24, .int h0f25, .ref h14, .ref h15, .ref h16, .ref h17, .int h0f30, .int h0f31, .ref h18, .ref h19, .ref h20, .ref h21]), (h7, aJ (k 1) 4 (zJ [1, 2, 3]))]) (Tr := [(h1, aI (k 0) 36 anI), (h4, aJ (k 1) 9 anJ), (h5, aJ (k 1) 9 anJ)]) (as := [h0, h7]) (zcV (q0 := 1) (ci := 8) (As := [.int 1, .int 1, .int 0]) (rest := []) (Tc := [(h0, ob 8 [.int h0f0, .int h0f1, .int h0f2, .int h0f3, .int h0f4, .int h0f5, .ref h1, .ref h2, .int h0f8, .int h0f9, .ref h3, .ref h4, .ref h5, .ref h6, .ref h7, .ref h8, .ref h9, .int h0f17, .int h0f18, .int h0f19, .ref h10, .ref h11, .ref h12, .ref h13, .int h0f24, .int h0f25, .ref h14, .ref h15, .ref h16, .ref h17, .int h0f30, .int h0f31, .ref h18, .ref h19, .ref h20, .ref h21]), (h7, aJ (k 1) 4 (zJ [1, 2, 3]))]) hx hb hml hown hU hK hT rfl rfl [1, 4] rfl (by decide) (cX11_takesOut_51a3e l D k _ h0 h7 h1 h2 h3 h4 h5 h6 h8 h9 h10 h11 h12 h13 h14 h15 h16 h17 h18 h19 h20 h21 (1) (1) (0) h0f0 h0f1 h0f2 h0f3 h0f4 h0f5 h0f8 h0f9 h0f17 h0f18 h0f19 h0f24 h0f25 h0f30 h0f31 (by have := li_1; omega) (by have := li_1; omega) (by have := li_0; omega) (by omega) (by omega) (by omega) (by omega) (by omega) (by omega) (by omega) (by omega) (by omega) (by omega) (by omega) (by omega) (by omega)) w999 w996 w998 w41 w72 hdX11_takesOut ⟨rfl, rfl⟩ ⟨Nat.le_of_ble_eq_true rfl, Nat.le_of_ble_eq_true rfl⟩ rfl hl.1 (Nat.le_of_ble_eq_true rfl) dX11_factor_78 ⟨Nat.le_of_ble_eq_true rfl, Nat.le_of_ble_eq_true rfl⟩) hT hS hA [1, 4] [0, 2, 3] rfl rfl rfl (by decide) (by decide) (fun r675 H locs hB J hS => ?_)
                                          obtain ⟨rfl, hT1⟩ := hB
                                          have hT := J _ hT1
                                          have hT : TP D A [(h1, aI (k 0) 36 anI), (h4, aJ (k 1) 9 anJ), (h5, aJ (k 1) 9 anJ), (h0, ob 8 [.int h0f0, .int h0f1, .int h0f2, .int h0f3, .int h0f4, .int h0f5, .ref h1, .ref h2, .int h0f8, .int h0f9, .ref h3, .ref h4, .ref h5, .ref h6, .ref h7, .ref h8, .ref h9, .int h0f17, .int h0f18, .int h0f19, .ref h10, .ref h11, .ref h12, .ref h13, .int h0f24, .int h0f25, .ref h14, .ref h15, .ref h16, .ref h17, .int h0f30, .int h0f31, .ref h18, .ref h19, .ref h20, .ref h21]), (h7, aJ (k 1) 4 anJ)] H := hT
                                          refine lv_if_eq (tgt := 90) hx hb dX11_factor_81 (by decide) (fun _ => ?_) (fun cc => absurd (by decide +kernel) cc)
                                          refine lv_iload_n hx hb dX11_factor_90 rfl (lv_at hl 0 rfl) ?_
                                          exact tz_retI (B := B_cX11_factor_03481 D k h0 h1 h4 h5 h7 h2 h3 h6 h8 h9 h10 h11 h12 h13 h14 h15 h16 h17 h18 h19 h20 h21 x1 x2 h0f0 h0f1 h0f2 h0f3 h0f4 h0f5 h0f8 h0f9 h0f17 h0f18 h0f19 h0f24 h0f25 h0f30 h0f31) (v := 3) hQ hx hb hr hlocks hS (Nat.le_of_ble_eq_true rfl) (Nat.le_of_ble_eq_true rfl) dX11_factor_91 (⟨(by have := li_3; omega), (hT.sub [3, 0, 1, 2, 4] (by decide) rfl)⟩)
                                        · skip
                                          have c_674 := ni_eq c_674 rfl li_6
                                          exfalso; omega
                                      · skip
                                        have c_673 := ni_eq c_673 rfl li_3
                                        exfalso; omega
                                    · skip
                                      have c_672 := ni_eq c_672 rfl li_1
                                      exfalso; omega
                                · skip
                                  have c_659 := ni_eq c_659 rfl li_6
                                  exfalso; omega
                              · skip
                                have c_658 := ni_eq c_658 rfl li_3
                                exfalso; omega
                            · skip
                              have c_657 := ni_eq c_657 rfl li_1
                              exfalso; omega
                          · skip
                            have hT := J _ hT1
                            have hT : TP D A [(h1, aI (k 0) 36 anI), (h0, ob 8 [.int h0f0, .int h0f1, .int h0f2, .int h0f3, .int h0f4, .int h0f5, .ref h1, .ref h2, .int h0f8, .int h0f9, .ref h3, .ref h4, .ref h5, .ref h6, .ref h7, .ref h8, .ref h9, .int h0f17, .int h0f18, .int h0f19, .ref h10, .ref h11, .ref h12, .ref h13, .int h0f24, .int h0f25, .ref h14, .ref h15, .ref h16, .ref h17, .int h0f30, .int h0f31, .ref h18, .ref h19, .ref h20, .ref h21]), (h4, aJ (k 1) 9 anJ), (h5, aJ (k 1) 9 anJ), (h7, aJ (k 1) 4 (zJ [2, 3]))] H := hT
                            refine lv_if_eq (tgt := 90) hx hb dX11_factor_81 (by decide) (fun cc => absurd cc (by decide +kernel)) (fun _ => ?_)
                            refine lv_iinc (v := 2) (lv' := [(3, .int 2), (4, .int 1), (0, .ref h0), (1, .int x1), (2, .int x2)]) hx hb dX11_factor_84 hl (k := 0) rfl (by decide) (by decide) rfl (fun ls hl => ?_)
                            refine lv_goto (tgt := 45) hx hb dX11_factor_87 (by decide) ?_
                            refine lv_aload_n hx hb dX11_factor_45 rfl (lv_at hl 2 rfl) ?_
                            refine lv_iload hx hb dX11_factor_46 (lv_at hl 1 rfl) ?_
                            refine lv_iload_n hx hb dX11_factor_48 rfl (lv_at hl 4 rfl) ?_
                            refine lv_iconst (v := 1) hx hb dX11_factor_49 (by decide) ?_
                            refine lv_icmp_ne (tgt := 57) hx hb dX11_factor_50 (by decide) (fun c_679 => ?_) (fun c_679 => ?_)
                            · skip
                              have c_679 := ni_ne c_679 rfl li_1
                              refine lv_iconst (v := 1) hx hb dX11_factor_57 (by decide) ?_
                              refine lv_iload_n hx hb dX11_factor_58 rfl (lv_at hl 4 rfl) ?_
                              refine lv_iconst (v := 3) hx hb dX11_factor_59 (by decide) ?_
                              refine lv_icmp_ne (tgt := 67) hx hb dX11_factor_60 (by decide) (fun c_680 => ?_) (fun c_680 => ?_)
                              · skip
                                have c_680 := ni_ne c_680 rfl li_3
                                refine lv_iload_n hx hb dX11_factor_67 rfl (lv_at hl 4 rfl) ?_
                                refine lv_bipush (v := 6) hx hb dX11_factor_68 (by decide) ?_
                                refine lv_icmp_ne (tgt := 77) hx hb dX11_factor_70 (by decide) (fun c_681 => ?_) (fun c_681 => ?_)
                                · skip
                                  have c_681 := ni_ne c_681 rfl li_6
                                  refine lv_iconst (v := 0) hx hb dX11_factor_77 (by decide) ?_
                                  have q_q683 := li_1
                                  have q_q684 := li_1
                                  have q_q685 := li_0
                                  refine tcI (Tc := [(h0, ob 8 [.int h0f0, .int h0f1, .int h0f2, .int h0f3, .int h0f4, .int h0f5, .ref h1, .ref h2, .int h0f8, .int h0f9, .ref h3, .ref h4, .ref h5, .ref h6, .ref h7, .ref h8, .ref h9, .int h0f17, .int h0f18, .int h0f19, .ref h10, .ref h11, .ref h12, .ref h13, .int h0f24, .int h0f25, .ref h14, .ref h15, .ref h16, .ref h17, .int h0f30, .int h0f31, .ref h18, .ref h19, .ref h20, .ref h21]), (h4, aJ (k 1) 9 anJ), (h5, aJ (k 1) 9 anJ), (h7, aJ (k 1) 4 (zJ [2, 3]))]) (Tr := [(h1, aI (k 0) 36 anI)]) (as := [h0, h4, h5, h7]) (zcV (q0 := 1) (ci := 8) (As := [.int 1, .int 1, .int 0]) (rest := []) (Tc := [(h0, ob 8 [.int h0f0, .int h0f1, .int h0f2, .int h0f3, .int h0f4, .int h0f5, .ref h1, .ref h2, .int h0f8, .int h0f9, .ref h3, .ref h4, .ref h5, .ref h6, .ref h7, .ref h8, .ref h9, .int h0f17, .int h0f18, .int h0f19, .ref h10, .ref h11, .ref h12, .ref h13, .int h0f24, .int h0f25, .ref h14, .ref h15, .ref h16, .ref h17, .int h0f30, .int h0f31, .ref h18, .ref h19, .ref h20, .ref h21]), (h4, aJ (k 1) 9 anJ), (h5, aJ (k 1) 9 anJ), (h7, aJ (k 1) 4 (zJ [2, 3]))]) hx hb hml hown hU hK hT rfl rfl [1, 2, 3, 4] rfl (by decide) (cX11_takesOut_c755e l D k _ h0 h4 h5 h7 h1 h2 h3 h6 h8 h9 h10 h11 h12 h13 h14 h15 h16 h17 h18 h19 h20 h21 (1) (1) (0) h0f0 h0f1 h0f2 h0f3 h0f4 h0f5 h0f8 h0f9 h0f17 h0f18 h0f19 h0f24 h0f25 h0f30 h0f31 (by have := li_1; omega) (by have := li_1; omega) (by have := li_0; omega) (by omega) (by omega) (by omega) (by omega) (by omega) (by omega) (by omega) (by omega) (by omega) (by omega) (by omega) (by omega) (by omega)) w999 w996 w998 w41 w72 hdX11_takesOut ⟨rfl, rfl⟩ ⟨Nat.le_of_ble_eq_true rfl, Nat.le_of_ble_eq_true rfl⟩ rfl hl.1 (Nat.le_of_ble_eq_true rfl) dX11_factor_78 ⟨Nat.le_of_ble_eq_true rfl, Nat.le_of_ble_eq_true rfl⟩) hT hS hA [1, 2, 3, 4] [0] rfl rfl rfl (by decide) (by decide) (fun r682 H locs hB J hS => ?_)
                                  rcases hB with ⟨rfl, hT1⟩ | ⟨v686, v687, b_v687, c_688, c_689, c_690, c_691, c_692, c_693, rfl, hT1⟩
                                  · skip
                                    have hT := J _ hT1
                                    have hT : TP D A [(h1, aI (k 0) 36 anI), (h0, ob 8 [.int h0f0, .int h0f1, .int h0f2, .int h0f3, .int h0f4, .int h0f5, .ref h1, .ref h2, .int h0f8, .int h0f9, .ref h3, .ref h4, .ref h5, .ref h6, .ref h7, .ref h8, .ref h9, .int h0f17, .int h0f18, .int h0f19, .ref h10, .ref h11, .ref h12, .ref h13, .int h0f24, .int h0f25, .ref h14, .ref h15, .ref h16, .ref h17, .int h0f30, .int h0f31, .ref h18, .ref h19, .ref h20, .ref h21]), (h4, aJ (k 1) 9 anJ), (h5, aJ (k 1) 9 anJ), (h7, aJ (k 1) 4 anJ)] H := hT
                                    refine lv_if_eq (tgt := 90) hx hb dX11_factor_81 (by decide) (fun _ => ?_) (fun cc => absurd (by decide +kernel) cc)
                                    refine lv_iload_n hx hb dX11_factor_90 rfl (lv_at hl 0 rfl) ?_
                                    exact tz_retI (B := B_cX11_factor_03481 D k h0 h1 h4 h5 h7 h2 h3 h6 h8 h9 h10 h11 h12 h13 h14 h15 h16 h17 h18 h19 h20 h21 x1 x2 h0f0 h0f1 h0f2 h0f3 h0f4 h0f5 h0f8 h0f9 h0f17 h0f18 h0f19 h0f24 h0f25 h0f30 h0f31) (v := 2) hQ hx hb hr hlocks hS (Nat.le_of_ble_eq_true rfl) (Nat.le_of_ble_eq_true rfl) dX11_factor_91 (⟨(by have := li_2; omega), (hT.sub [1, 0, 2, 3, 4] (by decide) rfl)⟩)
                                  · skip
                                    have hT := J _ hT1
                                    have hT : TP D A [(h1, aI (k 0) 36 anI), (h0, ob 8 [.int h0f0, .int h0f1, .int h0f2, .int h0f3, .int h0f4, .int h0f5, .ref h1, .ref h2, .int h0f8, .int h0f9, .ref h3, .ref h4, .ref h5, .ref h6, .ref h7, .ref h8, .ref h9, .int h0f17, .int h0f18, .int h0f19, .ref h10, .ref h11, .ref h12, .ref h13, .int h0f24, .int h0f25, .ref h14, .ref h15, .ref h16, .ref h17, .int h0f30, .int h0f31, .ref h18, .ref h19, .ref h20, .ref h21]), (h4, aJ (k 1) 9 anJ), (h5, aJ (k 1) 9 anJ), (h7, aJ (k 1) 4 (zJ [1, 2, 3]))] H := hT
                                    refine lv_if_eq (tgt := 90) hx hb dX11_factor_81 (by decide) (fun cc => absurd cc (by decide +kernel)) (fun _ => ?_)
                                    refine lv_iinc (v := 3) (lv' := [(3, .int 3), (4, .int 1), (0, .ref h0), (1, .int x1), (2, .int x2)]) hx hb dX11_factor_84 hl (k := 0) rfl (by decide) (by decide) rfl (fun ls hl => ?_)
                                    refine lv_goto (tgt := 45) hx hb dX11_factor_87 (by decide) ?_
                                    refine lv_aload_n hx hb dX11_factor_45 rfl (lv_at hl 2 rfl) ?_
                                    refine lv_iload hx hb dX11_factor_46 (lv_at hl 1 rfl) ?_
                                    refine lv_iload_n hx hb dX11_factor_48 rfl (lv_at hl 4 rfl) ?_
                                    refine lv_iconst (v := 1) hx hb dX11_factor_49 (by decide) ?_
                                    refine lv_icmp_ne (tgt := 57) hx hb dX11_factor_50 (by decide) (fun c_694 => ?_) (fun c_694 => ?_)
                                    · skip
                                      have c_694 := ni_ne c_694 rfl li_1
                                      refine lv_iconst (v := 1) hx hb dX11_factor_57 (by decide) ?_
                                      refine lv_iload_n hx hb dX11_factor_58 rfl (lv_at hl 4 rfl) ?_
                                      refine lv_iconst (v := 3) hx hb dX11_factor_59 (by decide) ?_
                                      refine lv_icmp_ne (tgt := 67) hx hb dX11_factor_60 (by decide) (fun c_695 => ?_) (fun c_695 => ?_)
                                      · skip
                                        have c_695 := ni_ne c_695 rfl li_3
                                        refine lv_iload_n hx hb dX11_factor_67 rfl (lv_at hl 4 rfl) ?_
                                        refine lv_bipush (v := 6) hx hb dX11_factor_68 (by decide) ?_
                                        refine lv_icmp_ne (tgt := 77) hx hb dX11_factor_70 (by decide) (fun c_696 => ?_) (fun c_696 => ?_)
                                        · skip
                                          have c_696 := ni_ne c_696 rfl li_6
                                          refine lv_iconst (v := 0) hx hb dX11_factor_77 (by decide) ?_
                                          have q_q698 := li_1
                                          have q_q699 := li_1
                                          have q_q700 := li_0
                                          refine tcI (Tc := [(h0, ob 8 [.int h0f0, .int h0f1, .int h0f2, .int h0f3, .int h0f4, .int h0f5, .ref h1, .ref h2, .int h0f8, .int h0f9, .ref h3, .ref h4, .ref h5, .ref h6, .ref h7, .ref h8, .ref h9, .int h0f17, .int h0f18, .int h0f19, .ref h10, .ref h11, .ref h12, .ref h13, .int h0f24, .int h0f25, .ref h14, .ref h15, .ref h16, .ref h17, .int h0f30, .int h0f31, .ref h18, .ref h19, .ref h20, .ref h21]), (h7, aJ (k 1) 4 (zJ [1, 2, 3]))]) (Tr := [(h1, aI (k 0) 36 anI), (h4, aJ (k 1) 9 anJ), (h5, aJ (k 1) 9 anJ)]) (as := [h0, h7]) (zcV (q0 := 1) (ci := 8) (As := [.int 1, .int 1, .int 0]) (rest := []) (Tc := [(h0, ob 8 [.int h0f0, .int h0f1, .int h0f2, .int h0f3, .int h0f4, .int h0f5, .ref h1, .ref h2, .int h0f8, .int h0f9, .ref h3, .ref h4, .ref h5, .ref h6, .ref h7, .ref h8, .ref h9, .int h0f17, .int h0f18, .int h0f19, .ref h10, .ref h11, .ref h12, .ref h13, .int h0f24, .int h0f25, .ref h14, .ref h15, .ref h16, .ref h17, .int h0f30, .int h0f31, .ref h18, .ref h19, .ref h20, .ref h21]), (h7, aJ (k 1) 4 (zJ [1, 2, 3]))]) hx hb hml hown hU hK hT rfl rfl [1, 4] rfl (by decide) (cX11_takesOut_51a3e l D k _ h0 h7 h1 h2 h3 h4 h5 h6 h8 h9 h10 h11 h12 h13 h14 h15 h16 h17 h18 h19 h20 h21 (1) (1) (0) h0f0 h0f1 h0f2 h0f3 h0f4 h0f5 h0f8 h0f9 h0f17 h0f18 h0f19 h0f24 h0f25 h0f30 h0f31 (by have := li_1; omega) (by have := li_1; omega) (by have := li_0; omega) (by omega) (by omega) (by omega) (by omega) (by omega) (by omega) (by omega) (by omega) (by omega) (by omega) (by omega) (by omega) (by omega)) w999 w996 w998 w41 w72 hdX11_takesOut ⟨rfl, rfl⟩ ⟨Nat.le_of_ble_eq_true rfl, Nat.le_of_ble_eq_true rfl⟩ rfl hl.1 (Nat.le_of_ble_eq_true rfl) dX11_factor_78 ⟨Nat.le_of_ble_eq_true rfl, Nat.le_of_ble_eq_true rfl⟩) hT hS hA [1, 4] [0, 2, 3] rfl rfl rfl (by decide) (by decide) (fun r697 H locs hB J hS => ?_)
                                          obtain ⟨rfl, hT1⟩ := hB
                                          have hT := J _ hT1
                                          have hT : TP D A [(h1, aI (k 0) 36 anI), (h4, aJ (k 1) 9 anJ), (h5, aJ (k 1) 9 anJ), (h0, ob 8 [.int h0f0, .int h0f1, .int h0f2, .int h0f3, .int h0f4, .int h0f5, .ref h1, .ref h2, .int h0f8, .int h0f9, .ref h3, .ref h4, .ref h5, .ref h6, .ref h7, .ref h8, .ref h9, .int h0f17, .int h0f18, .int h0f19, .ref h10, .ref h11, .ref h12, .ref h13, .int h0f24, .int h0f25, .ref h14, .ref h15, .ref h16, .ref h17, .int h0f30, .int h0f31, .ref h18, .ref h19, .ref h20, .ref h21]), (h7, aJ (k 1) 4 anJ)] H := hT
                                          refine lv_if_eq (tgt := 90) hx hb dX11_factor_81 (by decide) (fun _ => ?_) (fun cc => absurd (by decide +kernel) cc)
                                          refine lv_iload_n hx hb dX11_factor_90 rfl (lv_at hl 0 rfl) ?_
                                          exact tz_retI (B := B_cX11_factor_03481 D k h0 h1 h4 h5 h7 h2 h3 h6 h8 h9 h10 h11 h12 h13 h14 h15 h16 h17 h18 h19 h20 h21 x1 x2 h0f0 h0f1 h0f2 h0f3 h0f4 h0f5 h0f8 h0f9 h0f17 h0f18 h0f19 h0f24 h0f25 h0f30 h0f31) (v := 3) hQ hx hb hr hlocks hS (Nat.le_of_ble_eq_true rfl) (Nat.le_of_ble_eq_true rfl) dX11_factor_91 (⟨(by have := li_3; omega), (hT.sub [3, 0, 1, 2, 4] (by decide) rfl)⟩)
                                        · skip
                                          have c_696 := ni_eq c_696 rfl li_6
                                          exfalso; omega
                                      · skip
                                        have c_695 := ni_eq c_695 rfl li_3
                                        exfalso; omega
                                    · skip
                                      have c_694 := ni_eq c_694 rfl li_1
                                      exfalso; omega
                                · skip
                                  have c_681 := ni_eq c_681 rfl li_6
                                  exfalso; omega
                              · skip
                                have c_680 := ni_eq c_680 rfl li_3
                                exfalso; omega
                            · skip
                              have c_679 := ni_eq c_679 rfl li_1
                              exfalso; omega
                          · skip
                            have hT := J _ hT1
                            have hT : TP D A [(h1, aI (k 0) 36 anI), (h0, ob 8 [.int h0f0, .int h0f1, .int h0f2, .int h0f3, .int h0f4, .int h0f5, .ref h1, .ref h2, .int h0f8, .int h0f9, .ref h3, .ref h4, .ref h5, .ref h6, .ref h7, .ref h8, .ref h9, .int h0f17, .int h0f18, .int h0f19, .ref h10, .ref h11, .ref h12, .ref h13, .int h0f24, .int h0f25, .ref h14, .ref h15, .ref h16, .ref h17, .int h0f30, .int h0f31, .ref h18, .ref h19, .ref h20, .ref h21]), (h4, aJ (k 1) 9 anJ), (h5, aJ (k 1) 9 anJ), (h7, aJ (k 1) 4 (zJ [2, 3]))] H := hT
                            exfalso; omega
                        · skip
                          have c_624 := ni_eq c_624 rfl li_6
                          exfalso; omega
                      · skip
                        have c_623 := ni_eq c_623 rfl li_3
                        exfalso; omega
                    · skip
                      have c_622 := ni_eq c_622 rfl li_1
                      exfalso; omega
                  · skip
                    have hT := J _ hT1
                    have hT : TP D A [(h1, aI (k 0) 36 anI), (h0, ob 8 [.int h0f0, .int h0f1, .int h0f2, .int h0f3, .int h0f4, .int h0f5, .ref h1, .ref h2, .int h0f8, .int h0f9, .ref h3, .ref h4, .ref h5, .ref h6, .ref h7, .ref h8, .ref h9, .int h0f17, .int h0f18, .int h0f19, .ref h10, .ref h11, .ref h12, .ref h13, .int h0f24, .int h0f25, .ref h14, .ref h15, .ref h16, .ref h17, .int h0f30, .int h0f31, .ref h18, .ref h19, .ref h20, .ref h21]), (h4, aJ (k 1) 9 anJ), (h5, aJ (k 1) 9 anJ), (h7, aJ (k 1) 4 (zJ [3]))] H := hT
                    refine lv_if_eq (tgt := 90) hx hb dX11_factor_81 (by decide) (fun cc => absurd cc (by decide +kernel)) (fun _ => ?_)
                    refine lv_iinc (v := 1) (lv' := [(3, .int 1), (4, .int 1), (0, .ref h0), (1, .int x1), (2, .int x2)]) hx hb dX11_factor_84 hl (k := 1) rfl (by decide) (by decide) rfl (fun ls hl => ?_)
                    refine lv_goto (tgt := 45) hx hb dX11_factor_87 (by decide) ?_
                    refine lv_aload_n hx hb dX11_factor_45 rfl (lv_at hl 2 rfl) ?_
                    refine lv_iload hx hb dX11_factor_46 (lv_at hl 1 rfl) ?_
                    refine lv_iload_n hx hb dX11_factor_48 rfl (lv_at hl 4 rfl) ?_
                    refine lv_iconst (v := 1) hx hb dX11_factor_49 (by decide) ?_
                    refine lv_icmp_ne (tgt := 57) hx hb dX11_factor_50 (by decide) (fun c_701 => ?_) (fun c_701 => ?_)
                    · skip
                      have c_701 := ni_ne c_701 rfl li_1
                      refine lv_iconst (v := 1) hx hb dX11_factor_57 (by decide) ?_
                      refine lv_iload_n hx hb dX11_factor_58 rfl (lv_at hl 4 rfl) ?_
                      refine lv_iconst (v := 3) hx hb dX11_factor_59 (by decide) ?_
                      refine lv_icmp_ne (tgt := 67) hx hb dX11_factor_60 (by decide) (fun c_702 => ?_) (fun c_702 => ?_)
                      · skip
                        have c_702 := ni_ne c_702 rfl li_3
                        refine lv_iload_n hx hb dX11_factor_67 rfl (lv_at hl 4 rfl) ?_
                        refine lv_bipush (v := 6) hx hb dX11_factor_68 (by decide) ?_
                        refine lv_icmp_ne (tgt := 77) hx hb dX11_factor_70 (by decide) (fun c_703 => ?_) (fun c_703 => ?_)
                        · skip
                          have c_703 := ni_ne c_703 rfl li_6
                          refine lv_iconst (v := 0) hx hb dX11_factor_77 (by decide) ?_
                          have q_q705 := li_1
                          have q_q706 := li_1
                          have q_q707 := li_0
                          refine tcI (Tc := [(h0, ob 8 [.int h0f0, .int h0f1, .int h0f2, .int h0f3, .int h0f4, .int h0f5, .ref h1, .ref h2, .int h0f8, .int h0f9, .ref h3, .ref h4, .ref h5, .ref h6, .ref h7, .ref h8, .ref h9, .int h0f17, .int h0f18, .int h0f19, .ref h10, .ref h11, .ref h12, .ref h13, .int h0f24, .int h0f25, .ref h14, .ref h15, .ref h16, .ref h17, .int h0f30, .int h0f31, .ref h18, .ref h19, .ref h20, .ref h21]), (h4, aJ (k 1) 9 anJ), (h5, aJ (k 1) 9 anJ), (h7, aJ (k 1) 4 (zJ [3]))]) (Tr := [(h1, aI (k 0) 36 anI)]) (as := [h0, h4, h5, h7]) (zcV (q0 := 1) (ci := 8) (As := [.int 1, .int 1, .int 0]) (rest := []) (Tc := [(h0, ob 8 [.int h0f0, .int h0f1, .int h0f2, .int h0f3, .int h0f4, .int h0f5, .ref h1, .ref h2, .int h0f8, .int h0f9, .ref h3, .ref h4, .ref h5, .ref h6, .ref h7, .ref h8, .ref h9, .int h0f17, .int h0f18, .int h0f19, .ref h10, .ref h11, .ref h12, .ref h13, .int h0f24, .int h0f25, .ref h14, .ref h15, .ref h16, .ref h17, .int h0f30, .int h0f31, .ref h18, .ref h19, .ref h20, .ref h21]), (h4, aJ (k 1) 9 anJ), (h5, aJ (k 1) 9 anJ), (h7, aJ (k 1) 4 (zJ [3]))]) hx hb hml hown hU hK hT rfl rfl [1, 2, 3, 4] rfl (by decide) (cX11_takesOut_75942 l D k _ h0 h4 h5 h7 h1 h2 h3 h6 h8 h9 h10 h11 h12 h13 h14 h15 h16 h17 h18 h19 h20 h21 (1) (1) (0) h0f0 h0f1 h0f2 h0f3 h0f4 h0f5 h0f8 h0f9 h0f17 h0f18 h0f19 h0f24 h0f25 h0f30 h0f31 (by have := li_1; omega) (by have := li_1; omega) (by have := li_0; omega) (by omega) (by omega) (by omega) (by omega) (by omega) (by omega) (by omega) (by omega) (by omega) (by omega) (by omega) (by omega) (by omega)) w999 w996 w998 w41 w72 hdX11_takesOut ⟨rfl, rfl⟩ ⟨Nat.le_of_ble_eq_true rfl, Nat.le_of_ble_eq_true rfl⟩ rfl hl.1 (Nat.le_of_ble_eq_true rfl) dX11_factor_78 ⟨Nat.le_of_ble_eq_true rfl, Nat.le_of_ble_eq_true rfl⟩) hT hS hA [1, 2, 3, 4] [0] rfl rfl rfl (by decide) (by decide) (fun r704 H locs hB J hS => ?_)
                          rcases hB with ⟨rfl, hT1⟩ | ⟨v708, v709, b_v709, c_710, c_711, c_712, c_713, c_714, c_715, c_716, rfl, hT1⟩ | ⟨v717, v718, v719, b_v717, b_v719, c_720, c_721, c_722, c_723, c_724, c_725, c_726, rfl, hT1⟩ | ⟨v727, v728, v729, b_v728, b_v729, c_730, c_731, c_732, c_733, c_734, c_735, rfl, hT1⟩
                          · skip
                            have hT := J _ hT1
                            have hT : TP D A [(h1, aI (k 0) 36 anI), (h0, ob 8 [.int h0f0, .int h0f1, .int h0f2, .int h0f3, .int h0f4, .int h0f5, .ref h1, .ref h2, .int h0f8, .int h0f9, .ref h3, .ref h4, .ref h5, .ref h6, .ref h7, .ref h8, .ref h9, .int h0f17, .int h0f18, .int h0f19, .ref h10, .ref h11, .ref h12, .ref h13, .int h0f24, .int h0f25, .ref h14, .ref h15, .ref h16, .ref h17, .int h0f30, .int h0f31, .ref h18, .ref h19, .ref h20, .ref h21]), (h4, aJ (k 1) 9 anJ), (h5, aJ (k 1) 9 anJ), (h7, aJ (k 1) 4 anJ)] H := hT
                            refine lv_if_eq (tgt := 90) hx hb dX11_factor_81 (by decide) (fun _ => ?_) (fun cc => absurd (by decide +kernel) cc)
                            refine lv_iload_n hx hb dX11_factor_90 rfl (lv_at hl 0 rfl) ?_
                            exact tz_retI (B := B_cX11_factor_03481 D k h0 h1 h4 h5 h7 h2 h3 h6 h8 h9 h10 h11 h12 h13 h14 h15 h16 h17 h18 h19 h20 h21 x1 x2 h0f0 h0f1 h0f2 h0f3 h0f4 h0f5 h0f8 h0f9 h0f17 h0f18 h0f19 h0f24 h0f25 h0f30 h0f31) (v := 1) hQ hx hb hr hlocks hS (Nat.le_of_ble_eq_true rfl) (Nat.le_of_ble_eq_true rfl) dX11_factor_91 (⟨(by have := li_1; omega), (hT.sub [1, 0, 2, 3, 4] (by decide) rfl)⟩)
                          · skip
                            have hT := J _ hT1
                            have hT : TP D A [(h1, aI (k 0) 36 anI), (h0, ob 8 [.int h0f0, .int h0f1, .int h0f2, .int h0f3, .int h0f4, .int h0f5, .ref h1, .ref h2, .int h0f8, .int h0f9, .ref h3, .ref h4, .ref h5, .ref h6, .ref h7, .ref h8, .ref h9, .int h0f17, .int h0f18, .int h0f19, .ref h10, .ref h11, .ref h12, .ref h13, .int h0f24, .int h0f25, .ref h14, .ref h15, .ref h16, .ref h17, .int h0f30, .int h0f31, .ref h18, .ref h19, .ref h20, .ref h21]), (h4, aJ (k 1) 9 anJ), (h5, aJ (k 1) 9 anJ), (h7, aJ (k 1) 4 (zJ [2, 3]))] H := hT
                            refine lv_if_eq (tgt := 90) hx hb dX11_factor_81 (by decide) (fun cc => absurd cc (by decide +kernel)) (fun _ => ?_)
                            refine lv_iinc (v := 2) (lv' := [(3, .int 2), (4, .int 1), (0, .ref h0), (1, .int x1), (2, .int x2)]) hx hb dX11_factor_84 hl (k := 0) rfl (by decide) (by decide) rfl (fun ls hl => ?_)
                            refine lv_goto (tgt := 45) hx hb dX11_factor_87 (by decide) ?_
                            refine lv_aload_n hx hb dX11_factor_45 rfl (lv_at hl 2 rfl) ?_
                            refine lv_iload hx hb dX11_factor_46 (lv_at hl 1 rfl) ?_
                            refine lv_iload_n hx hb dX11_factor_48 rfl (lv_at hl 4 rfl) ?_
                            refine lv_iconst (v := 1) hx hb dX11_factor_49 (by decide) ?_
                            refine lv_icmp_ne (tgt := 57) hx hb dX11_factor_50 (by decide) (fun c_736 => ?_) (fun c_736 => ?_)
                            · skip
                              have c_736 := ni_ne c_736 rfl li_1
                              refine lv_iconst (v := 1) hx hb dX11_factor_57 (by decide) ?_
                              refine lv_iload_n hx hb dX11_factor_58 rfl (lv_at hl 4 rfl) ?_
                              refine lv_iconst (v := 3) hx hb dX11_factor_59 (by decide) ?_
                              refine lv_icmp_ne (tgt := 67) hx hb dX11_factor_60 (by decide) (fun c_737 => ?_) (fun c_737 => ?_)
                              · skip
                                have c_737 := ni_ne c_737 rfl li_3
                                refine lv_iload_n hx hb dX11_factor_67 rfl (lv_at hl 4 rfl) ?_
                                refine lv_bipush (v := 6) hx hb dX11_factor_68 (by decide) ?_
                                refine lv_icmp_ne (tgt := 77) hx hb dX11_factor_70 (by decide) (fun c_738 => ?_) (fun c_738 => ?_)
                                · skip
                                  have c_738 := ni_ne c_738 rfl li_6
                                  refine lv_iconst (v := 0) hx hb dX11_factor_77 (by decide) ?_
                                  have q_q740 := li_1
                                  have q_q741 := li_1
                                  have q_q742 := li_0
                                  refine tcI (Tc := [(h0, ob 8 [.int h0f0, .int h0f1, .int h0f2, .int h0f3, .int h0f4, .int h0f5, .ref h1, .ref h2, .int h0f8, .int h0f9, .ref h3, .ref h4, .ref h5, .ref h6, .ref h7, .ref h8, .ref h9, .int h0f17, .int h0f18, .int h0f19, .ref h10, .ref h11, .ref h12, .ref h13, .int h0f24, .int h0f25, .ref h14, .ref h15, .ref h16, .ref h17, .int h0f30, .int h0f31, .ref h18, .ref h19, .ref h20, .ref h21]), (h4, aJ (k 1) 9 anJ), (h5, aJ (k 1) 9 anJ), (h7, aJ (k 1) 4 (zJ [2, 3]))]) (Tr := [(h1, aI (k 0) 36 anI)]) (as := [h0, h4, h5, h7]) (zcV (q0 := 1) (ci := 8) (As := [.int 1, .int 1, .int 0]) (rest := []) (Tc := [(h0, ob 8 [.int h0f0, .int h0f1, .int h0f2, .int h0f3, .int h0f4, .int h0f5, .ref h1, .ref h2, .int h0f8, .int h0f9, .ref h3, .ref h4, .ref h5, .ref h6, .ref h7, .ref h8, .ref h9, .int h0f17, .int h0f18, .int h0f19, .ref h10, .ref h11, .ref h12, .ref h13, .int h0f24, .int h0f25, .ref h14, .ref h15, .ref h16, .ref h17, .int h0f30, .int h0f31, .ref h18, .ref h19, .ref h20, .ref h21]), (h4, aJ (k 1) 9 anJ), (h5, aJ (k 1) 9 anJ), (h7, aJ (k 1) 4 (zJ [2, 3]))]) hx hb hml hown hU hK hT rfl rfl [1, 2, 3, 4] rfl (by decide) (cX11_takesOut_c755e l D k _ h0 h4 h5 h7 h1 h2 h3 h6 h8 h9 h10 h11 h12 h13 h14 h15 h16 h17 h18 h19 h20 h21 (1) (1) (0) h0f0 h0f1 h0f2 h0f3 h0f4 h0f5 h0f8 h0f9 h0f17 h0f18 h0f19 h0f24 h0f25 h0f30 h0f31 (by have := li_1; omega) (by have := li_1; omega) (by have := li_0; omega) (by omega) (by omega) (by omega) (by omega) (by omega) (by omega) (by omega) (by omega) (by omega) (by omega) (by omega) (by omega) (by omega)) w999 w996 w998 w41 w72 hdX11_takesOut ⟨rfl, rfl⟩ ⟨Nat.le_of_ble_eq_true rfl, Nat.le_of_ble_eq_true rfl⟩ rfl hl.1 (Nat.le_of_ble_eq_true rfl) dX11_factor_78 ⟨Nat.le_of_ble_eq_true rfl, Nat.le_of_ble_eq_true rfl⟩) hT hS hA [1, 2, 3, 4] [0] rfl rfl rfl (by decide) (by decide) (fun r739 H locs hB J hS => ?_)
                                  rcases hB with ⟨rfl, hT1⟩ | ⟨v743, v744, b_v744, c_745, c_746, c_747, c_748, c_749, c_750, rfl, hT1⟩
                                  · skip
                                    have hT := J _ hT1
                                    have hT : TP D A [(h1, aI (k 0) 36 anI), (h0, ob 8 [.int h0f0, .int h0f1, .int h0f2, .int h0f3, .int h0f4, .int h0f5, .ref h1, .ref h2, .int h0f8, .int h0f9, .ref h3, .ref h4, .ref h5, .ref h6, .ref h7, .ref h8, .ref h9, .int h0f17, .int h0f18, .int h0f19, .ref h10, .ref h11, .ref h12, .ref h13, .int h0f24, .int h0f25, .ref h14, .ref h15, .ref h16, .ref h17, .int h0f30, .int h0f31, .ref h18, .ref h19, .ref h20, .ref h21]), (h4, aJ (k 1) 9 anJ), (h5, aJ (k 1) 9 anJ), (h7, aJ (k 1) 4 anJ)] H := hT
                                    refine lv_if_eq (tgt := 90) hx hb dX11_factor_81 (by decide) (fun _ => ?_) (fun cc => absurd (by decide +kernel) cc)
                                    refine lv_iload_n hx hb dX11_factor_90 rfl (lv_at hl 0 rfl) ?_
                                    exact tz_retI (B := B_cX11_factor_03481 D k h0 h1 h4 h5 h7 h2 h3 h6 h8 h9 h10 h11 h12 h13 h14 h15 h16 h17 h18 h19 h20 h21 x1 x2 h0f0 h0f1 h0f2 h0f3 h0f4 h0f5 h0f8 h0f9 h0f17 h0f18 h0f19 h0f24 h0f25 h0f30 h0f31) (v := 2) hQ hx hb hr hlocks hS (Nat.le_of_ble_eq_true rfl) (Nat.le_of_ble_eq_true rfl) dX11_factor_91 (⟨(by have := li_2; omega), (hT.sub [1, 0, 2, 3, 4] (by decide) rfl)⟩)
                                  · skip
                                    have hT := J _ hT1
                                    have hT : TP D A [(h1, aI (k 0) 36 anI), (h0, ob 8 [.int h0f0, .int h0f1, .int h0f2, .int h0f3, .int h0f4, .int h0f5, .ref h1, .ref h2, .int h0f8, .int h0f9, .ref h3, .ref h4, .ref h5, .ref h6, .ref h7, .ref h8, .ref h9, .int h0f17, .int h0f18, .int h0f19, .ref h10, .ref h11, .ref h12, .ref h13, .int h0f24, .int h0f25, .ref h14, .ref h15, .ref h16, .ref h17, .int h0f30, .int h0f31, .ref h18, .ref h19, .ref h20, .ref h21]), (h4, aJ (k 1) 9 anJ), (h5, aJ (k 1) 9 anJ), (h7, aJ (k 1) 4 (zJ [1, 2, 3]))] H := hT
                                    refine lv_if_eq (tgt := 90) hx hb dX11_factor_81 (by decide) (fun cc => absurd cc (by decide +kernel)) (fun _ => ?_)
                                    refine lv_iinc (v := 3) (lv' := [(3, .int 3), (4, .int 1), (0, .ref h0), (1, .int x1), (2, .int x2)]) hx hb dX11_factor_84 hl (k := 0) rfl (by decide) (by decide) rfl (fun ls hl => ?_)
                                    refine lv_goto (tgt := 45) hx hb dX11_factor_87 (by decide) ?_
                                    refine lv_aload_n hx hb dX11_factor_45 rfl (lv_at hl 2 rfl) ?_
                                    refine lv_iload hx hb dX11_factor_46 (lv_at hl 1 rfl) ?_
                                    refine lv_iload_n hx hb dX11_factor_48 rfl (lv_at hl 4 rfl) ?_
                                    refine lv_iconst (v := 1) hx hb dX11_factor_49 (by decide) ?_
                                    refine lv_icmp_ne (tgt := 57) hx hb dX11_factor_50 (by decide) (fun c_751 => ?_) (fun c_751 => ?_)
                                    · skip
                                      have c_751 := ni_ne c_751 rfl li_1
                                      refine lv_iconst (v := 1) hx hb dX11_factor_57 (by decide) ?_
                                      refine lv_iload_n hx hb dX11_factor_58 rfl (lv_at hl 4 rfl) ?_
                                      refine lv_iconst (v := 3) hx hb dX11_factor_59 (by decide) ?_
                                      refine lv_icmp_ne (tgt := 67) hx hb dX11_factor_60 (by decide) (fun c_752 => ?_) (fun c_752 => ?_)
                                      · skip
                                        have c_752 := ni_ne c_752 rfl li_3
                                        refine lv_iload_n hx hb dX11_factor_67 rfl (lv_at hl 4 rfl) ?_
                                        refine lv_bipush (v := 6) hx hb dX11_factor_68 (by decide) ?_
                                        refine lv_icmp_ne (tgt := 77) hx hb dX11_factor_70 (by decide) (fun c_753 => ?_) (fun c_753 => ?_)
                                        · skip
                                          have c_753 := ni_ne c_753 rfl li_6
                                          refine lv_iconst (v := 0) hx hb dX11_factor_77 (by decide) ?_
                                          have q_q755 := li_1
                                          have q_q756 := li_1
                                          have q_q757 := li_0
                                          refine tcI (Tc := [(h0, ob 8 [.int h0f0, .int h0f1, .int h0f2, .int h0f3, .int h0f4, .int h0f5, .ref h1, .ref h2, .int h0f8, .int h0f9, .ref h3, .ref h4, .ref h5, .ref h6, .ref h7, .ref h8, .ref h9, .int h0f17, .int h0f18, .int h0f19, .ref h10, .ref h11, .ref h12, .ref h13, .int h0f24, .int h0f25, .ref h14, .ref h15, .ref h16, .ref h17, .int h0f30, .int h0f31, .ref h18, .ref h19, .ref h20, .ref h21]), (h7, aJ (k 1) 4 (zJ [1, 2, 3]))]) (Tr := [(h1, aI (k 0) 36 anI), (h4, aJ (k 1) 9 anJ), (h5, aJ (k 1) 9 anJ)]) (as := [h0, h7]) (zcV (q0 := 1) (ci := 8) (As := [.int 1, .int 1, .int 0]) (rest := []) (Tc := [(h0, ob 8 [.int h0f0, .int h0f1, .int h0f2, .int h0f3, .int h0f4, .int h0f5, .ref h1, .ref h2, .int h0f8, .int h0f9, .ref h3, .ref h4, .ref h5, .ref h6, .ref h7, .ref h8, .ref h9, .int h0f17, .int h0f18, .int h0f19, .ref h10, .ref h11, .ref h12, .ref h13, .int h0f24, .int h0f25, .ref h14, .ref h15, .ref h16, .ref h17, .int h0f30, .int h0f31, .ref h18, .ref h19, .ref h20, .ref h21]), (h7, aJ (k 1) 4 (zJ [1, 2, 3]))]) hx hb hml hown hU hK hT rfl rfl [1, 4] rfl (by decide) (cX11_takesOut_51a3e l D k _ h0 h7 h1 h2 h3 h4 h5 h6 h8 h9 h10 h11 h12 h13 h14 h15 h16 h17 h18 h19 h20 h21 (1) (1) (0) h0f0 h0f1 h0f2 h0f3 h0f4 h0f5 h0f8 h0f9 h0f17 h0f18 h0f19 h0f24 h0f25 h0f30 h0f31 (by have := li_1; omega) (by have := li_1; omega) (by have := li_0; omega) (by omega) (by omega) (by omega) (by omega) (by omega) (by omega) (by omega) (by omega) (by omega) (by omega) (by omega) (by omega) (by omega)) w999 w996 w998 w41 w72 hdX11_takesOut ⟨rfl, rfl⟩ ⟨Nat.le_of_ble_eq_true rfl, Nat.le_of_ble_eq_true rfl⟩ rfl hl.1 (Nat.le_of_ble_eq_true rfl) dX11_factor_78 ⟨Nat.le_of_ble_eq_true rfl, Nat.le_of_ble_eq_true rfl⟩) hT hS hA [1, 4] [0, 2, 3] rfl rfl rfl (by decide) (by decide) (fun r754 H locs hB J hS => ?_)
                                          obtain ⟨rfl, hT1⟩ := hB
                                          have hT := J _ hT1
                                          have hT : TP D A [(h1, aI (k 0) 36 anI), (h4, aJ (k 1) 9 anJ), (h5, aJ (k 1) 9 anJ), (h0, ob 8 [.int h0f0, .int h0f1, .int h0f2, .int h0f3, .int h0f4, .int h0f5, .ref h1, .ref h2, .int h0f8, .int h0f9, .ref h3, .ref h4, .ref h5, .ref h6, .ref h7, .ref h8, .ref h9, .int h0f17, .int h0f18, .int h0f19, .ref h10, .ref h11, .ref h12, .ref h13, .int h0f24, .int h0f25, .ref h14, .ref h15, .ref h16, .ref h17, .int h0f30, .int h0f31, .ref h18, .ref h19, .ref h20, .ref h21]), (h7, aJ (k 1) 4 anJ)] H := hT
                                          refine lv_if_eq (tgt := 90) hx hb dX11_factor_81 (by decide) (fun _ => ?_) (fun cc => absurd (by decide +kernel) cc)
                                          refine lv_iload_n hx hb dX11_factor_90 rfl (lv_at hl 0 rfl) ?_
                                          exact tz_retI (B := B_cX11_factor_03481 D k h0 h1 h4 h5 h7 h2 h3 h6 h8 h9 h10 h11 h12 h13 h14 h15 h16 h17 h18 h19 h20 h21 x1 x2 h0f0 h0f1 h0f2 h0f3 h0f4 h0f5 h0f8 h0f9 h0f17 h0f18 h0f19 h0f24 h0f25 h0f30 h0f31) (v := 3) hQ hx hb hr hlocks hS (Nat.le_of_ble_eq_true rfl) (Nat.le_of_ble_eq_true rfl) dX11_factor_91 (⟨(by have := li_3; omega), (hT.sub [3, 0, 1, 2, 4] (by decide) rfl)⟩)
                                        · skip
                                          have c_753 := ni_eq c_753 rfl li_6
                                          exfalso; omega
                                      · skip
                                        have c_752 := ni_eq c_752 rfl li_3
                                        exfalso; omega
                                    · skip
                                      have c_751 := ni_eq c_751 rfl li_1
                                      exfalso; omega
                                · skip
                                  have c_738 := ni_eq c_738 rfl li_6
                                  exfalso; omega
                              · skip
                                have c_737 := ni_eq c_737 rfl li_3
                                exfalso; omega
                            · skip
                              have c_736 := ni_eq c_736 rfl li_1
                              exfalso; omega
                          · skip
                            have hT := J _ hT1
                            have hT : TP D A [(h1, aI (k 0) 36 anI), (h0, ob 8 [.int h0f0, .int h0f1, .int h0f2, .int h0f3, .int h0f4, .int h0f5, .ref h1, .ref h2, .int h0f8, .int h0f9, .ref h3, .ref h4, .ref h5, .ref h6, .ref h7, .ref h8, .ref h9, .int h0f17, .int h0f18, .int h0f19, .ref h10, .ref h11, .ref h12, .ref h13, .int h0f24, .int h0f25, .ref h14, .ref h15, .ref h16, .ref h17, .int h0f30, .int h0f31, .ref h18, .ref h19, .ref h20, .ref h21]), (h4, aJ (k 1) 9 anJ), (h5, aJ (k 1) 9 anJ), (h7, aJ (k 1) 4 (zJ [2, 3]))] H := hT
                            refine lv_if_eq (tgt := 90) hx hb dX11_factor_81 (by decide) (fun cc => absurd cc (by decide +kernel)) (fun _ => ?_)
                            refine lv_iinc (v := 2) (lv' := [(3, .int 2), (4, .int 1), (0, .ref h0), (1, .int x1), (2, .int x2)]) hx hb dX11_factor_84 hl (k := 0) rfl (by decide) (by decide) rfl (fun ls hl => ?_)
                            refine lv_goto (tgt := 45) hx hb dX11_factor_87 (by decide) ?_
                            refine lv_aload_n hx hb dX11_factor_45 rfl (lv_at hl 2 rfl) ?_
                            refine lv_iload hx hb dX11_factor_46 (lv_at hl 1 rfl) ?_
                            refine lv_iload_n hx hb dX11_factor_48 rfl (lv_at hl 4 rfl) ?_
                            refine lv_iconst (v := 1) hx hb dX11_factor_49 (by decide) ?_
                            refine lv_icmp_ne (tgt := 57) hx hb dX11_factor_50 (by decide) (fun c_758 => ?_) (fun c_758 => ?_)
                            · skip
                              have c_758 := ni_ne c_758 rfl li_1
                              refine lv_iconst (v := 1) hx hb dX11_factor_57 (by decide) ?_
                              refine lv_iload_n hx hb dX11_factor_58 rfl (lv_at hl 4 rfl) ?_
                              refine lv_iconst (v := 3) hx hb dX11_factor_59 (by decide) ?_
                              refine lv_icmp_ne (tgt := 67) hx hb dX11_factor_60 (by decide) (fun c_759 => ?_) (fun c_759 => ?_)
                              · skip
                                have c_759 := ni_ne c_759 rfl li_3
                                refine lv_iload_n hx hb dX11_factor_67 rfl (lv_at hl 4 rfl) ?_
                                refine lv_bipush (v := 6) hx hb dX11_factor_68 (by decide) ?_
                                refine lv_icmp_ne (tgt := 77) hx hb dX11_factor_70 (by decide) (fun c_760 => ?_) (fun c_760 => ?_)
                                · skip
                                  have c_760 := ni_ne c_760 rfl li_6
                                  refine lv_iconst (v := 0) hx hb dX11_factor_77 (by decide) ?_
                                  have q_q762 := li_1
                                  have q_q763 := li_1
                                  have q_q764 := li_0
                                  refine tcI (Tc := [(h0, ob 8 [.int h0f0, .int h0f1, .int h0f2, .int h0f3, .int h0f4, .int h0f5, .ref h1, .ref h2, .int h0f8, .int h0f9, .ref h3, .ref h4, .ref h5, .ref h6, .ref h7, .ref h8, .ref h9, .int h0f17, .int h0f18, .int h0f19, .ref h10, .ref h11, .ref h12, .ref h13, .int h0f24, .int h0f25, .ref h14, .ref h15, .ref h16, .ref h17, .int h0f30, .int h0f31, .ref h18, .ref h19, .ref h20, .ref h21]), (h4, aJ (k 1) 9 anJ), (h5, aJ (k 1) 9 anJ), (h7, aJ (k 1) 4 (zJ [2, 3]))]) (Tr := [(h1, aI (k 0) 36 anI)]) (as := [h0, h4, h5, h7]) (zcV (q0 := 1) (ci := 8) (As := [.int 1, .int 1, .int 0]) (rest := []) (Tc := [(h0, ob 8 [.int h0f0, .int h0f1, .int h0f2, .int h0f3, .int h0f4, .int h0f5, .ref h1, .ref h2, .int h0f8, .int h0f9, .ref h3, .ref h4, .ref h5, .ref h6, .ref h7, .ref h8, .ref h9, .int h0f17, .int h0f18, .int h0f19, .ref h10, .ref h11, .ref h12, .ref h13, .int h0f24, .int h0f25, .ref h14, .ref h15, .ref h16, .ref h17, .int h0f30, .int h0f31, .ref h18, .ref h19, .ref h20, .ref h21]), (h4, aJ (k 1) 9 anJ), (h5, aJ (k 1) 9 anJ), (h7, aJ (k 1) 4 (zJ [2, 3]))]) hx hb hml hown hU hK hT rfl rfl [1, 2, 3, 4] rfl (by decide) (cX11_takesOut_c755e l D k _ h0 h4 h5 h7 h1 h2 h3 h6 h8 h9 h10 h11 h12 h13 h14 h15 h16 h17 h18 h19 h20 h21 (1) (1) (0) h0f0 h0f1 h0f2 h0f3 h0f4 h0f5 h0f8 h0f9 h0f17 h0f18 h0f19 h0f24 h0f25 h0f30 h0f31 (by have := li_1; omega) (by have := li_1; omega) (by have := li_0; omega) (by omega) (by omega) (by omega) (by omega) (by omega) (by omega) (by omega) (by omega) (by omega) (by omega) (by omega) (by omega) (by omega)) w999 w996 w998 w41 w72 hdX11_takesOut ⟨rfl, rfl⟩ ⟨Nat.le_of_ble_eq_true rfl, Nat.le_of_ble_eq_true rfl⟩ rfl hl.1 (Nat.le_of_ble_eq_true rfl) dX11_factor_78 ⟨Nat.le_of_ble_eq_true rfl, Nat.le_of_ble_eq_true rfl⟩) hT hS hA [1, 2, 3, 4] [0] rfl rfl rfl (by decide) (by decide) (fun r761 H locs hB J hS => ?_)
                                  rcases hB with ⟨rfl, hT1⟩ | ⟨v765, v766, b_v766, c_767, c_768, c_769, c_770, c_771, c_772, rfl, hT1⟩
                                  · skip
                                    have hT := J _ hT1
                                    have hT : TP D A [(h1, aI (k 0) 36 anI), (h0, ob 8 [.int h0f0, .int h0f1, .int h0f2, .int h0f3, .int h0f4, .int h0f5, .ref h1, .ref h2, .int h0f8, .int h0f9, .ref h3, .ref h4, .ref h5, .ref h6, .ref h7, .ref h8, .ref h9, .int h0f17, .int h0f18, .int h0f19, .ref h10, .ref h11, .ref h12, .ref h13, .int h0f24, .int h0f25, .ref h14, .ref h15, .ref h16, .ref h17, .int h0f30, .int h0f31, .ref h18, .ref h19, .ref h20, .ref h21]), (h4, aJ (k 1) 9 anJ), (h5, aJ (k 1) 9 anJ), (h7, aJ (k 1) 4 anJ)] H := hT
                                    refine lv_if_eq (tgt := 90) hx hb dX11_factor_81 (by decide) (fun _ => ?_) (fun cc => absurd (by decide +kernel) cc)
                                    refine lv_iload_n hx hb dX11_factor_90 rfl (lv_at hl 0 rfl) ?_
                                    exact tz_retI (B := B_cX11_factor_03481 D k h0 h1 h4 h5 h7 h2 h3 h6 h8 h9 h10 h11 h12 h13 h14 h15 h16 h17 h18 h19 h20 h21 x1 x2 h0f0 h0f1 h0f2 h0f3 h0f4 h0f5 h0f8 h0f9 h0f17 h0f18 h0f19 h0f24 h0f25 h0f30 h0f31) (v := 2) hQ hx hb hr hlocks hS (Nat.le_of_ble_eq_true rfl) (Nat.le_of_ble_eq_true rfl) dX11_factor_91 (⟨(by have := li_2; omega), (hT.sub [1, 0, 2, 3, 4] (by decide) rfl)⟩)
                                  · skip
                                    have hT := J _ hT1
                                    have hT : TP D A [(h1, aI (k 0) 36 anI), (h0, ob 8 [.int h0f0, .int h0f1, .int h0f2, .int h0f3, .int h0f4, .int h0f5, .ref h1, .ref h2, .int h0f8, .int h0f9, .ref h3, .ref h4, .ref h5, .ref h6, .ref h7, .ref h8, .ref h9, .int h0f17, .int h0f18, .int h0f19, .ref h10, .ref h11, .ref h12, .ref h13, .int h0f24, .int h0f25, .ref h14, .ref h15, .ref h16, .ref h17, .int h0f30, .int h0f31, .ref h18, .ref h19, .ref h20, .ref h21]), (h4, aJ (k 1) 9 anJ), (h5, aJ (k 1) 9 anJ), (h7, aJ (k 1) 4 (zJ [1, 2, 3]))] H := hT
                                    refine lv_if_eq (tgt := 90) hx hb dX11_factor_81 (by decide) (fun cc => absurd cc (by decide +kernel)) (fun _ => ?_)
                                    refine lv_iinc (v := 3) (lv' := [(3, .int 3), (4, .int 1), (0, .ref h0), (1, .int x1), (2, .int x2)]) hx hb dX11_factor_84 hl (k := 0) rfl (by decide) (by decide) rfl (fun ls hl => ?_)
                                    refine lv_goto (tgt := 45) hx hb dX11_factor_87 (by decide) ?_
                                    refine lv_aload_n hx hb dX11_factor_45 rfl (lv_at hl 2 rfl) ?_
                                    refine lv_iload hx hb dX11_factor_46 (lv_at hl 1 rfl) ?_
                                    refine lv_iload_n hx hb dX11_factor_48 rfl (lv_at hl 4 rfl) ?_
                                    refine lv_iconst (v := 1) hx hb dX11_factor_49 (by decide) ?_
                                    refine lv_icmp_ne (tgt := 57) hx hb dX11_factor_50 (by decide) (fun c_773 => ?_) (fun c_773 => ?_)
                                    · skip
                                      have c_773 := ni_ne c_773 rfl li_1
                                      refine lv_iconst (v := 1) hx hb dX11_factor_57 (by decide) ?_
                                      refine lv_iload_n hx hb dX11_factor_58 rfl (lv_at hl 4 rfl) ?_
                                      refine lv_iconst (v := 3) hx hb dX11_factor_59 (by decide) ?_
                                      refine lv_icmp_ne (tgt := 67) hx hb dX11_factor_60 (by decide) (fun c_774 => ?_) (fun c_774 => ?_)
                                      · skip
                                        have c_774 := ni_ne c_774 rfl li_3
                                        refine lv_iload_n hx hb dX11_factor_67 rfl (lv_at hl 4 rfl) ?_
                                        refine lv_bipush (v := 6) hx hb dX11_factor_68 (by decide) ?_
                                        refine lv_icmp_ne (tgt := 77) hx hb dX11_factor_70 (by decide) (fun c_775 => ?_) (fun c_775 => ?_)
                                        · skip
                                          have c_775 := ni_ne c_775 rfl li_6
                                          refine lv_iconst (v := 0) hx hb dX11_factor_77 (by decide) ?_
                                          have q_q777 := li_1
                                          have q_q778 := li_1
                                          have q_q779 := li_0
                                          refine tcI (Tc := [(h0, ob 8 [.int h0f0, .int h0f1, .int h0f2, .int h0f3, .int h0f4, .int h0f5, .ref h1, .ref h2, .int h0f8, .int h0f9, .ref h3, .ref h4, .ref h5, .ref h6, .ref h7, .ref h8, .ref h9, .int h0f17, .int h0f18, .int h0f19, .ref h10, .ref h11, .ref h12, .ref h13, .int h0f24, .int h0f25, .ref h14, .ref h15, .ref h16, .ref h17, .int h0f30, .int h0f31, .ref h18, .ref h19, .ref h20, .ref h21]), (h7, aJ (k 1) 4 (zJ [1, 2, 3]))]) (Tr := [(h1, aI (k 0) 36 anI), (h4, aJ (k 1) 9 anJ), (h5, aJ (k 1) 9 anJ)]) (as := [h0, h7]) (zcV (q0 := 1) (ci := 8) (As := [.int 1, .int 1, .int 0]) (rest := []) (Tc := [(h0, ob 8 [.int h0f0, .int h0f1, .int h0f2, .int h0f3, .int h0f4, .int h0f5, .ref h1, .ref h2, .int h0f8, .int h0f9, .ref h3, .ref h4, .ref h5, .ref h6, .ref h7, .ref h8, .ref h9, .int h0f17, .int h0f18, .int h0f19, .ref h10, .ref h11, .ref h12, .ref h13, .int h0f24, .int h0f25, .ref h14, .ref h15, .ref h16, .ref h17, .int h0f30, .int h0f31, .ref h18, .ref h19, .ref h20, .ref h21]), (h7, aJ (k 1) 4 (zJ [1, 2, 3]))]) hx hb hml hown hU hK hT rfl rfl [1, 4] rfl (by decide) (cX11_takesOut_51a3e l D k _ h0 h7 h1 h2 h3 h4 h5 h6 h8 h9 h10 h11 h12 h13 h14 h15 h16 h17 h18 h19 h20 h21 (1) (1) (0) h0f0 h0f1 h0f2 h0f3 h0f4 h0f5 h0f8 h0f9 h0f17 h0f18 h0f19 h0f24 h0f25 h0f30 h0f31 (by have := li_1; omega) (by have := li_1; omega) (by have := li_0; omega) (by omega) (by omega) (by omega) (by omega) (by omega) (by omega) (by omega) (by omega) (by omega) (by omega) (by omega) (by omega) (by omega)) w999 w996 w998 w41 w72 hdX11_takesOut ⟨rfl, rfl⟩ ⟨Nat.le_of_ble_eq_true rfl, Nat.le_of_ble_eq_true rfl⟩ rfl hl.1 (Nat.le_of_ble_eq_true rfl) dX11_factor_78 ⟨Nat.le_of_ble_eq_true rfl, Nat.le_of_ble_eq_true rfl⟩) hT hS hA [1, 4] [0, 2, 3] rfl rfl rfl (by decide) (by decide) (fun r776 H locs hB J hS => ?_)
                                          obtain ⟨rfl, hT1⟩ := hB
                                          have hT := J _ hT1
                                          have hT : TP D A [(h1, aI (k 0) 36 anI), (h4, aJ (k 1) 9 anJ), (h5, aJ (k 1) 9 anJ), (h0, ob 8 [.int h0f0, .int h0f1, .int h0f2, .int h0f3, .int h0f4, .int h0f5, .ref h1, .ref h2, .int h0f8, .int h0f9, .ref h3, .ref h4, .ref h5, .ref h6, .ref h7, .ref h8, .ref h9, .int h0f17, .int h0f18, .int h0f19, .ref h10, .ref h11, .ref h12, .ref h13, .int h0f24, .int h0f25, .ref h14, .ref h15, .ref h16, .ref h17, .int h0f30, .int h0f31, .ref h18, .ref h19, .ref h20, .ref h21]), (h7, aJ (k 1) 4 anJ)] H := hT
                                          refine lv_if_eq (tgt := 90) hx hb dX11_factor_81 (by decide) (fun _ => ?_) (fun cc => absurd (by decide +kernel) cc)
                                          refine lv_iload_n hx hb dX11_factor_90 rfl (lv_at hl 0 rfl) ?_
                                          exact tz_retI (B := B_cX11_factor_03481 D k h0 h1 h4 h5 h7 h2 h3 h6 h8 h9 h10 h11 h12 h13 h14 h15 h16 h17 h18 h19 h20 h21 x1 x2 h0f0 h0f1 h0f2 h0f3 h0f4 h0f5 h0f8 h0f9 h0f17 h0f18 h0f19 h0f24 h0f25 h0f30 h0f31) (v := 3) hQ hx hb hr hlocks hS (Nat.le_of_ble_eq_true rfl) (Nat.le_of_ble_eq_true rfl) dX11_factor_91 (⟨(by have := li_3; omega), (hT.sub [3, 0, 1, 2, 4] (by decide) rfl)⟩)
                                        · skip
                                          have c_775 := ni_eq c_775 rfl li_6
                                          exfalso; omega
                                      · skip
                                        have c_774 := ni_eq c_774 rfl li_3
                                        exfalso; omega
                                    · skip
                                      have c_773 := ni_eq c_773 rfl li_1
                                      exfalso; omega
                                · skip
                                  have c_760 := ni_eq c_760 rfl li_6
                                  exfalso; omega
                              · skip
                                have c_759 := ni_eq c_759 rfl li_3
                                exfalso; omega
                            · skip
                              have c_758 := ni_eq c_758 rfl li_1
                              exfalso; omega
                          · skip
                            have hT := J _ hT1
                            have hT : TP D A [(h1, aI (k 0) 36 anI), (h0, ob 8 [.int h0f0, .int h0f1, .int h0f2, .int h0f3, .int h0f4, .int h0f5, .ref h1, .ref h2, .int h0f8, .int h0f9, .ref h3, .ref h4, .ref h5, .ref h6, .ref h7, .ref h8, .ref h9, .int h0f17, .int h0f18, .int h0f19, .ref h10, .ref h11, .ref h12, .ref h13, .int h0f24, .int h0f25, .ref h14, .ref h15, .ref h16, .ref h17, .int h0f30, .int h0f31, .ref h18, .ref h19, .ref h20, .ref h21]), (h4, aJ (k 1) 9 anJ), (h5, aJ (k 1) 9 anJ), (h7, aJ (k 1) 4 (zJ [2, 3]))] H := hT
                            exfalso; omega
                        · skip
                          have c_703 := ni_eq c_703 rfl li_6
                          exfalso; omega
                      · skip
                        have c_702 := ni_eq c_702 rfl li_3
                        exfalso; omega
                    · skip
                      have c_701 := ni_eq c_701 rfl li_1
                      exfalso; omega
                  · skip
                    have hT := J _ hT1
                    have hT : TP D A [(h1, aI (k 0) 36 anI), (h0, ob 8 [.int h0f0, .int h0f1, .int h0f2, .int h0f3, .int h0f4, .int h0f5, .ref h1, .ref h2, .int h0f8, .int h0f9, .ref h3, .ref h4, .ref h5, .ref h6, .ref h7, .ref h8, .ref h9, .int h0f17, .int h0f18, .int h0f19, .ref h10, .ref h11, .ref h12, .ref h13, .int h0f24, .int h0f25, .ref h14, .ref h15, .ref h16, .ref h17, .int h0f30, .int h0f31, .ref h18, .ref h19, .ref h20, .ref h21]), (h4, aJ (k 1) 9 anJ), (h5, aJ (k 1) 9 anJ), (h7, aJ (k 1) 4 (zJ [3]))] H := hT
                    exfalso; omega
                  · skip
                    have hT := J _ hT1
                    have hT : TP D A [(h1, aI (k 0) 36 anI), (h0, ob 8 [.int h0f0, .int h0f1, .int h0f2, .int h0f3, .int h0f4, .int h0f5, .ref h1, .ref h2, .int h0f8, .int h0f9, .ref h3, .ref h4, .ref h5, .ref h6, .ref h7, .ref h8, .ref h9, .int h0f17, .int h0f18, .int h0f19, .ref h10, .ref h11, .ref h12, .ref h13, .int h0f24, .int h0f25, .ref h14, .ref h15, .ref h16, .ref h17, .int h0f30, .int h0f31, .ref h18, .ref h19, .ref h20, .ref h21]), (h4, aJ (k 1) 9 anJ), (h5, aJ (k 1) 9 anJ), (h7, aJ (k 1) 4 (zJ [3]))] H := hT
                    exfalso; omega
                · skip
                  have c_484 := ni_eq c_484 rfl li_6
                  exfalso; omega
              · skip
                have c_483 := ni_eq c_483 rfl li_3
                exfalso; omega
            · skip
              have c_482 := ni_eq c_482 rfl li_1
              refine lv_iconst (v := (-1)) hx hb dX11_factor_53 (by decide) ?_
              refine lv_goto (tgt := 58) hx hb dX11_factor_54 (by decide) ?_
              refine lv_iload_n hx hb dX11_factor_58 rfl (lv_at hl 4 rfl) ?_
              refine lv_iconst (v := 3) hx hb dX11_factor_59 (by decide) ?_
              refine lv_icmp_ne (tgt := 67) hx hb dX11_factor_60 (by decide) (fun c_780 => ?_) (fun c_780 => ?_)
              · skip
                have c_780 := ni_ne c_780 rfl li_3
                refine lv_iload_n hx hb dX11_factor_67 rfl (lv_at hl 4 rfl) ?_
                refine lv_bipush (v := 6) hx hb dX11_factor_68 (by decide) ?_
                refine lv_icmp_ne (tgt := 77) hx hb dX11_factor_70 (by decide) (fun c_781 => ?_) (fun c_781 => ?_)
                · skip
                  have c_781 := ni_ne c_781 rfl li_6
                  refine lv_iconst (v := 0) hx hb dX11_factor_77 (by decide) ?_
                  have q_q783 := li_1
                  have q_q784 := li_m1
                  have q_q785 := li_0
                  refine tcI (Tc := [(h0, ob 8 [.int h0f0, .int h0f1, .int h0f2, .int h0f3, .int h0f4, .int h0f5, .ref h1, .ref h2, .int h0f8, .int h0f9, .ref h3, .ref h4, .ref h5, .ref h6, .ref h7, .ref h8, .ref h9, .int h0f17, .int h0f18, .int h0f19, .ref h10, .ref h11, .ref h12, .ref h13, .int h0f24, .int h0f25, .ref h14, .ref h15, .ref h16, .ref h17, .int h0f30, .int h0f31, .ref h18, .ref h19, .ref h20, .ref h21]), (h4, aJ (k 1) 9 anJ), (h5, aJ (k 1) 9 anJ), (h7, aJ (k 1) 4 anJ)]) (Tr := [(h1, aI (k 0) 36 anI)]) (as := [h0, h4, h5, h7]) (zcV (q0 := 1) (ci := 8) (As := [.int 1, .int (-1), .int 0]) (rest := []) (Tc := [(h0, ob 8 [.int h0f0, .int h0f1, .int h0f2, .int h0f3, .int h0f4, .int h0f5, .ref h1, .ref h2, .int h0f8, .int h0f9, .ref h3, .ref h4, .ref h5, .ref h6, .ref h7, .ref h8, .ref h9, .int h0f17, .int h0f18, .int h0f19, .ref h10, .ref h11, .ref h12, .ref h13, .int h0f24, .int h0f25, .ref h14, .ref h15, .ref h16, .ref h17, .int h0f30, .int h0f31, .ref h18, .ref h19, .ref h20, .ref h21]), (h4, aJ (k 1) 9 anJ), (h5, aJ (k 1) 9 anJ), (h7, aJ (k 1) 4 anJ)]) hx hb hml hown hU hK hT rfl rfl [1, 3, 0, 4] rfl (by decide) (cX11_takesOut_0c94b l D k _ h0 h4 h5 h7 h1 h2 h3 h6 h8 h9 h10 h11 h12 h13 h14 h15 h16 h17 h18 h19 h20 h21 (1) ((-1)) (0) h0f0 h0f1 h0f2 h0f3 h0f4 h0f5 h0f8 h0f9 h0f17 h0f18 h0f19 h0f24 h0f25 h0f30 h0f31 (by have := li_1; omega) (by have := li_m1; omega) (by have := li_0; omega) (by omega) (by omega) (by omega) (by omega) (by omega) (by omega) (by omega) (by omega) (by omega) (by omega) (by omega) (by omega) (by omega)) w999 w996 w998 w41 w72 hdX11_takesOut ⟨rfl, rfl⟩ ⟨Nat.le_of_ble_eq_true rfl, Nat.le_of_ble_eq_true rfl⟩ rfl hl.1 (Nat.le_of_ble_eq_true rfl) dX11_factor_78 ⟨Nat.le_of_ble_eq_true rfl, Nat.le_of_ble_eq_true rfl⟩) hT hS hA [1, 3, 0, 4] [2] rfl rfl rfl (by decide) (by decide) (fun r782 H locs hB J hS => ?_)
                  rcases hB with ⟨rfl, hT1⟩ | ⟨v786, v787, b_v787, c_788, c_789, c_790, c_791, c_792, c_793, c_794, c_795, rfl, hT1⟩ | ⟨v796, v797, v798, b_v796, b_v798, c_799, c_800, c_801, c_802, c_803, c_804, c_805, c_806, rfl, hT1⟩ | ⟨v807, v808, v809, v810, b_v807, b_v808, b_v810, c_811, c_812, c_813, c_814, c_815, c_816, c_817, c_818, rfl, hT1⟩ | ⟨v819, v820, v821, b_v820, b_v821, c_822, c_823, c_824, c_825, c_826, c_827, c_828, rfl, hT1⟩ | ⟨v829, v830, v831, v832, b_v829, b_v831, b_v832, c_833, c_834, c_835, c_836, c_837, c_838, c_839, rfl, hT1⟩
                  · skip
                    have hT := J _ hT1
                    have hT : TP D A [(h1, aI (k 0) 36 anI), (h0, ob 8 [.int h0f0, .int h0f1, .int h0f2, .int h0f3, .int h0f4, .int h0f5, .ref h1, .ref h2, .int h0f8, .int h0f9, .ref h3, .ref h4, .ref h5, .ref h6, .ref h7, .ref h8, .ref h9, .int h0f17, .int h0f18, .int h0f19, .ref h10, .ref h11, .ref h12, .ref h13, .int h0f24, .int h0f25, .ref h14, .ref h15, .ref h16, .ref h17, .int h0f30, .int h0f31, .ref h18, .ref h19, .ref h20, .ref h21]), (h4, aJ (k 1) 9 anJ), (h5, aJ (k 1) 9 anJ), (h7, aJ (k 1) 4 anJ)] H := hT
                    refine lv_if_eq (tgt := 90) hx hb dX11_factor_81 (by decide) (fun _ => ?_) (fun cc => absurd (by decide +kernel) cc)
                    refine lv_iload_n hx hb dX11_factor_90 rfl (lv_at hl 1 rfl) ?_
                    exact tz_retI (B := B_cX11_factor_03481 D k h0 h1 h4 h5 h7 h2 h3 h6 h8 h9 h10 h11 h12 h13 h14 h15 h16 h17 h18 h19 h20 h21 x1 x2 h0f0 h0f1 h0f2 h0f3 h0f4 h0f5 h0f8 h0f9 h0f17 h0f18 h0f19 h0f24 h0f25 h0f30 h0f31) (v := 0) hQ hx hb hr hlocks hS (Nat.le_of_ble_eq_true rfl) (Nat.le_of_ble_eq_true rfl) dX11_factor_91 (⟨(by have := li_0; omega), (hT.sub [1, 0, 2, 3, 4] (by decide) rfl)⟩)
                  · skip
                    have hT := J _ hT1
                    have hT : TP D A [(h1, aI (k 0) 36 anI), (h0, ob 8 [.int h0f0, .int h0f1, .int h0f2, .int h0f3, .int h0f4, .int h0f5, .ref h1, .ref h2, .int h0f8, .int h0f9, .ref h3, .ref h4, .ref h5, .ref h6, .ref h7, .ref h8, .ref h9, .int h0f17, .int h0f18, .int h0f19, .ref h10, .ref h11, .ref h12, .ref h13, .int h0f24, .int h0f25, .ref h14, .ref h15, .ref h16, .ref h17, .int h0f30, .int h0f31, .ref h18, .ref h19, .ref h20, .ref h21]), (h4, aJ (k 1) 9 anJ), (h5, aJ (k 1) 9 anJ), (h7, aJ (k 1) 4 (zJ [3]))] H := hT
                    refine lv_if_eq (tgt := 90) hx hb dX11_factor_81 (by decide) (fun cc => absurd cc (by decide +kernel)) (fun _ => ?_)
                    refine lv_iinc (v := 1) (lv' := [(3, .int 1), (4, .int 1), (0, .ref h0), (1, .int x1), (2, .int x2)]) hx hb dX11_factor_84 hl (k := 1) rfl (by decide) (by decide) rfl (fun ls hl => ?_)
                    refine lv_goto (tgt := 45) hx hb dX11_factor_87 (by decide) ?_
                    refine lv_aload_n hx hb dX11_factor_45 rfl (lv_at hl 2 rfl) ?_
                    refine lv_iload hx hb dX11_factor_46 (lv_at hl 1 rfl) ?_
                    refine lv_iload_n hx hb dX11_factor_48 rfl (lv_at hl 4 rfl) ?_
                    refine lv_iconst (v := 1) hx hb dX11_factor_49 (by decide) ?_
                    refine lv_icmp_ne (tgt := 57) hx hb dX11_factor_50 (by decide) (fun c_840 => ?_) (fun c_840 => ?_)
                    · skip
                      have c_840 := ni_ne c_840 rfl li_1
                      exfalso; omega
                    · skip
                      have c_840 := ni_eq c_840 rfl li_1
                      refine lv_iconst (v := (-1)) hx hb dX11_factor_53 (by decide) ?_
                      refine lv_goto (tgt := 58) hx hb dX11_factor_54 (by decide) ?_
                      refine lv_iload_n hx hb dX11_factor_58 rfl (lv_at hl 4 rfl) ?_
                      refine lv_iconst (v := 3) hx hb dX11_factor_59 (by decide) ?_
                      refine lv_icmp_ne (tgt := 67) hx hb dX11_factor_60 (by decide) (fun c_841 => ?_) (fun c_841 => ?_)
                      · skip
                        have c_841 := ni_ne c_841 rfl li_3
                        refine lv_iload_n hx hb dX11_factor_67 rfl (lv_at hl 4 rfl) ?_
                        refine lv_bipush (v := 6) hx hb dX11_factor_68 (by decide) ?_
                        refine lv_icmp_ne (tgt := 77) hx hb dX11_factor_70 (by decide) (fun c_842 => ?_) (fun c_842 => ?_)
                        · skip
                          have c_842 := ni_ne c_842 rfl li_6
                          refine lv_iconst (v := 0) hx hb dX11_factor_77 (by decide) ?_
                          have q_q844 := li_1
                          have q_q845 := li_m1
                          have q_q846 := li_0
                          refine tcI (Tc := [(h0, ob 8 [.int h0f0, .int h0f1, .int h0f2, .int h0f3, .int h0f4, .int h0f5, .ref h1, .ref h2, .int h0f8, .int h0f9, .ref h3, .ref h4, .ref h5, .ref h6, .ref h7, .ref h8, .ref h9, .int h0f17, .int h0f18, .int h0f19, .ref h10, .ref h11, .ref h12, .ref h13, .int h0f24, .int h0f25, .ref h14, .ref h15, .ref h16, .ref h17, .int h0f30, .int h0f31, .ref h18, .ref h19, .ref h20, .ref h21]), (h4, aJ (k 1) 9 anJ), (h5, aJ (k 1) 9 anJ), (h7, aJ (k 1) 4 (zJ [3]))]) (Tr := [(h1, aI (k 0) 36 anI)]) (as := [h0, h4, h5, h7]) (zcV (q0 := 1) (ci := 8) (As := [.int 1, .int (-1), .int 0]) (rest := []) (Tc := [(h0, ob 8 [.int h0f0, .int h0f1, .int h0f2, .int h0f3, .int h0f4, .int h0f5, .ref h1, .ref h2, .int h0f8, .int h0f9, .ref h3, .ref h4, .ref h5, .ref h6, .ref h7, .ref h8, .ref h9, .int h0f17, .int h0f18, .int h0f19, .ref h10, .ref h11, .ref h12, .ref h13, .int h0f24, .int h0f25, .ref h14, .ref h15, .ref h16, .ref h17, .int h0f30, .int h0f31, .ref h18, .ref h19, .ref h20, .ref h21]), (h4, aJ (k 1) 9 anJ), (h5, aJ (k 1) 9 anJ), (h7, aJ (k 1) 4 (zJ [3]))]) hx hb hml hown hU hK hT rfl rfl [1, 2, 3, 4] rfl (by decide) (cX11_takesOut_75942 l D k _ h0 h4 h5 h7 h1 h2 h3 h6 h8 h9 h10 h11 h12 h13 h14 h15 h16 h17 h18 h19 h20 h21 (1) ((-1)) (0) h0f0 h0f1 h0f2 h0f3 h0f4 h0f5 h0f8 h0f9 h0f17 h0f18 h0f19 h0f24 h0f25 h0f30 h0f31 (by have := li_1; omega) (by have := li_m1; omega) (by have := li_0; omega) (by omega) (by omega) (by omega) (by omega) (by omega) (by omega) (by omega) (by omega) (by omega) (by omega) (by omega) (by omega) (by omega)) w999 w996 w998 w41 w72 hdX11_takesOut ⟨rfl, rfl⟩ ⟨Nat.le_of_ble_eq_true rfl, Nat.le_of_ble_eq_true rfl⟩ rfl hl.1 (Nat.le_of_ble_eq_true rfl) dX11_factor_78 ⟨Nat.le_of_ble_eq_true rfl, Nat.le_of_ble_eq_true rfl⟩) hT hS hA [1, 2, 3, 4] [0] rfl rfl rfl (by decide) (by decide) (fun r843 H locs hB J hS => ?_)
                          rcases hB with ⟨rfl, hT1⟩ | ⟨v847, v848, b_v848, c_849, c_850, c_851, c_852, c_853, c_854, c_855, rfl, hT1⟩ | ⟨v856, v857, v858, b_v856, b_v858, c_859, c_860, c_861, c_862, c_863, c_864, c_865, rfl, hT1⟩ | ⟨v866, v867, v868, b_v867, b_v868, c_869, c_870, c_871, c_872, c_873, c_874, rfl, hT1⟩
                          · skip
                            have hT := J _ hT1
                            have hT : TP D A [(h1, aI (k 0) 36 anI), (h0, ob 8 [.int h0f0, .int h0f1, .int h0f2, .int h0f3, .int h0f4, .int h0f5, .ref h1, .ref h2, .int h0f8, .int h0f9, .ref h3, .ref h4, .ref h5, .ref h6, .ref h7, .ref h8, .ref h9, .int h0f17, .int h0f18, .int h0f19, .ref h10, .ref h11, .ref h12, .ref h13, .int h0f24, .int h0f25, .ref h14, .ref h15, .ref h16, .ref h17, .int h0f30, .int h0f31, .ref h18, .ref h19, .ref h20, .ref h21]), (h4, aJ (k 1) 9 anJ), (h5, aJ (k 1) 9 anJ), (h7, aJ (k 1) 4 anJ)] H := hT
                            refine lv_if_eq (tgt := 90) hx hb dX11_factor_81 (by decide) (fun _ => ?_) (fun cc => absurd (by decide +kernel) cc)
                            refine lv_iload_n hx hb dX11_factor_90 rfl (lv_at hl 0 rfl) ?_
                            exact tz_retI (B := B_cX11_factor_03481 D k h0 h1 h4 h5 h7 h2 h3 h6 h8 h9 h10 h11 h12 h13 h14 h15 h16 h17 h18 h19 h20 h21 x1 x2 h0f0 h0f1 h0f2 h0f3 h0f4 h0f5 h0f8 h0f9 h0f17 h0f18 h0f19 h0f24 h0f25 h0f30 h0f31) (v := 1) hQ hx hb hr hlocks hS (Nat.le_of_ble_eq_true rfl) (Nat.le_of_ble_eq_true rfl) dX11_factor_91 (⟨(by have := li_1; omega), (hT.sub [1, 0, 2, 3, 4] (by decide) rfl)⟩)
                          · skip
                            have hT := J _ hT1
                            have hT : TP D A [(h1, aI (k 0) 36 anI), (h0, ob 8 [.int h0f0, .int h0f1, .int h0f2, .int h0f3, .int h0f4, .int h0f5, .ref h1, .ref h2, .int h0f8, .int h0f9, .ref h3, .ref h4, .ref h5, .ref h6, .ref h7, .ref h8, .ref h9, .int h0f17, .int h0f18, .int h0f19, .ref h10, .ref h11, .ref h12, .ref h13, .int h0f24, .int h0f25, .ref h14, .ref h15, .ref h16, .ref h17, .int h0f30, .int h0f31, .ref h18, .ref h19, .ref h20, .ref h21]), (h4, aJ (k 1) 9 anJ), (h5, aJ (k 1) 9 anJ), (h7, aJ (k 1) 4 (zJ [2, 3]))] H := hT
                            refine lv_if_eq (tgt := 90) hx hb dX11_factor_81 (by decide) (fun cc => absurd cc (by decide +kernel)) (fun _ => ?_)
                            refine lv_iinc (v := 2) (lv' := [(3, .int 2), (4, .int 1), (0, .ref h0), (1, .int x1), (2, .int x2)]) hx hb dX11_factor_84 hl (k := 0) rfl (by decide) (by decide) rfl (fun ls hl => ?_)
                            refine lv_goto (tgt := 45) hx hb dX11_factor_87 (by decide) ?_
                            refine lv_aload_n hx hb dX11_factor_45 rfl (lv_at hl 2 rfl) ?_
                            refine lv_iload hx hb dX11_factor_46 (lv_at hl 1 rfl) ?_
                            refine lv_iload_n hx hb dX11_factor_48 rfl (lv_at hl 4 rfl) ?_
                            refine lv_iconst (v := 1) hx hb dX11_factor_49 (by decide) ?_
                            refine lv_icmp_ne (tgt := 57) hx hb dX11_factor_50 (by decide) (fun c_875 => ?_) (fun c_875 => ?_)
                            · skip
                              have c_875 := ni_ne c_875 rfl li_1
                              exfalso; omega
                            · skip
                              have c_875 := ni_eq c_875 rfl li_1
                              refine lv_iconst (v := (-1)) hx hb dX11_factor_53 (by decide) ?_
                              refine lv_goto (tgt := 58) hx hb dX11_factor_54 (by decide) ?_
                              refine lv_iload_n hx hb dX11_factor_58 rfl (lv_at hl 4 rfl) ?_
                              refine lv_iconst (v := 3) hx hb dX11_factor_59 (by decide) ?_
                              refine lv_icmp_ne (tgt := 67) hx hb dX11_factor_60 (by decide) (fun c_876 => ?_) (fun c_876 => ?_)
                              · skip
                                have c_876 := ni_ne c_876 rfl li_3
                                refine lv_iload_n hx hb dX11_factor_67 rfl (lv_at hl 4 rfl) ?_
                                refine lv_bipush (v := 6) hx hb dX11_factor_68 (by decide) ?_
                                refine lv_icmp_ne (tgt := 77) hx hb dX11_factor_70 (by decide) (fun c_877 => ?_) (fun c_877 => ?_)
                                · skip
                                  have c_877 := ni_ne c_877 rfl li_6
                                  refine lv_iconst (v := 0) hx hb dX11_factor_77 (by decide) ?_
                                  have q_q879 := li_1
                                  have q_q880 := li_m1
                                  have q_q881 := li_0
                                  refine tcI (Tc := [(h0, ob 8 [.int h0f0, .int h0f1, .int h0f2, .int h0f3, .int h0f4, .int h0f5, .ref h1, .ref h2, .int h0f8, .int h0f9, .ref h3, .ref h4, .ref h5, .ref h6, .ref h7, .ref h8, .ref h9, .int h0f17, .int h0f18, .int h0f19, .ref h10, .ref h11, .ref h12, .ref h13, .int h0f24, .int h0f25, .ref h14, .ref h15, .ref h16, .ref h17, .int h0f30, .int h0f31, .ref h18, .ref h19, .ref h20, .ref h21]), (h4, aJ (k 1) 9 anJ), (h5, aJ (k 1) 9 anJ), (h7, aJ (k 1) 4 (zJ [2, 3]))]) (Tr := [(h1, aI (k 0) 36 anI)]) (as := [h0, h4, h5, h7]) (zcV (q0 := 1) (ci := 8) (As := [.int 1, .int (-1), .int 0]) (rest := []) (Tc := [(h0, ob 8 [.int h0f0, .int h0f1, .int h0f2, .int h0f3, .int h0f4, .int h0f5, .ref h1, .ref h2, .int h0f8, .int h0f9, .ref h3, .ref h4, .ref h5, .ref h6, .ref h7, .ref h8, .ref h9, .int h0f17, .int h0f18, .int h0f19, .ref h10, .ref h11, .ref h12, .ref h13, .int h0f24, .int h0f25, .ref h14, .ref h15, .ref h16, .ref h17, .int h0f30, .int h0f31, .ref h18, .ref h19, .ref h20, .ref h21]), (h4, aJ (k 1) 9 anJ), (h5, aJ (k 1) 9 anJ), (h7, aJ (k 1) 4 (zJ [2, 3]))]) hx hb hml hown hU hK hT rfl rfl [1, 2, 3, 4] rfl (by decide) (cX11_takesOut_c755e l D k _ h0 h4 h5 h7 h1 h2 h3 h6 h8 h9 h10 h11 h12 h13 h14 h15 h16 h17 h18 h19 h20 h21 (1) ((-1)) (0) h0f0 h0f1 h0f2 h0f3 h0f4 h0f5 h0f8 h0f9 h0f17 h0f18 h0f19 h0f24 h0f25 h0f30 h0f31 (by have := li_1; omega) (by have := li_m1; omega) (by have := li_0; omega) (by omega) (by omega) (by omega) (by omega) (by omega) (by omega) (by omega) (by omega) (by omega) (by omega) (by omega) (by omega) (by omega)) w999 w996 w998 w41 w72 hdX11_takesOut ⟨rfl, rfl⟩ ⟨Nat.le_of_ble_eq_true rfl, Nat.le_of_ble_eq_true rfl⟩ rfl hl.1 (Nat.le_of_ble_eq_true rfl) dX11_factor_78 ⟨Nat.le_of_ble_eq_true rfl, Nat.le_of_ble_eq_true rfl⟩) hT hS hA [1, 2, 3, 4] [0] rfl rfl rfl (by decide) (by decide) (fun r878 H locs hB J hS => ?_)
                                  rcases hB with ⟨rfl, hT1⟩ | ⟨v882, v883, b_v883, c_884, c_885, c_886, c_887, c_888, c_889, rfl, hT1⟩
                                  · skip
                                    have hT := J _ hT1
                                    have hT : TP D A [(h1, aI (k 0) 36 anI), (h0, ob 8 [.int h0f0, .int h0f1, .int h0f2, .int h0f3, .int h0f4, .int h0f5, .ref h1, .ref h2, .int h0f8, .int h0f9, .ref h3, .ref h4, .ref h5, .ref h6, .ref h7, .ref h8, .ref h9, .int h0f17, .int h0f18, .int h0f19, .ref h10, .ref h11, .ref h12, .ref h13, .int h0f24, .int h0f25, .ref h14, .ref h15, .ref h16, .ref h17, .int h0f30, .int h0f31, .ref h18, .ref h19, .ref h20, .ref h21]), (h4, aJ (k 1) 9 anJ), (h5, aJ (k 1) 9 anJ), (h7, aJ (k 1) 4 anJ)] H := hT
                                    refine lv_if_eq (tgt := 90) hx hb dX11_factor_81 (by decide) (fun _ => ?_) (fun cc => absurd (by decide +kernel) cc)
                                    refine lv_iload_n hx hb dX11_factor_90 rfl (lv_at hl 0 rfl) ?_
                                    exact tz_retI (B := B_cX11_factor_03481 D k h0 h1 h4 h5 h7 h2 h3 h6 h8 h9 h10 h11 h12 h13 h14 h15 h16 h17 h18 h19 h20 h21 x1 x2 h0f0 h0f1 h0f2 h0f3 h0f4 h0f5 h0f8 h0f9 h0f17 h0f18 h0f19 h0f24 h0f25 h0f30 h0f31) (v := 2) hQ hx hb hr hlocks hS (Nat.le_of_ble_eq_true rfl) (Nat.le_of_ble_eq_true rfl) dX11_factor_91 (⟨(by have := li_2; omega), (hT.sub [1, 0, 2, 3, 4] (by decide) rfl)⟩)
                                  · skip
                                    have hT := J _ hT1
                                    have hT : TP D A [(h1, aI (k 0) 36 anI), (h0, ob 8 [.int h0f0, .int h0f1, .int h0f2, .int h0f3, .int h0f4, .int h0f5, .ref h1, .ref h2, .int h0f8, .int h0f9, .ref h3, .ref h4, .ref h5, .ref h6, .ref h7, .ref h8, .ref h9, .int h0f17, .int h0f18, .int h0f19, .ref h10, .ref h11, .ref h12, .ref h13, .int h0f24, .int h0f25, .ref h14, .ref h15, .ref h16, .ref h17, .int h0f30, .int h0f31, .ref h18, .ref h19, .ref h20, .ref h21]), (h4, aJ (k 1) 9 anJ), (h5, aJ (k 1) 9 anJ), (h7, aJ (k 1) 4 (zJ [1, 2, 3]))] H := hT
                                    refine lv_if_eq (tgt := 90) hx hb dX11_factor_81 (by decide) (fun cc => absurd cc (by decide +kernel)) (fun _ => ?_)
                                    refine lv_iinc (v := 3) (lv' := [(3, .int 3), (4, .int 1), (0, .ref h0), (1, .int x1), (2, .int x2)]) hx hb dX11_factor_84 hl (k := 0) rfl (by decide) (by decide) rfl (fun ls hl => ?_)
                                    refine lv_goto (tgt := 45) hx hb dX11_factor_87 (by decide) ?_
                                    refine lv_aload_n hx hb dX11_factor_45 rfl (lv_at hl 2 rfl) ?_
                                    refine lv_iload hx hb dX11_factor_46 (lv_at hl 1 rfl) ?_
                                    refine lv_iload_n hx hb dX11_factor_48 rfl (lv_at hl 4 rfl) ?_
                                    refine lv_iconst (v := 1) hx hb dX11_factor_49 (by decide) ?_
                                    refine lv_icmp_ne (tgt := 57) hx hb dX11_factor_50 (by decide) (fun c_890 => ?_) (fun c_890 => ?_)
                                    · skip
                                      have c_890 := ni_ne c_890 rfl li_1
                                      exfalso; omega
                                    · skip
                                      have c_890 := ni_eq c_890 rfl li_1
                                      refine lv_iconst (v := (-1)) hx hb dX11_factor_53 (by decide) ?_
                                      refine lv_goto (tgt := 58) hx hb dX11_factor_54 (by decide) ?_
                                      refine lv_iload_n hx hb dX11_factor_58 rfl (lv_at hl 4 rfl) ?_
                                      refine lv_iconst (v := 3) hx hb dX11_factor_59 (by decide) ?_
                                      refine lv_icmp_ne (tgt := 67) hx hb dX11_factor_60 (by decide) (fun c_891 => ?_) (fun c_891 => ?_)
                                      · skip
                                        have c_891 := ni_ne c_891 rfl li_3
                                        refine lv_iload_n hx hb dX11_factor_67 rfl (lv_at hl 4 rfl) ?_
                                        refine lv_bipush (v := 6) hx hb dX11_factor_68 (by decide) ?_
                                        refine lv_icmp_ne (tgt := 77) hx hb dX11_factor_70 (by decide) (fun c_892 => ?_) (fun c_892 => ?_)
                                        · skip
                                          have c_892 := ni_ne c_892 rfl li_6
                                          refine lv_iconst (v := 0) hx hb dX11_factor_77 (by decide) ?_
                                          have q_q894 := li_1
                                          have q_q895 := li_m1
                                          have q_q896 := li_0
                                          refine tcI (Tc := [(h0, ob 8 [.int h0f0, .int h0f1, .int h0f2, .int h0f3, .int h0f4, .int h0f5, .ref h1, .ref h2, .int h0f8, .int h0f9, .ref h3, .ref h4, .ref h5, .ref h6, .ref h7, .ref h8, .ref h9, .int h0f17, .int h0f18, .int h0f19, .ref h10, .ref h11, .ref h12, .ref h13, .int h0f24, .int h0f25, .ref h14, .ref h15, .ref h16, .ref h17, .int h0f30, .int h0f31, .ref h18, .ref h19, .ref h20, .ref h21]), (h7, aJ (k 1) 4 (zJ [1, 2, 3]))]) (Tr := [(h1, aI (k 0) 36 anI), (h4, aJ (k 1) 9 anJ), (h5, aJ (k 1) 9 anJ)]) (as := [h0, h7]) (zcV (q0 := 1) (ci := 8) (As := [.int 1, .int (-1), .int 0]) (rest := []) (Tc := [(h0, ob 8 [.int h0f0, .int h0f1, .int h0f2, .int h0f3, .int h0f4, .int h0f5, .ref h1, .ref h2, .int h0f8, .int h0f9, .ref h3, .ref h4, .ref h5, .ref h6, .ref h7, .ref h8, .ref h9, .int h0f17, .int h0f18, .int h0f19, .ref h10, .ref h11, .ref h12, .ref h13, .int h0f24, .int h0f25, .ref h14, .ref h15, .ref h16, .ref h17, .int h0f30, .int h0f31, .ref h18, .ref h19, .ref h20, .ref h21]), (h7, aJ (k 1) 4 (zJ [1, 2, 3]))]) hx hb hml hown hU hK hT rfl rfl [1, 4] rfl (by decide) (cX11_takesOut_51a3e l D k _ h0 h7 h1 h2 h3 h4 h5 h6 h8 h9 h10 h11 h12 h13 h14 h15 h16 h17 h18 h19 h20 h21 (1) ((-1)) (0) h0f0 h0f1 h0f2 h0f3 h0f4 h0f5 h0f8 h0f9 h0f17 h0f18 h0f19 h0f24 h0f25 h0f30 h0f31 (by have := li_1; omega) (by have := li_m1; omega) (by have := li_0; omega) (by omega) (by omega) (by omega) (by omega) (by omega) (by omega) (by omega) (by omega) (by omega) (by omega) (by omega) (by omega) (by omega)) w999 w996 w998 w41 w72 hdX11_takesOut ⟨rfl, rfl⟩ ⟨Nat.le_of_ble_eq_true rfl, Nat.le_of_ble_eq_true rfl⟩ rfl hl.1 (Nat.le_of_ble_eq_true rfl) dX11_factor_78 ⟨Nat.le_of_ble_eq_true rfl, Nat.le_of_ble_eq_true rfl⟩) hT hS hA [1, 4] [0, 2, 3] rfl rfl rfl (by decide) (by decide) (fun r893 H locs hB J hS => ?_)
                                          obtain ⟨rfl, hT1⟩ := hB
                                          have hT := J _ hT1
                                          have hT : TP D A [(h1, aI (k 0) 36 anI), (h4, aJ (k 1) 9 anJ), (h5, aJ (k 1) 9 anJ), (h0, ob 8 [.int h0f0, .int h0f1, .int h0f2, .int h0f3, .int h0f4, .int h0f5, .ref h1, .ref h2, .int h0f8, .int h0f9, .ref h3, .ref h4, .ref h5, .ref h6, .ref h7, .ref h8, .ref h9, .int h0f17, .int h0f18, .int h0f19, .ref h10, .ref h11, .ref h12, .ref h13, .int h0f24, .int h0f25, .ref h14, .ref h15, .ref h16, .ref h17, .int h0f30, .int h0f31, .ref h18, .ref h19, .ref h20, .ref h21]), (h7, aJ (k 1) 4 anJ)] H := hT
                                          refine lv_if_eq (tgt := 90) hx hb dX11_factor_81 (by decide) (fun _ => ?_) (fun cc => absurd (by decide +kernel) cc)
                                          refine lv_iload_n hx hb dX11_factor_90 rfl (lv_at hl 0 rfl) ?_
                                          exact tz_retI (B := B_cX11_factor_03481 D k h0 h1 h4 h5 h7 h2 h3 h6 h8 h9 h10 h11 h12 h13 h14 h15 h16 h17 h18 h19 h20 h21 x1 x2 h0f0 h0f1 h0f2 h0f3 h0f4 h0f5 h0f8 h0f9 h0f17 h0f18 h0f19 h0f24 h0f25 h0f30 h0f31) (v := 3) hQ hx hb hr hlocks hS (Nat.le_of_ble_eq_true rfl) (Nat.le_of_ble_eq_true rfl) dX11_factor_91 (⟨(by have := li_3; omega), (hT.sub [3, 0, 1, 2, 4] (by decide) rfl)⟩)
                                        · skip
                                          have c_892 := ni_eq c_892 rfl li_6
                                          exfalso; omega
                                      · skip
                                        have c_891 := ni_eq c_891 rfl li_3
                                        exfalso; omega
                                · skip
                                  have c_877 := ni_eq c_877 rfl li_6
                                  exfalso; omega
                              · skip
                                have c_876 := ni_eq c_876 rfl li_3
                                exfalso; omega
                          · skip
                            have hT := J _ hT1
                            have hT : TP D A [(h1, aI (k 0) 36 anI), (h0, ob 8 [.int h0f0, .int h0f1, .int h0f2, .int h0f3, .int h0f4, .int h0f5, .ref h1, .ref h2, .int h0f8, .int h0f9, .ref h3, .ref h4, .ref h5, .ref h6, .ref h7, .ref h8, .ref h9, .int h0f17, .int h0f18, .int h0f19, .ref h10, .ref h11, .ref h12, .ref h13, .int h0f24, .int h0f25, .ref h14, .ref h15, .ref h16, .ref h17, .int h0f30, .int h0f31, .ref h18, .ref h19, .ref h20, .ref h21]), (h4, aJ (k 1) 9 anJ), (h5, aJ (k 1) 9 anJ), (h7, aJ (k 1) 4 (zJ [2, 3]))] H := hT
                            refine lv_if_eq (tgt := 90) hx hb dX11_factor_81 (by decide) (fun cc => absurd cc (by decide +kernel)) (fun _ => ?_)
                            refine lv_iinc (v := 2) (lv' := [(3, .int 2), (4, .int 1), (0, .ref h0), (1, .int x1), (2, .int x2)]) hx hb dX11_factor_84 hl (k := 0) rfl (by decide) (by decide) rfl (fun ls hl => ?_)
                            refine lv_goto (tgt := 45) hx hb dX11_factor_87 (by decide) ?_
                            refine lv_aload_n hx hb dX11_factor_45 rfl (lv_at hl 2 rfl) ?_
                            refine lv_iload hx hb dX11_factor_46 (lv_at hl 1 rfl) ?_
                            refine lv_iload_n hx hb dX11_factor_48 rfl (lv_at hl 4 rfl) ?_
                            refine lv_iconst (v := 1) hx hb dX11_factor_49 (by decide) ?_
                            refine lv_icmp_ne (tgt := 57) hx hb dX11_factor_50 (by decide) (fun c_897 => ?_) (fun c_897 => ?_)
                            · skip
                              have c_897 := ni_ne c_897 rfl li_1
                              exfalso; omega
                            · skip
                              have c_897 := ni_eq c_897 rfl li_1
                              refine lv_iconst (v := (-1)) hx hb dX11_factor_53 (by decide) ?_
                              refine lv_goto (tgt := 58) hx hb dX11_factor_54 (by decide) ?_
                              refine lv_iload_n hx hb dX11_factor_58 rfl (lv_at hl 4 rfl) ?_
                              refine lv_iconst (v := 3) hx hb dX11_factor_59 (by decide) ?_
                              refine lv_icmp_ne (tgt := 67) hx hb dX11_factor_60 (by decide) (fun c_898 => ?_) (fun c_898 => ?_)
                              · skip
                                have c_898 := ni_ne c_898 rfl li_3
                                refine lv_iload_n hx hb dX11_factor_67 rfl (lv_at hl 4 rfl) ?_
                                refine lv_bipush (v := 6) hx hb dX11_factor_68 (by decide) ?_
                                refine lv_icmp_ne (tgt := 77) hx hb dX11_factor_70 (by decide) (fun c_899 => ?_) (fun c_899 => ?_)
                                · skip
                                  have c_899 := ni_ne c_899 rfl li_6
                                  refine lv_iconst (v := 0) hx hb dX11_factor_77 (by decide) ?_
                                  have q_q901 := li_1
                                  have q_q902 := li_m1
                                  have q_q903 := li_0
                                  refine tcI (Tc := [(h0, ob 8 [.int h0f0, .int h0f1, .int h0f2, .int h0f3, .int h0f4, .int h0f5, .ref h1, .ref h2, .int h0f8, .int h0f9, .ref h3, .ref h4, .ref h5, .ref h6, .ref h7, .ref h8, .ref h9, .int h0f17, .int h0f18, .int h0f19, .ref h10, .ref h11, .ref h12, .ref h13, .int h0f24, .int h0f25, .ref h14, .ref h15, .ref h16, .ref h17, .int h0f30, .int h0f31, .ref h18, .ref h19, .ref h20, .ref h21]), (h4, aJ (k 1) 9 anJ), (h5, aJ (k 1) 9 anJ), (h7, aJ (k 1) 4 (zJ [2, 3]))]) (Tr := [(h1, aI (k 0) 36 anI)]) (as := [h0, h4, h5, h7]) (zcV (q0 := 1) (ci := 8) (As := [.int 1, .int (-1), .int 0]) (rest := []) (Tc := [(h0, ob 8 [.int h0f0, .int h0f1, .int h0f2, .int h0f3, .int h0f4, .int h0f5, .ref h1, .ref h2, .int h0f8, .int h0f9, .ref h3, .ref h4, .ref h5, .ref h6, .ref h7, .ref h8, .ref h9, .int h0f17, .int h0f18, .int h0f19, .ref h10, .ref h11, .ref h12, .ref h13, .int h0f24, .int h0f25, .ref h14, .ref h15, .ref h16, .ref h17, .int h0f30, .int h0f31, .ref h18, .ref h19, .ref h20, .ref h21]), (h4, aJ (k 1) 9 anJ), (h5, aJ (k 1) 9 anJ), (h7, aJ (k 1) 4 (zJ [2, 3]))]) hx hb hml hown hU hK hT rfl rfl [1, 2, 3, 4] rfl (by decide) (cX11_takesOut_c755e l D k _ h0 h4 h5 h7 h1 h2 h3 h6 h8 h9 h10 h11 h12 h13 h14 h15 h16 h17 h18 h19 h20 h21 (1) ((-1)) (0) h0f0 h0f1 h0f2 h0f3 h0f4 h0f5 h0f8 h0f9 h0f17 h0f18 h0f19 h0f24 h0f25 h0f30 h0f31 (by have := li_1; omega) (by have := li_m1; omega) (by have := li_0; omega) (by omega) (by omega) (by omega) (by omega) (by omega) (by omega) (by omega) (by omega) (by omega) (by omega) (by omega) (by omega) (by omega)) w999 w996 w998 w41 w72 hdX11_takesOut ⟨rfl, rfl⟩ ⟨Nat.le_of_ble_eq_true rfl, Nat.le_of_ble_eq_true rfl⟩ rfl hl.1 (Nat.le_of_ble_eq_true rfl) dX11_factor_78 ⟨Nat.le_of_ble_eq_true rfl, Nat.le_of_ble_eq_true rfl⟩) hT hS hA [1, 2, 3, 4] [0] rfl rfl rfl (by decide) (by decide) (fun r900 H locs hB J hS => ?_)
                                  rcases hB with ⟨rfl, hT1⟩ | ⟨v904, v905, b_v905, c_906, c_907, c_908, c_909, c_910, c_911, rfl, hT1⟩
                                  · skip
                                    have hT := J _ hT1
                                    have hT : TP D A [(h1, aI (k 0) 36 anI), (h0, ob 8 [.int h0f0, .int h0f1, .int h0f2, .int h0f3, .int h0f4, .int h0f5, .ref h1, .ref h2, .int h0f8, .int h0f9, .ref h3, .ref h4, .ref h5, .ref h6, .ref h7, .ref h8, .ref h9, .int h0f17, .int h0f18, .int h0f19, .ref h10, .ref h11, .ref h12, .ref h13, .int h0f24, .int h0f25, .ref h14, .ref h15, .ref h16, .ref h17, .int h0f30, .int h0f31, .ref h18, .ref h19, .ref h20, .ref h21]), (h4, aJ (k 1) 9 anJ), (h5, aJ (k 1) 9 anJ), (h7, aJ (k 1) 4 anJ)] H := hT
                                    refine lv_if_eq (tgt := 90) hx hb dX11_factor_81 (by decide) (fun _ => ?_) (fun cc => absurd (by decide +kernel) cc)
                                    refine lv_iload_n hx hb dX11_factor_90 rfl (lv_at hl 0 rfl) ?_
                                    exact tz_retI (B := B_cX11_factor_03481 D k h0 h1 h4 h5 h7 h2 h3 h6 h8 h9 h10 h11 h12 h13 h14 h15 h16 h17 h18 h19 h20 h21 x1 x2 h0f0 h0f1 h0f2 h0f3 h0f4 h0f5 h0f8 h0f9 h0f17 h0f18 h0f19 h0f24 h0f25 h0f30 h0f31) (v := 2) hQ hx hb hr hlocks hS (Nat.le_of_ble_eq_true rfl) (Nat.le_of_ble_eq_true rfl) dX11_factor_91 (⟨(by have := li_2; omega), (hT.sub [1, 0, 2, 3, 4] (by decide) rfl)⟩)
                                  · skip
                                    have hT := J _ hT1
                                    have hT : TP D A [(h1, aI (k 0) 36 anI), (h0, ob 8 [.int h0f0, .int h0f1, .int h0f2, .int h0f3, .int h0f4, .int h0f5, .ref h1, .ref h2, .int h0f8, .int h0f9, .ref h3, .ref h4, .ref h5, .ref h6, .ref h7, .ref h8, .ref h9, .int h0f17, .int h0f18, .int h0f19, .ref h10, .ref h11, .ref h12, .ref h13, .int h0f24, .int h0f25, .ref h14, .ref h15, .ref h16, .ref h17, .int h0f30, .int h0f31, .ref h18, .ref h19, .ref h20, .ref h21]), (h4, aJ (k 1) 9 anJ), (h5, aJ (k 1) 9 anJ), (h7, aJ (k 1) 4 (zJ [1, 2, 3]))] H := hT
                                    refine lv_if_eq (tgt := 90) hx hb dX11_factor_81 (by decide) (fun cc => absurd cc (by decide +kernel)) (fun _ => ?_)
                                    refine lv_iinc (v := 3) (lv' := [(3, .int 3), (4, .int 1), (0, .ref h0), (1, .int x1), (2, .int x2)]) hx hb dX11_factor_84 hl (k := 0) rfl (by decide) (by decide) rfl (fun ls hl => ?_)
                                    refine lv_goto (tgt := 45) hx hb dX11_factor_87 (by decide) ?_
                                    refine lv_aload_n hx hb dX11_factor_45 rfl (lv_at hl 2 rfl) ?_
                                    refine lv_iload hx hb dX11_factor_46 (lv_at hl 1 rfl) ?_
                                    refine lv_iload_n hx hb dX11_factor_48 rfl (lv_at hl 4 rfl) ?_
                                    refine lv_iconst (v := 1) hx hb dX11_factor_49 (by decide) ?_
                                    refine lv_icmp_ne (tgt := 57) hx hb dX11_factor_50 (by decide) (fun c_912 => ?_) (fun c_912 => ?_)
                                    · skip
                                      have c_912 := ni_ne c_912 rfl li_1
                                      exfalso; omega
                                    · skip
                                      have c_912 := ni_eq c_912 rfl li_1
                                      refine lv_iconst (v := (-1)) hx hb dX11_factor_53 (by decide) ?_
                                      refine lv_goto (tgt := 58) hx hb dX11_factor_54 (by decide) ?_
                                      refine lv_iload_n hx hb dX11_factor_58 rfl (lv_at hl 4 rfl) ?_
                                      refine lv_iconst (v := 3) hx hb dX11_factor_59 (by decide) ?_
                                      refine lv_icmp_ne (tgt := 67) hx hb dX11_factor_60 (by decide) (fun c_913 => ?_) (fun c_913 => ?_)
                                      · skip
                                        have c_913 := ni_ne c_913 rfl li_3
                                        refine lv_iload_n hx hb dX11_factor_67 rfl (lv_at hl 4 rfl) ?_
                                        refine lv_bipush (v := 6) hx hb dX11_factor_68 (by decide) ?_
                                        refine lv_icmp_ne (tgt := 77) hx hb dX11_factor_70 (by decide) (fun c_914 => ?_) (fun c_914 => ?_)
                                        · skip
                                          have c_914 := ni_ne c_914 rfl li_6
                                          refine lv_iconst (v := 0) hx hb dX11_factor_77 (by decide) ?_
                                          have q_q916 := li_1
                                          have q_q917 := li_m1
                                          have q_q918 := li_0
                                          refine tcI (Tc := [(h0, ob 8 [.int h0f0, .int h0f1, .int h0f2, .int h0f3, .int h0f4, .int h0f5, .ref h1, .ref h2, .int h0f8, .int h0f9, .ref h3, .ref h4, .ref h5, .ref h6, .ref h7, .ref h8, .ref h9, .int h0f17, .int h0f18, .int h0f19, .ref h10, .ref h11, .ref h12, .ref h13, .int h0f24, .int h0f25, .ref h14, .ref h15, .ref h16, .ref h17, .int h0f30, .int h0f31, .ref h18, .ref h19, .ref h20, .ref h21]), (h7, aJ (k 1) 4 (zJ [1, 2, 3]))]) (Tr := [(h1, aI (k 0) 36 anI), (h4, aJ (k 1) 9 anJ), (h5, aJ (k 1) 9 anJ)]) (as := [h0, h7]) (zcV (q0 := 1) (ci := 8) (As := [.int 1, .int (-1), .int 0]) (rest := []) (Tc := [(h0, ob 8 [.int h0f0, .int h0f1, .int h0f2, .int h0f3, .int h0f4, .int h0f5, .ref h1, .ref h2, .int h0f8, .int h0f9, .ref h3, .ref h4, .ref h5, .ref h6, .ref h7, .ref h8, .ref h9, .int h0f17, .int h0f18, .int h0f19, .ref h10, .ref h11, .ref h12, .ref h13, .int h0f24, .int h0f25, .ref h14, .ref h15, .ref h16, .ref h17, .int h0f30, .int h0f31, .ref h18, .ref h19, .ref h20, .ref h21]), (h7, aJ (k 1) 4 (zJ [1, 2, 3]))]) hx hb hml hown hU hK hT rfl rfl [1, 4] rfl (by decide) (cX11_takesOut_51a3e l D k _ h0 h7 h1 h2 h3 h4 h5 h6 h8 h9 h10 h11 h12 h13 h14 h15 h16 h17 h18 h19 h20 h21 (1) ((-1)) (0) h0f0 h0f1 h0f2 h0f3 h0f4 h0f5 h0f8 h0f9 h0f17 h0f18 h0f19 h0f24 h0f25 h0f30 h0f31 (by have := li_1; omega) (by have := li_m1; omega) (by have := li_0; omega) (by omega) (by omega) (by omega) (by omega) (by omega) (by omega) (by omega) (by omega) (by omega) (by omega) (by omega) (by omega) (by omega)) w999 w996 w998 w41 w72 hdX11_takesOut ⟨rfl, rfl⟩ ⟨Nat.le_of_ble_eq_true rfl, Nat.le_of_ble_eq_true rfl⟩ rfl hl.1 (Nat.le_of_ble_eq_true rfl) dX11_factor_78 ⟨Nat.le_of_ble_eq_true rfl, Nat.le_of_ble_eq_true rfl⟩) hT hS hA [1, 4] [0, 2, 3] rfl rfl rfl (by decide) (by decide) (fun r915 H locs hB J hS => ?_)
                                          obtain ⟨rfl, hT1⟩ := hB
                                          have hT := J _ hT1
                                          have hT : TP D A [(h1, aI (k 0) 36 anI), (h4, aJ (k 1) 9 anJ), (h5, aJ (k 1) 9 anJ), (h0, ob 8 [.int h0f0, .int h0f1, .int h0f2, .int h0f3, .int h0f4, .int h0f5, .ref h1, .ref h2, .int h0f8, .int h0f9, .ref h3, .ref h4, .ref h5, .ref h6, .ref h7, .ref h8, .ref h9, .int h0f17, .int h0f18, .int h0f19, .ref h10, .ref h11, .ref h12, .ref h13, .int h0f24, .int h0f25, .ref h14, .ref h15, .ref h16, .ref h17, .int h0f30, .int h0f31, .ref h18, .ref h19, .ref h20, .ref h21]), (h7, aJ (k 1) 4 anJ)] H := hT
                                          refine lv_if_eq (tgt := 90) hx hb dX11_factor_81 (by decide) (fun _ => ?_) (fun cc => absurd (by decide +kernel) cc)
                                          refine lv_iload_n hx hb dX11_factor_90 rfl (lv_at hl 0 rfl) ?_
                                          exact tz_retI (B := B_cX11_factor_03481 D k h0 h1 h4 h5 h7 h2 h3 h6 h8 h9 h10 h11 h12 h13 h14 h15 h16 h17 h18 h19 h20 h21 x1 x2 h0f0 h0f1 h0f2 h0f3 h0f4 h0f5 h0f8 h0f9 h0f17 h0f18 h0f19 h0f24 h0f25 h0f30 h0f31) (v := 3) hQ hx hb hr hlocks hS (Nat.le_of_ble_eq_true rfl) (Nat.le_of_ble_eq_true rfl) dX11_factor_91 (⟨(by have := li_3; omega), (hT.sub [3, 0, 1, 2, 4] (by decide) rfl)⟩)
                                        · skip
                                          have c_914 := ni_eq c_914 rfl li_6
                                          exfalso; omega
                                      · skip
                                        have c_913 := ni_eq c_913 rfl li_3
                                        exfalso; omega
                                · skip
                                  have c_899 := ni_eq c_899 rfl li_6
                                  exfalso; omega
                              · skip
                                have c_898 := ni_eq c_898 rfl li_3
                                exfalso; omega
                          · skip
                            have hT := J _ hT1
                            have hT : TP D A [(h1, aI (k 0) 36 anI), (h0, ob 8 [.int h0f0, .int h0f1, .int h0f2, .int h0f3, .int h0f4, .int h0f5, .ref h1, .ref h2, .int h0f8, .int h0f9, .ref h3, .ref h4, .ref h5, .ref h6, .ref h7, .ref h8, .ref h9, .int h0f17, .int h0f18, .int h0f19, .ref h10, .ref h11, .ref h12, .ref h13, .int h0f24, .int h0f25, .ref h14, .ref h15, .ref h16, .ref h17, .int h0f30, .int h0f31, .ref h18, .ref h19, .ref h20, .ref h21]), (h4, aJ (k 1) 9 anJ), (h5, aJ (k 1) 9 anJ), (h7, aJ (k 1) 4 (zJ [2, 3]))] H := hT
                            exfalso; omega
                        · skip
                          have c_842 := ni_eq c_842 rfl li_6
                          exfalso; omega
                      · skip
                        have c_841 := ni_eq c_841 rfl li_3
                        exfalso; omega
                  · skip
                    have hT := J _ hT1
                    have hT : TP D A [(h1, aI (k 0) 36 anI), (h0, ob 8 [.int h0f0, .int h0f1, .int h0f2, .int h0f3, .int h0f4, .int h0f5, .ref h1, .ref h2, .int h0f8, .int h0f9, .ref h3, .ref h4, .ref h5, .ref h6, .ref h7, .ref h8, .ref h9, .int h0f17, .int h0f18, .int h0f19, .ref h10, .ref h11, .ref h12, .ref h13, .int h0f24, .int h0f25, .ref h14, .ref h15, .ref h16, .ref h17, .int h0f30, .int h0f31, .ref h18, .ref h19, .ref h20, .ref h21]), (h4, aJ (k 1) 9 anJ), (h5, aJ (k 1) 9 anJ), (h7, aJ (k 1) 4 (zJ [3]))] H := hT
                    refine lv_if_eq (tgt := 90) hx hb dX11_factor_81 (by decide) (fun cc => absurd cc (by decide +kernel)) (fun _ => ?_)
                    refine lv_iinc (v := 1) (lv' := [(3, .int 1), (4, .int 1), (0, .ref h0), (1, .int x1), (2, .int x2)]) hx hb dX11_factor_84 hl (k := 1) rfl (by decide) (by decide) rfl (fun ls hl => ?_)
                    refine lv_goto (tgt := 45) hx hb dX11_factor_87 (by decide) ?_
                    refine lv_aload_n hx hb dX11_factor_45 rfl (lv_at hl 2 rfl) ?_
                    refine lv_iload hx hb dX11_factor_46 (lv_at hl 1 rfl) ?_
                    refine lv_iload_n hx hb dX11_factor_48 rfl (lv_at hl 4 rfl) ?_
                    refine lv_iconst (v := 1) hx hb dX11_factor_49 (by decide) ?_
                    refine lv_icmp_ne (tgt := 57) hx hb dX11_factor_50 (by decide) (fun c_919 => ?_) (fun c_919 => ?_)
                    · skip
                      have c_919 := ni_ne c_919 rfl li_1
                      exfalso; omega
                    · skip
                      have c_919 := ni_eq c_919 rfl li_1
                      refine lv_iconst (v := (-1)) hx hb dX11_factor_53 (by decide) ?_
                      refine lv_goto (tgt := 58) hx hb dX11_factor_54 (by decide) ?_
                      refine lv_iload_n hx hb dX11_factor_58 rfl (lv_at hl 4 rfl) ?_
                      refine lv_iconst (v := 3) hx hb dX11_factor_59 (by decide) ?_
                      refine lv_icmp_ne (tgt := 67) hx hb dX11_factor_60 (by decide) (fun c_920 => ?_) (fun c_920 => ?_)
                      · skip
                        have c_920 := ni_ne c_920 rfl li_3
                        refine lv_iload_n hx hb dX11_factor_67 rfl (lv_at hl 4 rfl) ?_
                        refine lv_bipush (v := 6) hx hb dX11_factor_68 (by decide) ?_
                        refine lv_icmp_ne (tgt := 77) hx hb dX11_factor_70 (by decide) (fun c_921 => ?_) (fun c_921 => ?_)
                        · skip
                          have c_921 := ni_ne c_921 rfl li_6
                          refine lv_iconst (v := 0) hx hb dX11_factor_77 (by decide) ?_
                          have q_q923 := li_1
                          have q_q924 := li_m1
                          have q_q925 := li_0
                          refine tcI (Tc := [(h0, ob 8 [.int h0f0, .int h0f1, .int h0f2, .int h0f3, .int h0f4, .int h0f5, .ref h1, .ref h2, .int h0f8, .int h0f9, .ref h3, .ref h4, .ref h5, .ref h6, .ref h7, .ref h8, .ref h9, .int h0f17, .int h0f18, .int h0f19, .ref h10, .ref h11, .ref h12, .ref h13, .int h0f24, .int h0f25, .ref h14, .ref h15, .ref h16, .ref h17, .int h0f30, .int h0f31, .ref h18, .ref h19, .ref h20, .ref h21]), (h4, aJ (k 1) 9 anJ), (h5, aJ (k 1) 9 anJ), (h7, aJ (k 1) 4 (zJ [3]))]) (Tr := [(h1, aI (k 0) 36 anI)]) (as := [h0, h4, h5, h7]) (zcV (q0 := 1) (ci := 8) (As := [.int 1, .int (-1), .int 0]) (rest := []) (Tc := [(h0, ob 8 [.int h0f0, .int h0f1, .int h0f2, .int h0f3, .int h0f4, .int h0f5, .ref h1, .ref h2, .int h0f8, .int h0f9, .ref h3, .ref h4, .ref h5, .ref h6, .ref h7, .ref h8, .ref h9, .int h0f17, .int h0f18, .int h0f19, .ref h10, .ref h11, .ref h12, .ref h13, .int h0f24, .int h0f25, .ref h14, .ref h15, .ref h16, .ref h17, .int h0f30, .int h0f31, .ref h18, .ref h19, .ref h20, .ref h21]), (h4, aJ (k 1) 9 anJ), (h5, aJ (k 1) 9 anJ), (h7, aJ (k 1) 4 (zJ [3]))]) hx hb hml hown hU hK hT rfl rfl [1, 2, 3, 4] rfl (by decide) (cX11_takesOut_75942 l D k _ h0 h4 h5 h7 h1 h2 h3 h6 h8 h9 h10 h11 h12 h13 h14 h15 h16 h17 h18 h19 h20 h21 (1) ((-1)) (0) h0f0 h0f1 h0f2 h0f3 h0f4 h0f5 h0f8 h0f9 h0f17 h0f18 h0f19 h0f24 h0f25 h0f30 h0f31 (by have := li_1; omega) (by have := li_m1; omega) (by have := li_0; omega) (by omega) (by omega) (by omega) (by omega) (by omega) (by omega) (by omega) (by omega) (by omega) (by omega) (by omega) (by omega) (by omega)) w999 w996 w998 w41 w72 hdX11_takesOut ⟨rfl, rfl⟩ ⟨Nat.le_of_ble_eq_true rfl, Nat.le_of_ble_eq_true rfl⟩ rfl hl.1 (Nat.le_of_ble_eq_true rfl) dX11_factor_78 ⟨Nat.le_of_ble_eq_true rfl, Nat.le_of_ble_eq_true rfl⟩) hT hS hA [1, 2, 3, 4] [0] rfl rfl rfl (by decide) (by decide) (fun r922 H locs hB J hS => ?_)
                          rcases hB with ⟨rfl, hT1⟩ | ⟨v926, v927, b_v927, c_928, c_929, c_930, c_931, c_932, c_933, c_934, rfl, hT1⟩ | ⟨v935, v936, v937, b_v935, b_v937, c_938, c_939, c_940, c_941, c_942, c_943, c_944, rfl, hT1⟩ | ⟨v945, v946, v947, b_v946, b_v947, c_948, c_949, c_950, c_951, c_952, c_953, rfl, hT1⟩
                          · skip
                            have hT := J _ hT1
                            have hT : TP D A [(h1, aI (k 0) 36 anI), (h0, ob 8 [.int h0f0, .int h0f1, .int h0f2, .int h0f3, .int h0f4, .int h0f5, .ref h1, .ref h2, .int h0f8, .int h0f9, .ref h3, .ref h4, .ref h5, .ref h6, .ref h7, .ref h8, .ref h9, .int h0f17, .int h0f18, .int h0f19, .ref h10, .ref h11, .ref h12, .ref h13, .int h0f24, .int h0f25, .ref h14, .ref h15, .ref h16, .ref h17, .int h0f30, .int h0f31, .ref h18, .ref h19, .ref h20, .ref h21]), (h4, aJ (k 1) 9 anJ), (h5, aJ (k 1) 9 anJ), (h7, aJ (k 1) 4 anJ)] H := hT
                            refine lv_if_eq (tgt := 90) hx hb dX11_factor_81 (by decide) (fun _ => ?_) (fun cc => absurd (by decide +kernel) cc)
                            refine lv_iload_n hx hb dX11_factor_90 rfl (lv_at hl 0 rfl) ?_
                            exact tz_retI (B := B_cX11_factor_03481 D k h0 h1 h4 h5 h7 h2 h3 h6 h8 h9 h10 h11 h12 h13 h14 h15 h16 h17 h18 h19 h20 h21 x1 x2 h0f0 h0f1 h0f2 h0f3 h0f4 h0f5 h0f8 h0f9 h0f17 h0f18 h0f19 h0f24 h0f25 h0f30 h0f31) (v := 1) hQ hx hb hr hlocks hS (Nat.le_of_ble_eq_true rfl) (Nat.le_of_ble_eq_true rfl) dX11_factor_91 (⟨(by have := li_1; omega), (hT.sub [1, 0, 2, 3, 4] (by decide) rfl)⟩)
                          · skip
                            have hT := J _ hT1
                            have hT : TP D A [(h1, aI (k 0) 36 anI), (h0, ob 8 [.int h0f0, .int h0f1, .int h0f2, .int h0f3, .int h0f4, .int h0f5, .ref h1, .ref h2, .int h0f8, .int h0f9, .ref h3, .ref h4, .ref h5, .ref h6, .ref h7, .ref h8, .ref h9, .int h0f17, .int h0f18, .int h0f19, .ref h10, .ref h11, .ref h12, .ref h13, .int h0f24, .int h0f25, .ref h14, .ref h15, .ref h16, .ref h17, .int h0f30, .int h0f31, .ref h18, .ref h19, .ref h20, .ref h21]), (h4, aJ (k 1) 9 anJ), (h5, aJ (k 1) 9 anJ), (h7, aJ (k 1) 4 (zJ [2, 3]))] H := hT
                            refine lv_if_eq (tgt := 90) hx hb dX11_factor_81 (by decide) (fun cc => absurd cc (by decide +kernel)) (fun _ => ?_)
                            refine lv_iinc (v := 2) (lv' := [(3, .int 2), (4, .int 1), (0, .ref h0), (1, .int x1), (2, .int x2)]) hx hb dX11_factor_84 hl (k := 0) rfl (by decide) (by decide) rfl (fun ls hl => ?_)
                            refine lv_goto (tgt := 45) hx hb dX11_factor_87 (by decide) ?_
                            refine lv_aload_n hx hb dX11_factor_45 rfl (lv_at hl 2 rfl) ?_
                            refine lv_iload hx hb dX11_factor_46 (lv_at hl 1 rfl) ?_
                            refine lv_iload_n hx hb dX11_factor_48 rfl (lv_at hl 4 rfl) ?_
                            refine lv_iconst (v := 1) hx hb dX11_factor_49 (by decide) ?_
                            refine lv_icmp_ne (tgt := 57) hx hb dX11_factor_50 (by decide) (fun c_954 => ?_) (fun c_954 => ?_)
                            · skip
                              have c_954 := ni_ne c_954 rfl li_1
                              exfalso; omega
                            · skip
                              have c_954 := ni_eq c_954 rfl li_1
                              refine lv_iconst (v := (-1)) hx hb dX11_factor_53 (by decide) ?_
                              refine lv_goto (tgt := 58) hx hb dX11_factor_54 (by decide) ?_
                              refine lv_iload_n hx hb dX11_factor_58 rfl (lv_at hl 4 rfl) ?_
                              refine lv_iconst (v := 3) hx hb dX11_factor_59 (by decide) ?_
                              refine lv_icmp_ne (tgt := 67) hx hb dX11_factor_60 (by decide) (fun c_955 => ?_) (fun c_955 => ?_)
                              · skip
                                have c_955 := ni_ne c_955 rfl li_3
                                refine lv_iload_n hx hb dX11_factor_67 rfl (lv_at hl 4 rfl) ?_
                                refine lv_bipush (v := 6) hx hb dX11_factor_68 (by decide) ?_
                                refine lv_icmp_ne (tgt := 77) hx hb dX11_factor_70 (by decide) (fun c_956 => ?_) (fun c_956 => ?_)
                                · skip
                                  have c_956 := ni_ne c_956 rfl li_6
                                  refine lv_iconst (v := 0) hx hb dX11_factor_77 (by decide) ?_
                                  have q_q958 := li_1
                                  have q_q959 := li_m1
                                  have q_q960 := li_0
                                  refine tcI (Tc := [(h0, ob 8 [.int h0f0, .int h0f1, .int h0f2, .int h0f3, .int h0f4, .int h0f5, .ref h1, .ref h2, .int h0f8, .int h0f9, .ref h3, .ref h4, .ref h5, .ref h6, .ref h7, .ref h8, .ref h9, .int h0f17, .int h0f18, .int h0f19, .ref h10, .ref h11, .ref h12, .ref h13, .int h0f24, .int h0f25, .ref h14, .ref h15, .ref h16, .ref h17, .int h0f30, .int h0f31, .ref h18, .ref h19, .ref h20, .ref h21]), (h4, aJ (k 1) 9 anJ), (h5, aJ (k 1) 9 anJ), (h7, aJ (k 1) 4 (zJ [2, 3]))]) (Tr := [(h1, aI (k 0) 36 anI)]) (as := [h0, h4, h5, h7]) (zcV (q0 := 1) (ci := 8) (As := [.int 1, .int (-1), .int 0]) (rest := []) (Tc := [(h0, ob 8 [.int h0f0, .int h0f1, .int h0f2, .int h0f3, .int h0f4, .int h0f5, .ref h1, .ref h2, .int h0f8, .int h0f9, .ref h3, .ref h4, .ref h5, .ref h6, .ref h7, .ref h8, .ref h9, .int h0f17, .int h0f18, .int h0f19, .ref h10, .ref h11, .ref h12, .ref h13, .int h0f24, .int h0f25, .ref h14, .ref h15, .ref h16, .ref h17, .int h0f30, .int h0f31, .ref h18, .ref h19, .ref h20, .ref h21]), (h4, aJ (k 1) 9 anJ), (h5, aJ (k 1) 9 anJ), (h7, aJ (k 1) 4 (zJ [2, 3]))]) hx hb hml hown hU hK hT rfl rfl [1, 2, 3, 4] rfl (by decide) (cX11_takesOut_c755e l D k _ h0 h4 h5 h7 h1 h2 h3 h6 h8 h9 h10 h11 h12 h13 h14 h15 h16 h17 h18 h19 h20 h21 (1) ((-1)) (0) h0f0 h0f1 h0f2 h0f3 h0f4 h0f5 h0f8 h0f9 h0f17 h0f18 h0f19 h0f24 h0f25 h0f30 h0f31 (by have := li_1; omega) (by have := li_m1; omega) (by have := li_0; omega) (by omega) (by omega) (by omega) (by omega) (by omega) (by omega) (by omega) (by omega) (by omega) (by omega) (by omega) (by omega) (by omega)) w999 w996 w998 w41 w72 hdX11_takesOut ⟨rfl, rfl⟩ ⟨Nat.le_of_ble_eq_true rfl, Nat.le_of_ble_eq_true rfl⟩ rfl hl.1 (Nat.le_of_ble_eq_true rfl) dX11_factor_78 ⟨Nat.le_of_ble_eq_true rfl, Nat.le_of_ble_eq_true rfl⟩) hT hS hA [1, 2, 3, 4] [0] rfl rfl rfl (by decide) (by decide) (fun r957 H locs hB J hS => ?_)
                                  rcases hB with ⟨rfl, hT1⟩ | ⟨v961, v962, b_v962, c_963, c_964, c_965, c_966, c_967, c_968, rfl, hT1⟩
                                  · skip
                                    have hT := J _ hT1
                                    have hT : TP D A [(h1, aI (k 0) 36 anI), (h0, ob 8 [.int h0f0, .int h0f1, .int h0f2, .int h0f3, .int h0f4, .int h0f5, .ref h1, .ref h2, .int h0f8, .int h0f9, .ref h3, .ref h4, .ref h5, .ref h6, .ref h7, .ref h8, .ref h9, .int h0f17, .int h0f18, .int h0f19, .ref h10, .ref h11, .ref h12, .ref h13, .int h0f24, .int h0f25, .ref h14, .ref h15, .ref h16, .ref h17, .int h0f30, .int h0f31, .ref h18, .ref h19, .ref h20, .ref h21]), (h4, aJ (k 1) 9 anJ), (h5, aJ (k 1) 9 anJ), (h7, aJ (k 1) 4 anJ)] H := hT
                                    refine lv_if_eq (tgt := 90) hx hb dX11_factor_81 (by decide) (fun _ => ?_) (fun cc => absurd (by decide +kernel) cc)
                                    refine lv_iload_n hx hb dX11_factor_90 rfl (lv_at hl 0 rfl) ?_
                                    exact tz_retI (B := B_cX11_factor_03481 D k h0 h1 h4 h5 h7 h2 h3 h6 h8 h9 h10 h11 h12 h13 h14 h15 h16 h17 h18 h19 h20 h21 x1 x2 h0f0 h0f1 h0f2 h0f3 h0f4 h0f5 h0f8 h0f9 h0f17 h0f18 h0f19 h0f24 h0f25 h0f30 h0f31) (v := 2) hQ hx hb hr hlocks hS (Nat.le_of_ble_eq_true rfl) (Nat.le_of_ble_eq_true rfl) dX11_factor_91 (⟨(by have := li_2; omega), (hT.sub [1, 0, 2, 3, 4] (by decide) rfl)⟩)
                                  · skip
                                    have hT := J _ hT1
                                    have hT : TP D A [(h1, aI (k 0) 36 anI), (h0, ob 8 [.int h0f0, .int h0f1, .int h0f2, .int h0f3, .int h0f4, .int h0f5, .ref h1, .ref h2, .int h0f8, .int h0f9, .ref h3, .ref h4, .ref h5, .ref h6, .ref h7, .ref h8, .ref h9, .int h0f17, .int h0f18, .int h0f19, .ref h10, .ref h11, .ref h12, .ref h13, .int h0f24, .int h0f25, .ref h14, .ref h15, .ref h16, .ref h17, .int h0f30, .int h0f31, .ref h18, .ref h19, .ref h20, .ref h21]), (h4, aJ (k 1) 9 anJ), (h5, aJ (k 1) 9 anJ), (h7, aJ (k 1) 4 (zJ [1, 2, 3]))] H := hT
                                    refine lv_if_eq (tgt := 90) hx hb dX11_factor_81 (by decide) (fun cc => absurd cc (by decide +kernel)) (fun _ => ?_)
                                    refine lv_iinc (v := 3) (lv' := [(3, .int 3), (4, .int 1), (0, .ref h0), (1, .int x1), (2, .int x2)]) hx hb dX11_factor_84 hl (k := 0) rfl (by decide) (by decide) rfl (fun ls hl => ?_)
                                    refine lv_goto (tgt := 45) hx hb dX11_factor_87 (by decide) ?_
                                    refine lv_aload_n hx hb dX11_factor_45 rfl (lv_at hl 2 rfl) ?_
                                    refine lv_iload hx hb dX11_factor_46 (lv_at hl 1 rfl) ?_
                                    refine lv_iload_n hx hb dX11_factor_48 rfl (lv_at hl 4 rfl) ?_
                                    refine lv_iconst (v := 1) hx hb dX11_factor_49 (by decide) ?_
                                    refine lv_icmp_ne (tgt := 57) hx hb dX11_factor_50 (by decide) (fun c_969 => ?_) (fun c_969 => ?_)
                                    · skip
                                      have c_969 := ni_ne c_969 rfl li_1
                                      exfalso; omega
                                    · skip
                                      have c_969 := ni_eq c_969 rfl li_1
                                      refine lv_iconst (v := (-1)) hx hb dX11_factor_53 (by decide) ?_
                                      refine lv_goto (tgt := 58) hx hb dX11_factor_54 (by decide) ?_
                                      refine lv_iload_n hx hb dX11_factor_58 rfl (lv_at hl 4 rfl) ?_
                                      refine lv_iconst (v := 3) hx hb dX11_factor_59 (by decide) ?_
                                      refine lv_icmp_ne (tgt := 67) hx hb dX11_factor_60 (by decide) (fun c_970 => ?_) (fun c_970 => ?_)
                                      · skip
                                        have c_970 := ni_ne c_970 rfl li_3
                                        refine lv_iload_n hx hb dX11_factor_67 rfl (lv_at hl 4 rfl) ?_
                                        refine lv_bipush (v := 6) hx hb dX11_factor_68 (by decide) ?_
                                        refine lv_icmp_ne (tgt := 77) hx hb dX11_factor_70 (by decide) (fun c_971 => ?_) (fun c_971 => ?_)
                                        · skip
                                          have c_971 := ni_ne c_971 rfl li_6
                                          refine lv_iconst (v := 0) hx hb dX11_factor_77 (by decide) ?_
                                          have q_q973 := li_1
                                          have q_q974 := li_m1
                                          have q_q975 := li_0
                                          refine tcI (Tc := [(h0, ob 8 [.int h0f0, .int h0f1, .int h0f2, .int h0f3, .int h0f4, .int h0f5, .ref h1, .ref h2, .int h0f8, .int h0f9, .ref h3, .ref h4, .ref h5, .ref h6, .ref h7, .ref h8, .ref h9, .int h0f17, .int h0f18, .int h0f19, .ref h10, .ref h11, .ref h12, .ref h13, .int h0f24, .int h0f25, .ref h14, .ref h15, .ref h16, .ref h17, .int h0f30, .int h0f31, .ref h18, .ref h19, .ref h20, .ref h21]), (h7, aJ (k 1) 4 (zJ [1, 2, 3]))]) (Tr := [(h1, aI (k 0) 36 anI), (h4, aJ (k 1) 9 anJ), (h5, aJ (k 1) 9 anJ)]) (as := [h0, h7]) (zcV (q0 := 1) (ci := 8) (As := [.int 1, .int (-1), .int 0]) (rest := []) (Tc := [(h0, ob 8 [.int h0f0, .int h0f1, .int h0f2, .int h0f3, .int h0f4, .int h0f5, .ref h1, .ref h2, .int h0f8, .int h0f9, .ref h3, .ref h4, .ref h5, .ref h6, .ref h7, .ref h8, .ref h9, .int h0f17, .int h0f18, .int h0f19, .ref h10, .ref h11, .ref h12, .ref h13, .int h0f24, .int h0f25, .ref h14, .ref h15, .ref h16, .ref h17, .int h0f30, .int h0f31, .ref h18, .ref h19, .ref h20, .ref h21]), (h7, aJ (k 1) 4 (zJ [1, 2, 3]))]) hx hb hml hown hU hK hT rfl rfl [1, 4] rfl (by decide) (cX11_takesOut_51a3e l D k _ h0 h7 h1 h2 h3 h4 h5 h6 h8 h9 h10 h11 h12 h13 h14 h15 h16 h17 h18 h19 h20 h21 (1) ((-1)) (0) h0f0 h0f1 h0f2 h0f3 h0f4 h0f5 h0f8 h0f9 h0f17 h0f18 h0f19 h0f24 h0f25 h0f30 h0f31 (by have := li_1; omega) (by have := li_m1; omega) (by have := li_0; omega) (by omega) (by omega) (by omega) (by omega) (by omega) (by omega) (by omega) (by omega) (by omega) (by omega) (by omega) (by omega) (by omega)) w999 w996 w998 w41 w72 hdX11_takesOut ⟨rfl, rfl⟩ ⟨Nat.le_of_ble_eq_true rfl, Nat.le_of_ble_eq_true rfl⟩ rfl hl.1 (Nat.le_of_ble_eq_true rfl) dX11_factor_78 ⟨Nat.le_of_ble_eq_true rfl, Nat.le_of_ble_eq_true rfl⟩) hT hS hA [1, 4] [0, 2, 3] rfl rfl rfl (by decide) (by decide) (fun r972 H locs hB J hS => ?_)
                                          obtain ⟨rfl, hT1⟩ := hB
                                          have hT := J _ hT1
                                          have hT : TP D A [(h1, aI (k 0) 36 anI), (h4, aJ (k 1) 9 anJ), (h5, aJ (k 1) 9 anJ), (h0, ob 8 [.int h0f0, .int h0f1, .int h0f2, .int h0f3, .int h0f4, .int h0f5, .ref h1, .ref h2, .int h0f8, .int h0f9, .ref h3, .ref h4, .ref h5, .ref h6, .ref h7, .ref h8, .ref h9, .int h0f17, .int h0f18, .int h0f19, .ref h10, .ref h11, .ref h12, .ref h13, .int h0f24, .int h0f25, .ref h14, .ref h15, .ref h16, .ref h17, .int h0f30, .int h0f31, .ref h18, .ref h19, .ref h20, .ref h21]), (h7, aJ (k 1) 4 anJ)] H := hT
                                          refine lv_if_eq (tgt := 90) hx hb dX11_factor_81 (by decide) (fun _ => ?_) (fun cc => absurd (by decide +kernel) cc)
                                          refine lv_iload_n hx hb dX11_factor_90 rfl (lv_at hl 0 rfl) ?_
                                          exact tz_retI (B := B_cX11_factor_03481 D k h0 h1 h4 h5 h7 h2 h3 h6 h8 h9 h10 h11 h12 h13 h14 h15 h16 h17 h18 h19 h20 h21 x1 x2 h0f0 h0f1 h0f2 h0f3 h0f4 h0f5 h0f8 h0f9 h0f17 h0f18 h0f19 h0f24 h0f25 h0f30 h0f31) (v := 3) hQ hx hb hr hlocks hS (Nat.le_of_ble_eq_true rfl) (Nat.le_of_ble_eq_true rfl) dX11_factor_91 (⟨(by have := li_3; omega), (hT.sub [3, 0, 1, 2, 4] (by decide) rfl)⟩)
                                        · skip
                                          have c_971 := ni_eq c_971 rfl li_6
                                          exfalso; omega
                                      · skip
                                        have c_970 := ni_eq c_970 rfl li_3
                                        exfalso; omega
                                · skip
                                  have c_956 := ni_eq c_956 rfl li_6
                                  exfalso; omega
                              · skip
                                have c_955 := ni_eq c_955 rfl li_3
                                exfalso; omega
                          · skip
                            have hT := J _ hT1
                            have hT : TP D A [(h1, aI (k 0) 36 anI), (h0, ob 8 [.int h0f0, .int h0f1, .int h0f2, .int h0f3, .int h0f4, .int h0f5, .ref h1, .ref h2, .int h0f8, .int h0f9, .ref h3, .ref h4, .ref h5, .ref h6, .ref h7, .ref h8, .ref h9, .int h0f17, .int h0f18, .int h0f19, .ref h10, .ref h11, .ref h12, .ref h13, .int h0f24, .int h0f25, .ref h14, .ref h15, .ref h16, .ref h17, .int h0f30, .int h0f31, .ref h18, .ref h19, .ref h20, .ref h21]), (h4, aJ (k 1) 9 anJ), (h5, aJ (k 1) 9 anJ), (h7, aJ (k 1) 4 (zJ [2, 3]))] H := hT
                            refine lv_if_eq (tgt := 90) hx hb dX11_factor_81 (by decide) (fun cc => absurd cc (by decide +kernel)) (fun _ => ?_)
                            refine lv_iinc (v := 2) (lv' := [(3, .int 2), (4, .int 1), (0, .ref h0), (1, .int x1), (2, .int x2)]) hx hb dX11_factor_84 hl (k := 0) rfl (by decide) (by decide) rfl (fun ls hl => ?_)
                            refine lv_goto (tgt := 45) hx hb dX11_factor_87 (by decide) ?_
                            refine lv_aload_n hx hb dX11_factor_45 rfl (lv_at hl 2 rfl) ?_
                            refine lv_iload hx hb dX11_factor_46 (lv_at hl 1 rfl) ?_
                            refine lv_iload_n hx hb dX11_factor_48 rfl (lv_at hl 4 rfl) ?_
                            refine lv_iconst (v := 1) hx hb dX11_factor_49 (by decide) ?_
                            refine lv_icmp_ne (tgt := 57) hx hb dX11_factor_50 (by decide) (fun c_976 => ?_) (fun c_976 => ?_)
                            · skip
                              have c_976 := ni_ne c_976 rfl li_1
                              exfalso; omega
                            · skip
                              have c_976 := ni_eq c_976 rfl li_1
                              refine lv_iconst (v := (-1)) hx hb dX11_factor_53 (by decide) ?_
                              refine lv_goto (tgt := 58) hx hb dX11_factor_54 (by decide) ?_
                              refine lv_iload_n hx hb dX11_factor_58 rfl (lv_at hl 4 rfl) ?_
                              refine lv_iconst (v := 3) hx hb dX11_factor_59 (by decide) ?_
                              refine lv_icmp_ne (tgt := 67) hx hb dX11_factor_60 (by decide) (fun c_977 => ?_) (fun c_977 => ?_)
                              · skip
                                have c_977 := ni_ne c_977 rfl li_3
                                refine lv_iload_n hx hb dX11_factor_67 rfl (lv_at hl 4 rfl) ?_
                                refine lv_bipush (v := 6) hx hb dX11_factor_68 (by decide) ?_
                                refine lv_icmp_ne (tgt := 77) hx hb dX11_factor_70 (by decide) (fun c_978 => ?_) (fun c_978 => ?_)
                                · skip
                                  have c_978 := ni_ne c_978 rfl li_6
                                  refine lv_iconst (v := 0) hx hb dX11_factor_77 (by decide) ?_
                                  have q_q980 := li_1
                                  have q_q981 := li_m1
                                  have q_q982 := li_0
                                  refine tcI (Tc := [(h0, ob 8 [.int h0f0, .int h0f1, .int h0f2, .int h0f3, .int h0f4, .int h0f5, .ref h1, .ref h2, .int h0f8, .int h0f9, .ref h3, .ref h4, .ref h5, .ref h6, .ref h7, .ref h8, .ref h9, .int h0f17, .int h0f18, .int h0f19, .ref h10, .ref h11, .ref h12, .ref h13, .int h0f24, .int h0f25, .ref h14, .ref h15, .ref h16, .ref h17, .int h0f30, .int h0f31, .ref h18, .ref h19, .ref h20, .ref h21]), (h4, aJ (k 1) 9 anJ), (h5, aJ (k 1) 9 anJ), (h7, aJ (k 1) 4 (zJ [2, 3]))]) (Tr := [(h1, aI (k 0) 36 anI)]) (as := [h0, h4, h5, h7]) (zcV (q0 := 1) (ci := 8) (As := [.int 1, .int (-1), .int 0]) (rest := []) (Tc := [(h0, ob 8 [.int h0f0, .int h0f1, .int h0f2, .int h0f3, .int h0f4, .int h0f5, .ref h1, .ref h2, .int h0f8, .int h0f9, .ref h3, .ref h4, .ref h5, .ref h6, .ref h7, .ref h8, .ref h9, .int h0f17, .int h0f18, .int h0f19, .ref h10, .ref h11, .ref h12, .ref h13, .int h0f24, .int h0f25, .ref h14, .ref h15, .ref h16, .ref h17, .int h0f30, .int h0f31, .ref h18, .ref h19, .ref h20, .ref h21]), (h4, aJ (k 1) 9 anJ), (h5, aJ (k 1) 9 anJ), (h7, aJ (k 1) 4 (zJ [2, 3]))]) hx hb hml hown hU hK hT rfl rfl [1, 2, 3, 4] rfl (by decide) (cX11_takesOut_c755e l D k _ h0 h4 h5 h7 h1 h2 h3 h6 h8 h9 h10 h11 h12 h13 h14 h15 h16 h17 h18 h19 h20 h21 (1) ((-1)) (0) h0f0 h0f1 h0f2 h0f3 h0f4 h0f5 h0f8 h0f9 h0f17 h0f18 h0f19 h0f24 h0f25 h0f30 h0f31 (by have := li_1; omega) (by have := li_m1; omega) (by have := li_0; omega) (by omega) (by omega) (by omega) (by omega) (by omega) (by omega) (by omega) (by omega) (by omega) (by omega) (by omega) (by omega) (by omega)) w999 w996 w998 w41 w72 hdX11_takesOut ⟨rfl, rfl⟩ ⟨Nat.le_of_ble_eq_true rfl, Nat.le_of_ble_eq_true rfl⟩ rfl hl.1 (Nat.le_of_ble_eq_true rfl) dX11_factor_78 ⟨Nat.le_of_ble_eq_true rfl, Nat.le_of_ble_eq_true rfl⟩) hT hS hA [1, 2, 3, 4] [0] rfl rfl rfl (by decide) (by decide) (fun r979 H locs hB J hS => ?_)
                                  rcases hB with ⟨rfl, hT1⟩ | ⟨v983, v984, b_v984, c_985, c_986, c_987, c_988, c_989, c_990, rfl, hT1⟩
                                  · skip
                                    have hT := J _ hT1
                                    have hT : TP D A [(h1, aI (k 0) 36 anI), (h0, ob 8 [.int h0f0, .int h0f1, .int h0f2, .int h0f3, .int h0f4, .int h0f5, .ref h1, .ref h2, .int h0f8, .int h0f9, .ref h3, .ref h4, .ref h5, .ref h6, .ref h7, .ref h8, .ref h9, .int h0f17, .int h0f18, .int h0f19, .ref h10, .ref h11, .ref h12, .ref h13, .int h0f24, .int h0f25, .ref h14, .ref h15, .ref h16, .ref h17, .int h0f30, .int h0f31, .ref h18, .ref h19, .ref h20, .ref h21]), (h4, aJ (k 1) 9 anJ), (h5, aJ (k 1) 9 anJ), (h7, aJ (k 1) 4 anJ)] H := hT
                                    refine lv_if_eq (tgt := 90) hx hb dX11_factor_81 (by decide) (fun _ => ?_) (fun cc => absurd (by decide +kernel) cc)
                                    refine lv_iload_n hx hb dX11_factor_90 rfl (lv_at hl 0 rfl) ?_
                                    exact tz_retI (B := B_cX11_factor_03481 D k h0 h1 h4 h5 h7 h2 h3 h6 h8 h9 h10 h11 h12 h13 h14 h15 h16 h17 h18 h19 h20 h21 x1 x2 h0f0 h0f1 h0f2 h0f3 h0f4 h0f5 h0f8 h0f9 h0f17 h0f18 h0f19 h0f24 h0f25 h0f30 h0f31) (v := 2) hQ hx hb hr hlocks hS (Nat.le_of_ble_eq_true rfl) (Nat.le_of_ble_eq_true rfl) dX11_factor_91 (⟨(by have := li_2; omega), (hT.sub [1, 0, 2, 3, 4] (by decide) rfl)⟩)
                                  · skip
                                    have hT := J _ hT1
                                    have hT : TP D A [(h1, aI (k 0) 36 anI), (h0, ob 8 [.int h0f0, .int h0f1, .int h0f2, .int h0f3, .int h0f4, .int h0f5, .ref h1, .ref h2, .int h0f8, .int h0f9, .ref h3, .ref h4, .ref h5, .ref h6, .ref h7, .ref h8, .ref h9, .int h0f17, .int h0f18, .int h0f19, .ref h10, .ref h11, .ref h12, .ref h13, .int h0f24, .int h0f25, .ref h14, .ref h15, .ref h16, .ref h17, .int h0f30, .int h0f31, .ref h18, .ref h19, .ref h20, .ref h21]), (h4, aJ (k 1) 9 anJ), (h5, aJ (k 1) 9 anJ), (h7, aJ (k 1) 4 (zJ [1, 2, 3]))] H := hT
                                    refine lv_if_eq (tgt := 90) hx hb dX11_factor_81 (by decide) (fun cc => absurd cc (by decide +kernel)) (fun _ => ?_)
                                    refine lv_iinc (v := 3) (lv' := [(3, .int 3), (4, .int 1), (0, .ref h0), (1, .int x1), (2, .int x2)]) hx hb dX11_factor_84 hl (k := 0) rfl (by decide) (by decide) rfl (fun ls hl => ?_)
                                    refine lv_goto (tgt := 45) hx hb dX11_factor_87 (by decide) ?_
                                    refine lv_aload_n hx hb dX11_factor_45 rfl (lv_at hl 2 rfl) ?_
                                    refine lv_iload hx hb dX11_factor_46 (lv_at hl 1 rfl) ?_
                                    refine lv_iload_n hx hb dX11_factor_48 rfl (lv_at hl 4 rfl) ?_
                                    refine lv_iconst (v := 1) hx hb dX11_factor_49 (by decide) ?_
                                    refine lv_icmp_ne (tgt := 57) hx hb dX11_factor_50 (by decide) (fun c_991 => ?_) (fun c_991 => ?_)
                                    · skip
                                      have c_991 := ni_ne c_991 rfl li_1
                                      exfalso; omega
                                    · skip
                                      have c_991 := ni_eq c_991 rfl li_1
                                      refine lv_iconst (v := (-1)) hx hb dX11_factor_53 (by decide) ?_
                                      refine lv_goto (tgt := 58) hx hb dX11_factor_54 (by decide) ?_
                                      refine lv_iload_n hx hb dX11_factor_58 rfl (lv_at hl 4 rfl) ?_
                                      refine lv_iconst (v := 3) hx hb dX11_factor_59 (by decide) ?_
                                      refine lv_icmp_ne (tgt := 67) hx hb dX11_factor_60 (by decide) (fun c_992 => ?_) (fun c_992 => ?_)
                                      · skip
                                        have c_992 := ni_ne c_992 rfl li_3
                                        refine lv_iload_n hx hb dX11_factor_67 rfl (lv_at hl 4 rfl) ?_
                                        refine lv_bipush (v := 6) hx hb dX11_factor_68 (by decide) ?_
                                        refine lv_icmp_ne (tgt := 77) hx hb dX11_factor_70 (by decide) (fun c_993 => ?_) (fun c_993 => ?_)
                                        · skip
                                          have c_993 := ni_ne c_993 rfl li_6
                                          refine lv_iconst (v := 0) hx hb dX11_factor_77 (by decide) ?_
                                          have q_q995 := li_1
                                          have q_q996 := li_m1
                                          have q_q997 := li_0
                                          refine tcI (Tc := [(h0, ob 8 [.int h0f0, .int h0f1, .int h0f2, .int h0f3, .int h0f4, .int h0f5, .ref h1, .ref h2, .int h0f8, .int h0f9, .ref h3, .ref h4, .ref h5, .ref h6, .ref h7, .ref h8, .ref h9, .int h0f17, .int h0f18, .int h0f19, .ref h10, .ref h11, .ref h12, .ref h13, .int h0f24, .int h0f25, .ref h14, .ref h15, .ref h16, .ref h17, .int h0f30, .int h0f31, .ref h18, .ref h19, .ref h20, .ref h21]), (h7, aJ (k 1) 4 (zJ [1, 2, 3]))]) (Tr := [(h1, aI (k 0) 36 anI), (h4, aJ (k 1) 9 anJ), (h5, aJ (k 1) 9 anJ)]) (as := [h0, h7]) (zcV (q0 := 1) (ci := 8) (As := [.int 1, .int (-1), .int 0]) (rest := []) (Tc := [(h0, ob 8 [.int h0f0, .int h0f1, .int h0f2, .int h0f3, .int h0f4, .int h0f5, .ref h1, .ref h2, .int h0f8, .int h0f9, .ref h3, .ref h4, .ref h5, .ref h6, .ref h7, .ref h8, .ref h9, .int h0f17, .int h0f18, .int h0f19, .ref h10, .ref h11, .ref h12, .ref h13, .int h0f24, .int h0f25, .ref h14, .ref h15, .ref h16, .ref h17, .int h0f30, .int h0f31, .ref h18, .ref h19, .ref h20, .ref h21]), (h7, aJ (k 1) 4 (zJ [1, 2, 3]))]) hx hb hml hown hU hK hT rfl rfl [1, 4] rfl (by decide) (cX11_takesOut_51a3e l D k _ h0 h7 h1 h2 h3 h4 h5 h6 h8 h9 h10 h11 h12 h13 h14 h15 h16 h17 h18 h19 h20 h21 (1) ((-1)) (0) h0f0 h0f1 h0f2 h0f3 h0f4 h0f5 h0f8 h0f9 h0f17 h0f18 h0f19 h0f24 h0f25 h0f30 h0f31 (by have := li_1; omega) (by have := li_m1; omega) (by have := li_0; omega) (by omega) (by omega) (by omega) (by omega) (by omega) (by omega) (by omega) (by omega) (by omega) (by omega) (by omega) (by omega) (by omega)) w999 w996 w998 w41 w72 hdX11_takesOut ⟨rfl, rfl⟩ ⟨Nat.le_of_ble_eq_true rfl, Nat.le_of_ble_eq_true rfl⟩ rfl hl.1 (Nat.le_of_ble_eq_true rfl) dX11_factor_78 ⟨Nat.le_of_ble_eq_true rfl, Nat.le_of_ble_eq_true rfl⟩) hT hS hA [1, 4] [0, 2, 3] rfl rfl rfl (by decide) (by decide) (fun r994 H locs hB J hS => ?_)
                                          obtain ⟨rfl, hT1⟩ := hB
                                          have hT := J _ hT1
                                          have hT : TP D A [(h1, aI (k 0) 36 anI), (h4, aJ (k 1) 9 anJ), (h5, aJ (k 1) 9 anJ), (h0, ob 8 [.int h0f0, .int h0f1, .int h0f2, .int h0f3, .int h0f4, .int h0f5, .ref h1, .ref h2, .int h0f8, .int h0f9, .ref h3, .ref h4, .ref h5, .ref h6, .ref h7, .ref h8, .ref h9, .int h0f17, .int h0f18, .int h0f19, .ref h10, .ref h11, .ref h12, .ref h13, .int h0f24, .int h0f25, .ref h14, .ref h15, .ref h16, .ref h17, .int h0f30, .int h0f31, .ref h18, .ref h19, .ref h20, .ref h21]), (h7, aJ (k 1) 4 anJ)] H := hT
                                          refine lv_if_eq (tgt := 90) hx hb dX11_factor_81 (by decide) (fun _ => ?_) (fun cc => absurd (by decide +kernel) cc)
                                          refine lv_iload_n hx hb dX11_factor_90 rfl (lv_at hl 0 rfl) ?_
                                          exact tz_retI (B := B_cX11_factor_03481 D k h0 h1 h4 h5 h7 h2 h3 h6 h8 h9 h10 h11 h12 h13 h14 h15 h16 h17 h18 h19 h20 h21 x1 x2 h0f0 h0f1 h0f2 h0f3 h0f4 h0f5 h0f8 h0f9 h0f17 h0f18 h0f19 h0f24 h0f25 h0f30 h0f31) (v := 3) hQ hx hb hr hlocks hS (Nat.le_of_ble_eq_true rfl) (Nat.le_of_ble_eq_true rfl) dX11_factor_91 (⟨(by have := li_3; omega), (hT.sub [3, 0, 1, 2, 4] (by decide) rfl)⟩)
                                        · skip
                                          have c_993 := ni_eq c_993 rfl li_6
                                          exfalso; omega
                                      · skip
                                        have c_992 := ni_eq c_992 rfl li_3
                                        exfalso; omega
                                · skip
                                  have c_978 := ni_eq c_978 rfl li_6
                                  exfalso; omega
                              · skip
                                have c_977 := ni_eq c_977 rfl li_3
                                exfalso; omega
                          · skip
                            have hT := J _ hT1
                            have hT : TP D A [(h1, aI (k 0) 36 anI), (h0, ob 8 [.int h0f0, .int h0f1, .int h0f2, .int h0f3, .int h0f4, .int h0f5, .ref h1, .ref h2, .int h0f8, .int h0f9, .ref h3, .ref h4, .ref h5, .ref h6, .ref h7, .ref h8, .ref h9, .int h0f17, .int h0f18, .int h0f19, .ref h10, .ref h11, .ref h12, .ref h13, .int h0f24, .int h0f25, .ref h14, .ref h15, .ref h16, .ref h17, .int h0f30, .int h0f31, .ref h18, .ref h19, .ref h20, .ref h21]), (h4, aJ (k 1) 9 anJ), (h5, aJ (k 1) 9 anJ), (h7, aJ (k 1) 4 (zJ [2, 3]))] H := hT
                            exfalso; omega
                        · skip
                          have c_921 := ni_eq c_921 rfl li_6
                          exfalso; omega
                      · skip
                        have c_920 := ni_eq c_920 rfl li_3
                        exfalso; omega
                  · skip
                    have hT := J _ hT1
                    have hT : TP D A [(h1, aI (k 0) 36 anI), (h0, ob 8 [.int h0f0, .int h0f1, .int h0f2, .int h0f3, .int h0f4, .int h0f5, .ref h1, .ref h2, .int h0f8, .int h0f9, .ref h3, .ref h4, .ref h5, .ref h6, .ref h7, .ref h8, .ref h9, .int h0f17, .int h0f18, .int h0f19, .ref h10, .ref h11, .ref h12, .ref h13, .int h0f24, .int h0f25, .ref h14, .ref h15, .ref h16, .ref h17, .int h0f30, .int h0f31, .ref h18, .ref h19, .ref h20, .ref h21]), (h4, aJ (k 1) 9 anJ), (h5, aJ (k 1) 9 anJ), (h7, aJ (k 1) 4 (zJ [3]))] H := hT
                    refine lv_if_eq (tgt := 90) hx hb dX11_factor_81 (by decide) (fun cc => absurd cc (by decide +kernel)) (fun _ => ?_)
                    refine lv_iinc (v := 1) (lv' := [(3, .int 1), (4, .int 1), (0, .ref h0), (1, .int x1), (2, .int x2)]) hx hb dX11_factor_84 hl (k := 1) rfl (by decide) (by decide) rfl (fun ls hl => ?_)
                    refine lv_goto (tgt := 45) hx hb dX11_factor_87 (by decide) ?_
                    refine lv_aload_n hx hb dX11_factor_45 rfl (lv_at hl 2 rfl) ?_
                    refine lv_iload hx hb dX11_factor_46 (lv_at hl 1 rfl) ?_
                    refine lv_iload_n hx hb dX11_factor_48 rfl (lv_at hl 4 rfl) ?_
                    refine lv_iconst (v := 1) hx hb dX11_factor_49 (by decide) ?_
                    refine lv_icmp_ne (tgt := 57) hx hb dX11_factor_50 (by decide) (fun c_998 => ?_) (fun c_998 => ?_)
                    · skip
                      have c_998 := ni_ne c_998 rfl li_1
                      exfalso; omega
                    · skip
                      have c_998 := ni_eq c_998 rfl li_1
                      refine lv_iconst (v := (-1)) hx hb dX11_factor_53 (by decide) ?_
                      refine lv_goto (tgt := 58) hx hb dX11_factor_54 (by decide) ?_
                      refine lv_iload_n hx hb dX11_factor_58 rfl (lv_at hl 4 rfl) ?_
                      refine lv_iconst (v := 3) hx hb dX11_factor_59 (by decide) ?_
                      refine lv_icmp_ne (tgt := 67) hx hb dX11_factor_60 (by decide) (fun c_999 => ?_) (fun c_999 => ?_)
                      · skip
                        have c_999 := ni_ne c_999 rfl li_3
                        refine lv_iload_n hx hb dX11_factor_67 rfl (lv_at hl 4 rfl) ?_
                        refine lv_bipush (v := 6) hx hb dX11_factor_68 (by decide) ?_
                        refine lv_icmp_ne (tgt := 77) hx hb dX11_factor_70 (by decide) (fun c_1000 => ?_) (fun c_1000 => ?_)
                        · skip
                          have c_1000 := ni_ne c_1000 rfl li_6
                          refine lv_iconst (v := 0) hx hb dX11_factor_77 (by decide) ?_
                          have q_q1002 := li_1
                          have q_q1003 := li_m1
                          have q_q1004 := li_0
                          refine tcI (Tc := [(h0, ob 8 [.int h0f0, .int h0f1, .int h0f2, .int h0f3, .int h0f4, .int h0f5, .ref h1, .ref h2, .int h0f8, .int h0f9, .ref h3, .ref h4, .ref h5, .ref h6, .ref h7, .ref h8, .ref h9, .int h0f17, .int h0f18, .int h0f19, .ref h10, .ref h11, .ref h12, .ref h13, .int h0f24, .int h0f25, .ref h14, .ref h15, .ref h16, .ref h17, .int h0f30, .int h0f31, .ref h18, .ref h19, .ref h20, .ref h21]), (h4, aJ (k 1) 9 anJ), (h5, aJ (k 1) 9 anJ), (h7, aJ (k 1) 4 (zJ [3]))]) (Tr := [(h1, aI (k 0) 36 anI)]) (as := [h0, h4, h5, h7]) (zcV (q0 := 1) (ci := 8) (As := [.int 1, .int (-1), .int 0]) (rest := []) (Tc := [(h0, ob 8 [.int h0f0, .int h0f1, .int h0f2, .int h0f3, .int h0f4, .int h0f5, .ref h1, .ref h2, .int h0f8, .int h0f9, .ref h3, .ref h4, .ref h5, .ref h6, .ref h7, .ref h8, .ref h9, .int h0f17, .int h0f18, .int h0f19, .ref h10, .ref h11, .ref h12, .ref h13, .int h0f24, .int h0f25, .ref h14, .ref h15, .ref h16, .ref h17, .int h0f30, .int h0f31, .ref h18, .ref h19, .ref h20, .ref h21]), (h4, aJ (k 1) 9 anJ), (h5, aJ (k 1) 9 anJ), (h7, aJ (k 1) 4 (zJ [3]))]) hx hb hml hown hU hK hT rfl rfl [1, 2, 3, 4] rfl (by decide) (cX11_takesOut_75942 l D k _ h0 h4 h5 h7 h1 h2 h3 h6 h8 h9 h10 h11 h12 h13 h14 h15 h16 h17 h18 h19 h20 h21 (1) ((-1)) (0) h0f0 h0f1 h0f2 h0f3 h0f4 h0f5 h0f8 h0f9 h0f17 h0f18 h0f19 h0f24 h0f25 h0f30 h0f31 (by have := li_1; omega) (by have := li_m1; omega) (by have := li_0; omega) (by omega) (by omega) (by omega) (by omega) (by omega) (by omega) (by omega) (by omega) (by omega) (by omega) (by omega) (by omega) (by omega)) w999 w996 w998 w41 w72 hdX11_takesOut ⟨rfl, rfl⟩ ⟨Nat.le_of_ble_eq_true rfl, Nat.le_of_ble_eq_true rfl⟩ rfl hl.1 (Nat.le_of_ble_eq_true rfl) dX11_factor_78 ⟨Nat.le_of_ble_eq_true rfl, Nat.le_of_ble_eq_true rfl⟩) hT hS hA [1, 2, 3, 4] [0] rfl rfl rfl (by decide) (by decide) (fun r1001 H locs hB J hS => ?_)
                          rcases hB with ⟨rfl, hT1⟩ | ⟨v1005, v1006, b_v1006, c_1007, c_1008, c_1009, c_1010, c_1011, c_1012, c_1013, rfl, hT1⟩ | ⟨v1014, v1015, v1016, b_v1014, b_v1016, c_1017, c_1018, c_1019, c_1020, c_1021, c_1022, c_1023, rfl, hT1⟩ | ⟨v1024, v1025, v1026, b_v1025, b_v1026, c_1027, c_1028, c_1029, c_1030, c_1031, c_1032, rfl, hT1⟩
                          · skip
                            have hT := J _ hT1
                            have hT : TP D A [(h1, aI (k 0) 36 anI), (h0, ob 8 [.int h0f0, .int h0f1, .int h0f2, .int h0f3, .int h0f4, .int h0f5, .ref h1, .ref h2, .int h0f8, .int h0f9, .ref h3, .ref h4, .ref h5, .ref h6, .ref h7, .ref h8, .ref h9, .int h0f17, .int h0f18, .int h0f19, .ref h10, .ref h11, .ref h12, .ref h13, .int h0f24, .int h0f25, .ref h14, .ref h15, .ref h16, .ref h17, .int h0f30, .int h0f31, .ref h18, .ref h19, .ref h20, .ref h21]), (h4, aJ (k 1) 9 anJ), (h5, aJ (k 1) 9 anJ), (h7, aJ (k 1) 4 anJ)] H := hT
                            refine lv_if_eq (tgt := 90) hx hb dX11_factor_81 (by decide) (fun _ => ?_) (fun cc => absurd (by decide +kernel) cc)
                            refine lv_iload_n hx hb dX11_factor_90 rfl (lv_at hl 0 rfl) ?_
                            exact tz_retI (B := B_cX11_factor_03481 D k h0 h1 h4 h5 h7 h2 h3 h6 h8 h9 h10 h11 h12 h13 h14 h15 h16 h17 h18 h19 h20 h21 x1 x2 h0f0 h0f1 h0f2 h0f3 h0f4 h0f5 h0f8 h0f9 h0f17 h0f18 h0f19 h0f24 h0f25 h0f30 h0f31) (v := 1) hQ hx hb hr hlocks hS (Nat.le_of_ble_eq_true rfl) (Nat.le_of_ble_eq_true rfl) dX11_factor_91 (⟨(by have := li_1; omega), (hT.sub [1, 0, 2, 3, 4] (by decide) rfl)⟩)
                          · skip
                            have hT := J _ hT1
                            have hT : TP D A [(h1, aI (k 0) 36 anI), (h0, ob 8 [.int h0f0, .int h0f1, .int h0f2, .int h0f3, .int h0f4, .int h0f5, .ref h1, .ref h2, .int h0f8, .int h0f9, .ref h3, .ref h4, .ref h5, .ref h6, .ref h7, .ref h8, .ref h9, .int h0f17, .int h0f18, .int h0f19, .ref h10, .ref h11, .ref h12, .ref h13, .int h0f24, .int h0f25, .ref h14, .ref h15, .ref h16, .ref h17, .int h0f30, .int h0f31, .ref h18, .ref h19, .ref h20, .ref h21]), (h4, aJ (k 1) 9 anJ), (h5, aJ (k 1) 9 anJ), (h7, aJ (k 1) 4 (zJ [2, 3]))] H := hT
                            refine lv_if_eq (tgt := 90) hx hb dX11_factor_81 (by decide) (fun cc => absurd cc (by decide +kernel)) (fun _ => ?_)
                            refine lv_iinc (v := 2) (lv' := [(3, .int 2), (4, .int 1), (0, .ref h0), (1, .int x1), (2, .int x2)]) hx hb dX11_factor_84 hl (k := 0) rfl (by decide) (by decide) rfl (fun ls hl => ?_)
                            refine lv_goto (tgt := 45) hx hb dX11_factor_87 (by decide) ?_
                            refine lv_aload_n hx hb dX11_factor_45 rfl (lv_at hl 2 rfl) ?_
                            refine lv_iload hx hb dX11_factor_46 (lv_at hl 1 rfl) ?_
                            refine lv_iload_n hx hb dX11_factor_48 rfl (lv_at hl 4 rfl) ?_
                            refine lv_iconst (v := 1) hx hb dX11_factor_49 (by decide) ?_
                            refine lv_icmp_ne (tgt := 57) hx hb dX11_factor_50 (by decide) (fun c_1033 => ?_) (fun c_1033 => ?_)
                            · skip
                              have c_1033 := ni_ne c_1033 rfl li_1
                              exfalso; omega
                            · skip
                              have c_1033 := ni_eq c_1033 rfl li_1
                              refine lv_iconst (v := (-1)) hx hb dX11_factor_53 (by decide) ?_
                              refine lv_goto (tgt := 58) hx hb dX11_factor_54 (by decide) ?_
                              refine lv_iload_n hx hb dX11_factor_58 rfl (lv_at hl 4 rfl) ?_
                              refine lv_iconst (v := 3) hx hb dX11_factor_59 (by decide) ?_
                              refine lv_icmp_ne (tgt := 67) hx hb dX11_factor_60 (by decide) (fun c_1034 => ?_) (fun c_1034 => ?_)
                              · skip
                                have c_1034 := ni_ne c_1034 rfl li_3
                                refine lv_iload_n hx hb dX11_factor_67 rfl (lv_at hl 4 rfl) ?_
                                refine lv_bipush (v := 6) hx hb dX11_factor_68 (by decide) ?_
                                refine lv_icmp_ne (tgt := 77) hx hb dX11_factor_70 (by decide) (fun c_1035 => ?_) (fun c_1035 => ?_)
                                · skip
                                  have c_1035 := ni_ne c_1035 rfl li_6
                                  refine lv_iconst (v := 0) hx hb dX11_factor_77 (by decide) ?_
                                  have q_q1037 := li_1
                                  have q_q1038 := li_m1
                                  have q_q1039 := li_0
                                  refine tcI (Tc := [(h0, ob 8 [.int h0f0, .int h0f1, .int h0f2, .int h0f3, .int h0f4, .int h0f5, .ref h1, .ref h2, .int h0f8, .int h0f9, .ref h3, .ref h4, .ref h5, .ref h6, .ref h7, .ref h8, .ref h9, .int h0f17, .int h0f18, .int h0f19, .ref h10, .ref h11, .ref h12, .ref h13, .int h0f24, .int h0f25, .ref h14, .ref h15, .ref h16, .ref h17, .int h0f30, .int h0f31, .ref h18, .ref h19, .ref h20, .ref h21]), (h4, aJ (k 1) 9 anJ), (h5, aJ (k 1) 9 anJ), (h7, aJ (k 1) 4 (zJ [2, 3]))]) (Tr := [(h1, aI (k 0) 36 anI)]) (as := [h0, h4, h5, h7]) (zcV (q0 := 1) (ci := 8) (As := [.int 1, .int (-1), .int 0]) (rest := []) (Tc := [(h0, ob 8 [.int h0f0, .int h0f1, .int h0f2, .int h0f3, .int h0f4, .int h0f5, .ref h1, .ref h2, .int h0f8, .int h0f9, .ref h3, .ref h4, .ref h5, .ref h6, .ref h7, .ref h8, .ref h9, .int h0f17, .int h0f18, .int h0f19, .ref h10, .ref h11, .ref h12, .ref h13, .int h0f24, .int h0f25, .ref h14, .ref h15, .ref h16, .ref h17, .int h0f30, .int h0f31, .ref h18, .ref h19, .ref h20, .ref h21]), (h4, aJ (k 1) 9 anJ), (h5, aJ (k 1) 9 anJ), (h7, aJ (k 1) 4 (zJ [2, 3]))]) hx hb hml hown hU hK hT rfl rfl [1, 2, 3, 4] rfl (by decide) (cX11_takesOut_c755e l D k _ h0 h4 h5 h7 h1 h2 h3 h6 h8 h9 h10 h11 h12 h13 h14 h15 h16 h17 h18 h19 h20 h21 (1) ((-1)) (0) h0f0 h0f1 h0f2 h0f3 h0f4 h0f5 h0f8 h0f9 h0f17 h0f18 h0f19 h0f24 h0f25 h0f30 h0f31 (by have := li_1; omega) (by have := li_m1; omega) (by have := li_0; omega) (by omega) (by omega) (by omega) (by omega) (by omega) (by omega) (by omega) (by omega) (by omega) (by omega) (by omega) (by omega) (by omega)) w999 w996 w998 w41 w72 hdX11_takesOut ⟨rfl, rfl⟩ ⟨Nat.le_of_ble_eq_true rfl, Nat.le_of_ble_eq_true rfl⟩ rfl hl.1 (Nat.le_of_ble_eq_true rfl) dX11_factor_78 ⟨Nat.le_of_ble_eq_true rfl, Nat.le_of_ble_eq_true rfl⟩) hT hS hA [1, 2, 3, 4] [0] rfl rfl rfl (by decide) (by decide) (fun r1036 H locs hB J hS => ?_)
                                  rcases hB with ⟨rfl, hT1⟩ | ⟨v1040, v1041, b_v1041, c_1042, c_1043, c_1044, c_1045, c_1046, c_1047, rfl, hT1⟩
                                  · skip
                                    have hT := J _ hT1
                                    have hT : TP D A [(h1, aI (k 0) 36 anI), (h0, ob 8 [.int h0f0, .int h0f1, .int h0f2, .int h0f3, .int h0f4, .int h0f5, .ref h1, .ref h2, .int h0f8, .int h0f9, .ref h3, .ref h4, .ref h5, .ref h6, .ref h7, .ref h8, .ref h9, .int h0f17, .int h0f18, .int h0f19, .ref h10, .ref h11, .ref h12, .ref h13, .int h0f24, .int h0f25, .ref h14, .ref h15, .ref h16, .ref h17, .int h0f30, .int h0f31, .ref h18, .ref h19, .ref h20, .ref h21]), (h4, aJ (k 1) 9 anJ), (h5, aJ (k 1) 9 anJ), (h7, aJ (k 1) 4 anJ)] H := hT
                                    refine lv_if_eq (tgt := 90) hx hb dX11_factor_81 (by decide) (fun _ => ?_) (fun cc => absurd (by decide +kernel) cc)
                                    refine lv_iload_n hx hb dX11_factor_90 rfl (lv_at hl 0 rfl) ?_
                                    exact tz_retI (B := B_cX11_factor_03481 D k h0 h1 h4 h5 h7 h2 h3 h6 h8 h9 h10 h11 h12 h13 h14 h15 h16 h17 h18 h19 h20 h21 x1 x2 h0f0 h0f1 h0f2 h0f3 h0f4 h0f5 h0f8 h0f9 h0f17 h0f18 h0f19 h0f24 h0f25 h0f30 h0f31) (v := 2) hQ hx hb hr hlocks hS (Nat.le_of_ble_eq_true rfl) (Nat.le_of_ble_eq_true rfl) dX11_factor_91 (⟨(by have := li_2; omega), (hT.sub [1, 0, 2, 3, 4] (by decide) rfl)⟩)
                                  · skip
                                    have hT := J _ hT1
                                    have hT : TP D A [(h1, aI (k 0) 36 anI), (h0, ob 8 [.int h0f0, .int h0f1, .int h0f2, .int h0f3, .int h0f4, .int h0f5, .ref h1, .ref h2, .int h0f8, .int h0f9, .ref h3, .ref h4, .ref h5, .ref h6, .ref h7, .ref h8, .ref h9, .int h0f17, .int h0f18, .int h0f19, .ref h10, .ref h11, .ref h12, .ref h13, .int h0f24, .int h0f25, .ref h14, .ref h15, .ref h16, .ref h17, .int h0f30, .int h0f31, .ref h18, .ref h19, .ref h20, .ref h21]), (h4, aJ (k 1) 9 anJ), (h5, aJ (k 1) 9 anJ), (h7, aJ (k 1) 4 (zJ [1, 2, 3]))] H := hT
                                    refine lv_if_eq (tgt := 90) hx hb dX11_factor_81 (by decide) (fun cc => absurd cc (by decide +kernel)) (fun _ => ?_)
                                    refine lv_iinc (v := 3) (lv' := [(3, .int 3), (4, .int 1), (0, .ref h0), (1, .int x1), (2, .int x2)]) hx hb dX11_factor_84 hl (k := 0) rfl (by decide) (by decide) rfl (fun ls hl => ?_)
                                    refine lv_goto (tgt := 45) hx hb dX11_factor_87 (by decide) ?_
                                    refine lv_aload_n hx hb dX11_factor_45 rfl (lv_at hl 2 rfl) ?_
                                    refine lv_iload hx hb dX11_factor_46 (lv_at hl 1 rfl) ?_
                                    refine lv_iload_n hx hb dX11_factor_48 rfl (lv_at hl 4 rfl) ?_
                                    refine lv_iconst (v := 1) hx hb dX11_factor_49 (by decide) ?_
                                    refine lv_icmp_ne (tgt := 57) hx hb dX11_factor_50 (by decide) (fun c_1048 => ?_) (fun c_1048 => ?_)
                                    · skip
                                      have c_1048 := ni_ne c_1048 rfl li_1
                                      exfalso; omega
                                    · skip
                                      have c_1048 := ni_eq c_1048 rfl li_1
                                      refine lv_iconst (v := (-1)) hx hb dX11_factor_53 (by decide) ?_
                                      refine lv_goto (tgt := 58) hx hb dX11_factor_54 (by decide) ?_
                                      refine lv_iload_n hx hb dX11_factor_58 rfl (lv_at hl 4 rfl) ?_
                                      refine lv_iconst (v := 3) hx hb dX11_factor_59 (by decide) ?_
                                      refine lv_icmp_ne (tgt := 67) hx hb dX11_factor_60 (by decide) (fun c_1049 => ?_) (fun c_1049 => ?_)
                                      · skip
                                        have c_1049 := ni_ne c_1049 rfl li_3
                                        refine lv_iload_n hx hb dX11_factor_67 rfl (lv_at hl 4 rfl) ?_
                                        refine lv_bipush (v := 6) hx hb dX11_factor_68 (by decide) ?_
                                        refine lv_icmp_ne (tgt := 77) hx hb dX11_factor_70 (by decide) (fun c_1050 => ?_) (fun c_1050 => ?_)
                                        · skip
                                          have c_1050 := ni_ne c_1050 rfl li_6
                                          refine lv_iconst (v := 0) hx hb dX11_factor_77 (by decide) ?_
                                          have q_q1052 := li_1
                                          have q_q1053 := li_m1
                                          have q_q1054 := li_0
                                          refine tcI (Tc := [(h0, ob 8 [.int h0f0, .int h0f1, .int h0f2, .int h0f3, .int h0f4, .int h0f5, .ref h1, .ref h2, .int h0f8, .int h0f9, .ref h3, .ref h4, .ref h5, .ref h6, .ref h7, .ref h8, .ref h9, .int h0f17, .int h0f18, .int h0f19, .ref h10, .ref h11, .ref h12, .ref h13, .int h0f24, .int h0f25, .ref h14, .ref h15, .ref h16, .ref h17, .int h0f30, .int h0f31, .ref h18, .ref h19, .ref h20, .ref h21]), (h7, aJ (k 1) 4 (zJ [1, 2, 3]))]) (Tr := [(h1, aI (k 0) 36 anI), (h4, aJ (k 1) 9 anJ), (h5, aJ (k 1) 9 anJ)]) (as := [h0, h7]) (zcV (q0 := 1) (ci := 8) (As := [.int 1, .int (-1), .int 0]) (rest := []) (Tc := [(h0, ob 8 [.int h0f0, .int h0f1, .int h0f2, .int h0f3, .int h0f4, .int h0f5, .ref h1, .ref h2, .int h0f8, .int h0f9, .ref h3, .ref h4, .ref h5, .ref h6, .ref h7, .ref h8, .ref h9, .int h0f17, .int h0f18, .int h0f19, .ref h10, .ref h11, .ref h12, .ref h13, .int h0f24, .int h0f25, .ref h14, .ref h15, .ref h16, .ref h17, .int h0f30, .int h0f31, .ref h18, .ref h19, .ref h20, .ref h21]), (h7, aJ (k 1) 4 (zJ [1, 2, 3]))]) hx hb hml hown hU hK hT rfl rfl [1, 4] rfl (by decide) (cX11_takesOut_51a3e l D k _ h0 h7 h1 h2 h3 h4 h5 h6 h8 h9 h10 h11 h12 h13 h14 h15 h16 h17 h18 h19 h20 h21 (1) ((-1)) (0) h0f0 h0f1 h0f2 h0f3 h0f4 h0f5 h0f8 h0f9 h0f17 h0f18 h0f19 h0f24 h0f25 h0f30 h0f31 (by have := li_1; omega) (by have := li_m1; omega) (by have := li_0; omega) (by omega) (by omega) (by omega) (by omega) (by omega) (by omega) (by omega) (by omega) (by omega) (by omega) (by omega) (by omega) (by omega)) w999 w996 w998 w41 w72 hdX11_takesOut ⟨rfl, rfl⟩ ⟨Nat.le_of_ble_eq_true rfl, Nat.le_of_ble_eq_true rfl⟩ rfl hl.1 (Nat.le_of_ble_eq_true rfl) dX11_factor_78 ⟨Nat.le_of_ble_eq_true rfl, Nat.le_of_ble_eq_true rfl⟩) hT hS hA [1, 4] [0, 2, 3] rfl rfl rfl (by decide) (by decide) (fun r1051 H locs hB J hS => ?_)
                                          obtain ⟨rfl, hT1⟩ := hB
                                          have hT := J _ hT1
                                          have hT : TP D A [(h1, aI (k 0) 36 anI), (h4, aJ (k 1) 9 anJ), (h5, aJ (k 1) 9 anJ), (h0, ob 8 [.int h0f0, .int h0f1, .int h0f2, .int h0f3, .int h0f4, .int h0f5, .ref h1, .ref h2, .int h0f8, .int h0f9, .ref h3, .ref h4, .ref h5, .ref h6, .ref h7, .ref h8, .ref h9, .int h0f17, .int h0f18, .int h0f19, .ref h10, .ref h11, .ref h12, .ref h13, .int h0f24, .int h0f25, .ref h14, .ref h15, .ref h16, .ref h17, .int h0f30, .int h0f31, .ref h18, .ref h19, .ref h20, .ref h21]), (h7, aJ (k 1) 4 anJ)] H := hT
                                          refine lv_if_eq (tgt := 90) hx hb dX11_factor_81 (by decide) (fun _ => ?_) (fun cc => absurd (by decide +kernel) cc)
                                          refine lv_iload_n hx hb dX11_factor_90 rfl (lv_at hl 0 rfl) ?_
                                          exact tz_retI (B := B_cX11_factor_03481 D k h0 h1 h4 h5 h7 h2 h3 h6 h8 h9 h10 h11 h12 h13 h14 h15 h16 h17 h18 h19 h20 h21 x1 x2 h0f0 h0f1 h0f2 h0f3 h0f4 h0f5 h0f8 h0f9 h0f17 h0f18 h0f19 h0f24 h0f25 h0f30 h0f31) (v := 3) hQ hx hb hr hlocks hS (Nat.le_of_ble_eq_true rfl) (Nat.le_of_ble_eq_true rfl) dX11_factor_91 (⟨(by have := li_3; omega), (hT.sub [3, 0, 1, 2, 4] (by decide) rfl)⟩)
                                        · skip
                                          have c_1050 := ni_eq c_1050 rfl li_6
                                          exfalso; omega
                                      · skip
                                        have c_1049 := ni_eq c_1049 rfl li_3
                                        exfalso; omega
                                · skip
                                  have c_1035 := ni_eq c_1035 rfl li_6
                                  exfalso; omega
                              · skip
                                have c_1034 := ni_eq c_1034 rfl li_3
                                exfalso; omega
                          · skip
                            have hT := J _ hT1
                            have hT : TP D A [(h1, aI (k 0) 36 anI), (h0, ob 8 [.int h0f0, .int h0f1, .int h0f2, .int h0f3, .int h0f4, .int h0f5, .ref h1, .ref h2, .int h0f8, .int h0f9, .ref h3, .ref h4, .ref h5, .ref h6, .ref h7, .ref h8, .ref h9, .int h0f17, .int h0f18, .int h0f19, .ref h10, .ref h11, .ref h12, .ref h13, .int h0f24, .int h0f25, .ref h14, .ref h15, .ref h16, .ref h17, .int h0f30, .int h0f31, .ref h18, .ref h19, .ref h20, .ref h21]), (h4, aJ (k 1) 9 anJ), (h5, aJ (k 1) 9 anJ), (h7, aJ (k 1) 4 (zJ [2, 3]))] H := hT
                            refine lv_if_eq (tgt := 90) hx hb dX11_factor_81 (by decide) (fun cc => absurd cc (by decide +kernel)) (fun _ => ?_)
                            refine lv_iinc (v := 2) (lv' := [(3, .int 2), (4, .int 1), (0, .ref h0), (1, .int x1), (2, .int x2)]) hx hb dX11_factor_84 hl (k := 0) rfl (by decide) (by decide) rfl (fun ls hl => ?_)
                            refine lv_goto (tgt := 45) hx hb dX11_factor_87 (by decide) ?_
                            refine lv_aload_n hx hb dX11_factor_45 rfl (lv_at hl 2 rfl) ?_
                            refine lv_iload hx hb dX11_factor_46 (lv_at hl 1 rfl) ?_
                            refine lv_iload_n hx hb dX11_factor_48 rfl (lv_at hl 4 rfl) ?_
                            refine lv_iconst (v := 1) hx hb dX11_factor_49 (by decide) ?_
                            refine lv_icmp_ne (tgt := 57) hx hb dX11_factor_50 (by decide) (fun c_1055 => ?_) (fun c_1055 => ?_)
                            · skip
                              have c_1055 := ni_ne c_1055 rfl li_1
                              exfalso; omega
                            · skip
                              have c_1055 := ni_eq c_1055 rfl li_1
                              refine lv_iconst (v := (-1)) hx hb dX11_factor_53 (by decide) ?_
                              refine lv_goto (tgt := 58) hx hb dX11_factor_54 (by decide) ?_
                              refine lv_iload_n hx hb dX11_factor_58 rfl (lv_at hl 4 rfl) ?_
                              refine lv_iconst (v := 3) hx hb dX11_factor_59 (by decide) ?_
                              refine lv_icmp_ne (tgt := 67) hx hb dX11_factor_60 (by decide) (fun c_1056 => ?_) (fun c_1056 => ?_)
                              · skip
                                have c_1056 := ni_ne c_1056 rfl li_3
                                refine lv_iload_n hx hb dX11_factor_67 rfl (lv_at hl 4 rfl) ?_
                                refine lv_bipush (v := 6) hx hb dX11_factor_68 (by decide) ?_
                                refine lv_icmp_ne (tgt := 77) hx hb dX11_factor_70 (by decide) (fun c_1057 => ?_) (fun c_1057 => ?_)
                                · skip
                                  have c_1057 := ni_ne c_1057 rfl li_6
                                  refine lv_iconst (v := 0) hx hb dX11_factor_77 (by decide) ?_
                                  have q_q1059 := li_1
                                  have q_q1060 := li_m1
                                  have q_q1061 := li_0
                                  refine tcI (Tc := [(h0, ob 8 [.int h0f0, .int h0f1, .int h0f2, .int h0f3, .int h0f4, .int h0f5, .ref h1, .ref h2, .int h0f8, .int h0f9, .ref h3, .ref h4, .ref h5, .ref h6, .ref h7, .ref h8, .ref h9, .int h0f17, .int h0f18, .int h0f19, .ref h10, .ref h11, .ref h12, .ref h13, .int h0f24, .int h0f25, .ref h14, .ref h15, .ref h16, .ref h17, .int h0f30, .int h0f31, .ref h18, .ref h19, .ref h20, .ref h21]), (h4, aJ (k 1) 9 anJ), (h5, aJ (k 1) 9 anJ), (h7, aJ (k 1) 4 (zJ [2, 3]))]) (Tr := [(h1, aI (k 0) 36 anI)]) (as := [h0, h4, h5, h7]) (zcV (q0 := 1) (ci := 8) (As := [.int 1, .int (-1), .int 0]) (rest := []) (Tc := [(h0, ob 8 [.int h0f0, .int h0f1, .int h0f2, .int h0f3, .int h0f4, .int h0f5, .ref h1, .ref h2, .int h0f8, .int h0f9, .ref h3, .ref h4, .ref h5, .ref h6, .ref h7, .ref h8, .ref h9, .int h0f17, .int h0f18, .int h0f19, .ref h10, .ref h11, .ref h12, .ref h13, .int h0f24, .int h0f25, .ref h14, .ref h15, .ref h16, .ref h17, .int h0f30, .int h0f31, .ref h18, .ref h19, .ref h20, .ref h21]), (h4, aJ (k 1) 9 anJ), (h5, aJ (k 1) 9 anJ), (h7, aJ (k 1) 4 (zJ [2, 3]))]) hx hb hml hown hU hK hT rfl rfl [1, 2, 3, 4] rfl (by decide) (cX11_takesOut_c755e l D k _ h0 h4 h5 h7 h1 h2 h3 h6 h8 h9 h10 h11 h12 h13 h14 h15 h16 h17 h18 h19 h20 h21 (1) ((-1)) (0) h0f0 h0f1 h0f2 h0f3 h0f4 h0f5 h0f8 h0f9 h0f17 h0f18 h0f19 h0f24 h0f25 h0f30 h0f31 (by have := li_1; omega) (by have := li_m1; omega) (by have := li_0; omega) (by omega) (by omega) (by omega) (by omega) (by omega) (by omega) (by omega) (by omega) (by omega) (by omega) (by omega) (by omega) (by omega)) w999 w996 w998 w41 w72 hdX11_takesOut ⟨rfl, rfl⟩ ⟨Nat.le_of_ble_eq_true rfl, Nat.le_of_ble_eq_true rfl⟩ rfl hl.1 (Nat.le_of_ble_eq_true rfl) dX11_factor_78 ⟨Nat.le_of_ble_eq_true rfl, Nat.le_of_ble_eq_true rfl⟩) hT hS hA [1, 2, 3, 4] [0] rfl rfl rfl (by decide) (by decide) (fun r1058 H locs hB J hS => ?_)
                                  rcases hB with ⟨rfl, hT1⟩ | ⟨v1062, v1063, b_v1063, c_1064, c_1065, c_1066, c_1067, c_1068, c_1069, rfl, hT1⟩
                                  · skip
                                    have hT := J _ hT1
                                    have hT : TP D A [(h1, aI (k 0) 36 anI), (h0, ob 8 [.int h0f0, .int h0f1, .int h0f2, .int h0f3, .int h0f4, .int h0f5, .ref h1, .ref h2, .int h0f8, .int h0f9, .ref h3, .ref h4, .ref h5, .ref h6, .ref h7, .ref h8, .ref h9, .int h0f17, .int h0f18, .int h0f19, .ref h10, .ref h11, .ref h12, .ref h13, .int h0f24, .int h0f25, .ref h14, .ref h15, .ref h16, .ref h17, .int h0f30, .int h0f31, .ref h18, .ref h19, .ref h20, .ref h21]), (h4, aJ (k 1) 9 anJ), (h5, aJ (k 1) 9 anJ), (h7, aJ (k 1) 4 anJ)] H := hT
                                    refine lv_if_eq (tgt := 90) hx hb dX11_factor_81 (by decide) (fun _ => ?_) (fun cc => absurd (by decide +kernel) cc)
                                    refine lv_iload_n hx hb dX11_factor_90 rfl (lv_at hl 0 rfl) ?_
                                    exact tz_retI (B := B_cX11_factor_03481 D k h0 h1 h4 h5 h7 h2 h3 h6 h8 h9 h10 h11 h12 h13 h14 h15 h16 h17 h18 h19 h20 h21 x1 x2 h0f0 h0f1 h0f2 h0f3 h0f4 h0f5 h0f8 h0f9 h0f17 h0f18 h0f19 h0f24 h0f25 h0f30 h0f31) (v := 2) hQ hx hb hr hlocks hS (Nat.le_of_ble_eq_true rfl) (Nat.le_of_ble_eq_true rfl) dX11_factor_91 (⟨(by have := li_2; omega), (hT.sub [1, 0, 2, 3, 4] (by decide) rfl)⟩)
                                  · skip
                                    have hT := J _ hT1
                                    have hT : TP D A [(h1, aI (k 0) 36 anI), (h0, ob 8 [.int h0f0, .int h0f1, .int h0f2, .int h0f3, .int h0f4, .int h0f5, .ref h1, .ref h2, .int h0f8, .int h0f9, .ref h3, .ref h4, .ref h5, .ref h6, .ref h7, .ref h8, .ref h9, .int h0f17, .int h0f18, .int h0f19, .ref h10, .ref h11, .ref h12, .ref h13, .int h0f24, .int h0f25, .ref h14, .ref h15, .ref h16, .ref h17, .int h0f30, .int h0f31, .ref h18, .ref h19, .ref h20, .ref h21]), (h4, aJ (k 1) 9 anJ), (h5, aJ (k 1) 9 anJ), (h7, aJ (k 1) 4 (zJ [1, 2, 3]))] H := hT
                                    refine lv_if_eq (tgt := 90) hx hb dX11_factor_81 (by decide) (fun cc => absurd cc (by decide +kernel)) (fun _ => ?_)
                                    refine lv_iinc (v := 3) (lv' := [(3, .int 3), (4, .int 1), (0, .ref h0), (1, .int x1), (2, .int x2)]) hx hb dX11_factor_84 hl (k := 0) rfl (by decide) (by decide) rfl (fun ls hl => ?_)
                                    refine lv_goto (tgt := 45) hx hb dX11_factor_87 (by decide) ?_
                                    refine lv_aload_n hx hb dX11_factor_45 rfl (lv_at hl 2 rfl) ?_
                                    refine lv_iload hx hb dX11_factor_46 (lv_at hl 1 rfl) ?_
                                    refine lv_iload_n hx hb dX11_factor_48 rfl (lv_at hl 4 rfl) ?_
                                    refine lv_iconst (v := 1) hx hb dX11_factor_49 (by decide) ?_
                                    refine lv_icmp_ne (tgt := 57) hx hb dX11_factor_50 (by decide) (fun c_1070 => ?_) (fun c_1070 => ?_)
                                    · skip
                                      have c_1070 := ni_ne c_1070 rfl li_1
                                      exfalso; omega
                                    · skip
                                      have c_1070 := ni_eq c_1070 rfl li_1
                                      refine lv_iconst (v := (-1)) hx hb dX11_factor_53 (by decide) ?_
                                      refine lv_goto (tgt := 58) hx hb dX11_factor_54 (by decide) ?_
                                      refine lv_iload_n hx hb dX11_factor_58 rfl (lv_at hl 4 rfl) ?_
                                      refine lv_iconst (v := 3) hx hb dX11_factor_59 (by decide) ?_
                                      refine lv_icmp_ne (tgt := 67) hx hb dX11_factor_60 (by decide) (fun c_1071 => ?_) (fun c_1071 => ?_)
                                      · skip
                                        have c_1071 := ni_ne c_1071 rfl li_3
                                        refine lv_iload_n hx hb dX11_factor_67 rfl (lv_at hl 4 rfl) ?_
                                        refine lv_bipush (v := 6) hx hb dX11_factor_68 (by decide) ?_
                                        refine lv_icmp_ne (tgt := 77) hx hb dX11_factor_70 (by decide) (fun c_1072 => ?_) (fun c_1072 => ?_)
                                        · skip
                                          have c_1072 := ni_ne c_1072 rfl li_6
                                          refine lv_iconst (v := 0) hx hb dX11_factor_77 (by decide) ?_
                                          have q_q1074 := li_1
                                          have q_q1075 := li_m1
                                          have q_q1076 := li_0
                                          refine tcI (Tc := [(h0, ob 8 [.int h0f0, .int h0f1, .int h0f2, .int h0f3, .int h0f4, .int h0f5, .ref h1, .ref h2, .int h0f8, .int h0f9, .ref h3, .ref h4, .ref h5, .ref h6, .ref h7, .ref h8, .ref h9, .int h0f17, .int h0f18, .int h0f19, .ref h10, .ref h11, .ref h12, .ref h13, .int h0f24, .int h0f25, .ref h14, .ref h15, .ref h16, .ref h17, .int h0f30, .int h0f31, .ref h18, .ref h19, .ref h20, .ref h21]), (h7, aJ (k 1) 4 (zJ [1, 2, 3]))]) (Tr := [(h1, aI (k 0) 36 anI), (h4, aJ (k 1) 9 anJ), (h5, aJ (k 1) 9 anJ)]) (as := [h0, h7]) (zcV (q0 := 1) (ci := 8) (As := [.int 1, .int (-1), .int 0]) (rest := []) (Tc := [(h0, ob 8 [.int h0f0, .int h0f1, .int h0f2, .int h0f3, .int h0f4, .int h0f5, .ref h1, .ref h2, .int h0f8, .int h0f9, .ref h3, .ref h4, .ref h5, .ref h6, .ref h7, .ref h8, .ref h9, .int h0f17, .int h0f18, .int h0f19, .ref h10, .ref h11, .ref h12, .ref h13, .int h0f24, .int h0f25, .ref h14, .ref h15, .ref h16, .ref h17, .int h0f30, .int h0f31, .ref h18, .ref h19, .ref h20, .ref h21]), (h7, aJ (k 1) 4 (zJ [1, 2, 3]))]) hx hb hml hown hU hK hT rfl rfl [1, 4] rfl (by decide) (cX11_takesOut_51a3e l D k _ h0 h7 h1 h2 h3 h4 h5 h6 h8 h9 h10 h11 h12 h13 h14 h15 h16 h17 h18 h19 h20 h21 (1) ((-1)) (0) h0f0 h0f1 h0f2 h0f3 h0f4 h0f5 h0f8 h0f9 h0f17 h0f18 h0f19 h0f24 h0f25 h0f30 h0f31 (by have := li_1; omega) (by have := li_m1; omega) (by have := li_0; omega) (by omega) (by omega) (by omega) (by omega) (by omega) (by omega) (by omega) (by omega) (by omega) (by omega) (by omega) (by omega) (by omega)) w999 w996 w998 w41 w72 hdX11_takesOut ⟨rfl, rfl⟩ ⟨Nat.le_of_ble_eq_true rfl, Nat.le_of_ble_eq_true rfl⟩ rfl hl.1 (Nat.le_of_ble_eq_true rfl) dX11_factor_78 ⟨Nat.le_of_ble_eq_true rfl, Nat.le_of_ble_eq_true rfl⟩) hT hS hA [1, 4] [0, 2, 3] rfl rfl rfl (by decide) (by decide) (fun r1073 H locs hB J hS => ?_)
                                          obtain ⟨rfl, hT1⟩ := hB
                                          have hT := J _ hT1
                                          have hT : TP D A [(h1, aI (k 0) 36 anI), (h4, aJ (k 1) 9 anJ), (h5, aJ (k 1) 9 anJ), (h0, ob 8 [.int h0f0, .int h0f1, .int h0f2, .int h0f3, .int h0f4, .int h0f5, .ref h1, .ref h2, .int h0f8, .int h0f9, .ref h3, .ref h4, .ref h5, .ref h6, .ref h7, .ref h8, .ref h9, .int h0f17, .int h0f18, .int h0f19, .ref h10, .ref h11, .ref h12, .ref h13, .int h0f24, .int h0f25, .ref h14, .ref h15, .ref h16, .ref h17, .int h0f30, .int h0f31, .ref h18, .ref h19, .ref h20, .ref h21]), (h7, aJ (k 1) 4 anJ)] H := hT
                                          refine lv_if_eq (tgt := 90) hx hb dX11_factor_81 (by decide) (fun _ => ?_) (fun cc => absurd (by decide +kernel) cc)
                                          refine lv_iload_n hx hb dX11_factor_90 rfl (lv_at hl 0 rfl) ?_
                                          exact tz_retI (B := B_cX11_factor_03481 D k h0 h1 h4 h5 h7 h2 h3 h6 h8 h9 h10 h11 h12 h13 h14 h15 h16 h17 h18 h19 h20 h21 x1 x2 h0f0 h0f1 h0f2 h0f3 h0f4 h0f5 h0f8 h0f9 h0f17 h0f18 h0f19 h0f24 h0f25 h0f30 h0f31) (v := 3) hQ hx hb hr hlocks hS (Nat.le_of_ble_eq_true rfl) (Nat.le_of_ble_eq_true rfl) dX11_factor_91 (⟨(by have := li_3; omega), (hT.sub [3, 0, 1, 2, 4] (by decide) rfl)⟩)
                                        · skip
                                          have c_1072 := ni_eq c_1072 rfl li_6
                                          exfalso; omega
                                      · skip
                                        have c_1071 := ni_eq c_1071 rfl li_3
                                        exfalso; omega
                                · skip
                                  have c_1057 := ni_eq c_1057 rfl li_6
                                  exfalso; omega
                              · skip
                                have c_1056 := ni_eq c_1056 rfl li_3
                                exfalso; omega
                          · skip
                            have hT := J _ hT1
                            have hT : TP D A [(h1, aI (k 0) 36 anI), (h0, ob 8 [.int h0f0, .int h0f1, .int h0f2, .int h0f3, .int h0f4, .int h0f5, .ref h1, .ref h2, .int h0f8, .int h0f9, .ref h3, .ref h4, .ref h5, .ref h6, .ref h7, .ref h8, .ref h9, .int h0f17, .int h0f18, .int h0f19, .ref h10, .ref h11, .ref h12, .ref h13, .int h0f24, .int h0f25, .ref h14, .ref h15, .ref h16, .ref h17, .int h0f30, .int h0f31, .ref h18, .ref h19, .ref h20, .ref h21]), (h4, aJ (k 1) 9 anJ), (h5, aJ (k 1) 9 anJ), (h7, aJ (k 1) 4 (zJ [2, 3]))] H := hT
                            exfalso; omega
                        · skip
                          have c_1000 := ni_eq c_1000 rfl li_6
                          exfalso; omega
                      · skip
                        have c_999 := ni_eq c_999 rfl li_3
                        exfalso; omega
                  · skip
                    have hT := J _ hT1
                    have hT : TP D A [(h1, aI (k 0) 36 anI), (h0, ob 8 [.int h0f0, .int h0f1, .int h0f2, .int h0f3, .int h0f4, .int h0f5, .ref h1, .ref h2, .int h0f8, .int h0f9, .ref h3, .ref h4, .ref h5, .ref h6, .ref h7, .ref h8, .ref h9, .int h0f17, .int h0f18, .int h0f19, .ref h10, .ref h11, .ref h12, .ref h13, .int h0f24, .int h0f25, .ref h14, .ref h15, .ref h16, .ref h17, .int h0f30, .int h0f31, .ref h18, .ref h19, .ref h20, .ref h21]), (h4, aJ (k 1) 9 anJ), (h5, aJ (k 1) 9 anJ), (h7, aJ (k 1) 4 (zJ [3]))] H := hT
                    exfalso; omega
                  · skip
                    have hT := J _ hT1
                    have hT : TP D A [(h1, aI (k 0) 36 anI), (h0, ob 8 [.int h0f0, .int h0f1, .int h0f2, .int h0f3, .int h0f4, .int h0f5, .ref h1, .ref h2, .int h0f8, .int h0f9, .ref h3, .ref h4, .ref h5, .ref h6, .ref h7, .ref h8, .ref h9, .int h0f17, .int h0f18, .int h0f19, .ref h10, .ref h11, .ref h12, .ref h13, .int h0f24, .int h0f25, .ref h14, .ref h15, .ref h16, .ref h17, .int h0f30, .int h0f31, .ref h18, .ref h19, .ref h20, .ref h21]), (h4, aJ (k 1) 9 anJ), (h5, aJ (k 1) 9 anJ), (h7, aJ (k 1) 4 (zJ [3]))] H := hT
                    exfalso; omega
                · skip
                  have c_781 := ni_eq c_781 rfl li_6
                  exfalso; omega
              · skip
                have c_780 := ni_eq c_780 rfl li_3
                exfalso; omega
        · skip
          have c_6 := ni_nle c_6 rfl li_6
          refine lv_iconst (v := (-1)) hx hb dX11_factor_24 (by decide) ?_
          exact tz_retI (B := B_cX11_factor_03481 D k h0 h1 h4 h5 h7 h2 h3 h6 h8 h9 h10 h11 h12 h13 h14 h15 h16 h17 h18 h19 h20 h21 x1 x2 h0f0 h0f1 h0f2 h0f3 h0f4 h0f5 h0f8 h0f9 h0f17 h0f18 h0f19 h0f24 h0f25 h0f30 h0f31) (v := (-1)) hQ hx hb hr hlocks hS (Nat.le_of_ble_eq_true rfl) (Nat.le_of_ble_eq_true rfl) dX11_factor_25 (⟨(by have := li_m1; omega), (hT.sub [4, 0, 1, 2, 3] (by decide) rfl)⟩)
