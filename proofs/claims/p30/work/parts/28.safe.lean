abbrev Rm_cX11_common_49cb4 : Room := { frames := 0, cells := 0, slots := 0, locals := 0 }
abbrev B_cX11_common_49cb4 (D : va_G) (k : Nat → ClassId) (x0 : Int64) (x1 : Int64) (A : Nat → Prop) (r : Int64) (H : Heap) : Prop := (r.toInt ≠ 0) ∧ TP D A [] H
set_option maxHeartbeats 4000000 in
set_option maxRecDepth 100000 in
theorem cX11_common_49cb4 (l : Launch) (D : va_G) (k : Nat → ClassId) (sz : Nat) (x0 : Int64) (x1 : Int64) (j_0 : x0.toInt ≠ 0 ∨ x1.toInt ≠ 0) : Met l yX11_common (Cond.code yX11_common cX11_common 10 (some .long) :: uw) Rm_cX11_common_49cb4 (pT D k sz [.long x0, .long x1] []) (qL (B_cX11_common_49cb4 D k x0 x1 (zA [] sz)) (zA [] sz)) 0 0 (zA [] sz) := by
  refine tz_begin (as := []) (Qc := fun A => qL (B_cX11_common_49cb4 D k x0 x1 A) A) (by decide +kernel) rfl (Nat.le_of_ble_eq_true rfl) ?_
  intro p e s m args below meth c ls A Q hx hb hr hml hown hlocks hin hU hK hT hS hA hl hQ
  have hl : lv_has ls 10 [(0, .long x0), (2, .long x1)] := hl
  have hT : TP D A [] s.heap := hT
  have lp28_3 : ∀ (n : Nat) (y1 : Int64) (y2 : Int64) (H : Heap) (locs : List Loc) (ls : Array Slot), (y2.toInt ≠ 0 ∨ y1.toInt ≠ 0) → (y1.toInt).natAbs < n → TP D A [] H → va_S A s.heap H locs → lv_has ls 10 [(4, .long y2), (6, .long y1)] → W p l e Rm_cX11_common_49cb4 s m args below meth c H locs 0 0 Q (F0 m 28 ls []) := by
    intro n
    induction n with
    | zero => intro y1 y2 H locs ls w_0 hm hT hS hl; exact absurd hm (Nat.not_lt_zero _)
    | succ n ih =>
      intro y1 y2 H locs ls w_0 hm hT hS hl
      have ih28_3 := ih
      clear ih
      refine lv_lload hx hb dX11_common_28 (lv_at hl 1 rfl) ?_
      refine lv_lconst (v := 0) hx hb dX11_common_30 (by decide) ?_
      refine W.lcmp hx hb dX11_common_31 ?_
      refine lv_if_eq (tgt := 53) hx hb dX11_common_32 (by decide) (fun c_4 => ?_) (fun c_4 => ?_)
      · skip
        have c_4 := nl_eq c_4 rfl ll_0
        refine lv_lload hx hb dX11_common_53 (lv_at hl 0 rfl) ?_
        exact tz_retL (B := B_cX11_common_49cb4 D k x0 x1) (v := y2) hQ hx hb hr hlocks hS (Nat.le_of_ble_eq_true rfl) (Nat.le_of_ble_eq_true rfl) dX11_common_55 (⟨(by omega), hT⟩)
      · skip
        have c_4 := nl_ne c_4 rfl ll_0
        refine lv_lload hx hb dX11_common_35 (lv_at hl 0 rfl) ?_
        refine lv_lload hx hb dX11_common_37 (lv_at hl 1 rfl) ?_
        refine lv_lrem hx hb dX11_common_39 (nz64 (y := y1.toInt) rfl (by omega)) (lv_topl (fun v5 e_v5 => ?_))
        have e_v5 := al_rem e_v5 (nz64 (y := y1.toInt) rfl (by omega))
        refine lv_lstore (lv' := [(8, .long v5), (4, .long y2), (6, .long y1)]) hx hb dX11_common_40 hl (by decide) rfl (fun ls hl => ?_)
        refine lv_lload hx hb dX11_common_42 (lv_at hl 2 rfl) ?_
        refine lv_lstore (lv' := [(4, .long y1), (8, .long v5), (6, .long y1)]) hx hb dX11_common_44 hl (by decide) rfl (fun ls hl => ?_)
        refine lv_lload hx hb dX11_common_46 (lv_at hl 1 rfl) ?_
        refine lv_lstore (lv' := [(6, .long v5), (4, .long y1), (8, .long v5)]) hx hb dX11_common_48 hl (by decide) rfl (fun ls hl => ?_)
        refine lv_goto (tgt := 28) hx hb dX11_common_50 (by decide) ?_
        exact ih28_3 v5 y1 _ _ _  (by omega) (by omega) hT hS (lv_sub hl [1, 0] rfl)
  refine lv_lload_n hx hb dX11_common_0 rfl (lv_at hl 0 rfl) ?_
  refine lv_lconst (v := 0) hx hb dX11_common_1 (by decide) ?_
  refine W.lcmp hx hb dX11_common_2 ?_
  refine lv_if_ge (tgt := 11) hx hb dX11_common_3 (by decide) (fun c_6 => ?_) (fun c_6 => ?_)
  · skip
    have c_6 := nl_ge c_6 rfl ll_0
    refine lv_lload_n hx hb dX11_common_11 rfl (lv_at hl 0 rfl) ?_
    refine lv_lstore (lv' := [(4, .long x0), (0, .long x0), (2, .long x1)]) hx hb dX11_common_12 hl (by decide) rfl (fun ls hl => ?_)
    refine lv_lload_n hx hb dX11_common_14 rfl (lv_at hl 2 rfl) ?_
    refine lv_lconst (v := 0) hx hb dX11_common_15 (by decide) ?_
    refine W.lcmp hx hb dX11_common_16 ?_
    refine lv_if_ge (tgt := 25) hx hb dX11_common_17 (by decide) (fun c_7 => ?_) (fun c_7 => ?_)
    · skip
      have c_7 := nl_ge c_7 rfl ll_0
      refine lv_lload_n hx hb dX11_common_25 rfl (lv_at hl 2 rfl) ?_
      refine lv_lstore (lv' := [(6, .long x1), (4, .long x0), (0, .long x0), (2, .long x1)]) hx hb dX11_common_26 hl (by decide) rfl (fun ls hl => ?_)
      exact lp28_3 ((x1.toInt).natAbs + 1) x1 x0 _ _ _  (by omega) (Nat.lt_succ_self _) hT hS (lv_sub hl [1, 0] rfl)
    · skip
      have c_7 := nl_nge c_7 rfl ll_0
      refine lv_lload_n hx hb dX11_common_20 rfl (lv_at hl 2 rfl) ?_
      refine lv_lneg hx hb dX11_common_21 (lv_topl (fun v8 e_v8 => ?_))
      have e_v8 := al_negz e_v8
      refine lv_goto (tgt := 26) hx hb dX11_common_22 (by decide) ?_
      refine lv_lstore (lv' := [(6, .long v8), (4, .long x0), (0, .long x0), (2, .long x1)]) hx hb dX11_common_26 hl (by decide) rfl (fun ls hl => ?_)
      exact lp28_3 ((v8.toInt).natAbs + 1) v8 x0 _ _ _  (by omega) (Nat.lt_succ_self _) hT hS (lv_sub hl [1, 0] rfl)
  · skip
    have c_6 := nl_nge c_6 rfl ll_0
    refine lv_lload_n hx hb dX11_common_6 rfl (lv_at hl 0 rfl) ?_
    refine lv_lneg hx hb dX11_common_7 (lv_topl (fun v9 e_v9 => ?_))
    have e_v9 := al_negz e_v9
    refine lv_goto (tgt := 12) hx hb dX11_common_8 (by decide) ?_
    refine lv_lstore (lv' := [(4, .long v9), (0, .long x0), (2, .long x1)]) hx hb dX11_common_12 hl (by decide) rfl (fun ls hl => ?_)
    refine lv_lload_n hx hb dX11_common_14 rfl (lv_at hl 2 rfl) ?_
    refine lv_lconst (v := 0) hx hb dX11_common_15 (by decide) ?_
    refine W.lcmp hx hb dX11_common_16 ?_
    refine lv_if_ge (tgt := 25) hx hb dX11_common_17 (by decide) (fun c_10 => ?_) (fun c_10 => ?_)
    · skip
      have c_10 := nl_ge c_10 rfl ll_0
      refine lv_lload_n hx hb dX11_common_25 rfl (lv_at hl 2 rfl) ?_
      refine lv_lstore (lv' := [(6, .long x1), (4, .long v9), (0, .long x0), (2, .long x1)]) hx hb dX11_common_26 hl (by decide) rfl (fun ls hl => ?_)
      exact lp28_3 ((x1.toInt).natAbs + 1) x1 v9 _ _ _  (by omega) (Nat.lt_succ_self _) hT hS (lv_sub hl [1, 0] rfl)
    · skip
      have c_10 := nl_nge c_10 rfl ll_0
      refine lv_lload_n hx hb dX11_common_20 rfl (lv_at hl 2 rfl) ?_
      refine lv_lneg hx hb dX11_common_21 (lv_topl (fun v11 e_v11 => ?_))
      have e_v11 := al_negz e_v11
      refine lv_goto (tgt := 26) hx hb dX11_common_22 (by decide) ?_
      refine lv_lstore (lv' := [(6, .long v11), (4, .long v9), (0, .long x0), (2, .long x1)]) hx hb dX11_common_26 hl (by decide) rfl (fun ls hl => ?_)
      exact lp28_3 ((v11.toInt).natAbs + 1) v11 v9 _ _ _  (by omega) (Nat.lt_succ_self _) hT hS (lv_sub hl [1, 0] rfl)
abbrev Rm_cX11_form_b559b : Room := { frames := 3, cells := 0, slots := 0, locals := 70 }
abbrev B_cX11_form_b559b (D : va_G) (k : Nat → ClassId) (h0 h1 h4 h5 h6 h10 h11 h12 h13 h2 h3 h7 h8 h9 h14 h15 h16 h17 h18 h19 h20 h21 : Nat) (x1 : Int32) (x2 : Int32) (h0f0 : Int32) (h0f1 : Int32) (h0f2 : Int32) (h0f3 : Int32) (h0f4 : Int32) (h0f5 : Int32) (h0f8 : Int32) (h0f9 : Int32) (h0f17 : Int32) (h0f18 : Int32) (h0f19 : Int32) (h0f24 : Int32) (h0f25 : Int32) (h0f30 : Int32) (h0f31 : Int32) (A : Nat → Prop) (r : Int64) (H : Heap) : Prop := ∃ o0 : Int32, ∃ o1 : Int32, ∃ o2 : Int32, (0 ≤ o0.toInt ∧ o0.toInt ≤ 1) ∧ (0 ≤ o1.toInt ∧ o1.toInt ≤ 100) ∧ (0 ≤ o2.toInt ∧ o2.toInt ≤ 1) ∧ TP D A [(h0, ob 8 [.int h0f0, .int h0f1, .int h0f2, .int h0f3, .int h0f4, .int h0f5, .ref h1, .ref h2, .int h0f8, .int o0, .ref h3, .ref h4, .ref h5, .ref h6, .ref h7, .ref h8, .ref h9, .int h0f17, .int h0f18, .int h0f19, .ref h10, .ref h11, .ref h12, .ref h13, .int o1, .int o2, .ref h14, .ref h15, .ref h16, .ref h17, .int h0f30, .int h0f31, .ref h18, .ref h19, .ref h20, .ref h21]), (h1, aI (k 0) 36 anI), (h4, aJ (k 1) 9 anJ), (h5, aJ (k 1) 9 anJ), (h6, aJ (k 1) 9 anJ), (h10, aJ (k 1) 900 (lsP (o0.toInt))), (h11, aI (k 0) 100 anI), (h12, aI (k 0) 100 anI), (h13, aI (k 0) 100 anI)] H
set_option maxHeartbeats 4000000 in
set_option maxRecDepth 100000 in
theorem cX11_form_b559b (l : Launch) (D : va_G) (k : Nat → ClassId) (sz : Nat) (h0 h1 h4 h5 h6 h10 h11 h12 h13 h2 h3 h7 h8 h9 h14 h15 h16 h17 h18 h19 h20 h21 : Nat) (x1 : Int32) (x2 : Int32) (h0f0 : Int32) (h0f1 : Int32) (h0f2 : Int32) (h0f3 : Int32) (h0f4 : Int32) (h0f5 : Int32) (h0f8 : Int32) (h0f9 : Int32) (h0f17 : Int32) (h0f18 : Int32) (h0f19 : Int32) (h0f24 : Int32) (h0f25 : Int32) (h0f30 : Int32) (h0f31 : Int32) (b_h0f0 : 1 ≤ h0f0.toInt ∧ h0f0.toInt ≤ 3) (b_h0f1 : 0 ≤ h0f1.toInt ∧ h0f1.toInt ≤ 4) (b_h0f3 : 0 ≤ h0f3.toInt ∧ h0f3.toInt ≤ 3) (b_h0f4 : 0 ≤ h0f4.toInt ∧ h0f4.toInt ≤ 4) (b_h0f8 : 0 ≤ h0f8.toInt ∧ h0f8.toInt ≤ 1) (b_h0f9 : 0 ≤ h0f9.toInt ∧ h0f9.toInt ≤ 1) (b_h0f17 : 0 ≤ h0f17.toInt ∧ h0f17.toInt ≤ 120) (b_h0f18 : 0 ≤ h0f18.toInt ∧ h0f18.toInt ≤ 120) (b_h0f19 : 0 ≤ h0f19.toInt ∧ h0f19.toInt ≤ 4) (b_h0f24 : 0 ≤ h0f24.toInt ∧ h0f24.toInt ≤ 100) (b_h0f25 : 0 ≤ h0f25.toInt ∧ h0f25.toInt ≤ 1) (b_h0f30 : 0 ≤ h0f30.toInt ∧ h0f30.toInt ≤ 60) (b_h0f31 : 0 ≤ h0f31.toInt ∧ h0f31.toInt ≤ 1) (i_0 : h0f8.toInt ≤ h0f3.toInt) (i_1 : h0f9.toInt ≤ h0f24.toInt) : Met l yX11_form (Cond.code yX11_form cX11_form 6 (some .long) :: uw) Rm_cX11_form_b559b (pT D k sz [.ref h0, .int x1, .int x2] [(h0, ob 8 [.int h0f0, .int h0f1, .int h0f2, .int h0f3, .int h0f4, .int h0f5, .ref h1, .ref h2, .int h0f8, .int h0f9, .ref h3, .ref h4, .ref h5, .ref h6, .ref h7, .ref h8, .ref h9, .int h0f17, .int h0f18, .int h0f19, .ref h10, .ref h11, .ref h12, .ref h13, .int h0f24, .int h0f25, .ref h14, .ref h15, .ref h16, .ref h17, .int h0f30, .int h0f31, .ref h18, .ref h19, .ref h20, .ref h21]), (h1, aI (k 0) 36 anI), (h4, aJ (k 1) 9 anJ), (h5, aJ (k 1) 9 anJ), (h6, aJ (k 1) 9 anJ), (h10, aJ (k 1) 900 (lsP (h0f9.toInt))), (h11, aI (k 0) 100 anI), (h12, aI (k 0) 100 anI), (h13, aI (k 0) 100 anI)]) (qL (B_cX11_form_b559b D k h0 h1 h4 h5 h6 h10 h11 h12 h13 h2 h3 h7 h8 h9 h14 h15 h16 h17 h18 h19 h20 h21 x1 x2 h0f0 h0f1 h0f2 h0f3 h0f4 h0f5 h0f8 h0f9 h0f17 h0f18 h0f19 h0f24 h0f25 h0f30 h0f31 (zA [h0, h1, h4, h5, h6, h10, h11, h12, h13] sz)) (zA [h0, h1, h4, h5, h6, h10, h11, h12, h13] sz)) 0 0 (zA [h0, h1, h4, h5, h6, h10, h11, h12, h13] sz) := by
  refine tz_begin (as := [h0, h1, h4, h5, h6, h10, h11, h12, h13]) (Qc := fun A => qL (B_cX11_form_b559b D k h0 h1 h4 h5 h6 h10 h11 h12 h13 h2 h3 h7 h8 h9 h14 h15 h16 h17 h18 h19 h20 h21 x1 x2 h0f0 h0f1 h0f2 h0f3 h0f4 h0f5 h0f8 h0f9 h0f17 h0f18 h0f19 h0f24 h0f25 h0f30 h0f31 A) A) (by decide +kernel) rfl (Nat.le_of_ble_eq_true rfl) ?_
  intro p e s m args below meth c ls A Q hx hb hr hml hown hlocks hin hU hK hT hS hA hl hQ
  have hl : lv_has ls 6 [(0, .ref h0), (1, .int x1), (2, .int x2)] := hl
  have hT : TP D A [(h0, ob 8 [.int h0f0, .int h0f1, .int h0f2, .int h0f3, .int h0f4, .int h0f5, .ref h1, .ref h2, .int h0f8, .int h0f9, .ref h3, .ref h4, .ref h5, .ref h6, .ref h7, .ref h8, .ref h9, .int h0f17, .int h0f18, .int h0f19, .ref h10, .ref h11, .ref h12, .ref h13, .int h0f24, .int h0f25, .ref h14, .ref h15, .ref h16, .ref h17, .int h0f30, .int h0f31, .ref h18, .ref h19, .ref h20, .ref h21]), (h1, aI (k 0) 36 anI), (h4, aJ (k 1) 9 anJ), (h5, aJ (k 1) 9 anJ), (h6, aJ (k 1) 9 anJ), (h10, aJ (k 1) 900 (lsP (h0f9.toInt))), (h11, aI (k 0) 100 anI), (h12, aI (k 0) 100 anI), (h13, aI (k 0) 100 anI)] s.heap := hT
  refine lv_aload_n hx hb dX11_form_0 rfl (lv_at hl 0 rfl) ?_
  refine lv_iload_n hx hb dX11_form_1 rfl (lv_at hl 1 rfl) ?_
  refine tcI (Tc := [(h0, ob 8 [.int h0f0, .int h0f1, .int h0f2, .int h0f3, .int h0f4, .int h0f5, .ref h1, .ref h2, .int h0f8, .int h0f9, .ref h3, .ref h4, .ref h5, .ref h6, .ref h7, .ref h8, .ref h9, .int h0f17, .int h0f18, .int h0f19, .ref h10, .ref h11, .ref h12, .ref h13, .int h0f24, .int h0f25, .ref h14, .ref h15, .ref h16, .ref h17, .int h0f30, .int h0f31, .ref h18, .ref h19, .ref h20, .ref h21])]) (Tr := [(h1, aI (k 0) 36 anI), (h4, aJ (k 1) 9 anJ), (h5, aJ (k 1) 9 anJ), (h6, aJ (k 1) 9 anJ), (h10, aJ (k 1) 900 (lsP (h0f9.toInt))), (h11, aI (k 0) 100 anI), (h12, aI (k 0) 100 anI), (h13, aI (k 0) 100 anI)]) (as := [h0]) (zcV (q0 := 0) (ci := 8) (As := [.int x1]) (rest := []) (Tc := [(h0, ob 8 [.int h0f0, .int h0f1, .int h0f2, .int h0f3, .int h0f4, .int h0f5, .ref h1, .ref h2, .int h0f8, .int h0f9, .ref h3, .ref h4, .ref h5, .ref h6, .ref h7, .ref h8, .ref h9, .int h0f17, .int h0f18, .int h0f19, .ref h10, .ref h11, .ref h12, .ref h13, .int h0f24, .int h0f25, .ref h14, .ref h15, .ref h16, .ref h17, .int h0f30, .int h0f31, .ref h18, .ref h19, .ref h20, .ref h21])]) hx hb hml hown hU hK hT rfl rfl [0] rfl (by decide) (cX11_isPlace_24f09 l D k _ h0 h1 h2 h3 h4 h5 h6 h7 h8 h9 h10 h11 h12 h13 h14 h15 h16 h17 h18 h19 h20 h21 x1 h0f0 h0f1 h0f2 h0f3 h0f4 h0f5 h0f8 h0f9 h0f17 h0f18 h0f19 h0f24 h0f25 h0f30 h0f31 (by omega) (by omega) (by omega) (by omega) (by omega) (by omega) (by omega) (by omega) (by omega) (by omega) (by omega) (by omega) (by omega) (by omega) (by omega)) w909 w906 w908 w26 w72 hdX11_isPlace ⟨rfl, rfl⟩ ⟨Nat.le_of_ble_eq_true rfl, Nat.le_of_ble_eq_true rfl⟩ rfl hl.1 (Nat.le_of_ble_eq_true rfl) dX11_form_2 ⟨Nat.le_of_ble_eq_true rfl, Nat.le_of_ble_eq_true rfl⟩) hT hS hA [0] [1, 2, 3, 4, 5, 6, 7, 8] rfl rfl rfl (by decide) (by decide) (fun r1 H locs hB J hS => ?_)
  rcases hB with ⟨rfl, hT1⟩ | ⟨c_2, c_3, c_4, c_5, rfl, hT1⟩
  · skip
    have hT := J _ hT1
    have hT : TP D A [(h1, aI (k 0) 36 anI), (h4, aJ (k 1) 9 anJ), (h5, aJ (k 1) 9 anJ), (h6, aJ (k 1) 9 anJ), (h10, aJ (k 1) 900 (lsP (h0f9.toInt))), (h11, aI (k 0) 100 anI), (h12, aI (k 0) 100 anI), (h13, aI (k 0) 100 anI), (h0, ob 8 [.int h0f0, .int h0f1, .int h0f2, .int h0f3, .int h0f4, .int h0f5, .ref h1, .ref h2, .int h0f8, .int h0f9, .ref h3, .ref h4, .ref h5, .ref h6, .ref h7, .ref h8, .ref h9, .int h0f17, .int h0f18, .int h0f19, .ref h10, .ref h11, .ref h12, .ref h13, .int h0f24, .int h0f25, .ref h14, .ref h15, .ref h16, .ref h17, .int h0f30, .int h0f31, .ref h18, .ref h19, .ref h20, .ref h21])] _ := hT
    refine lv_if_eq (tgt := 16) hx hb dX11_form_5 (by decide) (fun _ => ?_) (fun cc => absurd (by decide +kernel) cc)
    refine lv_iconst (v := (-1)) hx hb dX11_form_16 (by decide) ?_
    have q_q7 := li_m1
    refine tcL (Tc := []) (Tr := [(h1, aI (k 0) 36 anI), (h4, aJ (k 1) 9 anJ), (h5, aJ (k 1) 9 anJ), (h6, aJ (k 1) 9 anJ), (h10, aJ (k 1) 900 (lsP (h0f9.toInt))), (h11, aI (k 0) 100 anI), (h12, aI (k 0) 100 anI), (h13, aI (k 0) 100 anI), (h0, ob 8 [.int h0f0, .int h0f1, .int h0f2, .int h0f3, .int h0f4, .int h0f5, .ref h1, .ref h2, .int h0f8, .int h0f9, .ref h3, .ref h4, .ref h5, .ref h6, .ref h7, .ref h8, .ref h9, .int h0f17, .int h0f18, .int h0f19, .ref h10, .ref h11, .ref h12, .ref h13, .int h0f24, .int h0f25, .ref h14, .ref h15, .ref h16, .ref h17, .int h0f30, .int h0f31, .ref h18, .ref h19, .ref h20, .ref h21])]) (as := []) (zcS (As := [.int (-1)]) (rest := []) (Tc := []) hx hb hml hown hU hK hT [] rfl (by decide) (cX11_far_7dbca l D k _ ((-1)) (by have := li_m1; omega)) w1062 w1060 w1061 w72 hdX11_far ⟨rfl, rfl⟩ ⟨Nat.le_of_ble_eq_true rfl, Nat.le_of_ble_eq_true rfl⟩ rfl hl.1 (Nat.le_of_ble_eq_true rfl) dX11_form_17 ⟨Nat.le_of_ble_eq_true rfl, Nat.le_of_ble_eq_true rfl⟩) hT hS hA [] [0, 1, 2, 3, 4, 5, 6, 7, 8] rfl rfl rfl (by decide) (by decide) (fun r6 H locs hB J hS => ?_)
    obtain ⟨b_r6, hT1⟩ := hB
    have hT := J _ hT1
    have hT : TP D A [(h1, aI (k 0) 36 anI), (h4, aJ (k 1) 9 anJ), (h5, aJ (k 1) 9 anJ), (h6, aJ (k 1) 9 anJ), (h10, aJ (k 1) 900 (lsP (h0f9.toInt))), (h11, aI (k 0) 100 anI), (h12, aI (k 0) 100 anI), (h13, aI (k 0) 100 anI), (h0, ob 8 [.int h0f0, .int h0f1, .int h0f2, .int h0f3, .int h0f4, .int h0f5, .ref h1, .ref h2, .int h0f8, .int h0f9, .ref h3, .ref h4, .ref h5, .ref h6, .ref h7, .ref h8, .ref h9, .int h0f17, .int h0f18, .int h0f19, .ref h10, .ref h11, .ref h12, .ref h13, .int h0f24, .int h0f25, .ref h14, .ref h15, .ref h16, .ref h17, .int h0f30, .int h0f31, .ref h18, .ref h19, .ref h20, .ref h21])] _ := hT
    exact tz_retL (B := B_cX11_form_b559b D k h0 h1 h4 h5 h6 h10 h11 h12 h13 h2 h3 h7 h8 h9 h14 h15 h16 h17 h18 h19 h20 h21 x1 x2 h0f0 h0f1 h0f2 h0f3 h0f4 h0f5 h0f8 h0f9 h0f17 h0f18 h0f19 h0f24 h0f25 h0f30 h0f31) (v := r6) hQ hx hb hr hlocks hS (Nat.le_of_ble_eq_true rfl) (Nat.le_of_ble_eq_true rfl) dX11_form_20 (⟨h0f9, h0f24, h0f25, (by omega), (by omega), (by omega), (hT.sub [8, 0, 1, 2, 3, 4, 5, 6, 7] (by decide) rfl)⟩)
  · skip
    have hT := J _ hT1
    have hT : TP D A [(h1, aI (k 0) 36 anI), (h4, aJ (k 1) 9 anJ), (h5, aJ (k 1) 9 anJ), (h6, aJ (k 1) 9 anJ), (h10, aJ (k 1) 900 (lsP (h0f9.toInt))), (h11, aI (k 0) 100 anI), (h12, aI (k 0) 100 anI), (h13, aI (k 0) 100 anI), (h0, ob 8 [.int h0f0, .int h0f1, .int h0f2, .int h0f3, .int h0f4, .int h0f5, .ref h1, .ref h2, .int h0f8, .int h0f9, .ref h3, .ref h4, .ref h5, .ref h6, .ref h7, .ref h8, .ref h9, .int h0f17, .int h0f18, .int h0f19, .ref h10, .ref h11, .ref h12, .ref h13, .int h0f24, .int h0f25, .ref h14, .ref h15, .ref h16, .ref h17, .int h0f30, .int h0f31, .ref h18, .ref h19, .ref h20, .ref h21])] _ := hT
    refine lv_if_eq (tgt := 16) hx hb dX11_form_5 (by decide) (fun cc => absurd cc (by decide +kernel)) (fun _ => ?_)
    refine lv_aload_n hx hb dX11_form_8 rfl (lv_at hl 0 rfl) ?_
    refine lv_iload_n hx hb dX11_form_9 rfl (lv_at hl 2 rfl) ?_
    refine tcI (Tc := [(h0, ob 8 [.int h0f0, .int h0f1, .int h0f2, .int h0f3, .int h0f4, .int h0f5, .ref h1, .ref h2, .int h0f8, .int h0f9, .ref h3, .ref h4, .ref h5, .ref h6, .ref h7, .ref h8, .ref h9, .int h0f17, .int h0f18, .int h0f19, .ref h10, .ref h11, .ref h12, .ref h13, .int h0f24, .int h0f25, .ref h14, .ref h15, .ref h16, .ref h17, .int h0f30, .int h0f31, .ref h18, .ref h19, .ref h20, .ref h21])]) (Tr := [(h1, aI (k 0) 36 anI), (h4, aJ (k 1) 9 anJ), (h5, aJ (k 1) 9 anJ), (h6, aJ (k 1) 9 anJ), (h10, aJ (k 1) 900 (lsP (h0f9.toInt))), (h11, aI (k 0) 100 anI), (h12, aI (k 0) 100 anI), (h13, aI (k 0) 100 anI)]) (as := [h0]) (zcV (q0 := 8) (ci := 8) (As := [.int x2]) (rest := []) (Tc := [(h0, ob 8 [.int h0f0, .int h0f1, .int h0f2, .int h0f3, .int h0f4, .int h0f5, .ref h1, .ref h2, .int h0f8, .int h0f9, .ref h3, .ref h4, .ref h5, .ref h6, .ref h7, .ref h8, .ref h9, .int h0f17, .int h0f18, .int h0f19, .ref h10, .ref h11, .ref h12, .ref h13, .int h0f24, .int h0f25, .ref h14, .ref h15, .ref h16, .ref h17, .int h0f30, .int h0f31, .ref h18, .ref h19, .ref h20, .ref h21])]) hx hb hml hown hU hK hT rfl rfl [8] rfl (by decide) (cX11_isPlace_24f09 l D k _ h0 h1 h2 h3 h4 h5 h6 h7 h8 h9 h10 h11 h12 h13 h14 h15 h16 h17 h18 h19 h20 h21 x2 h0f0 h0f1 h0f2 h0f3 h0f4 h0f5 h0f8 h0f9 h0f17 h0f18 h0f19 h0f24 h0f25 h0f30 h0f31 (by omega) (by omega) (by omega) (by omega) (by omega) (by omega) (by omega) (by omega) (by omega) (by omega) (by omega) (by omega) (by omega) (by omega) (by omega)) w909 w906 w908 w26 w72 hdX11_isPlace ⟨rfl, rfl⟩ ⟨Nat.le_of_ble_eq_true rfl, Nat.le_of_ble_eq_true rfl⟩ rfl hl.1 (Nat.le_of_ble_eq_true rfl) dX11_form_10 ⟨Nat.le_of_ble_eq_true rfl, Nat.le_of_ble_eq_true rfl⟩) hT hS hA [8] [0, 1, 2, 3, 4, 5, 6, 7] rfl rfl rfl (by decide) (by decide) (fun r8 H locs hB J hS => ?_)
    rcases hB with ⟨rfl, hT1⟩ | ⟨c_9, c_10, c_11, c_12, rfl, hT1⟩
    · skip
      have hT := J _ hT1
      have hT : TP D A [(h1, aI (k 0) 36 anI), (h4, aJ (k 1) 9 anJ), (h5, aJ (k 1) 9 anJ), (h6, aJ (k 1) 9 anJ), (h10, aJ (k 1) 900 (lsP (h0f9.toInt))), (h11, aI (k 0) 100 anI), (h12, aI (k 0) 100 anI), (h13, aI (k 0) 100 anI), (h0, ob 8 [.int h0f0, .int h0f1, .int h0f2, .int h0f3, .int h0f4, .int h0f5, .ref h1, .ref h2, .int h0f8, .int h0f9, .ref h3, .ref h4, .ref h5, .ref h6, .ref h7, .ref h8, .ref h9, .int h0f17, .int h0f18, .int h0f19, .ref h10, .ref h11, .ref h12, .ref h13, .int h0f24, .int h0f25, .ref h14, .ref h15, .ref h16, .ref h17, .int h0f30, .int h0f31, .ref h18, .ref h19, .ref h20, .ref h21])] _ := hT
      refine lv_if_ne (tgt := 21) hx hb dX11_form_13 (by decide) (fun cc => absurd (by decide +kernel) cc) (fun _ => ?_)
      refine lv_iconst (v := (-1)) hx hb dX11_form_16 (by decide) ?_
      have q_q14 := li_m1
      refine tcL (Tc := []) (Tr := [(h1, aI (k 0) 36 anI), (h4, aJ (k 1) 9 anJ), (h5, aJ (k 1) 9 anJ), (h6, aJ (k 1) 9 anJ), (h10, aJ (k 1) 900 (lsP (h0f9.toInt))), (h11, aI (k 0) 100 anI), (h12, aI (k 0) 100 anI), (h13, aI (k 0) 100 anI), (h0, ob 8 [.int h0f0, .int h0f1, .int h0f2, .int h0f3, .int h0f4, .int h0f5, .ref h1, .ref h2, .int h0f8, .int h0f9, .ref h3, .ref h4, .ref h5, .ref h6, .ref h7, .ref h8, .ref h9, .int h0f17, .int h0f18, .int h0f19, .ref h10, .ref h11, .ref h12, .ref h13, .int h0f24, .int h0f25, .ref h14, .ref h15, .ref h16, .ref h17, .int h0f30, .int h0f31, .ref h18, .ref h19, .ref h20, .ref h21])]) (as := []) (zcS (As := [.int (-1)]) (rest := []) (Tc := []) hx hb hml hown hU hK hT [] rfl (by decide) (cX11_far_7dbca l D k _ ((-1)) (by have := li_m1; omega)) w1062 w1060 w1061 w72 hdX11_far ⟨rfl, rfl⟩ ⟨Nat.le_of_ble_eq_true rfl, Nat.le_of_ble_eq_true rfl⟩ rfl hl.1 (Nat.le_of_ble_eq_true rfl) dX11_form_17 ⟨Nat.le_of_ble_eq_true rfl, Nat.le_of_ble_eq_true rfl⟩) hT hS hA [] [0, 1, 2, 3, 4, 5, 6, 7, 8] rfl rfl rfl (by decide) (by decide) (fun r13 H locs hB J hS => ?_)
      obtain ⟨b_r13, hT1⟩ := hB
      have hT := J _ hT1
      have hT : TP D A [(h1, aI (k 0) 36 anI), (h4, aJ (k 1) 9 anJ), (h5, aJ (k 1) 9 anJ), (h6, aJ (k 1) 9 anJ), (h10, aJ (k 1) 900 (lsP (h0f9.toInt))), (h11, aI (k 0) 100 anI), (h12, aI (k 0) 100 anI), (h13, aI (k 0) 100 anI), (h0, ob 8 [.int h0f0, .int h0f1, .int h0f2, .int h0f3, .int h0f4, .int h0f5, .ref h1, .ref h2, .int h0f8, .int h0f9, .ref h3, .ref h4, .ref h5, .ref h6, .ref h7, .ref h8, .ref h9, .int h0f17, .int h0f18, .int h0f19, .ref h10, .ref h11, .ref h12, .ref h13, .int h0f24, .int h0f25, .ref h14, .ref h15, .ref h16, .ref h17, .int h0f30, .int h0f31, .ref h18, .ref h19, .ref h20, .ref h21])] _ := hT
      exact tz_retL (B := B_cX11_form_b559b D k h0 h1 h4 h5 h6 h10 h11 h12 h13 h2 h3 h7 h8 h9 h14 h15 h16 h17 h18 h19 h20 h21 x1 x2 h0f0 h0f1 h0f2 h0f3 h0f4 h0f5 h0f8 h0f9 h0f17 h0f18 h0f19 h0f24 h0f25 h0f30 h0f31) (v := r13) hQ hx hb hr hlocks hS (Nat.le_of_ble_eq_true rfl) (Nat.le_of_ble_eq_true rfl) dX11_form_20 (⟨h0f9, h0f24, h0f25, (by omega), (by omega), (by omega), (hT.sub [8, 0, 1, 2, 3, 4, 5, 6, 7] (by decide) rfl)⟩)
    · skip
      have hT := J _ hT1
      have hT : TP D A [(h1, aI (k 0) 36 anI), (h4, aJ (k 1) 9 anJ), (h5, aJ (k 1) 9 anJ), (h6, aJ (k 1) 9 anJ), (h10, aJ (k 1) 900 (lsP (h0f9.toInt))), (h11, aI (k 0) 100 anI), (h12, aI (k 0) 100 anI), (h13, aI (k 0) 100 anI), (h0, ob 8 [.int h0f0, .int h0f1, .int h0f2, .int h0f3, .int h0f4, .int h0f5, .ref h1, .ref h2, .int h0f8, .int h0f9, .ref h3, .ref h4, .ref h5, .ref h6, .ref h7, .ref h8, .ref h9, .int h0f17, .int h0f18, .int h0f19, .ref h10, .ref h11, .ref h12, .ref h13, .int h0f24, .int h0f25, .ref h14, .ref h15, .ref h16, .ref h17, .int h0f30, .int h0f31, .ref h18, .ref h19, .ref h20, .ref h21])] _ := hT
      refine lv_if_ne (tgt := 21) hx hb dX11_form_13 (by decide) (fun _ => ?_) (fun cc => absurd cc (by decide +kernel))
      refine lv_aload_n hx hb dX11_form_21 rfl (lv_at hl 0 rfl) ?_
      refine tcV (Tc := [(h0, ob 8 [.int h0f0, .int h0f1, .int h0f2, .int h0f3, .int h0f4, .int h0f5, .ref h1, .ref h2, .int h0f8, .int h0f9, .ref h3, .ref h4, .ref h5, .ref h6, .ref h7, .ref h8, .ref h9, .int h0f17, .int h0f18, .int h0f19, .ref h10, .ref h11, .ref h12, .ref h13, .int h0f24, .int h0f25, .ref h14, .ref h15, .ref h16, .ref h17, .int h0f30, .int h0f31, .ref h18, .ref h19, .ref h20, .ref h21]), (h1, aI (k 0) 36 anI), (h4, aJ (k 1) 9 anJ), (h5, aJ (k 1) 9 anJ), (h6, aJ (k 1) 9 anJ), (h10, aJ (k 1) 900 (lsP (h0f9.toInt))), (h11, aI (k 0) 100 anI), (h12, aI (k 0) 100 anI), (h13, aI (k 0) 100 anI)]) (Tr := []) (as := [h0, h1, h4, h5, h6, h10, h11, h12, h13]) (zcV (q0 := 8) (ci := 8) (As := []) (rest := []) (Tc := [(h0, ob 8 [.int h0f0, .int h0f1, .int h0f2, .int h0f3, .int h0f4, .int h0f5, .ref h1, .ref h2, .int h0f8, .int h0f9, .ref h3, .ref h4, .ref h5, .ref h6, .ref h7, .ref h8, .ref h9, .int h0f17, .int h0f18, .int h0f19, .ref h10, .ref h11, .ref h12, .ref h13, .int h0f24, .int h0f25, .ref h14, .ref h15, .ref h16, .ref h17, .int h0f30, .int h0f31, .ref h18, .ref h19, .ref h20, .ref h21]), (h1, aI (k 0) 36 anI), (h4, aJ (k 1) 9 anJ), (h5, aJ (k 1) 9 anJ), (h6, aJ (k 1) 9 anJ), (h10, aJ (k 1) 900 (lsP (h0f9.toInt))), (h11, aI (k 0) 100 anI), (h12, aI (k 0) 100 anI), (h13, aI (k 0) 100 anI)]) hx hb hml hown hU hK hT rfl rfl [8, 0, 1, 2, 3, 4, 5, 6, 7] rfl (by decide) (cX11_findList_9a1c7 l D k _ h0 h1 h4 h5 h6 h10 h11 h12 h13 h2 h3 h7 h8 h9 h14 h15 h16 h17 h18 h19 h20 h21 h0f0 h0f1 h0f2 h0f3 h0f4 h0f5 h0f8 h0f9 h0f17 h0f18 h0f19 h0f24 h0f25 h0f30 h0f31 (by omega) (by omega) (by omega) (by omega) (by omega) (by omega) (by omega) (by omega) (by omega) (by omega) (by omega) (by omega) (by omega) (by omega) (by omega)) w1039 w1036 w1038 w47 w72 hdX11_findList ⟨rfl, rfl⟩ ⟨Nat.le_of_ble_eq_true rfl, Nat.le_of_ble_eq_true rfl⟩ rfl hl.1 (Nat.le_of_ble_eq_true rfl) dX11_form_22 ⟨Nat.le_of_ble_eq_true rfl, Nat.le_of_ble_eq_true rfl⟩) hT hS hA [8, 0, 1, 2, 3, 4, 5, 6, 7] [] rfl rfl rfl (by decide) (by decide) (fun H locs hB J hS => ?_)
      obtain ⟨v16, v17, v18, b_v16, b_v17, b_v18, hT1⟩ := hB
      have hT := J _ hT1
      have hT : TP D A [(h0, ob 8 [.int h0f0, .int h0f1, .int h0f2, .int h0f3, .int h0f4, .int h0f5, .ref h1, .ref h2, .int h0f8, .int v16, .ref h3, .ref h4, .ref h5, .ref h6, .ref h7, .ref h8, .ref h9, .int h0f17, .int h0f18, .int h0f19, .ref h10, .ref h11, .ref h12, .ref h13, .int v17, .int v18, .ref h14, .ref h15, .ref h16, .ref h17, .int h0f30, .int h0f31, .ref h18, .ref h19, .ref h20, .ref h21]), (h1, aI (k 0) 36 anI), (h4, aJ (k 1) 9 anJ), (h5, aJ (k 1) 9 anJ), (h6, aJ (k 1) 9 anJ), (h10, aJ (k 1) 900 (lsP (v16.toInt))), (h11, aI (k 0) 100 anI), (h12, aI (k 0) 100 anI), (h13, aI (k 0) 100 anI)] _ := hT
      refine lv_aload_n hx hb dX11_form_25 rfl (lv_at hl 0 rfl) ?_
      refine tz_get (ci := 8) (v := .int v18) (C := RX11) (F := TX11) (N := 36) hx hb hU iX11 hown hK hT 0 rfl rfl 25 (by decide) w810 (fun _ h9 => h9) rfl dX11_form_26 ?_
      refine lv_if_ne (tgt := 38) hx hb dX11_form_29 (by decide) (fun c_19 => ?_) (fun c_19 => ?_)
      · skip
        have c_19 := ni_ne c_19 rfl li_0
        refine lv_aload_n hx hb dX11_form_38 rfl (lv_at hl 0 rfl) ?_
        refine tcI (Tc := [(h0, ob 8 [.int h0f0, .int h0f1, .int h0f2, .int h0f3, .int h0f4, .int h0f5, .ref h1, .ref h2, .int h0f8, .int v16, .ref h3, .ref h4, .ref h5, .ref h6, .ref h7, .ref h8, .ref h9, .int h0f17, .int h0f18, .int h0f19, .ref h10, .ref h11, .ref h12, .ref h13, .int v17, .int v18, .ref h14, .ref h15, .ref h16, .ref h17, .int h0f30, .int h0f31, .ref h18, .ref h19, .ref h20, .ref h21]), (h4, aJ (k 1) 9 anJ), (h5, aJ (k 1) 9 anJ), (h10, aJ (k 1) 900 (lsP (v16.toInt)))]) (Tr := [(h1, aI (k 0) 36 anI), (h6, aJ (k 1) 9 anJ), (h11, aI (k 0) 100 anI), (h12, aI (k 0) 100 anI), (h13, aI (k 0) 100 anI)]) (as := [h0, h4, h5, h10]) (zcV (q0 := 0) (ci := 8) (As := []) (rest := []) (Tc := [(h0, ob 8 [.int h0f0, .int h0f1, .int h0f2, .int h0f3, .int h0f4, .int h0f5, .ref h1, .ref h2, .int h0f8, .int v16, .ref h3, .ref h4, .ref h5, .ref h6, .ref h7, .ref h8, .ref h9, .int h0f17, .int h0f18, .int h0f19, .ref h10, .ref h11, .ref h12, .ref h13, .int v17, .int v18, .ref h14, .ref h15, .ref h16, .ref h17, .int h0f30, .int h0f31, .ref h18, .ref h19, .ref h20, .ref h21]), (h4, aJ (k 1) 9 anJ), (h5, aJ (k 1) 9 anJ), (h10, aJ (k 1) 900 (lsP (v16.toInt)))]) hx hb hml hown hU hK hT rfl rfl [0, 2, 3, 5] rfl (by decide) (cX11_findForm_b515d l D k _ h0 h4 h5 h10 h1 h2 h3 h6 h7 h8 h9 h11 h12 h13 h14 h15 h16 h17 h18 h19 h20 h21 h0f0 h0f1 h0f2 h0f3 h0f4 h0f5 h0f8 v16 h0f17 h0f18 h0f19 v17 v18 h0f30 h0f31 (by omega) (by omega) (by omega) (by omega) (by omega) (by omega) (by omega) (by omega) (by omega) (by omega) (by omega) (by omega) (by omega) (by omega) (by omega)) w1091 w1088 w1090 w52 w72 hdX11_findForm ⟨rfl, rfl⟩ ⟨Nat.le_of_ble_eq_true rfl, Nat.le_of_ble_eq_true rfl⟩ rfl hl.1 (Nat.le_of_ble_eq_true rfl) dX11_form_39 ⟨Nat.le_of_ble_eq_true rfl, Nat.le_of_ble_eq_true rfl⟩) hT hS hA [0, 2, 3, 5] [1, 4, 6, 7, 8] rfl rfl rfl (by decide) (by decide) (fun r20 H locs hB J hS => ?_)
        rcases hB with ⟨v21, v22, b_v21, b_v22, c_23, c_24, c_25, c_26, rfl, hT1⟩ | ⟨v27, v28, b_v27, b_v28, c_29, c_30, c_31, c_32, rfl, hT1⟩
        · skip
          have hT := J _ hT1
          have hT : TP D A [(h1, aI (k 0) 36 anI), (h6, aJ (k 1) 9 anJ), (h11, aI (k 0) 100 anI), (h12, aI (k 0) 100 anI), (h13, aI (k 0) 100 anI), (h0, ob 8 [.int h0f0, .int h0f1, .int h0f2, .int h0f3, .int h0f4, .int h0f5, .ref h1, .ref h2, .int h0f8, .int v16, .ref h3, .ref h4, .ref h5, .ref h6, .ref h7, .ref h8, .ref h9, .int h0f17, .int h0f18, .int h0f19, .ref h10, .ref h11, .ref h12, .ref h13, .int v17, .int v18, .ref h14, .ref h15, .ref h16, .ref h17, .int h0f30, .int h0f31, .ref h18, .ref h19, .ref h20, .ref h21]), (h4, aJ (k 1) 9 anJ), (h5, aJ (k 1) 9 anJ), (h10, aJ (k 1) 900 (lsP (v16.toInt)))] _ := hT
          refine lv_if_ne (tgt := 51) hx hb dX11_form_42 (by decide) (fun c_33 => ?_) (fun c_33 => ?_)
          · skip
            have c_33 := ni_ne c_33 rfl li_0
            exfalso; omega
          · skip
            have c_33 := ni_eq c_33 rfl li_0
            refine lv_bipush (v := (-16)) hx hb dX11_form_45 (by decide) ?_
            have q_q35 := li_m16
            refine tcL (Tc := []) (Tr := [(h1, aI (k 0) 36 anI), (h6, aJ (k 1) 9 anJ), (h11, aI (k 0) 100 anI), (h12, aI (k 0) 100 anI), (h13, aI (k 0) 100 anI), (h0, ob 8 [.int h0f0, .int h0f1, .int h0f2, .int h0f3, .int h0f4, .int h0f5, .ref h1, .ref h2, .int h0f8, .int v16, .ref h3, .ref h4, .ref h5, .ref h6, .ref h7, .ref h8, .ref h9, .int h0f17, .int h0f18, .int h0f19, .ref h10, .ref h11, .ref h12, .ref h13, .int v17, .int v18, .ref h14, .ref h15, .ref h16, .ref h17, .int h0f30, .int h0f31, .ref h18, .ref h19, .ref h20, .ref h21]), (h4, aJ (k 1) 9 anJ), (h5, aJ (k 1) 9 anJ), (h10, aJ (k 1) 900 (lsP (v16.toInt)))]) (as := []) (zcS (As := [.int (-16)]) (rest := []) (Tc := []) hx hb hml hown hU hK hT [] rfl (by decide) (cX11_far_7dbca l D k _ ((-16)) (by have := li_m16; omega)) w1062 w1060 w1061 w72 hdX11_far ⟨rfl, rfl⟩ ⟨Nat.le_of_ble_eq_true rfl, Nat.le_of_ble_eq_true rfl⟩ rfl hl.1 (Nat.le_of_ble_eq_true rfl) dX11_form_47 ⟨Nat.le_of_ble_eq_true rfl, Nat.le_of_ble_eq_true rfl⟩) hT hS hA [] [0, 1, 2, 3, 4, 5, 6, 7, 8] rfl rfl rfl (by decide) (by decide) (fun r34 H locs hB J hS => ?_)
            obtain ⟨b_r34, hT1⟩ := hB
            have hT := J _ hT1
            have hT : TP D A [(h1, aI (k 0) 36 anI), (h6, aJ (k 1) 9 anJ), (h11, aI (k 0) 100 anI), (h12, aI (k 0) 100 anI), (h13, aI (k 0) 100 anI), (h0, ob 8 [.int h0f0, .int h0f1, .int h0f2, .int h0f3, .int h0f4, .int h0f5, .ref h1, .ref h2, .int h0f8, .int v16, .ref h3, .ref h4, .ref h5, .ref h6, .ref h7, .ref h8, .ref h9, .int h0f17, .int h0f18, .int h0f19, .ref h10, .ref h11, .ref h12, .ref h13, .int v17, .int v18, .ref h14, .ref h15, .ref h16, .ref h17, .int h0f30, .int h0f31, .ref h18, .ref h19, .ref h20, .ref h21]), (h4, aJ (k 1) 9 anJ), (h5, aJ (k 1) 9 anJ), (h10, aJ (k 1) 900 (lsP (v16.toInt)))] _ := hT
            exact tz_retL (B := B_cX11_form_b559b D k h0 h1 h4 h5 h6 h10 h11 h12 h13 h2 h3 h7 h8 h9 h14 h15 h16 h17 h18 h19 h20 h21 x1 x2 h0f0 h0f1 h0f2 h0f3 h0f4 h0f5 h0f8 h0f9 h0f17 h0f18 h0f19 h0f24 h0f25 h0f30 h0f31) (v := r34) hQ hx hb hr hlocks hS (Nat.le_of_ble_eq_true rfl) (Nat.le_of_ble_eq_true rfl) dX11_form_50 (⟨v16, v17, v18, (by omega), (by omega), (by omega), (hT.sub [5, 0, 6, 7, 1, 8, 2, 3, 4] (by decide) rfl)⟩)
        · skip
          have hT := J _ hT1
          have hT : TP D A [(h1, aI (k 0) 36 anI), (h6, aJ (k 1) 9 anJ), (h11, aI (k 0) 100 anI), (h12, aI (k 0) 100 anI), (h13, aI (k 0) 100 anI), (h0, ob 8 [.int h0f0, .int h0f1, .int h0f2, .int h0f3, .int h0f4, .int h0f5, .ref h1, .ref h2, .int h0f8, .int v16, .ref h3, .ref h4, .ref h5, .ref h6, .ref h7, .ref h8, .ref h9, .int h0f17, .int h0f18, .int h0f19, .ref h10, .ref h11, .ref h12, .ref h13, .int v17, .int v18, .ref h14, .ref h15, .ref h16, .ref h17, .int h0f30, .int h0f31, .ref h18, .ref h19, .ref h20, .ref h21]), (h4, aJ (k 1) 9 (f1P )), (h5, aJ (k 1) 9 anJ), (h10, aJ (k 1) 900 (lsP (v16.toInt)))] _ := hT
          refine lv_if_ne (tgt := 51) hx hb dX11_form_42 (by decide) (fun c_36 => ?_) (fun c_36 => ?_)
          · skip
            have c_36 := ni_ne c_36 rfl li_0
            refine lv_lconst (v := 0) hx hb dX11_form_51 (by decide) ?_
            refine lv_lstore_n (lv' := [(3, .long 0), (0, .ref h0), (1, .int x1), (2, .int x2)]) hx hb dX11_form_52 rfl hl (by decide) rfl (fun ls hl => ?_)
            refine lv_iconst (v := 0) hx hb dX11_form_53 (by decide) ?_
            refine lv_istore (lv' := [(5, .int 0), (3, .long 0), (0, .ref h0), (1, .int x1), (2, .int x2)]) hx hb dX11_form_54 hl (by decide) rfl (fun ls hl => ?_)
            refine lv_iload hx hb dX11_form_56 (lv_at hl 0 rfl) ?_
            refine lv_bipush (v := 9) hx hb dX11_form_58 (by decide) ?_
            refine lv_icmp_ge (tgt := 81) hx hb dX11_form_60 (by decide) (fun cc => absurd cc (by decide +kernel)) (fun _ => ?_)
            refine lv_lload_n hx hb dX11_form_63 rfl (lv_at hl 1 rfl) ?_
            refine lv_aload_n hx hb dX11_form_64 rfl (lv_at hl 2 rfl) ?_
            refine tz_get (ci := 8) (v := .ref h4) (C := RX11) (F := TX11) (N := 36) hx hb hU iX11 hown hK hT 5 rfl rfl 11 (by decide) w796 (fun _ h9 => h9) rfl dX11_form_65 ?_
            refine lv_iload hx hb dX11_form_68 (lv_at hl 0 rfl) ?_
            refine tz_lald hx hb hK hT 6 rfl (by have := li_0; omega) dX11_form_70 (fun v37 e_v37 => ?_)
            have e_v37 := f1_get e_v37 li_0
            have q_q39 := ll_0
            refine tcL (Tc := []) (Tr := [(h1, aI (k 0) 36 anI), (h6, aJ (k 1) 9 anJ), (h11, aI (k 0) 100 anI), (h12, aI (k 0) 100 anI), (h13, aI (k 0) 100 anI), (h0, ob 8 [.int h0f0, .int h0f1, .int h0f2, .int h0f3, .int h0f4, .int h0f5, .ref h1, .ref h2, .int h0f8, .int v16, .ref h3, .ref h4, .ref h5, .ref h6, .ref h7, .ref h8, .ref h9, .int h0f17, .int h0f18, .int h0f19, .ref h10, .ref h11, .ref h12, .ref h13, .int v17, .int v18, .ref h14, .ref h15, .ref h16, .ref h17, .int h0f30, .int h0f31, .ref h18, .ref h19, .ref h20, .ref h21]), (h4, aJ (k 1) 9 (f1P )), (h5, aJ (k 1) 9 anJ), (h10, aJ (k 1) 900 (lsP (v16.toInt)))]) (as := []) (zcS (As := [.long 0, .long v37]) (rest := []) (Tc := []) hx hb hml hown hU hK hT [] rfl (by decide) (cX11_common_49cb4 l D k _ (0) v37 (by have := ll_0; omega)) w1094 w1092 w1093 w72 hdX11_common ⟨rfl, rfl⟩ ⟨Nat.le_of_ble_eq_true rfl, Nat.le_of_ble_eq_true rfl⟩ rfl hl.1 (Nat.le_of_ble_eq_true rfl) dX11_form_71 ⟨Nat.le_of_ble_eq_true rfl, Nat.le_of_ble_eq_true rfl⟩) hT hS hA [] [0, 1, 2, 3, 4, 5, 6, 7, 8] rfl rfl rfl (by decide) (by decide) (fun r38 H locs hB J hS => ?_)
            obtain ⟨k_x40, hT1⟩ := hB
            have hT := J _ hT1
            have hT : TP D A [(h1, aI (k 0) 36 anI), (h6, aJ (k 1) 9 anJ), (h11, aI (k 0) 100 anI), (h12, aI (k 0) 100 anI), (h13, aI (k 0) 100 anI), (h0, ob 8 [.int h0f0, .int h0f1, .int h0f2, .int h0f3, .int h0f4, .int h0f5, .ref h1, .ref h2, .int h0f8, .int v16, .ref h3, .ref h4, .ref h5, .ref h6, .ref h7, .ref h8, .ref h9, .int h0f17, .int h0f18, .int h0f19, .ref h10, .ref h11, .ref h12, .ref h13, .int v17, .int v18, .ref h14, .ref h15, .ref h16, .ref h17, .int h0f30, .int h0f31, .ref h18, .ref h19, .ref h20, .ref h21]), (h4, aJ (k 1) 9 (f1P )), (h5, aJ (k 1) 9 anJ), (h10, aJ (k 1) 900 (lsP (v16.toInt)))] _ := hT
            refine lv_lstore_n (lv' := [(3, .long r38), (5, .int 0), (0, .ref h0), (1, .int x1), (2, .int x2)]) hx hb dX11_form_74 rfl hl (by decide) rfl (fun ls hl => ?_)
            refine lv_iinc (v := 1) (lv' := [(5, .int 1), (3, .long r38), (0, .ref h0), (1, .int x1), (2, .int x2)]) hx hb dX11_form_75 hl (k := 1) rfl (by decide) (by decide) rfl (fun ls hl => ?_)
            refine lv_goto (tgt := 56) hx hb dX11_form_78 (by decide) ?_
            refine lv_iload hx hb dX11_form_56 (lv_at hl 0 rfl) ?_
            refine lv_bipush (v := 9) hx hb dX11_form_58 (by decide) ?_
            refine lv_icmp_ge (tgt := 81) hx hb dX11_form_60 (by decide) (fun cc => absurd cc (by decide +kernel)) (fun _ => ?_)
            refine lv_lload_n hx hb dX11_form_63 rfl (lv_at hl 1 rfl) ?_
            refine lv_aload_n hx hb dX11_form_64 rfl (lv_at hl 2 rfl) ?_
            refine tz_get (ci := 8) (v := .ref h4) (C := RX11) (F := TX11) (N := 36) hx hb hU iX11 hown hK hT 5 rfl rfl 11 (by decide) w796 (fun _ h9 => h9) rfl dX11_form_65 ?_
            refine lv_iload hx hb dX11_form_68 (lv_at hl 0 rfl) ?_
            refine tz_lald hx hb hK hT 6 rfl (by have := li_1; omega) dX11_form_70 (fun v41 e_v41 => ?_)
            clear e_v41
            refine tcL (Tc := []) (Tr := [(h1, aI (k 0) 36 anI), (h6, aJ (k 1) 9 anJ), (h11, aI (k 0) 100 anI), (h12, aI (k 0) 100 anI), (h13, aI (k 0) 100 anI), (h0, ob 8 [.int h0f0, .int h0f1, .int h0f2, .int h0f3, .int h0f4, .int h0f5, .ref h1, .ref h2, .int h0f8, .int v16, .ref h3, .ref h4, .ref h5, .ref h6, .ref h7, .ref h8, .ref h9, .int h0f17, .int h0f18, .int h0f19, .ref h10, .ref h11, .ref h12, .ref h13, .int v17, .int v18, .ref h14, .ref h15, .ref h16, .ref h17, .int h0f30, .int h0f31, .ref h18, .ref h19, .ref h20, .ref h21]), (h4, aJ (k 1) 9 (f1P )), (h5, aJ (k 1) 9 anJ), (h10, aJ (k 1) 900 (lsP (v16.toInt)))]) (as := []) (zcS (As := [.long r38, .long v41]) (rest := []) (Tc := []) hx hb hml hown hU hK hT [] rfl (by decide) (cX11_common_49cb4 l D k _ r38 v41 (by omega)) w1094 w1092 w1093 w72 hdX11_common ⟨rfl, rfl⟩ ⟨Nat.le_of_ble_eq_true rfl, Nat.le_of_ble_eq_true rfl⟩ rfl hl.1 (Nat.le_of_ble_eq_true rfl) dX11_form_71 ⟨Nat.le_of_ble_eq_true rfl, Nat.le_of_ble_eq_true rfl⟩) hT hS hA [] [0, 1, 2, 3, 4, 5, 6, 7, 8] rfl rfl rfl (by decide) (by decide) (fun r42 H locs hB J hS => ?_)
            obtain ⟨k_x43, hT1⟩ := hB
            have hT := J _ hT1
            have hT : TP D A [(h1, aI (k 0) 36 anI), (h6, aJ (k 1) 9 anJ), (h11, aI (k 0) 100 anI), (h12, aI (k 0) 100 anI), (h13, aI (k 0) 100 anI), (h0, ob 8 [.int h0f0, .int h0f1, .int h0f2, .int h0f3, .int h0f4, .int h0f5, .ref h1, .ref h2, .int h0f8, .int v16, .ref h3, .ref h4, .ref h5, .ref h6, .ref h7, .ref h8, .ref h9, .int h0f17, .int h0f18, .int h0f19, .ref h10, .ref h11, .ref h12, .ref h13, .int v17, .int v18, .ref h14, .ref h15, .ref h16, .ref h17, .int h0f30, .int h0f31, .ref h18, .ref h19, .ref h20, .ref h21]), (h4, aJ (k 1) 9 (f1P )), (h5, aJ (k 1) 9 anJ), (h10, aJ (k 1) 900 (lsP (v16.toInt)))] _ := hT
            refine lv_lstore_n (lv' := [(3, .long r42), (5, .int 1), (0, .ref h0), (1, .int x1), (2, .int x2)]) hx hb dX11_form_74 rfl hl (by decide) rfl (fun ls hl => ?_)
            refine lv_iinc (v := 2) (lv' := [(5, .int 2), (3, .long r42), (0, .ref h0), (1, .int x1), (2, .int x2)]) hx hb dX11_form_75 hl (k := 1) rfl (by decide) (by decide) rfl (fun ls hl => ?_)
            refine lv_goto (tgt := 56) hx hb dX11_form_78 (by decide) ?_
            refine lv_iload hx hb dX11_form_56 (lv_at hl 0 rfl) ?_
            refine lv_bipush (v := 9) hx hb dX11_form_58 (by decide) ?_
            refine lv_icmp_ge (tgt := 81) hx hb dX11_form_60 (by decide) (fun cc => absurd cc (by decide +kernel)) (fun _ => ?_)
            refine lv_lload_n hx hb dX11_form_63 rfl (lv_at hl 1 rfl) ?_
            refine lv_aload_n hx hb dX11_form_64 rfl (lv_at hl 2 rfl) ?_
            refine tz_get (ci := 8) (v := .ref h4) (C := RX11) (F := TX11) (N := 36) hx hb hU iX11 hown hK hT 5 rfl rfl 11 (by decide) w796 (fun _ h9 => h9) rfl dX11_form_65 ?_
            refine lv_iload hx hb dX11_form_68 (lv_at hl 0 rfl) ?_
            refine tz_lald hx hb hK hT 6 rfl (by have := li_2; omega) dX11_form_70 (fun v44 e_v44 => ?_)
            clear e_v44
            refine tcL (Tc := []) (Tr := [(h1, aI (k 0) 36 anI), (h6, aJ (k 1) 9 anJ), (h11, aI (k 0) 100 anI), (h12, aI (k 0) 100 anI), (h13, aI (k 0) 100 anI), (h0, ob 8 [.int h0f0, .int h0f1, .int h0f2, .int h0f3, .int h0f4, .int h0f5, .ref h1, .ref h2, .int h0f8, .int v16, .ref h3, .ref h4, .ref h5, .ref h6, .ref h7, .ref h8, .ref h9, .int h0f17, .int h0f18, .int h0f19, .ref h10, .ref h11, .ref h12, .ref h13, .int v17, .int v18, .ref h14, .ref h15, .ref h16, .ref h17, .int h0f30, .int h0f31, .ref h18, .ref h19, .ref h20, .ref h21]), (h4, aJ (k 1) 9 (f1P )), (h5, aJ (k 1) 9 anJ), (h10, aJ (k 1) 900 (lsP (v16.toInt)))]) (as := []) (zcS (As := [.long r42, .long v44]) (rest := []) (Tc := []) hx hb hml hown hU hK hT [] rfl (by decide) (cX11_common_49cb4 l D k _ r42 v44 (by omega)) w1094 w1092 w1093 w72 hdX11_common ⟨rfl, rfl⟩ ⟨Nat.le_of_ble_eq_true rfl, Nat.le_of_ble_eq_true rfl⟩ rfl hl.1 (Nat.le_of_ble_eq_true rfl) dX11_form_71 ⟨Nat.le_of_ble_eq_true rfl, Nat.le_of_ble_eq_true rfl⟩) hT hS hA [] [0, 1, 2, 3, 4, 5, 6, 7, 8] rfl rfl rfl (by decide) (by decide) (fun r45 H locs hB J hS => ?_)
            obtain ⟨k_x46, hT1⟩ := hB
            have hT := J _ hT1
            have hT : TP D A [(h1, aI (k 0) 36 anI), (h6, aJ (k 1) 9 anJ), (h11, aI (k 0) 100 anI), (h12, aI (k 0) 100 anI), (h13, aI (k 0) 100 anI), (h0, ob 8 [.int h0f0, .int h0f1, .int h0f2, .int h0f3, .int h0f4, .int h0f5, .ref h1, .ref h2, .int h0f8, .int v16, .ref h3, .ref h4, .ref h5, .ref h6, .ref h7, .ref h8, .ref h9, .int h0f17, .int h0f18, .int h0f19, .ref h10, .ref h11, .ref h12, .ref h13, .int v17, .int v18, .ref h14, .ref h15, .ref h16, .ref h17, .int h0f30, .int h0f31, .ref h18, .ref h19, .ref h20, .ref h21]), (h4, aJ (k 1) 9 (f1P )), (h5, aJ (k 1) 9 anJ), (h10, aJ (k 1) 900 (lsP (v16.toInt)))] _ := hT
            refine lv_lstore_n (lv' := [(3, .long r45), (5, .int 2), (0, .ref h0), (1, .int x1), (2, .int x2)]) hx hb dX11_form_74 rfl hl (by decide) rfl (fun ls hl => ?_)
            refine lv_iinc (v := 3) (lv' := [(5, .int 3), (3, .long r45), (0, .ref h0), (1, .int x1), (2, .int x2)]) hx hb dX11_form_75 hl (k := 1) rfl (by decide) (by decide) rfl (fun ls hl => ?_)
            refine lv_goto (tgt := 56) hx hb dX11_form_78 (by decide) ?_
            refine lv_iload hx hb dX11_form_56 (lv_at hl 0 rfl) ?_
            refine lv_bipush (v := 9) hx hb dX11_form_58 (by decide) ?_
            refine lv_icmp_ge (tgt := 81) hx hb dX11_form_60 (by decide) (fun cc => absurd cc (by decide +kernel)) (fun _ => ?_)
            refine lv_lload_n hx hb dX11_form_63 rfl (lv_at hl 1 rfl) ?_
            refine lv_aload_n hx hb dX11_form_64 rfl (lv_at hl 2 rfl) ?_
            refine tz_get (ci := 8) (v := .ref h4) (C := RX11) (F := TX11) (N := 36) hx hb hU iX11 hown hK hT 5 rfl rfl 11 (by decide) w796 (fun _ h9 => h9) rfl dX11_form_65 ?_
            refine lv_iload hx hb dX11_form_68 (lv_at hl 0 rfl) ?_
            refine tz_lald hx hb hK hT 6 rfl (by have := li_3; omega) dX11_form_70 (fun v47 e_v47 => ?_)
            clear e_v47
            refine tcL (Tc := []) (Tr := [(h1, aI (k 0) 36 anI), (h6, aJ (k 1) 9 anJ), (h11, aI (k 0) 100 anI), (h12, aI (k 0) 100 anI), (h13, aI (k 0) 100 anI), (h0, ob 8 [.int h0f0, .int h0f1, .int h0f2, .int h0f3, .int h0f4, .int h0f5, .ref h1, .ref h2, .int h0f8, .int v16, .ref h3, .ref h4, .ref h5, .ref h6, .ref h7, .ref h8, .ref h9, .int h0f17, .int h0f18, .int h0f19, .ref h10, .ref h11, .ref h12, .ref h13, .int v17, .int v18, .ref h14, .ref h15, .ref h16, .ref h17, .int h0f30, .int h0f31, .ref h18, .ref h19, .ref h20, .ref h21]), (h4, aJ (k 1) 9 (f1P )), (h5, aJ (k 1) 9 anJ), (h10, aJ (k 1) 900 (lsP (v16.toInt)))]) (as := []) (zcS (As := [.long r45, .long v47]) (rest := []) (Tc := []) hx hb hml hown hU hK hT [] rfl (by decide) (cX11_common_49cb4 l D k _ r45 v47 (by omega)) w1094 w1092 w1093 w72 hdX11_common ⟨rfl, rfl⟩ ⟨Nat.le_of_ble_eq_true rfl, Nat.le_of_ble_eq_true rfl⟩ rfl hl.1 (Nat.le_of_ble_eq_true rfl) dX11_form_71 ⟨Nat.le_of_ble_eq_true rfl, Nat.le_of_ble_eq_true rfl⟩) hT hS hA [] [0, 1, 2, 3, 4, 5, 6, 7, 8] rfl rfl rfl (by decide) (by decide) (fun r48 H locs hB J hS => ?_)
            obtain ⟨k_x49, hT1⟩ := hB
            have hT := J _ hT1
            have hT : TP D A [(h1, aI (k 0) 36 anI), (h6, aJ (k 1) 9 anJ), (h11, aI (k 0) 100 anI), (h12, aI (k 0) 100 anI), (h13, aI (k 0) 100 anI), (h0, ob 8 [.int h0f0, .int h0f1, .int h0f2, .int h0f3, .int h0f4, .int h0f5, .ref h1, .ref h2, .int h0f8, .int v16, .ref h3, .ref h4, .ref h5, .ref h6, .ref h7, .ref h8, .ref h9, .int h0f17, .int h0f18, .int h0f19, .ref h10, .ref h11, .ref h12, .ref h13, .int v17, .int v18, .ref h14, .ref h15, .ref h16, .ref h17, .int h0f30, .int h0f31, .ref h18, .ref h19, .ref h20, .ref h21]), (h4, aJ (k 1) 9 (f1P )), (h5, aJ (k 1) 9 anJ), (h10, aJ (k 1) 900 (lsP (v16.toInt)))] _ := hT
            refine lv_lstore_n (lv' := [(3, .long r48), (5, .int 3), (0, .ref h0), (1, .int x1), (2, .int x2)]) hx hb dX11_form_74 rfl hl (by decide) rfl (fun ls hl => ?_)
            refine lv_iinc (v := 4) (lv' := [(5, .int 4), (3, .long r48), (0, .ref h0), (1, .int x1), (2, .int x2)]) hx hb dX11_form_75 hl (k := 1) rfl (by decide) (by decide) rfl (fun ls hl => ?_)
            refine lv_goto (tgt := 56) hx hb dX11_form_78 (by decide) ?_
            refine lv_iload hx hb dX11_form_56 (lv_at hl 0 rfl) ?_
            refine lv_bipush (v := 9) hx hb dX11_form_58 (by decide) ?_
            refine lv_icmp_ge (tgt := 81) hx hb dX11_form_60 (by decide) (fun cc => absurd cc (by decide +kernel)) (fun _ => ?_)
            refine lv_lload_n hx hb dX11_form_63 rfl (lv_at hl 1 rfl) ?_
            refine lv_aload_n hx hb dX11_form_64 rfl (lv_at hl 2 rfl) ?_
            refine tz_get (ci := 8) (v := .ref h4) (C := RX11) (F := TX11) (N := 36) hx hb hU iX11 hown hK hT 5 rfl rfl 11 (by decide) w796 (fun _ h9 => h9) rfl dX11_form_65 ?_
            refine lv_iload hx hb dX11_form_68 (lv_at hl 0 rfl) ?_
            refine tz_lald hx hb hK hT 6 rfl (by have := li_4; omega) dX11_form_70 (fun v50 e_v50 => ?_)
            clear e_v50
            refine tcL (Tc := []) (Tr := [(h1, aI (k 0) 36 anI), (h6, aJ (k 1) 9 anJ), (h11, aI (k 0) 100 anI), (h12, aI (k 0) 100 anI), (h13, aI (k 0) 100 anI), (h0, ob 8 [.int h0f0, .int h0f1, .int h0f2, .int h0f3, .int h0f4, .int h0f5, .ref h1, .ref h2, .int h0f8, .int v16, .ref h3, .ref h4, .ref h5, .ref h6, .ref h7, .ref h8, .ref h9, .int h0f17, .int h0f18, .int h0f19, .ref h10, .ref h11, .ref h12, .ref h13, .int v17, .int v18, .ref h14, .ref h15, .ref h16, .ref h17, .int h0f30, .int h0f31, .ref h18, .ref h19, .ref h20, .ref h21]), (h4, aJ (k 1) 9 (f1P )), (h5, aJ (k 1) 9 anJ), (h10, aJ (k 1) 900 (lsP (v16.toInt)))]) (as := []) (zcS (As := [.long r48, .long v50]) (rest := []) (Tc := []) hx hb hml hown hU hK hT [] rfl (by decide) (cX11_common_49cb4 l D k _ r48 v50 (by omega)) w1094 w1092 w1093 w72 hdX11_common ⟨rfl, rfl⟩ ⟨Nat.le_of_ble_eq_true rfl, Nat.le_of_ble_eq_true rfl⟩ rfl hl.1 (Nat.le_of_ble_eq_true rfl) dX11_form_71 ⟨Nat.le_of_ble_eq_true rfl, Nat.le_of_ble_eq_true rfl⟩) hT hS hA [] [0, 1, 2, 3, 4, 5, 6, 7, 8] rfl rfl rfl (by decide) (by decide) (fun r51 H locs hB J hS => ?_)
            obtain ⟨k_x52, hT1⟩ := hB
            have hT := J _ hT1
            have hT : TP D A [(h1, aI (k 0) 36 anI), (h6, aJ (k 1) 9 anJ), (h11, aI (k 0) 100 anI), (h12, aI (k 0) 100 anI), (h13, aI (k 0) 100 anI), (h0, ob 8 [.int h0f0, .int h0f1, .int h0f2, .int h0f3, .int h0f4, .int h0f5, .ref h1, .ref h2, .int h0f8, .int v16, .ref h3, .ref h4, .ref h5, .ref h6, .ref h7, .ref h8, .ref h9, .int h0f17, .int h0f18, .int h0f19, .ref h10, .ref h11, .ref h12, .ref h13, .int v17, .int v18, .ref h14, .ref h15, .ref h16, .ref h17, .int h0f30, .int h0f31, .ref h18, .ref h19, .ref h20, .ref h21]), (h4, aJ (k 1) 9 (f1P )), (h5, aJ (k 1) 9 anJ), (h10, aJ (k 1) 900 (lsP (v16.toInt)))] _ := hT
            refine lv_lstore_n (lv' := [(3, .long r51), (5, .int 4), (0, .ref h0), (1, .int x1), (2, .int x2)]) hx hb dX11_form_74 rfl hl (by decide) rfl (fun ls hl => ?_)
            refine lv_iinc (v := 5) (lv' := [(5, .int 5), (3, .long r51), (0, .ref h0), (1, .int x1), (2, .int x2)]) hx hb dX11_form_75 hl (k := 1) rfl (by decide) (by decide) rfl (fun ls hl => ?_)
            refine lv_goto (tgt := 56) hx hb dX11_form_78 (by decide) ?_
            refine lv_iload hx hb dX11_form_56 (lv_at hl 0 rfl) ?_
            refine lv_bipush (v := 9) hx hb dX11_form_58 (by decide) ?_
            refine lv_icmp_ge (tgt := 81) hx hb dX11_form_60 (by decide) (fun cc => absurd cc (by decide +kernel)) (fun _ => ?_)
            refine lv_lload_n hx hb dX11_form_63 rfl (lv_at hl 1 rfl) ?_
            refine lv_aload_n hx hb dX11_form_64 rfl (lv_at hl 2 rfl) ?_
            refine tz_get (ci := 8) (v := .ref h4) (C := RX11) (F := TX11) (N := 36) hx hb hU iX11 hown hK hT 5 rfl rfl 11 (by decide) w796 (fun _ h9 => h9) rfl dX11_form_65 ?_
            refine lv_iload hx hb dX11_form_68 (lv_at hl 0 rfl) ?_
            refine tz_lald hx hb hK hT 6 rfl (by have := li_5; omega) dX11_form_70 (fun v53 e_v53 => ?_)
            clear e_v53
            refine tcL (Tc := []) (Tr := [(h1, aI (k 0) 36 anI), (h6, aJ (k 1) 9 anJ), (h11, aI (k 0) 100 anI), (h12, aI (k 0) 100 anI), (h13, aI (k 0) 100 anI), (h0, ob 8 [.int h0f0, .int h0f1, .int h0f2, .int h0f3, .int h0f4, .int h0f5, .ref h1, .ref h2, .int h0f8, .int v16, .ref h3, .ref h4, .ref h5, .ref h6, .ref h7, .ref h8, .ref h9, .int h0f17, .int h0f18, .int h0f19, .ref h10, .ref h11, .ref h12, .ref h13, .int v17, .int v18, .ref h14, .ref h15, .ref h16, .ref h17, .int h0f30, .int h0f31, .ref h18, .ref h19, .ref h20, .ref h21]), (h4, aJ (k 1) 9 (f1P )), (h5, aJ (k 1) 9 anJ), (h10, aJ (k 1) 900 (lsP (v16.toInt)))]) (as := []) (zcS (As := [.long r51, .long v53]) (rest := []) (Tc := []) hx hb hml hown hU hK hT [] rfl (by decide) (cX11_common_49cb4 l D k _ r51 v53 (by omega)) w1094 w1092 w1093 w72 hdX11_common ⟨rfl, rfl⟩ ⟨Nat.le_of_ble_eq_true rfl, Nat.le_of_ble_eq_true rfl⟩ rfl hl.1 (Nat.le_of_ble_eq_true rfl) dX11_form_71 ⟨Nat.le_of_ble_eq_true rfl, Nat.le_of_ble_eq_true rfl⟩) hT hS hA [] [0, 1, 2, 3, 4, 5, 6, 7, 8] rfl rfl rfl (by decide) (by decide) (fun r54 H locs hB J hS => ?_)
            obtain ⟨k_x55, hT1⟩ := hB
            have hT := J _ hT1
            have hT : TP D A [(h1, aI (k 0) 36 anI), (h6, aJ (k 1) 9 anJ), (h11, aI (k 0) 100 anI), (h12, aI (k 0) 100 anI), (h13, aI (k 0) 100 anI), (h0, ob 8 [.int h0f0, .int h0f1, .int h0f2, .int h0f3, .int h0f4, .int h0f5, .ref h1, .ref h2, .int h0f8, .int v16, .ref h3, .ref h4, .ref h5, .ref h6, .ref h7, .ref h8, .ref h9, .int h0f17, .int h0f18, .int h0f19, .ref h10, .ref h11, .ref h12, .ref h13, .int v17, .int v18, .ref h14, .ref h15, .ref h16, .ref h17, .int h0f30, .int h0f31, .ref h18, .ref h19, .ref h20, .ref h21]), (h4, aJ (k 1) 9 (f1P )), (h5, aJ (k 1) 9 anJ), (h10, aJ (k 1) 900 (lsP (v16.toInt)))] _ := hT
            refine lv_lstore_n (lv' := [(3, .long r54), (5, .int 5), (0, .ref h0), (1, .int x1), (2, .int x2)]) hx hb dX11_form_74 rfl hl (by decide) rfl (fun ls hl => ?_)
            refine lv_iinc (v := 6) (lv' := [(5, .int 6), (3, .long r54), (0, .ref h0), (1, .int x1), (2, .int x2)]) hx hb dX11_form_75 hl (k := 1) rfl (by decide) (by decide) rfl (fun ls hl => ?_)
            refine lv_goto (tgt := 56) hx hb dX11_form_78 (by decide) ?_
            refine lv_iload hx hb dX11_form_56 (lv_at hl 0 rfl) ?_
            refine lv_bipush (v := 9) hx hb dX11_form_58 (by decide) ?_
            refine lv_icmp_ge (tgt := 81) hx hb dX11_form_60 (by decide) (fun cc => absurd cc (by decide +kernel)) (fun _ => ?_)
            refine lv_lload_n hx hb dX11_form_63 rfl (lv_at hl 1 rfl) ?_
            refine lv_aload_n hx hb dX11_form_64 rfl (lv_at hl 2 rfl) ?_
            refine tz_get (ci := 8) (v := .ref h4) (C := RX11) (F := TX11) (N := 36) hx hb hU iX11 hown hK hT 5 rfl rfl 11 (by decide) w796 (fun _ h9 => h9) rfl dX11_form_65 ?_
            refine lv_iload hx hb dX11_form_68 (lv_at hl 0 rfl) ?_
            refine tz_lald hx hb hK hT 6 rfl (by have := li_6; omega) dX11_form_70 (fun v56 e_v56 => ?_)
            clear e_v56
            refine tcL (Tc := []) (Tr := [(h1, aI (k 0) 36 anI), (h6, aJ (k 1) 9 anJ), (h11, aI (k 0) 100 anI), (h12, aI (k 0) 100 anI), (h13, aI (k 0) 100 anI), (h0, ob 8 [.int h0f0, .int h0f1, .int h0f2, .int h0f3, .int h0f4, .int h0f5, .ref h1, .ref h2, .int h0f8, .int v16, .ref h3, .ref h4, .ref h5, .ref h6, .ref h7, .ref h8, .ref h9, .int h0f17, .int h0f18, .int h0f19, .ref h10, .ref h11, .ref h12, .ref h13, .int v17, .int v18, .ref h14, .ref h15, .ref h16, .ref h17, .int h0f30, .int h0f31, .ref h18, .ref h19, .ref h20, .ref h21]), (h4, aJ (k 1) 9 (f1P )), (h5, aJ (k 1) 9 anJ), (h10, aJ (k 1) 900 (lsP (v16.toInt)))]) (as := []) (zcS (As := [.long r54, .long v56]) (rest := []) (Tc := []) hx hb hml hown hU hK hT [] rfl (by decide) (cX11_common_49cb4 l D k _ r54 v56 (by omega)) w1094 w1092 w1093 w72 hdX11_common ⟨rfl, rfl⟩ ⟨Nat.le_of_ble_eq_true rfl, Nat.le_of_ble_eq_true rfl⟩ rfl hl.1 (Nat.le_of_ble_eq_true rfl) dX11_form_71 ⟨Nat.le_of_ble_eq_true rfl, Nat.le_of_ble_eq_true rfl⟩) hT hS hA [] [0, 1, 2, 3, 4, 5, 6, 7, 8] rfl rfl rfl (by decide) (by decide) (fun r57 H locs hB J hS => ?_)
            obtain ⟨k_x58, hT1⟩ := hB
            have hT := J _ hT1
            have hT : TP D A [(h1, aI (k 0) 36 anI), (h6, aJ (k 1) 9 anJ), (h11, aI (k 0) 100 anI), (h12, aI (k 0) 100 anI), (h13, aI (k 0) 100 anI), (h0, ob 8 [.int h0f0, .int h0f1, .int h0f2, .int h0f3, .int h0f4, .int h0f5, .ref h1, .ref h2, .int h0f8, .int v16, .ref h3, .ref h4, .ref h5, .ref h6, .ref h7, .ref h8, .ref h9, .int h0f17, .int h0f18, .int h0f19, .ref h10, .ref h11, .ref h12, .ref h13, .int v17, .int v18, .ref h14, .ref h15, .ref h16, .ref h17, .int h0f30, .int h0f31, .ref h18, .ref h19, .ref h20, .ref h21]), (h4, aJ (k 1) 9 (f1P )), (h5, aJ (k 1) 9 anJ), (h10, aJ (k 1) 900 (lsP (v16.toInt)))] _ := hT
            refine lv_lstore_n (lv' := [(3, .long r57), (5, .int 6), (0, .ref h0), (1, .int x1), (2, .int x2)]) hx hb dX11_form_74 rfl hl (by decide) rfl (fun ls hl => ?_)
            refine lv_iinc (v := 7) (lv' := [(5, .int 7), (3, .long r57), (0, .ref h0), (1, .int x1), (2, .int x2)]) hx hb dX11_form_75 hl (k := 1) rfl (by decide) (by decide) rfl (fun ls hl => ?_)
            refine lv_goto (tgt := 56) hx hb dX11_form_78 (by decide) ?_
            refine lv_iload hx hb dX11_form_56 (lv_at hl 0 rfl) ?_
            refine lv_bipush (v := 9) hx hb dX11_form_58 (by decide) ?_
            refine lv_icmp_ge (tgt := 81) hx hb dX11_form_60 (by decide) (fun cc => absurd cc (by decide +kernel)) (fun _ => ?_)
            refine lv_lload_n hx hb dX11_form_63 rfl (lv_at hl 1 rfl) ?_
            refine lv_aload_n hx hb dX11_form_64 rfl (lv_at hl 2 rfl) ?_
            refine tz_get (ci := 8) (v := .ref h4) (C := RX11) (F := TX11) (N := 36) hx hb hU iX11 hown hK hT 5 rfl rfl 11 (by decide) w796 (fun _ h9 => h9) rfl dX11_form_65 ?_
            refine lv_iload hx hb dX11_form_68 (lv_at hl 0 rfl) ?_
            refine tz_lald hx hb hK hT 6 rfl (by have := li_7; omega) dX11_form_70 (fun v59 e_v59 => ?_)
            clear e_v59
            refine tcL (Tc := []) (Tr := [(h1, aI (k 0) 36 anI), (h6, aJ (k 1) 9 anJ), (h11, aI (k 0) 100 anI), (h12, aI (k 0) 100 anI), (h13, aI (k 0) 100 anI), (h0, ob 8 [.int h0f0, .int h0f1, .int h0f2, .int h0f3, .int h0f4, .int h0f5, .ref h1, .ref h2, .int h0f8, .int v16, .ref h3, .ref h4, .ref h5, .ref h6, .ref h7, .ref h8, .ref h9, .int h0f17, .int h0f18, .int h0f19, .ref h10, .ref h11, .ref h12, .ref h13, .int v17, .int v18, .ref h14, .ref h15, .ref h16, .ref h17, .int h0f30, .int h0f31, .ref h18, .ref h19, .ref h20, .ref h21]), (h4, aJ (k 1) 9 (f1P )), (h5, aJ (k 1) 9 anJ), (h10, aJ (k 1) 900 (lsP (v16.toInt)))]) (as := []) (zcS (As := [.long r57, .long v59]) (rest := []) (Tc := []) hx hb hml hown hU hK hT [] rfl (by decide) (cX11_common_49cb4 l D k _ r57 v59 (by omega)) w1094 w1092 w1093 w72 hdX11_common ⟨rfl, rfl⟩ ⟨Nat.le_of_ble_eq_true rfl, Nat.le_of_ble_eq_true rfl⟩ rfl hl.1 (Nat.le_of_ble_eq_true rfl) dX11_form_71 ⟨Nat.le_of_ble_eq_true rfl, Nat.le_of_ble_eq_true rfl⟩) hT hS hA [] [0, 1, 2, 3, 4, 5, 6, 7, 8] rfl rfl rfl (by decide) (by decide) (fun r60 H locs hB J hS => ?_)
            obtain ⟨k_x61, hT1⟩ := hB
            have hT := J _ hT1
            have hT : TP D A [(h1, aI (k 0) 36 anI), (h6, aJ (k 1) 9 anJ), (h11, aI (k 0) 100 anI), (h12, aI (k 0) 100 anI), (h13, aI (k 0) 100 anI), (h0, ob 8 [.int h0f0, .int h0f1, .int h0f2, .int h0f3, .int h0f4, .int h0f5, .ref h1, .ref h2, .int h0f8, .int v16, .ref h3, .ref h4, .ref h5, .ref h6, .ref h7, .ref h8, .ref h9, .int h0f17, .int h0f18, .int h0f19, .ref h10, .ref h11, .ref h12, .ref h13, .int v17, .int v18, .ref h14, .ref h15, .ref h16, .ref h17, .int h0f30, .int h0f31, .ref h18, .ref h19, .ref h20, .ref h21]), (h4, aJ (k 1) 9 (f1P )), (h5, aJ (k 1) 9 anJ), (h10, aJ (k 1) 900 (lsP (v16.toInt)))] _ := hT
            refine lv_lstore_n (lv' := [(3, .long r60), (5, .int 7), (0, .ref h0), (1, .int x1), (2, .int x2)]) hx hb dX11_form_74 rfl hl (by decide) rfl (fun ls hl => ?_)
            refine lv_iinc (v := 8) (lv' := [(5, .int 8), (3, .long r60), (0, .ref h0), (1, .int x1), (2, .int x2)]) hx hb dX11_form_75 hl (k := 1) rfl (by decide) (by decide) rfl (fun ls hl => ?_)
            refine lv_goto (tgt := 56) hx hb dX11_form_78 (by decide) ?_
            refine lv_iload hx hb dX11_form_56 (lv_at hl 0 rfl) ?_
            refine lv_bipush (v := 9) hx hb dX11_form_58 (by decide) ?_
            refine lv_icmp_ge (tgt := 81) hx hb dX11_form_60 (by decide) (fun cc => absurd cc (by decide +kernel)) (fun _ => ?_)
            refine lv_lload_n hx hb dX11_form_63 rfl (lv_at hl 1 rfl) ?_
            refine lv_aload_n hx hb dX11_form_64 rfl (lv_at hl 2 rfl) ?_
            refine tz_get (ci := 8) (v := .ref h4) (C := RX11) (F := TX11) (N := 36) hx hb hU iX11 hown hK hT 5 rfl rfl 11 (by decide) w796 (fun _ h9 => h9) rfl dX11_form_65 ?_
            refine lv_iload hx hb dX11_form_68 (lv_at hl 0 rfl) ?_
            refine tz_lald hx hb hK hT 6 rfl (by have := li_8; omega) dX11_form_70 (fun v62 e_v62 => ?_)
            clear e_v62
            refine tcL (Tc := []) (Tr := [(h1, aI (k 0) 36 anI), (h6, aJ (k 1) 9 anJ), (h11, aI (k 0) 100 anI), (h12, aI (k 0) 100 anI), (h13, aI (k 0) 100 anI), (h0, ob 8 [.int h0f0, .int h0f1, .int h0f2, .int h0f3, .int h0f4, .int h0f5, .ref h1, .ref h2, .int h0f8, .int v16, .ref h3, .ref h4, .ref h5, .ref h6, .ref h7, .ref h8, .ref h9, .int h0f17, .int h0f18, .int h0f19, .ref h10, .ref h11, .ref h12, .ref h13, .int v17, .int v18, .ref h14, .ref h15, .ref h16, .ref h17, .int h0f30, .int h0f31, .ref h18, .ref h19, .ref h20, .ref h21]), (h4, aJ (k 1) 9 (f1P )), (h5, aJ (k 1) 9 anJ), (h10, aJ (k 1) 900 (lsP (v16.toInt)))]) (as := []) (zcS (As := [.long r60, .long v62]) (rest := []) (Tc := []) hx hb hml hown hU hK hT [] rfl (by decide) (cX11_common_49cb4 l D k _ r60 v62 (by omega)) w1094 w1092 w1093 w72 hdX11_common ⟨rfl, rfl⟩ ⟨Nat.le_of_ble_eq_true rfl, Nat.le_of_ble_eq_true rfl⟩ rfl hl.1 (Nat.le_of_ble_eq_true rfl) dX11_form_71 ⟨Nat.le_of_ble_eq_true rfl, Nat.le_of_ble_eq_true rfl⟩) hT hS hA [] [0, 1, 2, 3, 4, 5, 6, 7, 8] rfl rfl rfl (by decide) (by decide) (fun r63 H locs hB J hS => ?_)
            obtain ⟨k_x64, hT1⟩ := hB
            have hT := J _ hT1
            have hT : TP D A [(h1, aI (k 0) 36 anI), (h6, aJ (k 1) 9 anJ), (h11, aI (k 0) 100 anI), (h12, aI (k 0) 100 anI), (h13, aI (k 0) 100 anI), (h0, ob 8 [.int h0f0, .int h0f1, .int h0f2, .int h0f3, .int h0f4, .int h0f5, .ref h1, .ref h2, .int h0f8, .int v16, .ref h3, .ref h4, .ref h5, .ref h6, .ref h7, .ref h8, .ref h9, .int h0f17, .int h0f18, .int h0f19, .ref h10, .ref h11, .ref h12, .ref h13, .int v17, .int v18, .ref h14, .ref h15, .ref h16, .ref h17, .int h0f30, .int h0f31, .ref h18, .ref h19, .ref h20, .ref h21]), (h4, aJ (k 1) 9 (f1P )), (h5, aJ (k 1) 9 anJ), (h10, aJ (k 1) 900 (lsP (v16.toInt)))] _ := hT
            refine lv_lstore_n (lv' := [(3, .long r63), (5, .int 8), (0, .ref h0), (1, .int x1), (2, .int x2)]) hx hb dX11_form_74 rfl hl (by decide) rfl (fun ls hl => ?_)
            refine lv_iinc (v := 9) (lv' := [(5, .int 9), (3, .long r63), (0, .ref h0), (1, .int x1), (2, .int x2)]) hx hb dX11_form_75 hl (k := 1) rfl (by decide) (by decide) rfl (fun ls hl => ?_)
            refine lv_goto (tgt := 56) hx hb dX11_form_78 (by decide) ?_
            refine lv_iload hx hb dX11_form_56 (lv_at hl 0 rfl) ?_
            refine lv_bipush (v := 9) hx hb dX11_form_58 (by decide) ?_
            refine lv_icmp_ge (tgt := 81) hx hb dX11_form_60 (by decide) (fun _ => ?_) (fun cc => absurd (by decide +kernel) cc)
            refine lv_aload_n hx hb dX11_form_81 rfl (lv_at hl 2 rfl) ?_
            refine tz_get (ci := 8) (v := .ref h4) (C := RX11) (F := TX11) (N := 36) hx hb hU iX11 hown hK hT 5 rfl rfl 11 (by decide) w796 (fun _ h9 => h9) rfl dX11_form_82 ?_
            refine lv_iconst (v := 3) hx hb dX11_form_85 (by decide) ?_
            refine lv_iload_n hx hb dX11_form_86 rfl (lv_at hl 3 rfl) ?_
            refine lv_imul hx hb dX11_form_87 (lv_topi (fun v65 e_v65 => ?_))
            have e_v65 := ai_mul e_v65 li_3 rfl (by omega)
            refine lv_iload_n hx hb dX11_form_88 rfl (lv_at hl 4 rfl) ?_
            refine lv_iadd hx hb dX11_form_89 (lv_topi (fun v66 e_v66 => ?_))
            have e_v66 := ai_add e_v66 rfl rfl (by omega)
            refine tz_lald hx hb hK hT 6 rfl (by omega) dX11_form_90 (fun v67 e_v67 => ?_)
            clear e_v67
            refine lv_lload_n hx hb dX11_form_91 rfl (lv_at hl 1 rfl) ?_
            refine lv_ldiv hx hb dX11_form_92 (nz64 (y := r63.toInt) rfl (by omega)) (lv_topl (fun v68 e_v68 => ?_))
            have hT := hT.wk (q := 6) (P' := aJ (k 1) 9 anJ) rfl (an_J)
            have hT : TP D A [(h1, aI (k 0) 36 anI), (h6, aJ (k 1) 9 anJ), (h11, aI (k 0) 100 anI), (h12, aI (k 0) 100 anI), (h13, aI (k 0) 100 anI), (h0, ob 8 [.int h0f0, .int h0f1, .int h0f2, .int h0f3, .int h0f4, .int h0f5, .ref h1, .ref h2, .int h0f8, .int v16, .ref h3, .ref h4, .ref h5, .ref h6, .ref h7, .ref h8, .ref h9, .int h0f17, .int h0f18, .int h0f19, .ref h10, .ref h11, .ref h12, .ref h13, .int v17, .int v18, .ref h14, .ref h15, .ref h16, .ref h17, .int h0f30, .int h0f31, .ref h18, .ref h19, .ref h20, .ref h21]), (h4, aJ (k 1) 9 anJ), (h5, aJ (k 1) 9 anJ), (h10, aJ (k 1) 900 (lsP (v16.toInt)))] _ := hT
            exact tz_retL (B := B_cX11_form_b559b D k h0 h1 h4 h5 h6 h10 h11 h12 h13 h2 h3 h7 h8 h9 h14 h15 h16 h17 h18 h19 h20 h21 x1 x2 h0f0 h0f1 h0f2 h0f3 h0f4 h0f5 h0f8 h0f9 h0f17 h0f18 h0f19 h0f24 h0f25 h0f30 h0f31) (v := v68) hQ hx hb hr hlocks hS (Nat.le_of_ble_eq_true rfl) (Nat.le_of_ble_eq_true rfl) dX11_form_93 (⟨v16, v17, v18, (by omega), (by omega), (by omega), (hT.sub [5, 0, 6, 7, 1, 8, 2, 3, 4] (by decide) rfl)⟩)
          · skip
            have c_36 := ni_eq c_36 rfl li_0
            exfalso; omega
      · skip
        have c_19 := ni_eq c_19 rfl li_0
        refine lv_bipush (v := (-3)) hx hb dX11_form_32 (by decide) ?_
        have q_q70 := li_m3
        refine tcL (Tc := []) (Tr := [(h0, ob 8 [.int h0f0, .int h0f1, .int h0f2, .int h0f3, .int h0f4, .int h0f5, .ref h1, .ref h2, .int h0f8, .int v16, .ref h3, .ref h4, .ref h5, .ref h6, .ref h7, .ref h8, .ref h9, .int h0f17, .int h0f18, .int h0f19, .ref h10, .ref h11, .ref h12, .ref h13, .int v17, .int v18, .ref h14, .ref h15, .ref h16, .ref h17, .int h0f30, .int h0f31, .ref h18, .ref h19, .ref h20, .ref h21]), (h1, aI (k 0) 36 anI), (h4, aJ (k 1) 9 anJ), (h5, aJ (k 1) 9 anJ), (h6, aJ (k 1) 9 anJ), (h10, aJ (k 1) 900 (lsP (v16.toInt))), (h11, aI (k 0) 100 anI), (h12, aI (k 0) 100 anI), (h13, aI (k 0) 100 anI)]) (as := []) (zcS (As := [.int (-3)]) (rest := []) (Tc := []) hx hb hml hown hU hK hT [] rfl (by decide) (cX11_far_7dbca l D k _ ((-3)) (by have := li_m3; omega)) w1062 w1060 w1061 w72 hdX11_far ⟨rfl, rfl⟩ ⟨Nat.le_of_ble_eq_true rfl, Nat.le_of_ble_eq_true rfl⟩ rfl hl.1 (Nat.le_of_ble_eq_true rfl) dX11_form_34 ⟨Nat.le_of_ble_eq_true rfl, Nat.le_of_ble_eq_true rfl⟩) hT hS hA [] [0, 1, 2, 3, 4, 5, 6, 7, 8] rfl rfl rfl (by decide) (by decide) (fun r69 H locs hB J hS => ?_)
        obtain ⟨b_r69, hT1⟩ := hB
        have hT := J _ hT1
        have hT : TP D A [(h0, ob 8 [.int h0f0, .int h0f1, .int h0f2, .int h0f3, .int h0f4, .int h0f5, .ref h1, .ref h2, .int h0f8, .int v16, .ref h3, .ref h4, .ref h5, .ref h6, .ref h7, .ref h8, .ref h9, .int h0f17, .int h0f18, .int h0f19, .ref h10, .ref h11, .ref h12, .ref h13, .int v17, .int v18, .ref h14, .ref h15, .ref h16, .ref h17, .int h0f30, .int h0f31, .ref h18, .ref h19, .ref h20, .ref h21]), (h1, aI (k 0) 36 anI), (h4, aJ (k 1) 9 anJ), (h5, aJ (k 1) 9 anJ), (h6, aJ (k 1) 9 anJ), (h10, aJ (k 1) 900 (lsP (v16.toInt))), (h11, aI (k 0) 100 anI), (h12, aI (k 0) 100 anI), (h13, aI (k 0) 100 anI)] _ := hT
        exact tz_retL (B := B_cX11_form_b559b D k h0 h1 h4 h5 h6 h10 h11 h12 h13 h2 h3 h7 h8 h9 h14 h15 h16 h17 h18 h19 h20 h21 x1 x2 h0f0 h0f1 h0f2 h0f3 h0f4 h0f5 h0f8 h0f9 h0f17 h0f18 h0f19 h0f24 h0f25 h0f30 h0f31) (v := r69) hQ hx hb hr hlocks hS (Nat.le_of_ble_eq_true rfl) (Nat.le_of_ble_eq_true rfl) dX11_form_37 (⟨v16, v17, v18, (by omega), (by omega), (by omega), hT⟩)
abbrev Rm_cX10_isSheet_f635c : Room := { frames := 0, cells := 0, slots := 0, locals := 0 }
abbrev B_cX10_isSheet_f635c (D : va_G) (k : Nat → ClassId) (x0 : Int32) (A : Nat → Prop) (r : Int32) (H : Heap) : Prop := (0 = r ∧ TP D A [] H) ∨ (0 ≤ x0.toInt ∧ x0.toInt < 4 ∧ 1 = r ∧ TP D A [] H)
set_option maxHeartbeats 4000000 in
set_option maxRecDepth 100000 in
theorem cX10_isSheet_f635c (l : Launch) (D : va_G) (k : Nat → ClassId) (sz : Nat) (x0 : Int32) : Met l yX10_isSheet (Cond.code yX10_isSheet cX10_isSheet 1 (some .boolean) :: uw) Rm_cX10_isSheet_f635c (pT D k sz [.int x0] []) (qI (B_cX10_isSheet_f635c D k x0 (zA [] sz)) (zA [] sz)) 0 0 (zA [] sz) := by
  refine tz_begin (as := []) (Qc := fun A => qI (B_cX10_isSheet_f635c D k x0 A) A) (by decide +kernel) rfl (Nat.le_of_ble_eq_true rfl) ?_
  intro p e s m args below meth c ls A Q hx hb hr hml hown hlocks hin hU hK hT hS hA hl hQ
  have hl : lv_has ls 1 [(0, .int x0)] := hl
  have hT : TP D A [] s.heap := hT
  refine lv_iload_n hx hb dX10_isSheet_0 rfl (lv_at hl 0 rfl) ?_
  refine lv_if_lt (tgt := 13) hx hb dX10_isSheet_1 (by decide) (fun c_1 => ?_) (fun c_1 => ?_)
  · skip
    have c_1 := ni_lt c_1 rfl li_0
    refine lv_iconst (v := 0) hx hb dX10_isSheet_13 (by decide) ?_
    exact tz_retZ (B := B_cX10_isSheet_f635c D k x0) (v := 0) hQ hx hb hr hlocks hS (Nat.le_of_ble_eq_true rfl) (Nat.le_of_ble_eq_true rfl) dX10_isSheet_14 (by have := li_0; omega) (Or.inl ⟨rfl, hT⟩)
  · skip
    have c_1 := ni_nlt c_1 rfl li_0
    refine lv_iload_n hx hb dX10_isSheet_4 rfl (lv_at hl 0 rfl) ?_
    refine lv_iconst (v := 4) hx hb dX10_isSheet_5 (by decide) ?_
    refine lv_icmp_ge (tgt := 13) hx hb dX10_isSheet_6 (by decide) (fun c_2 => ?_) (fun c_2 => ?_)
    · skip
      have c_2 := ni_le c_2 li_4 rfl
      refine lv_iconst (v := 0) hx hb dX10_isSheet_13 (by decide) ?_
      exact tz_retZ (B := B_cX10_isSheet_f635c D k x0) (v := 0) hQ hx hb hr hlocks hS (Nat.le_of_ble_eq_true rfl) (Nat.le_of_ble_eq_true rfl) dX10_isSheet_14 (by have := li_0; omega) (Or.inl ⟨rfl, hT⟩)
    · skip
      have c_2 := ni_nle c_2 li_4 rfl
      refine lv_iconst (v := 1) hx hb dX10_isSheet_9 (by decide) ?_
      refine lv_goto (tgt := 14) hx hb dX10_isSheet_10 (by decide) ?_
      exact tz_retZ (B := B_cX10_isSheet_f635c D k x0) (v := 1) hQ hx hb hr hlocks hS (Nat.le_of_ble_eq_true rfl) (Nat.le_of_ble_eq_true rfl) dX10_isSheet_14 (by have := li_1; omega) (Or.inr (⟨(by have := li_1; omega), (by have := li_1; omega), rfl, hT⟩))
abbrev Rm_cX6_isMissing_56a93 : Room := { frames := 0, cells := 0, slots := 0, locals := 0 }
abbrev B_cX6_isMissing_56a93 (D : va_G) (k : Nat → ClassId) (h0 h1 : Nat) (h0f0 : Int32) (h0f1 : Int32) (A : Nat → Prop) (r : Int32) (H : Heap) : Prop := (h0f0.toInt ≠ (-1) ∧ 0 = r ∧ TP D A [(h0, ob 5 [.int h0f0, .int h0f1, .ref h1])] H) ∨ (1 = r ∧ TP D A [(h0, ob 5 [.int h0f0, .int h0f1, .ref h1])] H)
set_option maxHeartbeats 4000000 in
set_option maxRecDepth 100000 in
theorem cX6_isMissing_56a93 (l : Launch) (D : va_G) (k : Nat → ClassId) (sz : Nat) (h0 h1 : Nat) (h0f0 : Int32) (h0f1 : Int32) (b_h0f0 : (-1) ≤ h0f0.toInt ∧ h0f0.toInt ≤ 2) (b_h0f1 : 0 ≤ h0f1.toInt ∧ h0f1.toInt ≤ 40) : Met l yX6_isMissing (Cond.code yX6_isMissing cX6_isMissing 1 (some .boolean) :: uw) Rm_cX6_isMissing_56a93 (pT D k sz [.ref h0] [(h0, ob 5 [.int h0f0, .int h0f1, .ref h1])]) (qI (B_cX6_isMissing_56a93 D k h0 h1 h0f0 h0f1 (zA [h0] sz)) (zA [h0] sz)) 0 0 (zA [h0] sz) := by
  refine tz_begin (as := [h0]) (Qc := fun A => qI (B_cX6_isMissing_56a93 D k h0 h1 h0f0 h0f1 A) A) (by decide +kernel) rfl (Nat.le_of_ble_eq_true rfl) ?_
  intro p e s m args below meth c ls A Q hx hb hr hml hown hlocks hin hU hK hT hS hA hl hQ
  have hl : lv_has ls 1 [(0, .ref h0)] := hl
  have hT : TP D A [(h0, ob 5 [.int h0f0, .int h0f1, .ref h1])] s.heap := hT
  refine lv_aload_n hx hb dX6_isMissing_0 rfl (lv_at hl 0 rfl) ?_
  refine tz_get (ci := 5) (v := .int h0f0) (C := RX6) (F := TX6) (N := 3) hx hb hU iX6 hown hK hT 0 rfl rfl 0 (by decide) w237 (fun _ h9 => h9) rfl dX6_isMissing_1 ?_
  refine lv_iconst (v := (-1)) hx hb dX6_isMissing_4 (by decide) ?_
  refine lv_icmp_ne (tgt := 12) hx hb dX6_isMissing_5 (by decide) (fun c_1 => ?_) (fun c_1 => ?_)
  · skip
    have c_1 := ni_ne c_1 rfl li_m1
    refine lv_iconst (v := 0) hx hb dX6_isMissing_12 (by decide) ?_
    exact tz_retZ (B := B_cX6_isMissing_56a93 D k h0 h1 h0f0 h0f1) (v := 0) hQ hx hb hr hlocks hS (Nat.le_of_ble_eq_true rfl) (Nat.le_of_ble_eq_true rfl) dX6_isMissing_13 (by have := li_0; omega) (Or.inl ⟨(by have := li_0; omega), rfl, hT⟩)
  · skip
    have c_1 := ni_eq c_1 rfl li_m1
    refine lv_iconst (v := 1) hx hb dX6_isMissing_8 (by decide) ?_
    refine lv_goto (tgt := 13) hx hb dX6_isMissing_9 (by decide) ?_
    exact tz_retZ (B := B_cX6_isMissing_56a93 D k h0 h1 h0f0 h0f1) (v := 1) hQ hx hb hr hlocks hS (Nat.le_of_ble_eq_true rfl) (Nat.le_of_ble_eq_true rfl) dX6_isMissing_13 (by have := li_1; omega) (Or.inr (⟨rfl, hT⟩))
abbrev Rm_cX5_cellCount_f3983 : Room := { frames := 0, cells := 0, slots := 0, locals := 0 }
abbrev B_cX5_cellCount_f3983 (D : va_G) (k : Nat → ClassId) (h0 h1 : Nat) (h0f0 : Int32) (h0f1 : Int32) (h0f2 : Int32) (A : Nat → Prop) (r : Int32) (H : Heap) : Prop := (∃ o0 : Int32, (1 ≤ o0.toInt ∧ o0.toInt ≤ 1) ∧ h0f0.toInt = 1 ∧ o0.toInt = h0f0.toInt ∧ o0 = r ∧ TP D A [(h0, ob 4 [.int h0f0, .int h0f1, .int h0f2, .ref h1])] H) ∨ (∃ o0 : Int32, (4 ≤ o0.toInt ∧ o0.toInt ≤ 4) ∧ h0f0.toInt = 2 ∧ o0.toInt = 2 * h0f0.toInt ∧ o0 = r ∧ TP D A [(h0, ob 4 [.int h0f0, .int h0f1, .int h0f2, .ref h1])] H) ∨ (∃ o0 : Int32, (9 ≤ o0.toInt ∧ o0.toInt ≤ 9) ∧ h0f0.toInt = 3 ∧ o0.toInt = 3 * h0f0.toInt ∧ o0 = r ∧ TP D A [(h0, ob 4 [.int h0f0, .int h0f1, .int h0f2, .ref h1])] H)
set_option maxHeartbeats 4000000 in
set_option maxRecDepth 100000 in
theorem cX5_cellCount_f3983 (l : Launch) (D : va_G) (k : Nat → ClassId) (sz : Nat) (h0 h1 : Nat) (h0f0 : Int32) (h0f1 : Int32) (h0f2 : Int32) (b_h0f0 : 1 ≤ h0f0.toInt ∧ h0f0.toInt ≤ 3) (b_h0f1 : 0 ≤ h0f1.toInt ∧ h0f1.toInt ≤ 4) : Met l yX5_cellCount (Cond.code yX5_cellCount cX5_cellCount 1 (some .int) :: uw) Rm_cX5_cellCount_f3983 (pT D k sz [.ref h0] [(h0, ob 4 [.int h0f0, .int h0f1, .int h0f2, .ref h1])]) (qI (B_cX5_cellCount_f3983 D k h0 h1 h0f0 h0f1 h0f2 (zA [h0] sz)) (zA [h0] sz)) 0 0 (zA [h0] sz) := by
  refine tz_begin (as := [h0]) (Qc := fun A => qI (B_cX5_cellCount_f3983 D k h0 h1 h0f0 h0f1 h0f2 A) A) (by decide +kernel) rfl (Nat.le_of_ble_eq_true rfl) ?_
  intro p e s m args below meth c ls A Q hx hb hr hml hown hlocks hin hU hK hT hS hA hl hQ
  have hl : lv_has ls 1 [(0, .ref h0)] := hl
  have hT : TP D A [(h0, ob 4 [.int h0f0, .int h0f1, .int h0f2, .ref h1])] s.heap := hT
  rcases (show h0f0.toInt = 1 ∨ h0f0.toInt = 2 ∨ h0f0.toInt = 3 by omega) with hq1 | hq1 | hq1
  · skip
    refine lv_aload_n hx hb dX5_cellCount_0 rfl (lv_at hl 0 rfl) ?_
    refine tz_get (ci := 4) (v := .int h0f0) (C := RX5) (F := TX5) (N := 4) hx hb hU iX5 hown hK hT 0 rfl rfl 0 (by decide) w92 (fun _ h9 => h9) rfl dX5_cellCount_1 ?_
    refine lv_aload_n hx hb dX5_cellCount_4 rfl (lv_at hl 0 rfl) ?_
    refine tz_get (ci := 4) (v := .int h0f0) (C := RX5) (F := TX5) (N := 4) hx hb hU iX5 hown hK hT 0 rfl rfl 0 (by decide) w92 (fun _ h9 => h9) rfl dX5_cellCount_5 ?_
    refine lv_imul hx hb dX5_cellCount_8 (lv_topi (fun v2 e_v2 => ?_))
    have e_v2 := ai_mul e_v2 hq1 hq1 (by omega)
    exact tz_retI (B := B_cX5_cellCount_f3983 D k h0 h1 h0f0 h0f1 h0f2) (v := v2) hQ hx hb hr hlocks hS (Nat.le_of_ble_eq_true rfl) (Nat.le_of_ble_eq_true rfl) dX5_cellCount_9 (Or.inl ⟨v2, (by omega), (by omega), (by omega), rfl, hT⟩)
  · skip
    refine lv_aload_n hx hb dX5_cellCount_0 rfl (lv_at hl 0 rfl) ?_
    refine tz_get (ci := 4) (v := .int h0f0) (C := RX5) (F := TX5) (N := 4) hx hb hU iX5 hown hK hT 0 rfl rfl 0 (by decide) w92 (fun _ h9 => h9) rfl dX5_cellCount_1 ?_
    refine lv_aload_n hx hb dX5_cellCount_4 rfl (lv_at hl 0 rfl) ?_
    refine tz_get (ci := 4) (v := .int h0f0) (C := RX5) (F := TX5) (N := 4) hx hb hU iX5 hown hK hT 0 rfl rfl 0 (by decide) w92 (fun _ h9 => h9) rfl dX5_cellCount_5 ?_
    refine lv_imul hx hb dX5_cellCount_8 (lv_topi (fun v3 e_v3 => ?_))
    have e_v3 := ai_mul e_v3 hq1 hq1 (by omega)
    exact tz_retI (B := B_cX5_cellCount_f3983 D k h0 h1 h0f0 h0f1 h0f2) (v := v3) hQ hx hb hr hlocks hS (Nat.le_of_ble_eq_true rfl) (Nat.le_of_ble_eq_true rfl) dX5_cellCount_9 (Or.inr (Or.inl ⟨v3, (by omega), (by omega), (by omega), rfl, hT⟩))
  · skip
    refine lv_aload_n hx hb dX5_cellCount_0 rfl (lv_at hl 0 rfl) ?_
    refine tz_get (ci := 4) (v := .int h0f0) (C := RX5) (F := TX5) (N := 4) hx hb hU iX5 hown hK hT 0 rfl rfl 0 (by decide) w92 (fun _ h9 => h9) rfl dX5_cellCount_1 ?_
    refine lv_aload_n hx hb dX5_cellCount_4 rfl (lv_at hl 0 rfl) ?_
    refine tz_get (ci := 4) (v := .int h0f0) (C := RX5) (F := TX5) (N := 4) hx hb hU iX5 hown hK hT 0 rfl rfl 0 (by decide) w92 (fun _ h9 => h9) rfl dX5_cellCount_5 ?_
    refine lv_imul hx hb dX5_cellCount_8 (lv_topi (fun v4 e_v4 => ?_))
    have e_v4 := ai_mul e_v4 hq1 hq1 (by omega)
    exact tz_retI (B := B_cX5_cellCount_f3983 D k h0 h1 h0f0 h0f1 h0f2) (v := v4) hQ hx hb hr hlocks hS (Nat.le_of_ble_eq_true rfl) (Nat.le_of_ble_eq_true rfl) dX5_cellCount_9 (Or.inr (Or.inr (⟨v4, (by omega), (by omega), (by omega), rfl, hT⟩)))
abbrev Rm_cX6_isOutside_cc85b : Room := { frames := 0, cells := 0, slots := 0, locals := 0 }
abbrev B_cX6_isOutside_cc85b (D : va_G) (k : Nat → ClassId) (h0 h1 : Nat) (x1 : Int32) (x2 : Int32) (h0f0 : Int32) (h0f1 : Int32) (A : Nat → Prop) (r : Int32) (H : Heap) : Prop := (1 = r ∧ TP D A [(h0, ob 5 [.int h0f0, .int h0f1, .ref h1])] H) ∨ (0 ≤ x2.toInt ∧ 0 ≤ x1.toInt ∧ x1.toInt + x2.toInt ≤ h0f1.toInt ∧ 0 = r ∧ TP D A [(h0, ob 5 [.int h0f0, .int h0f1, .ref h1])] H)
set_option maxHeartbeats 4000000 in
set_option maxRecDepth 100000 in
theorem cX6_isOutside_cc85b (l : Launch) (D : va_G) (k : Nat → ClassId) (sz : Nat) (h0 h1 : Nat) (x1 : Int32) (x2 : Int32) (h0f0 : Int32) (h0f1 : Int32) (b_h0f0 : 0 ≤ h0f0.toInt ∧ h0f0.toInt ≤ 2) (b_h0f1 : 0 ≤ h0f1.toInt ∧ h0f1.toInt ≤ 40) : Met l yX6_isOutside (Cond.code yX6_isOutside cX6_isOutside 3 (some .boolean) :: uw) Rm_cX6_isOutside_cc85b (pT D k sz [.ref h0, .int x1, .int x2] [(h0, ob 5 [.int h0f0, .int h0f1, .ref h1])]) (qI (B_cX6_isOutside_cc85b D k h0 h1 x1 x2 h0f0 h0f1 (zA [h0] sz)) (zA [h0] sz)) 0 0 (zA [h0] sz) := by
  refine tz_begin (as := [h0]) (Qc := fun A => qI (B_cX6_isOutside_cc85b D k h0 h1 x1 x2 h0f0 h0f1 A) A) (by decide +kernel) rfl (Nat.le_of_ble_eq_true rfl) ?_
  intro p e s m args below meth c ls A Q hx hb hr hml hown hlocks hin hU hK hT hS hA hl hQ
  have hl : lv_has ls 3 [(0, .ref h0), (1, .int x1), (2, .int x2)] := hl
  have hT : TP D A [(h0, ob 5 [.int h0f0, .int h0f1, .ref h1])] s.heap := hT
  refine lv_iload_n hx hb dX6_isOutside_0 rfl (lv_at hl 2 rfl) ?_
  refine lv_if_lt (tgt := 22) hx hb dX6_isOutside_1 (by decide) (fun c_1 => ?_) (fun c_1 => ?_)
  · skip
    have c_1 := ni_lt c_1 rfl li_0
    refine lv_iconst (v := 1) hx hb dX6_isOutside_22 (by decide) ?_
    refine lv_goto (tgt := 27) hx hb dX6_isOutside_23 (by decide) ?_
    exact tz_retZ (B := B_cX6_isOutside_cc85b D k h0 h1 x1 x2 h0f0 h0f1) (v := 1) hQ hx hb hr hlocks hS (Nat.le_of_ble_eq_true rfl) (Nat.le_of_ble_eq_true rfl) dX6_isOutside_27 (by have := li_1; omega) (Or.inl ⟨rfl, hT⟩)
  · skip
    have c_1 := ni_nlt c_1 rfl li_0
    refine lv_iload_n hx hb dX6_isOutside_4 rfl (lv_at hl 1 rfl) ?_
    refine lv_if_lt (tgt := 22) hx hb dX6_isOutside_5 (by decide) (fun c_2 => ?_) (fun c_2 => ?_)
    · skip
      have c_2 := ni_lt c_2 rfl li_0
      refine lv_iconst (v := 1) hx hb dX6_isOutside_22 (by decide) ?_
      refine lv_goto (tgt := 27) hx hb dX6_isOutside_23 (by decide) ?_
      exact tz_retZ (B := B_cX6_isOutside_cc85b D k h0 h1 x1 x2 h0f0 h0f1) (v := 1) hQ hx hb hr hlocks hS (Nat.le_of_ble_eq_true rfl) (Nat.le_of_ble_eq_true rfl) dX6_isOutside_27 (by have := li_1; omega) (Or.inl ⟨rfl, hT⟩)
    · skip
      have c_2 := ni_nlt c_2 rfl li_0
      refine lv_iload_n hx hb dX6_isOutside_8 rfl (lv_at hl 1 rfl) ?_
      have tb_x1 := i32b x1
      obtain ⟨v3, e_v3⟩ : ∃ x : Int64, x1.toInt64 = x := ⟨_, rfl⟩
      refine lv_i2l (v := v3) hx hb dX6_isOutside_9 e_v3 ?_
      have e_v3 := ai_i2l e_v3 rfl
      refine lv_iload_n hx hb dX6_isOutside_10 rfl (lv_at hl 2 rfl) ?_
      have tb_x2 := i32b x2
      obtain ⟨v4, e_v4⟩ : ∃ x : Int64, x2.toInt64 = x := ⟨_, rfl⟩
      refine lv_i2l (v := v4) hx hb dX6_isOutside_11 e_v4 ?_
      have e_v4 := ai_i2l e_v4 rfl
      refine lv_ladd hx hb dX6_isOutside_12 (lv_topl (fun v5 e_v5 => ?_))
      have e_v5 := al_add e_v5 rfl rfl (by omega)
      refine lv_aload_n hx hb dX6_isOutside_13 rfl (lv_at hl 0 rfl) ?_
      refine tz_get (ci := 5) (v := .int h0f1) (C := RX6) (F := TX6) (N := 3) hx hb hU iX6 hown hK hT 0 rfl rfl 1 (by decide) w239 (fun _ h9 => h9) rfl dX6_isOutside_14 ?_
      obtain ⟨v6, e_v6⟩ : ∃ x : Int64, h0f1.toInt64 = x := ⟨_, rfl⟩
      refine lv_i2l (v := v6) hx hb dX6_isOutside_17 e_v6 ?_
      have e_v6 := ai_i2l e_v6 rfl
      refine W.lcmp hx hb dX6_isOutside_18 ?_
      refine lv_if_le (tgt := 26) hx hb dX6_isOutside_19 (by decide) (fun c_7 => ?_) (fun c_7 => ?_)
      · skip
        have c_7 := nl_le c_7 rfl rfl
        refine lv_iconst (v := 0) hx hb dX6_isOutside_26 (by decide) ?_
        exact tz_retZ (B := B_cX6_isOutside_cc85b D k h0 h1 x1 x2 h0f0 h0f1) (v := 0) hQ hx hb hr hlocks hS (Nat.le_of_ble_eq_true rfl) (Nat.le_of_ble_eq_true rfl) dX6_isOutside_27 (by have := li_0; omega) (Or.inr (⟨(by have := li_0; omega), (by have := li_0; omega), (by have := li_0; omega), rfl, hT⟩))
      · skip
        have c_7 := nl_nle c_7 rfl rfl
        refine lv_iconst (v := 1) hx hb dX6_isOutside_22 (by decide) ?_
        refine lv_goto (tgt := 27) hx hb dX6_isOutside_23 (by decide) ?_
        exact tz_retZ (B := B_cX6_isOutside_cc85b D k h0 h1 x1 x2 h0f0 h0f1) (v := 1) hQ hx hb hr hlocks hS (Nat.le_of_ble_eq_true rfl) (Nat.le_of_ble_eq_true rfl) dX6_isOutside_27 (by have := li_1; omega) (Or.inl ⟨rfl, hT⟩)
abbrev Rm_cX10_refusalOfTable_450e2 : Room := { frames := 1, cells := 0, slots := 0, locals := 22 }
abbrev B_cX10_refusalOfTable_450e2 (D : va_G) (k : Nat → ClassId) (h0 h1 h4 h17 h18 h19 h20 h2 h3 h5 h6 h7 h8 h9 h10 h11 h12 h13 h37 h38 h39 h40 : Nat) (x1 : Int32) (x2 : Int32) (h0f2 : Int32) (h0f6 : Int32) (h0f8 : Int32) (h0f11 : Int32) (h1f0 : Int32) (h1f1 : Int32) (h1f2 : Int32) (h17f0 : Int32) (h17f1 : Int32) (h18f0 : Int32) (h18f1 : Int32) (h19f0 : Int32) (h19f1 : Int32) (h20f0 : Int32) (h20f1 : Int32) (A : Nat → Prop) (r : Int32) (H : Heap) : Prop := ((-1) = r ∧ TP D A [(h0, ob 7 [.ref h1, .ref h2, .int h0f2, .ref h3, .ref h4, .ref h5, .int h0f6, .ref h6, .int h0f8, .null, .ref h7, .int h0f11, .ref h8, .ref h9, .ref h10, .ref h11, .ref h12]), (h1, ob 4 [.int h1f0, .int h1f1, .int h1f2, .ref h13]), (h4, aQ (k 3) 4 (q4 h17 h18 h19 h20)), (h17, ob 5 [.int h17f0, .int h17f1, .ref h37]), (h18, ob 5 [.int h18f0, .int h18f1, .ref h38]), (h19, ob 5 [.int h19f0, .int h19f1, .ref h39]), (h20, ob 5 [.int h20f0, .int h20f1, .ref h40])] H) ∨ ((-12) = r ∧ TP D A [(h0, ob 7 [.ref h1, .ref h2, .int h0f2, .ref h3, .ref h4, .ref h5, .int h0f6, .ref h6, .int h0f8, .null, .ref h7, .int h0f11, .ref h8, .ref h9, .ref h10, .ref h11, .ref h12]), (h1, ob 4 [.int h1f0, .int h1f1, .int h1f2, .ref h13]), (h4, aQ (k 3) 4 (q4 h17 h18 h19 h20)), (h17, ob 5 [.int h17f0, .int h17f1, .ref h37]), (h18, ob 5 [.int h18f0, .int h18f1, .ref h38]), (h19, ob 5 [.int h19f0, .int h19f1, .ref h39]), (h20, ob 5 [.int h20f0, .int h20f1, .ref h40])] H) ∨ (∃ o0 : Int32, (1 ≤ o0.toInt ∧ o0.toInt ≤ 1) ∧ 0 ≤ x1.toInt ∧ x1.toInt < 4 ∧ x1.toInt = 0 ∧ h17f0.toInt ≠ (-1) ∧ h17f0.toInt ≤ 0 ∧ h1f0.toInt = 1 ∧ o0.toInt = h1f0.toInt ∧ 0 ≤ h1f0.toInt ∧ 0 ≤ x2.toInt ∧ x2.toInt + h1f0.toInt ≤ h17f1.toInt ∧ o0.toInt = h1f0.toInt ∧ 0 = r ∧ TP D A [(h0, ob 7 [.ref h1, .ref h2, .int h0f2, .ref h3, .ref h4, .ref h5, .int h0f6, .ref h6, .int h0f8, .null, .ref h7, .int h0f11, .ref h8, .ref h9, .ref h10, .ref h11, .ref h12]), (h1, ob 4 [.int h1f0, .int h1f1, .int h1f2, .ref h13]), (h4, aQ (k 3) 4 (q4 h17 h18 h19 h20)), (h17, ob 5 [.int h17f0, .int h17f1, .ref h37]), (h18, ob 5 [.int h18f0, .int h18f1, .ref h38]), (h19, ob 5 [.int h19f0, .int h19f1, .ref h39]), (h20, ob 5 [.int h20f0, .int h20f1, .ref h40])] H) ∨ (∃ o0 : Int32, (4 ≤ o0.toInt ∧ o0.toInt ≤ 4) ∧ 0 ≤ x1.toInt ∧ x1.toInt < 4 ∧ x1.toInt = 0 ∧ h17f0.toInt ≠ (-1) ∧ h17f0.toInt ≤ 0 ∧ h1f0.toInt = 2 ∧ o0.toInt = 2 * h1f0.toInt ∧ 0 ≤ 2 * h1f0.toInt ∧ 0 ≤ x2.toInt ∧ x2.toInt + 2 * h1f0.toInt ≤ h17f1.toInt ∧ o0.toInt = 2 * h1f0.toInt ∧ 0 = r ∧ TP D A [(h0, ob 7 [.ref h1, .ref h2, .int h0f2, .ref h3, .ref h4, .ref h5, .int h0f6, .ref h6, .int h0f8, .null, .ref h7, .int h0f11, .ref h8, .ref h9, .ref h10, .ref h11, .ref h12]), (h1, ob 4 [.int h1f0, .int h1f1, .int h1f2, .ref h13]), (h4, aQ (k 3) 4 (q4 h17 h18 h19 h20)), (h17, ob 5 [.int h17f0, .int h17f1, .ref h37]), (h18, ob 5 [.int h18f0, .int h18f1, .ref h38]), (h19, ob 5 [.int h19f0, .int h19f1, .ref h39]), (h20, ob 5 [.int h20f0, .int h20f1, .ref h40])] H) ∨ (∃ o0 : Int32, (9 ≤ o0.toInt ∧ o0.toInt ≤ 9) ∧ 0 ≤ x1.toInt ∧ x1.toInt < 4 ∧ x1.toInt = 0 ∧ h17f0.toInt ≠ (-1) ∧ h17f0.toInt ≤ 0 ∧ h1f0.toInt = 3 ∧ o0.toInt = 3 * h1f0.toInt ∧ 0 ≤ 3 * h1f0.toInt ∧ 0 ≤ x2.toInt ∧ x2.toInt + 3 * h1f0.toInt ≤ h17f1.toInt ∧ o0.toInt = 3 * h1f0.toInt ∧ 0 = r ∧ TP D A [(h0, ob 7 [.ref h1, .ref h2, .int h0f2, .ref h3, .ref h4, .ref h5, .int h0f6, .ref h6, .int h0f8, .null, .ref h7, .int h0f11, .ref h8, .ref h9, .ref h10, .ref h11, .ref h12]), (h1, ob 4 [.int h1f0, .int h1f1, .int h1f2, .ref h13]), (h4, aQ (k 3) 4 (q4 h17 h18 h19 h20)), (h17, ob 5 [.int h17f0, .int h17f1, .ref h37]), (h18, ob 5 [.int h18f0, .int h18f1, .ref h38]), (h19, ob 5 [.int h19f0, .int h19f1, .ref h39]), (h20, ob 5 [.int h20f0, .int h20f1, .ref h40])] H) ∨ ((-13) = r ∧ TP D A [(h0, ob 7 [.ref h1, .ref h2, .int h0f2, .ref h3, .ref h4, .ref h5, .int h0f6, .ref h6, .int h0f8, .null, .ref h7, .int h0f11, .ref h8, .ref h9, .ref h10, .ref h11, .ref h12]), (h1, ob 4 [.int h1f0, .int h1f1, .int h1f2, .ref h13]), (h4, aQ (k 3) 4 (q4 h17 h18 h19 h20)), (h17, ob 5 [.int h17f0, .int h17f1, .ref h37]), (h18, ob 5 [.int h18f0, .int h18f1, .ref h38]), (h19, ob 5 [.int h19f0, .int h19f1, .ref h39]), (h20, ob 5 [.int h20f0, .int h20f1, .ref h40])] H) ∨ ((-11) = r ∧ TP D A [(h0, ob 7 [.ref h1, .ref h2, .int h0f2, .ref h3, .ref h4, .ref h5, .int h0f6, .ref h6, .int h0f8, .null, .ref h7, .int h0f11, .ref h8, .ref h9, .ref h10, .ref h11, .ref h12]), (h1, ob 4 [.int h1f0, .int h1f1, .int h1f2, .ref h13]), (h4, aQ (k 3) 4 (q4 h17 h18 h19 h20)), (h17, ob 5 [.int h17f0, .int h17f1, .ref h37]), (h18, ob 5 [.int h18f0, .int h18f1, .ref h38]), (h19, ob 5 [.int h19f0, .int h19f1, .ref h39]), (h20, ob 5 [.int h20f0, .int h20f1, .ref h40])] H) ∨ (∃ o0 : Int32, (1 ≤ o0.toInt ∧ o0.toInt ≤ 1) ∧ 0 ≤ x1.toInt ∧ x1.toInt < 4 ∧ x1.toInt = 1 ∧ h18f0.toInt ≠ (-1) ∧ h18f0.toInt ≤ 0 ∧ h1f0.toInt = 1 ∧ o0.toInt = h1f0.toInt ∧ 0 ≤ h1f0.toInt ∧ 0 ≤ x2.toInt ∧ x2.toInt + h1f0.toInt ≤ h18f1.toInt ∧ o0.toInt = h1f0.toInt ∧ 0 = r ∧ TP D A [(h0, ob 7 [.ref h1, .ref h2, .int h0f2, .ref h3, .ref h4, .ref h5, .int h0f6, .ref h6, .int h0f8, .null, .ref h7, .int h0f11, .ref h8, .ref h9, .ref h10, .ref h11, .ref h12]), (h1, ob 4 [.int h1f0, .int h1f1, .int h1f2, .ref h13]), (h4, aQ (k 3) 4 (q4 h17 h18 h19 h20)), (h17, ob 5 [.int h17f0, .int h17f1, .ref h37]), (h18, ob 5 [.int h18f0, .int h18f1, .ref h38]), (h19, ob 5 [.int h19f0, .int h19f1, .ref h39]), (h20, ob 5 [.int h20f0, .int h20f1, .ref h40])] H) ∨ (∃ o0 : Int32, (4 ≤ o0.toInt ∧ o0.toInt ≤ 4) ∧ 0 ≤ x1.toInt ∧ x1.toInt < 4 ∧ x1.toInt = 1 ∧ h18f0.toInt ≠ (-1) ∧ h18f0.toInt ≤ 0 ∧ h1f0.toInt = 2 ∧ o0.toInt = 2 * h1f0.toInt ∧ 0 ≤ 2 * h1f0.toInt ∧ 0 ≤ x2.toInt ∧ x2.toInt + 2 * h1f0.toInt ≤ h18f1.toInt ∧ o0.toInt = 2 * h1f0.toInt ∧ 0 = r ∧ TP D A [(h0, ob 7 [.ref h1, .ref h2, .int h0f2, .ref h3, .ref h4, .ref h5, .int h0f6, .ref h6, .int h0f8, .null, .ref h7, .int h0f11, .ref h8, .ref h9, .ref h10, .ref h11, .ref h12]), (h1, ob 4 [.int h1f0, .int h1f1, .int h1f2, .ref h13]), (h4, aQ (k 3) 4 (q4 h17 h18 h19 h20)), (h17, ob 5 [.int h17f0, .int h17f1, .ref h37]), (h18, ob 5 [.int h18f0, .int h18f1, .ref h38]), (h19, ob 5 [.int h19f0, .int h19f1, .ref h39]), (h20, ob 5 [.int h20f0, .int h20f1, .ref h40])] H) ∨ (∃ o0 : Int32, (9 ≤ o0.toInt ∧ o0.toInt ≤ 9) ∧ 0 ≤ x1.toInt ∧ x1.toInt < 4 ∧ x1.toInt = 1 ∧ h18f0.toInt ≠ (-1) ∧ h18f0.toInt ≤ 0 ∧ h1f0.toInt = 3 ∧ o0.toInt = 3 * h1f0.toInt ∧ 0 ≤ 3 * h1f0.toInt ∧ 0 ≤ x2.toInt ∧ x2.toInt + 3 * h1f0.toInt ≤ h18f1.toInt ∧ o0.toInt = 3 * h1f0.toInt ∧ 0 = r ∧ TP D A [(h0, ob 7 [.ref h1, .ref h2, .int h0f2, .ref h3, .ref h4, .ref h5, .int h0f6, .ref h6, .int h0f8, .null, .ref h7, .int h0f11, .ref h8, .ref h9, .ref h10, .ref h11, .ref h12]), (h1, ob 4 [.int h1f0, .int h1f1, .int h1f2, .ref h13]), (h4, aQ (k 3) 4 (q4 h17 h18 h19 h20)), (h17, ob 5 [.int h17f0, .int h17f1, .ref h37]), (h18, ob 5 [.int h18f0, .int h18f1, .ref h38]), (h19, ob 5 [.int h19f0, .int h19f1, .ref h39]), (h20, ob 5 [.int h20f0, .int h20f1, .ref h40])] H) ∨ (∃ o0 : Int32, (1 ≤ o0.toInt ∧ o0.toInt ≤ 1) ∧ 0 ≤ x1.toInt ∧ x1.toInt < 4 ∧ x1.toInt = 2 ∧ h19f0.toInt ≠ (-1) ∧ h19f0.toInt ≤ 0 ∧ h1f0.toInt = 1 ∧ o0.toInt = h1f0.toInt ∧ 0 ≤ h1f0.toInt ∧ 0 ≤ x2.toInt ∧ x2.toInt + h1f0.toInt ≤ h19f1.toInt ∧ o0.toInt = h1f0.toInt ∧ 0 = r ∧ TP D A [(h0, ob 7 [.ref h1, .ref h2, .int h0f2, .ref h3, .ref h4, .ref h5, .int h0f6, .ref h6, .int h0f8, .null, .ref h7, .int h0f11, .ref h8, .ref h9, .ref h10, .ref h11, .ref h12]), (h1, ob 4 [.int h1f0, .int h1f1, .int h1f2, .ref h13]), (h4, aQ (k 3) 4 (q4 h17 h18 h19 h20)), (h17, ob 5 [.int h17f0, .int h17f1, .ref h37]), (h18, ob 5 [.int h18f0, .int h18f1, .ref h38]), (h19, ob 5 [.int h19f0, .int h19f1, .ref h39]), (h20, ob 5 [.int h20f0, .int h20f1, .ref h40])] H) ∨ (∃ o0 : Int32, (4 ≤ o0.toInt ∧ o0.toInt ≤ 4) ∧ 0 ≤ x1.toInt ∧ x1.toInt < 4 ∧ x1.toInt = 2 ∧ h19f0.toInt ≠ (-1) ∧ h19f0.toInt ≤ 0 ∧ h1f0.toInt = 2 ∧ o0.toInt = 2 * h1f0.toInt ∧ 0 ≤ 2 * h1f0.toInt ∧ 0 ≤ x2.toInt ∧ x2.toInt + 2 * h1f0.toInt ≤ h19f1.toInt ∧ o0.toInt = 2 * h1f0.toInt ∧ 0 = r ∧ TP D A [(h0, ob 7 [.ref h1, .ref h2, .int h0f2, .ref h3, .ref h4, .ref h5, .int h0f6, .ref h6, .int h0f8, .null, .ref h7, .int h0f11, .ref h8, .ref h9, .ref h10, .ref h11, .ref h12]), (h1, ob 4 [.int h1f0, .int h1f1, .int h1f2, .ref h13]), (h4, aQ (k 3) 4 (q4 h17 h18 h19 h20)), (h17, ob 5 [.int h17f0, .int h17f1, .ref h37]), (h18, ob 5 [.int h18f0, .int h18f1, .ref h38]), (h19, ob 5 [.int h19f0, .int h19f1, .ref h39]), (h20, ob 5 [.int h20f0, .int h20f1, .ref h40])] H) ∨ (∃ o0 : Int32, (9 ≤ o0.toInt ∧ o0.toInt ≤ 9) ∧ 0 ≤ x1.toInt ∧ x1.toInt < 4 ∧ x1.toInt = 2 ∧ h19f0.toInt ≠ (-1) ∧ h19f0.toInt ≤ 0 ∧ h1f0.toInt = 3 ∧ o0.toInt = 3 * h1f0.toInt ∧ 0 ≤ 3 * h1f0.toInt ∧ 0 ≤ x2.toInt ∧ x2.toInt + 3 * h1f0.toInt ≤ h19f1.toInt ∧ o0.toInt = 3 * h1f0.toInt ∧ 0 = r ∧ TP D A [(h0, ob 7 [.ref h1, .ref h2, .int h0f2, .ref h3, .ref h4, .ref h5, .int h0f6, .ref h6, .int h0f8, .null, .ref h7, .int h0f11, .ref h8, .ref h9, .ref h10, .ref h11, .ref h12]), (h1, ob 4 [.int h1f0, .int h1f1, .int h1f2, .ref h13]), (h4, aQ (k 3) 4 (q4 h17 h18 h19 h20)), (h17, ob 5 [.int h17f0, .int h17f1, .ref h37]), (h18, ob 5 [.int h18f0, .int h18f1, .ref h38]), (h19, ob 5 [.int h19f0, .int h19f1, .ref h39]), (h20, ob 5 [.int h20f0, .int h20f1, .ref h40])] H) ∨ (∃ o0 : Int32, (1 ≤ o0.toInt ∧ o0.toInt ≤ 1) ∧ 0 ≤ x1.toInt ∧ x1.toInt < 4 ∧ x1.toInt = 3 ∧ h20f0.toInt ≠ (-1) ∧ h20f0.toInt ≤ 0 ∧ h1f0.toInt = 1 ∧ o0.toInt = h1f0.toInt ∧ 0 ≤ h1f0.toInt ∧ 0 ≤ x2.toInt ∧ x2.toInt + h1f0.toInt ≤ h20f1.toInt ∧ o0.toInt = h1f0.toInt ∧ 0 = r ∧ TP D A [(h0, ob 7 [.ref h1, .ref h2, .int h0f2, .ref h3, .ref h4, .ref h5, .int h0f6, .ref h6, .int h0f8, .null, .ref h7, .int h0f11, .ref h8, .ref h9, .ref h10, .ref h11, .ref h12]), (h1, ob 4 [.int h1f0, .int h1f1, .int h1f2, .ref h13]), (h4, aQ (k 3) 4 (q4 h17 h18 h19 h20)), (h17, ob 5 [.int h17f0, .int h17f1, .ref h37]), (h18, ob 5 [.int h18f0, .int h18f1, .ref h38]), (h19, ob 5 [.int h19f0, .int h19f1, .ref h39]), (h20, ob 5 [.int h20f0, .int h20f1, .ref h40])] H) ∨ (∃ o0 : Int32, (4 ≤ o0.toInt ∧ o0.toInt ≤ 4) ∧ 0 ≤ x1.toInt ∧ x1.toInt < 4 ∧ x1.toInt = 3 ∧ h20f0.toInt ≠ (-1) ∧ h20f0.toInt ≤ 0 ∧ h1f0.toInt = 2 ∧ o0.toInt = 2 * h1f0.toInt ∧ 0 ≤ 2 * h1f0.toInt ∧ 0 ≤ x2.toInt ∧ x2.toInt + 2 * h1f0.toInt ≤ h20f1.toInt ∧ o0.toInt = 2 * h1f0.toInt ∧ 0 = r ∧ TP D A [(h0, ob 7 [.ref h1, .ref h2, .int h0f2, .ref h3, .ref h4, .ref h5, .int h0f6, .ref h6, .int h0f8, .null, .ref h7, .int h0f11, .ref h8, .ref h9, .ref h10, .ref h11, .ref h12]), (h1, ob 4 [.int h1f0, .int h1f1, .int h1f2, .ref h13]), (h4, aQ (k 3) 4 (q4 h17 h18 h19 h20)), (h17, ob 5 [.int h17f0, .int h17f1, .ref h37]), (h18, ob 5 [.int h18f0, .int h18f1, .ref h38]), (h19, ob 5 [.int h19f0, .int h19f1, .ref h39]), (h20, ob 5 [.int h20f0, .int h20f1, .ref h40])] H) ∨ (∃ o0 : Int32, (9 ≤ o0.toInt ∧ o0.toInt ≤ 9) ∧ 0 ≤ x1.toInt ∧ x1.toInt < 4 ∧ x1.toInt = 3 ∧ h20f0.toInt ≠ (-1) ∧ h20f0.toInt ≤ 0 ∧ h1f0.toInt = 3 ∧ o0.toInt = 3 * h1f0.toInt ∧ 0 ≤ 3 * h1f0.toInt ∧ 0 ≤ x2.toInt ∧ x2.toInt + 3 * h1f0.toInt ≤ h20f1.toInt ∧ o0.toInt = 3 * h1f0.toInt ∧ 0 = r ∧ TP D A [(h0, ob 7 [.ref h1, .ref h2, .int h0f2, .ref h3, .ref h4, .ref h5, .int h0f6, .ref h6, .int h0f8, .null, .ref h7, .int h0f11, .ref h8, .ref h9, .ref h10, .ref h11, .ref h12]), (h1, ob 4 [.int h1f0, .int h1f1, .int h1f2, .ref h13]), (h4, aQ (k 3) 4 (q4 h17 h18 h19 h20)), (h17, ob 5 [.int h17f0, .int h17f1, .ref h37]), (h18, ob 5 [.int h18f0, .int h18f1, .ref h38]), (h19, ob 5 [.int h19f0, .int h19f1, .ref h39]), (h20, ob 5 [.int h20f0, .int h20f1, .ref h40])] H)
set_option maxHeartbeats 4000000 in
set_option maxRecDepth 100000 in
theorem cX10_refusalOfTable_450e2 (l : Launch) (D : va_G) (k : Nat → ClassId) (sz : Nat) (h0 h1 h4 h17 h18 h19 h20 h2 h3 h5 h6 h7 h8 h9 h10 h11 h12 h13 h37 h38 h39 h40 : Nat) (x1 : Int32) (x2 : Int32) (h0f2 : Int32) (h0f6 : Int32) (h0f8 : Int32) (h0f11 : Int32) (h1f0 : Int32) (h1f1 : Int32) (h1f2 : Int32) (h17f0 : Int32) (h17f1 : Int32) (h18f0 : Int32) (h18f1 : Int32) (h19f0 : Int32) (h19f1 : Int32) (h20f0 : Int32) (h20f1 : Int32) (b_h0f2 : 0 ≤ h0f2.toInt ∧ h0f2.toInt ≤ 1) (b_h0f6 : 0 ≤ h0f6.toInt ∧ h0f6.toInt ≤ 1) (b_h0f8 : 0 ≤ h0f8.toInt ∧ h0f8.toInt ≤ 1) (b_h0f11 : 0 ≤ h0f11.toInt ∧ h0f11.toInt ≤ 200) (b_h1f0 : 1 ≤ h1f0.toInt ∧ h1f0.toInt ≤ 3) (b_h1f1 : 0 ≤ h1f1.toInt ∧ h1f1.toInt ≤ 4) (b_h17f0 : (-1) ≤ h17f0.toInt ∧ h17f0.toInt ≤ 2) (b_h17f1 : 0 ≤ h17f1.toInt ∧ h17f1.toInt ≤ 40) (b_h18f0 : (-1) ≤ h18f0.toInt ∧ h18f0.toInt ≤ 2) (b_h18f1 : 0 ≤ h18f1.toInt ∧ h18f1.toInt ≤ 40) (b_h19f0 : (-1) ≤ h19f0.toInt ∧ h19f0.toInt ≤ 2) (b_h19f1 : 0 ≤ h19f1.toInt ∧ h19f1.toInt ≤ 40) (b_h20f0 : (-1) ≤ h20f0.toInt ∧ h20f0.toInt ≤ 2) (b_h20f1 : 0 ≤ h20f1.toInt ∧ h20f1.toInt ≤ 40) : Met l yX10_refusalOfTable (Cond.code yX10_refusalOfTable cX10_refusalOfTable 5 (some .int) :: uw) Rm_cX10_refusalOfTable_450e2 (pT D k sz [.ref h0, .int x1, .int x2, .int 0] [(h0, ob 7 [.ref h1, .ref h2, .int h0f2, .ref h3, .ref h4, .ref h5, .int h0f6, .ref h6, .int h0f8, .null, .ref h7, .int h0f11, .ref h8, .ref h9, .ref h10, .ref h11, .ref h12]), (h1, ob 4 [.int h1f0, .int h1f1, .int h1f2, .ref h13]), (h4, aQ (k 3) 4 (q4 h17 h18 h19 h20)), (h17, ob 5 [.int h17f0, .int h17f1, .ref h37]), (h18, ob 5 [.int h18f0, .int h18f1, .ref h38]), (h19, ob 5 [.int h19f0, .int h19f1, .ref h39]), (h20, ob 5 [.int h20f0, .int h20f1, .ref h40])]) (qI (B_cX10_refusalOfTable_450e2 D k h0 h1 h4 h17 h18 h19 h20 h2 h3 h5 h6 h7 h8 h9 h10 h11 h12 h13 h37 h38 h39 h40 x1 x2 h0f2 h0f6 h0f8 h0f11 h1f0 h1f1 h1f2 h17f0 h17f1 h18f0 h18f1 h19f0 h19f1 h20f0 h20f1 (zA [h0, h1, h4, h17, h18, h19, h20] sz)) (zA [h0, h1, h4, h17, h18, h19, h20] sz)) 0 0 (zA [h0, h1, h4, h17, h18, h19, h20] sz) := by
  refine tz_begin (as := [h0, h1, h4, h17, h18, h19, h20]) (Qc := fun A => qI (B_cX10_refusalOfTable_450e2 D k h0 h1 h4 h17 h18 h19 h20 h2 h3 h5 h6 h7 h8 h9 h10 h11 h12 h13 h37 h38 h39 h40 x1 x2 h0f2 h0f6 h0f8 h0f11 h1f0 h1f1 h1f2 h17f0 h17f1 h18f0 h18f1 h19f0 h19f1 h20f0 h20f1 A) A) (by decide +kernel) rfl (Nat.le_of_ble_eq_true rfl) ?_
  intro p e s m args below meth c ls A Q hx hb hr hml hown hlocks hin hU hK hT hS hA hl hQ
  have hl : lv_has ls 5 [(0, .ref h0), (1, .int x1), (2, .int x2), (3, .int 0)] := hl
  have hT : TP D A [(h0, ob 7 [.ref h1, .ref h2, .int h0f2, .ref h3, .ref h4, .ref h5, .int h0f6, .ref h6, .int h0f8, .null, .ref h7, .int h0f11, .ref h8, .ref h9, .ref h10, .ref h11, .ref h12]), (h1, ob 4 [.int h1f0, .int h1f1, .int h1f2, .ref h13]), (h4, aQ (k 3) 4 (q4 h17 h18 h19 h20)), (h17, ob 5 [.int h17f0, .int h17f1, .ref h37]), (h18, ob 5 [.int h18f0, .int h18f1, .ref h38]), (h19, ob 5 [.int h19f0, .int h19f1, .ref h39]), (h20, ob 5 [.int h20f0, .int h20f1, .ref h40])] s.heap := hT
  refine lv_iload_n hx hb dX10_refusalOfTable_0 rfl (lv_at hl 1 rfl) ?_
  refine tcI (Tc := []) (Tr := [(h0, ob 7 [.ref h1, .ref h2, .int h0f2, .ref h3, .ref h4, .ref h5, .int h0f6, .ref h6, .int h0f8, .null, .ref h7, .int h0f11, .ref h8, .ref h9, .ref h10, .ref h11, .ref h12]), (h1, ob 4 [.int h1f0, .int h1f1, .int h1f2, .ref h13]), (h4, aQ (k 3) 4 (q4 h17 h18 h19 h20)), (h17, ob 5 [.int h17f0, .int h17f1, .ref h37]), (h18, ob 5 [.int h18f0, .int h18f1, .ref h38]), (h19, ob 5 [.int h19f0, .int h19f1, .ref h39]), (h20, ob 5 [.int h20f0, .int h20f1, .ref h40])]) (as := []) (zcS (As := [.int x1]) (rest := []) (Tc := []) hx hb hml hown hU hK hT [] rfl (by decide) (cX10_isSheet_f635c l D k _ x1) w640 w638 w639 w63 hdX10_isSheet ⟨rfl, rfl⟩ ⟨Nat.le_of_ble_eq_true rfl, Nat.le_of_ble_eq_true rfl⟩ rfl hl.1 (Nat.le_of_ble_eq_true rfl) dX10_refusalOfTable_1 ⟨Nat.le_of_ble_eq_true rfl, Nat.le_of_ble_eq_true rfl⟩) hT hS hA [] [0, 1, 2, 3, 4, 5, 6] rfl rfl rfl (by decide) (by decide) (fun r1 H locs hB J hS => ?_)
  rcases hB with ⟨rfl, hT1⟩ | ⟨c_2, c_3, rfl, hT1⟩
  · skip
    have hT := J _ hT1
    have hT : TP D A [(h0, ob 7 [.ref h1, .ref h2, .int h0f2, .ref h3, .ref h4, .ref h5, .int h0f6, .ref h6, .int h0f8, .null, .ref h7, .int h0f11, .ref h8, .ref h9, .ref h10, .ref h11, .ref h12]), (h1, ob 4 [.int h1f0, .int h1f1, .int h1f2, .ref h13]), (h4, aQ (k 3) 4 (q4 h17 h18 h19 h20)), (h17, ob 5 [.int h17f0, .int h17f1, .ref h37]), (h18, ob 5 [.int h18f0, .int h18f1, .ref h38]), (h19, ob 5 [.int h19f0, .int h19f1, .ref h39]), (h20, ob 5 [.int h20f0, .int h20f1, .ref h40])] _ := hT
    refine lv_if_ne (tgt := 9) hx hb dX10_refusalOfTable_4 (by decide) (fun cc => absurd (by decide +kernel) cc) (fun _ => ?_)
    refine lv_iconst (v := (-1)) hx hb dX10_refusalOfTable_7 (by decide) ?_
    exact tz_retI (B := B_cX10_refusalOfTable_450e2 D k h0 h1 h4 h17 h18 h19 h20 h2 h3 h5 h6 h7 h8 h9 h10 h11 h12 h13 h37 h38 h39 h40 x1 x2 h0f2 h0f6 h0f8 h0f11 h1f0 h1f1 h1f2 h17f0 h17f1 h18f0 h18f1 h19f0 h19f1 h20f0 h20f1) (v := (-1)) hQ hx hb hr hlocks hS (Nat.le_of_ble_eq_true rfl) (Nat.le_of_ble_eq_true rfl) dX10_refusalOfTable_8 (Or.inl ⟨rfl, hT⟩)
  · skip
    have hT := J _ hT1
    have hT : TP D A [(h0, ob 7 [.ref h1, .ref h2, .int h0f2, .ref h3, .ref h4, .ref h5, .int h0f6, .ref h6, .int h0f8, .null, .ref h7, .int h0f11, .ref h8, .ref h9, .ref h10, .ref h11, .ref h12]), (h1, ob 4 [.int h1f0, .int h1f1, .int h1f2, .ref h13]), (h4, aQ (k 3) 4 (q4 h17 h18 h19 h20)), (h17, ob 5 [.int h17f0, .int h17f1, .ref h37]), (h18, ob 5 [.int h18f0, .int h18f1, .ref h38]), (h19, ob 5 [.int h19f0, .int h19f1, .ref h39]), (h20, ob 5 [.int h20f0, .int h20f1, .ref h40])] _ := hT
    refine lv_if_ne (tgt := 9) hx hb dX10_refusalOfTable_4 (by decide) (fun _ => ?_) (fun cc => absurd cc (by decide +kernel))
    refine lv_aload_n hx hb dX10_refusalOfTable_9 rfl (lv_at hl 0 rfl) ?_
    refine tz_get (ci := 7) (v := .ref h4) (C := RX10) (F := TX10) (N := 17) hx hb hU iX10 hown hK hT 0 rfl rfl 4 (by decide) w253 (fun _ h9 => h9) rfl dX10_refusalOfTable_10 ?_
    refine lv_iload_n hx hb dX10_refusalOfTable_13 rfl (lv_at hl 1 rfl) ?_
    rcases (show x1.toInt = 0 ∨ x1.toInt = 1 ∨ x1.toInt = 2 ∨ x1.toInt = 3 by omega) with hq4 | hq4 | hq4 | hq4
    · skip
      refine tz_aldq (b := h17) hx hb hK hT 2 rfl (vp_in_iff.mpr (by have := hq4; omega)) (fun f hf => by rw [cl_of hq4]; exact hf.1) dX10_refusalOfTable_14 ?_
      refine lv_astore (lv' := [(4, .ref h17), (0, .ref h0), (1, .int x1), (2, .int x2), (3, .int 0)]) hx hb dX10_refusalOfTable_15 hl (by decide) rfl (fun ls hl => ?_)
      refine lv_aload hx hb dX10_refusalOfTable_17 (lv_at hl 0 rfl) ?_
      refine tcI (Tc := [(h17, ob 5 [.int h17f0, .int h17f1, .ref h37])]) (Tr := [(h0, ob 7 [.ref h1, .ref h2, .int h0f2, .ref h3, .ref h4, .ref h5, .int h0f6, .ref h6, .int h0f8, .null, .ref h7, .int h0f11, .ref h8, .ref h9, .ref h10, .ref h11, .ref h12]), (h1, ob 4 [.int h1f0, .int h1f1, .int h1f2, .ref h13]), (h4, aQ (k 3) 4 (q4 h17 h18 h19 h20)), (h18, ob 5 [.int h18f0, .int h18f1, .ref h38]), (h19, ob 5 [.int h19f0, .int h19f1, .ref h39]), (h20, ob 5 [.int h20f0, .int h20f1, .ref h40])]) (as := [h17]) (zcV (q0 := 3) (ci := 5) (As := []) (rest := []) (Tc := [(h17, ob 5 [.int h17f0, .int h17f1, .ref h37])]) hx hb hml hown hU hK hT rfl rfl [3] rfl (by decide) (cX6_isMissing_56a93 l D k _ h17 h37 h17f0 h17f1 (by omega) (by omega)) w644 w641 w642 w643 w71 hdX6_isMissing ⟨rfl, rfl⟩ ⟨Nat.le_of_ble_eq_true rfl, Nat.le_of_ble_eq_true rfl⟩ rfl hl.1 (Nat.le_of_ble_eq_true rfl) dX10_refusalOfTable_19 ⟨Nat.le_of_ble_eq_true rfl, Nat.le_of_ble_eq_true rfl⟩) hT hS hA [3] [0, 1, 2, 4, 5, 6] rfl rfl rfl (by decide) (by decide) (fun r5 H locs hB J hS => ?_)
      rcases hB with ⟨c_6, rfl, hT1⟩ | ⟨rfl, hT1⟩
      · skip
        have hT := J _ hT1
        have hT : TP D A [(h0, ob 7 [.ref h1, .ref h2, .int h0f2, .ref h3, .ref h4, .ref h5, .int h0f6, .ref h6, .int h0f8, .null, .ref h7, .int h0f11, .ref h8, .ref h9, .ref h10, .ref h11, .ref h12]), (h1, ob 4 [.int h1f0, .int h1f1, .int h1f2, .ref h13]), (h4, aQ (k 3) 4 (q4 h17 h18 h19 h20)), (h18, ob 5 [.int h18f0, .int h18f1, .ref h38]), (h19, ob 5 [.int h19f0, .int h19f1, .ref h39]), (h20, ob 5 [.int h20f0, .int h20f1, .ref h40]), (h17, ob 5 [.int h17f0, .int h17f1, .ref h37])] _ := hT
        refine lv_if_eq (tgt := 28) hx hb dX10_refusalOfTable_22 (by decide) (fun _ => ?_) (fun cc => absurd (by decide +kernel) cc)
        refine lv_aload hx hb dX10_refusalOfTable_28 (lv_at hl 0 rfl) ?_
        refine tz_get (ci := 5) (v := .int h17f0) (C := RX6) (F := TX6) (N := 3) hx hb hU iX6 hown hK hT 6 rfl rfl 0 (by decide) w238 (fun _ h9 => h9) rfl dX10_refusalOfTable_30 ?_
        refine lv_iload_n hx hb dX10_refusalOfTable_33 rfl (lv_at hl 4 rfl) ?_
        refine lv_icmp_le (tgt := 40) hx hb dX10_refusalOfTable_34 (by decide) (fun c_7 => ?_) (fun c_7 => ?_)
        · skip
          have c_7 := ni_le c_7 rfl li_0
          refine lv_aload hx hb dX10_refusalOfTable_40 (lv_at hl 0 rfl) ?_
          refine lv_iload_n hx hb dX10_refusalOfTable_42 rfl (lv_at hl 3 rfl) ?_
          refine lv_aload_n hx hb dX10_refusalOfTable_43 rfl (lv_at hl 1 rfl) ?_
          refine tz_get (ci := 7) (v := .ref h1) (C := RX10) (F := TX10) (N := 17) hx hb hU iX10 hown hK hT 0 rfl rfl 0 (by decide) w249 (fun _ h9 => h9) rfl dX10_refusalOfTable_44 ?_
          refine tcI (Tc := [(h1, ob 4 [.int h1f0, .int h1f1, .int h1f2, .ref h13])]) (Tr := [(h0, ob 7 [.ref h1, .ref h2, .int h0f2, .ref h3, .ref h4, .ref h5, .int h0f6, .ref h6, .int h0f8, .null, .ref h7, .int h0f11, .ref h8, .ref h9, .ref h10, .ref h11, .ref h12]), (h4, aQ (k 3) 4 (q4 h17 h18 h19 h20)), (h18, ob 5 [.int h18f0, .int h18f1, .ref h38]), (h19, ob 5 [.int h19f0, .int h19f1, .ref h39]), (h20, ob 5 [.int h20f0, .int h20f1, .ref h40]), (h17, ob 5 [.int h17f0, .int h17f1, .ref h37])]) (as := [h1]) (zcV (q0 := 1) (ci := 4) (As := []) (rest := [.int x2, .ref h17]) (Tc := [(h1, ob 4 [.int h1f0, .int h1f1, .int h1f2, .ref h13])]) hx hb hml hown hU hK hT rfl rfl [1] rfl (by decide) (cX5_cellCount_f3983 l D k _ h1 h13 h1f0 h1f1 h1f2 (by omega) (by omega)) w385 w382 w383 w384 w64 hdX5_cellCount ⟨rfl, rfl⟩ ⟨Nat.le_of_ble_eq_true rfl, Nat.le_of_ble_eq_true rfl⟩ rfl hl.1 (Nat.le_of_ble_eq_true rfl) dX10_refusalOfTable_47 ⟨Nat.le_of_ble_eq_true rfl, Nat.le_of_ble_eq_true rfl⟩) hT hS hA [1] [0, 2, 3, 4, 5, 6] rfl rfl rfl (by decide) (by decide) (fun r8 H locs hB J hS => ?_)
          rcases hB with ⟨v9, b_v9, c_10, c_11, rfl, hT1⟩ | ⟨v12, b_v12, c_13, c_14, rfl, hT1⟩ | ⟨v15, b_v15, c_16, c_17, rfl, hT1⟩
          · skip
            have hT := J _ hT1
            have hT : TP D A [(h0, ob 7 [.ref h1, .ref h2, .int h0f2, .ref h3, .ref h4, .ref h5, .int h0f6, .ref h6, .int h0f8, .null, .ref h7, .int h0f11, .ref h8, .ref h9, .ref h10, .ref h11, .ref h12]), (h4, aQ (k 3) 4 (q4 h17 h18 h19 h20)), (h18, ob 5 [.int h18f0, .int h18f1, .ref h38]), (h19, ob 5 [.int h19f0, .int h19f1, .ref h39]), (h20, ob 5 [.int h20f0, .int h20f1, .ref h40]), (h17, ob 5 [.int h17f0, .int h17f1, .ref h37]), (h1, ob 4 [.int h1f0, .int h1f1, .int h1f2, .ref h13])] _ := hT
            refine tcI (Tc := [(h17, ob 5 [.int h17f0, .int h17f1, .ref h37])]) (Tr := [(h0, ob 7 [.ref h1, .ref h2, .int h0f2, .ref h3, .ref h4, .ref h5, .int h0f6, .ref h6, .int h0f8, .null, .ref h7, .int h0f11, .ref h8, .ref h9, .ref h10, .ref h11, .ref h12]), (h4, aQ (k 3) 4 (q4 h17 h18 h19 h20)), (h18, ob 5 [.int h18f0, .int h18f1, .ref h38]), (h19, ob 5 [.int h19f0, .int h19f1, .ref h39]), (h20, ob 5 [.int h20f0, .int h20f1, .ref h40]), (h1, ob 4 [.int h1f0, .int h1f1, .int h1f2, .ref h13])]) (as := [h17]) (zcV (q0 := 5) (ci := 5) (As := [.int x2, .int v9]) (rest := []) (Tc := [(h17, ob 5 [.int h17f0, .int h17f1, .ref h37])]) hx hb hml hown hU hK hT rfl rfl [5] rfl (by decide) (cX6_isOutside_cc85b l D k _ h17 h37 x2 v9 h17f0 h17f1 (by omega) (by omega)) w648 w645 w646 w647 w71 hdX6_isOutside ⟨rfl, rfl⟩ ⟨Nat.le_of_ble_eq_true rfl, Nat.le_of_ble_eq_true rfl⟩ rfl hl.1 (Nat.le_of_ble_eq_true rfl) dX10_refusalOfTable_50 ⟨Nat.le_of_ble_eq_true rfl, Nat.le_of_ble_eq_true rfl⟩) hT hS hA [5] [0, 1, 2, 3, 4, 6] rfl rfl rfl (by decide) (by decide) (fun r18 H locs hB J hS => ?_)
            rcases hB with ⟨rfl, hT1⟩ | ⟨c_19, c_20, c_21, rfl, hT1⟩
            · skip
              have hT := J _ hT1
              have hT : TP D A [(h0, ob 7 [.ref h1, .ref h2, .int h0f2, .ref h3, .ref h4, .ref h5, .int h0f6, .ref h6, .int h0f8, .null, .ref h7, .int h0f11, .ref h8, .ref h9, .ref h10, .ref h11, .ref h12]), (h4, aQ (k 3) 4 (q4 h17 h18 h19 h20)), (h18, ob 5 [.int h18f0, .int h18f1, .ref h38]), (h19, ob 5 [.int h19f0, .int h19f1, .ref h39]), (h20, ob 5 [.int h20f0, .int h20f1, .ref h40]), (h1, ob 4 [.int h1f0, .int h1f1, .int h1f2, .ref h13]), (h17, ob 5 [.int h17f0, .int h17f1, .ref h37])] _ := hT
              refine lv_if_eq (tgt := 61) hx hb dX10_refusalOfTable_53 (by decide) (fun cc => absurd cc (by decide +kernel)) (fun _ => ?_)
              refine lv_bipush (v := (-12)) hx hb dX10_refusalOfTable_56 (by decide) ?_
              refine lv_goto (tgt := 62) hx hb dX10_refusalOfTable_58 (by decide) ?_
              exact tz_retI (B := B_cX10_refusalOfTable_450e2 D k h0 h1 h4 h17 h18 h19 h20 h2 h3 h5 h6 h7 h8 h9 h10 h11 h12 h13 h37 h38 h39 h40 x1 x2 h0f2 h0f6 h0f8 h0f11 h1f0 h1f1 h1f2 h17f0 h17f1 h18f0 h18f1 h19f0 h19f1 h20f0 h20f1) (v := (-12)) hQ hx hb hr hlocks hS (Nat.le_of_ble_eq_true rfl) (Nat.le_of_ble_eq_true rfl) dX10_refusalOfTable_62 (Or.inr (Or.inl ⟨rfl, (hT.sub [0, 5, 1, 6, 2, 3, 4] (by decide) rfl)⟩))
            · skip
              have hT := J _ hT1
              have hT : TP D A [(h0, ob 7 [.ref h1, .ref h2, .int h0f2, .ref h3, .ref h4, .ref h5, .int h0f6, .ref h6, .int h0f8, .null, .ref h7, .int h0f11, .ref h8, .ref h9, .ref h10, .ref h11, .ref h12]), (h4, aQ (k 3) 4 (q4 h17 h18 h19 h20)), (h18, ob 5 [.int h18f0, .int h18f1, .ref h38]), (h19, ob 5 [.int h19f0, .int h19f1, .ref h39]), (h20, ob 5 [.int h20f0, .int h20f1, .ref h40]), (h1, ob 4 [.int h1f0, .int h1f1, .int h1f2, .ref h13]), (h17, ob 5 [.int h17f0, .int h17f1, .ref h37])] _ := hT
              refine lv_if_eq (tgt := 61) hx hb dX10_refusalOfTable_53 (by decide) (fun _ => ?_) (fun cc => absurd (by decide +kernel) cc)
              refine lv_iconst (v := 0) hx hb dX10_refusalOfTable_61 (by decide) ?_
              exact tz_retI (B := B_cX10_refusalOfTable_450e2 D k h0 h1 h4 h17 h18 h19 h20 h2 h3 h5 h6 h7 h8 h9 h10 h11 h12 h13 h37 h38 h39 h40 x1 x2 h0f2 h0f6 h0f8 h0f11 h1f0 h1f1 h1f2 h17f0 h17f1 h18f0 h18f1 h19f0 h19f1 h20f0 h20f1) (v := 0) hQ hx hb hr hlocks hS (Nat.le_of_ble_eq_true rfl) (Nat.le_of_ble_eq_true rfl) dX10_refusalOfTable_62 (Or.inr (Or.inr (Or.inl ⟨v9, (by have := li_0; omega), (by have := li_0; omega), (by have := li_0; omega), (by have := li_0; omega), (by have := li_0; omega), (by have := li_0; omega), (by have := li_0; omega), (by have := li_0; omega), (by have := li_0; omega), (by have := li_0; omega), (by have := li_0; omega), (by have := li_0; omega), rfl, (hT.sub [0, 5, 1, 6, 2, 3, 4] (by decide) rfl)⟩)))
          · skip
            have hT := J _ hT1
            have hT : TP D A [(h0, ob 7 [.ref h1, .ref h2, .int h0f2, .ref h3, .ref h4, .ref h5, .int h0f6, .ref h6, .int h0f8, .null, .ref h7, .int h0f11, .ref h8, .ref h9, .ref h10, .ref h11, .ref h12]), (h4, aQ (k 3) 4 (q4 h17 h18 h19 h20)), (h18, ob 5 [.int h18f0, .int h18f1, .ref h38]), (h19, ob 5 [.int h19f0, .int h19f1, .ref h39]), (h20, ob 5 [.int h20f0, .int h20f1, .ref h40]), (h17, ob 5 [.int h17f0, .int h17f1, .ref h37]), (h1, ob 4 [.int h1f0, .int h1f1, .int h1f2, .ref h13])] _ := hT
            refine tcI (Tc := [(h17, ob 5 [.int h17f0, .int h17f1, .ref h37])]) (Tr := [(h0, ob 7 [.ref h1, .ref h2, .int h0f2, .ref h3, .ref h4, .ref h5, .int h0f6, .ref h6, .int h0f8, .null, .ref h7, .int h0f11, .ref h8, .ref h9, .ref h10, .ref h11, .ref h12]), (h4, aQ (k 3) 4 (q4 h17 h18 h19 h20)), (h18, ob 5 [.int h18f0, .int h18f1, .ref h38]), (h19, ob 5 [.int h19f0, .int h19f1, .ref h39]), (h20, ob 5 [.int h20f0, .int h20f1, .ref h40]), (h1, ob 4 [.int h1f0, .int h1f1, .int h1f2, .ref h13])]) (as := [h17]) (zcV (q0 := 5) (ci := 5) (As := [.int x2, .int v12]) (rest := []) (Tc := [(h17, ob 5 [.int h17f0, .int h17f1, .ref h37])]) hx hb hml hown hU hK hT rfl rfl [5] rfl (by decide) (cX6_isOutside_cc85b l D k _ h17 h37 x2 v12 h17f0 h17f1 (by omega) (by omega)) w648 w645 w646 w647 w71 hdX6_isOutside ⟨rfl, rfl⟩ ⟨Nat.le_of_ble_eq_true rfl, Nat.le_of_ble_eq_true rfl⟩ rfl hl.1 (Nat.le_of_ble_eq_true rfl) dX10_refusalOfTable_50 ⟨Nat.le_of_ble_eq_true rfl, Nat.le_of_ble_eq_true rfl⟩) hT hS hA [5] [0, 1, 2, 3, 4, 6] rfl rfl rfl (by decide) (by decide) (fun r22 H locs hB J hS => ?_)
            rcases hB with ⟨rfl, hT1⟩ | ⟨c_23, c_24, c_25, rfl, hT1⟩
            · skip
              have hT := J _ hT1
              have hT : TP D A [(h0, ob 7 [.ref h1, .ref h2, .int h0f2, .ref h3, .ref h4, .ref h5, .int h0f6, .ref h6, .int h0f8, .null, .ref h7, .int h0f11, .ref h8, .ref h9, .ref h10, .ref h11, .ref h12]), (h4, aQ (k 3) 4 (q4 h17 h18 h19 h20)), (h18, ob 5 [.int h18f0, .int h18f1, .ref h38]), (h19, ob 5 [.int h19f0, .int h19f1, .ref h39]), (h20, ob 5 [.int h20f0, .int h20f1, .ref h40]), (h1, ob 4 [.int h1f0, .int h1f1, .int h1f2, .ref h13]), (h17, ob 5 [.int h17f0, .int h17f1, .ref h37])] _ := hT
              refine lv_if_eq (tgt := 61) hx hb dX10_refusalOfTable_53 (by decide) (fun cc => absurd cc (by decide +kernel)) (fun _ => ?_)
              refine lv_bipush (v := (-12)) hx hb dX10_refusalOfTable_56 (by decide) ?_
              refine lv_goto (tgt := 62) hx hb dX10_refusalOfTable_58 (by decide) ?_
              exact tz_retI (B := B_cX10_refusalOfTable_450e2 D k h0 h1 h4 h17 h18 h19 h20 h2 h3 h5 h6 h7 h8 h9 h10 h11 h12 h13 h37 h38 h39 h40 x1 x2 h0f2 h0f6 h0f8 h0f11 h1f0 h1f1 h1f2 h17f0 h17f1 h18f0 h18f1 h19f0 h19f1 h20f0 h20f1) (v := (-12)) hQ hx hb hr hlocks hS (Nat.le_of_ble_eq_true rfl) (Nat.le_of_ble_eq_true rfl) dX10_refusalOfTable_62 (Or.inr (Or.inl ⟨rfl, (hT.sub [0, 5, 1, 6, 2, 3, 4] (by decide) rfl)⟩))
            · skip
              have hT := J _ hT1
              have hT : TP D A [(h0, ob 7 [.ref h1, .ref h2, .int h0f2, .ref h3, .ref h4, .ref h5, .int h0f6, .ref h6, .int h0f8, .null, .ref h7, .int h0f11, .ref h8, .ref h9, .ref h10, .ref h11, .ref h12]), (h4, aQ (k 3) 4 (q4 h17 h18 h19 h20)), (h18, ob 5 [.int h18f0, .int h18f1, .ref h38]), (h19, ob 5 [.int h19f0, .int h19f1, .ref h39]), (h20, ob 5 [.int h20f0, .int h20f1, .ref h40]), (h1, ob 4 [.int h1f0, .int h1f1, .int h1f2, .ref h13]), (h17, ob 5 [.int h17f0, .int h17f1, .ref h37])] _ := hT
              refine lv_if_eq (tgt := 61) hx hb dX10_refusalOfTable_53 (by decide) (fun _ => ?_) (fun cc => absurd (by decide +kernel) cc)
              refine lv_iconst (v := 0) hx hb dX10_refusalOfTable_61 (by decide) ?_
              exact tz_retI (B := B_cX10_refusalOfTable_450e2 D k h0 h1 h4 h17 h18 h19 h20 h2 h3 h5 h6 h7 h8 h9 h10 h11 h12 h13 h37 h38 h39 h40 x1 x2 h0f2 h0f6 h0f8 h0f11 h1f0 h1f1 h1f2 h17f0 h17f1 h18f0 h18f1 h19f0 h19f1 h20f0 h20f1) (v := 0) hQ hx hb hr hlocks hS (Nat.le_of_ble_eq_true rfl) (Nat.le_of_ble_eq_true rfl) dX10_refusalOfTable_62 (Or.inr (Or.inr (Or.inr (Or.inl ⟨v12, (by have := li_0; omega), (by have := li_0; omega), (by have := li_0; omega), (by have := li_0; omega), (by have := li_0; omega), (by have := li_0; omega), (by have := li_0; omega), (by have := li_0; omega), (by have := li_0; omega), (by have := li_0; omega), (by have := li_0; omega), (by have := li_0; omega), rfl, (hT.sub [0, 5, 1, 6, 2, 3, 4] (by decide) rfl)⟩))))
          · skip
            have hT := J _ hT1
            have hT : TP D A [(h0, ob 7 [.ref h1, .ref h2, .int h0f2, .ref h3, .ref h4, .ref h5, .int h0f6, .ref h6, .int h0f8, .null, .ref h7, .int h0f11, .ref h8, .ref h9, .ref h10, .ref h11, .ref h12]), (h4, aQ (k 3) 4 (q4 h17 h18 h19 h20)), (h18, ob 5 [.int h18f0, .int h18f1, .ref h38]), (h19, ob 5 [.int h19f0, .int h19f1, .ref h39]), (h20, ob 5 [.int h20f0, .int h20f1, .ref h40]), (h17, ob 5 [.int h17f0, .int h17f1, .ref h37]), (h1, ob 4 [.int h1f0, .int h1f1, .int h1f2, .ref h13])] _ := hT
            refine tcI (Tc := [(h17, ob 5 [.int h17f0, .int h17f1, .ref h37])]) (Tr := [(h0, ob 7 [.ref h1, .ref h2, .int h0f2, .ref h3, .ref h4, .ref h5, .int h0f6, .ref h6, .int h0f8, .null, .ref h7, .int h0f11, .ref h8, .ref h9, .ref h10, .ref h11, .ref h12]), (h4, aQ (k 3) 4 (q4 h17 h18 h19 h20)), (h18, ob 5 [.int h18f0, .int h18f1, .ref h38]), (h19, ob 5 [.int h19f0, .int h19f1, .ref h39]), (h20, ob 5 [.int h20f0, .int h20f1, .ref h40]), (h1, ob 4 [.int h1f0, .int h1f1, .int h1f2, .ref h13])]) (as := [h17]) (zcV (q0 := 5) (ci := 5) (As := [.int x2, .int v15]) (rest := []) (Tc := [(h17, ob 5 [.int h17f0, .int h17f1, .ref h37])]) hx hb hml hown hU hK hT rfl rfl [5] rfl (by decide) (cX6_isOutside_cc85b l D k _ h17 h37 x2 v15 h17f0 h17f1 (by omega) (by omega)) w648 w645 w646 w647 w71 hdX6_isOutside ⟨rfl, rfl⟩ ⟨Nat.le_of_ble_eq_true rfl, Nat.le_of_ble_eq_true rfl⟩ rfl hl.1 (Nat.le_of_ble_eq_true rfl) dX10_refusalOfTable_50 ⟨Nat.le_of_ble_eq_true rfl, Nat.le_of_ble_eq_true rfl⟩) hT hS hA [5] [0, 1, 2, 3, 4, 6] rfl rfl rfl (by decide) (by decide) (fun r26 H locs hB J hS => ?_)
            rcases hB with ⟨rfl, hT1⟩ | ⟨c_27, c_28, c_29, rfl, hT1⟩
            · skip
              have hT := J _ hT1
              have hT : TP D A [(h0, ob 7 [.ref h1, .ref h2, .int h0f2, .ref h3, .ref h4, .ref h5, .int h0f6, .ref h6, .int h0f8, .null, .ref h7, .int h0f11, .ref h8, .ref h9, .ref h10, .ref h11, .ref h12]), (h4, aQ (k 3) 4 (q4 h17 h18 h19 h20)), (h18, ob 5 [.int h18f0, .int h18f1, .ref h38]), (h19, ob 5 [.int h19f0, .int h19f1, .ref h39]), (h20, ob 5 [.int h20f0, .int h20f1, .ref h40]), (h1, ob 4 [.int h1f0, .int h1f1, .int h1f2, .ref h13]), (h17, ob 5 [.int h17f0, .int h17f1, .ref h37])] _ := hT
              refine lv_if_eq (tgt := 61) hx hb dX10_refusalOfTable_53 (by decide) (fun cc => absurd cc (by decide +kernel)) (fun _ => ?_)
              refine lv_bipush (v := (-12)) hx hb dX10_refusalOfTable_56 (by decide) ?_
              refine lv_goto (tgt := 62) hx hb dX10_refusalOfTable_58 (by decide) ?_
              exact tz_retI (B := B_cX10_refusalOfTable_450e2 D k h0 h1 h4 h17 h18 h19 h20 h2 h3 h5 h6 h7 h8 h9 h10 h11 h12 h13 h37 h38 h39 h40 x1 x2 h0f2 h0f6 h0f8 h0f11 h1f0 h1f1 h1f2 h17f0 h17f1 h18f0 h18f1 h19f0 h19f1 h20f0 h20f1) (v := (-12)) hQ hx hb hr hlocks hS (Nat.le_of_ble_eq_true rfl) (Nat.le_of_ble_eq_true rfl) dX10_refusalOfTable_62 (Or.inr (Or.inl ⟨rfl, (hT.sub [0, 5, 1, 6, 2, 3, 4] (by decide) rfl)⟩))
            · skip
              have hT := J _ hT1
              have hT : TP D A [(h0, ob 7 [.ref h1, .ref h2, .int h0f2, .ref h3, .ref h4, .ref h5, .int h0f6, .ref h6, .int h0f8, .null, .ref h7, .int h0f11, .ref h8, .ref h9, .ref h10, .ref h11, .ref h12]), (h4, aQ (k 3) 4 (q4 h17 h18 h19 h20)), (h18, ob 5 [.int h18f0, .int h18f1, .ref h38]), (h19, ob 5 [.int h19f0, .int h19f1, .ref h39]), (h20, ob 5 [.int h20f0, .int h20f1, .ref h40]), (h1, ob 4 [.int h1f0, .int h1f1, .int h1f2, .ref h13]), (h17, ob 5 [.int h17f0, .int h17f1, .ref h37])] _ := hT
              refine lv_if_eq (tgt := 61) hx hb dX10_refusalOfTable_53 (by decide) (fun _ => ?_) (fun cc => absurd (by decide +kernel) cc)
              refine lv_iconst (v := 0) hx hb dX10_refusalOfTable_61 (by decide) ?_
              exact tz_retI (B := B_cX10_refusalOfTable_450e2 D k h0 h1 h4 h17 h18 h19 h20 h2 h3 h5 h6 h7 h8 h9 h10 h11 h12 h13 h37 h38 h39 h40 x1 x2 h0f2 h0f6 h0f8 h0f11 h1f0 h1f1 h1f2 h17f0 h17f1 h18f0 h18f1 h19f0 h19f1 h20f0 h20f1) (v := 0) hQ hx hb hr hlocks hS (Nat.le_of_ble_eq_true rfl) (Nat.le_of_ble_eq_true rfl) dX10_refusalOfTable_62 (Or.inr (Or.inr (Or.inr (Or.inr (Or.inl ⟨v15, (by have := li_0; omega), (by have := li_0; omega), (by have := li_0; omega), (by have := li_0; omega), (by have := li_0; omega), (by have := li_0; omega), (by have := li_0; omega), (by have := li_0; omega), (by have := li_0; omega), (by have := li_0; omega), (by have := li_0; omega), (by have := li_0; omega), rfl, (hT.sub [0, 5, 1, 6, 2, 3, 4] (by decide) rfl)⟩)))))
        · skip
          have c_7 := ni_nle c_7 rfl li_0
          refine lv_bipush (v := (-13)) hx hb dX10_refusalOfTable_37 (by decide) ?_
          exact tz_retI (B := B_cX10_refusalOfTable_450e2 D k h0 h1 h4 h17 h18 h19 h20 h2 h3 h5 h6 h7 h8 h9 h10 h11 h12 h13 h37 h38 h39 h40 x1 x2 h0f2 h0f6 h0f8 h0f11 h1f0 h1f1 h1f2 h17f0 h17f1 h18f0 h18f1 h19f0 h19f1 h20f0 h20f1) (v := (-13)) hQ hx hb hr hlocks hS (Nat.le_of_ble_eq_true rfl) (Nat.le_of_ble_eq_true rfl) dX10_refusalOfTable_39 (Or.inr (Or.inr (Or.inr (Or.inr (Or.inr (Or.inl ⟨rfl, (hT.sub [0, 1, 2, 6, 3, 4, 5] (by decide) rfl)⟩))))))
      · skip
        have hT := J _ hT1
        have hT : TP D A [(h0, ob 7 [.ref h1, .ref h2, .int h0f2, .ref h3, .ref h4, .ref h5, .int h0f6, .ref h6, .int h0f8, .null, .ref h7, .int h0f11, .ref h8, .ref h9, .ref h10, .ref h11, .ref h12]), (h1, ob 4 [.int h1f0, .int h1f1, .int h1f2, .ref h13]), (h4, aQ (k 3) 4 (q4 h17 h18 h19 h20)), (h18, ob 5 [.int h18f0, .int h18f1, .ref h38]), (h19, ob 5 [.int h19f0, .int h19f1, .ref h39]), (h20, ob 5 [.int h20f0, .int h20f1, .ref h40]), (h17, ob 5 [.int h17f0, .int h17f1, .ref h37])] _ := hT
        refine lv_if_eq (tgt := 28) hx hb dX10_refusalOfTable_22 (by decide) (fun cc => absurd cc (by decide +kernel)) (fun _ => ?_)
        refine lv_bipush (v := (-11)) hx hb dX10_refusalOfTable_25 (by decide) ?_
        exact tz_retI (B := B_cX10_refusalOfTable_450e2 D k h0 h1 h4 h17 h18 h19 h20 h2 h3 h5 h6 h7 h8 h9 h10 h11 h12 h13 h37 h38 h39 h40 x1 x2 h0f2 h0f6 h0f8 h0f11 h1f0 h1f1 h1f2 h17f0 h17f1 h18f0 h18f1 h19f0 h19f1 h20f0 h20f1) (v := (-11)) hQ hx hb hr hlocks hS (Nat.le_of_ble_eq_true rfl) (Nat.le_of_ble_eq_true rfl) dX10_refusalOfTable_27 (Or.inr (Or.inr (Or.inr (Or.inr (Or.inr (Or.inr (Or.inl ⟨rfl, (hT.sub [0, 1, 2, 6, 3, 4, 5] (by decide) rfl)⟩)))))))
    · skip
      refine tz_aldq (b := h18) hx hb hK hT 2 rfl (vp_in_iff.mpr (by have := hq4; omega)) (fun f hf => by rw [cl_of hq4]; exact hf.2.1) dX10_refusalOfTable_14 ?_
      refine lv_astore (lv' := [(4, .ref h18), (0, .ref h0), (1, .int x1), (2, .int x2), (3, .int 0)]) hx hb dX10_refusalOfTable_15 hl (by decide) rfl (fun ls hl => ?_)
      refine lv_aload hx hb dX10_refusalOfTable_17 (lv_at hl 0 rfl) ?_
      refine tcI (Tc := [(h18, ob 5 [.int h18f0, .int h18f1, .ref h38])]) (Tr := [(h0, ob 7 [.ref h1, .ref h2, .int h0f2, .ref h3, .ref h4, .ref h5, .int h0f6, .ref h6, .int h0f8, .null, .ref h7, .int h0f11, .ref h8, .ref h9, .ref h10, .ref h11, .ref h12]), (h1, ob 4 [.int h1f0, .int h1f1, .int h1f2, .ref h13]), (h4, aQ (k 3) 4 (q4 h17 h18 h19 h20)), (h17, ob 5 [.int h17f0, .int h17f1, .ref h37]), (h19, ob 5 [.int h19f0, .int h19f1, .ref h39]), (h20, ob 5 [.int h20f0, .int h20f1, .ref h40])]) (as := [h18]) (zcV (q0 := 4) (ci := 5) (As := []) (rest := []) (Tc := [(h18, ob 5 [.int h18f0, .int h18f1, .ref h38])]) hx hb hml hown hU hK hT rfl rfl [4] rfl (by decide) (cX6_isMissing_56a93 l D k _ h18 h38 h18f0 h18f1 (by omega) (by omega)) w644 w641 w642 w643 w71 hdX6_isMissing ⟨rfl, rfl⟩ ⟨Nat.le_of_ble_eq_true rfl, Nat.le_of_ble_eq_true rfl⟩ rfl hl.1 (Nat.le_of_ble_eq_true rfl) dX10_refusalOfTable_19 ⟨Nat.le_of_ble_eq_true rfl, Nat.le_of_ble_eq_true rfl⟩) hT hS hA [4] [0, 1, 2, 3, 5, 6] rfl rfl rfl (by decide) (by decide) (fun r30 H locs hB J hS => ?_)
      rcases hB with ⟨c_31, rfl, hT1⟩ | ⟨rfl, hT1⟩
      · skip
        have hT := J _ hT1
        have hT : TP D A [(h0, ob 7 [.ref h1, .ref h2, .int h0f2, .ref h3, .ref h4, .ref h5, .int h0f6, .ref h6, .int h0f8, .null, .ref h7, .int h0f11, .ref h8, .ref h9, .ref h10, .ref h11, .ref h12]), (h1, ob 4 [.int h1f0, .int h1f1, .int h1f2, .ref h13]), (h4, aQ (k 3) 4 (q4 h17 h18 h19 h20)), (h17, ob 5 [.int h17f0, .int h17f1, .ref h37]), (h19, ob 5 [.int h19f0, .int h19f1, .ref h39]), (h20, ob 5 [.int h20f0, .int h20f1, .ref h40]), (h18, ob 5 [.int h18f0, .int h18f1, .ref h38])] _ := hT
        refine lv_if_eq (tgt := 28) hx hb dX10_refusalOfTable_22 (by decide) (fun _ => ?_) (fun cc => absurd (by decide +kernel) cc)
        refine lv_aload hx hb dX10_refusalOfTable_28 (lv_at hl 0 rfl) ?_
        refine tz_get (ci := 5) (v := .int h18f0) (C := RX6) (F := TX6) (N := 3) hx hb hU iX6 hown hK hT 6 rfl rfl 0 (by decide) w238 (fun _ h9 => h9) rfl dX10_refusalOfTable_30 ?_
        refine lv_iload_n hx hb dX10_refusalOfTable_33 rfl (lv_at hl 4 rfl) ?_
        refine lv_icmp_le (tgt := 40) hx hb dX10_refusalOfTable_34 (by decide) (fun c_32 => ?_) (fun c_32 => ?_)
        · skip
          have c_32 := ni_le c_32 rfl li_0
          refine lv_aload hx hb dX10_refusalOfTable_40 (lv_at hl 0 rfl) ?_
          refine lv_iload_n hx hb dX10_refusalOfTable_42 rfl (lv_at hl 3 rfl) ?_
          refine lv_aload_n hx hb dX10_refusalOfTable_43 rfl (lv_at hl 1 rfl) ?_
          refine tz_get (ci := 7) (v := .ref h1) (C := RX10) (F := TX10) (N := 17) hx hb hU iX10 hown hK hT 0 rfl rfl 0 (by decide) w249 (fun _ h9 => h9) rfl dX10_refusalOfTable_44 ?_
          refine tcI (Tc := [(h1, ob 4 [.int h1f0, .int h1f1, .int h1f2, .ref h13])]) (Tr := [(h0, ob 7 [.ref h1, .ref h2, .int h0f2, .ref h3, .ref h4, .ref h5, .int h0f6, .ref h6, .int h0f8, .null, .ref h7, .int h0f11, .ref h8, .ref h9, .ref h10, .ref h11, .ref h12]), (h4, aQ (k 3) 4 (q4 h17 h18 h19 h20)), (h17, ob 5 [.int h17f0, .int h17f1, .ref h37]), (h19, ob 5 [.int h19f0, .int h19f1, .ref h39]), (h20, ob 5 [.int h20f0, .int h20f1, .ref h40]), (h18, ob 5 [.int h18f0, .int h18f1, .ref h38])]) (as := [h1]) (zcV (q0 := 1) (ci := 4) (As := []) (rest := [.int x2, .ref h18]) (Tc := [(h1, ob 4 [.int h1f0, .int h1f1, .int h1f2, .ref h13])]) hx hb hml hown hU hK hT rfl rfl [1] rfl (by decide) (cX5_cellCount_f3983 l D k _ h1 h13 h1f0 h1f1 h1f2 (by omega) (by omega)) w385 w382 w383 w384 w64 hdX5_cellCount ⟨rfl, rfl⟩ ⟨Nat.le_of_ble_eq_true rfl, Nat.le_of_ble_eq_true rfl⟩ rfl hl.1 (Nat.le_of_ble_eq_true rfl) dX10_refusalOfTable_47 ⟨Nat.le_of_ble_eq_true rfl, Nat.le_of_ble_eq_true rfl⟩) hT hS hA [1] [0, 2, 3, 4, 5, 6] rfl rfl rfl (by decide) (by decide) (fun r33 H locs hB J hS => ?_)
          rcases hB with ⟨v34, b_v34, c_35, c_36, rfl, hT1⟩ | ⟨v37, b_v37, c_38, c_39, rfl, hT1⟩ | ⟨v40, b_v40, c_41, c_42, rfl, hT1⟩
          · skip
            have hT := J _ hT1
            have hT : TP D A [(h0, ob 7 [.ref h1, .ref h2, .int h0f2, .ref h3, .ref h4, .ref h5, .int h0f6, .ref h6, .int h0f8, .null, .ref h7, .int h0f11, .ref h8, .ref h9, .ref h10, .ref h11, .ref h12]), (h4, aQ (k 3) 4 (q4 h17 h18 h19 h20)), (h17, ob 5 [.int h17f0, .int h17f1, .ref h37]), (h19, ob 5 [.int h19f0, .int h19f1, .ref h39]), (h20, ob 5 [.int h20f0, .int h20f1, .ref h40]), (h18, ob 5 [.int h18f0, .int h18f1, .ref h38]), (h1, ob 4 [.int h1f0, .int h1f1, .int h1f2, .ref h13])] _ := hT
            refine tcI (Tc := [(h18, ob 5 [.int h18f0, .int h18f1, .ref h38])]) (Tr := [(h0, ob 7 [.ref h1, .ref h2, .int h0f2, .ref h3, .ref h4, .ref h5, .int h0f6, .ref h6, .int h0f8, .null, .ref h7, .int h0f11, .ref h8, .ref h9, .ref h10, .ref h11, .ref h12]), (h4, aQ (k 3) 4 (q4 h17 h18 h19 h20)), (h17, ob 5 [.int h17f0, .int h17f1, .ref h37]), (h19, ob 5 [.int h19f0, .int h19f1, .ref h39]), (h20, ob 5 [.int h20f0, .int h20f1, .ref h40]), (h1, ob 4 [.int h1f0, .int h1f1, .int h1f2, .ref h13])]) (as := [h18]) (zcV (q0 := 5) (ci := 5) (As := [.int x2, .int v34]) (rest := []) (Tc := [(h18, ob 5 [.int h18f0, .int h18f1, .ref h38])]) hx hb hml hown hU hK hT rfl rfl [5] rfl (by decide) (cX6_isOutside_cc85b l D k _ h18 h38 x2 v34 h18f0 h18f1 (by omega) (by omega)) w648 w645 w646 w647 w71 hdX6_isOutside ⟨rfl, rfl⟩ ⟨Nat.le_of_ble_eq_true rfl, Nat.le_of_ble_eq_true rfl⟩ rfl hl.1 (Nat.le_of_ble_eq_true rfl) dX10_refusalOfTable_50 ⟨Nat.le_of_ble_eq_true rfl, Nat.le_of_ble_eq_true rfl⟩) hT hS hA [5] [0, 1, 2, 3, 4, 6] rfl rfl rfl (by decide) (by decide) (fun r43 H locs hB J hS => ?_)
            rcases hB with ⟨rfl, hT1⟩ | ⟨c_44, c_45, c_46, rfl, hT1⟩
            · skip
              have hT := J _ hT1
              have hT : TP D A [(h0, ob 7 [.ref h1, .ref h2, .int h0f2, .ref h3, .ref h4, .ref h5, .int h0f6, .ref h6, .int h0f8, .null, .ref h7, .int h0f11, .ref h8, .ref h9, .ref h10, .ref h11, .ref h12]), (h4, aQ (k 3) 4 (q4 h17 h18 h19 h20)), (h17, ob 5 [.int h17f0, .int h17f1, .ref h37]), (h19, ob 5 [.int h19f0, .int h19f1, .ref h39]), (h20, ob 5 [.int h20f0, .int h20f1, .ref h40]), (h1, ob 4 [.int h1f0, .int h1f1, .int h1f2, .ref h13]), (h18, ob 5 [.int h18f0, .int h18f1, .ref h38])] _ := hT
              refine lv_if_eq (tgt := 61) hx hb dX10_refusalOfTable_53 (by decide) (fun cc => absurd cc (by decide +kernel)) (fun _ => ?_)
              refine lv_bipush (v := (-12)) hx hb dX10_refusalOfTable_56 (by decide) ?_
              refine lv_goto (tgt := 62) hx hb dX10_refusalOfTable_58 (by decide) ?_
              exact tz_retI (B := B_cX10_refusalOfTable_450e2 D k h0 h1 h4 h17 h18 h19 h20 h2 h3 h5 h6 h7 h8 h9 h10 h11 h12 h13 h37 h38 h39 h40 x1 x2 h0f2 h0f6 h0f8 h0f11 h1f0 h1f1 h1f2 h17f0 h17f1 h18f0 h18f1 h19f0 h19f1 h20f0 h20f1) (v := (-12)) hQ hx hb hr hlocks hS (Nat.le_of_ble_eq_true rfl) (Nat.le_of_ble_eq_true rfl) dX10_refusalOfTable_62 (Or.inr (Or.inl ⟨rfl, (hT.sub [0, 5, 1, 2, 6, 3, 4] (by decide) rfl)⟩))
            · skip
              have hT := J _ hT1
              have hT : TP D A [(h0, ob 7 [.ref h1, .ref h2, .int h0f2, .ref h3, .ref h4, .ref h5, .int h0f6, .ref h6, .int h0f8, .null, .ref h7, .int h0f11, .ref h8, .ref h9, .ref h10, .ref h11, .ref h12]), (h4, aQ (k 3) 4 (q4 h17 h18 h19 h20)), (h17, ob 5 [.int h17f0, .int h17f1, .ref h37]), (h19, ob 5 [.int h19f0, .int h19f1, .ref h39]), (h20, ob 5 [.int h20f0, .int h20f1, .ref h40]), (h1, ob 4 [.int h1f0, .int h1f1, .int h1f2, .ref h13]), (h18, ob 5 [.int h18f0, .int h18f1, .ref h38])] _ := hT
              refine lv_if_eq (tgt := 61) hx hb dX10_refusalOfTable_53 (by decide) (fun _ => ?_) (fun cc => absurd (by decide +kernel) cc)
              refine lv_iconst (v := 0) hx hb dX10_refusalOfTable_61 (by decide) ?_
              exact tz_retI (B := B_cX10_refusalOfTable_450e2 D k h0 h1 h4 h17 h18 h19 h20 h2 h3 h5 h6 h7 h8 h9 h10 h11 h12 h13 h37 h38 h39 h40 x1 x2 h0f2 h0f6 h0f8 h0f11 h1f0 h1f1 h1f2 h17f0 h17f1 h18f0 h18f1 h19f0 h19f1 h20f0 h20f1) (v := 0) hQ hx hb hr hlocks hS (Nat.le_of_ble_eq_true rfl) (Nat.le_of_ble_eq_true rfl) dX10_refusalOfTable_62 (Or.inr (Or.inr (Or.inr (Or.inr (Or.inr (Or.inr (Or.inr (Or.inl ⟨v34, (by have := li_0; omega), (by have := li_0; omega), (by have := li_0; omega), (by have := li_0; omega), (by have := li_0; omega), (by have := li_0; omega), (by have := li_0; omega), (by have := li_0; omega), (by have := li_0; omega), (by have := li_0; omega), (by have := li_0; omega), (by have := li_0; omega), rfl, (hT.sub [0, 5, 1, 2, 6, 3, 4] (by decide) rfl)⟩))))))))
          · skip
            have hT := J _ hT1
            have hT : TP D A [(h0, ob 7 [.ref h1, .ref h2, .int h0f2, .ref h3, .ref h4, .ref h5, .int h0f6, .ref h6, .int h0f8, .null, .ref h7, .int h0f11, .ref h8, .ref h9, .ref h10, .ref h11, .ref h12]), (h4, aQ (k 3) 4 (q4 h17 h18 h19 h20)), (h17, ob 5 [.int h17f0, .int h17f1, .ref h37]), (h19, ob 5 [.int h19f0, .int h19f1, .ref h39]), (h20, ob 5 [.int h20f0, .int h20f1, .ref h40]), (h18, ob 5 [.int h18f0, .int h18f1, .ref h38]), (h1, ob 4 [.int h1f0, .int h1f1, .int h1f2, .ref h13])] _ := hT
            refine tcI (Tc := [(h18, ob 5 [.int h18f0, .int h18f1, .ref h38])]) (Tr := [(h0, ob 7 [.ref h1, .ref h2, .int h0f2, .ref h3, .ref h4, .ref h5, .int h0f6, .ref h6, .int h0f8, .null, .ref h7, .int h0f11, .ref h8, .ref h9, .ref h10, .ref h11, .ref h12]), (h4, aQ (k 3) 4 (q4 h17 h18 h19 h20)), (h17, ob 5 [.int h17f0, .int h17f1, .ref h37]), (h19, ob 5 [.int h19f0, .int h19f1, .ref h39]), (h20, ob 5 [.int h20f0, .int h20f1, .ref h40]), (h1, ob 4 [.int h1f0, .int h1f1, .int h1f2, .ref h13])]) (as := [h18]) (zcV (q0 := 5) (ci := 5) (As := [.int x2, .int v37]) (rest := []) (Tc := [(h18, ob 5 [.int h18f0, .int h18f1, .ref h38])]) hx hb hml hown hU hK hT rfl rfl [5] rfl (by decide) (cX6_isOutside_cc85b l D k _ h18 h38 x2 v37 h18f0 h18f1 (by omega) (by omega)) w648 w645 w646 w647 w71 hdX6_isOutside ⟨rfl, rfl⟩ ⟨Nat.le_of_ble_eq_true rfl, Nat.le_of_ble_eq_true rfl⟩ rfl hl.1 (Nat.le_of_ble_eq_true rfl) dX10_refusalOfTable_50 ⟨Nat.le_of_ble_eq_true rfl, Nat.le_of_ble_eq_true rfl⟩) hT hS hA [5] [0, 1, 2, 3, 4, 6] rfl rfl rfl (by decide) (by decide) (fun r47 H locs hB J hS => ?_)
            rcases hB with ⟨rfl, hT1⟩ | ⟨c_48, c_49, c_50, rfl, hT1⟩
            · skip
              have hT := J _ hT1
              have hT : TP D A [(h0, ob 7 [.ref h1, .ref h2, .int h0f2, .ref h3, .ref h4, .ref h5, .int h0f6, .ref h6, .int h0f8, .null, .ref h7, .int h0f11, .ref h8, .ref h9, .ref h10, .ref h11, .ref h12]), (h4, aQ (k 3) 4 (q4 h17 h18 h19 h20)), (h17, ob 5 [.int h17f0, .int h17f1, .ref h37]), (h19, ob 5 [.int h19f0, .int h19f1, .ref h39]), (h20, ob 5 [.int h20f0, .int h20f1, .ref h40]), (h1, ob 4 [.int h1f0, .int h1f1, .int h1f2, .ref h13]), (h18, ob 5 [.int h18f0, .int h18f1, .ref h38])] _ := hT
              refine lv_if_eq (tgt := 61) hx hb dX10_refusalOfTable_53 (by decide) (fun cc => absurd cc (by decide +kernel)) (fun _ => ?_)
              refine lv_bipush (v := (-12)) hx hb dX10_refusalOfTable_56 (by decide) ?_
              refine lv_goto (tgt := 62) hx hb dX10_refusalOfTable_58 (by decide) ?_
              exact tz_retI (B := B_cX10_refusalOfTable_450e2 D k h0 h1 h4 h17 h18 h19 h20 h2 h3 h5 h6 h7 h8 h9 h10 h11 h12 h13 h37 h38 h39 h40 x1 x2 h0f2 h0f6 h0f8 h0f11 h1f0 h1f1 h1f2 h17f0 h17f1 h18f0 h18f1 h19f0 h19f1 h20f0 h20f1) (v := (-12)) hQ hx hb hr hlocks hS (Nat.le_of_ble_eq_true rfl) (Nat.le_of_ble_eq_true rfl) dX10_refusalOfTable_62 (Or.inr (Or.inl ⟨rfl, (hT.sub [0, 5, 1, 2, 6, 3, 4] (by decide) rfl)⟩))
            · skip
              have hT := J _ hT1
              have hT : TP D A [(h0, ob 7 [.ref h1, .ref h2, .int h0f2, .ref h3, .ref h4, .ref h5, .int h0f6, .ref h6, .int h0f8, .null, .ref h7, .int h0f11, .ref h8, .ref h9, .ref h10, .ref h11, .ref h12]), (h4, aQ (k 3) 4 (q4 h17 h18 h19 h20)), (h17, ob 5 [.int h17f0, .int h17f1, .ref h37]), (h19, ob 5 [.int h19f0, .int h19f1, .ref h39]), (h20, ob 5 [.int h20f0, .int h20f1, .ref h40]), (h1, ob 4 [.int h1f0, .int h1f1, .int h1f2, .ref h13]), (h18, ob 5 [.int h18f0, .int h18f1, .ref h38])] _ := hT
              refine lv_if_eq (tgt := 61) hx hb dX10_refusalOfTable_53 (by decide) (fun _ => ?_) (fun cc => absurd (by decide +kernel) cc)
              refine lv_iconst (v := 0) hx hb dX10_refusalOfTable_61 (by decide) ?_
              exact tz_retI (B := B_cX10_refusalOfTable_450e2 D k h0 h1 h4 h17 h18 h19 h20 h2 h3 h5 h6 h7 h8 h9 h10 h11 h12 h13 h37 h38 h39 h40 x1 x2 h0f2 h0f6 h0f8 h0f11 h1f0 h1f1 h1f2 h17f0 h17f1 h18f0 h18f1 h19f0 h19f1 h20f0 h20f1) (v := 0) hQ hx hb hr hlocks hS (Nat.le_of_ble_eq_true rfl) (Nat.le_of_ble_eq_true rfl) dX10_refusalOfTable_62 (Or.inr (Or.inr (Or.inr (Or.inr (Or.inr (Or.inr (Or.inr (Or.inr (Or.inl ⟨v37, (by have := li_0; omega), (by have := li_0; omega), (by have := li_0; omega), (by have := li_0; omega), (by have := li_0; omega), (by have := li_0; omega), (by have := li_0; omega), (by have := li_0; omega), (by have := li_0; omega), (by have := li_0; omega), (by have := li_0; omega), (by have := li_0; omega), rfl, (hT.sub [0, 5, 1, 2, 6, 3, 4] (by decide) rfl)⟩)))))))))
          · skip
            have hT := J _ hT1
            have hT : TP D A [(h0, ob 7 [.ref h1, .ref h2, .int h0f2, .ref h3, .ref h4, .ref h5, .int h0f6, .ref h6, .int h0f8, .null, .ref h7, .int h0f11, .ref h8, .ref h9, .ref h10, .ref h11, .ref h12]), (h4, aQ (k 3) 4 (q4 h17 h18 h19 h20)), (h17, ob 5 [.int h17f0, .int h17f1, .ref h37]), (h19, ob 5 [.int h19f0, .int h19f1, .ref h39]), (h20, ob 5 [.int h20f0, .int h20f1, .ref h40]), (h18, ob 5 [.int h18f0, .int h18f1, .ref h38]), (h1, ob 4 [.int h1f0, .int h1f1, .int h1f2, .ref h13])] _ := hT
            refine tcI (Tc := [(h18, ob 5 [.int h18f0, .int h18f1, .ref h38])]) (Tr := [(h0, ob 7 [.ref h1, .ref h2, .int h0f2, .ref h3, .ref h4, .ref h5, .int h0f6, .ref h6, .int h0f8, .null, .ref h7, .int h0f11, .ref h8, .ref h9, .ref h10, .ref h11, .ref h12]), (h4, aQ (k 3) 4 (q4 h17 h18 h19 h20)), (h17, ob 5 [.int h17f0, .int h17f1, .ref h37]), (h19, ob 5 [.int h19f0, .int h19f1, .ref h39]), (h20, ob 5 [.int h20f0, .int h20f1, .ref h40]), (h1, ob 4 [.int h1f0, .int h1f1, .int h1f2, .ref h13])]) (as := [h18]) (zcV (q0 := 5) (ci := 5) (As := [.int x2, .int v40]) (rest := []) (Tc := [(h18, ob 5 [.int h18f0, .int h18f1, .ref h38])]) hx hb hml hown hU hK hT rfl rfl [5] rfl (by decide) (cX6_isOutside_cc85b l D k _ h18 h38 x2 v40 h18f0 h18f1 (by omega) (by omega)) w648 w645 w646 w647 w71 hdX6_isOutside ⟨rfl, rfl⟩ ⟨Nat.le_of_ble_eq_true rfl, Nat.le_of_ble_eq_true rfl⟩ rfl hl.1 (Nat.le_of_ble_eq_true rfl) dX10_refusalOfTable_50 ⟨Nat.le_of_ble_eq_true rfl, Nat.le_of_ble_eq_true rfl⟩) hT hS hA [5] [0, 1, 2, 3, 4, 6] rfl rfl rfl (by decide) (by decide) (fun r51 H locs hB J hS => ?_)
            rcases hB with ⟨rfl, hT1⟩ | ⟨c_52, c_53, c_54, rfl, hT1⟩
            · skip
              have hT := J _ hT1
              have hT : TP D A [(h0, ob 7 [.ref h1, .ref h2, .int h0f2, .ref h3, .ref h4, .ref h5, .int h0f6, .ref h6, .int h0f8, .null, .ref h7, .int h0f11, .ref h8, .ref h9, .ref h10, .ref h11, .ref h12]), (h4, aQ (k 3) 4 (q4 h17 h18 h19 h20)), (h17, ob 5 [.int h17f0, .int h17f1, .ref h37]), (h19, ob 5 [.int h19f0, .int h19f1, .ref h39]), (h20, ob 5 [.int h20f0, .int h20f1, .ref h40]), (h1, ob 4 [.int h1f0, .int h1f1, .int h1f2, .ref h13]), (h18, ob 5 [.int h18f0, .int h18f1, .ref h38])] _ := hT
              refine lv_if_eq (tgt := 61) hx hb dX10_refusalOfTable_53 (by decide) (fun cc => absurd cc (by decide +kernel)) (fun _ => ?_)
              refine lv_bipush (v := (-12)) hx hb dX10_refusalOfTable_56 (by decide) ?_
              refine lv_goto (tgt := 62) hx hb dX10_refusalOfTable_58 (by decide) ?_
              exact tz_retI (B := B_cX10_refusalOfTable_450e2 D k h0 h1 h4 h17 h18 h19 h20 h2 h3 h5 h6 h7 h8 h9 h10 h11 h12 h13 h37 h38 h39 h40 x1 x2 h0f2 h0f6 h0f8 h0f11 h1f0 h1f1 h1f2 h17f0 h17f1 h18f0 h18f1 h19f0 h19f1 h20f0 h20f1) (v := (-12)) hQ hx hb hr hlocks hS (Nat.le_of_ble_eq_true rfl) (Nat.le_of_ble_eq_true rfl) dX10_refusalOfTable_62 (Or.inr (Or.inl ⟨rfl, (hT.sub [0, 5, 1, 2, 6, 3, 4] (by decide) rfl)⟩))
            · skip
              have hT := J _ hT1
              have hT : TP D A [(h0, ob 7 [.ref h1, .ref h2, .int h0f2, .ref h3, .ref h4, .ref h5, .int h0f6, .ref h6, .int h0f8, .null, .ref h7, .int h0f11, .ref h8, .ref h9, .ref h10, .ref h11, .ref h12]), (h4, aQ (k 3) 4 (q4 h17 h18 h19 h20)), (h17, ob 5 [.int h17f0, .int h17f1, .ref h37]), (h19, ob 5 [.int h19f0, .int h19f1, .ref h39]), (h20, ob 5 [.int h20f0, .int h20f1, .ref h40]), (h1, ob 4 [.int h1f0, .int h1f1, .int h1f2, .ref h13]), (h18, ob 5 [.int h18f0, .int h18f1, .ref h38])] _ := hT
              refine lv_if_eq (tgt := 61) hx hb dX10_refusalOfTable_53 (by decide) (fun _ => ?_) (fun cc => absurd (by decide +kernel) cc)
              refine lv_iconst (v := 0) hx hb dX10_refusalOfTable_61 (by decide) ?_
              exact tz_retI (B := B_cX10_refusalOfTable_450e2 D k h0 h1 h4 h17 h18 h19 h20 h2 h3 h5 h6 h7 h8 h9 h10 h11 h12 h13 h37 h38 h39 h40 x1 x2 h0f2 h0f6 h0f8 h0f11 h1f0 h1f1 h1f2 h17f0 h17f1 h18f0 h18f1 h19f0 h19f1 h20f0 h20f1) (v := 0) hQ hx hb hr hlocks hS (Nat.le_of_ble_eq_true rfl) (Nat.le_of_ble_eq_true rfl) dX10_refusalOfTable_62 (Or.inr (Or.inr (Or.inr (Or.inr (Or.inr (Or.inr (Or.inr (Or.inr (Or.inr (Or.inl ⟨v40, (by have := li_0; omega), (by have := li_0; omega), (by have := li_0; omega), (by have := li_0; omega), (by have := li_0; omega), (by have := li_0; omega), (by have := li_0; omega), (by have := li_0; omega), (by have := li_0; omega), (by have := li_0; omega), (by have := li_0; omega), (by have := li_0; omega), rfl, (hT.sub [0, 5, 1, 2, 6, 3, 4] (by decide) rfl)⟩))))))))))
        · skip
          have c_32 := ni_nle c_32 rfl li_0
          refine lv_bipush (v := (-13)) hx hb dX10_refusalOfTable_37 (by decide) ?_
          exact tz_retI (B := B_cX10_refusalOfTable_450e2 D k h0 h1 h4 h17 h18 h19 h20 h2 h3 h5 h6 h7 h8 h9 h10 h11 h12 h13 h37 h38 h39 h40 x1 x2 h0f2 h0f6 h0f8 h0f11 h1f0 h1f1 h1f2 h17f0 h17f1 h18f0 h18f1 h19f0 h19f1 h20f0 h20f1) (v := (-13)) hQ hx hb hr hlocks hS (Nat.le_of_ble_eq_true rfl) (Nat.le_of_ble_eq_true rfl) dX10_refusalOfTable_39 (Or.inr (Or.inr (Or.inr (Or.inr (Or.inr (Or.inl ⟨rfl, (hT.sub [0, 1, 2, 3, 6, 4, 5] (by decide) rfl)⟩))))))
      · skip
        have hT := J _ hT1
        have hT : TP D A [(h0, ob 7 [.ref h1, .ref h2, .int h0f2, .ref h3, .ref h4, .ref h5, .int h0f6, .ref h6, .int h0f8, .null, .ref h7, .int h0f11, .ref h8, .ref h9, .ref h10, .ref h11, .ref h12]), (h1, ob 4 [.int h1f0, .int h1f1, .int h1f2, .ref h13]), (h4, aQ (k 3) 4 (q4 h17 h18 h19 h20)), (h17, ob 5 [.int h17f0, .int h17f1, .ref h37]), (h19, ob 5 [.int h19f0, .int h19f1, .ref h39]), (h20, ob 5 [.int h20f0, .int h20f1, .ref h40]), (h18, ob 5 [.int h18f0, .int h18f1, .ref h38])] _ := hT
        refine lv_if_eq (tgt := 28) hx hb dX10_refusalOfTable_22 (by decide) (fun cc => absurd cc (by decide +kernel)) (fun _ => ?_)
        refine lv_bipush (v := (-11)) hx hb dX10_refusalOfTable_25 (by decide) ?_
        exact tz_retI (B := B_cX10_refusalOfTable_450e2 D k h0 h1 h4 h17 h18 h19 h20 h2 h3 h5 h6 h7 h8 h9 h10 h11 h12 h13 h37 h38 h39 h40 x1 x2 h0f2 h0f6 h0f8 h0f11 h1f0 h1f1 h1f2 h17f0 h17f1 h18f0 h18f1 h19f0 h19f1 h20f0 h20f1) (v := (-11)) hQ hx hb hr hlocks hS (Nat.le_of_ble_eq_true rfl) (Nat.le_of_ble_eq_true rfl) dX10_refusalOfTable_27 (Or.inr (Or.inr (Or.inr (Or.inr (Or.inr (Or.inr (Or.inl ⟨rfl, (hT.sub [0, 1, 2, 3, 6, 4, 5] (by decide) rfl)⟩)))))))
    · skip
      refine tz_aldq (b := h19) hx hb hK hT 2 rfl (vp_in_iff.mpr (by have := hq4; omega)) (fun f hf => by rw [cl_of hq4]; exact hf.2.2.1) dX10_refusalOfTable_14 ?_
      refine lv_astore (lv' := [(4, .ref h19), (0, .ref h0), (1, .int x1), (2, .int x2), (3, .int 0)]) hx hb dX10_refusalOfTable_15 hl (by decide) rfl (fun ls hl => ?_)
      refine lv_aload hx hb dX10_refusalOfTable_17 (lv_at hl 0 rfl) ?_
      refine tcI (Tc := [(h19, ob 5 [.int h19f0, .int h19f1, .ref h39])]) (Tr := [(h0, ob 7 [.ref h1, .ref h2, .int h0f2, .ref h3, .ref h4, .ref h5, .int h0f6, .ref h6, .int h0f8, .null, .ref h7, .int h0f11, .ref h8, .ref h9, .ref h10, .ref h11, .ref h12]), (h1, ob 4 [.int h1f0, .int h1f1, .int h1f2, .ref h13]), (h4, aQ (k 3) 4 (q4 h17 h18 h19 h20)), (h17, ob 5 [.int h17f0, .int h17f1, .ref h37]), (h18, ob 5 [.int h18f0, .int h18f1, .ref h38]), (h20, ob 5 [.int h20f0, .int h20f1, .ref h40])]) (as := [h19]) (zcV (q0 := 5) (ci := 5) (As := []) (rest := []) (Tc := [(h19, ob 5 [.int h19f0, .int h19f1, .ref h39])]) hx hb hml hown hU hK hT rfl rfl [5] rfl (by decide) (cX6_isMissing_56a93 l D k _ h19 h39 h19f0 h19f1 (by omega) (by omega)) w644 w641 w642 w643 w71 hdX6_isMissing ⟨rfl, rfl⟩ ⟨Nat.le_of_ble_eq_true rfl, Nat.le_of_ble_eq_true rfl⟩ rfl hl.1 (Nat.le_of_ble_eq_true rfl) dX10_refusalOfTable_19 ⟨Nat.le_of_ble_eq_true rfl, Nat.le_of_ble_eq_true rfl⟩) hT hS hA [5] [0, 1, 2, 3, 4, 6] rfl rfl rfl (by decide) (by decide) (fun r55 H locs hB J hS => ?_)
      rcases hB with ⟨c_56, rfl, hT1⟩ | ⟨rfl, hT1⟩
      · skip
        have hT := J _ hT1
        have hT : TP D A [(h0, ob 7 [.ref h1, .ref h2, .int h0f2, .ref h3, .ref h4, .ref h5, .int h0f6, .ref h6, .int h0f8, .null, .ref h7, .int h0f11, .ref h8, .ref h9, .ref h10, .ref h11, .ref h12]), (h1, ob 4 [.int h1f0, .int h1f1, .int h1f2, .ref h13]), (h4, aQ (k 3) 4 (q4 h17 h18 h19 h20)), (h17, ob 5 [.int h17f0, .int h17f1, .ref h37]), (h18, ob 5 [.int h18f0, .int h18f1, .ref h38]), (h20, ob 5 [.int h20f0, .int h20f1, .ref h40]), (h19, ob 5 [.int h19f0, .int h19f1, .ref h39])] _ := hT
        refine lv_if_eq (tgt := 28) hx hb dX10_refusalOfTable_22 (by decide) (fun _ => ?_) (fun cc => absurd (by decide +kernel) cc)
        refine lv_aload hx hb dX10_refusalOfTable_28 (lv_at hl 0 rfl) ?_
        refine tz_get (ci := 5) (v := .int h19f0) (C := RX6) (F := TX6) (N := 3) hx hb hU iX6 hown hK hT 6 rfl rfl 0 (by decide) w238 (fun _ h9 => h9) rfl dX10_refusalOfTable_30 ?_
        refine lv_iload_n hx hb dX10_refusalOfTable_33 rfl (lv_at hl 4 rfl) ?_
        refine lv_icmp_le (tgt := 40) hx hb dX10_refusalOfTable_34 (by decide) (fun c_57 => ?_) (fun c_57 => ?_)
        · skip
          have c_57 := ni_le c_57 rfl li_0
          refine lv_aload hx hb dX10_refusalOfTable_40 (lv_at hl 0 rfl) ?_
          refine lv_iload_n hx hb dX10_refusalOfTable_42 rfl (lv_at hl 3 rfl) ?_
          refine lv_aload_n hx hb dX10_refusalOfTable_43 rfl (lv_at hl 1 rfl) ?_
          refine tz_get (ci := 7) (v := .ref h1) (C := RX10) (F := TX10) (N := 17) hx hb hU iX10 hown hK hT 0 rfl rfl 0 (by decide) w249 (fun _ h9 => h9) rfl dX10_refusalOfTable_44 ?_
          refine tcI (Tc := [(h1, ob 4 [.int h1f0, .int h1f1, .int h1f2, .ref h13])]) (Tr := [(h0, ob 7 [.ref h1, .ref h2, .int h0f2, .ref h3, .ref h4, .ref h5, .int h0f6, .ref h6, .int h0f8, .null, .ref h7, .int h0f11, .ref h8, .ref h9, .ref h10, .ref h11, .ref h12]), (h4, aQ (k 3) 4 (q4 h17 h18 h19 h20)), (h17, ob 5 [.int h17f0, .int h17f1, .ref h37]), (h18, ob 5 [.int h18f0, .int h18f1, .ref h38]), (h20, ob 5 [.int h20f0, .int h20f1, .ref h40]), (h19, ob 5 [.int h19f0, .int h19f1, .ref h39])]) (as := [h1]) (zcV (q0 := 1) (ci := 4) (As := []) (rest := [.int x2, .ref h19]) (Tc := [(h1, ob 4 [.int h1f0, .int h1f1, .int h1f2, .ref h13])]) hx hb hml hown hU hK hT rfl rfl [1] rfl (by decide) (cX5_cellCount_f3983 l D k _ h1 h13 h1f0 h1f1 h1f2 (by omega) (by omega)) w385 w382 w383 w384 w64 hdX5_cellCount ⟨rfl, rfl⟩ ⟨Nat.le_of_ble_eq_true rfl, Nat.le_of_ble_eq_true rfl⟩ rfl hl.1 (Nat.le_of_ble_eq_true rfl) dX10_refusalOfTable_47 ⟨Nat.le_of_ble_eq_true rfl, Nat.le_of_ble_eq_true rfl⟩) hT hS hA [1] [0, 2, 3, 4, 5, 6] rfl rfl rfl (by decide) (by decide) (fun r58 H locs hB J hS => ?_)
          rcases hB with ⟨v59, b_v59, c_60, c_61, rfl, hT1⟩ | ⟨v62, b_v62, c_63, c_64, rfl, hT1⟩ | ⟨v65, b_v65, c_66, c_67, rfl, hT1⟩
          · skip
            have hT := J _ hT1
            have hT : TP D A [(h0, ob 7 [.ref h1, .ref h2, .int h0f2, .ref h3, .ref h4, .ref h5, .int h0f6, .ref h6, .int h0f8, .null, .ref h7, .int h0f11, .ref h8, .ref h9, .ref h10, .ref h11, .ref h12]), (h4, aQ (k 3) 4 (q4 h17 h18 h19 h20)), (h17, ob 5 [.int h17f0, .int h17f1, .ref h37]), (h18, ob 5 [.int h18f0, .int h18f1, .ref h38]), (h20, ob 5 [.int h20f0, .int h20f1, .ref h40]), (h19, ob 5 [.int h19f0, .int h19f1, .ref h39]), (h1, ob 4 [.int h1f0, .int h1f1, .int h1f2, .ref h13])] _ := hT
            refine tcI (Tc := [(h19, ob 5 [.int h19f0, .int h19f1, .ref h39])]) (Tr := [(h0, ob 7 [.ref h1, .ref h2, .int h0f2, .ref h3, .ref h4, .ref h5, .int h0f6, .ref h6, .int h0f8, .null, .ref h7, .int h0f11, .ref h8, .ref h9, .ref h10, .ref h11, .ref h12]), (h4, aQ (k 3) 4 (q4 h17 h18 h19 h20)), (h17, ob 5 [.int h17f0, .int h17f1, .ref h37]), (h18, ob 5 [.int h18f0, .int h18f1, .ref h38]), (h20, ob 5 [.int h20f0, .int h20f1, .ref h40]), (h1, ob 4 [.int h1f0, .int h1f1, .int h1f2, .ref h13])]) (as := [h19]) (zcV (q0 := 5) (ci := 5) (As := [.int x2, .int v59]) (rest := []) (Tc := [(h19, ob 5 [.int h19f0, .int h19f1, .ref h39])]) hx hb hml hown hU hK hT rfl rfl [5] rfl (by decide) (cX6_isOutside_cc85b l D k _ h19 h39 x2 v59 h19f0 h19f1 (by omega) (by omega)) w648 w645 w646 w647 w71 hdX6_isOutside ⟨rfl, rfl⟩ ⟨Nat.le_of_ble_eq_true rfl, Nat.le_of_ble_eq_true rfl⟩ rfl hl.1 (Nat.le_of_ble_eq_true rfl) dX10_refusalOfTable_50 ⟨Nat.le_of_ble_eq_true rfl, Nat.le_of_ble_eq_true rfl⟩) hT hS hA [5] [0, 1, 2, 3, 4, 6] rfl rfl rfl (by decide) (by decide) (fun r68 H locs hB J hS => ?_)
            rcases hB with ⟨rfl, hT1⟩ | ⟨c_69, c_70, c_71, rfl, hT1⟩
            · skip
              have hT := J _ hT1
              have hT : TP D A [(h0, ob 7 [.ref h1, .ref h2, .int h0f2, .ref h3, .ref h4, .ref h5, .int h0f6, .ref h6, .int h0f8, .null, .ref h7, .int h0f11, .ref h8, .ref h9, .ref h10, .ref h11, .ref h12]), (h4, aQ (k 3) 4 (q4 h17 h18 h19 h20)), (h17, ob 5 [.int h17f0, .int h17f1, .ref h37]), (h18, ob 5 [.int h18f0, .int h18f1, .ref h38]), (h20, ob 5 [.int h20f0, .int h20f1, .ref h40]), (h1, ob 4 [.int h1f0, .int h1f1, .int h1f2, .ref h13]), (h19, ob 5 [.int h19f0, .int h19f1, .ref h39])] _ := hT
              refine lv_if_eq (tgt := 61) hx hb dX10_refusalOfTable_53 (by decide) (fun cc => absurd cc (by decide +kernel)) (fun _ => ?_)
              refine lv_bipush (v := (-12)) hx hb dX10_refusalOfTable_56 (by decide) ?_
              refine lv_goto (tgt := 62) hx hb dX10_refusalOfTable_58 (by decide) ?_
              exact tz_retI (B := B_cX10_refusalOfTable_450e2 D k h0 h1 h4 h17 h18 h19 h20 h2 h3 h5 h6 h7 h8 h9 h10 h11 h12 h13 h37 h38 h39 h40 x1 x2 h0f2 h0f6 h0f8 h0f11 h1f0 h1f1 h1f2 h17f0 h17f1 h18f0 h18f1 h19f0 h19f1 h20f0 h20f1) (v := (-12)) hQ hx hb hr hlocks hS (Nat.le_of_ble_eq_true rfl) (Nat.le_of_ble_eq_true rfl) dX10_refusalOfTable_62 (Or.inr (Or.inl ⟨rfl, (hT.sub [0, 5, 1, 2, 3, 6, 4] (by decide) rfl)⟩))
            · skip
              have hT := J _ hT1
              have hT : TP D A [(h0, ob 7 [.ref h1, .ref h2, .int h0f2, .ref h3, .ref h4, .ref h5, .int h0f6, .ref h6, .int h0f8, .null, .ref h7, .int h0f11, .ref h8, .ref h9, .ref h10, .ref h11, .ref h12]), (h4, aQ (k 3) 4 (q4 h17 h18 h19 h20)), (h17, ob 5 [.int h17f0, .int h17f1, .ref h37]), (h18, ob 5 [.int h18f0, .int h18f1, .ref h38]), (h20, ob 5 [.int h20f0, .int h20f1, .ref h40]), (h1, ob 4 [.int h1f0, .int h1f1, .int h1f2, .ref h13]), (h19, ob 5 [.int h19f0, .int h19f1, .ref h39])] _ := hT
              refine lv_if_eq (tgt := 61) hx hb dX10_refusalOfTable_53 (by decide) (fun _ => ?_) (fun cc => absurd (by decide +kernel) cc)
              refine lv_iconst (v := 0) hx hb dX10_refusalOfTable_61 (by decide) ?_
              exact tz_retI (B := B_cX10_refusalOfTable_450e2 D k h0 h1 h4 h17 h18 h19 h20 h2 h3 h5 h6 h7 h8 h9 h10 h11 h12 h13 h37 h38 h39 h40 x1 x2 h0f2 h0f6 h0f8 h0f11 h1f0 h1f1 h1f2 h17f0 h17f1 h18f0 h18f1 h19f0 h19f1 h20f0 h20f1) (v := 0) hQ hx hb hr hlocks hS (Nat.le_of_ble_eq_true rfl) (Nat.le_of_ble_eq_true rfl) dX10_refusalOfTable_62 (Or.inr (Or.inr (Or.inr (Or.inr (Or.inr (Or.inr (Or.inr (Or.inr (Or.inr (Or.inr (Or.inl ⟨v59, (by have := li_0; omega), (by have := li_0; omega), (by have := li_0; omega), (by have := li_0; omega), (by have := li_0; omega), (by have := li_0; omega), (by have := li_0; omega), (by have := li_0; omega), (by have := li_0; omega), (by have := li_0; omega), (by have := li_0; omega), (by have := li_0; omega), rfl, (hT.sub [0, 5, 1, 2, 3, 6, 4] (by decide) rfl)⟩)))))))))))
          · skip
            have hT := J _ hT1
            have hT : TP D A [(h0, ob 7 [.ref h1, .ref h2, .int h0f2, .ref h3, .ref h4, .ref h5, .int h0f6, .ref h6, .int h0f8, .null, .ref h7, .int h0f11, .ref h8, .ref h9, .ref h10, .ref h11, .ref h12]), (h4, aQ (k 3) 4 (q4 h17 h18 h19 h20)), (h17, ob 5 [.int h17f0, .int h17f1, .ref h37]), (h18, ob 5 [.int h18f0, .int h18f1, .ref h38]), (h20, ob 5 [.int h20f0, .int h20f1, .ref h40]), (h19, ob 5 [.int h19f0, .int h19f1, .ref h39]), (h1, ob 4 [.int h1f0, .int h1f1, .int h1f2, .ref h13])] _ := hT
            refine tcI (Tc := [(h19, ob 5 [.int h19f0, .int h19f1, .ref h39])]) (Tr := [(h0, ob 7 [.ref h1, .ref h2, .int h0f2, .ref h3, .ref h4, .ref h5, .int h0f6, .ref h6, .int h0f8, .null, .ref h7, .int h0f11, .ref h8, .ref h9, .ref h10, .ref h11, .ref h12]), (h4, aQ (k 3) 4 (q4 h17 h18 h19 h20)), (h17, ob 5 [.int h17f0, .int h17f1, .ref h37]), (h18, ob 5 [.int h18f0, .int h18f1, .ref h38]), (h20, ob 5 [.int h20f0, .int h20f1, .ref h40]), (h1, ob 4 [.int h1f0, .int h1f1, .int h1f2, .ref h13])]) (as := [h19]) (zcV (q0 := 5) (ci := 5) (As := [.int x2, .int v62]) (rest := []) (Tc := [(h19, ob 5 [.int h19f0, .int h19f1, .ref h39])]) hx hb hml hown hU hK hT rfl rfl [5] rfl (by decide) (cX6_isOutside_cc85b l D k _ h19 h39 x2 v62 h19f0 h19f1 (by omega) (by omega)) w648 w645 w646 w647 w71 hdX6_isOutside ⟨rfl, rfl⟩ ⟨Nat.le_of_ble_eq_true rfl, Nat.le_of_ble_eq_true rfl⟩ rfl hl.1 (Nat.le_of_ble_eq_true rfl) dX10_refusalOfTable_50 ⟨Nat.le_of_ble_eq_true rfl, Nat.le_of_ble_eq_true rfl⟩) hT hS hA [5] [0, 1, 2, 3, 4, 6] rfl rfl rfl (by decide) (by decide) (fun r72 H locs hB J hS => ?_)
            rcases hB with ⟨rfl, hT1⟩ | ⟨c_73, c_74, c_75, rfl, hT1⟩
            · skip
              have hT := J _ hT1
              have hT : TP D A [(h0, ob 7 [.ref h1, .ref h2, .int h0f2, .ref h3, .ref h4, .ref h5, .int h0f6, .ref h6, .int h0f8, .null, .ref h7, .int h0f11, .ref h8, .ref h9, .ref h10, .ref h11, .ref h12]), (h4, aQ (k 3) 4 (q4 h17 h18 h19 h20)), (h17, ob 5 [.int h17f0, .int h17f1, .ref h37]), (h18, ob 5 [.int h18f0, .int h18f1, .ref h38]), (h20, ob 5 [.int h20f0, .int h20f1, .ref h40]), (h1, ob 4 [.int h1f0, .int h1f1, .int h1f2, .ref h13]), (h19, ob 5 [.int h19f0, .int h19f1, .ref h39])] _ := hT
              refine lv_if_eq (tgt := 61) hx hb dX10_refusalOfTable_53 (by decide) (fun cc => absurd cc (by decide +kernel)) (fun _ => ?_)
              refine lv_bipush (v := (-12)) hx hb dX10_refusalOfTable_56 (by decide) ?_
              refine lv_goto (tgt := 62) hx hb dX10_refusalOfTable_58 (by decide) ?_
              exact tz_retI (B := B_cX10_refusalOfTable_450e2 D k h0 h1 h4 h17 h18 h19 h20 h2 h3 h5 h6 h7 h8 h9 h10 h11 h12 h13 h37 h38 h39 h40 x1 x2 h0f2 h0f6 h0f8 h0f11 h1f0 h1f1 h1f2 h17f0 h17f1 h18f0 h18f1 h19f0 h19f1 h20f0 h20f1) (v := (-12)) hQ hx hb hr hlocks hS (Nat.le_of_ble_eq_true rfl) (Nat.le_of_ble_eq_true rfl) dX10_refusalOfTable_62 (Or.inr (Or.inl ⟨rfl, (hT.sub [0, 5, 1, 2, 3, 6, 4] (by decide) rfl)⟩))
            · skip
              have hT := J _ hT1
              have hT : TP D A [(h0, ob 7 [.ref h1, .ref h2, .int h0f2, .ref h3, .ref h4, .ref h5, .int h0f6, .ref h6, .int h0f8, .null, .ref h7, .int h0f11, .ref h8, .ref h9, .ref h10, .ref h11, .ref h12]), (h4, aQ (k 3) 4 (q4 h17 h18 h19 h20)), (h17, ob 5 [.int h17f0, .int h17f1, .ref h37]), (h18, ob 5 [.int h18f0, .int h18f1, .ref h38]), (h20, ob 5 [.int h20f0, .int h20f1, .ref h40]), (h1, ob 4 [.int h1f0, .int h1f1, .int h1f2, .ref h13]), (h19, ob 5 [.int h19f0, .int h19f1, .ref h39])] _ := hT
              refine lv_if_eq (tgt := 61) hx hb dX10_refusalOfTable_53 (by decide) (fun _ => ?_) (fun cc => absurd (by decide +kernel) cc)
              refine lv_iconst (v := 0) hx hb dX10_refusalOfTable_61 (by decide) ?_
              exact tz_retI (B := B_cX10_refusalOfTable_450e2 D k h0 h1 h4 h17 h18 h19 h20 h2 h3 h5 h6 h7 h8 h9 h10 h11 h12 h13 h37 h38 h39 h40 x1 x2 h0f2 h0f6 h0f8 h0f11 h1f0 h1f1 h1f2 h17f0 h17f1 h18f0 h18f1 h19f0 h19f1 h20f0 h20f1) (v := 0) hQ hx hb hr hlocks hS (Nat.le_of_ble_eq_true rfl) (Nat.le_of_ble_eq_true rfl) dX10_refusalOfTable_62 (Or.inr (Or.inr (Or.inr (Or.inr (Or.inr (Or.inr (Or.inr (Or.inr (Or.inr (Or.inr (Or.inr (Or.inl ⟨v62, (by have := li_0; omega), (by have := li_0; omega), (by have := li_0; omega), (by have := li_0; omega), (by have := li_0; omega), (by have := li_0; omega), (by have := li_0; omega), (by have := li_0; omega), (by have := li_0; omega), (by have := li_0; omega), (by have := li_0; omega), (by have := li_0; omega), rfl, (hT.sub [0, 5, 1, 2, 3, 6, 4] (by decide) rfl)⟩))))))))))))
          · skip
            have hT := J _ hT1
            have hT : TP D A [(h0, ob 7 [.ref h1, .ref h2, .int h0f2, .ref h3, .ref h4, .ref h5, .int h0f6, .ref h6, .int h0f8, .null, .ref h7, .int h0f11, .ref h8, .ref h9, .ref h10, .ref h11, .ref h12]), (h4, aQ (k 3) 4 (q4 h17 h18 h19 h20)), (h17, ob 5 [.int h17f0, .int h17f1, .ref h37]), (h18, ob 5 [.int h18f0, .int h18f1, .ref h38]), (h20, ob 5 [.int h20f0, .int h20f1, .ref h40]), (h19, ob 5 [.int h19f0, .int h19f1, .ref h39]), (h1, ob 4 [.int h1f0, .int h1f1, .int h1f2, .ref h13])] _ := hT
            refine tcI (Tc := [(h19, ob 5 [.int h19f0, .int h19f1, .ref h39])]) (Tr := [(h0, ob 7 [.ref h1, .ref h2, .int h0f2, .ref h3, .ref h4, .ref h5, .int h0f6, .ref h6, .int h0f8, .null, .ref h7, .int h0f11, .ref h8, .ref h9, .ref h10, .ref h11, .ref h12]), (h4, aQ (k 3) 4 (q4 h17 h18 h19 h20)), (h17, ob 5 [.int h17f0, .int h17f1, .ref h37]), (h18, ob 5 [.int h18f0, .int h18f1, .ref h38]), (h20, ob 5 [.int h20f0, .int h20f1, .ref h40]), (h1, ob 4 [.int h1f0, .int h1f1, .int h1f2, .ref h13])]) (as := [h19]) (zcV (q0 := 5) (ci := 5) (As := [.int x2, .int v65]) (rest := []) (Tc := [(h19, ob 5 [.int h19f0, .int h19f1, .ref h39])]) hx hb hml hown hU hK hT rfl rfl [5] rfl (by decide) (cX6_isOutside_cc85b l D k _ h19 h39 x2 v65 h19f0 h19f1 (by omega) (by omega)) w648 w645 w646 w647 w71 hdX6_isOutside ⟨rfl, rfl⟩ ⟨Nat.le_of_ble_eq_true rfl, Nat.le_of_ble_eq_true rfl⟩ rfl hl.1 (Nat.le_of_ble_eq_true rfl) dX10_refusalOfTable_50 ⟨Nat.le_of_ble_eq_true rfl, Nat.le_of_ble_eq_true rfl⟩) hT hS hA [5] [0, 1, 2, 3, 4, 6] rfl rfl rfl (by decide) (by decide) (fun r76 H locs hB J hS => ?_)
            rcases hB with ⟨rfl, hT1⟩ | ⟨c_77, c_78, c_79, rfl, hT1⟩
            · skip
              have hT := J _ hT1
              have hT : TP D A [(h0, ob 7 [.ref h1, .ref h2, .int h0f2, .ref h3, .ref h4, .ref h5, .int h0f6, .ref h6, .int h0f8, .null, .ref h7, .int h0f11, .ref h8, .ref h9, .ref h10, .ref h11, .ref h12]), (h4, aQ (k 3) 4 (q4 h17 h18 h19 h20)), (h17, ob 5 [.int h17f0, .int h17f1, .ref h37]), (h18, ob 5 [.int h18f0, .int h18f1, .ref h38]), (h20, ob 5 [.int h20f0, .int h20f1, .ref h40]), (h1, ob 4 [.int h1f0, .int h1f1, .int h1f2, .ref h13]), (h19, ob 5 [.int h19f0, .int h19f1, .ref h39])] _ := hT
              refine lv_if_eq (tgt := 61) hx hb dX10_refusalOfTable_53 (by decide) (fun cc => absurd cc (by decide +kernel)) (fun _ => ?_)
              refine lv_bipush (v := (-12)) hx hb dX10_refusalOfTable_56 (by decide) ?_
              refine lv_goto (tgt := 62) hx hb dX10_refusalOfTable_58 (by decide) ?_
              exact tz_retI (B := B_cX10_refusalOfTable_450e2 D k h0 h1 h4 h17 h18 h19 h20 h2 h3 h5 h6 h7 h8 h9 h10 h11 h12 h13 h37 h38 h39 h40 x1 x2 h0f2 h0f6 h0f8 h0f11 h1f0 h1f1 h1f2 h17f0 h17f1 h18f0 h18f1 h19f0 h19f1 h20f0 h20f1) (v := (-12)) hQ hx hb hr hlocks hS (Nat.le_of_ble_eq_true rfl) (Nat.le_of_ble_eq_true rfl) dX10_refusalOfTable_62 (Or.inr (Or.inl ⟨rfl, (hT.sub [0, 5, 1, 2, 3, 6, 4] (by decide) rfl)⟩))
            · skip
              have hT := J _ hT1
              have hT : TP D A [(h0, ob 7 [.ref h1, .ref h2, .int h0f2, .ref h3, .ref h4, .ref h5, .int h0f6, .ref h6, .int h0f8, .null, .ref h7, .int h0f11, .ref h8, .ref h9, .ref h10, .ref h11, .ref h12]), (h4, aQ (k 3) 4 (q4 h17 h18 h19 h20)), (h17, ob 5 [.int h17f0, .int h17f1, .ref h37]), (h18, ob 5 [.int h18f0, .int h18f1, .ref h38]), (h20, ob 5 [.int h20f0, .int h20f1, .ref h40]), (h1, ob 4 [.int h1f0, .int h1f1, .int h1f2, .ref h13]), (h19, ob 5 [.int h19f0, .int h19f1, .ref h39])] _ := hT
              refine lv_if_eq (tgt := 61) hx hb dX10_refusalOfTable_53 (by decide) (fun _ => ?_) (fun cc => absurd (by decide +kernel) cc)
              refine lv_iconst (v := 0) hx hb dX10_refusalOfTable_61 (by decide) ?_
              exact tz_retI (B := B_cX10_refusalOfTable_450e2 D k h0 h1 h4 h17 h18 h19 h20 h2 h3 h5 h6 h7 h8 h9 h10 h11 h12 h13 h37 h38 h39 h40 x1 x2 h0f2 h0f6 h0f8 h0f11 h1f0 h1f1 h1f2 h17f0 h17f1 h18f0 h18f1 h19f0 h19f1 h20f0 h20f1) (v := 0) hQ hx hb hr hlocks hS (Nat.le_of_ble_eq_true rfl) (Nat.le_of_ble_eq_true rfl) dX10_refusalOfTable_62 (Or.inr (Or.inr (Or.inr (Or.inr (Or.inr (Or.inr (Or.inr (Or.inr (Or.inr (Or.inr (Or.inr (Or.inr (Or.inl ⟨v65, (by have := li_0; omega), (by have := li_0; omega), (by have := li_0; omega), (by have := li_0; omega), (by have := li_0; omega), (by have := li_0; omega), (by have := li_0; omega), (by have := li_0; omega), (by have := li_0; omega), (by have := li_0; omega), (by have := li_0; omega), (by have := li_0; omega), rfl, (hT.sub [0, 5, 1, 2, 3, 6, 4] (by decide) rfl)⟩)))))))))))))
        · skip
          have c_57 := ni_nle c_57 rfl li_0
          refine lv_bipush (v := (-13)) hx hb dX10_refusalOfTable_37 (by decide) ?_
          exact tz_retI (B := B_cX10_refusalOfTable_450e2 D k h0 h1 h4 h17 h18 h19 h20 h2 h3 h5 h6 h7 h8 h9 h10 h11 h12 h13 h37 h38 h39 h40 x1 x2 h0f2 h0f6 h0f8 h0f11 h1f0 h1f1 h1f2 h17f0 h17f1 h18f0 h18f1 h19f0 h19f1 h20f0 h20f1) (v := (-13)) hQ hx hb hr hlocks hS (Nat.le_of_ble_eq_true rfl) (Nat.le_of_ble_eq_true rfl) dX10_refusalOfTable_39 (Or.inr (Or.inr (Or.inr (Or.inr (Or.inr (Or.inl ⟨rfl, (hT.sub [0, 1, 2, 3, 4, 6, 5] (by decide) rfl)⟩))))))
      · skip
        have hT := J _ hT1
        have hT : TP D A [(h0, ob 7 [.ref h1, .ref h2, .int h0f2, .ref h3, .ref h4, .ref h5, .int h0f6, .ref h6, .int h0f8, .null, .ref h7, .int h0f11, .ref h8, .ref h9, .ref h10, .ref h11, .ref h12]), (h1, ob 4 [.int h1f0, .int h1f1, .int h1f2, .ref h13]), (h4, aQ (k 3) 4 (q4 h17 h18 h19 h20)), (h17, ob 5 [.int h17f0, .int h17f1, .ref h37]), (h18, ob 5 [.int h18f0, .int h18f1, .ref h38]), (h20, ob 5 [.int h20f0, .int h20f1, .ref h40]), (h19, ob 5 [.int h19f0, .int h19f1, .ref h39])] _ := hT
        refine lv_if_eq (tgt := 28) hx hb dX10_refusalOfTable_22 (by decide) (fun cc => absurd cc (by decide +kernel)) (fun _ => ?_)
        refine lv_bipush (v := (-11)) hx hb dX10_refusalOfTable_25 (by decide) ?_
        exact tz_retI (B := B_cX10_refusalOfTable_450e2 D k h0 h1 h4 h17 h18 h19 h20 h2 h3 h5 h6 h7 h8 h9 h10 h11 h12 h13 h37 h38 h39 h40 x1 x2 h0f2 h0f6 h0f8 h0f11 h1f0 h1f1 h1f2 h17f0 h17f1 h18f0 h18f1 h19f0 h19f1 h20f0 h20f1) (v := (-11)) hQ hx hb hr hlocks hS (Nat.le_of_ble_eq_true rfl) (Nat.le_of_ble_eq_true rfl) dX10_refusalOfTable_27 (Or.inr (Or.inr (Or.inr (Or.inr (Or.inr (Or.inr (Or.inl ⟨rfl, (hT.sub [0, 1, 2, 3, 4, 6, 5] (by decide) rfl)⟩)))))))
    · skip
      refine tz_aldq (b := h20) hx hb hK hT 2 rfl (vp_in_iff.mpr (by have := hq4; omega)) (fun f hf => by rw [cl_of hq4]; exact hf.2.2.2) dX10_refusalOfTable_14 ?_
      refine lv_astore (lv' := [(4, .ref h20), (0, .ref h0), (1, .int x1), (2, .int x2), (3, .int 0)]) hx hb dX10_refusalOfTable_15 hl (by decide) rfl (fun ls hl => ?_)
      refine lv_aload hx hb dX10_refusalOfTable_17 (lv_at hl 0 rfl) ?_
      refine tcI (Tc := [(h20, ob 5 [.int h20f0, .int h20f1, .ref h40])]) (Tr := [(h0, ob 7 [.ref h1, .ref h2, .int h0f2, .ref h3, .ref h4, .ref h5, .int h0f6, .ref h6, .int h0f8, .null, .ref h7, .int h0f11, .ref h8, .ref h9, .ref h10, .ref h11, .ref h12]), (h1, ob 4 [.int h1f0, .int h1f1, .int h1f2, .ref h13]), (h4, aQ (k 3) 4 (q4 h17 h18 h19 h20)), (h17, ob 5 [.int h17f0, .int h17f1, .ref h37]), (h18, ob 5 [.int h18f0, .int h18f1, .ref h38]), (h19, ob 5 [.int h19f0, .int h19f1, .ref h39])]) (as := [h20]) (zcV (q0 := 6) (ci := 5) (As := []) (rest := []) (Tc := [(h20, ob 5 [.int h20f0, .int h20f1, .ref h40])]) hx hb hml hown hU hK hT rfl rfl [6] rfl (by decide) (cX6_isMissing_56a93 l D k _ h20 h40 h20f0 h20f1 (by omega) (by omega)) w644 w641 w642 w643 w71 hdX6_isMissing ⟨rfl, rfl⟩ ⟨Nat.le_of_ble_eq_true rfl, Nat.le_of_ble_eq_true rfl⟩ rfl hl.1 (Nat.le_of_ble_eq_true rfl) dX10_refusalOfTable_19 ⟨Nat.le_of_ble_eq_true rfl, Nat.le_of_ble_eq_true rfl⟩) hT hS hA [6] [0, 1, 2, 3, 4, 5] rfl rfl rfl (by decide) (by decide) (fun r80 H locs hB J hS => ?_)
      rcases hB with ⟨c_81, rfl, hT1⟩ | ⟨rfl, hT1⟩
      · skip
        have hT := J _ hT1
        have hT : TP D A [(h0, ob 7 [.ref h1, .ref h2, .int h0f2, .ref h3, .ref h4, .ref h5, .int h0f6, .ref h6, .int h0f8, .null, .ref h7, .int h0f11, .ref h8, .ref h9, .ref h10, .ref h11, .ref h12]), (h1, ob 4 [.int h1f0, .int h1f1, .int h1f2, .ref h13]), (h4, aQ (k 3) 4 (q4 h17 h18 h19 h20)), (h17, ob 5 [.int h17f0, .int h17f1, .ref h37]), (h18, ob 5 [.int h18f0, .int h18f1, .ref h38]), (h19, ob 5 [.int h19f0, .int h19f1, .ref h39]), (h20, ob 5 [.int h20f0, .int h20f1, .ref h40])] _ := hT
        refine lv_if_eq (tgt := 28) hx hb dX10_refusalOfTable_22 (by decide) (fun _ => ?_) (fun cc => absurd (by decide +kernel) cc)
        refine lv_aload hx hb dX10_refusalOfTable_28 (lv_at hl 0 rfl) ?_
        refine tz_get (ci := 5) (v := .int h20f0) (C := RX6) (F := TX6) (N := 3) hx hb hU iX6 hown hK hT 6 rfl rfl 0 (by decide) w238 (fun _ h9 => h9) rfl dX10_refusalOfTable_30 ?_
        refine lv_iload_n hx hb dX10_refusalOfTable_33 rfl (lv_at hl 4 rfl) ?_
        refine lv_icmp_le (tgt := 40) hx hb dX10_refusalOfTable_34 (by decide) (fun c_82 => ?_) (fun c_82 => ?_)
        · skip
          have c_82 := ni_le c_82 rfl li_0
          refine lv_aload hx hb dX10_refusalOfTable_40 (lv_at hl 0 rfl) ?_
          refine lv_iload_n hx hb dX10_refusalOfTable_42 rfl (lv_at hl 3 rfl) ?_
          refine lv_aload_n hx hb dX10_refusalOfTable_43 rfl (lv_at hl 1 rfl) ?_
          refine tz_get (ci := 7) (v := .ref h1) (C := RX10) (F := TX10) (N := 17) hx hb hU iX10 hown hK hT 0 rfl rfl 0 (by decide) w249 (fun _ h9 => h9) rfl dX10_refusalOfTable_44 ?_
          refine tcI (Tc := [(h1, ob 4 [.int h1f0, .int h1f1, .int h1f2, .ref h13])]) (Tr := [(h0, ob 7 [.ref h1, .ref h2, .int h0f2, .ref h3, .ref h4, .ref h5, .int h0f6, .ref h6, .int h0f8, .null, .ref h7, .int h0f11, .ref h8, .ref h9, .ref h10, .ref h11, .ref h12]), (h4, aQ (k 3) 4 (q4 h17 h18 h19 h20)), (h17, ob 5 [.int h17f0, .int h17f1, .ref h37]), (h18, ob 5 [.int h18f0, .int h18f1, .ref h38]), (h19, ob 5 [.int h19f0, .int h19f1, .ref h39]), (h20, ob 5 [.int h20f0, .int h20f1, .ref h40])]) (as := [h1]) (zcV (q0 := 1) (ci := 4) (As := []) (rest := [.int x2, .ref h20]) (Tc := [(h1, ob 4 [.int h1f0, .int h1f1, .int h1f2, .ref h13])]) hx hb hml hown hU hK hT rfl rfl [1] rfl (by decide) (cX5_cellCount_f3983 l D k _ h1 h13 h1f0 h1f1 h1f2 (by omega) (by omega)) w385 w382 w383 w384 w64 hdX5_cellCount ⟨rfl, rfl⟩ ⟨Nat.le_of_ble_eq_true rfl, Nat.le_of_ble_eq_true rfl⟩ rfl hl.1 (Nat.le_of_ble_eq_true rfl) dX10_refusalOfTable_47 ⟨Nat.le_of_ble_eq_true rfl, Nat.le_of_ble_eq_true rfl⟩) hT hS hA [1] [0, 2, 3, 4, 5, 6] rfl rfl rfl (by decide) (by decide) (fun r83 H locs hB J hS => ?_)
          rcases hB with ⟨v84, b_v84, c_85, c_86, rfl, hT1⟩ | ⟨v87, b_v87, c_88, c_89, rfl, hT1⟩ | ⟨v90, b_v90, c_91, c_92, rfl, hT1⟩
          · skip
            have hT := J _ hT1
            have hT : TP D A [(h0, ob 7 [.ref h1, .ref h2, .int h0f2, .ref h3, .ref h4, .ref h5, .int h0f6, .ref h6, .int h0f8, .null, .ref h7, .int h0f11, .ref h8, .ref h9, .ref h10, .ref h11, .ref h12]), (h4, aQ (k 3) 4 (q4 h17 h18 h19 h20)), (h17, ob 5 [.int h17f0, .int h17f1, .ref h37]), (h18, ob 5 [.int h18f0, .int h18f1, .ref h38]), (h19, ob 5 [.int h19f0, .int h19f1, .ref h39]), (h20, ob 5 [.int h20f0, .int h20f1, .ref h40]), (h1, ob 4 [.int h1f0, .int h1f1, .int h1f2, .ref h13])] _ := hT
            refine tcI (Tc := [(h20, ob 5 [.int h20f0, .int h20f1, .ref h40])]) (Tr := [(h0, ob 7 [.ref h1, .ref h2, .int h0f2, .ref h3, .ref h4, .ref h5, .int h0f6, .ref h6, .int h0f8, .null, .ref h7, .int h0f11, .ref h8, .ref h9, .ref h10, .ref h11, .ref h12]), (h4, aQ (k 3) 4 (q4 h17 h18 h19 h20)), (h17, ob 5 [.int h17f0, .int h17f1, .ref h37]), (h18, ob 5 [.int h18f0, .int h18f1, .ref h38]), (h19, ob 5 [.int h19f0, .int h19f1, .ref h39]), (h1, ob 4 [.int h1f0, .int h1f1, .int h1f2, .ref h13])]) (as := [h20]) (zcV (q0 := 5) (ci := 5) (As := [.int x2, .int v84]) (rest := []) (Tc := [(h20, ob 5 [.int h20f0, .int h20f1, .ref h40])]) hx hb hml hown hU hK hT rfl rfl [5] rfl (by decide) (cX6_isOutside_cc85b l D k _ h20 h40 x2 v84 h20f0 h20f1 (by omega) (by omega)) w648 w645 w646 w647 w71 hdX6_isOutside ⟨rfl, rfl⟩ ⟨Nat.le_of_ble_eq_true rfl, Nat.le_of_ble_eq_true rfl⟩ rfl hl.1 (Nat.le_of_ble_eq_true rfl) dX10_refusalOfTable_50 ⟨Nat.le_of_ble_eq_true rfl, Nat.le_of_ble_eq_true rfl⟩) hT hS hA [5] [0, 1, 2, 3, 4, 6] rfl rfl rfl (by decide) (by decide) (fun r93 H locs hB J hS => ?_)
            rcases hB with ⟨rfl, hT1⟩ | ⟨c_94, c_95, c_96, rfl, hT1⟩
            · skip
              have hT := J _ hT1
              have hT : TP D A [(h0, ob 7 [.ref h1, .ref h2, .int h0f2, .ref h3, .ref h4, .ref h5, .int h0f6, .ref h6, .int h0f8, .null, .ref h7, .int h0f11, .ref h8, .ref h9, .ref h10, .ref h11, .ref h12]), (h4, aQ (k 3) 4 (q4 h17 h18 h19 h20)), (h17, ob 5 [.int h17f0, .int h17f1, .ref h37]), (h18, ob 5 [.int h18f0, .int h18f1, .ref h38]), (h19, ob 5 [.int h19f0, .int h19f1, .ref h39]), (h1, ob 4 [.int h1f0, .int h1f1, .int h1f2, .ref h13]), (h20, ob 5 [.int h20f0, .int h20f1, .ref h40])] _ := hT
              refine lv_if_eq (tgt := 61) hx hb dX10_refusalOfTable_53 (by decide) (fun cc => absurd cc (by decide +kernel)) (fun _ => ?_)
              refine lv_bipush (v := (-12)) hx hb dX10_refusalOfTable_56 (by decide) ?_
              refine lv_goto (tgt := 62) hx hb dX10_refusalOfTable_58 (by decide) ?_
              exact tz_retI (B := B_cX10_refusalOfTable_450e2 D k h0 h1 h4 h17 h18 h19 h20 h2 h3 h5 h6 h7 h8 h9 h10 h11 h12 h13 h37 h38 h39 h40 x1 x2 h0f2 h0f6 h0f8 h0f11 h1f0 h1f1 h1f2 h17f0 h17f1 h18f0 h18f1 h19f0 h19f1 h20f0 h20f1) (v := (-12)) hQ hx hb hr hlocks hS (Nat.le_of_ble_eq_true rfl) (Nat.le_of_ble_eq_true rfl) dX10_refusalOfTable_62 (Or.inr (Or.inl ⟨rfl, (hT.sub [0, 5, 1, 2, 3, 4, 6] (by decide) rfl)⟩))
            · skip
              have hT := J _ hT1
              have hT : TP D A [(h0, ob 7 [.ref h1, .ref h2, .int h0f2, .ref h3, .ref h4, .ref h5, .int h0f6, .ref h6, .int h0f8, .null, .ref h7, .int h0f11, .ref h8, .ref h9, .ref h10, .ref h11, .ref h12]), (h4, aQ (k 3) 4 (q4 h17 h18 h19 h20)), (h17, ob 5 [.int h17f0, .int h17f1, .ref h37]), (h18, ob 5 [.int h18f0, .int h18f1, .ref h38]), (h19, ob 5 [.int h19f0, .int h19f1, .ref h39]), (h1, ob 4 [.int h1f0, .int h1f1, .int h1f2, .ref h13]), (h20, ob 5 [.int h20f0, .int h20f1, .ref h40])] _ := hT
              refine lv_if_eq (tgt := 61) hx hb dX10_refusalOfTable_53 (by decide) (fun _ => ?_) (fun cc => absurd (by decide +kernel) cc)
              refine lv_iconst (v := 0) hx hb dX10_refusalOfTable_61 (by decide) ?_
              exact tz_retI (B := B_cX10_refusalOfTable_450e2 D k h0 h1 h4 h17 h18 h19 h20 h2 h3 h5 h6 h7 h8 h9 h10 h11 h12 h13 h37 h38 h39 h40 x1 x2 h0f2 h0f6 h0f8 h0f11 h1f0 h1f1 h1f2 h17f0 h17f1 h18f0 h18f1 h19f0 h19f1 h20f0 h20f1) (v := 0) hQ hx hb hr hlocks hS (Nat.le_of_ble_eq_true rfl) (Nat.le_of_ble_eq_true rfl) dX10_refusalOfTable_62 (Or.inr (Or.inr (Or.inr (Or.inr (Or.inr (Or.inr (Or.inr (Or.inr (Or.inr (Or.inr (Or.inr (Or.inr (Or.inr (Or.inl ⟨v84, (by have := li_0; omega), (by have := li_0; omega), (by have := li_0; omega), (by have := li_0; omega), (by have := li_0; omega), (by have := li_0; omega), (by have := li_0; omega), (by have := li_0; omega), (by have := li_0; omega), (by have := li_0; omega), (by have := li_0; omega), (by have := li_0; omega), rfl, (hT.sub [0, 5, 1, 2, 3, 4, 6] (by decide) rfl)⟩))))))))))))))
          · skip
            have hT := J _ hT1
            have hT : TP D A [(h0, ob 7 [.ref h1, .ref h2, .int h0f2, .ref h3, .ref h4, .ref h5, .int h0f6, .ref h6, .int h0f8, .null, .ref h7, .int h0f11, .ref h8, .ref h9, .ref h10, .ref h11, .ref h12]), (h4, aQ (k 3) 4 (q4 h17 h18 h19 h20)), (h17, ob 5 [.int h17f0, .int h17f1, .ref h37]), (h18, ob 5 [.int h18f0, .int h18f1, .ref h38]), (h19, ob 5 [.int h19f0, .int h19f1, .ref h39]), (h20, ob 5 [.int h20f0, .int h20f1, .ref h40]), (h1, ob 4 [.int h1f0, .int h1f1, .int h1f2, .ref h13])] _ := hT
            refine tcI (Tc := [(h20, ob 5 [.int h20f0, .int h20f1, .ref h40])]) (Tr := [(h0, ob 7 [.ref h1, .ref h2, .int h0f2, .ref h3, .ref h4, .ref h5, .int h0f6, .ref h6, .int h0f8, .null, .ref h7, .int h0f11, .ref h8, .ref h9, .ref h10, .ref h11, .ref h12]), (h4, aQ (k 3) 4 (q4 h17 h18 h19 h20)), (h17, ob 5 [.int h17f0, .int h17f1, .ref h37]), (h18, ob 5 [.int h18f0, .int h18f1, .ref h38]), (h19, ob 5 [.int h19f0, .int h19f1, .ref h39]), (h1, ob 4 [.int h1f0, .int h1f1, .int h1f2, .ref h13])]) (as := [h20]) (zcV (q0 := 5) (ci := 5) (As := [.int x2, .int v87]) (rest := []) (Tc := [(h20, ob 5 [.int h20f0, .int h20f1, .ref h40])]) hx hb hml hown hU hK hT rfl rfl [5] rfl (by decide) (cX6_isOutside_cc85b l D k _ h20 h40 x2 v87 h20f0 h20f1 (by omega) (by omega)) w648 w645 w646 w647 w71 hdX6_isOutside ⟨rfl, rfl⟩ ⟨Nat.le_of_ble_eq_true rfl, Nat.le_of_ble_eq_true rfl⟩ rfl hl.1 (Nat.le_of_ble_eq_true rfl) dX10_refusalOfTable_50 ⟨Nat.le_of_ble_eq_true rfl, Nat.le_of_ble_eq_true rfl⟩) hT hS hA [5] [0, 1, 2, 3, 4, 6] rfl rfl rfl (by decide) (by decide) (fun r97 H locs hB J hS => ?_)
            rcases hB with ⟨rfl, hT1⟩ | ⟨c_98, c_99, c_100, rfl, hT1⟩
            · skip
              have hT := J _ hT1
              have hT : TP D A [(h0, ob 7 [.ref h1, .ref h2, .int h0f2, .ref h3, .ref h4, .ref h5, .int h0f6, .ref h6, .int h0f8, .null, .ref h7, .int h0f11, .ref h8, .ref h9, .ref h10, .ref h11, .ref h12]), (h4, aQ (k 3) 4 (q4 h17 h18 h19 h20)), (h17, ob 5 [.int h17f0, .int h17f1, .ref h37]), (h18, ob 5 [.int h18f0, .int h18f1, .ref h38]), (h19, ob 5 [.int h19f0, .int h19f1, .ref h39]), (h1, ob 4 [.int h1f0, .int h1f1, .int h1f2, .ref h13]), (h20, ob 5 [.int h20f0, .int h20f1, .ref h40])] _ := hT
              refine lv_if_eq (tgt := 61) hx hb dX10_refusalOfTable_53 (by decide) (fun cc => absurd cc (by decide +kernel)) (fun _ => ?_)
              refine lv_bipush (v := (-12)) hx hb dX10_refusalOfTable_56 (by decide) ?_
              refine lv_goto (tgt := 62) hx hb dX10_refusalOfTable_58 (by decide) ?_
              exact tz_retI (B := B_cX10_refusalOfTable_450e2 D k h0 h1 h4 h17 h18 h19 h20 h2 h3 h5 h6 h7 h8 h9 h10 h11 h12 h13 h37 h38 h39 h40 x1 x2 h0f2 h0f6 h0f8 h0f11 h1f0 h1f1 h1f2 h17f0 h17f1 h18f0 h18f1 h19f0 h19f1 h20f0 h20f1) (v := (-12)) hQ hx hb hr hlocks hS (Nat.le_of_ble_eq_true rfl) (Nat.le_of_ble_eq_true rfl) dX10_refusalOfTable_62 (Or.inr (Or.inl ⟨rfl, (hT.sub [0, 5, 1, 2, 3, 4, 6] (by decide) rfl)⟩))
            · skip
              have hT := J _ hT1
              have hT : TP D A [(h0, ob 7 [.ref h1, .ref h2, .int h0f2, .ref h3, .ref h4, .ref h5, .int h0f6, .ref h6, .int h0f8, .null, .ref h7, .int h0f11, .ref h8, .ref h9, .ref h10, .ref h11, .ref h12]), (h4, aQ (k 3) 4 (q4 h17 h18 h19 h20)), (h17, ob 5 [.int h17f0, .int h17f1, .ref h37]), (h18, ob 5 [.int h18f0, .int h18f1, .ref h38]), (h19, ob 5 [.int h19f0, .int h19f1, .ref h39]), (h1, ob 4 [.int h1f0, .int h1f1, .int h1f2, .ref h13]), (h20, ob 5 [.int h20f0, .int h20f1, .ref h40])] _ := hT
              refine lv_if_eq (tgt := 61) hx hb dX10_refusalOfTable_53 (by decide) (fun _ => ?_) (fun cc => absurd (by decide +kernel) cc)
              refine lv_iconst (v := 0) hx hb dX10_refusalOfTable_61 (by decide) ?_
              exact tz_retI (B := B_cX10_refusalOfTable_450e2 D k h0 h1 h4 h17 h18 h19 h20 h2 h3 h5 h6 h7 h8 h9 h10 h11 h12 h13 h37 h38 h39 h40 x1 x2 h0f2 h0f6 h0f8 h0f11 h1f0 h1f1 h1f2 h17f0 h17f1 h18f0 h18f1 h19f0 h19f1 h20f0 h20f1) (v := 0) hQ hx hb hr hlocks hS (Nat.le_of_ble_eq_true rfl) (Nat.le_of_ble_eq_true rfl) dX10_refusalOfTable_62 (Or.inr (Or.inr (Or.inr (Or.inr (Or.inr (Or.inr (Or.inr (Or.inr (Or.inr (Or.inr (Or.inr (Or.inr (Or.inr (Or.inr (Or.inl ⟨v87, (by have := li_0; omega), (by have := li_0; omega), (by have := li_0; omega), (by have := li_0; omega), (by have := li_0; omega), (by have := li_0; omega), (by have := li_0; omega), (by have := li_0; omega), (by have := li_0; omega), (by have := li_0; omega), (by have := li_0; omega), (by have := li_0; omega), rfl, (hT.sub [0, 5, 1, 2, 3, 4, 6] (by decide) rfl)⟩)))))))))))))))
          · skip
            have hT := J _ hT1
            have hT : TP D A [(h0, ob 7 [.ref h1, .ref h2, .int h0f2, .ref h3, .ref h4, .ref h5, .int h0f6, .ref h6, .int h0f8, .null, .ref h7, .int h0f11, .ref h8, .ref h9, .ref h10, .ref h11, .ref h12]), (h4, aQ (k 3) 4 (q4 h17 h18 h19 h20)), (h17, ob 5 [.int h17f0, .int h17f1, .ref h37]), (h18, ob 5 [.int h18f0, .int h18f1, .ref h38]), (h19, ob 5 [.int h19f0, .int h19f1, .ref h39]), (h20, ob 5 [.int h20f0, .int h20f1, .ref h40]), (h1, ob 4 [.int h1f0, .int h1f1, .int h1f2, .ref h13])] _ := hT
            refine tcI (Tc := [(h20, ob 5 [.int h20f0, .int h20f1, .ref h40])]) (Tr := [(h0, ob 7 [.ref h1, .ref h2, .int h0f2, .ref h3, .ref h4, .ref h5, .int h0f6, .ref h6, .int h0f8, .null, .ref h7, .int h0f11, .ref h8, .ref h9, .ref h10, .ref h11, .ref h12]), (h4, aQ (k 3) 4 (q4 h17 h18 h19 h20)), (h17, ob 5 [.int h17f0, .int h17f1, .ref h37]), (h18, ob 5 [.int h18f0, .int h18f1, .ref h38]), (h19, ob 5 [.int h19f0, .int h19f1, .ref h39]), (h1, ob 4 [.int h1f0, .int h1f1, .int h1f2, .ref h13])]) (as := [h20]) (zcV (q0 := 5) (ci := 5) (As := [.int x2, .int v90]) (rest := []) (Tc := [(h20, ob 5 [.int h20f0, .int h20f1, .ref h40])]) hx hb hml hown hU hK hT rfl rfl [5] rfl (by decide) (cX6_isOutside_cc85b l D k _ h20 h40 x2 v90 h20f0 h20f1 (by omega) (by omega)) w648 w645 w646 w647 w71 hdX6_isOutside ⟨rfl, rfl⟩ ⟨Nat.le_of_ble_eq_true rfl, Nat.le_of_ble_eq_true rfl⟩ rfl hl.1 (Nat.le_of_ble_eq_true rfl) dX10_refusalOfTable_50 ⟨Nat.le_of_ble_eq_true rfl, Nat.le_of_ble_eq_true rfl⟩) hT hS hA [5] [0, 1, 2, 3, 4, 6] rfl rfl rfl (by decide) (by decide) (fun r101 H locs hB J hS => ?_)
            rcases hB with ⟨rfl, hT1⟩ | ⟨c_102, c_103, c_104, rfl, hT1⟩
            · skip
              have hT := J _ hT1
              have hT : TP D A [(h0, ob 7 [.ref h1, .ref h2, .int h0f2, .ref h3, .ref h4, .ref h5, .int h0f6, .ref h6, .int h0f8, .null, .ref h7, .int h0f11, .ref h8, .ref h9, .ref h10, .ref h11, .ref h12]), (h4, aQ (k 3) 4 (q4 h17 h18 h19 h20)), (h17, ob 5 [.int h17f0, .int h17f1, .ref h37]), (h18, ob 5 [.int h18f0, .int h18f1, .ref h38]), (h19, ob 5 [.int h19f0, .int h19f1, .ref h39]), (h1, ob 4 [.int h1f0, .int h1f1, .int h1f2, .ref h13]), (h20, ob 5 [.int h20f0, .int h20f1, .ref h40])] _ := hT
              refine lv_if_eq (tgt := 61) hx hb dX10_refusalOfTable_53 (by decide) (fun cc => absurd cc (by decide +kernel)) (fun _ => ?_)
              refine lv_bipush (v := (-12)) hx hb dX10_refusalOfTable_56 (by decide) ?_
              refine lv_goto (tgt := 62) hx hb dX10_refusalOfTable_58 (by decide) ?_
              exact tz_retI (B := B_cX10_refusalOfTable_450e2 D k h0 h1 h4 h17 h18 h19 h20 h2 h3 h5 h6 h7 h8 h9 h10 h11 h12 h13 h37 h38 h39 h40 x1 x2 h0f2 h0f6 h0f8 h0f11 h1f0 h1f1 h1f2 h17f0 h17f1 h18f0 h18f1 h19f0 h19f1 h20f0 h20f1) (v := (-12)) hQ hx hb hr hlocks hS (Nat.le_of_ble_eq_true rfl) (Nat.le_of_ble_eq_true rfl) dX10_refusalOfTable_62 (Or.inr (Or.inl ⟨rfl, (hT.sub [0, 5, 1, 2, 3, 4, 6] (by decide) rfl)⟩))
            · skip
              have hT := J _ hT1
              have hT : TP D A [(h0, ob 7 [.ref h1, .ref h2, .int h0f2, .ref h3, .ref h4, .ref h5, .int h0f6, .ref h6, .int h0f8, .null, .ref h7, .int h0f11, .ref h8, .ref h9, .ref h10, .ref h11, .ref h12]), (h4, aQ (k 3) 4 (q4 h17 h18 h19 h20)), (h17, ob 5 [.int h17f0, .int h17f1, .ref h37]), (h18, ob 5 [.int h18f0, .int h18f1, .ref h38]), (h19, ob 5 [.int h19f0, .int h19f1, .ref h39]), (h1, ob 4 [.int h1f0, .int h1f1, .int h1f2, .ref h13]), (h20, ob 5 [.int h20f0, .int h20f1, .ref h40])] _ := hT
              refine lv_if_eq (tgt := 61) hx hb dX10_refusalOfTable_53 (by decide) (fun _ => ?_) (fun cc => absurd (by decide +kernel) cc)
              refine lv_iconst (v := 0) hx hb dX10_refusalOfTable_61 (by decide) ?_
              exact tz_retI (B := B_cX10_refusalOfTable_450e2 D k h0 h1 h4 h17 h18 h19 h20 h2 h3 h5 h6 h7 h8 h9 h10 h11 h12 h13 h37 h38 h39 h40 x1 x2 h0f2 h0f6 h0f8 h0f11 h1f0 h1f1 h1f2 h17f0 h17f1 h18f0 h18f1 h19f0 h19f1 h20f0 h20f1) (v := 0) hQ hx hb hr hlocks hS (Nat.le_of_ble_eq_true rfl) (Nat.le_of_ble_eq_true rfl) dX10_refusalOfTable_62 (Or.inr (Or.inr (Or.inr (Or.inr (Or.inr (Or.inr (Or.inr (Or.inr (Or.inr (Or.inr (Or.inr (Or.inr (Or.inr (Or.inr (Or.inr (⟨v90, (by have := li_0; omega), (by have := li_0; omega), (by have := li_0; omega), (by have := li_0; omega), (by have := li_0; omega), (by have := li_0; omega), (by have := li_0; omega), (by have := li_0; omega), (by have := li_0; omega), (by have := li_0; omega), (by have := li_0; omega), (by have := li_0; omega), rfl, (hT.sub [0, 5, 1, 2, 3, 4, 6] (by decide) rfl)⟩))))))))))))))))
        · skip
          have c_82 := ni_nle c_82 rfl li_0
          refine lv_bipush (v := (-13)) hx hb dX10_refusalOfTable_37 (by decide) ?_
          exact tz_retI (B := B_cX10_refusalOfTable_450e2 D k h0 h1 h4 h17 h18 h19 h20 h2 h3 h5 h6 h7 h8 h9 h10 h11 h12 h13 h37 h38 h39 h40 x1 x2 h0f2 h0f6 h0f8 h0f11 h1f0 h1f1 h1f2 h17f0 h17f1 h18f0 h18f1 h19f0 h19f1 h20f0 h20f1) (v := (-13)) hQ hx hb hr hlocks hS (Nat.le_of_ble_eq_true rfl) (Nat.le_of_ble_eq_true rfl) dX10_refusalOfTable_39 (Or.inr (Or.inr (Or.inr (Or.inr (Or.inr (Or.inl ⟨rfl, hT⟩))))))
      · skip
        have hT := J _ hT1
        have hT : TP D A [(h0, ob 7 [.ref h1, .ref h2, .int h0f2, .ref h3, .ref h4, .ref h5, .int h0f6, .ref h6, .int h0f8, .null, .ref h7, .int h0f11, .ref h8, .ref h9, .ref h10, .ref h11, .ref h12]), (h1, ob 4 [.int h1f0, .int h1f1, .int h1f2, .ref h13]), (h4, aQ (k 3) 4 (q4 h17 h18 h19 h20)), (h17, ob 5 [.int h17f0, .int h17f1, .ref h37]), (h18, ob 5 [.int h18f0, .int h18f1, .ref h38]), (h19, ob 5 [.int h19f0, .int h19f1, .ref h39]), (h20, ob 5 [.int h20f0, .int h20f1, .ref h40])] _ := hT
        refine lv_if_eq (tgt := 28) hx hb dX10_refusalOfTable_22 (by decide) (fun cc => absurd cc (by decide +kernel)) (fun _ => ?_)
        refine lv_bipush (v := (-11)) hx hb dX10_refusalOfTable_25 (by decide) ?_
        exact tz_retI (B := B_cX10_refusalOfTable_450e2 D k h0 h1 h4 h17 h18 h19 h20 h2 h3 h5 h6 h7 h8 h9 h10 h11 h12 h13 h37 h38 h39 h40 x1 x2 h0f2 h0f6 h0f8 h0f11 h1f0 h1f1 h1f2 h17f0 h17f1 h18f0 h18f1 h19f0 h19f1 h20f0 h20f1) (v := (-11)) hQ hx hb hr hlocks hS (Nat.le_of_ble_eq_true rfl) (Nat.le_of_ble_eq_true rfl) dX10_refusalOfTable_27 (Or.inr (Or.inr (Or.inr (Or.inr (Or.inr (Or.inr (Or.inl ⟨rfl, hT⟩)))))))
abbrev Rm_cX7_turn_4a21f : Room := { frames := 0, cells := 0, slots := 0, locals := 0 }
abbrev B_cX7_turn_4a21f (D : va_G) (k : Nat → ClassId) (h0 h1 : Nat) (x1 : Int32) (x3 : Int32) (A : Nat → Prop) (H : Heap) : Prop := TP D A [(h0, aJ (k 1) 9 anJ), (h1, aJ (k 1) 9 anJ)] H
set_option maxHeartbeats 4000000 in
set_option maxRecDepth 100000 in
theorem cX7_turn_4a21f (l : Launch) (D : va_G) (k : Nat → ClassId) (sz : Nat) (h0 h1 : Nat) (x1 : Int32) (x3 : Int32) (b_x1 : 0 ≤ x1.toInt ∧ x1.toInt ≤ 0) (b_x3 : 1 ≤ x3.toInt ∧ x3.toInt ≤ 3) : Met l yX7_turn (Cond.code yX7_turn cX7_turn 6 none :: uw) Rm_cX7_turn_4a21f (pT D k sz [.ref h0, .int x1, .ref h1, .int x3] [(h0, aJ (k 1) 9 anJ), (h1, aJ (k 1) 9 anJ)]) (qV (B_cX7_turn_4a21f D k h0 h1 x1 x3 (zA [h0, h1] sz)) (zA [h0, h1] sz)) 0 0 (zA [h0, h1] sz) := by
  refine tz_begin (as := [h0, h1]) (Qc := fun A => qV (B_cX7_turn_4a21f D k h0 h1 x1 x3 A) A) (by decide +kernel) rfl (Nat.le_of_ble_eq_true rfl) ?_
  intro p e s m args below meth c ls A Q hx hb hr hml hown hlocks hin hU hK hT hS hA hl hQ
  have hl : lv_has ls 6 [(0, .ref h0), (1, .int x1), (2, .ref h1), (3, .int x3)] := hl
  have hT : TP D A [(h0, aJ (k 1) 9 anJ), (h1, aJ (k 1) 9 anJ)] s.heap := hT
  refine lv_iconst (v := 0) hx hb dX7_turn_0 (by decide) ?_
  refine lv_istore (lv' := [(4, .int 0), (0, .ref h0), (1, .int x1), (2, .ref h1), (3, .int x3)]) hx hb dX7_turn_1 hl (by decide) rfl (fun ls hl => ?_)
  have lp3_4 : ∀ (n : Nat) (y3 : Int32) (H : Heap) (locs : List Loc) (ls : Array Slot), (0 ≤ y3.toInt ∧ y3.toInt ≤ 3) → (x3.toInt + (-1) * y3.toInt + 1).toNat < n → TP D A [(h0, aJ (k 1) 9 anJ), (h1, aJ (k 1) 9 anJ)] H → va_S A s.heap H locs → lv_has ls 6 [(0, .ref h0), (1, .int x1), (2, .ref h1), (3, .int x3), (4, .int y3)] → W p l e Rm_cX7_turn_4a21f s m args below meth c H locs 0 0 Q (F0 m 3 ls []) := by
    intro n
    induction n with
    | zero => intro y3 H locs ls b_y3 hm hT hS hl; exact absurd hm (Nat.not_lt_zero _)
    | succ n ih =>
      intro y3 H locs ls b_y3 hm hT hS hl
      have ih3_4 := ih
      clear ih
      refine lv_iload hx hb dX7_turn_3 (lv_at hl 4 rfl) ?_
      refine lv_iload_n hx hb dX7_turn_5 rfl (lv_at hl 3 rfl) ?_
      refine lv_icmp_ge (tgt := 50) hx hb dX7_turn_6 (by decide) (fun c_5 => ?_) (fun c_5 => ?_)
      · skip
        have c_5 := ni_le c_5 rfl rfl
        exact tz_retV (B := B_cX7_turn_4a21f D k h0 h1 x1 x3) hQ hx hb hr hlocks hS (Nat.le_of_ble_eq_true rfl) (Nat.le_of_ble_eq_true rfl) dX7_turn_50 (hT)
      · skip
        have c_5 := ni_nle c_5 rfl rfl
        refine lv_iconst (v := 0) hx hb dX7_turn_9 (by decide) ?_
        refine lv_istore (lv' := [(5, .int 0), (0, .ref h0), (1, .int x1), (2, .ref h1), (3, .int x3), (4, .int y3)]) hx hb dX7_turn_10 hl (by decide) rfl (fun ls hl => ?_)
        have lp12_9 : ∀ (n : Nat) (y8 : Int32) (H : Heap) (locs : List Loc) (ls : Array Slot), (0 ≤ y8.toInt ∧ y8.toInt ≤ 3) → (x3.toInt + (-1) * y8.toInt + 1).toNat < n → TP D A [(h0, aJ (k 1) 9 anJ), (h1, aJ (k 1) 9 anJ)] H → va_S A s.heap H locs → lv_has ls 6 [(0, .ref h0), (1, .int x1), (2, .ref h1), (3, .int x3), (4, .int y3), (5, .int y8)] → W p l e Rm_cX7_turn_4a21f s m args below meth c H locs 0 0 Q (F0 m 12 ls []) := by
          intro n
          induction n with
          | zero => intro y8 H locs ls b_y8 hm hT hS hl; exact absurd hm (Nat.not_lt_zero _)
          | succ n ih =>
            intro y8 H locs ls b_y8 hm hT hS hl
            have ih12_9 := ih
            clear ih
            refine lv_iload hx hb dX7_turn_12 (lv_at hl 5 rfl) ?_
            refine lv_iload_n hx hb dX7_turn_14 rfl (lv_at hl 3 rfl) ?_
            refine lv_icmp_ge (tgt := 44) hx hb dX7_turn_15 (by decide) (fun c_10 => ?_) (fun c_10 => ?_)
            · skip
              have c_10 := ni_le c_10 rfl rfl
              obtain ⟨v11, e_v11⟩ : ∃ x : Int32, x = y3 + Int32.ofInt 1 := ⟨_, rfl⟩
              have f_v11 := e_v11.symm
              have e_v11 : v11.toInt = y3.toInt + 1 := ai_add e_v11 rfl (show (Int32.ofInt 1).toInt = 1 from (by decide +kernel)) (by omega)
              refine lv_iinc (v := v11) (lv' := [(4, .int v11), (0, .ref h0), (1, .int x1), (2, .ref h1), (3, .int x3), (5, .int y8)]) hx hb dX7_turn_44 hl (k := 4) rfl f_v11 (by decide) rfl (fun ls hl => ?_)
              refine lv_goto (tgt := 3) hx hb dX7_turn_47 (by decide) ?_
              exact ih3_4 v11 _ _ _ (by omega)  (by omega) hT hS (lv_sub hl [1, 2, 3, 4, 0] rfl)
            · skip
              have c_10 := ni_nle c_10 rfl rfl
              refine lv_aload_n hx hb dX7_turn_18 rfl (lv_at hl 2 rfl) ?_
              refine lv_iload hx hb dX7_turn_19 (lv_at hl 4 rfl) ?_
              refine lv_iload_n hx hb dX7_turn_21 rfl (lv_at hl 3 rfl) ?_
              refine lv_imul hx hb dX7_turn_22 (lv_topi (fun v12 e_v12 => ?_))
              have e_v12 := ai_mm (la := 0) (ua := 2) (lb := 1) (ub := 3) e_v12 rfl rfl (by omega) (by decide)
              refine lv_iload hx hb dX7_turn_23 (lv_at hl 5 rfl) ?_
              refine lv_iadd hx hb dX7_turn_25 (lv_topi (fun v13 e_v13 => ?_))
              have e_v13 := ai_add e_v13 rfl rfl (by omega)
              refine lv_aload_n hx hb dX7_turn_26 rfl (lv_at hl 0 rfl) ?_
              refine lv_iload_n hx hb dX7_turn_27 rfl (lv_at hl 1 rfl) ?_
              refine lv_iload hx hb dX7_turn_28 (lv_at hl 5 rfl) ?_
              refine lv_iload_n hx hb dX7_turn_30 rfl (lv_at hl 3 rfl) ?_
              refine lv_imul hx hb dX7_turn_31 (lv_topi (fun v14 e_v14 => ?_))
              have e_v14 := ai_mm (la := 0) (ua := 2) (lb := 1) (ub := 3) e_v14 rfl rfl (by omega) (by decide)
              have hq15 : x1.toInt = 0 := by omega
              refine lv_iadd hx hb dX7_turn_32 (lv_topi (fun v16 e_v16 => ?_))
              have e_v16 := ai_add e_v16 hq15 rfl (by omega)
              refine lv_iload hx hb dX7_turn_33 (lv_at hl 4 rfl) ?_
              refine lv_iadd hx hb dX7_turn_35 (lv_topi (fun v17 e_v17 => ?_))
              have e_v17 := ai_add e_v17 rfl rfl (by omega)
              refine tz_lald hx hb hK hT 0 rfl (by omega) dX7_turn_36 (fun v18 e_v18 => ?_)
              clear e_v18
              refine tz_last hx hb hK hT hS 1 rfl (by omega) (fun _ _ => trivial) dX7_turn_37 (fun H locs hT hS => ?_)
              obtain ⟨v19, e_v19⟩ : ∃ x : Int32, x = y8 + Int32.ofInt 1 := ⟨_, rfl⟩
              have f_v19 := e_v19.symm
              have e_v19 : v19.toInt = y8.toInt + 1 := ai_add e_v19 rfl (show (Int32.ofInt 1).toInt = 1 from (by decide +kernel)) (by omega)
              refine lv_iinc (v := v19) (lv' := [(5, .int v19), (0, .ref h0), (1, .int x1), (2, .ref h1), (3, .int x3), (4, .int y3)]) hx hb dX7_turn_38 hl (k := 5) rfl f_v19 (by decide) rfl (fun ls hl => ?_)
              refine lv_goto (tgt := 12) hx hb dX7_turn_41 (by decide) ?_
              exact ih12_9 v19 _ _ _ (by omega)  (by omega) hT hS (lv_sub hl [1, 2, 3, 4, 5, 0] rfl)
        exact lp12_9 ((x3.toInt + (-1) * (0 : Int32).toInt + 1).toNat + 1) (0) _ _ _ (by have := li_0; omega)  (Nat.lt_succ_self _) hT hS (lv_sub hl [1, 2, 3, 4, 5, 0] rfl)
  exact lp3_4 ((x3.toInt + (-1) * (0 : Int32).toInt + 1).toNat + 1) (0) _ _ _ (by have := li_0; omega)  (Nat.lt_succ_self _) hT hS (lv_sub hl [1, 2, 3, 4, 0] rfl)
abbrev Rm_cX7_cofactor_1417b : Room := { frames := 0, cells := 0, slots := 0, locals := 0 }
abbrev B_cX7_cofactor_1417b (D : va_G) (k : Nat → ClassId) (h0 : Nat) (x4 : Int32) (A : Nat → Prop) (r : Int64) (H : Heap) : Prop := TP D A [(h0, aJ (k 1) 9 anJ)] H
set_option maxHeartbeats 4000000 in
set_option maxRecDepth 100000 in
theorem cX7_cofactor_1417b (l : Launch) (D : va_G) (k : Nat → ClassId) (sz : Nat) (h0 : Nat) (x4 : Int32) (b_x4 : 0 ≤ x4.toInt ∧ x4.toInt ≤ 2) : Met l yX7_cofactor (Cond.code yX7_cofactor cX7_cofactor 9 (some .long) :: uw) Rm_cX7_cofactor_1417b (pT D k sz [.ref h0, .int 0, .int 3, .int 0, .int x4] [(h0, aJ (k 1) 9 anJ)]) (qL (B_cX7_cofactor_1417b D k h0 x4 (zA [h0] sz)) (zA [h0] sz)) 0 0 (zA [h0] sz) := by
  refine tz_begin (as := [h0]) (Qc := fun A => qL (B_cX7_cofactor_1417b D k h0 x4 A) A) (by decide +kernel) rfl (Nat.le_of_ble_eq_true rfl) ?_
  intro p e s m args below meth c ls A Q hx hb hr hml hown hlocks hin hU hK hT hS hA hl hQ
  have hl : lv_has ls 9 [(0, .ref h0), (1, .int 0), (2, .int 3), (3, .int 0), (4, .int x4)] := hl
  have hT : TP D A [(h0, aJ (k 1) 9 anJ)] s.heap := hT
  refine lv_iload_n hx hb dX7_cofactor_0 rfl (lv_at hl 2 rfl) ?_
  refine lv_iconst (v := 1) hx hb dX7_cofactor_1 (by decide) ?_
  refine lv_icmp_ne (tgt := 7) hx hb dX7_cofactor_2 (by decide) (fun _ => ?_) (fun cc => absurd cc (by decide +kernel))
  refine lv_iload_n hx hb dX7_cofactor_7 rfl (lv_at hl 2 rfl) ?_
  refine lv_iconst (v := 2) hx hb dX7_cofactor_8 (by decide) ?_
  refine lv_icmp_ne (tgt := 43) hx hb dX7_cofactor_9 (by decide) (fun _ => ?_) (fun cc => absurd cc (by decide +kernel))
  refine lv_iload_n hx hb dX7_cofactor_43 rfl (lv_at hl 1 rfl) ?_
  refine lv_iload_n hx hb dX7_cofactor_44 rfl (lv_at hl 3 rfl) ?_
  refine lv_iconst (v := 1) hx hb dX7_cofactor_45 (by decide) ?_
  refine lv_iadd hx hb dX7_cofactor_46 (sv_i (v := 1) (by decide +kernel) ?_)
  refine lv_iconst (v := 3) hx hb dX7_cofactor_47 (by decide) ?_
  refine lv_irem hx hb dX7_cofactor_48 (by decide +kernel) (sv_i (v := 1) (by decide +kernel) ?_)
  refine lv_iconst (v := 3) hx hb dX7_cofactor_49 (by decide) ?_
  refine lv_imul hx hb dX7_cofactor_50 (sv_i (v := 3) (by decide +kernel) ?_)
  refine lv_iadd hx hb dX7_cofactor_51 (sv_i (v := 3) (by decide +kernel) ?_)
  refine lv_istore (lv' := [(5, .int 3), (0, .ref h0), (1, .int 0), (2, .int 3), (3, .int 0), (4, .int x4)]) hx hb dX7_cofactor_52 hl (by decide) rfl (fun ls hl => ?_)
  refine lv_iload_n hx hb dX7_cofactor_54 rfl (lv_at hl 2 rfl) ?_
  refine lv_iload_n hx hb dX7_cofactor_55 rfl (lv_at hl 4 rfl) ?_
  refine lv_iconst (v := 2) hx hb dX7_cofactor_56 (by decide) ?_
  refine lv_iadd hx hb dX7_cofactor_57 (sv_i (v := 2) (by decide +kernel) ?_)
  refine lv_iconst (v := 3) hx hb dX7_cofactor_58 (by decide) ?_
  refine lv_irem hx hb dX7_cofactor_59 (by decide +kernel) (sv_i (v := 2) (by decide +kernel) ?_)
  refine lv_iconst (v := 3) hx hb dX7_cofactor_60 (by decide) ?_
  refine lv_imul hx hb dX7_cofactor_61 (sv_i (v := 6) (by decide +kernel) ?_)
  refine lv_iadd hx hb dX7_cofactor_62 (sv_i (v := 6) (by decide +kernel) ?_)
  refine lv_istore (lv' := [(6, .int 6), (5, .int 3), (0, .ref h0), (1, .int 0), (2, .int 3), (3, .int 0), (4, .int x4)]) hx hb dX7_cofactor_63 hl (by decide) rfl (fun ls hl => ?_)
  refine lv_iload hx hb dX7_cofactor_65 (lv_at hl 6 rfl) ?_
  refine lv_iconst (v := 1) hx hb dX7_cofactor_67 (by decide) ?_
  refine lv_iadd hx hb dX7_cofactor_68 (lv_topi (fun v1 e_v1 => ?_))
  have e_v1 := ai_add e_v1 rfl li_1 (by omega)
  refine lv_iconst (v := 3) hx hb dX7_cofactor_69 (by decide) ?_
  refine lv_irem hx hb dX7_cofactor_70 (by decide +kernel) (lv_topi (fun v2 e_v2 => ?_))
  have e_v2 := ai_rem e_v2 rfl li_3 (by omega)
  refine lv_istore (lv' := [(7, .int v2), (6, .int 6), (5, .int 3), (0, .ref h0), (1, .int 0), (2, .int 3), (3, .int 0), (4, .int x4)]) hx hb dX7_cofactor_71 hl (by decide) rfl (fun ls hl => ?_)
  refine lv_iload hx hb dX7_cofactor_73 (lv_at hl 7 rfl) ?_
  refine lv_iconst (v := 2) hx hb dX7_cofactor_75 (by decide) ?_
  refine lv_iadd hx hb dX7_cofactor_76 (lv_topi (fun v3 e_v3 => ?_))
  have e_v3 := ai_add e_v3 rfl li_2 (by omega)
  refine lv_iconst (v := 3) hx hb dX7_cofactor_77 (by decide) ?_
  refine lv_irem hx hb dX7_cofactor_78 (by decide +kernel) (lv_topi (fun v4 e_v4 => ?_))
  have e_v4 := ai_rem e_v4 rfl li_3 (by omega)
  refine lv_istore (lv' := [(8, .int v4), (7, .int v2), (6, .int 6), (5, .int 3), (0, .ref h0), (1, .int 0), (2, .int 3), (3, .int 0), (4, .int x4)]) hx hb dX7_cofactor_79 hl (by decide) rfl (fun ls hl => ?_)
  refine lv_aload_n hx hb dX7_cofactor_81 rfl (lv_at hl 4 rfl) ?_
  refine lv_iload hx hb dX7_cofactor_82 (lv_at hl 3 rfl) ?_
  refine lv_iload hx hb dX7_cofactor_84 (lv_at hl 1 rfl) ?_
  refine lv_iadd hx hb dX7_cofactor_86 (lv_topi (fun v5 e_v5 => ?_))
  have e_v5 := ai_add e_v5 li_3 rfl (by omega)
  refine tz_lald hx hb hK hT 0 rfl (by omega) dX7_cofactor_87 (fun v6 e_v6 => ?_)
  clear e_v6
  refine lv_aload_n hx hb dX7_cofactor_88 rfl (lv_at hl 4 rfl) ?_
  refine lv_iload hx hb dX7_cofactor_89 (lv_at hl 2 rfl) ?_
  refine lv_iload hx hb dX7_cofactor_91 (lv_at hl 0 rfl) ?_
  refine lv_iadd hx hb dX7_cofactor_93 (lv_topi (fun v7 e_v7 => ?_))
  have e_v7 := ai_add e_v7 li_6 rfl (by omega)
  refine tz_lald hx hb hK hT 0 rfl (by omega) dX7_cofactor_94 (fun v8 e_v8 => ?_)
  clear e_v8
  refine lv_lmul hx hb dX7_cofactor_95 (lv_topl (fun v9 e_v9 => ?_))
  refine lv_aload_n hx hb dX7_cofactor_96 rfl (lv_at hl 4 rfl) ?_
  refine lv_iload hx hb dX7_cofactor_97 (lv_at hl 3 rfl) ?_
  refine lv_iload hx hb dX7_cofactor_99 (lv_at hl 0 rfl) ?_
  refine lv_iadd hx hb dX7_cofactor_101 (lv_topi (fun v10 e_v10 => ?_))
  have e_v10 := ai_add e_v10 li_3 rfl (by omega)
  refine tz_lald hx hb hK hT 0 rfl (by omega) dX7_cofactor_102 (fun v11 e_v11 => ?_)
  clear e_v11
  refine lv_aload_n hx hb dX7_cofactor_103 rfl (lv_at hl 4 rfl) ?_
  refine lv_iload hx hb dX7_cofactor_104 (lv_at hl 2 rfl) ?_
  refine lv_iload hx hb dX7_cofactor_106 (lv_at hl 1 rfl) ?_
  refine lv_iadd hx hb dX7_cofactor_108 (lv_topi (fun v12 e_v12 => ?_))
  have e_v12 := ai_add e_v12 li_6 rfl (by omega)
  refine tz_lald hx hb hK hT 0 rfl (by omega) dX7_cofactor_109 (fun v13 e_v13 => ?_)
  clear e_v13
  refine lv_lmul hx hb dX7_cofactor_110 (lv_topl (fun v14 e_v14 => ?_))
  refine lv_lsub hx hb dX7_cofactor_111 (lv_topl (fun v15 e_v15 => ?_))
  exact tz_retL (B := B_cX7_cofactor_1417b D k h0 x4) (v := v15) hQ hx hb hr hlocks hS (Nat.le_of_ble_eq_true rfl) (Nat.le_of_ble_eq_true rfl) dX7_cofactor_112 (hT)
abbrev Rm_cX7_determinant_a44b2 : Room := { frames := 1, cells := 0, slots := 0, locals := 28 }
abbrev B_cX7_determinant_a44b2 (D : va_G) (k : Nat → ClassId) (h0 : Nat) (x2 : Int32) (x3 : Int32) (A : Nat → Prop) (r : Int64) (H : Heap) : Prop := TP D A [(h0, aJ (k 1) 9 anJ)] H
set_option maxHeartbeats 4000000 in
set_option maxRecDepth 100000 in
theorem cX7_determinant_a44b2 (l : Launch) (D : va_G) (k : Nat → ClassId) (sz : Nat) (h0 : Nat) (x2 : Int32) (x3 : Int32) (b_x2 : 1 ≤ x2.toInt ∧ x2.toInt ≤ 3) (b_x3 : 1 ≤ x3.toInt ∧ x3.toInt ≤ 3) : Met l yX7_determinant (Cond.code yX7_determinant cX7_determinant 7 (some .long) :: uw) Rm_cX7_determinant_a44b2 (pT D k sz [.ref h0, .int 0, .int x2, .int x3] [(h0, aJ (k 1) 9 anJ)]) (qL (B_cX7_determinant_a44b2 D k h0 x2 x3 (zA [h0] sz)) (zA [h0] sz)) 0 0 (zA [h0] sz) := by
  refine tz_begin (as := [h0]) (Qc := fun A => qL (B_cX7_determinant_a44b2 D k h0 x2 x3 A) A) (by decide +kernel) rfl (Nat.le_of_ble_eq_true rfl) ?_
  intro p e s m args below meth c ls A Q hx hb hr hml hown hlocks hin hU hK hT hS hA hl hQ
  have hl : lv_has ls 7 [(0, .ref h0), (1, .int 0), (2, .int x2), (3, .int x3)] := hl
  have hT : TP D A [(h0, aJ (k 1) 9 anJ)] s.heap := hT
  refine lv_iload_n hx hb dX7_determinant_0 rfl (lv_at hl 3 rfl) ?_
  refine lv_iconst (v := 1) hx hb dX7_determinant_1 (by decide) ?_
  refine lv_icmp_ne (tgt := 9) hx hb dX7_determinant_2 (by decide) (fun c_1 => ?_) (fun c_1 => ?_)
  · skip
    have c_1 := ni_ne c_1 rfl li_1
    refine lv_iload_n hx hb dX7_determinant_9 rfl (lv_at hl 3 rfl) ?_
    refine lv_iconst (v := 2) hx hb dX7_determinant_10 (by decide) ?_
    refine lv_icmp_ne (tgt := 38) hx hb dX7_determinant_11 (by decide) (fun c_2 => ?_) (fun c_2 => ?_)
    · skip
      have c_2 := ni_ne c_2 rfl li_2
      refine lv_lconst (v := 0) hx hb dX7_determinant_38 (by decide) ?_
      refine lv_lstore (lv' := [(4, .long 0), (0, .ref h0), (1, .int 0), (2, .int x2), (3, .int x3)]) hx hb dX7_determinant_39 hl (by decide) rfl (fun ls hl => ?_)
      refine lv_iconst (v := 0) hx hb dX7_determinant_41 (by decide) ?_
      refine lv_istore (lv' := [(6, .int 0), (4, .long 0), (0, .ref h0), (1, .int 0), (2, .int x2), (3, .int x3)]) hx hb dX7_determinant_42 hl (by decide) rfl (fun ls hl => ?_)
      have lp44_9 : ∀ (n : Nat) (y7 : Int32) (y8 : Int64) (H : Heap) (locs : List Loc) (ls : Array Slot), (0 ≤ y7.toInt ∧ y7.toInt ≤ 3) → ((-1) * y7.toInt + 3 + 1).toNat < n → TP D A [(h0, aJ (k 1) 9 anJ)] H → va_S A s.heap H locs → lv_has ls 7 [(0, .ref h0), (1, .int 0), (4, .long y8), (6, .int y7)] → W p l e Rm_cX7_determinant_a44b2 s m args below meth c H locs 0 0 Q (F0 m 44 ls []) := by
        intro n
        induction n with
        | zero => intro y7 y8 H locs ls b_y7 hm hT hS hl; exact absurd hm (Nat.not_lt_zero _)
        | succ n ih =>
          intro y7 y8 H locs ls b_y7 hm hT hS hl
          have ih44_9 := ih
          clear ih
          refine lv_iload hx hb dX7_determinant_44 (lv_at hl 3 rfl) ?_
          refine lv_iconst (v := 3) hx hb dX7_determinant_46 (by decide) ?_
          refine lv_icmp_ge (tgt := 77) hx hb dX7_determinant_47 (by decide) (fun c_10 => ?_) (fun c_10 => ?_)
          · skip
            have c_10 := ni_le c_10 li_3 rfl
            refine lv_lload hx hb dX7_determinant_77 (lv_at hl 2 rfl) ?_
            exact tz_retL (B := B_cX7_determinant_a44b2 D k h0 x2 x3) (v := y8) hQ hx hb hr hlocks hS (Nat.le_of_ble_eq_true rfl) (Nat.le_of_ble_eq_true rfl) dX7_determinant_79 (hT)
          · skip
            have c_10 := ni_nle c_10 li_3 rfl
            refine lv_lload hx hb dX7_determinant_50 (lv_at hl 2 rfl) ?_
            refine lv_aload_n hx hb dX7_determinant_52 rfl (lv_at hl 0 rfl) ?_
            refine lv_iload_n hx hb dX7_determinant_53 rfl (lv_at hl 1 rfl) ?_
            refine lv_iload hx hb dX7_determinant_54 (lv_at hl 3 rfl) ?_
            refine lv_iadd hx hb dX7_determinant_56 (lv_topi (fun v11 e_v11 => ?_))
            have e_v11 := ai_add e_v11 li_0 rfl (by omega)
            refine tz_lald hx hb hK hT 0 rfl (by omega) dX7_determinant_57 (fun v12 e_v12 => ?_)
            clear e_v12
            refine lv_aload_n hx hb dX7_determinant_58 rfl (lv_at hl 0 rfl) ?_
            refine lv_iload_n hx hb dX7_determinant_59 rfl (lv_at hl 1 rfl) ?_
            refine lv_iconst (v := 3) hx hb dX7_determinant_60 (by decide) ?_
            refine lv_iconst (v := 0) hx hb dX7_determinant_61 (by decide) ?_
            refine lv_iload hx hb dX7_determinant_62 (lv_at hl 3 rfl) ?_
            refine tcL (Tc := [(h0, aJ (k 1) 9 anJ)]) (Tr := []) (as := [h0]) (zcS (As := [.ref h0, .int 0, .int 3, .int 0, .int y7]) (rest := [.long v12, .long y8]) (Tc := [(h0, aJ (k 1) 9 anJ)]) hx hb hml hown hU hK hT [0] rfl (by decide) (cX7_cofactor_1417b l D k _ h0 y7 (by omega)) w375 w373 w374 w74 hdX7_cofactor ⟨rfl, rfl⟩ ⟨Nat.le_of_ble_eq_true rfl, Nat.le_of_ble_eq_true rfl⟩ rfl hl.1 (Nat.le_of_ble_eq_true rfl) dX7_determinant_64 ⟨Nat.le_of_ble_eq_true rfl, Nat.le_of_ble_eq_true rfl⟩) hT hS hA [0] [] rfl rfl rfl (by decide) (by decide) (fun r13 H locs hB J hS => ?_)
            have hT1 := hB
            have hT := J _ hT1
            have hT : TP D A [(h0, aJ (k 1) 9 anJ)] _ := hT
            refine lv_lmul hx hb dX7_determinant_67 (lv_topl (fun v14 e_v14 => ?_))
            refine lv_ladd hx hb dX7_determinant_68 (lv_topl (fun v15 e_v15 => ?_))
            refine lv_lstore (lv' := [(4, .long v15), (0, .ref h0), (1, .int 0), (6, .int y7)]) hx hb dX7_determinant_69 hl (by decide) rfl (fun ls hl => ?_)
            obtain ⟨v16, e_v16⟩ : ∃ x : Int32, x = y7 + Int32.ofInt 1 := ⟨_, rfl⟩
            have f_v16 := e_v16.symm
            have e_v16 : v16.toInt = y7.toInt + 1 := ai_add e_v16 rfl (show (Int32.ofInt 1).toInt = 1 from (by decide +kernel)) (by omega)
            refine lv_iinc (v := v16) (lv' := [(6, .int v16), (4, .long v15), (0, .ref h0), (1, .int 0)]) hx hb dX7_determinant_71 hl (k := 3) rfl f_v16 (by decide) rfl (fun ls hl => ?_)
            refine lv_goto (tgt := 44) hx hb dX7_determinant_74 (by decide) ?_
            exact ih44_9 v16 v15 _ _ _ (by omega)  (by omega) hT hS (lv_sub hl [2, 3, 1, 0] rfl)
      exact lp44_9 (((-1) * (0 : Int32).toInt + 3 + 1).toNat + 1) (0) (0) _ _ _ (by have := li_0; have := ll_0; omega)  (Nat.lt_succ_self _) hT hS (lv_sub hl [2, 3, 1, 0] rfl)
    · skip
      have c_2 := ni_eq c_2 rfl li_2
      refine lv_aload_n hx hb dX7_determinant_14 rfl (lv_at hl 0 rfl) ?_
      refine lv_iload_n hx hb dX7_determinant_15 rfl (lv_at hl 1 rfl) ?_
      refine tz_lald hx hb hK hT 0 rfl (by have := li_0; omega) dX7_determinant_16 (fun v17 e_v17 => ?_)
      clear e_v17
      refine lv_aload_n hx hb dX7_determinant_17 rfl (lv_at hl 0 rfl) ?_
      refine lv_iload_n hx hb dX7_determinant_18 rfl (lv_at hl 1 rfl) ?_
      refine lv_iload_n hx hb dX7_determinant_19 rfl (lv_at hl 2 rfl) ?_
      refine lv_iadd hx hb dX7_determinant_20 (lv_topi (fun v18 e_v18 => ?_))
      have e_v18 := ai_add e_v18 li_0 rfl (by omega)
      refine lv_iconst (v := 1) hx hb dX7_determinant_21 (by decide) ?_
      refine lv_iadd hx hb dX7_determinant_22 (lv_topi (fun v19 e_v19 => ?_))
      have e_v19 := ai_add e_v19 rfl li_1 (by omega)
      refine tz_lald hx hb hK hT 0 rfl (by omega) dX7_determinant_23 (fun v20 e_v20 => ?_)
      clear e_v20
      refine lv_lmul hx hb dX7_determinant_24 (lv_topl (fun v21 e_v21 => ?_))
      refine lv_aload_n hx hb dX7_determinant_25 rfl (lv_at hl 0 rfl) ?_
      refine lv_iload_n hx hb dX7_determinant_26 rfl (lv_at hl 1 rfl) ?_
      refine lv_iconst (v := 1) hx hb dX7_determinant_27 (by decide) ?_
      refine lv_iadd hx hb dX7_determinant_28 (sv_i (v := 1) (by decide +kernel) ?_)
      refine tz_lald hx hb hK hT 0 rfl (by have := li_1; omega) dX7_determinant_29 (fun v22 e_v22 => ?_)
      clear e_v22
      refine lv_aload_n hx hb dX7_determinant_30 rfl (lv_at hl 0 rfl) ?_
      refine lv_iload_n hx hb dX7_determinant_31 rfl (lv_at hl 1 rfl) ?_
      refine lv_iload_n hx hb dX7_determinant_32 rfl (lv_at hl 2 rfl) ?_
      refine lv_iadd hx hb dX7_determinant_33 (lv_topi (fun v23 e_v23 => ?_))
      have e_v23 := ai_add e_v23 li_0 rfl (by omega)
      refine tz_lald hx hb hK hT 0 rfl (by omega) dX7_determinant_34 (fun v24 e_v24 => ?_)
      clear e_v24
      refine lv_lmul hx hb dX7_determinant_35 (lv_topl (fun v25 e_v25 => ?_))
      refine lv_lsub hx hb dX7_determinant_36 (lv_topl (fun v26 e_v26 => ?_))
      exact tz_retL (B := B_cX7_determinant_a44b2 D k h0 x2 x3) (v := v26) hQ hx hb hr hlocks hS (Nat.le_of_ble_eq_true rfl) (Nat.le_of_ble_eq_true rfl) dX7_determinant_37 (hT)
  · skip
    have c_1 := ni_eq c_1 rfl li_1
    refine lv_aload_n hx hb dX7_determinant_5 rfl (lv_at hl 0 rfl) ?_
    refine lv_iload_n hx hb dX7_determinant_6 rfl (lv_at hl 1 rfl) ?_
    refine tz_lald hx hb hK hT 0 rfl (by have := li_0; omega) dX7_determinant_7 (fun v27 e_v27 => ?_)
    clear e_v27
    exact tz_retL (B := B_cX7_determinant_a44b2 D k h0 x2 x3) (v := v27) hQ hx hb hr hlocks hS (Nat.le_of_ble_eq_true rfl) (Nat.le_of_ble_eq_true rfl) dX7_determinant_8 (hT)
abbrev Rm_cX10_isPositiveForm_92f38 : Room := { frames := 2, cells := 0, slots := 0, locals := 54 }
abbrev B_cX10_isPositiveForm_92f38 (D : va_G) (k : Nat → ClassId) (h0 h1 h11 h12 h2 h3 h4 h5 h6 h7 h8 h9 h10 h13 : Nat) (h0f2 : Int32) (h0f6 : Int32) (h0f8 : Int32) (h0f11 : Int32) (h1f0 : Int32) (h1f1 : Int32) (h1f2 : Int32) (A : Nat → Prop) (r : Int32) (H : Heap) : Prop := (0 ≤ r.toInt ∧ r.toInt ≤ 1) ∧ TP D A [(h0, ob 7 [.ref h1, .ref h2, .int h0f2, .ref h3, .ref h4, .ref h5, .int h0f6, .ref h6, .int h0f8, .null, .ref h7, .int h0f11, .ref h8, .ref h9, .ref h10, .ref h11, .ref h12]), (h1, ob 4 [.int h1f0, .int h1f1, .int h1f2, .ref h13]), (h11, aJ (k 1) 9 anJ), (h12, aJ (k 1) 9 anJ)] H
set_option maxHeartbeats 4000000 in
set_option maxRecDepth 100000 in
theorem cX10_isPositiveForm_92f38 (l : Launch) (D : va_G) (k : Nat → ClassId) (sz : Nat) (h0 h1 h11 h12 h2 h3 h4 h5 h6 h7 h8 h9 h10 h13 : Nat) (h0f2 : Int32) (h0f6 : Int32) (h0f8 : Int32) (h0f11 : Int32) (h1f0 : Int32) (h1f1 : Int32) (h1f2 : Int32) (b_h0f2 : 0 ≤ h0f2.toInt ∧ h0f2.toInt ≤ 1) (b_h0f6 : 0 ≤ h0f6.toInt ∧ h0f6.toInt ≤ 1) (b_h0f8 : 0 ≤ h0f8.toInt ∧ h0f8.toInt ≤ 1) (b_h0f11 : 0 ≤ h0f11.toInt ∧ h0f11.toInt ≤ 200) (b_h1f0 : 1 ≤ h1f0.toInt ∧ h1f0.toInt ≤ 3) (b_h1f1 : 0 ≤ h1f1.toInt ∧ h1f1.toInt ≤ 4) : Met l yX10_isPositiveForm (Cond.code yX10_isPositiveForm cX10_isPositiveForm 2 (some .boolean) :: uw) Rm_cX10_isPositiveForm_92f38 (pT D k sz [.ref h0] [(h0, ob 7 [.ref h1, .ref h2, .int h0f2, .ref h3, .ref h4, .ref h5, .int h0f6, .ref h6, .int h0f8, .null, .ref h7, .int h0f11, .ref h8, .ref h9, .ref h10, .ref h11, .ref h12]), (h1, ob 4 [.int h1f0, .int h1f1, .int h1f2, .ref h13]), (h11, aJ (k 1) 9 anJ), (h12, aJ (k 1) 9 anJ)]) (qI (B_cX10_isPositiveForm_92f38 D k h0 h1 h11 h12 h2 h3 h4 h5 h6 h7 h8 h9 h10 h13 h0f2 h0f6 h0f8 h0f11 h1f0 h1f1 h1f2 (zA [h0, h1, h11, h12] sz)) (zA [h0, h1, h11, h12] sz)) 0 0 (zA [h0, h1, h11, h12] sz) := by
  refine tz_begin (as := [h0, h1, h11, h12]) (Qc := fun A => qI (B_cX10_isPositiveForm_92f38 D k h0 h1 h11 h12 h2 h3 h4 h5 h6 h7 h8 h9 h10 h13 h0f2 h0f6 h0f8 h0f11 h1f0 h1f1 h1f2 A) A) (by decide +kernel) rfl (Nat.le_of_ble_eq_true rfl) ?_
  intro p e s m args below meth c ls A Q hx hb hr hml hown hlocks hin hU hK hT hS hA hl hQ
  have hl : lv_has ls 2 [(0, .ref h0)] := hl
  have hT : TP D A [(h0, ob 7 [.ref h1, .ref h2, .int h0f2, .ref h3, .ref h4, .ref h5, .int h0f6, .ref h6, .int h0f8, .null, .ref h7, .int h0f11, .ref h8, .ref h9, .ref h10, .ref h11, .ref h12]), (h1, ob 4 [.int h1f0, .int h1f1, .int h1f2, .ref h13]), (h11, aJ (k 1) 9 anJ), (h12, aJ (k 1) 9 anJ)] s.heap := hT
  refine lv_aload_n hx hb dX10_isPositiveForm_0 rfl (lv_at hl 0 rfl) ?_
  refine tz_get (ci := 7) (v := .ref h11) (C := RX10) (F := TX10) (N := 17) hx hb hU iX10 hown hK hT 0 rfl rfl 15 (by decide) w264 (fun _ h9 => h9) rfl dX10_isPositiveForm_1 ?_
  refine lv_iconst (v := 0) hx hb dX10_isPositiveForm_4 (by decide) ?_
  refine lv_aload_n hx hb dX10_isPositiveForm_5 rfl (lv_at hl 0 rfl) ?_
  refine tz_get (ci := 7) (v := .ref h12) (C := RX10) (F := TX10) (N := 17) hx hb hU iX10 hown hK hT 0 rfl rfl 16 (by decide) w265 (fun _ h9 => h9) rfl dX10_isPositiveForm_6 ?_
  refine lv_aload_n hx hb dX10_isPositiveForm_9 rfl (lv_at hl 0 rfl) ?_
  refine tz_get (ci := 7) (v := .ref h1) (C := RX10) (F := TX10) (N := 17) hx hb hU iX10 hown hK hT 0 rfl rfl 0 (by decide) w249 (fun _ h9 => h9) rfl dX10_isPositiveForm_10 ?_
  refine tz_get (ci := 4) (v := .int h1f0) (C := RX5) (F := TX5) (N := 4) hx hb hU iX5 hown hK hT 1 rfl rfl 0 (by decide) w93 (fun _ h9 => h9) rfl dX10_isPositiveForm_13 ?_
  have q_q2 := li_0
  refine tcV (Tc := [(h11, aJ (k 1) 9 anJ), (h12, aJ (k 1) 9 anJ)]) (Tr := [(h0, ob 7 [.ref h1, .ref h2, .int h0f2, .ref h3, .ref h4, .ref h5, .int h0f6, .ref h6, .int h0f8, .null, .ref h7, .int h0f11, .ref h8, .ref h9, .ref h10, .ref h11, .ref h12]), (h1, ob 4 [.int h1f0, .int h1f1, .int h1f2, .ref h13])]) (as := [h11, h12]) (zcS (As := [.ref h11, .int 0, .ref h12, .int h1f0]) (rest := []) (Tc := [(h11, aJ (k 1) 9 anJ), (h12, aJ (k 1) 9 anJ)]) hx hb hml hown hU hK hT [2, 3] rfl (by decide) (cX7_turn_4a21f l D k _ h11 h12 (0) h1f0 (by have := li_0; omega) (by omega)) w378 w376 w377 w74 hdX7_turn ⟨rfl, rfl⟩ ⟨Nat.le_of_ble_eq_true rfl, Nat.le_of_ble_eq_true rfl⟩ rfl hl.1 (Nat.le_of_ble_eq_true rfl) dX10_isPositiveForm_16 ⟨Nat.le_of_ble_eq_true rfl, Nat.le_of_ble_eq_true rfl⟩) hT hS hA [2, 3] [0, 1] rfl rfl rfl (by decide) (by decide) (fun H locs hB J hS => ?_)
  have hT1 := hB
  have hT := J _ hT1
  have hT : TP D A [(h0, ob 7 [.ref h1, .ref h2, .int h0f2, .ref h3, .ref h4, .ref h5, .int h0f6, .ref h6, .int h0f8, .null, .ref h7, .int h0f11, .ref h8, .ref h9, .ref h10, .ref h11, .ref h12]), (h1, ob 4 [.int h1f0, .int h1f1, .int h1f2, .ref h13]), (h11, aJ (k 1) 9 anJ), (h12, aJ (k 1) 9 anJ)] _ := hT
  refine lv_aload_n hx hb dX10_isPositiveForm_19 rfl (lv_at hl 0 rfl) ?_
  refine tz_get (ci := 7) (v := .ref h11) (C := RX10) (F := TX10) (N := 17) hx hb hU iX10 hown hK hT 0 rfl rfl 15 (by decide) w264 (fun _ h9 => h9) rfl dX10_isPositiveForm_20 ?_
  refine lv_aload_n hx hb dX10_isPositiveForm_23 rfl (lv_at hl 0 rfl) ?_
  refine tz_get (ci := 7) (v := .ref h12) (C := RX10) (F := TX10) (N := 17) hx hb hU iX10 hown hK hT 0 rfl rfl 16 (by decide) w265 (fun _ h9 => h9) rfl dX10_isPositiveForm_24 ?_
  refine lv_aload_n hx hb dX10_isPositiveForm_27 rfl (lv_at hl 0 rfl) ?_
  refine tz_get (ci := 7) (v := .ref h1) (C := RX10) (F := TX10) (N := 17) hx hb hU iX10 hown hK hT 0 rfl rfl 0 (by decide) w249 (fun _ h9 => h9) rfl dX10_isPositiveForm_28 ?_
  refine tcI (Tc := [(h1, ob 4 [.int h1f0, .int h1f1, .int h1f2, .ref h13])]) (Tr := [(h0, ob 7 [.ref h1, .ref h2, .int h0f2, .ref h3, .ref h4, .ref h5, .int h0f6, .ref h6, .int h0f8, .null, .ref h7, .int h0f11, .ref h8, .ref h9, .ref h10, .ref h11, .ref h12]), (h11, aJ (k 1) 9 anJ), (h12, aJ (k 1) 9 anJ)]) (as := [h1]) (zcV (q0 := 1) (ci := 4) (As := []) (rest := [.ref h12, .ref h11]) (Tc := [(h1, ob 4 [.int h1f0, .int h1f1, .int h1f2, .ref h13])]) hx hb hml hown hU hK hT rfl rfl [1] rfl (by decide) (cX5_cellCount_642c9 l D k _ h1 h13 h1f0 h1f1 h1f2 (by omega) (by omega)) w385 w382 w383 w384 w64 hdX5_cellCount ⟨rfl, rfl⟩ ⟨Nat.le_of_ble_eq_true rfl, Nat.le_of_ble_eq_true rfl⟩ rfl hl.1 (Nat.le_of_ble_eq_true rfl) dX10_isPositiveForm_31 ⟨Nat.le_of_ble_eq_true rfl, Nat.le_of_ble_eq_true rfl⟩) hT hS hA [1] [0, 2, 3] rfl rfl rfl (by decide) (by decide) (fun r3 H locs hB J hS => ?_)
  obtain ⟨b_r3, hT1⟩ := hB
  have hT := J _ hT1
  have hT : TP D A [(h0, ob 7 [.ref h1, .ref h2, .int h0f2, .ref h3, .ref h4, .ref h5, .int h0f6, .ref h6, .int h0f8, .null, .ref h7, .int h0f11, .ref h8, .ref h9, .ref h10, .ref h11, .ref h12]), (h11, aJ (k 1) 9 anJ), (h12, aJ (k 1) 9 anJ), (h1, ob 4 [.int h1f0, .int h1f1, .int h1f2, .ref h13])] _ := hT
  refine tcI (Tc := [(h11, aJ (k 1) 9 anJ), (h12, aJ (k 1) 9 anJ)]) (Tr := [(h0, ob 7 [.ref h1, .ref h2, .int h0f2, .ref h3, .ref h4, .ref h5, .int h0f6, .ref h6, .int h0f8, .null, .ref h7, .int h0f11, .ref h8, .ref h9, .ref h10, .ref h11, .ref h12]), (h1, ob 4 [.int h1f0, .int h1f1, .int h1f2, .ref h13])]) (as := [h11, h12]) (zcS (As := [.ref h11, .ref h12, .int r3]) (rest := []) (Tc := [(h11, aJ (k 1) 9 anJ), (h12, aJ (k 1) 9 anJ)]) hx hb hml hown hU hK hT [1, 2] rfl (by decide) (cX7_areAlike_339bc l D k _ h11 h12 r3 (by omega)) w608 w606 w607 w74 hdX7_areAlike ⟨rfl, rfl⟩ ⟨Nat.le_of_ble_eq_true rfl, Nat.le_of_ble_eq_true rfl⟩ rfl hl.1 (Nat.le_of_ble_eq_true rfl) dX10_isPositiveForm_34 ⟨Nat.le_of_ble_eq_true rfl, Nat.le_of_ble_eq_true rfl⟩) hT hS hA [1, 2] [0, 3] rfl rfl rfl (by decide) (by decide) (fun r4 H locs hB J hS => ?_)
  obtain ⟨b_r4, hT1⟩ := hB
  have hT := J _ hT1
  have hT : TP D A [(h0, ob 7 [.ref h1, .ref h2, .int h0f2, .ref h3, .ref h4, .ref h5, .int h0f6, .ref h6, .int h0f8, .null, .ref h7, .int h0f11, .ref h8, .ref h9, .ref h10, .ref h11, .ref h12]), (h1, ob 4 [.int h1f0, .int h1f1, .int h1f2, .ref h13]), (h11, aJ (k 1) 9 anJ), (h12, aJ (k 1) 9 anJ)] _ := hT
  refine lv_if_ne (tgt := 42) hx hb dX10_isPositiveForm_37 (by decide) (fun c_5 => ?_) (fun c_5 => ?_)
  · skip
    have c_5 := ni_ne c_5 rfl li_0
    refine lv_iconst (v := 1) hx hb dX10_isPositiveForm_42 (by decide) ?_
    refine lv_istore_n (lv' := [(1, .int 1), (0, .ref h0)]) hx hb dX10_isPositiveForm_43 rfl hl (by decide) rfl (fun ls hl => ?_)
    have lp44_9 : ∀ (n : Nat) (y8 : Int32) (H : Heap) (locs : List Loc) (ls : Array Slot), (1 ≤ y8.toInt ∧ y8.toInt ≤ 4) → (h1f0.toInt + (-1) * y8.toInt + 1).toNat < n → TP D A [(h0, ob 7 [.ref h1, .ref h2, .int h0f2, .ref h3, .ref h4, .ref h5, .int h0f6, .ref h6, .int h0f8, .null, .ref h7, .int h0f11, .ref h8, .ref h9, .ref h10, .ref h11, .ref h12]), (h1, ob 4 [.int h1f0, .int h1f1, .int h1f2, .ref h13]), (h11, aJ (k 1) 9 anJ), (h12, aJ (k 1) 9 anJ)] H → va_S A s.heap H locs → lv_has ls 2 [(0, .ref h0), (1, .int y8)] → W p l e Rm_cX10_isPositiveForm_92f38 s m args below meth c H locs 0 0 Q (F0 m 44 ls []) := by
      intro n
      induction n with
      | zero => intro y8 H locs ls b_y8 hm hT hS hl; exact absurd hm (Nat.not_lt_zero _)
      | succ n ih =>
        intro y8 H locs ls b_y8 hm hT hS hl
        have ih44_9 := ih
        clear ih
        refine lv_iload_n hx hb dX10_isPositiveForm_44 rfl (lv_at hl 1 rfl) ?_
        refine lv_aload_n hx hb dX10_isPositiveForm_45 rfl (lv_at hl 0 rfl) ?_
        refine tz_get (ci := 7) (v := .ref h1) (C := RX10) (F := TX10) (N := 17) hx hb hU iX10 hown hK hT 0 rfl rfl 0 (by decide) w249 (fun _ h9 => h9) rfl dX10_isPositiveForm_46 ?_
        refine tz_get (ci := 4) (v := .int h1f0) (C := RX5) (F := TX5) (N := 4) hx hb hU iX5 hown hK hT 1 rfl rfl 0 (by decide) w93 (fun _ h9 => h9) rfl dX10_isPositiveForm_49 ?_
        refine lv_icmp_gt (tgt := 84) hx hb dX10_isPositiveForm_52 (by decide) (fun c_10 => ?_) (fun c_10 => ?_)
        · skip
          have c_10 := ni_lt c_10 rfl rfl
          refine lv_iconst (v := 1) hx hb dX10_isPositiveForm_84 (by decide) ?_
          exact tz_retZ (B := B_cX10_isPositiveForm_92f38 D k h0 h1 h11 h12 h2 h3 h4 h5 h6 h7 h8 h9 h10 h13 h0f2 h0f6 h0f8 h0f11 h1f0 h1f1 h1f2) (v := 1) hQ hx hb hr hlocks hS (Nat.le_of_ble_eq_true rfl) (Nat.le_of_ble_eq_true rfl) dX10_isPositiveForm_85 (by have := li_1; omega) (⟨(by have := li_1; omega), hT⟩)
        · skip
          have c_10 := ni_nlt c_10 rfl rfl
          refine lv_aload_n hx hb dX10_isPositiveForm_55 rfl (lv_at hl 0 rfl) ?_
          refine tz_get (ci := 7) (v := .ref h11) (C := RX10) (F := TX10) (N := 17) hx hb hU iX10 hown hK hT 0 rfl rfl 15 (by decide) w264 (fun _ h9 => h9) rfl dX10_isPositiveForm_56 ?_
          refine lv_iconst (v := 0) hx hb dX10_isPositiveForm_59 (by decide) ?_
          refine lv_aload_n hx hb dX10_isPositiveForm_60 rfl (lv_at hl 0 rfl) ?_
          refine tz_get (ci := 7) (v := .ref h1) (C := RX10) (F := TX10) (N := 17) hx hb hU iX10 hown hK hT 0 rfl rfl 0 (by decide) w249 (fun _ h9 => h9) rfl dX10_isPositiveForm_61 ?_
          refine tz_get (ci := 4) (v := .int h1f0) (C := RX5) (F := TX5) (N := 4) hx hb hU iX5 hown hK hT 1 rfl rfl 0 (by decide) w93 (fun _ h9 => h9) rfl dX10_isPositiveForm_64 ?_
          refine lv_iload_n hx hb dX10_isPositiveForm_67 rfl (lv_at hl 1 rfl) ?_
          refine tcL (Tc := [(h11, aJ (k 1) 9 anJ)]) (Tr := [(h0, ob 7 [.ref h1, .ref h2, .int h0f2, .ref h3, .ref h4, .ref h5, .int h0f6, .ref h6, .int h0f8, .null, .ref h7, .int h0f11, .ref h8, .ref h9, .ref h10, .ref h11, .ref h12]), (h1, ob 4 [.int h1f0, .int h1f1, .int h1f2, .ref h13]), (h12, aJ (k 1) 9 anJ)]) (as := [h11]) (zcS (As := [.ref h11, .int 0, .int h1f0, .int y8]) (rest := []) (Tc := [(h11, aJ (k 1) 9 anJ)]) hx hb hml hown hU hK hT [2] rfl (by decide) (cX7_determinant_a44b2 l D k _ h11 h1f0 y8 (by omega) (by omega)) w372 w402 w371 w74 hdX7_determinant ⟨rfl, rfl⟩ ⟨Nat.le_of_ble_eq_true rfl, Nat.le_of_ble_eq_true rfl⟩ rfl hl.1 (Nat.le_of_ble_eq_true rfl) dX10_isPositiveForm_68 ⟨Nat.le_of_ble_eq_true rfl, Nat.le_of_ble_eq_true rfl⟩) hT hS hA [2] [0, 1, 3] rfl rfl rfl (by decide) (by decide) (fun r11 H locs hB J hS => ?_)
          have hT1 := hB
          have hT := J _ hT1
          have hT : TP D A [(h0, ob 7 [.ref h1, .ref h2, .int h0f2, .ref h3, .ref h4, .ref h5, .int h0f6, .ref h6, .int h0f8, .null, .ref h7, .int h0f11, .ref h8, .ref h9, .ref h10, .ref h11, .ref h12]), (h1, ob 4 [.int h1f0, .int h1f1, .int h1f2, .ref h13]), (h12, aJ (k 1) 9 anJ), (h11, aJ (k 1) 9 anJ)] _ := hT
          refine lv_lconst (v := 0) hx hb dX10_isPositiveForm_71 (by decide) ?_
          refine W.lcmp hx hb dX10_isPositiveForm_72 ?_
          refine lv_if_gt (tgt := 78) hx hb dX10_isPositiveForm_73 (by decide) (fun c_12 => ?_) (fun c_12 => ?_)
          · skip
            have c_12 := nl_gt c_12 rfl ll_0
            obtain ⟨v13, e_v13⟩ : ∃ x : Int32, x = y8 + Int32.ofInt 1 := ⟨_, rfl⟩
            have f_v13 := e_v13.symm
            have e_v13 : v13.toInt = y8.toInt + 1 := ai_add e_v13 rfl (show (Int32.ofInt 1).toInt = 1 from (by decide +kernel)) (by omega)
            refine lv_iinc (v := v13) (lv' := [(1, .int v13), (0, .ref h0)]) hx hb dX10_isPositiveForm_78 hl (k := 1) rfl f_v13 (by decide) rfl (fun ls hl => ?_)
            refine lv_goto (tgt := 44) hx hb dX10_isPositiveForm_81 (by decide) ?_
            exact ih44_9 v13 _ _ _ (by omega)  (by omega) (hT.sub [0, 1, 3, 2] (by decide) rfl) hS (lv_sub hl [1, 0] rfl)
          · skip
            have c_12 := nl_ngt c_12 rfl ll_0
            refine lv_iconst (v := 0) hx hb dX10_isPositiveForm_76 (by decide) ?_
            exact tz_retZ (B := B_cX10_isPositiveForm_92f38 D k h0 h1 h11 h12 h2 h3 h4 h5 h6 h7 h8 h9 h10 h13 h0f2 h0f6 h0f8 h0f11 h1f0 h1f1 h1f2) (v := 0) hQ hx hb hr hlocks hS (Nat.le_of_ble_eq_true rfl) (Nat.le_of_ble_eq_true rfl) dX10_isPositiveForm_77 (by have := li_0; omega) (⟨(by have := li_0; omega), (hT.sub [0, 1, 3, 2] (by decide) rfl)⟩)
    exact lp44_9 ((h1f0.toInt + (-1) * (1 : Int32).toInt + 1).toNat + 1) (1) _ _ _ (by have := li_1; omega)  (Nat.lt_succ_self _) hT hS (lv_sub hl [1, 0] rfl)
  · skip
    have c_5 := ni_eq c_5 rfl li_0
    refine lv_iconst (v := 0) hx hb dX10_isPositiveForm_40 (by decide) ?_
    exact tz_retZ (B := B_cX10_isPositiveForm_92f38 D k h0 h1 h11 h12 h2 h3 h4 h5 h6 h7 h8 h9 h10 h13 h0f2 h0f6 h0f8 h0f11 h1f0 h1f1 h1f2) (v := 0) hQ hx hb hr hlocks hS (Nat.le_of_ble_eq_true rfl) (Nat.le_of_ble_eq_true rfl) dX10_isPositiveForm_41 (by have := li_0; omega) (⟨(by have := li_0; omega), hT⟩)
abbrev Rm_cX7_addUp_b264d : Room := { frames := 0, cells := 0, slots := 0, locals := 0 }
abbrev B_cX7_addUp_b264d (D : va_G) (k : Nat → ClassId) (h0 h1 : Nat) (x1 : Int32) (x2 : Int32) (x4 : Int32) (x5 : Int32) (x6 : Int32) (A : Nat → Prop) (r : Int64) (H : Heap) : Prop := TP D A [(h0, aJ (k 1) 36 anJ), (h1, aJ (k 1) 9 anJ)] H
set_option maxHeartbeats 4000000 in
set_option maxRecDepth 100000 in
theorem cX7_addUp_b264d (l : Launch) (D : va_G) (k : Nat → ClassId) (sz : Nat) (h0 h1 : Nat) (x1 : Int32) (x2 : Int32) (x4 : Int32) (x5 : Int32) (x6 : Int32) (b_x1 : 0 ≤ x1.toInt ∧ x1.toInt ≤ 29) (b_x2 : 1 ≤ x2.toInt ∧ x2.toInt ≤ 3) (b_x4 : 0 ≤ x4.toInt ∧ x4.toInt ≤ 2) (b_x5 : 1 ≤ x5.toInt ∧ x5.toInt ≤ 3) (b_x6 : 1 ≤ x6.toInt ∧ x6.toInt ≤ 3) : Met l yX7_addUp (Cond.code yX7_addUp cX7_addUp 10 (some .long) :: uw) Rm_cX7_addUp_b264d (pT D k sz [.ref h0, .int x1, .int x2, .ref h1, .int x4, .int x5, .int x6] [(h0, aJ (k 1) 36 anJ), (h1, aJ (k 1) 9 anJ)]) (qL (B_cX7_addUp_b264d D k h0 h1 x1 x2 x4 x5 x6 (zA [h0, h1] sz)) (zA [h0, h1] sz)) 0 0 (zA [h0, h1] sz) := by
  refine tz_begin (as := [h0, h1]) (Qc := fun A => qL (B_cX7_addUp_b264d D k h0 h1 x1 x2 x4 x5 x6 A) A) (by decide +kernel) rfl (Nat.le_of_ble_eq_true rfl) ?_
  intro p e s m args below meth c ls A Q hx hb hr hml hown hlocks hin hU hK hT hS hA hl hQ
  have hl : lv_has ls 10 [(0, .ref h0), (1, .int x1), (2, .int x2), (3, .ref h1), (4, .int x4), (5, .int x5), (6, .int x6)] := hl
  have hT : TP D A [(h0, aJ (k 1) 36 anJ), (h1, aJ (k 1) 9 anJ)] s.heap := hT
  refine lv_lconst (v := 0) hx hb dX7_addUp_0 (by decide) ?_
  refine lv_lstore (lv' := [(7, .long 0), (0, .ref h0), (1, .int x1), (2, .int x2), (3, .ref h1), (4, .int x4), (5, .int x5), (6, .int x6)]) hx hb dX7_addUp_1 hl (by decide) rfl (fun ls hl => ?_)
  refine lv_iconst (v := 0) hx hb dX7_addUp_3 (by decide) ?_
  refine lv_istore (lv' := [(9, .int 0), (7, .long 0), (0, .ref h0), (1, .int x1), (2, .int x2), (3, .ref h1), (4, .int x4), (5, .int x5), (6, .int x6)]) hx hb dX7_addUp_4 hl (by decide) rfl (fun ls hl => ?_)
  have lp6_7 : ∀ (n : Nat) (y5 : Int32) (y6 : Int64) (H : Heap) (locs : List Loc) (ls : Array Slot), (0 ≤ y5.toInt ∧ y5.toInt ≤ 3) → (x6.toInt + (-1) * y5.toInt + 1).toNat < n → TP D A [(h0, aJ (k 1) 36 anJ), (h1, aJ (k 1) 9 anJ)] H → va_S A s.heap H locs → lv_has ls 10 [(0, .ref h0), (1, .int x1), (2, .int x2), (3, .ref h1), (4, .int x4), (5, .int x5), (6, .int x6), (7, .long y6), (9, .int y5)] → W p l e Rm_cX7_addUp_b264d s m args below meth c H locs 0 0 Q (F0 m 6 ls []) := by
    intro n
    induction n with
    | zero => intro y5 y6 H locs ls b_y5 hm hT hS hl; exact absurd hm (Nat.not_lt_zero _)
    | succ n ih =>
      intro y5 y6 H locs ls b_y5 hm hT hS hl
      have ih6_7 := ih
      clear ih
      refine lv_iload hx hb dX7_addUp_6 (lv_at hl 8 rfl) ?_
      refine lv_iload hx hb dX7_addUp_8 (lv_at hl 6 rfl) ?_
      refine lv_icmp_ge (tgt := 43) hx hb dX7_addUp_10 (by decide) (fun c_8 => ?_) (fun c_8 => ?_)
      · skip
        have c_8 := ni_le c_8 rfl rfl
        refine lv_lload hx hb dX7_addUp_43 (lv_at hl 7 rfl) ?_
        exact tz_retL (B := B_cX7_addUp_b264d D k h0 h1 x1 x2 x4 x5 x6) (v := y6) hQ hx hb hr hlocks hS (Nat.le_of_ble_eq_true rfl) (Nat.le_of_ble_eq_true rfl) dX7_addUp_45 (hT)
      · skip
        have c_8 := ni_nle c_8 rfl rfl
        refine lv_lload hx hb dX7_addUp_13 (lv_at hl 7 rfl) ?_
        refine lv_aload_n hx hb dX7_addUp_15 rfl (lv_at hl 0 rfl) ?_
        refine lv_iload_n hx hb dX7_addUp_16 rfl (lv_at hl 1 rfl) ?_
        refine lv_iload hx hb dX7_addUp_17 (lv_at hl 8 rfl) ?_
        refine lv_iload_n hx hb dX7_addUp_19 rfl (lv_at hl 2 rfl) ?_
        refine lv_imul hx hb dX7_addUp_20 (lv_topi (fun v9 e_v9 => ?_))
        have e_v9 := ai_mm (la := 0) (ua := 2) (lb := 1) (ub := 3) e_v9 rfl rfl (by omega) (by decide)
        refine lv_iadd hx hb dX7_addUp_21 (lv_topi (fun v10 e_v10 => ?_))
        have e_v10 := ai_add e_v10 rfl rfl (by omega)
        refine tz_lald hx hb hK hT 0 rfl (by omega) dX7_addUp_22 (fun v11 e_v11 => ?_)
        clear e_v11
        refine lv_aload_n hx hb dX7_addUp_23 rfl (lv_at hl 3 rfl) ?_
        refine lv_iload hx hb dX7_addUp_24 (lv_at hl 4 rfl) ?_
        refine lv_iload hx hb dX7_addUp_26 (lv_at hl 8 rfl) ?_
        refine lv_iload hx hb dX7_addUp_28 (lv_at hl 5 rfl) ?_
        refine lv_imul hx hb dX7_addUp_30 (lv_topi (fun v12 e_v12 => ?_))
        have e_v12 := ai_mm (la := 0) (ua := 2) (lb := 1) (ub := 3) e_v12 rfl rfl (by omega) (by decide)
        refine lv_iadd hx hb dX7_addUp_31 (lv_topi (fun v13 e_v13 => ?_))
        have e_v13 := ai_add e_v13 rfl rfl (by omega)
        refine tz_lald hx hb hK hT 1 rfl (by omega) dX7_addUp_32 (fun v14 e_v14 => ?_)
        clear e_v14
        refine lv_lmul hx hb dX7_addUp_33 (lv_topl (fun v15 e_v15 => ?_))
        refine lv_ladd hx hb dX7_addUp_34 (lv_topl (fun v16 e_v16 => ?_))
        refine lv_lstore (lv' := [(7, .long v16), (0, .ref h0), (1, .int x1), (2, .int x2), (3, .ref h1), (4, .int x4), (5, .int x5), (6, .int x6), (9, .int y5)]) hx hb dX7_addUp_35 hl (by decide) rfl (fun ls hl => ?_)
        obtain ⟨v17, e_v17⟩ : ∃ x : Int32, x = y5 + Int32.ofInt 1 := ⟨_, rfl⟩
        have f_v17 := e_v17.symm
        have e_v17 : v17.toInt = y5.toInt + 1 := ai_add e_v17 rfl (show (Int32.ofInt 1).toInt = 1 from (by decide +kernel)) (by omega)
        refine lv_iinc (v := v17) (lv' := [(9, .int v17), (7, .long v16), (0, .ref h0), (1, .int x1), (2, .int x2), (3, .ref h1), (4, .int x4), (5, .int x5), (6, .int x6)]) hx hb dX7_addUp_37 hl (k := 8) rfl f_v17 (by decide) rfl (fun ls hl => ?_)
        refine lv_goto (tgt := 6) hx hb dX7_addUp_40 (by decide) ?_
        exact ih6_7 v17 v16 _ _ _ (by omega)  (by omega) hT hS (lv_sub hl [2, 3, 4, 5, 6, 7, 8, 1, 0] rfl)
  exact lp6_7 ((x6.toInt + (-1) * (0 : Int32).toInt + 1).toNat + 1) (0) (0) _ _ _ (by have := li_0; have := ll_0; omega)  (Nat.lt_succ_self _) hT hS (lv_sub hl [2, 3, 4, 5, 6, 7, 8, 1, 0] rfl)
abbrev Rm_cX7_multiplyTurned_e6aef : Room := { frames := 1, cells := 0, slots := 0, locals := 29 }
abbrev B_cX7_multiplyTurned_e6aef (D : va_G) (k : Nat → ClassId) (h0 h1 h2 : Nat) (x1 : Int32) (x3 : Int32) (x5 : Int32) (A : Nat → Prop) (H : Heap) : Prop := TP D A [(h0, aJ (k 1) 36 anJ), (h1, aJ (k 1) 9 anJ), (h2, aJ (k 1) 9 anJ)] H
set_option maxHeartbeats 4000000 in
set_option maxRecDepth 100000 in
theorem cX7_multiplyTurned_e6aef (l : Launch) (D : va_G) (k : Nat → ClassId) (sz : Nat) (h0 h1 h2 : Nat) (x1 : Int32) (x3 : Int32) (x5 : Int32) (b_x1 : 0 ≤ x1.toInt ∧ x1.toInt ≤ 27) (b_x3 : 0 ≤ x3.toInt ∧ x3.toInt ≤ 0) (b_x5 : 1 ≤ x5.toInt ∧ x5.toInt ≤ 3) : Met l yX7_multiplyTurned (Cond.code yX7_multiplyTurned cX7_multiplyTurned 8 none :: uw) Rm_cX7_multiplyTurned_e6aef (pT D k sz [.ref h0, .int x1, .ref h1, .int x3, .ref h2, .int x5] [(h0, aJ (k 1) 36 anJ), (h1, aJ (k 1) 9 anJ), (h2, aJ (k 1) 9 anJ)]) (qV (B_cX7_multiplyTurned_e6aef D k h0 h1 h2 x1 x3 x5 (zA [h0, h1, h2] sz)) (zA [h0, h1, h2] sz)) 0 0 (zA [h0, h1, h2] sz) := by
  refine tz_begin (as := [h0, h1, h2]) (Qc := fun A => qV (B_cX7_multiplyTurned_e6aef D k h0 h1 h2 x1 x3 x5 A) A) (by decide +kernel) rfl (Nat.le_of_ble_eq_true rfl) ?_
  intro p e s m args below meth c ls A Q hx hb hr hml hown hlocks hin hU hK hT hS hA hl hQ
  have hl : lv_has ls 8 [(0, .ref h0), (1, .int x1), (2, .ref h1), (3, .int x3), (4, .ref h2), (5, .int x5)] := hl
  have hT : TP D A [(h0, aJ (k 1) 36 anJ), (h1, aJ (k 1) 9 anJ), (h2, aJ (k 1) 9 anJ)] s.heap := hT
  refine lv_iconst (v := 0) hx hb dX7_multiplyTurned_0 (by decide) ?_
  refine lv_istore (lv' := [(6, .int 0), (0, .ref h0), (1, .int x1), (2, .ref h1), (3, .int x3), (4, .ref h2), (5, .int x5)]) hx hb dX7_multiplyTurned_1 hl (by decide) rfl (fun ls hl => ?_)
  have lp3_4 : ∀ (n : Nat) (y3 : Int32) (H : Heap) (locs : List Loc) (ls : Array Slot), (0 ≤ y3.toInt ∧ y3.toInt ≤ 3) → (x5.toInt + (-1) * y3.toInt + 1).toNat < n → TP D A [(h0, aJ (k 1) 36 anJ), (h1, aJ (k 1) 9 anJ), (h2, aJ (k 1) 9 anJ)] H → va_S A s.heap H locs → lv_has ls 8 [(0, .ref h0), (1, .int x1), (2, .ref h1), (3, .int x3), (4, .ref h2), (5, .int x5), (6, .int y3)] → W p l e Rm_cX7_multiplyTurned_e6aef s m args below meth c H locs 0 0 Q (F0 m 3 ls []) := by
    intro n
    induction n with
    | zero => intro y3 H locs ls b_y3 hm hT hS hl; exact absurd hm (Nat.not_lt_zero _)
    | succ n ih =>
      intro y3 H locs ls b_y3 hm hT hS hl
      have ih3_4 := ih
      clear ih
      refine lv_iload hx hb dX7_multiplyTurned_3 (lv_at hl 6 rfl) ?_
      refine lv_iload hx hb dX7_multiplyTurned_5 (lv_at hl 5 rfl) ?_
      refine lv_icmp_ge (tgt := 62) hx hb dX7_multiplyTurned_7 (by decide) (fun c_5 => ?_) (fun c_5 => ?_)
      · skip
        have c_5 := ni_le c_5 rfl rfl
        exact tz_retV (B := B_cX7_multiplyTurned_e6aef D k h0 h1 h2 x1 x3 x5) hQ hx hb hr hlocks hS (Nat.le_of_ble_eq_true rfl) (Nat.le_of_ble_eq_true rfl) dX7_multiplyTurned_62 (hT)
      · skip
        have c_5 := ni_nle c_5 rfl rfl
        refine lv_iconst (v := 0) hx hb dX7_multiplyTurned_10 (by decide) ?_
        refine lv_istore (lv' := [(7, .int 0), (0, .ref h0), (1, .int x1), (2, .ref h1), (3, .int x3), (4, .ref h2), (5, .int x5), (6, .int y3)]) hx hb dX7_multiplyTurned_11 hl (by decide) rfl (fun ls hl => ?_)
        have lp13_9 : ∀ (n : Nat) (y8 : Int32) (H : Heap) (locs : List Loc) (ls : Array Slot), (0 ≤ y8.toInt ∧ y8.toInt ≤ 3) → (x5.toInt + (-1) * y8.toInt + 1).toNat < n → TP D A [(h0, aJ (k 1) 36 anJ), (h1, aJ (k 1) 9 anJ), (h2, aJ (k 1) 9 anJ)] H → va_S A s.heap H locs → lv_has ls 8 [(0, .ref h0), (1, .int x1), (2, .ref h1), (3, .int x3), (4, .ref h2), (5, .int x5), (6, .int y3), (7, .int y8)] → W p l e Rm_cX7_multiplyTurned_e6aef s m args below meth c H locs 0 0 Q (F0 m 13 ls []) := by
          intro n
          induction n with
          | zero => intro y8 H locs ls b_y8 hm hT hS hl; exact absurd hm (Nat.not_lt_zero _)
          | succ n ih =>
            intro y8 H locs ls b_y8 hm hT hS hl
            have ih13_9 := ih
            clear ih
            refine lv_iload hx hb dX7_multiplyTurned_13 (lv_at hl 7 rfl) ?_
            refine lv_iload hx hb dX7_multiplyTurned_15 (lv_at hl 5 rfl) ?_
            refine lv_icmp_ge (tgt := 56) hx hb dX7_multiplyTurned_17 (by decide) (fun c_10 => ?_) (fun c_10 => ?_)
            · skip
              have c_10 := ni_le c_10 rfl rfl
              obtain ⟨v11, e_v11⟩ : ∃ x : Int32, x = y3 + Int32.ofInt 1 := ⟨_, rfl⟩
              have f_v11 := e_v11.symm
              have e_v11 : v11.toInt = y3.toInt + 1 := ai_add e_v11 rfl (show (Int32.ofInt 1).toInt = 1 from (by decide +kernel)) (by omega)
              refine lv_iinc (v := v11) (lv' := [(6, .int v11), (0, .ref h0), (1, .int x1), (2, .ref h1), (3, .int x3), (4, .ref h2), (5, .int x5), (7, .int y8)]) hx hb dX7_multiplyTurned_56 hl (k := 6) rfl f_v11 (by decide) rfl (fun ls hl => ?_)
              refine lv_goto (tgt := 3) hx hb dX7_multiplyTurned_59 (by decide) ?_
              exact ih3_4 v11 _ _ _ (by omega)  (by omega) hT hS (lv_sub hl [1, 2, 3, 4, 5, 6, 0] rfl)
            · skip
              have c_10 := ni_nle c_10 rfl rfl
              refine lv_aload hx hb dX7_multiplyTurned_20 (lv_at hl 4 rfl) ?_
              refine lv_iload hx hb dX7_multiplyTurned_22 (lv_at hl 6 rfl) ?_
              refine lv_iload hx hb dX7_multiplyTurned_24 (lv_at hl 5 rfl) ?_
              refine lv_imul hx hb dX7_multiplyTurned_26 (lv_topi (fun v12 e_v12 => ?_))
              have e_v12 := ai_mm (la := 0) (ua := 2) (lb := 1) (ub := 3) e_v12 rfl rfl (by omega) (by decide)
              refine lv_iload hx hb dX7_multiplyTurned_27 (lv_at hl 7 rfl) ?_
              refine lv_iadd hx hb dX7_multiplyTurned_29 (lv_topi (fun v13 e_v13 => ?_))
              have e_v13 := ai_add e_v13 rfl rfl (by omega)
              refine lv_aload_n hx hb dX7_multiplyTurned_30 rfl (lv_at hl 0 rfl) ?_
              refine lv_iload_n hx hb dX7_multiplyTurned_31 rfl (lv_at hl 1 rfl) ?_
              refine lv_iload hx hb dX7_multiplyTurned_32 (lv_at hl 6 rfl) ?_
              refine lv_iadd hx hb dX7_multiplyTurned_34 (lv_topi (fun v14 e_v14 => ?_))
              have e_v14 := ai_add e_v14 rfl rfl (by omega)
              refine lv_iload hx hb dX7_multiplyTurned_35 (lv_at hl 5 rfl) ?_
              refine lv_aload_n hx hb dX7_multiplyTurned_37 rfl (lv_at hl 2 rfl) ?_
              refine lv_iload_n hx hb dX7_multiplyTurned_38 rfl (lv_at hl 3 rfl) ?_
              refine lv_iload hx hb dX7_multiplyTurned_39 (lv_at hl 7 rfl) ?_
              have hq15 : x3.toInt = 0 := by omega
              refine lv_iadd hx hb dX7_multiplyTurned_41 (lv_topi (fun v16 e_v16 => ?_))
              have e_v16 := ai_add e_v16 hq15 rfl (by omega)
              refine lv_iload hx hb dX7_multiplyTurned_42 (lv_at hl 5 rfl) ?_
              refine lv_iload hx hb dX7_multiplyTurned_44 (lv_at hl 5 rfl) ?_
              refine tcL (Tc := [(h0, aJ (k 1) 36 anJ), (h1, aJ (k 1) 9 anJ)]) (Tr := [(h2, aJ (k 1) 9 anJ)]) (as := [h0, h1]) (zcS (As := [.ref h0, .int v14, .int x5, .ref h1, .int v16, .int x5, .int x5]) (rest := [.int v13, .ref h2]) (Tc := [(h0, aJ (k 1) 36 anJ), (h1, aJ (k 1) 9 anJ)]) hx hb hml hown hU hK hT [0, 1] rfl (by decide) (cX7_addUp_b264d l D k _ h0 h1 v14 x5 v16 x5 x5 (by omega) (by omega) (by omega) (by omega) (by omega)) w366 w364 w365 w74 hdX7_addUp ⟨rfl, rfl⟩ ⟨Nat.le_of_ble_eq_true rfl, Nat.le_of_ble_eq_true rfl⟩ rfl hl.1 (Nat.le_of_ble_eq_true rfl) dX7_multiplyTurned_46 ⟨Nat.le_of_ble_eq_true rfl, Nat.le_of_ble_eq_true rfl⟩) hT hS hA [0, 1] [2] rfl rfl rfl (by decide) (by decide) (fun r17 H locs hB J hS => ?_)
              have hT1 := hB
              have hT := J _ hT1
              have hT : TP D A [(h2, aJ (k 1) 9 anJ), (h0, aJ (k 1) 36 anJ), (h1, aJ (k 1) 9 anJ)] _ := hT
              refine tz_last hx hb hK hT hS 0 rfl (by omega) (fun _ _ => trivial) dX7_multiplyTurned_49 (fun H locs hT hS => ?_)
              obtain ⟨v18, e_v18⟩ : ∃ x : Int32, x = y8 + Int32.ofInt 1 := ⟨_, rfl⟩
              have f_v18 := e_v18.symm
              have e_v18 : v18.toInt = y8.toInt + 1 := ai_add e_v18 rfl (show (Int32.ofInt 1).toInt = 1 from (by decide +kernel)) (by omega)
              refine lv_iinc (v := v18) (lv' := [(7, .int v18), (0, .ref h0), (1, .int x1), (2, .ref h1), (3, .int x3), (4, .ref h2), (5, .int x5), (6, .int y3)]) hx hb dX7_multiplyTurned_50 hl (k := 7) rfl f_v18 (by decide) rfl (fun ls hl => ?_)
              refine lv_goto (tgt := 13) hx hb dX7_multiplyTurned_53 (by decide) ?_
              exact ih13_9 v18 _ _ _ (by omega)  (by omega) (hT.sub [1, 2, 0] (by decide) rfl) hS (lv_sub hl [1, 2, 3, 4, 5, 6, 7, 0] rfl)
        exact lp13_9 ((x5.toInt + (-1) * (0 : Int32).toInt + 1).toNat + 1) (0) _ _ _ (by have := li_0; omega)  (Nat.lt_succ_self _) hT hS (lv_sub hl [1, 2, 3, 4, 5, 6, 7, 0] rfl)
  exact lp3_4 ((x5.toInt + (-1) * (0 : Int32).toInt + 1).toNat + 1) (0) _ _ _ (by have := li_0; omega)  (Nat.lt_succ_self _) hT hS (lv_sub hl [1, 2, 3, 4, 5, 6, 0] rfl)
abbrev Rm_cX10_noGeneratorChangesForm_52b64 : Room := { frames := 2, cells := 1, slots := 9, locals := 56 }
abbrev B_cX10_noGeneratorChangesForm_52b64 (D : va_G) (k : Nat → ClassId) (h0 h1 h11 h12 h13 h2 h3 h4 h5 h6 h7 h8 h9 h10 : Nat) (h0f2 : Int32) (h0f6 : Int32) (h0f8 : Int32) (h0f11 : Int32) (h1f0 : Int32) (h1f1 : Int32) (h1f2 : Int32) (A : Nat → Prop) (r : Int32) (H : Heap) : Prop := (0 ≤ r.toInt ∧ r.toInt ≤ 1) ∧ TP D A [(h0, ob 7 [.ref h1, .ref h2, .int h0f2, .ref h3, .ref h4, .ref h5, .int h0f6, .ref h6, .int h0f8, .null, .ref h7, .int h0f11, .ref h8, .ref h9, .ref h10, .ref h11, .ref h12]), (h1, ob 4 [.int h1f0, .int h1f1, .int h1f2, .ref h13]), (h11, aJ (k 1) 9 anJ), (h12, aJ (k 1) 9 anJ), (h13, aJ (k 1) 36 anJ)] H
set_option maxHeartbeats 4000000 in
set_option maxRecDepth 100000 in
theorem cX10_noGeneratorChangesForm_52b64 (l : Launch) (D : va_G) (k : Nat → ClassId) (sz : Nat) (h0 h1 h11 h12 h13 h2 h3 h4 h5 h6 h7 h8 h9 h10 : Nat) (h0f2 : Int32) (h0f6 : Int32) (h0f8 : Int32) (h0f11 : Int32) (h1f0 : Int32) (h1f1 : Int32) (h1f2 : Int32) (b_h0f2 : 0 ≤ h0f2.toInt ∧ h0f2.toInt ≤ 1) (b_h0f6 : 0 ≤ h0f6.toInt ∧ h0f6.toInt ≤ 1) (b_h0f8 : 0 ≤ h0f8.toInt ∧ h0f8.toInt ≤ 1) (b_h0f11 : 0 ≤ h0f11.toInt ∧ h0f11.toInt ≤ 200) (b_h1f0 : 1 ≤ h1f0.toInt ∧ h1f0.toInt ≤ 3) (b_h1f1 : 0 ≤ h1f1.toInt ∧ h1f1.toInt ≤ 4) : Met l yX10_noGeneratorChangesForm (Cond.code yX10_noGeneratorChangesForm cX10_noGeneratorChangesForm 3 (some .boolean) :: uw) Rm_cX10_noGeneratorChangesForm_52b64 (pT D k sz [.ref h0] [(h0, ob 7 [.ref h1, .ref h2, .int h0f2, .ref h3, .ref h4, .ref h5, .int h0f6, .ref h6, .int h0f8, .null, .ref h7, .int h0f11, .ref h8, .ref h9, .ref h10, .ref h11, .ref h12]), (h1, ob 4 [.int h1f0, .int h1f1, .int h1f2, .ref h13]), (h11, aJ (k 1) 9 anJ), (h12, aJ (k 1) 9 anJ), (h13, aJ (k 1) 36 anJ)]) (qI (B_cX10_noGeneratorChangesForm_52b64 D k h0 h1 h11 h12 h13 h2 h3 h4 h5 h6 h7 h8 h9 h10 h0f2 h0f6 h0f8 h0f11 h1f0 h1f1 h1f2 (zA [h0, h1, h11, h12, h13] sz)) (zA [h0, h1, h11, h12, h13] sz)) 1 9 (zA [h0, h1, h11, h12, h13] sz) := by
  refine tz_begin (as := [h0, h1, h11, h12, h13]) (Qc := fun A => qI (B_cX10_noGeneratorChangesForm_52b64 D k h0 h1 h11 h12 h13 h2 h3 h4 h5 h6 h7 h8 h9 h10 h0f2 h0f6 h0f8 h0f11 h1f0 h1f1 h1f2 A) A) (by decide +kernel) rfl (Nat.le_of_ble_eq_true rfl) ?_
  intro p e s m args below meth c ls A Q hx hb hr hml hown hlocks hin hU hK hT hS hA hl hQ
  have hl : lv_has ls 3 [(0, .ref h0)] := hl
  have hT : TP D A [(h0, ob 7 [.ref h1, .ref h2, .int h0f2, .ref h3, .ref h4, .ref h5, .int h0f6, .ref h6, .int h0f8, .null, .ref h7, .int h0f11, .ref h8, .ref h9, .ref h10, .ref h11, .ref h12]), (h1, ob 4 [.int h1f0, .int h1f1, .int h1f2, .ref h13]), (h11, aJ (k 1) 9 anJ), (h12, aJ (k 1) 9 anJ), (h13, aJ (k 1) 36 anJ)] s.heap := hT
  refine lv_bipush (v := 9) hx hb dX10_noGeneratorChangesForm_0 (by decide) ?_
  refine tz_nal (N := 9) hx hb hU w113 hK hT hS hA (by decide +kernel) (by decide +kernel) (Nat.le_of_ble_eq_true rfl) (Nat.le_of_ble_eq_true rfl) (Nat.le_of_ble_eq_true rfl) dX10_noGeneratorChangesForm_2 (fun q1 H hT hS => ?_)
  have hT : TP D A [(h0, ob 7 [.ref h1, .ref h2, .int h0f2, .ref h3, .ref h4, .ref h5, .int h0f6, .ref h6, .int h0f8, .null, .ref h7, .int h0f11, .ref h8, .ref h9, .ref h10, .ref h11, .ref h12]), (h1, ob 4 [.int h1f0, .int h1f1, .int h1f2, .ref h13]), (h11, aJ (k 1) 9 anJ), (h12, aJ (k 1) 9 anJ), (h13, aJ (k 1) 36 anJ), (q1, aJ (k 1) 9 anJ)] _ := hT
  refine lv_astore_n (lv' := [(1, .ref q1), (0, .ref h0)]) hx hb dX10_noGeneratorChangesForm_4 rfl hl (by decide) rfl (fun ls hl => ?_)
  refine lv_iconst (v := 0) hx hb dX10_noGeneratorChangesForm_5 (by decide) ?_
  refine lv_istore_n (lv' := [(2, .int 0), (1, .ref q1), (0, .ref h0)]) hx hb dX10_noGeneratorChangesForm_6 rfl hl (by decide) rfl (fun ls hl => ?_)
  have lp7_6 : ∀ (n : Nat) (y5 : Int32) (H : Heap) (locs : List Loc) (ls : Array Slot), (0 ≤ y5.toInt ∧ y5.toInt ≤ 4) → (h1f1.toInt + (-1) * y5.toInt + 1).toNat < n → TP D A [(h0, ob 7 [.ref h1, .ref h2, .int h0f2, .ref h3, .ref h4, .ref h5, .int h0f6, .ref h6, .int h0f8, .null, .ref h7, .int h0f11, .ref h8, .ref h9, .ref h10, .ref h11, .ref h12]), (h1, ob 4 [.int h1f0, .int h1f1, .int h1f2, .ref h13]), (h11, aJ (k 1) 9 anJ), (h12, aJ (k 1) 9 anJ), (h13, aJ (k 1) 36 anJ), (q1, aJ (k 1) 9 anJ)] H → va_S A s.heap H locs → lv_has ls 3 [(0, .ref h0), (1, .ref q1), (2, .int y5)] → W p l e Rm_cX10_noGeneratorChangesForm_52b64 s m args below meth c H locs 1 9 Q (F0 m 7 ls []) := by
    intro n
    induction n with
    | zero => intro y5 H locs ls b_y5 hm hT hS hl; exact absurd hm (Nat.not_lt_zero _)
    | succ n ih =>
      intro y5 H locs ls b_y5 hm hT hS hl
      have ih7_6 := ih
      clear ih
      refine lv_iload_n hx hb dX10_noGeneratorChangesForm_7 rfl (lv_at hl 2 rfl) ?_
      refine lv_aload_n hx hb dX10_noGeneratorChangesForm_8 rfl (lv_at hl 0 rfl) ?_
      refine tz_get (ci := 7) (v := .ref h1) (C := RX10) (F := TX10) (N := 17) hx hb hU iX10 hown hK hT 0 rfl rfl 0 (by decide) w249 (fun _ h9 => h9) rfl dX10_noGeneratorChangesForm_9 ?_
      refine tz_get (ci := 4) (v := .int h1f1) (C := RX5) (F := TX5) (N := 4) hx hb hU iX5 hown hK hT 1 rfl rfl 1 (by decide) w97 (fun _ h9 => h9) rfl dX10_noGeneratorChangesForm_12 ?_
      refine lv_icmp_ge (tgt := 101) hx hb dX10_noGeneratorChangesForm_15 (by decide) (fun c_7 => ?_) (fun c_7 => ?_)
      · skip
        have c_7 := ni_le c_7 rfl rfl
        refine lv_iconst (v := 1) hx hb dX10_noGeneratorChangesForm_101 (by decide) ?_
        exact tz_retZ (B := B_cX10_noGeneratorChangesForm_52b64 D k h0 h1 h11 h12 h13 h2 h3 h4 h5 h6 h7 h8 h9 h10 h0f2 h0f6 h0f8 h0f11 h1f0 h1f1 h1f2) (v := 1) hQ hx hb hr hlocks hS (Nat.le_of_ble_eq_true rfl) (Nat.le_of_ble_eq_true rfl) dX10_noGeneratorChangesForm_102 (by have := li_1; omega) (⟨(by have := li_1; omega), (hT.sub [0, 1, 2, 3, 4] (by decide) rfl)⟩)
      · skip
        have c_7 := ni_nle c_7 rfl rfl
        refine lv_aload_n hx hb dX10_noGeneratorChangesForm_18 rfl (lv_at hl 0 rfl) ?_
        refine tz_get (ci := 7) (v := .ref h1) (C := RX10) (F := TX10) (N := 17) hx hb hU iX10 hown hK hT 0 rfl rfl 0 (by decide) w249 (fun _ h9 => h9) rfl dX10_noGeneratorChangesForm_19 ?_
        refine tz_get (ci := 4) (v := .ref h13) (C := RX5) (F := TX5) (N := 4) hx hb hU iX5 hown hK hT 1 rfl rfl 3 (by decide) w103 (fun _ h9 => h9) rfl dX10_noGeneratorChangesForm_22 ?_
        refine lv_iload_n hx hb dX10_noGeneratorChangesForm_25 rfl (lv_at hl 2 rfl) ?_
        refine lv_bipush (v := 9) hx hb dX10_noGeneratorChangesForm_26 (by decide) ?_
        refine lv_imul hx hb dX10_noGeneratorChangesForm_28 (lv_topi (fun v8 e_v8 => ?_))
        have e_v8 := ai_mul e_v8 rfl li_9 (by omega)
        refine lv_aload_n hx hb dX10_noGeneratorChangesForm_29 rfl (lv_at hl 0 rfl) ?_
        refine tz_get (ci := 7) (v := .ref h11) (C := RX10) (F := TX10) (N := 17) hx hb hU iX10 hown hK hT 0 rfl rfl 15 (by decide) w264 (fun _ h9 => h9) rfl dX10_noGeneratorChangesForm_30 ?_
        refine lv_iconst (v := 0) hx hb dX10_noGeneratorChangesForm_33 (by decide) ?_
        refine lv_aload_n hx hb dX10_noGeneratorChangesForm_34 rfl (lv_at hl 0 rfl) ?_
        refine tz_get (ci := 7) (v := .ref h12) (C := RX10) (F := TX10) (N := 17) hx hb hU iX10 hown hK hT 0 rfl rfl 16 (by decide) w265 (fun _ h9 => h9) rfl dX10_noGeneratorChangesForm_35 ?_
        refine lv_aload_n hx hb dX10_noGeneratorChangesForm_38 rfl (lv_at hl 0 rfl) ?_
        refine tz_get (ci := 7) (v := .ref h1) (C := RX10) (F := TX10) (N := 17) hx hb hU iX10 hown hK hT 0 rfl rfl 0 (by decide) w249 (fun _ h9 => h9) rfl dX10_noGeneratorChangesForm_39 ?_
        refine tz_get (ci := 4) (v := .int h1f0) (C := RX5) (F := TX5) (N := 4) hx hb hU iX5 hown hK hT 1 rfl rfl 0 (by decide) w93 (fun _ h9 => h9) rfl dX10_noGeneratorChangesForm_42 ?_
        have q_q10 := li_0
        refine tcV (Tc := [(h13, aJ (k 1) 36 anJ), (h11, aJ (k 1) 9 anJ), (h12, aJ (k 1) 9 anJ)]) (Tr := [(h0, ob 7 [.ref h1, .ref h2, .int h0f2, .ref h3, .ref h4, .ref h5, .int h0f6, .ref h6, .int h0f8, .null, .ref h7, .int h0f11, .ref h8, .ref h9, .ref h10, .ref h11, .ref h12]), (h1, ob 4 [.int h1f0, .int h1f1, .int h1f2, .ref h13]), (q1, aJ (k 1) 9 anJ)]) (as := [h13, h11, h12]) (zcS (As := [.ref h13, .int v8, .ref h11, .int 0, .ref h12, .int h1f0]) (rest := []) (Tc := [(h13, aJ (k 1) 36 anJ), (h11, aJ (k 1) 9 anJ), (h12, aJ (k 1) 9 anJ)]) hx hb hml hown hU hK hT [4, 2, 3] rfl (by decide) (cX7_multiplyTurned_e6aef l D k _ h13 h11 h12 v8 (0) h1f0 (by omega) (by have := li_0; omega) (by omega)) w620 w618 w619 w74 hdX7_multiplyTurned ⟨rfl, rfl⟩ ⟨Nat.le_of_ble_eq_true rfl, Nat.le_of_ble_eq_true rfl⟩ rfl hl.1 (Nat.le_of_ble_eq_true rfl) dX10_noGeneratorChangesForm_45 ⟨Nat.le_of_ble_eq_true rfl, Nat.le_of_ble_eq_true rfl⟩) hT hS hA [4, 2, 3] [0, 1, 5] rfl rfl rfl (by decide) (by decide) (fun H locs hB J hS => ?_)
        have hT1 := hB
        have hT := J _ hT1
        have hT : TP D A [(h0, ob 7 [.ref h1, .ref h2, .int h0f2, .ref h3, .ref h4, .ref h5, .int h0f6, .ref h6, .int h0f8, .null, .ref h7, .int h0f11, .ref h8, .ref h9, .ref h10, .ref h11, .ref h12]), (h1, ob 4 [.int h1f0, .int h1f1, .int h1f2, .ref h13]), (q1, aJ (k 1) 9 anJ), (h13, aJ (k 1) 36 anJ), (h11, aJ (k 1) 9 anJ), (h12, aJ (k 1) 9 anJ)] _ := hT
        refine lv_aload_n hx hb dX10_noGeneratorChangesForm_48 rfl (lv_at hl 0 rfl) ?_
        refine tz_get (ci := 7) (v := .ref h12) (C := RX10) (F := TX10) (N := 17) hx hb hU iX10 hown hK hT 0 rfl rfl 16 (by decide) w265 (fun _ h9 => h9) rfl dX10_noGeneratorChangesForm_49 ?_
        refine lv_iconst (v := 0) hx hb dX10_noGeneratorChangesForm_52 (by decide) ?_
        refine lv_aload_n hx hb dX10_noGeneratorChangesForm_53 rfl (lv_at hl 0 rfl) ?_
        refine tz_get (ci := 7) (v := .ref h1) (C := RX10) (F := TX10) (N := 17) hx hb hU iX10 hown hK hT 0 rfl rfl 0 (by decide) w249 (fun _ h9 => h9) rfl dX10_noGeneratorChangesForm_54 ?_
        refine tz_get (ci := 4) (v := .ref h13) (C := RX5) (F := TX5) (N := 4) hx hb hU iX5 hown hK hT 1 rfl rfl 3 (by decide) w103 (fun _ h9 => h9) rfl dX10_noGeneratorChangesForm_57 ?_
        refine lv_iload_n hx hb dX10_noGeneratorChangesForm_60 rfl (lv_at hl 2 rfl) ?_
        refine lv_bipush (v := 9) hx hb dX10_noGeneratorChangesForm_61 (by decide) ?_
        refine lv_imul hx hb dX10_noGeneratorChangesForm_63 (lv_topi (fun v11 e_v11 => ?_))
        have e_v11 := ai_mul e_v11 rfl li_9 (by omega)
        refine lv_aload_n hx hb dX10_noGeneratorChangesForm_64 rfl (lv_at hl 1 rfl) ?_
        refine lv_aload_n hx hb dX10_noGeneratorChangesForm_65 rfl (lv_at hl 0 rfl) ?_
        refine tz_get (ci := 7) (v := .ref h1) (C := RX10) (F := TX10) (N := 17) hx hb hU iX10 hown hK hT 0 rfl rfl 0 (by decide) w249 (fun _ h9 => h9) rfl dX10_noGeneratorChangesForm_66 ?_
        refine tz_get (ci := 4) (v := .int h1f0) (C := RX5) (F := TX5) (N := 4) hx hb hU iX5 hown hK hT 1 rfl rfl 0 (by decide) w93 (fun _ h9 => h9) rfl dX10_noGeneratorChangesForm_69 ?_
        have q_q13 := li_0
        refine tcV (Tc := [(h12, aJ (k 1) 9 anJ), (h13, aJ (k 1) 36 anJ), (q1, aJ (k 1) 9 anJ)]) (Tr := [(h0, ob 7 [.ref h1, .ref h2, .int h0f2, .ref h3, .ref h4, .ref h5, .int h0f6, .ref h6, .int h0f8, .null, .ref h7, .int h0f11, .ref h8, .ref h9, .ref h10, .ref h11, .ref h12]), (h1, ob 4 [.int h1f0, .int h1f1, .int h1f2, .ref h13]), (h11, aJ (k 1) 9 anJ)]) (as := [h12, h13, q1]) (zcS (As := [.ref h12, .int 0, .ref h13, .int v11, .ref q1, .int h1f0]) (rest := []) (Tc := [(h12, aJ (k 1) 9 anJ), (h13, aJ (k 1) 36 anJ), (q1, aJ (k 1) 9 anJ)]) hx hb hml hown hU hK hT [5, 3, 2] rfl (by decide) (cX7_multiply_a4f9f l D k _ h12 h13 q1 (0) v11 h1f0 (by have := li_0; omega) (by omega) (by omega)) w363 w361 w362 w74 hdX7_multiply ⟨rfl, rfl⟩ ⟨Nat.le_of_ble_eq_true rfl, Nat.le_of_ble_eq_true rfl⟩ rfl hl.1 (Nat.le_of_ble_eq_true rfl) dX10_noGeneratorChangesForm_72 ⟨Nat.le_of_ble_eq_true rfl, Nat.le_of_ble_eq_true rfl⟩) hT hS hA [5, 3, 2] [0, 1, 4] rfl rfl rfl (by decide) (by decide) (fun H locs hB J hS => ?_)
        have hT1 := hB
        have hT := J _ hT1
        have hT : TP D A [(h0, ob 7 [.ref h1, .ref h2, .int h0f2, .ref h3, .ref h4, .ref h5, .int h0f6, .ref h6, .int h0f8, .null, .ref h7, .int h0f11, .ref h8, .ref h9, .ref h10, .ref h11, .ref h12]), (h1, ob 4 [.int h1f0, .int h1f1, .int h1f2, .ref h13]), (h11, aJ (k 1) 9 anJ), (h12, aJ (k 1) 9 anJ), (h13, aJ (k 1) 36 anJ), (q1, aJ (k 1) 9 anJ)] _ := hT
        refine lv_aload_n hx hb dX10_noGeneratorChangesForm_75 rfl (lv_at hl 0 rfl) ?_
        refine tz_get (ci := 7) (v := .ref h11) (C := RX10) (F := TX10) (N := 17) hx hb hU iX10 hown hK hT 0 rfl rfl 15 (by decide) w264 (fun _ h9 => h9) rfl dX10_noGeneratorChangesForm_76 ?_
        refine lv_aload_n hx hb dX10_noGeneratorChangesForm_79 rfl (lv_at hl 1 rfl) ?_
        refine lv_aload_n hx hb dX10_noGeneratorChangesForm_80 rfl (lv_at hl 0 rfl) ?_
        refine tz_get (ci := 7) (v := .ref h1) (C := RX10) (F := TX10) (N := 17) hx hb hU iX10 hown hK hT 0 rfl rfl 0 (by decide) w249 (fun _ h9 => h9) rfl dX10_noGeneratorChangesForm_81 ?_
        refine tcI (Tc := [(h1, ob 4 [.int h1f0, .int h1f1, .int h1f2, .ref h13])]) (Tr := [(h0, ob 7 [.ref h1, .ref h2, .int h0f2, .ref h3, .ref h4, .ref h5, .int h0f6, .ref h6, .int h0f8, .null, .ref h7, .int h0f11, .ref h8, .ref h9, .ref h10, .ref h11, .ref h12]), (h11, aJ (k 1) 9 anJ), (h12, aJ (k 1) 9 anJ), (h13, aJ (k 1) 36 anJ), (q1, aJ (k 1) 9 anJ)]) (as := [h1]) (zcV (q0 := 1) (ci := 4) (As := []) (rest := [.ref q1, .ref h11]) (Tc := [(h1, ob 4 [.int h1f0, .int h1f1, .int h1f2, .ref h13])]) hx hb hml hown hU hK hT rfl rfl [1] rfl (by decide) (cX5_cellCount_642c9 l D k _ h1 h13 h1f0 h1f1 h1f2 (by omega) (by omega)) w385 w382 w383 w384 w64 hdX5_cellCount ⟨rfl, rfl⟩ ⟨Nat.le_of_ble_eq_true rfl, Nat.le_of_ble_eq_true rfl⟩ rfl hl.1 (Nat.le_of_ble_eq_true rfl) dX10_noGeneratorChangesForm_84 ⟨Nat.le_of_ble_eq_true rfl, Nat.le_of_ble_eq_true rfl⟩) hT hS hA [1] [0, 2, 3, 4, 5] rfl rfl rfl (by decide) (by decide) (fun r14 H locs hB J hS => ?_)
        obtain ⟨b_r14, hT1⟩ := hB
        have hT := J _ hT1
        have hT : TP D A [(h0, ob 7 [.ref h1, .ref h2, .int h0f2, .ref h3, .ref h4, .ref h5, .int h0f6, .ref h6, .int h0f8, .null, .ref h7, .int h0f11, .ref h8, .ref h9, .ref h10, .ref h11, .ref h12]), (h11, aJ (k 1) 9 anJ), (h12, aJ (k 1) 9 anJ), (h13, aJ (k 1) 36 anJ), (q1, aJ (k 1) 9 anJ), (h1, ob 4 [.int h1f0, .int h1f1, .int h1f2, .ref h13])] _ := hT
        refine tcI (Tc := [(h11, aJ (k 1) 9 anJ), (q1, aJ (k 1) 9 anJ)]) (Tr := [(h0, ob 7 [.ref h1, .ref h2, .int h0f2, .ref h3, .ref h4, .ref h5, .int h0f6, .ref h6, .int h0f8, .null, .ref h7, .int h0f11, .ref h8, .ref h9, .ref h10, .ref h11, .ref h12]), (h12, aJ (k 1) 9 anJ), (h13, aJ (k 1) 36 anJ), (h1, ob 4 [.int h1f0, .int h1f1, .int h1f2, .ref h13])]) (as := [h11, q1]) (zcS (As := [.ref h11, .ref q1, .int r14]) (rest := []) (Tc := [(h11, aJ (k 1) 9 anJ), (q1, aJ (k 1) 9 anJ)]) hx hb hml hown hU hK hT [1, 4] rfl (by decide) (cX7_areAlike_339bc l D k _ h11 q1 r14 (by omega)) w608 w606 w607 w74 hdX7_areAlike ⟨rfl, rfl⟩ ⟨Nat.le_of_ble_eq_true rfl, Nat.le_of_ble_eq_true rfl⟩ rfl hl.1 (Nat.le_of_ble_eq_true rfl) dX10_noGeneratorChangesForm_87 ⟨Nat.le_of_ble_eq_true rfl, Nat.le_of_ble_eq_true rfl⟩) hT hS hA [1, 4] [0, 2, 3, 5] rfl rfl rfl (by decide) (by decide) (fun r15 H locs hB J hS => ?_)
        obtain ⟨b_r15, hT1⟩ := hB
        have hT := J _ hT1
        have hT : TP D A [(h0, ob 7 [.ref h1, .ref h2, .int h0f2, .ref h3, .ref h4, .ref h5, .int h0f6, .ref h6, .int h0f8, .null, .ref h7, .int h0f11, .ref h8, .ref h9, .ref h10, .ref h11, .ref h12]), (h12, aJ (k 1) 9 anJ), (h13, aJ (k 1) 36 anJ), (h1, ob 4 [.int h1f0, .int h1f1, .int h1f2, .ref h13]), (h11, aJ (k 1) 9 anJ), (q1, aJ (k 1) 9 anJ)] _ := hT
        refine lv_if_ne (tgt := 95) hx hb dX10_noGeneratorChangesForm_90 (by decide) (fun c_16 => ?_) (fun c_16 => ?_)
        · skip
          have c_16 := ni_ne c_16 rfl li_0
          obtain ⟨v17, e_v17⟩ : ∃ x : Int32, x = y5 + Int32.ofInt 1 := ⟨_, rfl⟩
          have f_v17 := e_v17.symm
          have e_v17 : v17.toInt = y5.toInt + 1 := ai_add e_v17 rfl (show (Int32.ofInt 1).toInt = 1 from (by decide +kernel)) (by omega)
          refine lv_iinc (v := v17) (lv' := [(2, .int v17), (0, .ref h0), (1, .ref q1)]) hx hb dX10_noGeneratorChangesForm_95 hl (k := 2) rfl f_v17 (by decide) rfl (fun ls hl => ?_)
          refine lv_goto (tgt := 7) hx hb dX10_noGeneratorChangesForm_98 (by decide) ?_
          exact ih7_6 v17 _ _ _ (by omega)  (by omega) (hT.sub [0, 3, 4, 1, 2, 5] (by decide) rfl) hS (lv_sub hl [1, 2, 0] rfl)
        · skip
          have c_16 := ni_eq c_16 rfl li_0
          refine lv_iconst (v := 0) hx hb dX10_noGeneratorChangesForm_93 (by decide) ?_
          exact tz_retZ (B := B_cX10_noGeneratorChangesForm_52b64 D k h0 h1 h11 h12 h13 h2 h3 h4 h5 h6 h7 h8 h9 h10 h0f2 h0f6 h0f8 h0f11 h1f0 h1f1 h1f2) (v := 0) hQ hx hb hr hlocks hS (Nat.le_of_ble_eq_true rfl) (Nat.le_of_ble_eq_true rfl) dX10_noGeneratorChangesForm_94 (by have := li_0; omega) (⟨(by have := li_0; omega), (hT.sub [0, 3, 4, 1, 2] (by decide) rfl)⟩)
  exact lp7_6 ((h1f1.toInt + (-1) * (0 : Int32).toInt + 1).toNat + 1) (0) _ _ _ (by have := li_0; omega)  (Nat.lt_succ_self _) hT hS (lv_sub hl [2, 1, 0] rfl)
abbrev Rm_cX10_keeps_deb30 : Room := { frames := 3, cells := 1, slots := 9, locals := 78 }
abbrev B_cX10_keeps_deb30 (D : va_G) (k : Nat → ClassId) (h0 h1 h4 h11 h12 h13 h17 h18 h19 h20 h37 h38 h39 h40 h2 h3 h5 h6 h7 h8 h9 h10 : Nat) (x1 : Int32) (x2 : Int32) (h0f2 : Int32) (h0f6 : Int32) (h0f8 : Int32) (h0f11 : Int32) (h1f0 : Int32) (h1f1 : Int32) (h1f2 : Int32) (h17f0 : Int32) (h17f1 : Int32) (h18f0 : Int32) (h18f1 : Int32) (h19f0 : Int32) (h19f1 : Int32) (h20f0 : Int32) (h20f1 : Int32) (A : Nat → Prop) (r : Int32) (H : Heap) : Prop := ((-16) ≤ r.toInt ∧ r.toInt ≤ 1) ∧ TP D A [(h0, ob 7 [.ref h1, .ref h2, .int h0f2, .ref h3, .ref h4, .ref h5, .int h0f6, .ref h6, .int h0f8, .null, .ref h7, .int h0f11, .ref h8, .ref h9, .ref h10, .ref h11, .ref h12]), (h1, ob 4 [.int h1f0, .int h1f1, .int h1f2, .ref h13]), (h4, aQ (k 3) 4 (q4 h17 h18 h19 h20)), (h11, aJ (k 1) 9 anJ), (h12, aJ (k 1) 9 anJ), (h13, aJ (k 1) 36 anJ), (h17, ob 5 [.int h17f0, .int h17f1, .ref h37]), (h18, ob 5 [.int h18f0, .int h18f1, .ref h38]), (h19, ob 5 [.int h19f0, .int h19f1, .ref h39]), (h20, ob 5 [.int h20f0, .int h20f1, .ref h40]), (h37, aJ (k 1) 40 anJ), (h38, aJ (k 1) 40 anJ), (h39, aJ (k 1) 40 anJ), (h40, aJ (k 1) 40 anJ)] H
set_option maxHeartbeats 4000000 in
set_option maxRecDepth 100000 in
theorem cX10_keeps_deb30 (l : Launch) (D : va_G) (k : Nat → ClassId) (sz : Nat) (h0 h1 h4 h11 h12 h13 h17 h18 h19 h20 h37 h38 h39 h40 h2 h3 h5 h6 h7 h8 h9 h10 : Nat) (x1 : Int32) (x2 : Int32) (h0f2 : Int32) (h0f6 : Int32) (h0f8 : Int32) (h0f11 : Int32) (h1f0 : Int32) (h1f1 : Int32) (h1f2 : Int32) (h17f0 : Int32) (h17f1 : Int32) (h18f0 : Int32) (h18f1 : Int32) (h19f0 : Int32) (h19f1 : Int32) (h20f0 : Int32) (h20f1 : Int32) (b_h0f2 : 0 ≤ h0f2.toInt ∧ h0f2.toInt ≤ 1) (b_h0f6 : 0 ≤ h0f6.toInt ∧ h0f6.toInt ≤ 1) (b_h0f8 : 0 ≤ h0f8.toInt ∧ h0f8.toInt ≤ 1) (b_h0f11 : 0 ≤ h0f11.toInt ∧ h0f11.toInt ≤ 200) (b_h1f0 : 1 ≤ h1f0.toInt ∧ h1f0.toInt ≤ 3) (b_h1f1 : 0 ≤ h1f1.toInt ∧ h1f1.toInt ≤ 4) (b_h17f0 : (-1) ≤ h17f0.toInt ∧ h17f0.toInt ≤ 2) (b_h17f1 : 0 ≤ h17f1.toInt ∧ h17f1.toInt ≤ 40) (b_h18f0 : (-1) ≤ h18f0.toInt ∧ h18f0.toInt ≤ 2) (b_h18f1 : 0 ≤ h18f1.toInt ∧ h18f1.toInt ≤ 40) (b_h19f0 : (-1) ≤ h19f0.toInt ∧ h19f0.toInt ≤ 2) (b_h19f1 : 0 ≤ h19f1.toInt ∧ h19f1.toInt ≤ 40) (b_h20f0 : (-1) ≤ h20f0.toInt ∧ h20f0.toInt ≤ 2) (b_h20f1 : 0 ≤ h20f1.toInt ∧ h20f1.toInt ≤ 40) : Met l yX10_keeps (Cond.code yX10_keeps cX10_keeps 4 (some .int) :: uw) Rm_cX10_keeps_deb30 (pT D k sz [.ref h0, .int x1, .int x2] [(h0, ob 7 [.ref h1, .ref h2, .int h0f2, .ref h3, .ref h4, .ref h5, .int h0f6, .ref h6, .int h0f8, .null, .ref h7, .int h0f11, .ref h8, .ref h9, .ref h10, .ref h11, .ref h12]), (h1, ob 4 [.int h1f0, .int h1f1, .int h1f2, .ref h13]), (h4, aQ (k 3) 4 (q4 h17 h18 h19 h20)), (h11, aJ (k 1) 9 anJ), (h12, aJ (k 1) 9 anJ), (h13, aJ (k 1) 36 anJ), (h17, ob 5 [.int h17f0, .int h17f1, .ref h37]), (h18, ob 5 [.int h18f0, .int h18f1, .ref h38]), (h19, ob 5 [.int h19f0, .int h19f1, .ref h39]), (h20, ob 5 [.int h20f0, .int h20f1, .ref h40]), (h37, aJ (k 1) 40 anJ), (h38, aJ (k 1) 40 anJ), (h39, aJ (k 1) 40 anJ), (h40, aJ (k 1) 40 anJ)]) (qI (B_cX10_keeps_deb30 D k h0 h1 h4 h11 h12 h13 h17 h18 h19 h20 h37 h38 h39 h40 h2 h3 h5 h6 h7 h8 h9 h10 x1 x2 h0f2 h0f6 h0f8 h0f11 h1f0 h1f1 h1f2 h17f0 h17f1 h18f0 h18f1 h19f0 h19f1 h20f0 h20f1 (zA [h0, h1, h4, h11, h12, h13, h17, h18, h19, h20, h37, h38, h39, h40] sz)) (zA [h0, h1, h4, h11, h12, h13, h17, h18, h19, h20, h37, h38, h39, h40] sz)) 1 9 (zA [h0, h1, h4, h11, h12, h13, h17, h18, h19, h20, h37, h38, h39, h40] sz) := by
  refine tz_begin (as := [h0, h1, h4, h11, h12, h13, h17, h18, h19, h20, h37, h38, h39, h40]) (Qc := fun A => qI (B_cX10_keeps_deb30 D k h0 h1 h4 h11 h12 h13 h17 h18 h19 h20 h37 h38 h39 h40 h2 h3 h5 h6 h7 h8 h9 h10 x1 x2 h0f2 h0f6 h0f8 h0f11 h1f0 h1f1 h1f2 h17f0 h17f1 h18f0 h18f1 h19f0 h19f1 h20f0 h20f1 A) A) (by decide +kernel) rfl (Nat.le_of_ble_eq_true rfl) ?_
  intro p e s m args below meth c ls A Q hx hb hr hml hown hlocks hin hU hK hT hS hA hl hQ
  have hl : lv_has ls 4 [(0, .ref h0), (1, .int x1), (2, .int x2)] := hl
  have hT : TP D A [(h0, ob 7 [.ref h1, .ref h2, .int h0f2, .ref h3, .ref h4, .ref h5, .int h0f6, .ref h6, .int h0f8, .null, .ref h7, .int h0f11, .ref h8, .ref h9, .ref h10, .ref h11, .ref h12]), (h1, ob 4 [.int h1f0, .int h1f1, .int h1f2, .ref h13]), (h4, aQ (k 3) 4 (q4 h17 h18 h19 h20)), (h11, aJ (k 1) 9 anJ), (h12, aJ (k 1) 9 anJ), (h13, aJ (k 1) 36 anJ), (h17, ob 5 [.int h17f0, .int h17f1, .ref h37]), (h18, ob 5 [.int h18f0, .int h18f1, .ref h38]), (h19, ob 5 [.int h19f0, .int h19f1, .ref h39]), (h20, ob 5 [.int h20f0, .int h20f1, .ref h40]), (h37, aJ (k 1) 40 anJ), (h38, aJ (k 1) 40 anJ), (h39, aJ (k 1) 40 anJ), (h40, aJ (k 1) 40 anJ)] s.heap := hT
  refine lv_aload_n hx hb dX10_keeps_0 rfl (lv_at hl 0 rfl) ?_
  refine lv_iload_n hx hb dX10_keeps_1 rfl (lv_at hl 1 rfl) ?_
  refine lv_iload_n hx hb dX10_keeps_2 rfl (lv_at hl 2 rfl) ?_
  refine lv_iconst (v := 0) hx hb dX10_keeps_3 (by decide) ?_
  refine tcI (Tc := [(h0, ob 7 [.ref h1, .ref h2, .int h0f2, .ref h3, .ref h4, .ref h5, .int h0f6, .ref h6, .int h0f8, .null, .ref h7, .int h0f11, .ref h8, .ref h9, .ref h10, .ref h11, .ref h12]), (h1, ob 4 [.int h1f0, .int h1f1, .int h1f2, .ref h13]), (h4, aQ (k 3) 4 (q4 h17 h18 h19 h20)), (h17, ob 5 [.int h17f0, .int h17f1, .ref h37]), (h18, ob 5 [.int h18f0, .int h18f1, .ref h38]), (h19, ob 5 [.int h19f0, .int h19f1, .ref h39]), (h20, ob 5 [.int h20f0, .int h20f1, .ref h40])]) (Tr := [(h11, aJ (k 1) 9 anJ), (h12, aJ (k 1) 9 anJ), (h13, aJ (k 1) 36 anJ), (h37, aJ (k 1) 40 anJ), (h38, aJ (k 1) 40 anJ), (h39, aJ (k 1) 40 anJ), (h40, aJ (k 1) 40 anJ)]) (as := [h0, h1, h4, h17, h18, h19, h20]) (zcV (q0 := 0) (ci := 7) (As := [.int x1, .int x2, .int 0]) (rest := []) (Tc := [(h0, ob 7 [.ref h1, .ref h2, .int h0f2, .ref h3, .ref h4, .ref h5, .int h0f6, .ref h6, .int h0f8, .null, .ref h7, .int h0f11, .ref h8, .ref h9, .ref h10, .ref h11, .ref h12]), (h1, ob 4 [.int h1f0, .int h1f1, .int h1f2, .ref h13]), (h4, aQ (k 3) 4 (q4 h17 h18 h19 h20)), (h17, ob 5 [.int h17f0, .int h17f1, .ref h37]), (h18, ob 5 [.int h18f0, .int h18f1, .ref h38]), (h19, ob 5 [.int h19f0, .int h19f1, .ref h39]), (h20, ob 5 [.int h20f0, .int h20f1, .ref h40])]) hx hb hml hown hU hK hT rfl rfl [0, 1, 2, 6, 7, 8, 9] rfl (by decide) (cX10_refusalOfTable_450e2 l D k _ h0 h1 h4 h17 h18 h19 h20 h2 h3 h5 h6 h7 h8 h9 h10 h11 h12 h13 h37 h38 h39 h40 x1 x2 h0f2 h0f6 h0f8 h0f11 h1f0 h1f1 h1f2 h17f0 h17f1 h18f0 h18f1 h19f0 h19f1 h20f0 h20f1 (by omega) (by omega) (by omega) (by omega) (by omega) (by omega) (by omega) (by omega) (by omega) (by omega) (by omega) (by omega) (by omega) (by omega)) w637 w634 w636 w18 w63 hdX10_refusalOfTable ⟨rfl, rfl⟩ ⟨Nat.le_of_ble_eq_true rfl, Nat.le_of_ble_eq_true rfl⟩ rfl hl.1 (Nat.le_of_ble_eq_true rfl) dX10_keeps_4 ⟨Nat.le_of_ble_eq_true rfl, Nat.le_of_ble_eq_true rfl⟩) hT hS hA [0, 1, 2, 6, 7, 8, 9] [3, 4, 5, 10, 11, 12, 13] rfl rfl rfl (by decide) (by decide) (fun r1 H locs hB J hS => ?_)
  rcases hB with ⟨rfl, hT1⟩ | ⟨rfl, hT1⟩ | ⟨v2, b_v2, c_3, c_4, c_5, c_6, c_7, c_8, c_9, c_10, c_11, c_12, c_13, rfl, hT1⟩ | ⟨v14, b_v14, c_15, c_16, c_17, c_18, c_19, c_20, c_21, c_22, c_23, c_24, c_25, rfl, hT1⟩ | ⟨v26, b_v26, c_27, c_28, c_29, c_30, c_31, c_32, c_33, c_34, c_35, c_36, c_37, rfl, hT1⟩ | ⟨rfl, hT1⟩ | ⟨rfl, hT1⟩ | ⟨v38, b_v38, c_39, c_40, c_41, c_42, c_43, c_44, c_45, c_46, c_47, c_48, c_49, rfl, hT1⟩ | ⟨v50, b_v50, c_51, c_52, c_53, c_54, c_55, c_56, c_57, c_58, c_59, c_60, c_61, rfl, hT1⟩ | ⟨v62, b_v62, c_63, c_64, c_65, c_66, c_67, c_68, c_69, c_70, c_71, c_72, c_73, rfl, hT1⟩ | ⟨v74, b_v74, c_75, c_76, c_77, c_78, c_79, c_80, c_81, c_82, c_83, c_84, c_85, rfl, hT1⟩ | ⟨v86, b_v86, c_87, c_88, c_89, c_90, c_91, c_92, c_93, c_94, c_95, c_96, c_97, rfl, hT1⟩ | ⟨v98, b_v98, c_99, c_100, c_101, c_102, c_103, c_104, c_105, c_106, c_107, c_108, c_109, rfl, hT1⟩ | ⟨v110, b_v110, c_111, c_112, c_113, c_114, c_115, c_116, c_117, c_118, c_119, c_120, c_121, rfl, hT1⟩ | ⟨v122, b_v122, c_123, c_124, c_125, c_126, c_127, c_128, c_129, c_130, c_131, c_132, c_133, rfl, hT1⟩ | ⟨v134, b_v134, c_135, c_136, c_137, c_138, c_139, c_140, c_141, c_142, c_143, c_144, c_145, rfl, hT1⟩
  · skip
    have hT := J _ hT1
    have hT : TP D A [(h11, aJ (k 1) 9 anJ), (h12, aJ (k 1) 9 anJ), (h13, aJ (k 1) 36 anJ), (h37, aJ (k 1) 40 anJ), (h38, aJ (k 1) 40 anJ), (h39, aJ (k 1) 40 anJ), (h40, aJ (k 1) 40 anJ), (h0, ob 7 [.ref h1, .ref h2, .int h0f2, .ref h3, .ref h4, .ref h5, .int h0f6, .ref h6, .int h0f8, .null, .ref h7, .int h0f11, .ref h8, .ref h9, .ref h10, .ref h11, .ref h12]), (h1, ob 4 [.int h1f0, .int h1f1, .int h1f2, .ref h13]), (h4, aQ (k 3) 4 (q4 h17 h18 h19 h20)), (h17, ob 5 [.int h17f0, .int h17f1, .ref h37]), (h18, ob 5 [.int h18f0, .int h18f1, .ref h38]), (h19, ob 5 [.int h19f0, .int h19f1, .ref h39]), (h20, ob 5 [.int h20f0, .int h20f1, .ref h40])] _ := hT
    refine lv_istore_n (lv' := [(3, .int (-1)), (0, .ref h0), (1, .int x1), (2, .int x2)]) hx hb dX10_keeps_7 rfl hl (by decide) rfl (fun ls hl => ?_)
    refine lv_iload_n hx hb dX10_keeps_8 rfl (lv_at hl 0 rfl) ?_
    refine lv_if_eq (tgt := 14) hx hb dX10_keeps_9 (by decide) (fun cc => absurd cc (by decide +kernel)) (fun _ => ?_)
    refine lv_iload_n hx hb dX10_keeps_12 rfl (lv_at hl 0 rfl) ?_
    exact tz_retI (B := B_cX10_keeps_deb30 D k h0 h1 h4 h11 h12 h13 h17 h18 h19 h20 h37 h38 h39 h40 h2 h3 h5 h6 h7 h8 h9 h10 x1 x2 h0f2 h0f6 h0f8 h0f11 h1f0 h1f1 h1f2 h17f0 h17f1 h18f0 h18f1 h19f0 h19f1 h20f0 h20f1) (v := (-1)) hQ hx hb hr hlocks hS (Nat.le_of_ble_eq_true rfl) (Nat.le_of_ble_eq_true rfl) dX10_keeps_13 (⟨(by have := li_m1; omega), (hT.sub [7, 8, 9, 0, 1, 2, 10, 11, 12, 13, 3, 4, 5, 6] (by decide) rfl)⟩)
  · skip
    have hT := J _ hT1
    have hT : TP D A [(h11, aJ (k 1) 9 anJ), (h12, aJ (k 1) 9 anJ), (h13, aJ (k 1) 36 anJ), (h37, aJ (k 1) 40 anJ), (h38, aJ (k 1) 40 anJ), (h39, aJ (k 1) 40 anJ), (h40, aJ (k 1) 40 anJ), (h0, ob 7 [.ref h1, .ref h2, .int h0f2, .ref h3, .ref h4, .ref h5, .int h0f6, .ref h6, .int h0f8, .null, .ref h7, .int h0f11, .ref h8, .ref h9, .ref h10, .ref h11, .ref h12]), (h1, ob 4 [.int h1f0, .int h1f1, .int h1f2, .ref h13]), (h4, aQ (k 3) 4 (q4 h17 h18 h19 h20)), (h17, ob 5 [.int h17f0, .int h17f1, .ref h37]), (h18, ob 5 [.int h18f0, .int h18f1, .ref h38]), (h19, ob 5 [.int h19f0, .int h19f1, .ref h39]), (h20, ob 5 [.int h20f0, .int h20f1, .ref h40])] _ := hT
    refine lv_istore_n (lv' := [(3, .int (-12)), (0, .ref h0), (1, .int x1), (2, .int x2)]) hx hb dX10_keeps_7 rfl hl (by decide) rfl (fun ls hl => ?_)
    refine lv_iload_n hx hb dX10_keeps_8 rfl (lv_at hl 0 rfl) ?_
    refine lv_if_eq (tgt := 14) hx hb dX10_keeps_9 (by decide) (fun cc => absurd cc (by decide +kernel)) (fun _ => ?_)
    refine lv_iload_n hx hb dX10_keeps_12 rfl (lv_at hl 0 rfl) ?_
    exact tz_retI (B := B_cX10_keeps_deb30 D k h0 h1 h4 h11 h12 h13 h17 h18 h19 h20 h37 h38 h39 h40 h2 h3 h5 h6 h7 h8 h9 h10 x1 x2 h0f2 h0f6 h0f8 h0f11 h1f0 h1f1 h1f2 h17f0 h17f1 h18f0 h18f1 h19f0 h19f1 h20f0 h20f1) (v := (-12)) hQ hx hb hr hlocks hS (Nat.le_of_ble_eq_true rfl) (Nat.le_of_ble_eq_true rfl) dX10_keeps_13 (⟨(by have := li_m12; omega), (hT.sub [7, 8, 9, 0, 1, 2, 10, 11, 12, 13, 3, 4, 5, 6] (by decide) rfl)⟩)
  · skip
    have hT := J _ hT1
    have hT : TP D A [(h11, aJ (k 1) 9 anJ), (h12, aJ (k 1) 9 anJ), (h13, aJ (k 1) 36 anJ), (h37, aJ (k 1) 40 anJ), (h38, aJ (k 1) 40 anJ), (h39, aJ (k 1) 40 anJ), (h40, aJ (k 1) 40 anJ), (h0, ob 7 [.ref h1, .ref h2, .int h0f2, .ref h3, .ref h4, .ref h5, .int h0f6, .ref h6, .int h0f8, .null, .ref h7, .int h0f11, .ref h8, .ref h9, .ref h10, .ref h11, .ref h12]), (h1, ob 4 [.int h1f0, .int h1f1, .int h1f2, .ref h13]), (h4, aQ (k 3) 4 (q4 h17 h18 h19 h20)), (h17, ob 5 [.int h17f0, .int h17f1, .ref h37]), (h18, ob 5 [.int h18f0, .int h18f1, .ref h38]), (h19, ob 5 [.int h19f0, .int h19f1, .ref h39]), (h20, ob 5 [.int h20f0, .int h20f1, .ref h40])] _ := hT
    refine lv_istore_n (lv' := [(3, .int 0), (0, .ref h0), (1, .int x1), (2, .int x2)]) hx hb dX10_keeps_7 rfl hl (by decide) rfl (fun ls hl => ?_)
    refine lv_iload_n hx hb dX10_keeps_8 rfl (lv_at hl 0 rfl) ?_
    refine lv_if_eq (tgt := 14) hx hb dX10_keeps_9 (by decide) (fun _ => ?_) (fun cc => absurd (by decide +kernel) cc)
    refine lv_aload_n hx hb dX10_keeps_14 rfl (lv_at hl 1 rfl) ?_
    refine tz_get (ci := 7) (v := .ref h4) (C := RX10) (F := TX10) (N := 17) hx hb hU iX10 hown hK hT 7 rfl rfl 4 (by decide) w253 (fun _ h9 => h9) rfl dX10_keeps_15 ?_
    refine lv_iload_n hx hb dX10_keeps_18 rfl (lv_at hl 2 rfl) ?_
    have hq146 : x1.toInt = 0 := by omega
    refine tz_aldq (b := h17) hx hb hK hT 9 rfl (vp_in_iff.mpr (by have := hq146; omega)) (fun f hf => by rw [cl_of hq146]; exact hf.1) dX10_keeps_19 ?_
    refine tz_get (ci := 5) (v := .ref h37) (C := RX6) (F := TX6) (N := 3) hx hb hU iX6 hown hK hT 10 rfl rfl 2 (by decide) w241 (fun _ h9 => h9) rfl dX10_keeps_20 ?_
    refine lv_iload_n hx hb dX10_keeps_23 rfl (lv_at hl 3 rfl) ?_
    refine lv_aload_n hx hb dX10_keeps_24 rfl (lv_at hl 1 rfl) ?_
    refine tz_get (ci := 7) (v := .ref h11) (C := RX10) (F := TX10) (N := 17) hx hb hU iX10 hown hK hT 7 rfl rfl 15 (by decide) w264 (fun _ h9 => h9) rfl dX10_keeps_25 ?_
    refine lv_iconst (v := 0) hx hb dX10_keeps_28 (by decide) ?_
    refine lv_aload_n hx hb dX10_keeps_29 rfl (lv_at hl 1 rfl) ?_
    refine tz_get (ci := 7) (v := .ref h1) (C := RX10) (F := TX10) (N := 17) hx hb hU iX10 hown hK hT 7 rfl rfl 0 (by decide) w249 (fun _ h9 => h9) rfl dX10_keeps_30 ?_
    refine tcI (Tc := [(h1, ob 4 [.int h1f0, .int h1f1, .int h1f2, .ref h13])]) (Tr := [(h11, aJ (k 1) 9 anJ), (h12, aJ (k 1) 9 anJ), (h13, aJ (k 1) 36 anJ), (h37, aJ (k 1) 40 anJ), (h38, aJ (k 1) 40 anJ), (h39, aJ (k 1) 40 anJ), (h40, aJ (k 1) 40 anJ), (h0, ob 7 [.ref h1, .ref h2, .int h0f2, .ref h3, .ref h4, .ref h5, .int h0f6, .ref h6, .int h0f8, .null, .ref h7, .int h0f11, .ref h8, .ref h9, .ref h10, .ref h11, .ref h12]), (h4, aQ (k 3) 4 (q4 h17 h18 h19 h20)), (h17, ob 5 [.int h17f0, .int h17f1, .ref h37]), (h18, ob 5 [.int h18f0, .int h18f1, .ref h38]), (h19, ob 5 [.int h19f0, .int h19f1, .ref h39]), (h20, ob 5 [.int h20f0, .int h20f1, .ref h40])]) (as := [h1]) (zcV (q0 := 8) (ci := 4) (As := []) (rest := [.int 0, .ref h11, .int x2, .ref h37]) (Tc := [(h1, ob 4 [.int h1f0, .int h1f1, .int h1f2, .ref h13])]) hx hb hml hown hU hK hT rfl rfl [8] rfl (by decide) (cX5_cellCount_f3983 l D k _ h1 h13 h1f0 h1f1 h1f2 (by omega) (by omega)) w385 w382 w383 w384 w64 hdX5_cellCount ⟨rfl, rfl⟩ ⟨Nat.le_of_ble_eq_true rfl, Nat.le_of_ble_eq_true rfl⟩ rfl hl.1 (Nat.le_of_ble_eq_true rfl) dX10_keeps_33 ⟨Nat.le_of_ble_eq_true rfl, Nat.le_of_ble_eq_true rfl⟩) hT hS hA [8] [0, 1, 2, 3, 4, 5, 6, 7, 9, 10, 11, 12, 13] rfl rfl rfl (by decide) (by decide) (fun r147 H locs hB J hS => ?_)
    rcases hB with ⟨v148, b_v148, c_149, c_150, rfl, hT1⟩ | ⟨v151, b_v151, c_152, c_153, rfl, hT1⟩ | ⟨v154, b_v154, c_155, c_156, rfl, hT1⟩
    · skip
      have hT := J _ hT1
      have hT : TP D A [(h11, aJ (k 1) 9 anJ), (h12, aJ (k 1) 9 anJ), (h13, aJ (k 1) 36 anJ), (h37, aJ (k 1) 40 anJ), (h38, aJ (k 1) 40 anJ), (h39, aJ (k 1) 40 anJ), (h40, aJ (k 1) 40 anJ), (h0, ob 7 [.ref h1, .ref h2, .int h0f2, .ref h3, .ref h4, .ref h5, .int h0f6, .ref h6, .int h0f8, .null, .ref h7, .int h0f11, .ref h8, .ref h9, .ref h10, .ref h11, .ref h12]), (h4, aQ (k 3) 4 (q4 h17 h18 h19 h20)), (h17, ob 5 [.int h17f0, .int h17f1, .ref h37]), (h18, ob 5 [.int h18f0, .int h18f1, .ref h38]), (h19, ob 5 [.int h19f0, .int h19f1, .ref h39]), (h20, ob 5 [.int h20f0, .int h20f1, .ref h40]), (h1, ob 4 [.int h1f0, .int h1f1, .int h1f2, .ref h13])] _ := hT
      refine tz_copyl hx hb (by rw [hml]; exact hl.1.symm) hown hU w410 w348 w347 w75 hK hT hS 3 0 rfl rfl (by have := li_0; omega) (fun _ _ _ _ => trivial) (Nat.le_of_ble_eq_true rfl) (Nat.le_of_ble_eq_true rfl) dX10_keeps_36 (fun H locs hT hS => ?_)
      refine lv_aload_n hx hb dX10_keeps_39 rfl (lv_at hl 1 rfl) ?_
      refine tz_get (ci := 7) (v := .ref h11) (C := RX10) (F := TX10) (N := 17) hx hb hU iX10 hown hK hT 7 rfl rfl 15 (by decide) w264 (fun _ h9 => h9) rfl dX10_keeps_40 ?_
      refine lv_aload_n hx hb dX10_keeps_43 rfl (lv_at hl 1 rfl) ?_
      refine tz_get (ci := 7) (v := .ref h1) (C := RX10) (F := TX10) (N := 17) hx hb hU iX10 hown hK hT 7 rfl rfl 0 (by decide) w249 (fun _ h9 => h9) rfl dX10_keeps_44 ?_
      refine tcI (Tc := [(h1, ob 4 [.int h1f0, .int h1f1, .int h1f2, .ref h13])]) (Tr := [(h11, aJ (k 1) 9 anJ), (h12, aJ (k 1) 9 anJ), (h13, aJ (k 1) 36 anJ), (h37, aJ (k 1) 40 anJ), (h38, aJ (k 1) 40 anJ), (h39, aJ (k 1) 40 anJ), (h40, aJ (k 1) 40 anJ), (h0, ob 7 [.ref h1, .ref h2, .int h0f2, .ref h3, .ref h4, .ref h5, .int h0f6, .ref h6, .int h0f8, .null, .ref h7, .int h0f11, .ref h8, .ref h9, .ref h10, .ref h11, .ref h12]), (h4, aQ (k 3) 4 (q4 h17 h18 h19 h20)), (h17, ob 5 [.int h17f0, .int h17f1, .ref h37]), (h18, ob 5 [.int h18f0, .int h18f1, .ref h38]), (h19, ob 5 [.int h19f0, .int h19f1, .ref h39]), (h20, ob 5 [.int h20f0, .int h20f1, .ref h40])]) (as := [h1]) (zcV (q0 := 13) (ci := 4) (As := []) (rest := [.ref h11]) (Tc := [(h1, ob 4 [.int h1f0, .int h1f1, .int h1f2, .ref h13])]) hx hb hml hown hU hK hT rfl rfl [13] rfl (by decide) (cX5_cellCount_f3983 l D k _ h1 h13 h1f0 h1f1 h1f2 (by omega) (by omega)) w385 w382 w383 w384 w64 hdX5_cellCount ⟨rfl, rfl⟩ ⟨Nat.le_of_ble_eq_true rfl, Nat.le_of_ble_eq_true rfl⟩ rfl hl.1 (Nat.le_of_ble_eq_true rfl) dX10_keeps_47 ⟨Nat.le_of_ble_eq_true rfl, Nat.le_of_ble_eq_true rfl⟩) hT hS hA [13] [0, 1, 2, 3, 4, 5, 6, 7, 8, 9, 10, 11, 12] rfl rfl rfl (by decide) (by decide) (fun r157 H locs hB J hS => ?_)
      rcases hB with ⟨v158, b_v158, c_159, c_160, rfl, hT1⟩ | ⟨v161, b_v161, c_162, c_163, rfl, hT1⟩ | ⟨v164, b_v164, c_165, c_166, rfl, hT1⟩
      · skip
        have hT := J _ hT1
        have hT : TP D A [(h11, aJ (k 1) 9 anJ), (h12, aJ (k 1) 9 anJ), (h13, aJ (k 1) 36 anJ), (h37, aJ (k 1) 40 anJ), (h38, aJ (k 1) 40 anJ), (h39, aJ (k 1) 40 anJ), (h40, aJ (k 1) 40 anJ), (h0, ob 7 [.ref h1, .ref h2, .int h0f2, .ref h3, .ref h4, .ref h5, .int h0f6, .ref h6, .int h0f8, .null, .ref h7, .int h0f11, .ref h8, .ref h9, .ref h10, .ref h11, .ref h12]), (h4, aQ (k 3) 4 (q4 h17 h18 h19 h20)), (h17, ob 5 [.int h17f0, .int h17f1, .ref h37]), (h18, ob 5 [.int h18f0, .int h18f1, .ref h38]), (h19, ob 5 [.int h19f0, .int h19f1, .ref h39]), (h20, ob 5 [.int h20f0, .int h20f1, .ref h40]), (h1, ob 4 [.int h1f0, .int h1f1, .int h1f2, .ref h13])] _ := hT
        refine lv_ldc2 hx hb hown (hU _ w649) dX10_keeps_50 ?_
        have q_q168 := ll_1000000
        refine tcI (Tc := [(h11, aJ (k 1) 9 anJ)]) (Tr := [(h12, aJ (k 1) 9 anJ), (h13, aJ (k 1) 36 anJ), (h37, aJ (k 1) 40 anJ), (h38, aJ (k 1) 40 anJ), (h39, aJ (k 1) 40 anJ), (h40, aJ (k 1) 40 anJ), (h0, ob 7 [.ref h1, .ref h2, .int h0f2, .ref h3, .ref h4, .ref h5, .int h0f6, .ref h6, .int h0f8, .null, .ref h7, .int h0f11, .ref h8, .ref h9, .ref h10, .ref h11, .ref h12]), (h4, aQ (k 3) 4 (q4 h17 h18 h19 h20)), (h17, ob 5 [.int h17f0, .int h17f1, .ref h37]), (h18, ob 5 [.int h18f0, .int h18f1, .ref h38]), (h19, ob 5 [.int h19f0, .int h19f1, .ref h39]), (h20, ob 5 [.int h20f0, .int h20f1, .ref h40]), (h1, ob 4 [.int h1f0, .int h1f1, .int h1f2, .ref h13])]) (as := [h11]) (zcS (As := [.ref h11, .int v158, .long 1000000]) (rest := []) (Tc := [(h11, aJ (k 1) 9 anJ)]) hx hb hml hown hU hK hT [0] rfl (by decide) (cX7_isWithin_443ab l D k _ h11 v158 (1000000) (by omega) (by have := ll_1000000; omega)) w389 w387 w388 w74 hdX7_isWithin ⟨rfl, rfl⟩ ⟨Nat.le_of_ble_eq_true rfl, Nat.le_of_ble_eq_true rfl⟩ rfl hl.1 (Nat.le_of_ble_eq_true rfl) dX10_keeps_53 ⟨Nat.le_of_ble_eq_true rfl, Nat.le_of_ble_eq_true rfl⟩) hT hS hA [0] [1, 2, 3, 4, 5, 6, 7, 8, 9, 10, 11, 12, 13] rfl rfl rfl (by decide) (by decide) (fun r167 H locs hB J hS => ?_)
        obtain ⟨b_r167, hT1⟩ := hB
        have hT := J _ hT1
        have hT : TP D A [(h12, aJ (k 1) 9 anJ), (h13, aJ (k 1) 36 anJ), (h37, aJ (k 1) 40 anJ), (h38, aJ (k 1) 40 anJ), (h39, aJ (k 1) 40 anJ), (h40, aJ (k 1) 40 anJ), (h0, ob 7 [.ref h1, .ref h2, .int h0f2, .ref h3, .ref h4, .ref h5, .int h0f6, .ref h6, .int h0f8, .null, .ref h7, .int h0f11, .ref h8, .ref h9, .ref h10, .ref h11, .ref h12]), (h4, aQ (k 3) 4 (q4 h17 h18 h19 h20)), (h17, ob 5 [.int h17f0, .int h17f1, .ref h37]), (h18, ob 5 [.int h18f0, .int h18f1, .ref h38]), (h19, ob 5 [.int h19f0, .int h19f1, .ref h39]), (h20, ob 5 [.int h20f0, .int h20f1, .ref h40]), (h1, ob 4 [.int h1f0, .int h1f1, .int h1f2, .ref h13]), (h11, aJ (k 1) 9 anJ)] _ := hT
        refine lv_if_ne (tgt := 62) hx hb dX10_keeps_56 (by decide) (fun c_169 => ?_) (fun c_169 => ?_)
        · skip
          have c_169 := ni_ne c_169 rfl li_0
          refine lv_aload_n hx hb dX10_keeps_62 rfl (lv_at hl 1 rfl) ?_
          refine tcI (Tc := [(h0, ob 7 [.ref h1, .ref h2, .int h0f2, .ref h3, .ref h4, .ref h5, .int h0f6, .ref h6, .int h0f8, .null, .ref h7, .int h0f11, .ref h8, .ref h9, .ref h10, .ref h11, .ref h12]), (h1, ob 4 [.int h1f0, .int h1f1, .int h1f2, .ref h13]), (h11, aJ (k 1) 9 anJ), (h12, aJ (k 1) 9 anJ)]) (Tr := [(h13, aJ (k 1) 36 anJ), (h37, aJ (k 1) 40 anJ), (h38, aJ (k 1) 40 anJ), (h39, aJ (k 1) 40 anJ), (h40, aJ (k 1) 40 anJ), (h4, aQ (k 3) 4 (q4 h17 h18 h19 h20)), (h17, ob 5 [.int h17f0, .int h17f1, .ref h37]), (h18, ob 5 [.int h18f0, .int h18f1, .ref h38]), (h19, ob 5 [.int h19f0, .int h19f1, .ref h39]), (h20, ob 5 [.int h20f0, .int h20f1, .ref h40])]) (as := [h0, h1, h11, h12]) (zcV (q0 := 6) (ci := 7) (As := []) (rest := []) (Tc := [(h0, ob 7 [.ref h1, .ref h2, .int h0f2, .ref h3, .ref h4, .ref h5, .int h0f6, .ref h6, .int h0f8, .null, .ref h7, .int h0f11, .ref h8, .ref h9, .ref h10, .ref h11, .ref h12]), (h1, ob 4 [.int h1f0, .int h1f1, .int h1f2, .ref h13]), (h11, aJ (k 1) 9 anJ), (h12, aJ (k 1) 9 anJ)]) hx hb hml hown hU hK hT rfl rfl [6, 12, 13, 0] rfl (by decide) (cX10_isPositiveForm_92f38 l D k _ h0 h1 h11 h12 h2 h3 h4 h5 h6 h7 h8 h9 h10 h13 h0f2 h0f6 h0f8 h0f11 h1f0 h1f1 h1f2 (by omega) (by omega) (by omega) (by omega) (by omega) (by omega)) w653 w650 w652 w19 w63 hdX10_isPositiveForm ⟨rfl, rfl⟩ ⟨Nat.le_of_ble_eq_true rfl, Nat.le_of_ble_eq_true rfl⟩ rfl hl.1 (Nat.le_of_ble_eq_true rfl) dX10_keeps_63 ⟨Nat.le_of_ble_eq_true rfl, Nat.le_of_ble_eq_true rfl⟩) hT hS hA [6, 12, 13, 0] [1, 2, 3, 4, 5, 7, 8, 9, 10, 11] rfl rfl rfl (by decide) (by decide) (fun r170 H locs hB J hS => ?_)
          obtain ⟨b_r170, hT1⟩ := hB
          have hT := J _ hT1
          have hT : TP D A [(h13, aJ (k 1) 36 anJ), (h37, aJ (k 1) 40 anJ), (h38, aJ (k 1) 40 anJ), (h39, aJ (k 1) 40 anJ), (h40, aJ (k 1) 40 anJ), (h4, aQ (k 3) 4 (q4 h17 h18 h19 h20)), (h17, ob 5 [.int h17f0, .int h17f1, .ref h37]), (h18, ob 5 [.int h18f0, .int h18f1, .ref h38]), (h19, ob 5 [.int h19f0, .int h19f1, .ref h39]), (h20, ob 5 [.int h20f0, .int h20f1, .ref h40]), (h0, ob 7 [.ref h1, .ref h2, .int h0f2, .ref h3, .ref h4, .ref h5, .int h0f6, .ref h6, .int h0f8, .null, .ref h7, .int h0f11, .ref h8, .ref h9, .ref h10, .ref h11, .ref h12]), (h1, ob 4 [.int h1f0, .int h1f1, .int h1f2, .ref h13]), (h11, aJ (k 1) 9 anJ), (h12, aJ (k 1) 9 anJ)] _ := hT
          refine lv_if_eq (tgt := 80) hx hb dX10_keeps_66 (by decide) (fun c_171 => ?_) (fun c_171 => ?_)
          · skip
            have c_171 := ni_eq c_171 rfl li_0
            refine lv_iconst (v := 0) hx hb dX10_keeps_80 (by decide) ?_
            exact tz_retI (B := B_cX10_keeps_deb30 D k h0 h1 h4 h11 h12 h13 h17 h18 h19 h20 h37 h38 h39 h40 h2 h3 h5 h6 h7 h8 h9 h10 x1 x2 h0f2 h0f6 h0f8 h0f11 h1f0 h1f1 h1f2 h17f0 h17f1 h18f0 h18f1 h19f0 h19f1 h20f0 h20f1) (v := 0) hQ hx hb hr hlocks hS (Nat.le_of_ble_eq_true rfl) (Nat.le_of_ble_eq_true rfl) dX10_keeps_81 (⟨(by have := li_0; omega), (hT.sub [10, 11, 5, 12, 13, 0, 6, 7, 8, 9, 1, 2, 3, 4] (by decide) rfl)⟩)
          · skip
            have c_171 := ni_ne c_171 rfl li_0
            refine lv_aload_n hx hb dX10_keeps_69 rfl (lv_at hl 1 rfl) ?_
            refine tcI (Tc := [(h0, ob 7 [.ref h1, .ref h2, .int h0f2, .ref h3, .ref h4, .ref h5, .int h0f6, .ref h6, .int h0f8, .null, .ref h7, .int h0f11, .ref h8, .ref h9, .ref h10, .ref h11, .ref h12]), (h1, ob 4 [.int h1f0, .int h1f1, .int h1f2, .ref h13]), (h11, aJ (k 1) 9 anJ), (h12, aJ (k 1) 9 anJ), (h13, aJ (k 1) 36 anJ)]) (Tr := [(h37, aJ (k 1) 40 anJ), (h38, aJ (k 1) 40 anJ), (h39, aJ (k 1) 40 anJ), (h40, aJ (k 1) 40 anJ), (h4, aQ (k 3) 4 (q4 h17 h18 h19 h20)), (h17, ob 5 [.int h17f0, .int h17f1, .ref h37]), (h18, ob 5 [.int h18f0, .int h18f1, .ref h38]), (h19, ob 5 [.int h19f0, .int h19f1, .ref h39]), (h20, ob 5 [.int h20f0, .int h20f1, .ref h40])]) (as := [h0, h1, h11, h12, h13]) (zcV (q0 := 10) (ci := 7) (As := []) (rest := []) (Tc := [(h0, ob 7 [.ref h1, .ref h2, .int h0f2, .ref h3, .ref h4, .ref h5, .int h0f6, .ref h6, .int h0f8, .null, .ref h7, .int h0f11, .ref h8, .ref h9, .ref h10, .ref h11, .ref h12]), (h1, ob 4 [.int h1f0, .int h1f1, .int h1f2, .ref h13]), (h11, aJ (k 1) 9 anJ), (h12, aJ (k 1) 9 anJ), (h13, aJ (k 1) 36 anJ)]) hx hb hml hown hU hK hT rfl rfl [10, 11, 12, 13, 0] rfl (by decide) (cX10_noGeneratorChangesForm_52b64 l D k _ h0 h1 h11 h12 h13 h2 h3 h4 h5 h6 h7 h8 h9 h10 h0f2 h0f6 h0f8 h0f11 h1f0 h1f1 h1f2 (by omega) (by omega) (by omega) (by omega) (by omega) (by omega)) w657 w654 w656 w20 w63 hdX10_noGeneratorChangesForm ⟨rfl, rfl⟩ ⟨Nat.le_of_ble_eq_true rfl, Nat.le_of_ble_eq_true rfl⟩ rfl hl.1 (Nat.le_of_ble_eq_true rfl) dX10_keeps_70 ⟨Nat.le_of_ble_eq_true rfl, Nat.le_of_ble_eq_true rfl⟩) hT hS hA [10, 11, 12, 13, 0] [1, 2, 3, 4, 5, 6, 7, 8, 9] rfl rfl rfl (by decide) (by decide) (fun r172 H locs hB J hS => ?_)
            obtain ⟨b_r172, hT1⟩ := hB
            have hT := J _ hT1
            have hT : TP D A [(h37, aJ (k 1) 40 anJ), (h38, aJ (k 1) 40 anJ), (h39, aJ (k 1) 40 anJ), (h40, aJ (k 1) 40 anJ), (h4, aQ (k 3) 4 (q4 h17 h18 h19 h20)), (h17, ob 5 [.int h17f0, .int h17f1, .ref h37]), (h18, ob 5 [.int h18f0, .int h18f1, .ref h38]), (h19, ob 5 [.int h19f0, .int h19f1, .ref h39]), (h20, ob 5 [.int h20f0, .int h20f1, .ref h40]), (h0, ob 7 [.ref h1, .ref h2, .int h0f2, .ref h3, .ref h4, .ref h5, .int h0f6, .ref h6, .int h0f8, .null, .ref h7, .int h0f11, .ref h8, .ref h9, .ref h10, .ref h11, .ref h12]), (h1, ob 4 [.int h1f0, .int h1f1, .int h1f2, .ref h13]), (h11, aJ (k 1) 9 anJ), (h12, aJ (k 1) 9 anJ), (h13, aJ (k 1) 36 anJ)] _ := hT
            refine lv_if_eq (tgt := 80) hx hb dX10_keeps_73 (by decide) (fun c_173 => ?_) (fun c_173 => ?_)
            · skip
              have c_173 := ni_eq c_173 rfl li_0
              refine lv_iconst (v := 0) hx hb dX10_keeps_80 (by decide) ?_
              exact tz_retI (B := B_cX10_keeps_deb30 D k h0 h1 h4 h11 h12 h13 h17 h18 h19 h20 h37 h38 h39 h40 h2 h3 h5 h6 h7 h8 h9 h10 x1 x2 h0f2 h0f6 h0f8 h0f11 h1f0 h1f1 h1f2 h17f0 h17f1 h18f0 h18f1 h19f0 h19f1 h20f0 h20f1) (v := 0) hQ hx hb hr hlocks hS (Nat.le_of_ble_eq_true rfl) (Nat.le_of_ble_eq_true rfl) dX10_keeps_81 (⟨(by have := li_0; omega), (hT.sub [9, 10, 4, 11, 12, 13, 5, 6, 7, 8, 0, 1, 2, 3] (by decide) rfl)⟩)
            · skip
              have c_173 := ni_ne c_173 rfl li_0
              refine lv_iconst (v := 1) hx hb dX10_keeps_76 (by decide) ?_
              refine lv_goto (tgt := 81) hx hb dX10_keeps_77 (by decide) ?_
              exact tz_retI (B := B_cX10_keeps_deb30 D k h0 h1 h4 h11 h12 h13 h17 h18 h19 h20 h37 h38 h39 h40 h2 h3 h5 h6 h7 h8 h9 h10 x1 x2 h0f2 h0f6 h0f8 h0f11 h1f0 h1f1 h1f2 h17f0 h17f1 h18f0 h18f1 h19f0 h19f1 h20f0 h20f1) (v := 1) hQ hx hb hr hlocks hS (Nat.le_of_ble_eq_true rfl) (Nat.le_of_ble_eq_true rfl) dX10_keeps_81 (⟨(by have := li_1; omega), (hT.sub [9, 10, 4, 11, 12, 13, 5, 6, 7, 8, 0, 1, 2, 3] (by decide) rfl)⟩)
        · skip
          have c_169 := ni_eq c_169 rfl li_0
          refine lv_bipush (v := (-16)) hx hb dX10_keeps_59 (by decide) ?_
          exact tz_retI (B := B_cX10_keeps_deb30 D k h0 h1 h4 h11 h12 h13 h17 h18 h19 h20 h37 h38 h39 h40 h2 h3 h5 h6 h7 h8 h9 h10 x1 x2 h0f2 h0f6 h0f8 h0f11 h1f0 h1f1 h1f2 h17f0 h17f1 h18f0 h18f1 h19f0 h19f1 h20f0 h20f1) (v := (-16)) hQ hx hb hr hlocks hS (Nat.le_of_ble_eq_true rfl) (Nat.le_of_ble_eq_true rfl) dX10_keeps_61 (⟨(by have := li_m16; omega), (hT.sub [6, 12, 7, 13, 0, 1, 8, 9, 10, 11, 2, 3, 4, 5] (by decide) rfl)⟩)
      · skip
        have hT := J _ hT1
        have hT : TP D A [(h11, aJ (k 1) 9 anJ), (h12, aJ (k 1) 9 anJ), (h13, aJ (k 1) 36 anJ), (h37, aJ (k 1) 40 anJ), (h38, aJ (k 1) 40 anJ), (h39, aJ (k 1) 40 anJ), (h40, aJ (k 1) 40 anJ), (h0, ob 7 [.ref h1, .ref h2, .int h0f2, .ref h3, .ref h4, .ref h5, .int h0f6, .ref h6, .int h0f8, .null, .ref h7, .int h0f11, .ref h8, .ref h9, .ref h10, .ref h11, .ref h12]), (h4, aQ (k 3) 4 (q4 h17 h18 h19 h20)), (h17, ob 5 [.int h17f0, .int h17f1, .ref h37]), (h18, ob 5 [.int h18f0, .int h18f1, .ref h38]), (h19, ob 5 [.int h19f0, .int h19f1, .ref h39]), (h20, ob 5 [.int h20f0, .int h20f1, .ref h40]), (h1, ob 4 [.int h1f0, .int h1f1, .int h1f2, .ref h13])] _ := hT
        exfalso; omega
      · skip
        have hT := J _ hT1
        have hT : TP D A [(h11, aJ (k 1) 9 anJ), (h12, aJ (k 1) 9 anJ), (h13, aJ (k 1) 36 anJ), (h37, aJ (k 1) 40 anJ), (h38, aJ (k 1) 40 anJ), (h39, aJ (k 1) 40 anJ), (h40, aJ (k 1) 40 anJ), (h0, ob 7 [.ref h1, .ref h2, .int h0f2, .ref h3, .ref h4, .ref h5, .int h0f6, .ref h6, .int h0f8, .null, .ref h7, .int h0f11, .ref h8, .ref h9, .ref h10, .ref h11, .ref h12]), (h4, aQ (k 3) 4 (q4 h17 h18 h19 h20)), (h17, ob 5 [.int h17f0, .int h17f1, .ref h37]), (h18, ob 5 [.int h18f0, .int h18f1, .ref h38]), (h19, ob 5 [.int h19f0, .int h19f1, .ref h39]), (h20, ob 5 [.int h20f0, .int h20f1, .ref h40]), (h1, ob 4 [.int h1f0, .int h1f1, .int h1f2, .ref h13])] _ := hT
        exfalso; omega
    · skip
      have hT := J _ hT1
      have hT : TP D A [(h11, aJ (k 1) 9 anJ), (h12, aJ (k 1) 9 anJ), (h13, aJ (k 1) 36 anJ), (h37, aJ (k 1) 40 anJ), (h38, aJ (k 1) 40 anJ), (h39, aJ (k 1) 40 anJ), (h40, aJ (k 1) 40 anJ), (h0, ob 7 [.ref h1, .ref h2, .int h0f2, .ref h3, .ref h4, .ref h5, .int h0f6, .ref h6, .int h0f8, .null, .ref h7, .int h0f11, .ref h8, .ref h9, .ref h10, .ref h11, .ref h12]), (h4, aQ (k 3) 4 (q4 h17 h18 h19 h20)), (h17, ob 5 [.int h17f0, .int h17f1, .ref h37]), (h18, ob 5 [.int h18f0, .int h18f1, .ref h38]), (h19, ob 5 [.int h19f0, .int h19f1, .ref h39]), (h20, ob 5 [.int h20f0, .int h20f1, .ref h40]), (h1, ob 4 [.int h1f0, .int h1f1, .int h1f2, .ref h13])] _ := hT
      exfalso; omega
    · skip
      have hT := J _ hT1
      have hT : TP D A [(h11, aJ (k 1) 9 anJ), (h12, aJ (k 1) 9 anJ), (h13, aJ (k 1) 36 anJ), (h37, aJ (k 1) 40 anJ), (h38, aJ (k 1) 40 anJ), (h39, aJ (k 1) 40 anJ), (h40, aJ (k 1) 40 anJ), (h0, ob 7 [.ref h1, .ref h2, .int h0f2, .ref h3, .ref h4, .ref h5, .int h0f6, .ref h6, .int h0f8, .null, .ref h7, .int h0f11, .ref h8, .ref h9, .ref h10, .ref h11, .ref h12]), (h4, aQ (k 3) 4 (q4 h17 h18 h19 h20)), (h17, ob 5 [.int h17f0, .int h17f1, .ref h37]), (h18, ob 5 [.int h18f0, .int h18f1, .ref h38]), (h19, ob 5 [.int h19f0, .int h19f1, .ref h39]), (h20, ob 5 [.int h20f0, .int h20f1, .ref h40]), (h1, ob 4 [.int h1f0, .int h1f1, .int h1f2, .ref h13])] _ := hT
      exfalso; omega
  · skip
    have hT := J _ hT1
    have hT : TP D A [(h11, aJ (k 1) 9 anJ), (h12, aJ (k 1) 9 anJ), (h13, aJ (k 1) 36 anJ), (h37, aJ (k 1) 40 anJ), (h38, aJ (k 1) 40 anJ), (h39, aJ (k 1) 40 anJ), (h40, aJ (k 1) 40 anJ), (h0, ob 7 [.ref h1, .ref h2, .int h0f2, .ref h3, .ref h4, .ref h5, .int h0f6, .ref h6, .int h0f8, .null, .ref h7, .int h0f11, .ref h8, .ref h9, .ref h10, .ref h11, .ref h12]), (h1, ob 4 [.int h1f0, .int h1f1, .int h1f2, .ref h13]), (h4, aQ (k 3) 4 (q4 h17 h18 h19 h20)), (h17, ob 5 [.int h17f0, .int h17f1, .ref h37]), (h18, ob 5 [.int h18f0, .int h18f1, .ref h38]), (h19, ob 5 [.int h19f0, .int h19f1, .ref h39]), (h20, ob 5 [.int h20f0, .int h20f1, .ref h40])] _ := hT
    refine lv_istore_n (lv' := [(3, .int 0), (0, .ref h0), (1, .int x1), (2, .int x2)]) hx hb dX10_keeps_7 rfl hl (by decide) rfl (fun ls hl => ?_)
    refine lv_iload_n hx hb dX10_keeps_8 rfl (lv_at hl 0 rfl) ?_
    refine lv_if_eq (tgt := 14) hx hb dX10_keeps_9 (by decide) (fun _ => ?_) (fun cc => absurd (by decide +kernel) cc)
    refine lv_aload_n hx hb dX10_keeps_14 rfl (lv_at hl 1 rfl) ?_
    refine tz_get (ci := 7) (v := .ref h4) (C := RX10) (F := TX10) (N := 17) hx hb hU iX10 hown hK hT 7 rfl rfl 4 (by decide) w253 (fun _ h9 => h9) rfl dX10_keeps_15 ?_
    refine lv_iload_n hx hb dX10_keeps_18 rfl (lv_at hl 2 rfl) ?_
    have hq174 : x1.toInt = 0 := by omega
    refine tz_aldq (b := h17) hx hb hK hT 9 rfl (vp_in_iff.mpr (by have := hq174; omega)) (fun f hf => by rw [cl_of hq174]; exact hf.1) dX10_keeps_19 ?_
    refine tz_get (ci := 5) (v := .ref h37) (C := RX6) (F := TX6) (N := 3) hx hb hU iX6 hown hK hT 10 rfl rfl 2 (by decide) w241 (fun _ h9 => h9) rfl dX10_keeps_20 ?_
    refine lv_iload_n hx hb dX10_keeps_23 rfl (lv_at hl 3 rfl) ?_
    refine lv_aload_n hx hb dX10_keeps_24 rfl (lv_at hl 1 rfl) ?_
    refine tz_get (ci := 7) (v := .ref h11) (C := RX10) (F := TX10) (N := 17) hx hb hU iX10 hown hK hT 7 rfl rfl 15 (by decide) w264 (fun _ h9 => h9) rfl dX10_keeps_25 ?_
    refine lv_iconst (v := 0) hx hb dX10_keeps_28 (by decide) ?_
    refine lv_aload_n hx hb dX10_keeps_29 rfl (lv_at hl 1 rfl) ?_
    refine tz_get (ci := 7) (v := .ref h1) (C := RX10) (F := TX10) (N := 17) hx hb hU iX10 hown hK hT 7 rfl rfl 0 (by decide) w249 (fun _ h9 => h9) rfl dX10_keeps_30 ?_
    refine tcI (Tc := [(h1, ob 4 [.int h1f0, .int h1f1, .int h1f2, .ref h13])]) (Tr := [(h11, aJ (k 1) 9 anJ), (h12, aJ (k 1) 9 anJ), (h13, aJ (k 1) 36 anJ), (h37, aJ (k 1) 40 anJ), (h38, aJ (k 1) 40 anJ), (h39, aJ (k 1) 40 anJ), (h40, aJ (k 1) 40 anJ), (h0, ob 7 [.ref h1, .ref h2, .int h0f2, .ref h3, .ref h4, .ref h5, .int h0f6, .ref h6, .int h0f8, .null, .ref h7, .int h0f11, .ref h8, .ref h9, .ref h10, .ref h11, .ref h12]), (h4, aQ (k 3) 4 (q4 h17 h18 h19 h20)), (h17, ob 5 [.int h17f0, .int h17f1, .ref h37]), (h18, ob 5 [.int h18f0, .int h18f1, .ref h38]), (h19, ob 5 [.int h19f0, .int h19f1, .ref h39]), (h20, ob 5 [.int h20f0, .int h20f1, .ref h40])]) (as := [h1]) (zcV (q0 := 8) (ci := 4) (As := []) (rest := [.int 0, .ref h11, .int x2, .ref h37]) (Tc := [(h1, ob 4 [.int h1f0, .int h1f1, .int h1f2, .ref h13])]) hx hb hml hown hU hK hT rfl rfl [8] rfl (by decide) (cX5_cellCount_f3983 l D k _ h1 h13 h1f0 h1f1 h1f2 (by omega) (by omega)) w385 w382 w383 w384 w64 hdX5_cellCount ⟨rfl, rfl⟩ ⟨Nat.le_of_ble_eq_true rfl, Nat.le_of_ble_eq_true rfl⟩ rfl hl.1 (Nat.le_of_ble_eq_true rfl) dX10_keeps_33 ⟨Nat.le_of_ble_eq_true rfl, Nat.le_of_ble_eq_true rfl⟩) hT hS hA [8] [0, 1, 2, 3, 4, 5, 6, 7, 9, 10, 11, 12, 13] rfl rfl rfl (by decide) (by decide) (fun r175 H locs hB J hS => ?_)
    rcases hB with ⟨v176, b_v176, c_177, c_178, rfl, hT1⟩ | ⟨v179, b_v179, c_180, c_181, rfl, hT1⟩ | ⟨v182, b_v182, c_183, c_184, rfl, hT1⟩
    · skip
      have hT := J _ hT1
      have hT : TP D A [(h11, aJ (k 1) 9 anJ), (h12, aJ (k 1) 9 anJ), (h13, aJ (k 1) 36 anJ), (h37, aJ (k 1) 40 anJ), (h38, aJ (k 1) 40 anJ), (h39, aJ (k 1) 40 anJ), (h40, aJ (k 1) 40 anJ), (h0, ob 7 [.ref h1, .ref h2, .int h0f2, .ref h3, .ref h4, .ref h5, .int h0f6, .ref h6, .int h0f8, .null, .ref h7, .int h0f11, .ref h8, .ref h9, .ref h10, .ref h11, .ref h12]), (h4, aQ (k 3) 4 (q4 h17 h18 h19 h20)), (h17, ob 5 [.int h17f0, .int h17f1, .ref h37]), (h18, ob 5 [.int h18f0, .int h18f1, .ref h38]), (h19, ob 5 [.int h19f0, .int h19f1, .ref h39]), (h20, ob 5 [.int h20f0, .int h20f1, .ref h40]), (h1, ob 4 [.int h1f0, .int h1f1, .int h1f2, .ref h13])] _ := hT
      exfalso; omega
    · skip
      have hT := J _ hT1
      have hT : TP D A [(h11, aJ (k 1) 9 anJ), (h12, aJ (k 1) 9 anJ), (h13, aJ (k 1) 36 anJ), (h37, aJ (k 1) 40 anJ), (h38, aJ (k 1) 40 anJ), (h39, aJ (k 1) 40 anJ), (h40, aJ (k 1) 40 anJ), (h0, ob 7 [.ref h1, .ref h2, .int h0f2, .ref h3, .ref h4, .ref h5, .int h0f6, .ref h6, .int h0f8, .null, .ref h7, .int h0f11, .ref h8, .ref h9, .ref h10, .ref h11, .ref h12]), (h4, aQ (k 3) 4 (q4 h17 h18 h19 h20)), (h17, ob 5 [.int h17f0, .int h17f1, .ref h37]), (h18, ob 5 [.int h18f0, .int h18f1, .ref h38]), (h19, ob 5 [.int h19f0, .int h19f1, .ref h39]), (h20, ob 5 [.int h20f0, .int h20f1, .ref h40]), (h1, ob 4 [.int h1f0, .int h1f1, .int h1f2, .ref h13])] _ := hT
      refine tz_copyl hx hb (by rw [hml]; exact hl.1.symm) hown hU w410 w348 w347 w75 hK hT hS 3 0 rfl rfl (by have := li_0; omega) (fun _ _ _ _ => trivial) (Nat.le_of_ble_eq_true rfl) (Nat.le_of_ble_eq_true rfl) dX10_keeps_36 (fun H locs hT hS => ?_)
      refine lv_aload_n hx hb dX10_keeps_39 rfl (lv_at hl 1 rfl) ?_
      refine tz_get (ci := 7) (v := .ref h11) (C := RX10) (F := TX10) (N := 17) hx hb hU iX10 hown hK hT 7 rfl rfl 15 (by decide) w264 (fun _ h9 => h9) rfl dX10_keeps_40 ?_
      refine lv_aload_n hx hb dX10_keeps_43 rfl (lv_at hl 1 rfl) ?_
      refine tz_get (ci := 7) (v := .ref h1) (C := RX10) (F := TX10) (N := 17) hx hb hU iX10 hown hK hT 7 rfl rfl 0 (by decide) w249 (fun _ h9 => h9) rfl dX10_keeps_44 ?_
      refine tcI (Tc := [(h1, ob 4 [.int h1f0, .int h1f1, .int h1f2, .ref h13])]) (Tr := [(h11, aJ (k 1) 9 anJ), (h12, aJ (k 1) 9 anJ), (h13, aJ (k 1) 36 anJ), (h37, aJ (k 1) 40 anJ), (h38, aJ (k 1) 40 anJ), (h39, aJ (k 1) 40 anJ), (h40, aJ (k 1) 40 anJ), (h0, ob 7 [.ref h1, .ref h2, .int h0f2, .ref h3, .ref h4, .ref h5, .int h0f6, .ref h6, .int h0f8, .null, .ref h7, .int h0f11, .ref h8, .ref h9, .ref h10, .ref h11, .ref h12]), (h4, aQ (k 3) 4 (q4 h17 h18 h19 h20)), (h17, ob 5 [.int h17f0, .int h17f1, .ref h37]), (h18, ob 5 [.int h18f0, .int h18f1, .ref h38]), (h19, ob 5 [.int h19f0, .int h19f1, .ref h39]), (h20, ob 5 [.int h20f0, .int h20f1, .ref h40])]) (as := [h1]) (zcV (q0 := 13) (ci := 4) (As := []) (rest := [.ref h11]) (Tc := [(h1, ob 4 [.int h1f0, .int h1f1, .int h1f2, .ref h13])]) hx hb hml hown hU hK hT rfl rfl [13] rfl (by decide) (cX5_cellCount_f3983 l D k _ h1 h13 h1f0 h1f1 h1f2 (by omega) (by omega)) w385 w382 w383 w384 w64 hdX5_cellCount ⟨rfl, rfl⟩ ⟨Nat.le_of_ble_eq_true rfl, Nat.le_of_ble_eq_true rfl⟩ rfl hl.1 (Nat.le_of_ble_eq_true rfl) dX10_keeps_47 ⟨Nat.le_of_ble_eq_true rfl, Nat.le_of_ble_eq_true rfl⟩) hT hS hA [13] [0, 1, 2, 3, 4, 5, 6, 7, 8, 9, 10, 11, 12] rfl rfl rfl (by decide) (by decide) (fun r185 H locs hB J hS => ?_)
      rcases hB with ⟨v186, b_v186, c_187, c_188, rfl, hT1⟩ | ⟨v189, b_v189, c_190, c_191, rfl, hT1⟩ | ⟨v192, b_v192, c_193, c_194, rfl, hT1⟩
      · skip
        have hT := J _ hT1
        have hT : TP D A [(h11, aJ (k 1) 9 anJ), (h12, aJ (k 1) 9 anJ), (h13, aJ (k 1) 36 anJ), (h37, aJ (k 1) 40 anJ), (h38, aJ (k 1) 40 anJ), (h39, aJ (k 1) 40 anJ), (h40, aJ (k 1) 40 anJ), (h0, ob 7 [.ref h1, .ref h2, .int h0f2, .ref h3, .ref h4, .ref h5, .int h0f6, .ref h6, .int h0f8, .null, .ref h7, .int h0f11, .ref h8, .ref h9, .ref h10, .ref h11, .ref h12]), (h4, aQ (k 3) 4 (q4 h17 h18 h19 h20)), (h17, ob 5 [.int h17f0, .int h17f1, .ref h37]), (h18, ob 5 [.int h18f0, .int h18f1, .ref h38]), (h19, ob 5 [.int h19f0, .int h19f1, .ref h39]), (h20, ob 5 [.int h20f0, .int h20f1, .ref h40]), (h1, ob 4 [.int h1f0, .int h1f1, .int h1f2, .ref h13])] _ := hT
        exfalso; omega
      · skip
        have hT := J _ hT1
        have hT : TP D A [(h11, aJ (k 1) 9 anJ), (h12, aJ (k 1) 9 anJ), (h13, aJ (k 1) 36 anJ), (h37, aJ (k 1) 40 anJ), (h38, aJ (k 1) 40 anJ), (h39, aJ (k 1) 40 anJ), (h40, aJ (k 1) 40 anJ), (h0, ob 7 [.ref h1, .ref h2, .int h0f2, .ref h3, .ref h4, .ref h5, .int h0f6, .ref h6, .int h0f8, .null, .ref h7, .int h0f11, .ref h8, .ref h9, .ref h10, .ref h11, .ref h12]), (h4, aQ (k 3) 4 (q4 h17 h18 h19 h20)), (h17, ob 5 [.int h17f0, .int h17f1, .ref h37]), (h18, ob 5 [.int h18f0, .int h18f1, .ref h38]), (h19, ob 5 [.int h19f0, .int h19f1, .ref h39]), (h20, ob 5 [.int h20f0, .int h20f1, .ref h40]), (h1, ob 4 [.int h1f0, .int h1f1, .int h1f2, .ref h13])] _ := hT
        refine lv_ldc2 hx hb hown (hU _ w649) dX10_keeps_50 ?_
        have q_q196 := ll_1000000
        refine tcI (Tc := [(h11, aJ (k 1) 9 anJ)]) (Tr := [(h12, aJ (k 1) 9 anJ), (h13, aJ (k 1) 36 anJ), (h37, aJ (k 1) 40 anJ), (h38, aJ (k 1) 40 anJ), (h39, aJ (k 1) 40 anJ), (h40, aJ (k 1) 40 anJ), (h0, ob 7 [.ref h1, .ref h2, .int h0f2, .ref h3, .ref h4, .ref h5, .int h0f6, .ref h6, .int h0f8, .null, .ref h7, .int h0f11, .ref h8, .ref h9, .ref h10, .ref h11, .ref h12]), (h4, aQ (k 3) 4 (q4 h17 h18 h19 h20)), (h17, ob 5 [.int h17f0, .int h17f1, .ref h37]), (h18, ob 5 [.int h18f0, .int h18f1, .ref h38]), (h19, ob 5 [.int h19f0, .int h19f1, .ref h39]), (h20, ob 5 [.int h20f0, .int h20f1, .ref h40]), (h1, ob 4 [.int h1f0, .int h1f1, .int h1f2, .ref h13])]) (as := [h11]) (zcS (As := [.ref h11, .int v189, .long 1000000]) (rest := []) (Tc := [(h11, aJ (k 1) 9 anJ)]) hx hb hml hown hU hK hT [0] rfl (by decide) (cX7_isWithin_443ab l D k _ h11 v189 (1000000) (by omega) (by have := ll_1000000; omega)) w389 w387 w388 w74 hdX7_isWithin ⟨rfl, rfl⟩ ⟨Nat.le_of_ble_eq_true rfl, Nat.le_of_ble_eq_true rfl⟩ rfl hl.1 (Nat.le_of_ble_eq_true rfl) dX10_keeps_53 ⟨Nat.le_of_ble_eq_true rfl, Nat.le_of_ble_eq_true rfl⟩) hT hS hA [0] [1, 2, 3, 4, 5, 6, 7, 8, 9, 10, 11, 12, 13] rfl rfl rfl (by decide) (by decide) (fun r195 H locs hB J hS => ?_)
        obtain ⟨b_r195, hT1⟩ := hB
        have hT := J _ hT1
        have hT : TP D A [(h12, aJ (k 1) 9 anJ), (h13, aJ (k 1) 36 anJ), (h37, aJ (k 1) 40 anJ), (h38, aJ (k 1) 40 anJ), (h39, aJ (k 1) 40 anJ), (h40, aJ (k 1) 40 anJ), (h0, ob 7 [.ref h1, .ref h2, .int h0f2, .ref h3, .ref h4, .ref h5, .int h0f6, .ref h6, .int h0f8, .null, .ref h7, .int h0f11, .ref h8, .ref h9, .ref h10, .ref h11, .ref h12]), (h4, aQ (k 3) 4 (q4 h17 h18 h19 h20)), (h17, ob 5 [.int h17f0, .int h17f1, .ref h37]), (h18, ob 5 [.int h18f0, .int h18f1, .ref h38]), (h19, ob 5 [.int h19f0, .int h19f1, .ref h39]), (h20, ob 5 [.int h20f0, .int h20f1, .ref h40]), (h1, ob 4 [.int h1f0, .int h1f1, .int h1f2, .ref h13]), (h11, aJ (k 1) 9 anJ)] _ := hT
        refine lv_if_ne (tgt := 62) hx hb dX10_keeps_56 (by decide) (fun c_197 => ?_) (fun c_197 => ?_)
        · skip
          have c_197 := ni_ne c_197 rfl li_0
          refine lv_aload_n hx hb dX10_keeps_62 rfl (lv_at hl 1 rfl) ?_
          refine tcI (Tc := [(h0, ob 7 [.ref h1, .ref h2, .int h0f2, .ref h3, .ref h4, .ref h5, .int h0f6, .ref h6, .int h0f8, .null, .ref h7, .int h0f11, .ref h8, .ref h9, .ref h10, .ref h11, .ref h12]), (h1, ob 4 [.int h1f0, .int h1f1, .int h1f2, .ref h13]), (h11, aJ (k 1) 9 anJ), (h12, aJ (k 1) 9 anJ)]) (Tr := [(h13, aJ (k 1) 36 anJ), (h37, aJ (k 1) 40 anJ), (h38, aJ (k 1) 40 anJ), (h39, aJ (k 1) 40 anJ), (h40, aJ (k 1) 40 anJ), (h4, aQ (k 3) 4 (q4 h17 h18 h19 h20)), (h17, ob 5 [.int h17f0, .int h17f1, .ref h37]), (h18, ob 5 [.int h18f0, .int h18f1, .ref h38]), (h19, ob 5 [.int h19f0, .int h19f1, .ref h39]), (h20, ob 5 [.int h20f0, .int h20f1, .ref h40])]) (as := [h0, h1, h11, h12]) (zcV (q0 := 6) (ci := 7) (As := []) (rest := []) (Tc := [(h0, ob 7 [.ref h1, .ref h2, .int h0f2, .ref h3, .ref h4, .ref h5, .int h0f6, .ref h6, .int h0f8, .null, .ref h7, .int h0f11, .ref h8, .ref h9, .ref h10, .ref h11, .ref h12]), (h1, ob 4 [.int h1f0, .int h1f1, .int h1f2, .ref h13]), (h11, aJ (k 1) 9 anJ), (h12, aJ (k 1) 9 anJ)]) hx hb hml hown hU hK hT rfl rfl [6, 12, 13, 0] rfl (by decide) (cX10_isPositiveForm_92f38 l D k _ h0 h1 h11 h12 h2 h3 h4 h5 h6 h7 h8 h9 h10 h13 h0f2 h0f6 h0f8 h0f11 h1f0 h1f1 h1f2 (by omega) (by omega) (by omega) (by omega) (by omega) (by omega)) w653 w650 w652 w19 w63 hdX10_isPositiveForm ⟨rfl, rfl⟩ ⟨Nat.le_of_ble_eq_true rfl, Nat.le_of_ble_eq_true rfl⟩ rfl hl.1 (Nat.le_of_ble_eq_true rfl) dX10_keeps_63 ⟨Nat.le_of_ble_eq_true rfl, Nat.le_of_ble_eq_true rfl⟩) hT hS hA [6, 12, 13, 0] [1, 2, 3, 4, 5, 7, 8, 9, 10, 11] rfl rfl rfl (by decide) (by decide) (fun r198 H locs hB J hS => ?_)
          obtain ⟨b_r198, hT1⟩ := hB
          have hT := J _ hT1
          have hT : TP D A [(h13, aJ (k 1) 36 anJ), (h37, aJ (k 1) 40 anJ), (h38, aJ (k 1) 40 anJ), (h39, aJ (k 1) 40 anJ), (h40, aJ (k 1) 40 anJ), (h4, aQ (k 3) 4 (q4 h17 h18 h19 h20)), (h17, ob 5 [.int h17f0, .int h17f1, .ref h37]), (h18, ob 5 [.int h18f0, .int h18f1, .ref h38]), (h19, ob 5 [.int h19f0, .int h19f1, .ref h39]), (h20, ob 5 [.int h20f0, .int h20f1, .ref h40]), (h0, ob 7 [.ref h1, .ref h2, .int h0f2, .ref h3, .ref h4, .ref h5, .int h0f6, .ref h6, .int h0f8, .null, .ref h7, .int h0f11, .ref h8, .ref h9, .ref h10, .ref h11, .ref h12]), (h1, ob 4 [.int h1f0, .int h1f1, .int h1f2, .ref h13]), (h11, aJ (k 1) 9 anJ), (h12, aJ (k 1) 9 anJ)] _ := hT
          refine lv_if_eq (tgt := 80) hx hb dX10_keeps_66 (by decide) (fun c_199 => ?_) (fun c_199 => ?_)
          · skip
            have c_199 := ni_eq c_199 rfl li_0
            refine lv_iconst (v := 0) hx hb dX10_keeps_80 (by decide) ?_
            exact tz_retI (B := B_cX10_keeps_deb30 D k h0 h1 h4 h11 h12 h13 h17 h18 h19 h20 h37 h38 h39 h40 h2 h3 h5 h6 h7 h8 h9 h10 x1 x2 h0f2 h0f6 h0f8 h0f11 h1f0 h1f1 h1f2 h17f0 h17f1 h18f0 h18f1 h19f0 h19f1 h20f0 h20f1) (v := 0) hQ hx hb hr hlocks hS (Nat.le_of_ble_eq_true rfl) (Nat.le_of_ble_eq_true rfl) dX10_keeps_81 (⟨(by have := li_0; omega), (hT.sub [10, 11, 5, 12, 13, 0, 6, 7, 8, 9, 1, 2, 3, 4] (by decide) rfl)⟩)
          · skip
            have c_199 := ni_ne c_199 rfl li_0
            refine lv_aload_n hx hb dX10_keeps_69 rfl (lv_at hl 1 rfl) ?_
            refine tcI (Tc := [(h0, ob 7 [.ref h1, .ref h2, .int h0f2, .ref h3, .ref h4, .ref h5, .int h0f6, .ref h6, .int h0f8, .null, .ref h7, .int h0f11, .ref h8, .ref h9, .ref h10, .ref h11, .ref h12]), (h1, ob 4 [.int h1f0, .int h1f1, .int h1f2, .ref h13]), (h11, aJ (k 1) 9 anJ), (h12, aJ (k 1) 9 anJ), (h13, aJ (k 1) 36 anJ)]) (Tr := [(h37, aJ (k 1) 40 anJ), (h38, aJ (k 1) 40 anJ), (h39, aJ (k 1) 40 anJ), (h40, aJ (k 1) 40 anJ), (h4, aQ (k 3) 4 (q4 h17 h18 h19 h20)), (h17, ob 5 [.int h17f0, .int h17f1, .ref h37]), (h18, ob 5 [.int h18f0, .int h18f1, .ref h38]), (h19, ob 5 [.int h19f0, .int h19f1, .ref h39]), (h20, ob 5 [.int h20f0, .int h20f1, .ref h40])]) (as := [h0, h1, h11, h12, h13]) (zcV (q0 := 10) (ci := 7) (As := []) (rest := []) (Tc := [(h0, ob 7 [.ref h1, .ref h2, .int h0f2, .ref h3, .ref h4, .ref h5, .int h0f6, .ref h6, .int h0f8, .null, .ref h7, .int h0f11, .ref h8, .ref h9, .ref h10, .ref h11, .ref h12]), (h1, ob 4 [.int h1f0, .int h1f1, .int h1f2, .ref h13]), (h11, aJ (k 1) 9 anJ), (h12, aJ (k 1) 9 anJ), (h13, aJ (k 1) 36 anJ)]) hx hb hml hown hU hK hT rfl rfl [10, 11, 12, 13, 0] rfl (by decide) (cX10_noGeneratorChangesForm_52b64 l D k _ h0 h1 h11 h12 h13 h2 h3 h4 h5 h6 h7 h8 h9 h10 h0f2 h0f6 h0f8 h0f11 h1f0 h1f1 h1f2 (by omega) (by omega) (by omega) (by omega) (by omega) (by omega)) w657 w654 w656 w20 w63 hdX10_noGeneratorChangesForm ⟨rfl, rfl⟩ ⟨Nat.le_of_ble_eq_true rfl, Nat.le_of_ble_eq_true rfl⟩ rfl hl.1 (Nat.le_of_ble_eq_true rfl) dX10_keeps_70 ⟨Nat.le_of_ble_eq_true rfl, Nat.le_of_ble_eq_true rfl⟩) hT hS hA [10, 11, 12, 13, 0] [1, 2, 3, 4, 5, 6, 7, 8, 9] rfl rfl rfl (by decide) (by decide) (fun r200 H locs hB J hS => ?_)
            obtain ⟨b_r200, hT1⟩ := hB
            have hT := J _ hT1
            have hT : TP D A [(h37, aJ (k 1) 40 anJ), (h38, aJ (k 1) 40 anJ), (h39, aJ (k 1) 40 anJ), (h40, aJ (k 1) 40 anJ), (h4, aQ (k 3) 4 (q4 h17 h18 h19 h20)), (h17, ob 5 [.int h17f0, .int h17f1, .ref h37]), (h18, ob 5 [.int h18f0, .int h18f1, .ref h38]), (h19, ob 5 [.int h19f0, .int h19f1, .ref h39]), (h20, ob 5 [.int h20f0, .int h20f1, .ref h40]), (h0, ob 7 [.ref h1, .ref h2, .int h0f2, .ref h3, .ref h4, .ref h5, .int h0f6, .ref h6, .int h0f8, .null, .ref h7, .int h0f11, .ref h8, .ref h9, .ref h10, .ref h11, .ref h12]), (h1, ob 4 [.int h1f0, .int h1f1, .int h1f2, .ref h13]), (h11, aJ (k 1) 9 anJ), (h12, aJ (k 1) 9 anJ), (h13, aJ (k 1) 36 anJ)] _ := hT
            refine lv_if_eq (tgt := 80) hx hb dX10_keeps_73 (by decide) (fun c_201 => ?_) (fun c_201 => ?_)
            · skip
              have c_201 := ni_eq c_201 rfl li_0
              refine lv_iconst (v := 0) hx hb dX10_keeps_80 (by decide) ?_
              exact tz_retI (B := B_cX10_keeps_deb30 D k h0 h1 h4 h11 h12 h13 h17 h18 h19 h20 h37 h38 h39 h40 h2 h3 h5 h6 h7 h8 h9 h10 x1 x2 h0f2 h0f6 h0f8 h0f11 h1f0 h1f1 h1f2 h17f0 h17f1 h18f0 h18f1 h19f0 h19f1 h20f0 h20f1) (v := 0) hQ hx hb hr hlocks hS (Nat.le_of_ble_eq_true rfl) (Nat.le_of_ble_eq_true rfl) dX10_keeps_81 (⟨(by have := li_0; omega), (hT.sub [9, 10, 4, 11, 12, 13, 5, 6, 7, 8, 0, 1, 2, 3] (by decide) rfl)⟩)
            · skip
              have c_201 := ni_ne c_201 rfl li_0
              refine lv_iconst (v := 1) hx hb dX10_keeps_76 (by decide) ?_
              refine lv_goto (tgt := 81) hx hb dX10_keeps_77 (by decide) ?_
              exact tz_retI (B := B_cX10_keeps_deb30 D k h0 h1 h4 h11 h12 h13 h17 h18 h19 h20 h37 h38 h39 h40 h2 h3 h5 h6 h7 h8 h9 h10 x1 x2 h0f2 h0f6 h0f8 h0f11 h1f0 h1f1 h1f2 h17f0 h17f1 h18f0 h18f1 h19f0 h19f1 h20f0 h20f1) (v := 1) hQ hx hb hr hlocks hS (Nat.le_of_ble_eq_true rfl) (Nat.le_of_ble_eq_true rfl) dX10_keeps_81 (⟨(by have := li_1; omega), (hT.sub [9, 10, 4, 11, 12, 13, 5, 6, 7, 8, 0, 1, 2, 3] (by decide) rfl)⟩)
        · skip
          have c_197 := ni_eq c_197 rfl li_0
          refine lv_bipush (v := (-16)) hx hb dX10_keeps_59 (by decide) ?_
          exact tz_retI (B := B_cX10_keeps_deb30 D k h0 h1 h4 h11 h12 h13 h17 h18 h19 h20 h37 h38 h39 h40 h2 h3 h5 h6 h7 h8 h9 h10 x1 x2 h0f2 h0f6 h0f8 h0f11 h1f0 h1f1 h1f2 h17f0 h17f1 h18f0 h18f1 h19f0 h19f1 h20f0 h20f1) (v := (-16)) hQ hx hb hr hlocks hS (Nat.le_of_ble_eq_true rfl) (Nat.le_of_ble_eq_true rfl) dX10_keeps_61 (⟨(by have := li_m16; omega), (hT.sub [6, 12, 7, 13, 0, 1, 8, 9, 10, 11, 2, 3, 4, 5] (by decide) rfl)⟩)
      · skip
        have hT := J _ hT1
        have hT : TP D A [(h11, aJ (k 1) 9 anJ), (h12, aJ (k 1) 9 anJ), (h13, aJ (k 1) 36 anJ), (h37, aJ (k 1) 40 anJ), (h38, aJ (k 1) 40 anJ), (h39, aJ (k 1) 40 anJ), (h40, aJ (k 1) 40 anJ), (h0, ob 7 [.ref h1, .ref h2, .int h0f2, .ref h3, .ref h4, .ref h5, .int h0f6, .ref h6, .int h0f8, .null, .ref h7, .int h0f11, .ref h8, .ref h9, .ref h10, .ref h11, .ref h12]), (h4, aQ (k 3) 4 (q4 h17 h18 h19 h20)), (h17, ob 5 [.int h17f0, .int h17f1, .ref h37]), (h18, ob 5 [.int h18f0, .int h18f1, .ref h38]), (h19, ob 5 [.int h19f0, .int h19f1, .ref h39]), (h20, ob 5 [.int h20f0, .int h20f1, .ref h40]), (h1, ob 4 [.int h1f0, .int h1f1, .int h1f2, .ref h13])] _ := hT
        exfalso; omega
    · skip
      have hT := J _ hT1
      have hT : TP D A [(h11, aJ (k 1) 9 anJ), (h12, aJ (k 1) 9 anJ), (h13, aJ (k 1) 36 anJ), (h37, aJ (k 1) 40 anJ), (h38, aJ (k 1) 40 anJ), (h39, aJ (k 1) 40 anJ), (h40, aJ (k 1) 40 anJ), (h0, ob 7 [.ref h1, .ref h2, .int h0f2, .ref h3, .ref h4, .ref h5, .int h0f6, .ref h6, .int h0f8, .null, .ref h7, .int h0f11, .ref h8, .ref h9, .ref h10, .ref h11, .ref h12]), (h4, aQ (k 3) 4 (q4 h17 h18 h19 h20)), (h17, ob 5 [.int h17f0, .int h17f1, .ref h37]), (h18, ob 5 [.int h18f0, .int h18f1, .ref h38]), (h19, ob 5 [.int h19f0, .int h19f1, .ref h39]), (h20, ob 5 [.int h20f0, .int h20f1, .ref h40]), (h1, ob 4 [.int h1f0, .int h1f1, .int h1f2, .ref h13])] _ := hT
      exfalso; omega
  · skip
    have hT := J _ hT1
    have hT : TP D A [(h11, aJ (k 1) 9 anJ), (h12, aJ (k 1) 9 anJ), (h13, aJ (k 1) 36 anJ), (h37, aJ (k 1) 40 anJ), (h38, aJ (k 1) 40 anJ), (h39, aJ (k 1) 40 anJ), (h40, aJ (k 1) 40 anJ), (h0, ob 7 [.ref h1, .ref h2, .int h0f2, .ref h3, .ref h4, .ref h5, .int h0f6, .ref h6, .int h0f8, .null, .ref h7, .int h0f11, .ref h8, .ref h9, .ref h10, .ref h11, .ref h12]), (h1, ob 4 [.int h1f0, .int h1f1, .int h1f2, .ref h13]), (h4, aQ (k 3) 4 (q4 h17 h18 h19 h20)), (h17, ob 5 [.int h17f0, .int h17f1, .ref h37]), (h18, ob 5 [.int h18f0, .int h18f1, .ref h38]), (h19, ob 5 [.int h19f0, .int h19f1, .ref h39]), (h20, ob 5 [.int h20f0, .int h20f1, .ref h40])] _ := hT
    refine lv_istore_n (lv' := [(3, .int 0), (0, .ref h0), (1, .int x1), (2, .int x2)]) hx hb dX10_keeps_7 rfl hl (by decide) rfl (fun ls hl => ?_)
    refine lv_iload_n hx hb dX10_keeps_8 rfl (lv_at hl 0 rfl) ?_
    refine lv_if_eq (tgt := 14) hx hb dX10_keeps_9 (by decide) (fun _ => ?_) (fun cc => absurd (by decide +kernel) cc)
    refine lv_aload_n hx hb dX10_keeps_14 rfl (lv_at hl 1 rfl) ?_
    refine tz_get (ci := 7) (v := .ref h4) (C := RX10) (F := TX10) (N := 17) hx hb hU iX10 hown hK hT 7 rfl rfl 4 (by decide) w253 (fun _ h9 => h9) rfl dX10_keeps_15 ?_
    refine lv_iload_n hx hb dX10_keeps_18 rfl (lv_at hl 2 rfl) ?_
    have hq202 : x1.toInt = 0 := by omega
    refine tz_aldq (b := h17) hx hb hK hT 9 rfl (vp_in_iff.mpr (by have := hq202; omega)) (fun f hf => by rw [cl_of hq202]; exact hf.1) dX10_keeps_19 ?_
    refine tz_get (ci := 5) (v := .ref h37) (C := RX6) (F := TX6) (N := 3) hx hb hU iX6 hown hK hT 10 rfl rfl 2 (by decide) w241 (fun _ h9 => h9) rfl dX10_keeps_20 ?_
    refine lv_iload_n hx hb dX10_keeps_23 rfl (lv_at hl 3 rfl) ?_
    refine lv_aload_n hx hb dX10_keeps_24 rfl (lv_at hl 1 rfl) ?_
    refine tz_get (ci := 7) (v := .ref h11) (C := RX10) (F := TX10) (N := 17) hx hb hU iX10 hown hK hT 7 rfl rfl 15 (by decide) w264 (fun _ h9 => h9) rfl dX10_keeps_25 ?_
    refine lv_iconst (v := 0) hx hb dX10_keeps_28 (by decide) ?_
    refine lv_aload_n hx hb dX10_keeps_29 rfl (lv_at hl 1 rfl) ?_
    refine tz_get (ci := 7) (v := .ref h1) (C := RX10) (F := TX10) (N := 17) hx hb hU iX10 hown hK hT 7 rfl rfl 0 (by decide) w249 (fun _ h9 => h9) rfl dX10_keeps_30 ?_
    refine tcI (Tc := [(h1, ob 4 [.int h1f0, .int h1f1, .int h1f2, .ref h13])]) (Tr := [(h11, aJ (k 1) 9 anJ), (h12, aJ (k 1) 9 anJ), (h13, aJ (k 1) 36 anJ), (h37, aJ (k 1) 40 anJ), (h38, aJ (k 1) 40 anJ), (h39, aJ (k 1) 40 anJ), (h40, aJ (k 1) 40 anJ), (h0, ob 7 [.ref h1, .ref h2, .int h0f2, .ref h3, .ref h4, .ref h5, .int h0f6, .ref h6, .int h0f8, .null, .ref h7, .int h0f11, .ref h8, .ref h9, .ref h10, .ref h11, .ref h12]), (h4, aQ (k 3) 4 (q4 h17 h18 h19 h20)), (h17, ob 5 [.int h17f0, .int h17f1, .ref h37]), (h18, ob 5 [.int h18f0, .int h18f1, .ref h38]), (h19, ob 5 [.int h19f0, .int h19f1, .ref h39]), (h20, ob 5 [.int h20f0, .int h20f1, .ref h40])]) (as := [h1]) (zcV (q0 := 8) (ci := 4) (As := []) (rest := [.int 0, .ref h11, .int x2, .ref h37]) (Tc := [(h1, ob 4 [.int h1f0, .int h1f1, .int h1f2, .ref h13])]) hx hb hml hown hU hK hT rfl rfl [8] rfl (by decide) (cX5_cellCount_f3983 l D k _ h1 h13 h1f0 h1f1 h1f2 (by omega) (by omega)) w385 w382 w383 w384 w64 hdX5_cellCount ⟨rfl, rfl⟩ ⟨Nat.le_of_ble_eq_true rfl, Nat.le_of_ble_eq_true rfl⟩ rfl hl.1 (Nat.le_of_ble_eq_true rfl) dX10_keeps_33 ⟨Nat.le_of_ble_eq_true rfl, Nat.le_of_ble_eq_true rfl⟩) hT hS hA [8] [0, 1, 2, 3, 4, 5, 6, 7, 9, 10, 11, 12, 13] rfl rfl rfl (by decide) (by decide) (fun r203 H locs hB J hS => ?_)
    rcases hB with ⟨v204, b_v204, c_205, c_206, rfl, hT1⟩ | ⟨v207, b_v207, c_208, c_209, rfl, hT1⟩ | ⟨v210, b_v210, c_211, c_212, rfl, hT1⟩
    · skip
      have hT := J _ hT1
      have hT : TP D A [(h11, aJ (k 1) 9 anJ), (h12, aJ (k 1) 9 anJ), (h13, aJ (k 1) 36 anJ), (h37, aJ (k 1) 40 anJ), (h38, aJ (k 1) 40 anJ), (h39, aJ (k 1) 40 anJ), (h40, aJ (k 1) 40 anJ), (h0, ob 7 [.ref h1, .ref h2, .int h0f2, .ref h3, .ref h4, .ref h5, .int h0f6, .ref h6, .int h0f8, .null, .ref h7, .int h0f11, .ref h8, .ref h9, .ref h10, .ref h11, .ref h12]), (h4, aQ (k 3) 4 (q4 h17 h18 h19 h20)), (h17, ob 5 [.int h17f0, .int h17f1, .ref h37]), (h18, ob 5 [.int h18f0, .int h18f1, .ref h38]), (h19, ob 5 [.int h19f0, .int h19f1, .ref h39]), (h20, ob 5 [.int h20f0, .int h20f1, .ref h40]), (h1, ob 4 [.int h1f0, .int h1f1, .int h1f2, .ref h13])] _ := hT
      exfalso; omega
    · skip
      have hT := J _ hT1
      have hT : TP D A [(h11, aJ (k 1) 9 anJ), (h12, aJ (k 1) 9 anJ), (h13, aJ (k 1) 36 anJ), (h37, aJ (k 1) 40 anJ), (h38, aJ (k 1) 40 anJ), (h39, aJ (k 1) 40 anJ), (h40, aJ (k 1) 40 anJ), (h0, ob 7 [.ref h1, .ref h2, .int h0f2, .ref h3, .ref h4, .ref h5, .int h0f6, .ref h6, .int h0f8, .null, .ref h7, .int h0f11, .ref h8, .ref h9, .ref h10, .ref h11, .ref h12]), (h4, aQ (k 3) 4 (q4 h17 h18 h19 h20)), (h17, ob 5 [.int h17f0, .int h17f1, .ref h37]), (h18, ob 5 [.int h18f0, .int h18f1, .ref h38]), (h19, ob 5 [.int h19f0, .int h19f1, .ref h39]), (h20, ob 5 [.int h20f0, .int h20f1, .ref h40]), (h1, ob 4 [.int h1f0, .int h1f1, .int h1f2, .ref h13])] _ := hT
      exfalso; omega
    · skip
      have hT := J _ hT1
      have hT : TP D A [(h11, aJ (k 1) 9 anJ), (h12, aJ (k 1) 9 anJ), (h13, aJ (k 1) 36 anJ), (h37, aJ (k 1) 40 anJ), (h38, aJ (k 1) 40 anJ), (h39, aJ (k 1) 40 anJ), (h40, aJ (k 1) 40 anJ), (h0, ob 7 [.ref h1, .ref h2, .int h0f2, .ref h3, .ref h4, .ref h5, .int h0f6, .ref h6, .int h0f8, .null, .ref h7, .int h0f11, .ref h8, .ref h9, .ref h10, .ref h11, .ref h12]), (h4, aQ (k 3) 4 (q4 h17 h18 h19 h20)), (h17, ob 5 [.int h17f0, .int h17f1, .ref h37]), (h18, ob 5 [.int h18f0, .int h18f1, .ref h38]), (h19, ob 5 [.int h19f0, .int h19f1, .ref h39]), (h20, ob 5 [.int h20f0, .int h20f1, .ref h40]), (h1, ob 4 [.int h1f0, .int h1f1, .int h1f2, .ref h13])] _ := hT
      refine tz_copyl hx hb (by rw [hml]; exact hl.1.symm) hown hU w410 w348 w347 w75 hK hT hS 3 0 rfl rfl (by have := li_0; omega) (fun _ _ _ _ => trivial) (Nat.le_of_ble_eq_true rfl) (Nat.le_of_ble_eq_true rfl) dX10_keeps_36 (fun H locs hT hS => ?_)
      refine lv_aload_n hx hb dX10_keeps_39 rfl (lv_at hl 1 rfl) ?_
      refine tz_get (ci := 7) (v := .ref h11) (C := RX10) (F := TX10) (N := 17) hx hb hU iX10 hown hK hT 7 rfl rfl 15 (by decide) w264 (fun _ h9 => h9) rfl dX10_keeps_40 ?_
      refine lv_aload_n hx hb dX10_keeps_43 rfl (lv_at hl 1 rfl) ?_
      refine tz_get (ci := 7) (v := .ref h1) (C := RX10) (F := TX10) (N := 17) hx hb hU iX10 hown hK hT 7 rfl rfl 0 (by decide) w249 (fun _ h9 => h9) rfl dX10_keeps_44 ?_
      refine tcI (Tc := [(h1, ob 4 [.int h1f0, .int h1f1, .int h1f2, .ref h13])]) (Tr := [(h11, aJ (k 1) 9 anJ), (h12, aJ (k 1) 9 anJ), (h13, aJ (k 1) 36 anJ), (h37, aJ (k 1) 40 anJ), (h38, aJ (k 1) 40 anJ), (h39, aJ (k 1) 40 anJ), (h40, aJ (k 1) 40 anJ), (h0, ob 7 [.ref h1, .ref h2, .int h0f2, .ref h3, .ref h4, .ref h5, .int h0f6, .ref h6, .int h0f8, .null, .ref h7, .int h0f11, .ref h8, .ref h9, .ref h10, .ref h11, .ref h12]), (h4, aQ (k 3) 4 (q4 h17 h18 h19 h20)), (h17, ob 5 [.int h17f0, .int h17f1, .ref h37]), (h18, ob 5 [.int h18f0, .int h18f1, .ref h38]), (h19, ob 5 [.int h19f0, .int h19f1, .ref h39]), (h20, ob 5 [.int h20f0, .int h20f1, .ref h40])]) (as := [h1]) (zcV (q0 := 13) (ci := 4) (As := []) (rest := [.ref h11]) (Tc := [(h1, ob 4 [.int h1f0, .int h1f1, .int h1f2, .ref h13])]) hx hb hml hown hU hK hT rfl rfl [13] rfl (by decide) (cX5_cellCount_f3983 l D k _ h1 h13 h1f0 h1f1 h1f2 (by omega) (by omega)) w385 w382 w383 w384 w64 hdX5_cellCount ⟨rfl, rfl⟩ ⟨Nat.le_of_ble_eq_true rfl, Nat.le_of_ble_eq_true rfl⟩ rfl hl.1 (Nat.le_of_ble_eq_true rfl) dX10_keeps_47 ⟨Nat.le_of_ble_eq_true rfl, Nat.le_of_ble_eq_true rfl⟩) hT hS hA [13] [0, 1, 2, 3, 4, 5, 6, 7, 8, 9, 10, 11, 12] rfl rfl rfl (by decide) (by decide) (fun r213 H locs hB J hS => ?_)
      rcases hB with ⟨v214, b_v214, c_215, c_216, rfl, hT1⟩ | ⟨v217, b_v217, c_218, c_219, rfl, hT1⟩ | ⟨v220, b_v220, c_221, c_222, rfl, hT1⟩
      · skip
        have hT := J _ hT1
        have hT : TP D A [(h11, aJ (k 1) 9 anJ), (h12, aJ (k 1) 9 anJ), (h13, aJ (k 1) 36 anJ), (h37, aJ (k 1) 40 anJ), (h38, aJ (k 1) 40 anJ), (h39, aJ (k 1) 40 anJ), (h40, aJ (k 1) 40 anJ), (h0, ob 7 [.ref h1, .ref h2, .int h0f2, .ref h3, .ref h4, .ref h5, .int h0f6, .ref h6, .int h0f8, .null, .ref h7, .int h0f11, .ref h8, .ref h9, .ref h10, .ref h11, .ref h12]), (h4, aQ (k 3) 4 (q4 h17 h18 h19 h20)), (h17, ob 5 [.int h17f0, .int h17f1, .ref h37]), (h18, ob 5 [.int h18f0, .int h18f1, .ref h38]), (h19, ob 5 [.int h19f0, .int h19f1, .ref h39]), (h20, ob 5 [.int h20f0, .int h20f1, .ref h40]), (h1, ob 4 [.int h1f0, .int h1f1, .int h1f2, .ref h13])] _ := hT
        exfalso; omega
      · skip
        have hT := J _ hT1
        have hT : TP D A [(h11, aJ (k 1) 9 anJ), (h12, aJ (k 1) 9 anJ), (h13, aJ (k 1) 36 anJ), (h37, aJ (k 1) 40 anJ), (h38, aJ (k 1) 40 anJ), (h39, aJ (k 1) 40 anJ), (h40, aJ (k 1) 40 anJ), (h0, ob 7 [.ref h1, .ref h2, .int h0f2, .ref h3, .ref h4, .ref h5, .int h0f6, .ref h6, .int h0f8, .null, .ref h7, .int h0f11, .ref h8, .ref h9, .ref h10, .ref h11, .ref h12]), (h4, aQ (k 3) 4 (q4 h17 h18 h19 h20)), (h17, ob 5 [.int h17f0, .int h17f1, .ref h37]), (h18, ob 5 [.int h18f0, .int h18f1, .ref h38]), (h19, ob 5 [.int h19f0, .int h19f1, .ref h39]), (h20, ob 5 [.int h20f0, .int h20f1, .ref h40]), (h1, ob 4 [.int h1f0, .int h1f1, .int h1f2, .ref h13])] _ := hT
        exfalso; omega
      · skip
        have hT := J _ hT1
        have hT : TP D A [(h11, aJ (k 1) 9 anJ), (h12, aJ (k 1) 9 anJ), (h13, aJ (k 1) 36 anJ), (h37, aJ (k 1) 40 anJ), (h38, aJ (k 1) 40 anJ), (h39, aJ (k 1) 40 anJ), (h40, aJ (k 1) 40 anJ), (h0, ob 7 [.ref h1, .ref h2, .int h0f2, .ref h3, .ref h4, .ref h5, .int h0f6, .ref h6, .int h0f8, .null, .ref h7, .int h0f11, .ref h8, .ref h9, .ref h10, .ref h11, .ref h12]), (h4, aQ (k 3) 4 (q4 h17 h18 h19 h20)), (h17, ob 5 [.int h17f0, .int h17f1, .ref h37]), (h18, ob 5 [.int h18f0, .int h18f1, .ref h38]), (h19, ob 5 [.int h19f0, .int h19f1, .ref h39]), (h20, ob 5 [.int h20f0, .int h20f1, .ref h40]), (h1, ob 4 [.int h1f0, .int h1f1, .int h1f2, .ref h13])] _ := hT
        refine lv_ldc2 hx hb hown (hU _ w649) dX10_keeps_50 ?_
        have q_q224 := ll_1000000
        refine tcI (Tc := [(h11, aJ (k 1) 9 anJ)]) (Tr := [(h12, aJ (k 1) 9 anJ), (h13, aJ (k 1) 36 anJ), (h37, aJ (k 1) 40 anJ), (h38, aJ (k 1) 40 anJ), (h39, aJ (k 1) 40 anJ), (h40, aJ (k 1) 40 anJ), (h0, ob 7 [.ref h1, .ref h2, .int h0f2, .ref h3, .ref h4, .ref h5, .int h0f6, .ref h6, .int h0f8, .null, .ref h7, .int h0f11, .ref h8, .ref h9, .ref h10, .ref h11, .ref h12]), (h4, aQ (k 3) 4 (q4 h17 h18 h19 h20)), (h17, ob 5 [.int h17f0, .int h17f1, .ref h37]), (h18, ob 5 [.int h18f0, .int h18f1, .ref h38]), (h19, ob 5 [.int h19f0, .int h19f1, .ref h39]), (h20, ob 5 [.int h20f0, .int h20f1, .ref h40]), (h1, ob 4 [.int h1f0, .int h1f1, .int h1f2, .ref h13])]) (as := [h11]) (zcS (As := [.ref h11, .int v220, .long 1000000]) (rest := []) (Tc := [(h11, aJ (k 1) 9 anJ)]) hx hb hml hown hU hK hT [0] rfl (by decide) (cX7_isWithin_443ab l D k _ h11 v220 (1000000) (by omega) (by have := ll_1000000; omega)) w389 w387 w388 w74 hdX7_isWithin ⟨rfl, rfl⟩ ⟨Nat.le_of_ble_eq_true rfl, Nat.le_of_ble_eq_true rfl⟩ rfl hl.1 (Nat.le_of_ble_eq_true rfl) dX10_keeps_53 ⟨Nat.le_of_ble_eq_true rfl, Nat.le_of_ble_eq_true rfl⟩) hT hS hA [0] [1, 2, 3, 4, 5, 6, 7, 8, 9, 10, 11, 12, 13] rfl rfl rfl (by decide) (by decide) (fun r223 H locs hB J hS => ?_)
        obtain ⟨b_r223, hT1⟩ := hB
        have hT := J _ hT1
        have hT : TP D A [(h12, aJ (k 1) 9 anJ), (h13, aJ (k 1) 36 anJ), (h37, aJ (k 1) 40 anJ), (h38, aJ (k 1) 40 anJ), (h39, aJ (k 1) 40 anJ), (h40, aJ (k 1) 40 anJ), (h0, ob 7 [.ref h1, .ref h2, .int h0f2, .ref h3, .ref h4, .ref h5, .int h0f6, .ref h6, .int h0f8, .null, .ref h7, .int h0f11, .ref h8, .ref h9, .ref h10, .ref h11, .ref h12]), (h4, aQ (k 3) 4 (q4 h17 h18 h19 h20)), (h17, ob 5 [.int h17f0, .int h17f1, .ref h37]), (h18, ob 5 [.int h18f0, .int h18f1, .ref h38]), (h19, ob 5 [.int h19f0, .int h19f1, .ref h39]), (h20, ob 5 [.int h20f0, .int h20f1, .ref h40]), (h1, ob 4 [.int h1f0, .int h1f1, .int h1f2, .ref h13]), (h11, aJ (k 1) 9 anJ)] _ := hT
        refine lv_if_ne (tgt := 62) hx hb dX10_keeps_56 (by decide) (fun c_225 => ?_) (fun c_225 => ?_)
        · skip
          have c_225 := ni_ne c_225 rfl li_0
          refine lv_aload_n hx hb dX10_keeps_62 rfl (lv_at hl 1 rfl) ?_
          refine tcI (Tc := [(h0, ob 7 [.ref h1, .ref h2, .int h0f2, .ref h3, .ref h4, .ref h5, .int h0f6, .ref h6, .int h0f8, .null, .ref h7, .int h0f11, .ref h8, .ref h9, .ref h10, .ref h11, .ref h12]), (h1, ob 4 [.int h1f0, .int h1f1, .int h1f2, .ref h13]), (h11, aJ (k 1) 9 anJ), (h12, aJ (k 1) 9 anJ)]) (Tr := [(h13, aJ (k 1) 36 anJ), (h37, aJ (k 1) 40 anJ), (h38, aJ (k 1) 40 anJ), (h39, aJ (k 1) 40 anJ), (h40, aJ (k 1) 40 anJ), (h4, aQ (k 3) 4 (q4 h17 h18 h19 h20)), (h17, ob 5 [.int h17f0, .int h17f1, .ref h37]), (h18, ob 5 [.int h18f0, .int h18f1, .ref h38]), (h19, ob 5 [.int h19f0, .int h19f1, .ref h39]), (h20, ob 5 [.int h20f0, .int h20f1, .ref h40])]) (as := [h0, h1, h11, h12]) (zcV (q0 := 6) (ci := 7) (As := []) (rest := []) (Tc := [(h0, ob 7 [.ref h1, .ref h2, .int h0f2, .ref h3, .ref h4, .ref h5, .int h0f6, .ref h6, .int h0f8, .null, .ref h7, .int h0f11, .ref h8, .ref h9, .ref h10, .ref h11, .ref h12]), (h1, ob 4 [.int h1f0, .int h1f1, .int h1f2, .ref h13]), (h11, aJ (k 1) 9 anJ), (h12, aJ (k 1) 9 anJ)]) hx hb hml hown hU hK hT rfl rfl [6, 12, 13, 0] rfl (by decide) (cX10_isPositiveForm_92f38 l D k _ h0 h1 h11 h12 h2 h3 h4 h5 h6 h7 h8 h9 h10 h13 h0f2 h0f6 h0f8 h0f11 h1f0 h1f1 h1f2 (by omega) (by omega) (by omega) (by omega) (by omega) (by omega)) w653 w650 w652 w19 w63 hdX10_isPositiveForm ⟨rfl, rfl⟩ ⟨Nat.le_of_ble_eq_true rfl, Nat.le_of_ble_eq_true rfl⟩ rfl hl.1 (Nat.le_of_ble_eq_true rfl) dX10_keeps_63 ⟨Nat.le_of_ble_eq_true rfl, Nat.le_of_ble_eq_true rfl⟩) hT hS hA [6, 12, 13, 0] [1, 2, 3, 4, 5, 7, 8, 9, 10, 11] rfl rfl rfl (by decide) (by decide) (fun r226 H locs hB J hS => ?_)
          obtain ⟨b_r226, hT1⟩ := hB
          have hT := J _ hT1
          have hT : TP D A [(h13, aJ (k 1) 36 anJ), (h37, aJ (k 1) 40 anJ), (h38, aJ (k 1) 40 anJ), (h39, aJ (k 1) 40 anJ), (h40, aJ (k 1) 40 anJ), (h4, aQ (k 3) 4 (q4 h17 h18 h19 h20)), (h17, ob 5 [.int h17f0, .int h17f1, .ref h37]), (h18, ob 5 [.int h18f0, .int h18f1, .ref h38]), (h19, ob 5 [.int h19f0, .int h19f1, .ref h39]), (h20, ob 5 [.int h20f0, .int h20f1, .ref h40]), (h0, ob 7 [.ref h1, .ref h2, .int h0f2, .ref h3, .ref h4, .ref h5, .int h0f6, .ref h6, .int h0f8, .null, .ref h7, .int h0f11, .ref h8, .ref h9, .ref h10, .ref h11, .ref h12]), (h1, ob 4 [.int h1f0, .int h1f1, .int h1f2, .ref h13]), (h11, aJ (k 1) 9 anJ), (h12, aJ (k 1) 9 anJ)] _ := hT
          refine lv_if_eq (tgt := 80) hx hb dX10_keeps_66 (by decide) (fun c_227 => ?_) (fun c_227 => ?_)
          · skip
            have c_227 := ni_eq c_227 rfl li_0
            refine lv_iconst (v := 0) hx hb dX10_keeps_80 (by decide) ?_
            exact tz_retI (B := B_cX10_keeps_deb30 D k h0 h1 h4 h11 h12 h13 h17 h18 h19 h20 h37 h38 h39 h40 h2 h3 h5 h6 h7 h8 h9 h10 x1 x2 h0f2 h0f6 h0f8 h0f11 h1f0 h1f1 h1f2 h17f0 h17f1 h18f0 h18f1 h19f0 h19f1 h20f0 h20f1) (v := 0) hQ hx hb hr hlocks hS (Nat.le_of_ble_eq_true rfl) (Nat.le_of_ble_eq_true rfl) dX10_keeps_81 (⟨(by have := li_0; omega), (hT.sub [10, 11, 5, 12, 13, 0, 6, 7, 8, 9, 1, 2, 3, 4] (by decide) rfl)⟩)
          · skip
            have c_227 := ni_ne c_227 rfl li_0
            refine lv_aload_n hx hb dX10_keeps_69 rfl (lv_at hl 1 rfl) ?_
            refine tcI (Tc := [(h0, ob 7 [.ref h1, .ref h2, .int h0f2, .ref h3, .ref h4, .ref h5, .int h0f6, .ref h6, .int h0f8, .null, .ref h7, .int h0f11, .ref h8, .ref h9, .ref h10, .ref h11, .ref h12]), (h1, ob 4 [.int h1f0, .int h1f1, .int h1f2, .ref h13]), (h11, aJ (k 1) 9 anJ), (h12, aJ (k 1) 9 anJ), (h13, aJ (k 1) 36 anJ)]) (Tr := [(h37, aJ (k 1) 40 anJ), (h38, aJ (k 1) 40 anJ), (h39, aJ (k 1) 40 anJ), (h40, aJ (k 1) 40 anJ), (h4, aQ (k 3) 4 (q4 h17 h18 h19 h20)), (h17, ob 5 [.int h17f0, .int h17f1, .ref h37]), (h18, ob 5 [.int h18f0, .int h18f1, .ref h38]), (h19, ob 5 [.int h19f0, .int h19f1, .ref h39]), (h20, ob 5 [.int h20f0, .int h20f1, .ref h40])]) (as := [h0, h1, h11, h12, h13]) (zcV (q0 := 10) (ci := 7) (As := []) (rest := []) (Tc := [(h0, ob 7 [.ref h1, .ref h2, .int h0f2, .ref h3, .ref h4, .ref h5, .int h0f6, .ref h6, .int h0f8, .null, .ref h7, .int h0f11, .ref h8, .ref h9, .ref h10, .ref h11, .ref h12]), (h1, ob 4 [.int h1f0, .int h1f1, .int h1f2, .ref h13]), (h11, aJ (k 1) 9 anJ), (h12, aJ (k 1) 9 anJ), (h13, aJ (k 1) 36 anJ)]) hx hb hml hown hU hK hT rfl rfl [10, 11, 12, 13, 0] rfl (by decide) (cX10_noGeneratorChangesForm_52b64 l D k _ h0 h1 h11 h12 h13 h2 h3 h4 h5 h6 h7 h8 h9 h10 h0f2 h0f6 h0f8 h0f11 h1f0 h1f1 h1f2 (by omega) (by omega) (by omega) (by omega) (by omega) (by omega)) w657 w654 w656 w20 w63 hdX10_noGeneratorChangesForm ⟨rfl, rfl⟩ ⟨Nat.le_of_ble_eq_true rfl, Nat.le_of_ble_eq_true rfl⟩ rfl hl.1 (Nat.le_of_ble_eq_true rfl) dX10_keeps_70 ⟨Nat.le_of_ble_eq_true rfl, Nat.le_of_ble_eq_true rfl⟩) hT hS hA [10, 11, 12, 13, 0] [1, 2, 3, 4, 5, 6, 7, 8, 9] rfl rfl rfl (by decide) (by decide) (fun r228 H locs hB J hS => ?_)
            obtain ⟨b_r228, hT1⟩ := hB
            have hT := J _ hT1
            have hT : TP D A [(h37, aJ (k 1) 40 anJ), (h38, aJ (k 1) 40 anJ), (h39, aJ (k 1) 40 anJ), (h40, aJ (k 1) 40 anJ), (h4, aQ (k 3) 4 (q4 h17 h18 h19 h20)), (h17, ob 5 [.int h17f0, .int h17f1, .ref h37]), (h18, ob 5 [.int h18f0, .int h18f1, .ref h38]), (h19, ob 5 [.int h19f0, .int h19f1, .ref h39]), (h20, ob 5 [.int h20f0, .int h20f1, .ref h40]), (h0, ob 7 [.ref h1, .ref h2, .int h0f2, .ref h3, .ref h4, .ref h5, .int h0f6, .ref h6, .int h0f8, .null, .ref h7, .int h0f11, .ref h8, .ref h9, .ref h10, .ref h11, .ref h12]), (h1, ob 4 [.int h1f0, .int h1f1, .int h1f2, .ref h13]), (h11, aJ (k 1) 9 anJ), (h12, aJ (k 1) 9 anJ), (h13, aJ (k 1) 36 anJ)] _ := hT
            refine lv_if_eq (tgt := 80) hx hb dX10_keeps_73 (by decide) (fun c_229 => ?_) (fun c_229 => ?_)
            · skip
              have c_229 := ni_eq c_229 rfl li_0
              refine lv_iconst (v := 0) hx hb dX10_keeps_80 (by decide) ?_
              exact tz_retI (B := B_cX10_keeps_deb30 D k h0 h1 h4 h11 h12 h13 h17 h18 h19 h20 h37 h38 h39 h40 h2 h3 h5 h6 h7 h8 h9 h10 x1 x2 h0f2 h0f6 h0f8 h0f11 h1f0 h1f1 h1f2 h17f0 h17f1 h18f0 h18f1 h19f0 h19f1 h20f0 h20f1) (v := 0) hQ hx hb hr hlocks hS (Nat.le_of_ble_eq_true rfl) (Nat.le_of_ble_eq_true rfl) dX10_keeps_81 (⟨(by have := li_0; omega), (hT.sub [9, 10, 4, 11, 12, 13, 5, 6, 7, 8, 0, 1, 2, 3] (by decide) rfl)⟩)
            · skip
              have c_229 := ni_ne c_229 rfl li_0
              refine lv_iconst (v := 1) hx hb dX10_keeps_76 (by decide) ?_
              refine lv_goto (tgt := 81) hx hb dX10_keeps_77 (by decide) ?_
              exact tz_retI (B := B_cX10_keeps_deb30 D k h0 h1 h4 h11 h12 h13 h17 h18 h19 h20 h37 h38 h39 h40 h2 h3 h5 h6 h7 h8 h9 h10 x1 x2 h0f2 h0f6 h0f8 h0f11 h1f0 h1f1 h1f2 h17f0 h17f1 h18f0 h18f1 h19f0 h19f1 h20f0 h20f1) (v := 1) hQ hx hb hr hlocks hS (Nat.le_of_ble_eq_true rfl) (Nat.le_of_ble_eq_true rfl) dX10_keeps_81 (⟨(by have := li_1; omega), (hT.sub [9, 10, 4, 11, 12, 13, 5, 6, 7, 8, 0, 1, 2, 3] (by decide) rfl)⟩)
        · skip
          have c_225 := ni_eq c_225 rfl li_0
          refine lv_bipush (v := (-16)) hx hb dX10_keeps_59 (by decide) ?_
          exact tz_retI (B := B_cX10_keeps_deb30 D k h0 h1 h4 h11 h12 h13 h17 h18 h19 h20 h37 h38 h39 h40 h2 h3 h5 h6 h7 h8 h9 h10 x1 x2 h0f2 h0f6 h0f8 h0f11 h1f0 h1f1 h1f2 h17f0 h17f1 h18f0 h18f1 h19f0 h19f1 h20f0 h20f1) (v := (-16)) hQ hx hb hr hlocks hS (Nat.le_of_ble_eq_true rfl) (Nat.le_of_ble_eq_true rfl) dX10_keeps_61 (⟨(by have := li_m16; omega), (hT.sub [6, 12, 7, 13, 0, 1, 8, 9, 10, 11, 2, 3, 4, 5] (by decide) rfl)⟩)
  · skip
    have hT := J _ hT1
    have hT : TP D A [(h11, aJ (k 1) 9 anJ), (h12, aJ (k 1) 9 anJ), (h13, aJ (k 1) 36 anJ), (h37, aJ (k 1) 40 anJ), (h38, aJ (k 1) 40 anJ), (h39, aJ (k 1) 40 anJ), (h40, aJ (k 1) 40 anJ), (h0, ob 7 [.ref h1, .ref h2, .int h0f2, .ref h3, .ref h4, .ref h5, .int h0f6, .ref h6, .int h0f8, .null, .ref h7, .int h0f11, .ref h8, .ref h9, .ref h10, .ref h11, .ref h12]), (h1, ob 4 [.int h1f0, .int h1f1, .int h1f2, .ref h13]), (h4, aQ (k 3) 4 (q4 h17 h18 h19 h20)), (h17, ob 5 [.int h17f0, .int h17f1, .ref h37]), (h18, ob 5 [.int h18f0, .int h18f1, .ref h38]), (h19, ob 5 [.int h19f0, .int h19f1, .ref h39]), (h20, ob 5 [.int h20f0, .int h20f1, .ref h40])] _ := hT
    refine lv_istore_n (lv' := [(3, .int (-13)), (0, .ref h0), (1, .int x1), (2, .int x2)]) hx hb dX10_keeps_7 rfl hl (by decide) rfl (fun ls hl => ?_)
    refine lv_iload_n hx hb dX10_keeps_8 rfl (lv_at hl 0 rfl) ?_
    refine lv_if_eq (tgt := 14) hx hb dX10_keeps_9 (by decide) (fun cc => absurd cc (by decide +kernel)) (fun _ => ?_)
    refine lv_iload_n hx hb dX10_keeps_12 rfl (lv_at hl 0 rfl) ?_
    exact tz_retI (B := B_cX10_keeps_deb30 D k h0 h1 h4 h11 h12 h13 h17 h18 h19 h20 h37 h38 h39 h40 h2 h3 h5 h6 h7 h8 h9 h10 x1 x2 h0f2 h0f6 h0f8 h0f11 h1f0 h1f1 h1f2 h17f0 h17f1 h18f0 h18f1 h19f0 h19f1 h20f0 h20f1) (v := (-13)) hQ hx hb hr hlocks hS (Nat.le_of_ble_eq_true rfl) (Nat.le_of_ble_eq_true rfl) dX10_keeps_13 (⟨(by have := li_m13; omega), (hT.sub [7, 8, 9, 0, 1, 2, 10, 11, 12, 13, 3, 4, 5, 6] (by decide) rfl)⟩)
  · skip
    have hT := J _ hT1
    have hT : TP D A [(h11, aJ (k 1) 9 anJ), (h12, aJ (k 1) 9 anJ), (h13, aJ (k 1) 36 anJ), (h37, aJ (k 1) 40 anJ), (h38, aJ (k 1) 40 anJ), (h39, aJ (k 1) 40 anJ), (h40, aJ (k 1) 40 anJ), (h0, ob 7 [.ref h1, .ref h2, .int h0f2, .ref h3, .ref h4, .ref h5, .int h0f6, .ref h6, .int h0f8, .null, .ref h7, .int h0f11, .ref h8, .ref h9, .ref h10, .ref h11, .ref h12]), (h1, ob 4 [.int h1f0, .int h1f1, .int h1f2, .ref h13]), (h4, aQ (k 3) 4 (q4 h17 h18 h19 h20)), (h17, ob 5 [.int h17f0, .int h17f1, .ref h37]), (h18, ob 5 [.int h18f0, .int h18f1, .ref h38]), (h19, ob 5 [.int h19f0, .int h19f1, .ref h39]), (h20, ob 5 [.int h20f0, .int h20f1, .ref h40])] _ := hT
    refine lv_istore_n (lv' := [(3, .int (-11)), (0, .ref h0), (1, .int x1), (2, .int x2)]) hx hb dX10_keeps_7 rfl hl (by decide) rfl (fun ls hl => ?_)
    refine lv_iload_n hx hb dX10_keeps_8 rfl (lv_at hl 0 rfl) ?_
    refine lv_if_eq (tgt := 14) hx hb dX10_keeps_9 (by decide) (fun cc => absurd cc (by decide +kernel)) (fun _ => ?_)
    refine lv_iload_n hx hb dX10_keeps_12 rfl (lv_at hl 0 rfl) ?_
    exact tz_retI (B := B_cX10_keeps_deb30 D k h0 h1 h4 h11 h12 h13 h17 h18 h19 h20 h37 h38 h39 h40 h2 h3 h5 h6 h7 h8 h9 h10 x1 x2 h0f2 h0f6 h0f8 h0f11 h1f0 h1f1 h1f2 h17f0 h17f1 h18f0 h18f1 h19f0 h19f1 h20f0 h20f1) (v := (-11)) hQ hx hb hr hlocks hS (Nat.le_of_ble_eq_true rfl) (Nat.le_of_ble_eq_true rfl) dX10_keeps_13 (⟨(by have := li_m11; omega), (hT.sub [7, 8, 9, 0, 1, 2, 10, 11, 12, 13, 3, 4, 5, 6] (by decide) rfl)⟩)
  · skip
    have hT := J _ hT1
    have hT : TP D A [(h11, aJ (k 1) 9 anJ), (h12, aJ (k 1) 9 anJ), (h13, aJ (k 1) 36 anJ), (h37, aJ (k 1) 40 anJ), (h38, aJ (k 1) 40 anJ), (h39, aJ (k 1) 40 anJ), (h40, aJ (k 1) 40 anJ), (h0, ob 7 [.ref h1, .ref h2, .int h0f2, .ref h3, .ref h4, .ref h5, .int h0f6, .ref h6, .int h0f8, .null, .ref h7, .int h0f11, .ref h8, .ref h9, .ref h10, .ref h11, .ref h12]), (h1, ob 4 [.int h1f0, .int h1f1, .int h1f2, .ref h13]), (h4, aQ (k 3) 4 (q4 h17 h18 h19 h20)), (h17, ob 5 [.int h17f0, .int h17f1, .ref h37]), (h18, ob 5 [.int h18f0, .int h18f1, .ref h38]), (h19, ob 5 [.int h19f0, .int h19f1, .ref h39]), (h20, ob 5 [.int h20f0, .int h20f1, .ref h40])] _ := hT
    refine lv_istore_n (lv' := [(3, .int 0), (0, .ref h0), (1, .int x1), (2, .int x2)]) hx hb dX10_keeps_7 rfl hl (by decide) rfl (fun ls hl => ?_)
    refine lv_iload_n hx hb dX10_keeps_8 rfl (lv_at hl 0 rfl) ?_
    refine lv_if_eq (tgt := 14) hx hb dX10_keeps_9 (by decide) (fun _ => ?_) (fun cc => absurd (by decide +kernel) cc)
    refine lv_aload_n hx hb dX10_keeps_14 rfl (lv_at hl 1 rfl) ?_
    refine tz_get (ci := 7) (v := .ref h4) (C := RX10) (F := TX10) (N := 17) hx hb hU iX10 hown hK hT 7 rfl rfl 4 (by decide) w253 (fun _ h9 => h9) rfl dX10_keeps_15 ?_
    refine lv_iload_n hx hb dX10_keeps_18 rfl (lv_at hl 2 rfl) ?_
    have hq230 : x1.toInt = 1 := by omega
    refine tz_aldq (b := h18) hx hb hK hT 9 rfl (vp_in_iff.mpr (by have := hq230; omega)) (fun f hf => by rw [cl_of hq230]; exact hf.2.1) dX10_keeps_19 ?_
    refine tz_get (ci := 5) (v := .ref h38) (C := RX6) (F := TX6) (N := 3) hx hb hU iX6 hown hK hT 11 rfl rfl 2 (by decide) w241 (fun _ h9 => h9) rfl dX10_keeps_20 ?_
    refine lv_iload_n hx hb dX10_keeps_23 rfl (lv_at hl 3 rfl) ?_
    refine lv_aload_n hx hb dX10_keeps_24 rfl (lv_at hl 1 rfl) ?_
    refine tz_get (ci := 7) (v := .ref h11) (C := RX10) (F := TX10) (N := 17) hx hb hU iX10 hown hK hT 7 rfl rfl 15 (by decide) w264 (fun _ h9 => h9) rfl dX10_keeps_25 ?_
    refine lv_iconst (v := 0) hx hb dX10_keeps_28 (by decide) ?_
    refine lv_aload_n hx hb dX10_keeps_29 rfl (lv_at hl 1 rfl) ?_
    refine tz_get (ci := 7) (v := .ref h1) (C := RX10) (F := TX10) (N := 17) hx hb hU iX10 hown hK hT 7 rfl rfl 0 (by decide) w249 (fun _ h9 => h9) rfl dX10_keeps_30 ?_
    refine tcI (Tc := [(h1, ob 4 [.int h1f0, .int h1f1, .int h1f2, .ref h13])]) (Tr := [(h11, aJ (k 1) 9 anJ), (h12, aJ (k 1) 9 anJ), (h13, aJ (k 1) 36 anJ), (h37, aJ (k 1) 40 anJ), (h38, aJ (k 1) 40 anJ), (h39, aJ (k 1) 40 anJ), (h40, aJ (k 1) 40 anJ), (h0, ob 7 [.ref h1, .ref h2, .int h0f2, .ref h3, .ref h4, .ref h5, .int h0f6, .ref h6, .int h0f8, .null, .ref h7, .int h0f11, .ref h8, .ref h9, .ref h10, .ref h11, .ref h12]), (h4, aQ (k 3) 4 (q4 h17 h18 h19 h20)), (h17, ob 5 [.int h17f0, .int h17f1, .ref h37]), (h18, ob 5 [.int h18f0, .int h18f1, .ref h38]), (h19, ob 5 [.int h19f0, .int h19f1, .ref h39]), (h20, ob 5 [.int h20f0, .int h20f1, .ref h40])]) (as := [h1]) (zcV (q0 := 8) (ci := 4) (As := []) (rest := [.int 0, .ref h11, .int x2, .ref h38]) (Tc := [(h1, ob 4 [.int h1f0, .int h1f1, .int h1f2, .ref h13])]) hx hb hml hown hU hK hT rfl rfl [8] rfl (by decide) (cX5_cellCount_f3983 l D k _ h1 h13 h1f0 h1f1 h1f2 (by omega) (by omega)) w385 w382 w383 w384 w64 hdX5_cellCount ⟨rfl, rfl⟩ ⟨Nat.le_of_ble_eq_true rfl, Nat.le_of_ble_eq_true rfl⟩ rfl hl.1 (Nat.le_of_ble_eq_true rfl) dX10_keeps_33 ⟨Nat.le_of_ble_eq_true rfl, Nat.le_of_ble_eq_true rfl⟩) hT hS hA [8] [0, 1, 2, 3, 4, 5, 6, 7, 9, 10, 11, 12, 13] rfl rfl rfl (by decide) (by decide) (fun r231 H locs hB J hS => ?_)
    rcases hB with ⟨v232, b_v232, c_233, c_234, rfl, hT1⟩ | ⟨v235, b_v235, c_236, c_237, rfl, hT1⟩ | ⟨v238, b_v238, c_239, c_240, rfl, hT1⟩
    · skip
      have hT := J _ hT1
      have hT : TP D A [(h11, aJ (k 1) 9 anJ), (h12, aJ (k 1) 9 anJ), (h13, aJ (k 1) 36 anJ), (h37, aJ (k 1) 40 anJ), (h38, aJ (k 1) 40 anJ), (h39, aJ (k 1) 40 anJ), (h40, aJ (k 1) 40 anJ), (h0, ob 7 [.ref h1, .ref h2, .int h0f2, .ref h3, .ref h4, .ref h5, .int h0f6, .ref h6, .int h0f8, .null, .ref h7, .int h0f11, .ref h8, .ref h9, .ref h10, .ref h11, .ref h12]), (h4, aQ (k 3) 4 (q4 h17 h18 h19 h20)), (h17, ob 5 [.int h17f0, .int h17f1, .ref h37]), (h18, ob 5 [.int h18f0, .int h18f1, .ref h38]), (h19, ob 5 [.int h19f0, .int h19f1, .ref h39]), (h20, ob 5 [.int h20f0, .int h20f1, .ref h40]), (h1, ob 4 [.int h1f0, .int h1f1, .int h1f2, .ref h13])] _ := hT
      refine tz_copyl hx hb (by rw [hml]; exact hl.1.symm) hown hU w410 w348 w347 w75 hK hT hS 4 0 rfl rfl (by have := li_0; omega) (fun _ _ _ _ => trivial) (Nat.le_of_ble_eq_true rfl) (Nat.le_of_ble_eq_true rfl) dX10_keeps_36 (fun H locs hT hS => ?_)
      refine lv_aload_n hx hb dX10_keeps_39 rfl (lv_at hl 1 rfl) ?_
      refine tz_get (ci := 7) (v := .ref h11) (C := RX10) (F := TX10) (N := 17) hx hb hU iX10 hown hK hT 7 rfl rfl 15 (by decide) w264 (fun _ h9 => h9) rfl dX10_keeps_40 ?_
      refine lv_aload_n hx hb dX10_keeps_43 rfl (lv_at hl 1 rfl) ?_
      refine tz_get (ci := 7) (v := .ref h1) (C := RX10) (F := TX10) (N := 17) hx hb hU iX10 hown hK hT 7 rfl rfl 0 (by decide) w249 (fun _ h9 => h9) rfl dX10_keeps_44 ?_
      refine tcI (Tc := [(h1, ob 4 [.int h1f0, .int h1f1, .int h1f2, .ref h13])]) (Tr := [(h11, aJ (k 1) 9 anJ), (h12, aJ (k 1) 9 anJ), (h13, aJ (k 1) 36 anJ), (h37, aJ (k 1) 40 anJ), (h38, aJ (k 1) 40 anJ), (h39, aJ (k 1) 40 anJ), (h40, aJ (k 1) 40 anJ), (h0, ob 7 [.ref h1, .ref h2, .int h0f2, .ref h3, .ref h4, .ref h5, .int h0f6, .ref h6, .int h0f8, .null, .ref h7, .int h0f11, .ref h8, .ref h9, .ref h10, .ref h11, .ref h12]), (h4, aQ (k 3) 4 (q4 h17 h18 h19 h20)), (h17, ob 5 [.int h17f0, .int h17f1, .ref h37]), (h18, ob 5 [.int h18f0, .int h18f1, .ref h38]), (h19, ob 5 [.int h19f0, .int h19f1, .ref h39]), (h20, ob 5 [.int h20f0, .int h20f1, .ref h40])]) (as := [h1]) (zcV (q0 := 13) (ci := 4) (As := []) (rest := [.ref h11]) (Tc := [(h1, ob 4 [.int h1f0, .int h1f1, .int h1f2, .ref h13])]) hx hb hml hown hU hK hT rfl rfl [13] rfl (by decide) (cX5_cellCount_f3983 l D k _ h1 h13 h1f0 h1f1 h1f2 (by omega) (by omega)) w385 w382 w383 w384 w64 hdX5_cellCount ⟨rfl, rfl⟩ ⟨Nat.le_of_ble_eq_true rfl, Nat.le_of_ble_eq_true rfl⟩ rfl hl.1 (Nat.le_of_ble_eq_true rfl) dX10_keeps_47 ⟨Nat.le_of_ble_eq_true rfl, Nat.le_of_ble_eq_true rfl⟩) hT hS hA [13] [0, 1, 2, 3, 4, 5, 6, 7, 8, 9, 10, 11, 12] rfl rfl rfl (by decide) (by decide) (fun r241 H locs hB J hS => ?_)
      rcases hB with ⟨v242, b_v242, c_243, c_244, rfl, hT1⟩ | ⟨v245, b_v245, c_246, c_247, rfl, hT1⟩ | ⟨v248, b_v248, c_249, c_250, rfl, hT1⟩
      · skip
        have hT := J _ hT1
        have hT : TP D A [(h11, aJ (k 1) 9 anJ), (h12, aJ (k 1) 9 anJ), (h13, aJ (k 1) 36 anJ), (h37, aJ (k 1) 40 anJ), (h38, aJ (k 1) 40 anJ), (h39, aJ (k 1) 40 anJ), (h40, aJ (k 1) 40 anJ), (h0, ob 7 [.ref h1, .ref h2, .int h0f2, .ref h3, .ref h4, .ref h5, .int h0f6, .ref h6, .int h0f8, .null, .ref h7, .int h0f11, .ref h8, .ref h9, .ref h10, .ref h11, .ref h12]), (h4, aQ (k 3) 4 (q4 h17 h18 h19 h20)), (h17, ob 5 [.int h17f0, .int h17f1, .ref h37]), (h18, ob 5 [.int h18f0, .int h18f1, .ref h38]), (h19, ob 5 [.int h19f0, .int h19f1, .ref h39]), (h20, ob 5 [.int h20f0, .int h20f1, .ref h40]), (h1, ob 4 [.int h1f0, .int h1f1, .int h1f2, .ref h13])] _ := hT
        refine lv_ldc2 hx hb hown (hU _ w649) dX10_keeps_50 ?_
        have q_q252 := ll_1000000
        refine tcI (Tc := [(h11, aJ (k 1) 9 anJ)]) (Tr := [(h12, aJ (k 1) 9 anJ), (h13, aJ (k 1) 36 anJ), (h37, aJ (k 1) 40 anJ), (h38, aJ (k 1) 40 anJ), (h39, aJ (k 1) 40 anJ), (h40, aJ (k 1) 40 anJ), (h0, ob 7 [.ref h1, .ref h2, .int h0f2, .ref h3, .ref h4, .ref h5, .int h0f6, .ref h6, .int h0f8, .null, .ref h7, .int h0f11, .ref h8, .ref h9, .ref h10, .ref h11, .ref h12]), (h4, aQ (k 3) 4 (q4 h17 h18 h19 h20)), (h17, ob 5 [.int h17f0, .int h17f1, .ref h37]), (h18, ob 5 [.int h18f0, .int h18f1, .ref h38]), (h19, ob 5 [.int h19f0, .int h19f1, .ref h39]), (h20, ob 5 [.int h20f0, .int h20f1, .ref h40]), (h1, ob 4 [.int h1f0, .int h1f1, .int h1f2, .ref h13])]) (as := [h11]) (zcS (As := [.ref h11, .int v242, .long 1000000]) (rest := []) (Tc := [(h11, aJ (k 1) 9 anJ)]) hx hb hml hown hU hK hT [0] rfl (by decide) (cX7_isWithin_443ab l D k _ h11 v242 (1000000) (by omega) (by have := ll_1000000; omega)) w389 w387 w388 w74 hdX7_isWithin ⟨rfl, rfl⟩ ⟨Nat.le_of_ble_eq_true rfl, Nat.le_of_ble_eq_true rfl⟩ rfl hl.1 (Nat.le_of_ble_eq_true rfl) dX10_keeps_53 ⟨Nat.le_of_ble_eq_true rfl, Nat.le_of_ble_eq_true rfl⟩) hT hS hA [0] [1, 2, 3, 4, 5, 6, 7, 8, 9, 10, 11, 12, 13] rfl rfl rfl (by decide) (by decide) (fun r251 H locs hB J hS => ?_)
        obtain ⟨b_r251, hT1⟩ := hB
        have hT := J _ hT1
        have hT : TP D A [(h12, aJ (k 1) 9 anJ), (h13, aJ (k 1) 36 anJ), (h37, aJ (k 1) 40 anJ), (h38, aJ (k 1) 40 anJ), (h39, aJ (k 1) 40 anJ), (h40, aJ (k 1) 40 anJ), (h0, ob 7 [.ref h1, .ref h2, .int h0f2, .ref h3, .ref h4, .ref h5, .int h0f6, .ref h6, .int h0f8, .null, .ref h7, .int h0f11, .ref h8, .ref h9, .ref h10, .ref h11, .ref h12]), (h4, aQ (k 3) 4 (q4 h17 h18 h19 h20)), (h17, ob 5 [.int h17f0, .int h17f1, .ref h37]), (h18, ob 5 [.int h18f0, .int h18f1, .ref h38]), (h19, ob 5 [.int h19f0, .int h19f1, .ref h39]), (h20, ob 5 [.int h20f0, .int h20f1, .ref h40]), (h1, ob 4 [.int h1f0, .int h1f1, .int h1f2, .ref h13]), (h11, aJ (k 1) 9 anJ)] _ := hT
        refine lv_if_ne (tgt := 62) hx hb dX10_keeps_56 (by decide) (fun c_253 => ?_) (fun c_253 => ?_)
        · skip
          have c_253 := ni_ne c_253 rfl li_0
          refine lv_aload_n hx hb dX10_keeps_62 rfl (lv_at hl 1 rfl) ?_
          refine tcI (Tc := [(h0, ob 7 [.ref h1, .ref h2, .int h0f2, .ref h3, .ref h4, .ref h5, .int h0f6, .ref h6, .int h0f8, .null, .ref h7, .int h0f11, .ref h8, .ref h9, .ref h10, .ref h11, .ref h12]), (h1, ob 4 [.int h1f0, .int h1f1, .int h1f2, .ref h13]), (h11, aJ (k 1) 9 anJ), (h12, aJ (k 1) 9 anJ)]) (Tr := [(h13, aJ (k 1) 36 anJ), (h37, aJ (k 1) 40 anJ), (h38, aJ (k 1) 40 anJ), (h39, aJ (k 1) 40 anJ), (h40, aJ (k 1) 40 anJ), (h4, aQ (k 3) 4 (q4 h17 h18 h19 h20)), (h17, ob 5 [.int h17f0, .int h17f1, .ref h37]), (h18, ob 5 [.int h18f0, .int h18f1, .ref h38]), (h19, ob 5 [.int h19f0, .int h19f1, .ref h39]), (h20, ob 5 [.int h20f0, .int h20f1, .ref h40])]) (as := [h0, h1, h11, h12]) (zcV (q0 := 6) (ci := 7) (As := []) (rest := []) (Tc := [(h0, ob 7 [.ref h1, .ref h2, .int h0f2, .ref h3, .ref h4, .ref h5, .int h0f6, .ref h6, .int h0f8, .null, .ref h7, .int h0f11, .ref h8, .ref h9, .ref h10, .ref h11, .ref h12]), (h1, ob 4 [.int h1f0, .int h1f1, .int h1f2, .ref h13]), (h11, aJ (k 1) 9 anJ), (h12, aJ (k 1) 9 anJ)]) hx hb hml hown hU hK hT rfl rfl [6, 12, 13, 0] rfl (by decide) (cX10_isPositiveForm_92f38 l D k _ h0 h1 h11 h12 h2 h3 h4 h5 h6 h7 h8 h9 h10 h13 h0f2 h0f6 h0f8 h0f11 h1f0 h1f1 h1f2 (by omega) (by omega) (by omega) (by omega) (by omega) (by omega)) w653 w650 w652 w19 w63 hdX10_isPositiveForm ⟨rfl, rfl⟩ ⟨Nat.le_of_ble_eq_true rfl, Nat.le_of_ble_eq_true rfl⟩ rfl hl.1 (Nat.le_of_ble_eq_true rfl) dX10_keeps_63 ⟨Nat.le_of_ble_eq_true rfl, Nat.le_of_ble_eq_true rfl⟩) hT hS hA [6, 12, 13, 0] [1, 2, 3, 4, 5, 7, 8, 9, 10, 11] rfl rfl rfl (by decide) (by decide) (fun r254 H locs hB J hS => ?_)
          obtain ⟨b_r254, hT1⟩ := hB
          have hT := J _ hT1
          have hT : TP D A [(h13, aJ (k 1) 36 anJ), (h37, aJ (k 1) 40 anJ), (h38, aJ (k 1) 40 anJ), (h39, aJ (k 1) 40 anJ), (h40, aJ (k 1) 40 anJ), (h4, aQ (k 3) 4 (q4 h17 h18 h19 h20)), (h17, ob 5 [.int h17f0, .int h17f1, .ref h37]), (h18, ob 5 [.int h18f0, .int h18f1, .ref h38]), (h19, ob 5 [.int h19f0, .int h19f1, .ref h39]), (h20, ob 5 [.int h20f0, .int h20f1, .ref h40]), (h0, ob 7 [.ref h1, .ref h2, .int h0f2, .ref h3, .ref h4, .ref h5, .int h0f6, .ref h6, .int h0f8, .null, .ref h7, .int h0f11, .ref h8, .ref h9, .ref h10, .ref h11, .ref h12]), (h1, ob 4 [.int h1f0, .int h1f1, .int h1f2, .ref h13]), (h11, aJ (k 1) 9 anJ), (h12, aJ (k 1) 9 anJ)] _ := hT
          refine lv_if_eq (tgt := 80) hx hb dX10_keeps_66 (by decide) (fun c_255 => ?_) (fun c_255 => ?_)
          · skip
            have c_255 := ni_eq c_255 rfl li_0
            refine lv_iconst (v := 0) hx hb dX10_keeps_80 (by decide) ?_
            exact tz_retI (B := B_cX10_keeps_deb30 D k h0 h1 h4 h11 h12 h13 h17 h18 h19 h20 h37 h38 h39 h40 h2 h3 h5 h6 h7 h8 h9 h10 x1 x2 h0f2 h0f6 h0f8 h0f11 h1f0 h1f1 h1f2 h17f0 h17f1 h18f0 h18f1 h19f0 h19f1 h20f0 h20f1) (v := 0) hQ hx hb hr hlocks hS (Nat.le_of_ble_eq_true rfl) (Nat.le_of_ble_eq_true rfl) dX10_keeps_81 (⟨(by have := li_0; omega), (hT.sub [10, 11, 5, 12, 13, 0, 6, 7, 8, 9, 1, 2, 3, 4] (by decide) rfl)⟩)
          · skip
            have c_255 := ni_ne c_255 rfl li_0
            refine lv_aload_n hx hb dX10_keeps_69 rfl (lv_at hl 1 rfl) ?_
            refine tcI (Tc := [(h0, ob 7 [.ref h1, .ref h2, .int h0f2, .ref h3, .ref h4, .ref h5, .int h0f6, .ref h6, .int h0f8, .null, .ref h7, .int h0f11, .ref h8, .ref h9, .ref h10, .ref h11, .ref h12]), (h1, ob 4 [.int h1f0, .int h1f1, .int h1f2, .ref h13]), (h11, aJ (k 1) 9 anJ), (h12, aJ (k 1) 9 anJ), (h13, aJ (k 1) 36 anJ)]) (Tr := [(h37, aJ (k 1) 40 anJ), (h38, aJ (k 1) 40 anJ), (h39, aJ (k 1) 40 anJ), (h40, aJ (k 1) 40 anJ), (h4, aQ (k 3) 4 (q4 h17 h18 h19 h20)), (h17, ob 5 [.int h17f0, .int h17f1, .ref h37]), (h18, ob 5 [.int h18f0, .int h18f1, .ref h38]), (h19, ob 5 [.int h19f0, .int h19f1, .ref h39]), (h20, ob 5 [.int h20f0, .int h20f1, .ref h40])]) (as := [h0, h1, h11, h12, h13]) (zcV (q0 := 10) (ci := 7) (As := []) (rest := []) (Tc := [(h0, ob 7 [.ref h1, .ref h2, .int h0f2, .ref h3, .ref h4, .ref h5, .int h0f6, .ref h6, .int h0f8, .null, .ref h7, .int h0f11, .ref h8, .ref h9, .ref h10, .ref h11, .ref h12]), (h1, ob 4 [.int h1f0, .int h1f1, .int h1f2, .ref h13]), (h11, aJ (k 1) 9 anJ), (h12, aJ (k 1) 9 anJ), (h13, aJ (k 1) 36 anJ)]) hx hb hml hown hU hK hT rfl rfl [10, 11, 12, 13, 0] rfl (by decide) (cX10_noGeneratorChangesForm_52b64 l D k _ h0 h1 h11 h12 h13 h2 h3 h4 h5 h6 h7 h8 h9 h10 h0f2 h0f6 h0f8 h0f11 h1f0 h1f1 h1f2 (by omega) (by omega) (by omega) (by omega) (by omega) (by omega)) w657 w654 w656 w20 w63 hdX10_noGeneratorChangesForm ⟨rfl, rfl⟩ ⟨Nat.le_of_ble_eq_true rfl, Nat.le_of_ble_eq_true rfl⟩ rfl hl.1 (Nat.le_of_ble_eq_true rfl) dX10_keeps_70 ⟨Nat.le_of_ble_eq_true rfl, Nat.le_of_ble_eq_true rfl⟩) hT hS hA [10, 11, 12, 13, 0] [1, 2, 3, 4, 5, 6, 7, 8, 9] rfl rfl rfl (by decide) (by decide) (fun r256 H locs hB J hS => ?_)
            obtain ⟨b_r256, hT1⟩ := hB
            have hT := J _ hT1
            have hT : TP D A [(h37, aJ (k 1) 40 anJ), (h38, aJ (k 1) 40 anJ), (h39, aJ (k 1) 40 anJ), (h40, aJ (k 1) 40 anJ), (h4, aQ (k 3) 4 (q4 h17 h18 h19 h20)), (h17, ob 5 [.int h17f0, .int h17f1, .ref h37]), (h18, ob 5 [.int h18f0, .int h18f1, .ref h38]), (h19, ob 5 [.int h19f0, .int h19f1, .ref h39]), (h20, ob 5 [.int h20f0, .int h20f1, .ref h40]), (h0, ob 7 [.ref h1, .ref h2, .int h0f2, .ref h3, .ref h4, .ref h5, .int h0f6, .ref h6, .int h0f8, .null, .ref h7, .int h0f11, .ref h8, .ref h9, .ref h10, .ref h11, .ref h12]), (h1, ob 4 [.int h1f0, .int h1f1, .int h1f2, .ref h13]), (h11, aJ (k 1) 9 anJ), (h12, aJ (k 1) 9 anJ), (h13, aJ (k 1) 36 anJ)] _ := hT
            refine lv_if_eq (tgt := 80) hx hb dX10_keeps_73 (by decide) (fun c_257 => ?_) (fun c_257 => ?_)
            · skip
              have c_257 := ni_eq c_257 rfl li_0
              refine lv_iconst (v := 0) hx hb dX10_keeps_80 (by decide) ?_
              exact tz_retI (B := B_cX10_keeps_deb30 D k h0 h1 h4 h11 h12 h13 h17 h18 h19 h20 h37 h38 h39 h40 h2 h3 h5 h6 h7 h8 h9 h10 x1 x2 h0f2 h0f6 h0f8 h0f11 h1f0 h1f1 h1f2 h17f0 h17f1 h18f0 h18f1 h19f0 h19f1 h20f0 h20f1) (v := 0) hQ hx hb hr hlocks hS (Nat.le_of_ble_eq_true rfl) (Nat.le_of_ble_eq_true rfl) dX10_keeps_81 (⟨(by have := li_0; omega), (hT.sub [9, 10, 4, 11, 12, 13, 5, 6, 7, 8, 0, 1, 2, 3] (by decide) rfl)⟩)
            · skip
              have c_257 := ni_ne c_257 rfl li_0
              refine lv_iconst (v := 1) hx hb dX10_keeps_76 (by decide) ?_
              refine lv_goto (tgt := 81) hx hb dX10_keeps_77 (by decide) ?_
              exact tz_retI (B := B_cX10_keeps_deb30 D k h0 h1 h4 h11 h12 h13 h17 h18 h19 h20 h37 h38 h39 h40 h2 h3 h5 h6 h7 h8 h9 h10 x1 x2 h0f2 h0f6 h0f8 h0f11 h1f0 h1f1 h1f2 h17f0 h17f1 h18f0 h18f1 h19f0 h19f1 h20f0 h20f1) (v := 1) hQ hx hb hr hlocks hS (Nat.le_of_ble_eq_true rfl) (Nat.le_of_ble_eq_true rfl) dX10_keeps_81 (⟨(by have := li_1; omega), (hT.sub [9, 10, 4, 11, 12, 13, 5, 6, 7, 8, 0, 1, 2, 3] (by decide) rfl)⟩)
        · skip
          have c_253 := ni_eq c_253 rfl li_0
          refine lv_bipush (v := (-16)) hx hb dX10_keeps_59 (by decide) ?_
          exact tz_retI (B := B_cX10_keeps_deb30 D k h0 h1 h4 h11 h12 h13 h17 h18 h19 h20 h37 h38 h39 h40 h2 h3 h5 h6 h7 h8 h9 h10 x1 x2 h0f2 h0f6 h0f8 h0f11 h1f0 h1f1 h1f2 h17f0 h17f1 h18f0 h18f1 h19f0 h19f1 h20f0 h20f1) (v := (-16)) hQ hx hb hr hlocks hS (Nat.le_of_ble_eq_true rfl) (Nat.le_of_ble_eq_true rfl) dX10_keeps_61 (⟨(by have := li_m16; omega), (hT.sub [6, 12, 7, 13, 0, 1, 8, 9, 10, 11, 2, 3, 4, 5] (by decide) rfl)⟩)
      · skip
        have hT := J _ hT1
        have hT : TP D A [(h11, aJ (k 1) 9 anJ), (h12, aJ (k 1) 9 anJ), (h13, aJ (k 1) 36 anJ), (h37, aJ (k 1) 40 anJ), (h38, aJ (k 1) 40 anJ), (h39, aJ (k 1) 40 anJ), (h40, aJ (k 1) 40 anJ), (h0, ob 7 [.ref h1, .ref h2, .int h0f2, .ref h3, .ref h4, .ref h5, .int h0f6, .ref h6, .int h0f8, .null, .ref h7, .int h0f11, .ref h8, .ref h9, .ref h10, .ref h11, .ref h12]), (h4, aQ (k 3) 4 (q4 h17 h18 h19 h20)), (h17, ob 5 [.int h17f0, .int h17f1, .ref h37]), (h18, ob 5 [.int h18f0, .int h18f1, .ref h38]), (h19, ob 5 [.int h19f0, .int h19f1, .ref h39]), (h20, ob 5 [.int h20f0, .int h20f1, .ref h40]), (h1, ob 4 [.int h1f0, .int h1f1, .int h1f2, .ref h13])] _ := hT
        exfalso; omega
      · skip
        have hT := J _ hT1
        have hT : TP D A [(h11, aJ (k 1) 9 anJ), (h12, aJ (k 1) 9 anJ), (h13, aJ (k 1) 36 anJ), (h37, aJ (k 1) 40 anJ), (h38, aJ (k 1) 40 anJ), (h39, aJ (k 1) 40 anJ), (h40, aJ (k 1) 40 anJ), (h0, ob 7 [.ref h1, .ref h2, .int h0f2, .ref h3, .ref h4, .ref h5, .int h0f6, .ref h6, .int h0f8, .null, .ref h7, .int h0f11, .ref h8, .ref h9, .ref h10, .ref h11, .ref h12]), (h4, aQ (k 3) 4 (q4 h17 h18 h19 h20)), (h17, ob 5 [.int h17f0, .int h17f1, .ref h37]), (h18, ob 5 [.int h18f0, .int h18f1, .ref h38]), (h19, ob 5 [.int h19f0, .int h19f1, .ref h39]), (h20, ob 5 [.int h20f0, .int h20f1, .ref h40]), (h1, ob 4 [.int h1f0, .int h1f1, .int h1f2, .ref h13])] _ := hT
        exfalso; omega
    · skip
      have hT := J _ hT1
      have hT : TP D A [(h11, aJ (k 1) 9 anJ), (h12, aJ (k 1) 9 anJ), (h13, aJ (k 1) 36 anJ), (h37, aJ (k 1) 40 anJ), (h38, aJ (k 1) 40 anJ), (h39, aJ (k 1) 40 anJ), (h40, aJ (k 1) 40 anJ), (h0, ob 7 [.ref h1, .ref h2, .int h0f2, .ref h3, .ref h4, .ref h5, .int h0f6, .ref h6, .int h0f8, .null, .ref h7, .int h0f11, .ref h8, .ref h9, .ref h10, .ref h11, .ref h12]), (h4, aQ (k 3) 4 (q4 h17 h18 h19 h20)), (h17, ob 5 [.int h17f0, .int h17f1, .ref h37]), (h18, ob 5 [.int h18f0, .int h18f1, .ref h38]), (h19, ob 5 [.int h19f0, .int h19f1, .ref h39]), (h20, ob 5 [.int h20f0, .int h20f1, .ref h40]), (h1, ob 4 [.int h1f0, .int h1f1, .int h1f2, .ref h13])] _ := hT
      exfalso; omega
    · skip
      have hT := J _ hT1
      have hT : TP D A [(h11, aJ (k 1) 9 anJ), (h12, aJ (k 1) 9 anJ), (h13, aJ (k 1) 36 anJ), (h37, aJ (k 1) 40 anJ), (h38, aJ (k 1) 40 anJ), (h39, aJ (k 1) 40 anJ), (h40, aJ (k 1) 40 anJ), (h0, ob 7 [.ref h1, .ref h2, .int h0f2, .ref h3, .ref h4, .ref h5, .int h0f6, .ref h6, .int h0f8, .null, .ref h7, .int h0f11, .ref h8, .ref h9, .ref h10, .ref h11, .ref h12]), (h4, aQ (k 3) 4 (q4 h17 h18 h19 h20)), (h17, ob 5 [.int h17f0, .int h17f1, .ref h37]), (h18, ob 5 [.int h18f0, .int h18f1, .ref h38]), (h19, ob 5 [.int h19f0, .int h19f1, .ref h39]), (h20, ob 5 [.int h20f0, .int h20f1, .ref h40]), (h1, ob 4 [.int h1f0, .int h1f1, .int h1f2, .ref h13])] _ := hT
      exfalso; omega
  · skip
    have hT := J _ hT1
    have hT : TP D A [(h11, aJ (k 1) 9 anJ), (h12, aJ (k 1) 9 anJ), (h13, aJ (k 1) 36 anJ), (h37, aJ (k 1) 40 anJ), (h38, aJ (k 1) 40 anJ), (h39, aJ (k 1) 40 anJ), (h40, aJ (k 1) 40 anJ), (h0, ob 7 [.ref h1, .ref h2, .int h0f2, .ref h3, .ref h4, .ref h5, .int h0f6, .ref h6, .int h0f8, .null, .ref h7, .int h0f11, .ref h8, .ref h9, .ref h10, .ref h11, .ref h12]), (h1, ob 4 [.int h1f0, .int h1f1, .int h1f2, .ref h13]), (h4, aQ (k 3) 4 (q4 h17 h18 h19 h20)), (h17, ob 5 [.int h17f0, .int h17f1, .ref h37]), (h18, ob 5 [.int h18f0, .int h18f1, .ref h38]), (h19, ob 5 [.int h19f0, .int h19f1, .ref h39]), (h20, ob 5 [.int h20f0, .int h20f1, .ref h40])] _ := hT
    refine lv_istore_n (lv' := [(3, .int 0), (0, .ref h0), (1, .int x1), (2, .int x2)]) hx hb dX10_keeps_7 rfl hl (by decide) rfl (fun ls hl => ?_)
    refine lv_iload_n hx hb dX10_keeps_8 rfl (lv_at hl 0 rfl) ?_
    refine lv_if_eq (tgt := 14) hx hb dX10_keeps_9 (by decide) (fun _ => ?_) (fun cc => absurd (by decide +kernel) cc)
    refine lv_aload_n hx hb dX10_keeps_14 rfl (lv_at hl 1 rfl) ?_
    refine tz_get (ci := 7) (v := .ref h4) (C := RX10) (F := TX10) (N := 17) hx hb hU iX10 hown hK hT 7 rfl rfl 4 (by decide) w253 (fun _ h9 => h9) rfl dX10_keeps_15 ?_
    refine lv_iload_n hx hb dX10_keeps_18 rfl (lv_at hl 2 rfl) ?_
    have hq258 : x1.toInt = 1 := by omega
    refine tz_aldq (b := h18) hx hb hK hT 9 rfl (vp_in_iff.mpr (by have := hq258; omega)) (fun f hf => by rw [cl_of hq258]; exact hf.2.1) dX10_keeps_19 ?_
    refine tz_get (ci := 5) (v := .ref h38) (C := RX6) (F := TX6) (N := 3) hx hb hU iX6 hown hK hT 11 rfl rfl 2 (by decide) w241 (fun _ h9 => h9) rfl dX10_keeps_20 ?_
    refine lv_iload_n hx hb dX10_keeps_23 rfl (lv_at hl 3 rfl) ?_
    refine lv_aload_n hx hb dX10_keeps_24 rfl (lv_at hl 1 rfl) ?_
    refine tz_get (ci := 7) (v := .ref h11) (C := RX10) (F := TX10) (N := 17) hx hb hU iX10 hown hK hT 7 rfl rfl 15 (by decide) w264 (fun _ h9 => h9) rfl dX10_keeps_25 ?_
    refine lv_iconst (v := 0) hx hb dX10_keeps_28 (by decide) ?_
    refine lv_aload_n hx hb dX10_keeps_29 rfl (lv_at hl 1 rfl) ?_
    refine tz_get (ci := 7) (v := .ref h1) (C := RX10) (F := TX10) (N := 17) hx hb hU iX10 hown hK hT 7 rfl rfl 0 (by decide) w249 (fun _ h9 => h9) rfl dX10_keeps_30 ?_
    refine tcI (Tc := [(h1, ob 4 [.int h1f0, .int h1f1, .int h1f2, .ref h13])]) (Tr := [(h11, aJ (k 1) 9 anJ), (h12, aJ (k 1) 9 anJ), (h13, aJ (k 1) 36 anJ), (h37, aJ (k 1) 40 anJ), (h38, aJ (k 1) 40 anJ), (h39, aJ (k 1) 40 anJ), (h40, aJ (k 1) 40 anJ), (h0, ob 7 [.ref h1, .ref h2, .int h0f2, .ref h3, .ref h4, .ref h5, .int h0f6, .ref h6, .int h0f8, .null, .ref h7, .int h0f11, .ref h8, .ref h9, .ref h10, .ref h11, .ref h12]), (h4, aQ (k 3) 4 (q4 h17 h18 h19 h20)), (h17, ob 5 [.int h17f0, .int h17f1, .ref h37]), (h18, ob 5 [.int h18f0, .int h18f1, .ref h38]), (h19, ob 5 [.int h19f0, .int h19f1, .ref h39]), (h20, ob 5 [.int h20f0, .int h20f1, .ref h40])]) (as := [h1]) (zcV (q0 := 8) (ci := 4) (As := []) (rest := [.int 0, .ref h11, .int x2, .ref h38]) (Tc := [(h1, ob 4 [.int h1f0, .int h1f1, .int h1f2, .ref h13])]) hx hb hml hown hU hK hT rfl rfl [8] rfl (by decide) (cX5_cellCount_f3983 l D k _ h1 h13 h1f0 h1f1 h1f2 (by omega) (by omega)) w385 w382 w383 w384 w64 hdX5_cellCount ⟨rfl, rfl⟩ ⟨Nat.le_of_ble_eq_true rfl, Nat.le_of_ble_eq_true rfl⟩ rfl hl.1 (Nat.le_of_ble_eq_true rfl) dX10_keeps_33 ⟨Nat.le_of_ble_eq_true rfl, Nat.le_of_ble_eq_true rfl⟩) hT hS hA [8] [0, 1, 2, 3, 4, 5, 6, 7, 9, 10, 11, 12, 13] rfl rfl rfl (by decide) (by decide) (fun r259 H locs hB J hS => ?_)
    rcases hB with ⟨v260, b_v260, c_261, c_262, rfl, hT1⟩ | ⟨v263, b_v263, c_264, c_265, rfl, hT1⟩ | ⟨v266, b_v266, c_267, c_268, rfl, hT1⟩
    · skip
      have hT := J _ hT1
      have hT : TP D A [(h11, aJ (k 1) 9 anJ), (h12, aJ (k 1) 9 anJ), (h13, aJ (k 1) 36 anJ), (h37, aJ (k 1) 40 anJ), (h38, aJ (k 1) 40 anJ), (h39, aJ (k 1) 40 anJ), (h40, aJ (k 1) 40 anJ), (h0, ob 7 [.ref h1, .ref h2, .int h0f2, .ref h3, .ref h4, .ref h5, .int h0f6, .ref h6, .int h0f8, .null, .ref h7, .int h0f11, .ref h8, .ref h9, .ref h10, .ref h11, .ref h12]), (h4, aQ (k 3) 4 (q4 h17 h18 h19 h20)), (h17, ob 5 [.int h17f0, .int h17f1, .ref h37]), (h18, ob 5 [.int h18f0, .int h18f1, .ref h38]), (h19, ob 5 [.int h19f0, .int h19f1, .ref h39]), (h20, ob 5 [.int h20f0, .int h20f1, .ref h40]), (h1, ob 4 [.int h1f0, .int h1f1, .int h1f2, .ref h13])] _ := hT
      exfalso; omega
    · skip
      have hT := J _ hT1
      have hT : TP D A [(h11, aJ (k 1) 9 anJ), (h12, aJ (k 1) 9 anJ), (h13, aJ (k 1) 36 anJ), (h37, aJ (k 1) 40 anJ), (h38, aJ (k 1) 40 anJ), (h39, aJ (k 1) 40 anJ), (h40, aJ (k 1) 40 anJ), (h0, ob 7 [.ref h1, .ref h2, .int h0f2, .ref h3, .ref h4, .ref h5, .int h0f6, .ref h6, .int h0f8, .null, .ref h7, .int h0f11, .ref h8, .ref h9, .ref h10, .ref h11, .ref h12]), (h4, aQ (k 3) 4 (q4 h17 h18 h19 h20)), (h17, ob 5 [.int h17f0, .int h17f1, .ref h37]), (h18, ob 5 [.int h18f0, .int h18f1, .ref h38]), (h19, ob 5 [.int h19f0, .int h19f1, .ref h39]), (h20, ob 5 [.int h20f0, .int h20f1, .ref h40]), (h1, ob 4 [.int h1f0, .int h1f1, .int h1f2, .ref h13])] _ := hT
      refine tz_copyl hx hb (by rw [hml]; exact hl.1.symm) hown hU w410 w348 w347 w75 hK hT hS 4 0 rfl rfl (by have := li_0; omega) (fun _ _ _ _ => trivial) (Nat.le_of_ble_eq_true rfl) (Nat.le_of_ble_eq_true rfl) dX10_keeps_36 (fun H locs hT hS => ?_)
      refine lv_aload_n hx hb dX10_keeps_39 rfl (lv_at hl 1 rfl) ?_
      refine tz_get (ci := 7) (v := .ref h11) (C := RX10) (F := TX10) (N := 17) hx hb hU iX10 hown hK hT 7 rfl rfl 15 (by decide) w264 (fun _ h9 => h9) rfl dX10_keeps_40 ?_
      refine lv_aload_n hx hb dX10_keeps_43 rfl (lv_at hl 1 rfl) ?_
      refine tz_get (ci := 7) (v := .ref h1) (C := RX10) (F := TX10) (N := 17) hx hb hU iX10 hown hK hT 7 rfl rfl 0 (by decide) w249 (fun _ h9 => h9) rfl dX10_keeps_44 ?_
      refine tcI (Tc := [(h1, ob 4 [.int h1f0, .int h1f1, .int h1f2, .ref h13])]) (Tr := [(h11, aJ (k 1) 9 anJ), (h12, aJ (k 1) 9 anJ), (h13, aJ (k 1) 36 anJ), (h37, aJ (k 1) 40 anJ), (h38, aJ (k 1) 40 anJ), (h39, aJ (k 1) 40 anJ), (h40, aJ (k 1) 40 anJ), (h0, ob 7 [.ref h1, .ref h2, .int h0f2, .ref h3, .ref h4, .ref h5, .int h0f6, .ref h6, .int h0f8, .null, .ref h7, .int h0f11, .ref h8, .ref h9, .ref h10, .ref h11, .ref h12]), (h4, aQ (k 3) 4 (q4 h17 h18 h19 h20)), (h17, ob 5 [.int h17f0, .int h17f1, .ref h37]), (h18, ob 5 [.int h18f0, .int h18f1, .ref h38]), (h19, ob 5 [.int h19f0, .int h19f1, .ref h39]), (h20, ob 5 [.int h20f0, .int h20f1, .ref h40])]) (as := [h1]) (zcV (q0 := 13) (ci := 4) (As := []) (rest := [.ref h11]) (Tc := [(h1, ob 4 [.int h1f0, .int h1f1, .int h1f2, .ref h13])]) hx hb hml hown hU hK hT rfl rfl [13] rfl (by decide) (cX5_cellCount_f3983 l D k _ h1 h13 h1f0 h1f1 h1f2 (by omega) (by omega)) w385 w382 w383 w384 w64 hdX5_cellCount ⟨rfl, rfl⟩ ⟨Nat.le_of_ble_eq_true rfl, Nat.le_of_ble_eq_true rfl⟩ rfl hl.1 (Nat.le_of_ble_eq_true rfl) dX10_keeps_47 ⟨Nat.le_of_ble_eq_true rfl, Nat.le_of_ble_eq_true rfl⟩) hT hS hA [13] [0, 1, 2, 3, 4, 5, 6, 7, 8, 9, 10, 11, 12] rfl rfl rfl (by decide) (by decide) (fun r269 H locs hB J hS => ?_)
      rcases hB with ⟨v270, b_v270, c_271, c_272, rfl, hT1⟩ | ⟨v273, b_v273, c_274, c_275, rfl, hT1⟩ | ⟨v276, b_v276, c_277, c_278, rfl, hT1⟩
      · skip
        have hT := J _ hT1
        have hT : TP D A [(h11, aJ (k 1) 9 anJ), (h12, aJ (k 1) 9 anJ), (h13, aJ (k 1) 36 anJ), (h37, aJ (k 1) 40 anJ), (h38, aJ (k 1) 40 anJ), (h39, aJ (k 1) 40 anJ), (h40, aJ (k 1) 40 anJ), (h0, ob 7 [.ref h1, .ref h2, .int h0f2, .ref h3, .ref h4, .ref h5, .int h0f6, .ref h6, .int h0f8, .null, .ref h7, .int h0f11, .ref h8, .ref h9, .ref h10, .ref h11, .ref h12]), (h4, aQ (k 3) 4 (q4 h17 h18 h19 h20)), (h17, ob 5 [.int h17f0, .int h17f1, .ref h37]), (h18, ob 5 [.int h18f0, .int h18f1, .ref h38]), (h19, ob 5 [.int h19f0, .int h19f1, .ref h39]), (h20, ob 5 [.int h20f0, .int h20f1, .ref h40]), (h1, ob 4 [.int h1f0, .int h1f1, .int h1f2, .ref h13])] _ := hT
        exfalso; omega
      · skip
        have hT := J _ hT1
        have hT : TP D A [(h11, aJ (k 1) 9 anJ), (h12, aJ (k 1) 9 anJ), (h13, aJ (k 1) 36 anJ), (h37, aJ (k 1) 40 anJ), (h38, aJ (k 1) 40 anJ), (h39, aJ (k 1) 40 anJ), (h40, aJ (k 1) 40 anJ), (h0, ob 7 [.ref h1, .ref h2, .int h0f2, .ref h3, .ref h4, .ref h5, .int h0f6, .ref h6, .int h0f8, .null, .ref h7, .int h0f11, .ref h8, .ref h9, .ref h10, .ref h11, .ref h12]), (h4, aQ (k 3) 4 (q4 h17 h18 h19 h20)), (h17, ob 5 [.int h17f0, .int h17f1, .ref h37]), (h18, ob 5 [.int h18f0, .int h18f1, .ref h38]), (h19, ob 5 [.int h19f0, .int h19f1, .ref h39]), (h20, ob 5 [.int h20f0, .int h20f1, .ref h40]), (h1, ob 4 [.int h1f0, .int h1f1, .int h1f2, .ref h13])] _ := hT
        refine lv_ldc2 hx hb hown (hU _ w649) dX10_keeps_50 ?_
        have q_q280 := ll_1000000
        refine tcI (Tc := [(h11, aJ (k 1) 9 anJ)]) (Tr := [(h12, aJ (k 1) 9 anJ), (h13, aJ (k 1) 36 anJ), (h37, aJ (k 1) 40 anJ), (h38, aJ (k 1) 40 anJ), (h39, aJ (k 1) 40 anJ), (h40, aJ (k 1) 40 anJ), (h0, ob 7 [.ref h1, .ref h2, .int h0f2, .ref h3, .ref h4, .ref h5, .int h0f6, .ref h6, .int h0f8, .null, .ref h7, .int h0f11, .ref h8, .ref h9, .ref h10, .ref h11, .ref h12]), (h4, aQ (k 3) 4 (q4 h17 h18 h19 h20)), (h17, ob 5 [.int h17f0, .int h17f1, .ref h37]), (h18, ob 5 [.int h18f0, .int h18f1, .ref h38]), (h19, ob 5 [.int h19f0, .int h19f1, .ref h39]), (h20, ob 5 [.int h20f0, .int h20f1, .ref h40]), (h1, ob 4 [.int h1f0, .int h1f1, .int h1f2, .ref h13])]) (as := [h11]) (zcS (As := [.ref h11, .int v273, .long 1000000]) (rest := []) (Tc := [(h11, aJ (k 1) 9 anJ)]) hx hb hml hown hU hK hT [0] rfl (by decide) (cX7_isWithin_443ab l D k _ h11 v273 (1000000) (by omega) (by have := ll_1000000; omega)) w389 w387 w388 w74 hdX7_isWithin ⟨rfl, rfl⟩ ⟨Nat.le_of_ble_eq_true rfl, Nat.le_of_ble_eq_true rfl⟩ rfl hl.1 (Nat.le_of_ble_eq_true rfl) dX10_keeps_53 ⟨Nat.le_of_ble_eq_true rfl, Nat.le_of_ble_eq_true rfl⟩) hT hS hA [0] [1, 2, 3, 4, 5, 6, 7, 8, 9, 10, 11, 12, 13] rfl rfl rfl (by decide) (by decide) (fun r279 H locs hB J hS => ?_)
        obtain ⟨b_r279, hT1⟩ := hB
        have hT := J _ hT1
        have hT : TP D A [(h12, aJ (k 1) 9 anJ), (h13, aJ (k 1) 36 anJ), (h37, aJ (k 1) 40 anJ), (h38, aJ (k 1) 40 anJ), (h39, aJ (k 1) 40 anJ), (h40, aJ (k 1) 40 anJ), (h0, ob 7 [.ref h1, .ref h2, .int h0f2, .ref h3, .ref h4, .ref h5, .int h0f6, .ref h6, .int h0f8, .null, .ref h7, .int h0f11, .ref h8, .ref h9, .ref h10, .ref h11, .ref h12]), (h4, aQ (k 3) 4 (q4 h17 h18 h19 h20)), (h17, ob 5 [.int h17f0, .int h17f1, .ref h37]), (h18, ob 5 [.int h18f0, .int h18f1, .ref h38]), (h19, ob 5 [.int h19f0, .int h19f1, .ref h39]), (h20, ob 5 [.int h20f0, .int h20f1, .ref h40]), (h1, ob 4 [.int h1f0, .int h1f1, .int h1f2, .ref h13]), (h11, aJ (k 1) 9 anJ)] _ := hT
        refine lv_if_ne (tgt := 62) hx hb dX10_keeps_56 (by decide) (fun c_281 => ?_) (fun c_281 => ?_)
        · skip
          have c_281 := ni_ne c_281 rfl li_0
          refine lv_aload_n hx hb dX10_keeps_62 rfl (lv_at hl 1 rfl) ?_
          refine tcI (Tc := [(h0, ob 7 [.ref h1, .ref h2, .int h0f2, .ref h3, .ref h4, .ref h5, .int h0f6, .ref h6, .int h0f8, .null, .ref h7, .int h0f11, .ref h8, .ref h9, .ref h10, .ref h11, .ref h12]), (h1, ob 4 [.int h1f0, .int h1f1, .int h1f2, .ref h13]), (h11, aJ (k 1) 9 anJ), (h12, aJ (k 1) 9 anJ)]) (Tr := [(h13, aJ (k 1) 36 anJ), (h37, aJ (k 1) 40 anJ), (h38, aJ (k 1) 40 anJ), (h39, aJ (k 1) 40 anJ), (h40, aJ (k 1) 40 anJ), (h4, aQ (k 3) 4 (q4 h17 h18 h19 h20)), (h17, ob 5 [.int h17f0, .int h17f1, .ref h37]), (h18, ob 5 [.int h18f0, .int h18f1, .ref h38]), (h19, ob 5 [.int h19f0, .int h19f1, .ref h39]), (h20, ob 5 [.int h20f0, .int h20f1, .ref h40])]) (as := [h0, h1, h11, h12]) (zcV (q0 := 6) (ci := 7) (As := []) (rest := []) (Tc := [(h0, ob 7 [.ref h1, .ref h2, .int h0f2, .ref h3, .ref h4, .ref h5, .int h0f6, .ref h6, .int h0f8, .null, .ref h7, .int h0f11, .ref h8, .ref h9, .ref h10, .ref h11, .ref h12]), (h1, ob 4 [.int h1f0, .int h1f1, .int h1f2, .ref h13]), (h11, aJ (k 1) 9 anJ), (h12, aJ (k 1) 9 anJ)]) hx hb hml hown hU hK hT rfl rfl [6, 12, 13, 0] rfl (by decide) (cX10_isPositiveForm_92f38 l D k _ h0 h1 h11 h12 h2 h3 h4 h5 h6 h7 h8 h9 h10 h13 h0f2 h0f6 h0f8 h0f11 h1f0 h1f1 h1f2 (by omega) (by omega) (by omega) (by omega) (by omega) (by omega)) w653 w650 w652 w19 w63 hdX10_isPositiveForm ⟨rfl, rfl⟩ ⟨Nat.le_of_ble_eq_true rfl, Nat.le_of_ble_eq_true rfl⟩ rfl hl.1 (Nat.le_of_ble_eq_true rfl) dX10_keeps_63 ⟨Nat.le_of_ble_eq_true rfl, Nat.le_of_ble_eq_true rfl⟩) hT hS hA [6, 12, 13, 0] [1, 2, 3, 4, 5, 7, 8, 9, 10, 11] rfl rfl rfl (by decide) (by decide) (fun r282 H locs hB J hS => ?_)
          obtain ⟨b_r282, hT1⟩ := hB
          have hT := J _ hT1
          have hT : TP D A [(h13, aJ (k 1) 36 anJ), (h37, aJ (k 1) 40 anJ), (h38, aJ (k 1) 40 anJ), (h39, aJ (k 1) 40 anJ), (h40, aJ (k 1) 40 anJ), (h4, aQ (k 3) 4 (q4 h17 h18 h19 h20)), (h17, ob 5 [.int h17f0, .int h17f1, .ref h37]), (h18, ob 5 [.int h18f0, .int h18f1, .ref h38]), (h19, ob 5 [.int h19f0, .int h19f1, .ref h39]), (h20, ob 5 [.int h20f0, .int h20f1, .ref h40]), (h0, ob 7 [.ref h1, .ref h2, .int h0f2, .ref h3, .ref h4, .ref h5, .int h0f6, .ref h6, .int h0f8, .null, .ref h7, .int h0f11, .ref h8, .ref h9, .ref h10, .ref h11, .ref h12]), (h1, ob 4 [.int h1f0, .int h1f1, .int h1f2, .ref h13]), (h11, aJ (k 1) 9 anJ), (h12, aJ (k 1) 9 anJ)] _ := hT
          refine lv_if_eq (tgt := 80) hx hb dX10_keeps_66 (by decide) (fun c_283 => ?_) (fun c_283 => ?_)
          · skip
            have c_283 := ni_eq c_283 rfl li_0
            refine lv_iconst (v := 0) hx hb dX10_keeps_80 (by decide) ?_
            exact tz_retI (B := B_cX10_keeps_deb30 D k h0 h1 h4 h11 h12 h13 h17 h18 h19 h20 h37 h38 h39 h40 h2 h3 h5 h6 h7 h8 h9 h10 x1 x2 h0f2 h0f6 h0f8 h0f11 h1f0 h1f1 h1f2 h17f0 h17f1 h18f0 h18f1 h19f0 h19f1 h20f0 h20f1) (v := 0) hQ hx hb hr hlocks hS (Nat.le_of_ble_eq_true rfl) (Nat.le_of_ble_eq_true rfl) dX10_keeps_81 (⟨(by have := li_0; omega), (hT.sub [10, 11, 5, 12, 13, 0, 6, 7, 8, 9, 1, 2, 3, 4] (by decide) rfl)⟩)
          · skip
            have c_283 := ni_ne c_283 rfl li_0
            refine lv_aload_n hx hb dX10_keeps_69 rfl (lv_at hl 1 rfl) ?_
            refine tcI (Tc := [(h0, ob 7 [.ref h1, .ref h2, .int h0f2, .ref h3, .ref h4, .ref h5, .int h0f6, .ref h6, .int h0f8, .null, .ref h7, .int h0f11, .ref h8, .ref h9, .ref h10, .ref h11, .ref h12]), (h1, ob 4 [.int h1f0, .int h1f1, .int h1f2, .ref h13]), (h11, aJ (k 1) 9 anJ), (h12, aJ (k 1) 9 anJ), (h13, aJ (k 1) 36 anJ)]) (Tr := [(h37, aJ (k 1) 40 anJ), (h38, aJ (k 1) 40 anJ), (h39, aJ (k 1) 40 anJ), (h40, aJ (k 1) 40 anJ), (h4, aQ (k 3) 4 (q4 h17 h18 h19 h20)), (h17, ob 5 [.int h17f0, .int h17f1, .ref h37]), (h18, ob 5 [.int h18f0, .int h18f1, .ref h38]), (h19, ob 5 [.int h19f0, .int h19f1, .ref h39]), (h20, ob 5 [.int h20f0, .int h20f1, .ref h40])]) (as := [h0, h1, h11, h12, h13]) (zcV (q0 := 10) (ci := 7) (As := []) (rest := []) (Tc := [(h0, ob 7 [.ref h1, .ref h2, .int h0f2, .ref h3, .ref h4, .ref h5, .int h0f6, .ref h6, .int h0f8, .null, .ref h7, .int h0f11, .ref h8, .ref h9, .ref h10, .ref h11, .ref h12]), (h1, ob 4 [.int h1f0, .int h1f1, .int h1f2, .ref h13]), (h11, aJ (k 1) 9 anJ), (h12, aJ (k 1) 9 anJ), (h13, aJ (k 1) 36 anJ)]) hx hb hml hown hU hK hT rfl rfl [10, 11, 12, 13, 0] rfl (by decide) (cX10_noGeneratorChangesForm_52b64 l D k _ h0 h1 h11 h12 h13 h2 h3 h4 h5 h6 h7 h8 h9 h10 h0f2 h0f6 h0f8 h0f11 h1f0 h1f1 h1f2 (by omega) (by omega) (by omega) (by omega) (by omega) (by omega)) w657 w654 w656 w20 w63 hdX10_noGeneratorChangesForm ⟨rfl, rfl⟩ ⟨Nat.le_of_ble_eq_true rfl, Nat.le_of_ble_eq_true rfl⟩ rfl hl.1 (Nat.le_of_ble_eq_true rfl) dX10_keeps_70 ⟨Nat.le_of_ble_eq_true rfl, Nat.le_of_ble_eq_true rfl⟩) hT hS hA [10, 11, 12, 13, 0] [1, 2, 3, 4, 5, 6, 7, 8, 9] rfl rfl rfl (by decide) (by decide) (fun r284 H locs hB J hS => ?_)
            obtain ⟨b_r284, hT1⟩ := hB
            have hT := J _ hT1
            have hT : TP D A [(h37, aJ (k 1) 40 anJ), (h38, aJ (k 1) 40 anJ), (h39, aJ (k 1) 40 anJ), (h40, aJ (k 1) 40 anJ), (h4, aQ (k 3) 4 (q4 h17 h18 h19 h20)), (h17, ob 5 [.int h17f0, .int h17f1, .ref h37]), (h18, ob 5 [.int h18f0, .int h18f1, .ref h38]), (h19, ob 5 [.int h19f0, .int h19f1, .ref h39]), (h20, ob 5 [.int h20f0, .int h20f1, .ref h40]), (h0, ob 7 [.ref h1, .ref h2, .int h0f2, .ref h3, .ref h4, .ref h5, .int h0f6, .ref h6, .int h0f8, .null, .ref h7, .int h0f11, .ref h8, .ref h9, .ref h10, .ref h11, .ref h12]), (h1, ob 4 [.int h1f0, .int h1f1, .int h1f2, .ref h13]), (h11, aJ (k 1) 9 anJ), (h12, aJ (k 1) 9 anJ), (h13, aJ (k 1) 36 anJ)] _ := hT
            refine lv_if_eq (tgt := 80) hx hb dX10_keeps_73 (by decide) (fun c_285 => ?_) (fun c_285 => ?_)
            · skip
              have c_285 := ni_eq c_285 rfl li_0
              refine lv_iconst (v := 0) hx hb dX10_keeps_80 (by decide) ?_
              exact tz_retI (B := B_cX10_keeps_deb30 D k h0 h1 h4 h11 h12 h13 h17 h18 h19 h20 h37 h38 h39 h40 h2 h3 h5 h6 h7 h8 h9 h10 x1 x2 h0f2 h0f6 h0f8 h0f11 h1f0 h1f1 h1f2 h17f0 h17f1 h18f0 h18f1 h19f0 h19f1 h20f0 h20f1) (v := 0) hQ hx hb hr hlocks hS (Nat.le_of_ble_eq_true rfl) (Nat.le_of_ble_eq_true rfl) dX10_keeps_81 (⟨(by have := li_0; omega), (hT.sub [9, 10, 4, 11, 12, 13, 5, 6, 7, 8, 0, 1, 2, 3] (by decide) rfl)⟩)
            · skip
              have c_285 := ni_ne c_285 rfl li_0
              refine lv_iconst (v := 1) hx hb dX10_keeps_76 (by decide) ?_
              refine lv_goto (tgt := 81) hx hb dX10_keeps_77 (by decide) ?_
              exact tz_retI (B := B_cX10_keeps_deb30 D k h0 h1 h4 h11 h12 h13 h17 h18 h19 h20 h37 h38 h39 h40 h2 h3 h5 h6 h7 h8 h9 h10 x1 x2 h0f2 h0f6 h0f8 h0f11 h1f0 h1f1 h1f2 h17f0 h17f1 h18f0 h18f1 h19f0 h19f1 h20f0 h20f1) (v := 1) hQ hx hb hr hlocks hS (Nat.le_of_ble_eq_true rfl) (Nat.le_of_ble_eq_true rfl) dX10_keeps_81 (⟨(by have := li_1; omega), (hT.sub [9, 10, 4, 11, 12, 13, 5, 6, 7, 8, 0, 1, 2, 3] (by decide) rfl)⟩)
        · skip
          have c_281 := ni_eq c_281 rfl li_0
          refine lv_bipush (v := (-16)) hx hb dX10_keeps_59 (by decide) ?_
          exact tz_retI (B := B_cX10_keeps_deb30 D k h0 h1 h4 h11 h12 h13 h17 h18 h19 h20 h37 h38 h39 h40 h2 h3 h5 h6 h7 h8 h9 h10 x1 x2 h0f2 h0f6 h0f8 h0f11 h1f0 h1f1 h1f2 h17f0 h17f1 h18f0 h18f1 h19f0 h19f1 h20f0 h20f1) (v := (-16)) hQ hx hb hr hlocks hS (Nat.le_of_ble_eq_true rfl) (Nat.le_of_ble_eq_true rfl) dX10_keeps_61 (⟨(by have := li_m16; omega), (hT.sub [6, 12, 7, 13, 0, 1, 8, 9, 10, 11, 2, 3, 4, 5] (by decide) rfl)⟩)
      · skip
        have hT := J _ hT1
        have hT : TP D A [(h11, aJ (k 1) 9 anJ), (h12, aJ (k 1) 9 anJ), (h13, aJ (k 1) 36 anJ), (h37, aJ (k 1) 40 anJ), (h38, aJ (k 1) 40 anJ), (h39, aJ (k 1) 40 anJ), (h40, aJ (k 1) 40 anJ), (h0, ob 7 [.ref h1, .ref h2, .int h0f2, .ref h3, .ref h4, .ref h5, .int h0f6, .ref h6, .int h0f8, .null, .ref h7, .int h0f11, .ref h8, .ref h9, .ref h10, .ref h11, .ref h12]), (h4, aQ (k 3) 4 (q4 h17 h18 h19 h20)), (h17, ob 5 [.int h17f0, .int h17f1, .ref h37]), (h18, ob 5 [.int h18f0, .int h18f1, .ref h38]), (h19, ob 5 [.int h19f0, .int h19f1, .ref h39]), (h20, ob 5 [.int h20f0, .int h20f1, .ref h40]), (h1, ob 4 [.int h1f0, .int h1f1, .int h1f2, .ref h13])] _ := hT
        exfalso; omega
    · skip
      have hT := J _ hT1
      have hT : TP D A [(h11, aJ (k 1) 9 anJ), (h12, aJ (k 1) 9 anJ), (h13, aJ (k 1) 36 anJ), (h37, aJ (k 1) 40 anJ), (h38, aJ (k 1) 40 anJ), (h39, aJ (k 1) 40 anJ), (h40, aJ (k 1) 40 anJ), (h0, ob 7 [.ref h1, .ref h2, .int h0f2, .ref h3, .ref h4, .ref h5, .int h0f6, .ref h6, .int h0f8, .null, .ref h7, .int h0f11, .ref h8, .ref h9, .ref h10, .ref h11, .ref h12]), (h4, aQ (k 3) 4 (q4 h17 h18 h19 h20)), (h17, ob 5 [.int h17f0, .int h17f1, .ref h37]), (h18, ob 5 [.int h18f0, .int h18f1, .ref h38]), (h19, ob 5 [.int h19f0, .int h19f1, .ref h39]), (h20, ob 5 [.int h20f0, .int h20f1, .ref h40]), (h1, ob 4 [.int h1f0, .int h1f1, .int h1f2, .ref h13])] _ := hT
      exfalso; omega
  · skip
    have hT := J _ hT1
    have hT : TP D A [(h11, aJ (k 1) 9 anJ), (h12, aJ (k 1) 9 anJ), (h13, aJ (k 1) 36 anJ), (h37, aJ (k 1) 40 anJ), (h38, aJ (k 1) 40 anJ), (h39, aJ (k 1) 40 anJ), (h40, aJ (k 1) 40 anJ), (h0, ob 7 [.ref h1, .ref h2, .int h0f2, .ref h3, .ref h4, .ref h5, .int h0f6, .ref h6, .int h0f8, .null, .ref h7, .int h0f11, .ref h8, .ref h9, .ref h10, .ref h11, .ref h12]), (h1, ob 4 [.int h1f0, .int h1f1, .int h1f2, .ref h13]), (h4, aQ (k 3) 4 (q4 h17 h18 h19 h20)), (h17, ob 5 [.int h17f0, .int h17f1, .ref h37]), (h18, ob 5 [.int h18f0, .int h18f1, .ref h38]), (h19, ob 5 [.int h19f0, .int h19f1, .ref h39]), (h20, ob 5 [.int h20f0, .int h20f1, .ref h40])] _ := hT
    refine lv_istore_n (lv' := [(3, .int 0), (0, .ref h0), (1, .int x1), (2, .int x2)]) hx hb dX10_keeps_7 rfl hl (by decide) rfl (fun ls hl => ?_)
    refine lv_iload_n hx hb dX10_keeps_8 rfl (lv_at hl 0 rfl) ?_
    refine lv_if_eq (tgt := 14) hx hb dX10_keeps_9 (by decide) (fun _ => ?_) (fun cc => absurd (by decide +kernel) cc)
    refine lv_aload_n hx hb dX10_keeps_14 rfl (lv_at hl 1 rfl) ?_
    refine tz_get (ci := 7) (v := .ref h4) (C := RX10) (F := TX10) (N := 17) hx hb hU iX10 hown hK hT 7 rfl rfl 4 (by decide) w253 (fun _ h9 => h9) rfl dX10_keeps_15 ?_
    refine lv_iload_n hx hb dX10_keeps_18 rfl (lv_at hl 2 rfl) ?_
    have hq286 : x1.toInt = 1 := by omega
    refine tz_aldq (b := h18) hx hb hK hT 9 rfl (vp_in_iff.mpr (by have := hq286; omega)) (fun f hf => by rw [cl_of hq286]; exact hf.2.1) dX10_keeps_19 ?_
    refine tz_get (ci := 5) (v := .ref h38) (C := RX6) (F := TX6) (N := 3) hx hb hU iX6 hown hK hT 11 rfl rfl 2 (by decide) w241 (fun _ h9 => h9) rfl dX10_keeps_20 ?_
    refine lv_iload_n hx hb dX10_keeps_23 rfl (lv_at hl 3 rfl) ?_
    refine lv_aload_n hx hb dX10_keeps_24 rfl (lv_at hl 1 rfl) ?_
    refine tz_get (ci := 7) (v := .ref h11) (C := RX10) (F := TX10) (N := 17) hx hb hU iX10 hown hK hT 7 rfl rfl 15 (by decide) w264 (fun _ h9 => h9) rfl dX10_keeps_25 ?_
    refine lv_iconst (v := 0) hx hb dX10_keeps_28 (by decide) ?_
    refine lv_aload_n hx hb dX10_keeps_29 rfl (lv_at hl 1 rfl) ?_
    refine tz_get (ci := 7) (v := .ref h1) (C := RX10) (F := TX10) (N := 17) hx hb hU iX10 hown hK hT 7 rfl rfl 0 (by decide) w249 (fun _ h9 => h9) rfl dX10_keeps_30 ?_
    refine tcI (Tc := [(h1, ob 4 [.int h1f0, .int h1f1, .int h1f2, .ref h13])]) (Tr := [(h11, aJ (k 1) 9 anJ), (h12, aJ (k 1) 9 anJ), (h13, aJ (k 1) 36 anJ), (h37, aJ (k 1) 40 anJ), (h38, aJ (k 1) 40 anJ), (h39, aJ (k 1) 40 anJ), (h40, aJ (k 1) 40 anJ), (h0, ob 7 [.ref h1, .ref h2, .int h0f2, .ref h3, .ref h4, .ref h5, .int h0f6, .ref h6, .int h0f8, .null, .ref h7, .int h0f11, .ref h8, .ref h9, .ref h10, .ref h11, .ref h12]), (h4, aQ (k 3) 4 (q4 h17 h18 h19 h20)), (h17, ob 5 [.int h17f0, .int h17f1, .ref h37]), (h18, ob 5 [.int h18f0, .int h18f1, .ref h38]), (h19, ob 5 [.int h19f0, .int h19f1, .ref h39]), (h20, ob 5 [.int h20f0, .int h20f1, .ref h40])]) (as := [h1]) (zcV (q0 := 8) (ci := 4) (As := []) (rest := [.int 0, .ref h11, .int x2, .ref h38]) (Tc := [(h1, ob 4 [.int h1f0, .int h1f1, .int h1f2, .ref h13])]) hx hb hml hown hU hK hT rfl rfl [8] rfl (by decide) (cX5_cellCount_f3983 l D k _ h1 h13 h1f0 h1f1 h1f2 (by omega) (by omega)) w385 w382 w383 w384 w64 hdX5_cellCount ⟨rfl, rfl⟩ ⟨Nat.le_of_ble_eq_true rfl, Nat.le_of_ble_eq_true rfl⟩ rfl hl.1 (Nat.le_of_ble_eq_true rfl) dX10_keeps_33 ⟨Nat.le_of_ble_eq_true rfl, Nat.le_of_ble_eq_true rfl⟩) hT hS hA [8] [0, 1, 2, 3, 4, 5, 6, 7, 9, 10, 11, 12, 13] rfl rfl rfl (by decide) (by decide) (fun r287 H locs hB J hS => ?_)
    rcases hB with ⟨v288, b_v288, c_289, c_290, rfl, hT1⟩ | ⟨v291, b_v291, c_292, c_293, rfl, hT1⟩ | ⟨v294, b_v294, c_295, c_296, rfl, hT1⟩
    · skip
      have hT := J _ hT1
      have hT : TP D A [(h11, aJ (k 1) 9 anJ), (h12, aJ (k 1) 9 anJ), (h13, aJ (k 1) 36 anJ), (h37, aJ (k 1) 40 anJ), (h38, aJ (k 1) 40 anJ), (h39, aJ (k 1) 40 anJ), (h40, aJ (k 1) 40 anJ), (h0, ob 7 [.ref h1, .ref h2, .int h0f2, .ref h3, .ref h4, .ref h5, .int h0f6, .ref h6, .int h0f8, .null, .ref h7, .int h0f11, .ref h8, .ref h9, .ref h10, .ref h11, .ref h12]), (h4, aQ (k 3) 4 (q4 h17 h18 h19 h20)), (h17, ob 5 [.int h17f0, .int h17f1, .ref h37]), (h18, ob 5 [.int h18f0, .int h18f1, .ref h38]), (h19, ob 5 [.int h19f0, .int h19f1, .ref h39]), (h20, ob 5 [.int h20f0, .int h20f1, .ref h40]), (h1, ob 4 [.int h1f0, .int h1f1, .int h1f2, .ref h13])] _ := hT
      exfalso; omega
    · skip
      have hT := J _ hT1
      have hT : TP D A [(h11, aJ (k 1) 9 anJ), (h12, aJ (k 1) 9 anJ), (h13, aJ (k 1) 36 anJ), (h37, aJ (k 1) 40 anJ), (h38, aJ (k 1) 40 anJ), (h39, aJ (k 1) 40 anJ), (h40, aJ (k 1) 40 anJ), (h0, ob 7 [.ref h1, .ref h2, .int h0f2, .ref h3, .ref h4, .ref h5, .int h0f6, .ref h6, .int h0f8, .null, .ref h7, .int h0f11, .ref h8, .ref h9, .ref h10, .ref h11, .ref h12]), (h4, aQ (k 3) 4 (q4 h17 h18 h19 h20)), (h17, ob 5 [.int h17f0, .int h17f1, .ref h37]), (h18, ob 5 [.int h18f0, .int h18f1, .ref h38]), (h19, ob 5 [.int h19f0, .int h19f1, .ref h39]), (h20, ob 5 [.int h20f0, .int h20f1, .ref h40]), (h1, ob 4 [.int h1f0, .int h1f1, .int h1f2, .ref h13])] _ := hT
      exfalso; omega
    · skip
      have hT := J _ hT1
      have hT : TP D A [(h11, aJ (k 1) 9 anJ), (h12, aJ (k 1) 9 anJ), (h13, aJ (k 1) 36 anJ), (h37, aJ (k 1) 40 anJ), (h38, aJ (k 1) 40 anJ), (h39, aJ (k 1) 40 anJ), (h40, aJ (k 1) 40 anJ), (h0, ob 7 [.ref h1, .ref h2, .int h0f2, .ref h3, .ref h4, .ref h5, .int h0f6, .ref h6, .int h0f8, .null, .ref h7, .int h0f11, .ref h8, .ref h9, .ref h10, .ref h11, .ref h12]), (h4, aQ (k 3) 4 (q4 h17 h18 h19 h20)), (h17, ob 5 [.int h17f0, .int h17f1, .ref h37]), (h18, ob 5 [.int h18f0, .int h18f1, .ref h38]), (h19, ob 5 [.int h19f0, .int h19f1, .ref h39]), (h20, ob 5 [.int h20f0, .int h20f1, .ref h40]), (h1, ob 4 [.int h1f0, .int h1f1, .int h1f2, .ref h13])] _ := hT
      refine tz_copyl hx hb (by rw [hml]; exact hl.1.symm) hown hU w410 w348 w347 w75 hK hT hS 4 0 rfl rfl (by have := li_0; omega) (fun _ _ _ _ => trivial) (Nat.le_of_ble_eq_true rfl) (Nat.le_of_ble_eq_true rfl) dX10_keeps_36 (fun H locs hT hS => ?_)
      refine lv_aload_n hx hb dX10_keeps_39 rfl (lv_at hl 1 rfl) ?_
      refine tz_get (ci := 7) (v := .ref h11) (C := RX10) (F := TX10) (N := 17) hx hb hU iX10 hown hK hT 7 rfl rfl 15 (by decide) w264 (fun _ h9 => h9) rfl dX10_keeps_40 ?_
      refine lv_aload_n hx hb dX10_keeps_43 rfl (lv_at hl 1 rfl) ?_
      refine tz_get (ci := 7) (v := .ref h1) (C := RX10) (F := TX10) (N := 17) hx hb hU iX10 hown hK hT 7 rfl rfl 0 (by decide) w249 (fun _ h9 => h9) rfl dX10_keeps_44 ?_
      refine tcI (Tc := [(h1, ob 4 [.int h1f0, .int h1f1, .int h1f2, .ref h13])]) (Tr := [(h11, aJ (k 1) 9 anJ), (h12, aJ (k 1) 9 anJ), (h13, aJ (k 1) 36 anJ), (h37, aJ (k 1) 40 anJ), (h38, aJ (k 1) 40 anJ), (h39, aJ (k 1) 40 anJ), (h40, aJ (k 1) 40 anJ), (h0, ob 7 [.ref h1, .ref h2, .int h0f2, .ref h3, .ref h4, .ref h5, .int h0f6, .ref h6, .int h0f8, .null, .ref h7, .int h0f11, .ref h8, .ref h9, .ref h10, .ref h11, .ref h12]), (h4, aQ (k 3) 4 (q4 h17 h18 h19 h20)), (h17, ob 5 [.int h17f0, .int h17f1, .ref h37]), (h18, ob 5 [.int h18f0, .int h18f1, .ref h38]), (h19, ob 5 [.int h19f0, .int h19f1, .ref h39]), (h20, ob 5 [.int h20f0, .int h20f1, .ref h40])]) (as := [h1]) (zcV (q0 := 13) (ci := 4) (As := []) (rest := [.ref h11]) (Tc := [(h1, ob 4 [.int h1f0, .int h1f1, .int h1f2, .ref h13])]) hx hb hml hown hU hK hT rfl rfl [13] rfl (by decide) (cX5_cellCount_f3983 l D k _ h1 h13 h1f0 h1f1 h1f2 (by omega) (by omega)) w385 w382 w383 w384 w64 hdX5_cellCount ⟨rfl, rfl⟩ ⟨Nat.le_of_ble_eq_true rfl, Nat.le_of_ble_eq_true rfl⟩ rfl hl.1 (Nat.le_of_ble_eq_true rfl) dX10_keeps_47 ⟨Nat.le_of_ble_eq_true rfl, Nat.le_of_ble_eq_true rfl⟩) hT hS hA [13] [0, 1, 2, 3, 4, 5, 6, 7, 8, 9, 10, 11, 12] rfl rfl rfl (by decide) (by decide) (fun r297 H locs hB J hS => ?_)
      rcases hB with ⟨v298, b_v298, c_299, c_300, rfl, hT1⟩ | ⟨v301, b_v301, c_302, c_303, rfl, hT1⟩ | ⟨v304, b_v304, c_305, c_306, rfl, hT1⟩
      · skip
        have hT := J _ hT1
        have hT : TP D A [(h11, aJ (k 1) 9 anJ), (h12, aJ (k 1) 9 anJ), (h13, aJ (k 1) 36 anJ), (h37, aJ (k 1) 40 anJ), (h38, aJ (k 1) 40 anJ), (h39, aJ (k 1) 40 anJ), (h40, aJ (k 1) 40 anJ), (h0, ob 7 [.ref h1, .ref h2, .int h0f2, .ref h3, .ref h4, .ref h5, .int h0f6, .ref h6, .int h0f8, .null, .ref h7, .int h0f11, .ref h8, .ref h9, .ref h10, .ref h11, .ref h12]), (h4, aQ (k 3) 4 (q4 h17 h18 h19 h20)), (h17, ob 5 [.int h17f0, .int h17f1, .ref h37]), (h18, ob 5 [.int h18f0, .int h18f1, .ref h38]), (h19, ob 5 [.int h19f0, .int h19f1, .ref h39]), (h20, ob 5 [.int h20f0, .int h20f1, .ref h40]), (h1, ob 4 [.int h1f0, .int h1f1, .int h1f2, .ref h13])] _ := hT
        exfalso; omega
      · skip
        have hT := J _ hT1
        have hT : TP D A [(h11, aJ (k 1) 9 anJ), (h12, aJ (k 1) 9 anJ), (h13, aJ (k 1) 36 anJ), (h37, aJ (k 1) 40 anJ), (h38, aJ (k 1) 40 anJ), (h39, aJ (k 1) 40 anJ), (h40, aJ (k 1) 40 anJ), (h0, ob 7 [.ref h1, .ref h2, .int h0f2, .ref h3, .ref h4, .ref h5, .int h0f6, .ref h6, .int h0f8, .null, .ref h7, .int h0f11, .ref h8, .ref h9, .ref h10, .ref h11, .ref h12]), (h4, aQ (k 3) 4 (q4 h17 h18 h19 h20)), (h17, ob 5 [.int h17f0, .int h17f1, .ref h37]), (h18, ob 5 [.int h18f0, .int h18f1, .ref h38]), (h19, ob 5 [.int h19f0, .int h19f1, .ref h39]), (h20, ob 5 [.int h20f0, .int h20f1, .ref h40]), (h1, ob 4 [.int h1f0, .int h1f1, .int h1f2, .ref h13])] _ := hT
        exfalso; omega
      · skip
        have hT := J _ hT1
        have hT : TP D A [(h11, aJ (k 1) 9 anJ), (h12, aJ (k 1) 9 anJ), (h13, aJ (k 1) 36 anJ), (h37, aJ (k 1) 40 anJ), (h38, aJ (k 1) 40 anJ), (h39, aJ (k 1) 40 anJ), (h40, aJ (k 1) 40 anJ), (h0, ob 7 [.ref h1, .ref h2, .int h0f2, .ref h3, .ref h4, .ref h5, .int h0f6, .ref h6, .int h0f8, .null, .ref h7, .int h0f11, .ref h8, .ref h9, .ref h10, .ref h11, .ref h12]), (h4, aQ (k 3) 4 (q4 h17 h18 h19 h20)), (h17, ob 5 [.int h17f0, .int h17f1, .ref h37]), (h18, ob 5 [.int h18f0, .int h18f1, .ref h38]), (h19, ob 5 [.int h19f0, .int h19f1, .ref h39]), (h20, ob 5 [.int h20f0, .int h20f1, .ref h40]), (h1, ob 4 [.int h1f0, .int h1f1, .int h1f2, .ref h13])] _ := hT
        refine lv_ldc2 hx hb hown (hU _ w649) dX10_keeps_50 ?_
        have q_q308 := ll_1000000
        refine tcI (Tc := [(h11, aJ (k 1) 9 anJ)]) (Tr := [(h12, aJ (k 1) 9 anJ), (h13, aJ (k 1) 36 anJ), (h37, aJ (k 1) 40 anJ), (h38, aJ (k 1) 40 anJ), (h39, aJ (k 1) 40 anJ), (h40, aJ (k 1) 40 anJ), (h0, ob 7 [.ref h1, .ref h2, .int h0f2, .ref h3, .ref h4, .ref h5, .int h0f6, .ref h6, .int h0f8, .null, .ref h7, .int h0f11, .ref h8, .ref h9, .ref h10, .ref h11, .ref h12]), (h4, aQ (k 3) 4 (q4 h17 h18 h19 h20)), (h17, ob 5 [.int h17f0, .int h17f1, .ref h37]), (h18, ob 5 [.int h18f0, .int h18f1, .ref h38]), (h19, ob 5 [.int h19f0, .int h19f1, .ref h39]), (h20, ob 5 [.int h20f0, .int h20f1, .ref h40]), (h1, ob 4 [.int h1f0, .int h1f1, .int h1f2, .ref h13])]) (as := [h11]) (zcS (As := [.ref h11, .int v304, .long 1000000]) (rest := []) (Tc := [(h11, aJ (k 1) 9 anJ)]) hx hb hml hown hU hK hT [0] rfl (by decide) (cX7_isWithin_443ab l D k _ h11 v304 (1000000) (by omega) (by have := ll_1000000; omega)) w389 w387 w388 w74 hdX7_isWithin ⟨rfl, rfl⟩ ⟨Nat.le_of_ble_eq_true rfl, Nat.le_of_ble_eq_true rfl⟩ rfl hl.1 (Nat.le_of_ble_eq_true rfl) dX10_keeps_53 ⟨Nat.le_of_ble_eq_true rfl, Nat.le_of_ble_eq_true rfl⟩) hT hS hA [0] [1, 2, 3, 4, 5, 6, 7, 8, 9, 10, 11, 12, 13] rfl rfl rfl (by decide) (by decide) (fun r307 H locs hB J hS => ?_)
        obtain ⟨b_r307, hT1⟩ := hB
        have hT := J _ hT1
        have hT : TP D A [(h12, aJ (k 1) 9 anJ), (h13, aJ (k 1) 36 anJ), (h37, aJ (k 1) 40 anJ), (h38, aJ (k 1) 40 anJ), (h39, aJ (k 1) 40 anJ), (h40, aJ (k 1) 40 anJ), (h0, ob 7 [.ref h1, .ref h2, .int h0f2, .ref h3, .ref h4, .ref h5, .int h0f6, .ref h6, .int h0f8, .null, .ref h7, .int h0f11, .ref h8, .ref h9, .ref h10, .ref h11, .ref h12]), (h4, aQ (k 3) 4 (q4 h17 h18 h19 h20)), (h17, ob 5 [.int h17f0, .int h17f1, .ref h37]), (h18, ob 5 [.int h18f0, .int h18f1, .ref h38]), (h19, ob 5 [.int h19f0, .int h19f1, .ref h39]), (h20, ob 5 [.int h20f0, .int h20f1, .ref h40]), (h1, ob 4 [.int h1f0, .int h1f1, .int h1f2, .ref h13]), (h11, aJ (k 1) 9 anJ)] _ := hT
        refine lv_if_ne (tgt := 62) hx hb dX10_keeps_56 (by decide) (fun c_309 => ?_) (fun c_309 => ?_)
        · skip
          have c_309 := ni_ne c_309 rfl li_0
          refine lv_aload_n hx hb dX10_keeps_62 rfl (lv_at hl 1 rfl) ?_
          refine tcI (Tc := [(h0, ob 7 [.ref h1, .ref h2, .int h0f2, .ref h3, .ref h4, .ref h5, .int h0f6, .ref h6, .int h0f8, .null, .ref h7, .int h0f11, .ref h8, .ref h9, .ref h10, .ref h11, .ref h12]), (h1, ob 4 [.int h1f0, .int h1f1, .int h1f2, .ref h13]), (h11, aJ (k 1) 9 anJ), (h12, aJ (k 1) 9 anJ)]) (Tr := [(h13, aJ (k 1) 36 anJ), (h37, aJ (k 1) 40 anJ), (h38, aJ (k 1) 40 anJ), (h39, aJ (k 1) 40 anJ), (h40, aJ (k 1) 40 anJ), (h4, aQ (k 3) 4 (q4 h17 h18 h19 h20)), (h17, ob 5 [.int h17f0, .int h17f1, .ref h37]), (h18, ob 5 [.int h18f0, .int h18f1, .ref h38]), (h19, ob 5 [.int h19f0, .int h19f1, .ref h39]), (h20, ob 5 [.int h20f0, .int h20f1, .ref h40])]) (as := [h0, h1, h11, h12]) (zcV (q0 := 6) (ci := 7) (As := []) (rest := []) (Tc := [(h0, ob 7 [.ref h1, .ref h2, .int h0f2, .ref h3, .ref h4, .ref h5, .int h0f6, .ref h6, .int h0f8, .null, .ref h7, .int h0f11, .ref h8, .ref h9, .ref h10, .ref h11, .ref h12]), (h1, ob 4 [.int h1f0, .int h1f1, .int h1f2, .ref h13]), (h11, aJ (k 1) 9 anJ), (h12, aJ (k 1) 9 anJ)]) hx hb hml hown hU hK hT rfl rfl [6, 12, 13, 0] rfl (by decide) (cX10_isPositiveForm_92f38 l D k _ h0 h1 h11 h12 h2 h3 h4 h5 h6 h7 h8 h9 h10 h13 h0f2 h0f6 h0f8 h0f11 h1f0 h1f1 h1f2 (by omega) (by omega) (by omega) (by omega) (by omega) (by omega)) w653 w650 w652 w19 w63 hdX10_isPositiveForm ⟨rfl, rfl⟩ ⟨Nat.le_of_ble_eq_true rfl, Nat.le_of_ble_eq_true rfl⟩ rfl hl.1 (Nat.le_of_ble_eq_true rfl) dX10_keeps_63 ⟨Nat.le_of_ble_eq_true rfl, Nat.le_of_ble_eq_true rfl⟩) hT hS hA [6, 12, 13, 0] [1, 2, 3, 4, 5, 7, 8, 9, 10, 11] rfl rfl rfl (by decide) (by decide) (fun r310 H locs hB J hS => ?_)
          obtain ⟨b_r310, hT1⟩ := hB
          have hT := J _ hT1
          have hT : TP D A [(h13, aJ (k 1) 36 anJ), (h37, aJ (k 1) 40 anJ), (h38, aJ (k 1) 40 anJ), (h39, aJ (k 1) 40 anJ), (h40, aJ (k 1) 40 anJ), (h4, aQ (k 3) 4 (q4 h17 h18 h19 h20)), (h17, ob 5 [.int h17f0, .int h17f1, .ref h37]), (h18, ob 5 [.int h18f0, .int h18f1, .ref h38]), (h19, ob 5 [.int h19f0, .int h19f1, .ref h39]), (h20, ob 5 [.int h20f0, .int h20f1, .ref h40]), (h0, ob 7 [.ref h1, .ref h2, .int h0f2, .ref h3, .ref h4, .ref h5, .int h0f6, .ref h6, .int h0f8, .null, .ref h7, .int h0f11, .ref h8, .ref h9, .ref h10, .ref h11, .ref h12]), (h1, ob 4 [.int h1f0, .int h1f1, .int h1f2, .ref h13]), (h11, aJ (k 1) 9 anJ), (h12, aJ (k 1) 9 anJ)] _ := hT
          refine lv_if_eq (tgt := 80) hx hb dX10_keeps_66 (by decide) (fun c_311 => ?_) (fun c_311 => ?_)
          · skip
            have c_311 := ni_eq c_311 rfl li_0
            refine lv_iconst (v := 0) hx hb dX10_keeps_80 (by decide) ?_
            exact tz_retI (B := B_cX10_keeps_deb30 D k h0 h1 h4 h11 h12 h13 h17 h18 h19 h20 h37 h38 h39 h40 h2 h3 h5 h6 h7 h8 h9 h10 x1 x2 h0f2 h0f6 h0f8 h0f11 h1f0 h1f1 h1f2 h17f0 h17f1 h18f0 h18f1 h19f0 h19f1 h20f0 h20f1) (v := 0) hQ hx hb hr hlocks hS (Nat.le_of_ble_eq_true rfl) (Nat.le_of_ble_eq_true rfl) dX10_keeps_81 (⟨(by have := li_0; omega), (hT.sub [10, 11, 5, 12, 13, 0, 6, 7, 8, 9, 1, 2, 3, 4] (by decide) rfl)⟩)
          · skip
            have c_311 := ni_ne c_311 rfl li_0
            refine lv_aload_n hx hb dX10_keeps_69 rfl (lv_at hl 1 rfl) ?_
            refine tcI (Tc := [(h0, ob 7 [.ref h1, .ref h2, .int h0f2, .ref h3, .ref h4, .ref h5, .int h0f6, .ref h6, .int h0f8, .null, .ref h7, .int h0f11, .ref h8, .ref h9, .ref h10, .ref h11, .ref h12]), (h1, ob 4 [.int h1f0, .int h1f1, .int h1f2, .ref h13]), (h11, aJ (k 1) 9 anJ), (h12, aJ (k 1) 9 anJ), (h13, aJ (k 1) 36 anJ)]) (Tr := [(h37, aJ (k 1) 40 anJ), (h38, aJ (k 1) 40 anJ), (h39, aJ (k 1) 40 anJ), (h40, aJ (k 1) 40 anJ), (h4, aQ (k 3) 4 (q4 h17 h18 h19 h20)), (h17, ob 5 [.int h17f0, .int h17f1, .ref h37]), (h18, ob 5 [.int h18f0, .int h18f1, .ref h38]), (h19, ob 5 [.int h19f0, .int h19f1, .ref h39]), (h20, ob 5 [.int h20f0, .int h20f1, .ref h40])]) (as := [h0, h1, h11, h12, h13]) (zcV (q0 := 10) (ci := 7) (As := []) (rest := []) (Tc := [(h0, ob 7 [.ref h1, .ref h2, .int h0f2, .ref h3, .ref h4, .ref h5, .int h0f6, .ref h6, .int h0f8, .null, .ref h7, .int h0f11, .ref h8, .ref h9, .ref h10, .ref h11, .ref h12]), (h1, ob 4 [.int h1f0, .int h1f1, .int h1f2, .ref h13]), (h11, aJ (k 1) 9 anJ), (h12, aJ (k 1) 9 anJ), (h13, aJ (k 1) 36 anJ)]) hx hb hml hown hU hK hT rfl rfl [10, 11, 12, 13, 0] rfl (by decide) (cX10_noGeneratorChangesForm_52b64 l D k _ h0 h1 h11 h12 h13 h2 h3 h4 h5 h6 h7 h8 h9 h10 h0f2 h0f6 h0f8 h0f11 h1f0 h1f1 h1f2 (by omega) (by omega) (by omega) (by omega) (by omega) (by omega)) w657 w654 w656 w20 w63 hdX10_noGeneratorChangesForm ⟨rfl, rfl⟩ ⟨Nat.le_of_ble_eq_true rfl, Nat.le_of_ble_eq_true rfl⟩ rfl hl.1 (Nat.le_of_ble_eq_true rfl) dX10_keeps_70 ⟨Nat.le_of_ble_eq_true rfl, Nat.le_of_ble_eq_true rfl⟩) hT hS hA [10, 11, 12, 13, 0] [1, 2, 3, 4, 5, 6, 7, 8, 9] rfl rfl rfl (by decide) (by decide) (fun r312 H locs hB J hS => ?_)
            obtain ⟨b_r312, hT1⟩ := hB
            have hT := J _ hT1
            have hT : TP D A [(h37, aJ (k 1) 40 anJ), (h38, aJ (k 1) 40 anJ), (h39, aJ (k 1) 40 anJ), (h40, aJ (k 1) 40 anJ), (h4, aQ (k 3) 4 (q4 h17 h18 h19 h20)), (h17, ob 5 [.int h17f0, .int h17f1, .ref h37]), (h18, ob 5 [.int h18f0, .int h18f1, .ref h38]), (h19, ob 5 [.int h19f0, .int h19f1, .ref h39]), (h20, ob 5 [.int h20f0, .int h20f1, .ref h40]), (h0, ob 7 [.ref h1, .ref h2, .int h0f2, .ref h3, .ref h4, .ref h5, .int h0f6, .ref h6, .int h0f8, .null, .ref h7, .int h0f11, .ref h8, .ref h9, .ref h10, .ref h11, .ref h12]), (h1, ob 4 [.int h1f0, .int h1f1, .int h1f2, .ref h13]), (h11, aJ (k 1) 9 anJ), (h12, aJ (k 1) 9 anJ), (h13, aJ (k 1) 36 anJ)] _ := hT
            refine lv_if_eq (tgt := 80) hx hb dX10_keeps_73 (by decide) (fun c_313 => ?_) (fun c_313 => ?_)
            · skip
              have c_313 := ni_eq c_313 rfl li_0
              refine lv_iconst (v := 0) hx hb dX10_keeps_80 (by decide) ?_
              exact tz_retI (B := B_cX10_keeps_deb30 D k h0 h1 h4 h11 h12 h13 h17 h18 h19 h20 h37 h38 h39 h40 h2 h3 h5 h6 h7 h8 h9 h10 x1 x2 h0f2 h0f6 h0f8 h0f11 h1f0 h1f1 h1f2 h17f0 h17f1 h18f0 h18f1 h19f0 h19f1 h20f0 h20f1) (v := 0) hQ hx hb hr hlocks hS (Nat.le_of_ble_eq_true rfl) (Nat.le_of_ble_eq_true rfl) dX10_keeps_81 (⟨(by have := li_0; omega), (hT.sub [9, 10, 4, 11, 12, 13, 5, 6, 7, 8, 0, 1, 2, 3] (by decide) rfl)⟩)
            · skip
              have c_313 := ni_ne c_313 rfl li_0
              refine lv_iconst (v := 1) hx hb dX10_keeps_76 (by decide) ?_
              refine lv_goto (tgt := 81) hx hb dX10_keeps_77 (by decide) ?_
              exact tz_retI (B := B_cX10_keeps_deb30 D k h0 h1 h4 h11 h12 h13 h17 h18 h19 h20 h37 h38 h39 h40 h2 h3 h5 h6 h7 h8 h9 h10 x1 x2 h0f2 h0f6 h0f8 h0f11 h1f0 h1f1 h1f2 h17f0 h17f1 h18f0 h18f1 h19f0 h19f1 h20f0 h20f1) (v := 1) hQ hx hb hr hlocks hS (Nat.le_of_ble_eq_true rfl) (Nat.le_of_ble_eq_true rfl) dX10_keeps_81 (⟨(by have := li_1; omega), (hT.sub [9, 10, 4, 11, 12, 13, 5, 6, 7, 8, 0, 1, 2, 3] (by decide) rfl)⟩)
        · skip
          have c_309 := ni_eq c_309 rfl li_0
          refine lv_bipush (v := (-16)) hx hb dX10_keeps_59 (by decide) ?_
          exact tz_retI (B := B_cX10_keeps_deb30 D k h0 h1 h4 h11 h12 h13 h17 h18 h19 h20 h37 h38 h39 h40 h2 h3 h5 h6 h7 h8 h9 h10 x1 x2 h0f2 h0f6 h0f8 h0f11 h1f0 h1f1 h1f2 h17f0 h17f1 h18f0 h18f1 h19f0 h19f1 h20f0 h20f1) (v := (-16)) hQ hx hb hr hlocks hS (Nat.le_of_ble_eq_true rfl) (Nat.le_of_ble_eq_true rfl) dX10_keeps_61 (⟨(by have := li_m16; omega), (hT.sub [6, 12, 7, 13, 0, 1, 8, 9, 10, 11, 2, 3, 4, 5] (by decide) rfl)⟩)
  · skip
    have hT := J _ hT1
    have hT : TP D A [(h11, aJ (k 1) 9 anJ), (h12, aJ (k 1) 9 anJ), (h13, aJ (k 1) 36 anJ), (h37, aJ (k 1) 40 anJ), (h38, aJ (k 1) 40 anJ), (h39, aJ (k 1) 40 anJ), (h40, aJ (k 1) 40 anJ), (h0, ob 7 [.ref h1, .ref h2, .int h0f2, .ref h3, .ref h4, .ref h5, .int h0f6, .ref h6, .int h0f8, .null, .ref h7, .int h0f11, .ref h8, .ref h9, .ref h10, .ref h11, .ref h12]), (h1, ob 4 [.int h1f0, .int h1f1, .int h1f2, .ref h13]), (h4, aQ (k 3) 4 (q4 h17 h18 h19 h20)), (h17, ob 5 [.int h17f0, .int h17f1, .ref h37]), (h18, ob 5 [.int h18f0, .int h18f1, .ref h38]), (h19, ob 5 [.int h19f0, .int h19f1, .ref h39]), (h20, ob 5 [.int h20f0, .int h20f1, .ref h40])] _ := hT
    refine lv_istore_n (lv' := [(3, .int 0), (0, .ref h0), (1, .int x1), (2, .int x2)]) hx hb dX10_keeps_7 rfl hl (by decide) rfl (fun ls hl => ?_)
    refine lv_iload_n hx hb dX10_keeps_8 rfl (lv_at hl 0 rfl) ?_
    refine lv_if_eq (tgt := 14) hx hb dX10_keeps_9 (by decide) (fun _ => ?_) (fun cc => absurd (by decide +kernel) cc)
    refine lv_aload_n hx hb dX10_keeps_14 rfl (lv_at hl 1 rfl) ?_
    refine tz_get (ci := 7) (v := .ref h4) (C := RX10) (F := TX10) (N := 17) hx hb hU iX10 hown hK hT 7 rfl rfl 4 (by decide) w253 (fun _ h9 => h9) rfl dX10_keeps_15 ?_
    refine lv_iload_n hx hb dX10_keeps_18 rfl (lv_at hl 2 rfl) ?_
    have hq314 : x1.toInt = 2 := by omega
    refine tz_aldq (b := h19) hx hb hK hT 9 rfl (vp_in_iff.mpr (by have := hq314; omega)) (fun f hf => by rw [cl_of hq314]; exact hf.2.2.1) dX10_keeps_19 ?_
    refine tz_get (ci := 5) (v := .ref h39) (C := RX6) (F := TX6) (N := 3) hx hb hU iX6 hown hK hT 12 rfl rfl 2 (by decide) w241 (fun _ h9 => h9) rfl dX10_keeps_20 ?_
    refine lv_iload_n hx hb dX10_keeps_23 rfl (lv_at hl 3 rfl) ?_
    refine lv_aload_n hx hb dX10_keeps_24 rfl (lv_at hl 1 rfl) ?_
    refine tz_get (ci := 7) (v := .ref h11) (C := RX10) (F := TX10) (N := 17) hx hb hU iX10 hown hK hT 7 rfl rfl 15 (by decide) w264 (fun _ h9 => h9) rfl dX10_keeps_25 ?_
    refine lv_iconst (v := 0) hx hb dX10_keeps_28 (by decide) ?_
    refine lv_aload_n hx hb dX10_keeps_29 rfl (lv_at hl 1 rfl) ?_
    refine tz_get (ci := 7) (v := .ref h1) (C := RX10) (F := TX10) (N := 17) hx hb hU iX10 hown hK hT 7 rfl rfl 0 (by decide) w249 (fun _ h9 => h9) rfl dX10_keeps_30 ?_
    refine tcI (Tc := [(h1, ob 4 [.int h1f0, .int h1f1, .int h1f2, .ref h13])]) (Tr := [(h11, aJ (k 1) 9 anJ), (h12, aJ (k 1) 9 anJ), (h13, aJ (k 1) 36 anJ), (h37, aJ (k 1) 40 anJ), (h38, aJ (k 1) 40 anJ), (h39, aJ (k 1) 40 anJ), (h40, aJ (k 1) 40 anJ), (h0, ob 7 [.ref h1, .ref h2, .int h0f2, .ref h3, .ref h4, .ref h5, .int h0f6, .ref h6, .int h0f8, .null, .ref h7, .int h0f11, .ref h8, .ref h9, .ref h10, .ref h11, .ref h12]), (h4, aQ (k 3) 4 (q4 h17 h18 h19 h20)), (h17, ob 5 [.int h17f0, .int h17f1, .ref h37]), (h18, ob 5 [.int h18f0, .int h18f1, .ref h38]), (h19, ob 5 [.int h19f0, .int h19f1, .ref h39]), (h20, ob 5 [.int h20f0, .int h20f1, .ref h40])]) (as := [h1]) (zcV (q0 := 8) (ci := 4) (As := []) (rest := [.int 0, .ref h11, .int x2, .ref h39]) (Tc := [(h1, ob 4 [.int h1f0, .int h1f1, .int h1f2, .ref h13])]) hx hb hml hown hU hK hT rfl rfl [8] rfl (by decide) (cX5_cellCount_f3983 l D k _ h1 h13 h1f0 h1f1 h1f2 (by omega) (by omega)) w385 w382 w383 w384 w64 hdX5_cellCount ⟨rfl, rfl⟩ ⟨Nat.le_of_ble_eq_true rfl, Nat.le_of_ble_eq_true rfl⟩ rfl hl.1 (Nat.le_of_ble_eq_true rfl) dX10_keeps_33 ⟨Nat.le_of_ble_eq_true rfl, Nat.le_of_ble_eq_true rfl⟩) hT hS hA [8] [0, 1, 2, 3, 4, 5, 6, 7, 9, 10, 11, 12, 13] rfl rfl rfl (by decide) (by decide) (fun r315 H locs hB J hS => ?_)
    rcases hB with ⟨v316, b_v316, c_317, c_318, rfl, hT1⟩ | ⟨v319, b_v319, c_320, c_321, rfl, hT1⟩ | ⟨v322, b_v322, c_323, c_324, rfl, hT1⟩
    · skip
      have hT := J _ hT1
      have hT : TP D A [(h11, aJ (k 1) 9 anJ), (h12, aJ (k 1) 9 anJ), (h13, aJ (k 1) 36 anJ), (h37, aJ (k 1) 40 anJ), (h38, aJ (k 1) 40 anJ), (h39, aJ (k 1) 40 anJ), (h40, aJ (k 1) 40 anJ), (h0, ob 7 [.ref h1, .ref h2, .int h0f2, .ref h3, .ref h4, .ref h5, .int h0f6, .ref h6, .int h0f8, .null, .ref h7, .int h0f11, .ref h8, .ref h9, .ref h10, .ref h11, .ref h12]), (h4, aQ (k 3) 4 (q4 h17 h18 h19 h20)), (h17, ob 5 [.int h17f0, .int h17f1, .ref h37]), (h18, ob 5 [.int h18f0, .int h18f1, .ref h38]), (h19, ob 5 [.int h19f0, .int h19f1, .ref h39]), (h20, ob 5 [.int h20f0, .int h20f1, .ref h40]), (h1, ob 4 [.int h1f0, .int h1f1, .int h1f2, .ref h13])] _ := hT
      refine tz_copyl hx hb (by rw [hml]; exact hl.1.symm) hown hU w410 w348 w347 w75 hK hT hS 5 0 rfl rfl (by have := li_0; omega) (fun _ _ _ _ => trivial) (Nat.le_of_ble_eq_true rfl) (Nat.le_of_ble_eq_true rfl) dX10_keeps_36 (fun H locs hT hS => ?_)
      refine lv_aload_n hx hb dX10_keeps_39 rfl (lv_at hl 1 rfl) ?_
      refine tz_get (ci := 7) (v := .ref h11) (C := RX10) (F := TX10) (N := 17) hx hb hU iX10 hown hK hT 7 rfl rfl 15 (by decide) w264 (fun _ h9 => h9) rfl dX10_keeps_40 ?_
      refine lv_aload_n hx hb dX10_keeps_43 rfl (lv_at hl 1 rfl) ?_
      refine tz_get (ci := 7) (v := .ref h1) (C := RX10) (F := TX10) (N := 17) hx hb hU iX10 hown hK hT 7 rfl rfl 0 (by decide) w249 (fun _ h9 => h9) rfl dX10_keeps_44 ?_
      refine tcI (Tc := [(h1, ob 4 [.int h1f0, .int h1f1, .int h1f2, .ref h13])]) (Tr := [(h11, aJ (k 1) 9 anJ), (h12, aJ (k 1) 9 anJ), (h13, aJ (k 1) 36 anJ), (h37, aJ (k 1) 40 anJ), (h38, aJ (k 1) 40 anJ), (h39, aJ (k 1) 40 anJ), (h40, aJ (k 1) 40 anJ), (h0, ob 7 [.ref h1, .ref h2, .int h0f2, .ref h3, .ref h4, .ref h5, .int h0f6, .ref h6, .int h0f8, .null, .ref h7, .int h0f11, .ref h8, .ref h9, .ref h10, .ref h11, .ref h12]), (h4, aQ (k 3) 4 (q4 h17 h18 h19 h20)), (h17, ob 5 [.int h17f0, .int h17f1, .ref h37]), (h18, ob 5 [.int h18f0, .int h18f1, .ref h38]), (h19, ob 5 [.int h19f0, .int h19f1, .ref h39]), (h20, ob 5 [.int h20f0, .int h20f1, .ref h40])]) (as := [h1]) (zcV (q0 := 13) (ci := 4) (As := []) (rest := [.ref h11]) (Tc := [(h1, ob 4 [.int h1f0, .int h1f1, .int h1f2, .ref h13])]) hx hb hml hown hU hK hT rfl rfl [13] rfl (by decide) (cX5_cellCount_f3983 l D k _ h1 h13 h1f0 h1f1 h1f2 (by omega) (by omega)) w385 w382 w383 w384 w64 hdX5_cellCount ⟨rfl, rfl⟩ ⟨Nat.le_of_ble_eq_true rfl, Nat.le_of_ble_eq_true rfl⟩ rfl hl.1 (Nat.le_of_ble_eq_true rfl) dX10_keeps_47 ⟨Nat.le_of_ble_eq_true rfl, Nat.le_of_ble_eq_true rfl⟩) hT hS hA [13] [0, 1, 2, 3, 4, 5, 6, 7, 8, 9, 10, 11, 12] rfl rfl rfl (by decide) (by decide) (fun r325 H locs hB J hS => ?_)
      rcases hB with ⟨v326, b_v326, c_327, c_328, rfl, hT1⟩ | ⟨v329, b_v329, c_330, c_331, rfl, hT1⟩ | ⟨v332, b_v332, c_333, c_334, rfl, hT1⟩
      · skip
        have hT := J _ hT1
        have hT : TP D A [(h11, aJ (k 1) 9 anJ), (h12, aJ (k 1) 9 anJ), (h13, aJ (k 1) 36 anJ), (h37, aJ (k 1) 40 anJ), (h38, aJ (k 1) 40 anJ), (h39, aJ (k 1) 40 anJ), (h40, aJ (k 1) 40 anJ), (h0, ob 7 [.ref h1, .ref h2, .int h0f2, .ref h3, .ref h4, .ref h5, .int h0f6, .ref h6, .int h0f8, .null, .ref h7, .int h0f11, .ref h8, .ref h9, .ref h10, .ref h11, .ref h12]), (h4, aQ (k 3) 4 (q4 h17 h18 h19 h20)), (h17, ob 5 [.int h17f0, .int h17f1, .ref h37]), (h18, ob 5 [.int h18f0, .int h18f1, .ref h38]), (h19, ob 5 [.int h19f0, .int h19f1, .ref h39]), (h20, ob 5 [.int h20f0, .int h20f1, .ref h40]), (h1, ob 4 [.int h1f0, .int h1f1, .int h1f2, .ref h13])] _ := hT
        refine lv_ldc2 hx hb hown (hU _ w649) dX10_keeps_50 ?_
        have q_q336 := ll_1000000
        refine tcI (Tc := [(h11, aJ (k 1) 9 anJ)]) (Tr := [(h12, aJ (k 1) 9 anJ), (h13, aJ (k 1) 36 anJ), (h37, aJ (k 1) 40 anJ), (h38, aJ (k 1) 40 anJ), (h39, aJ (k 1) 40 anJ), (h40, aJ (k 1) 40 anJ), (h0, ob 7 [.ref h1, .ref h2, .int h0f2, .ref h3, .ref h4, .ref h5, .int h0f6, .ref h6, .int h0f8, .null, .ref h7, .int h0f11, .ref h8, .ref h9, .ref h10, .ref h11, .ref h12]), (h4, aQ (k 3) 4 (q4 h17 h18 h19 h20)), (h17, ob 5 [.int h17f0, .int h17f1, .ref h37]), (h18, ob 5 [.int h18f0, .int h18f1, .ref h38]), (h19, ob 5 [.int h19f0, .int h19f1, .ref h39]), (h20, ob 5 [.int h20f0, .int h20f1, .ref h40]), (h1, ob 4 [.int h1f0, .int h1f1, .int h1f2, .ref h13])]) (as := [h11]) (zcS (As := [.ref h11, .int v326, .long 1000000]) (rest := []) (Tc := [(h11, aJ (k 1) 9 anJ)]) hx hb hml hown hU hK hT [0] rfl (by decide) (cX7_isWithin_443ab l D k _ h11 v326 (1000000) (by omega) (by have := ll_1000000; omega)) w389 w387 w388 w74 hdX7_isWithin ⟨rfl, rfl⟩ ⟨Nat.le_of_ble_eq_true rfl, Nat.le_of_ble_eq_true rfl⟩ rfl hl.1 (Nat.le_of_ble_eq_true rfl) dX10_keeps_53 ⟨Nat.le_of_ble_eq_true rfl, Nat.le_of_ble_eq_true rfl⟩) hT hS hA [0] [1, 2, 3, 4, 5, 6, 7, 8, 9, 10, 11, 12, 13] rfl rfl rfl (by decide) (by decide) (fun r335 H locs hB J hS => ?_)
        obtain ⟨b_r335, hT1⟩ := hB
        have hT := J _ hT1
        have hT : TP D A [(h12, aJ (k 1) 9 anJ), (h13, aJ (k 1) 36 anJ), (h37, aJ (k 1) 40 anJ), (h38, aJ (k 1) 40 anJ), (h39, aJ (k 1) 40 anJ), (h40, aJ (k 1) 40 anJ), (h0, ob 7 [.ref h1, .ref h2, .int h0f2, .ref h3, .ref h4, .ref h5, .int h0f6, .ref h6, .int h0f8, .null, .ref h7, .int h0f11, .ref h8, .ref h9, .ref h10, .ref h11, .ref h12]), (h4, aQ (k 3) 4 (q4 h17 h18 h19 h20)), (h17, ob 5 [.int h17f0, .int h17f1, .ref h37]), (h18, ob 5 [.int h18f0, .int h18f1, .ref h38]), (h19, ob 5 [.int h19f0, .int h19f1, .ref h39]), (h20, ob 5 [.int h20f0, .int h20f1, .ref h40]), (h1, ob 4 [.int h1f0, .int h1f1, .int h1f2, .ref h13]), (h11, aJ (k 1) 9 anJ)] _ := hT
        refine lv_if_ne (tgt := 62) hx hb dX10_keeps_56 (by decide) (fun c_337 => ?_) (fun c_337 => ?_)
        · skip
          have c_337 := ni_ne c_337 rfl li_0
          refine lv_aload_n hx hb dX10_keeps_62 rfl (lv_at hl 1 rfl) ?_
          refine tcI (Tc := [(h0, ob 7 [.ref h1, .ref h2, .int h0f2, .ref h3, .ref h4, .ref h5, .int h0f6, .ref h6, .int h0f8, .null, .ref h7, .int h0f11, .ref h8, .ref h9, .ref h10, .ref h11, .ref h12]), (h1, ob 4 [.int h1f0, .int h1f1, .int h1f2, .ref h13]), (h11, aJ (k 1) 9 anJ), (h12, aJ (k 1) 9 anJ)]) (Tr := [(h13, aJ (k 1) 36 anJ), (h37, aJ (k 1) 40 anJ), (h38, aJ (k 1) 40 anJ), (h39, aJ (k 1) 40 anJ), (h40, aJ (k 1) 40 anJ), (h4, aQ (k 3) 4 (q4 h17 h18 h19 h20)), (h17, ob 5 [.int h17f0, .int h17f1, .ref h37]), (h18, ob 5 [.int h18f0, .int h18f1, .ref h38]), (h19, ob 5 [.int h19f0, .int h19f1, .ref h39]), (h20, ob 5 [.int h20f0, .int h20f1, .ref h40])]) (as := [h0, h1, h11, h12]) (zcV (q0 := 6) (ci := 7) (As := []) (rest := []) (Tc := [(h0, ob 7 [.ref h1, .ref h2, .int h0f2, .ref h3, .ref h4, .ref h5, .int h0f6, .ref h6, .int h0f8, .null, .ref h7, .int h0f11, .ref h8, .ref h9, .ref h10, .ref h11, .ref h12]), (h1, ob 4 [.int h1f0, .int h1f1, .int h1f2, .ref h13]), (h11, aJ (k 1) 9 anJ), (h12, aJ (k 1) 9 anJ)]) hx hb hml hown hU hK hT rfl rfl [6, 12, 13, 0] rfl (by decide) (cX10_isPositiveForm_92f38 l D k _ h0 h1 h11 h12 h2 h3 h4 h5 h6 h7 h8 h9 h10 h13 h0f2 h0f6 h0f8 h0f11 h1f0 h1f1 h1f2 (by omega) (by omega) (by omega) (by omega) (by omega) (by omega)) w653 w650 w652 w19 w63 hdX10_isPositiveForm ⟨rfl, rfl⟩ ⟨Nat.le_of_ble_eq_true rfl, Nat.le_of_ble_eq_true rfl⟩ rfl hl.1 (Nat.le_of_ble_eq_true rfl) dX10_keeps_63 ⟨Nat.le_of_ble_eq_true rfl, Nat.le_of_ble_eq_true rfl⟩) hT hS hA [6, 12, 13, 0] [1, 2, 3, 4, 5, 7, 8, 9, 10, 11] rfl rfl rfl (by decide) (by decide) (fun r338 H locs hB J hS => ?_)
          obtain ⟨b_r338, hT1⟩ := hB
          have hT := J _ hT1
          have hT : TP D A [(h13, aJ (k 1) 36 anJ), (h37, aJ (k 1) 40 anJ), (h38, aJ (k 1) 40 anJ), (h39, aJ (k 1) 40 anJ), (h40, aJ (k 1) 40 anJ), (h4, aQ (k 3) 4 (q4 h17 h18 h19 h20)), (h17, ob 5 [.int h17f0, .int h17f1, .ref h37]), (h18, ob 5 [.int h18f0, .int h18f1, .ref h38]), (h19, ob 5 [.int h19f0, .int h19f1, .ref h39]), (h20, ob 5 [.int h20f0, .int h20f1, .ref h40]), (h0, ob 7 [.ref h1, .ref h2, .int h0f2, .ref h3, .ref h4, .ref h5, .int h0f6, .ref h6, .int h0f8, .null, .ref h7, .int h0f11, .ref h8, .ref h9, .ref h10, .ref h11, .ref h12]), (h1, ob 4 [.int h1f0, .int h1f1, .int h1f2, .ref h13]), (h11, aJ (k 1) 9 anJ), (h12, aJ (k 1) 9 anJ)] _ := hT
          refine lv_if_eq (tgt := 80) hx hb dX10_keeps_66 (by decide) (fun c_339 => ?_) (fun c_339 => ?_)
          · skip
            have c_339 := ni_eq c_339 rfl li_0
            refine lv_iconst (v := 0) hx hb dX10_keeps_80 (by decide) ?_
            exact tz_retI (B := B_cX10_keeps_deb30 D k h0 h1 h4 h11 h12 h13 h17 h18 h19 h20 h37 h38 h39 h40 h2 h3 h5 h6 h7 h8 h9 h10 x1 x2 h0f2 h0f6 h0f8 h0f11 h1f0 h1f1 h1f2 h17f0 h17f1 h18f0 h18f1 h19f0 h19f1 h20f0 h20f1) (v := 0) hQ hx hb hr hlocks hS (Nat.le_of_ble_eq_true rfl) (Nat.le_of_ble_eq_true rfl) dX10_keeps_81 (⟨(by have := li_0; omega), (hT.sub [10, 11, 5, 12, 13, 0, 6, 7, 8, 9, 1, 2, 3, 4] (by decide) rfl)⟩)
          · skip
            have c_339 := ni_ne c_339 rfl li_0
            refine lv_aload_n hx hb dX10_keeps_69 rfl (lv_at hl 1 rfl) ?_
            refine tcI (Tc := [(h0, ob 7 [.ref h1, .ref h2, .int h0f2, .ref h3, .ref h4, .ref h5, .int h0f6, .ref h6, .int h0f8, .null, .ref h7, .int h0f11, .ref h8, .ref h9, .ref h10, .ref h11, .ref h12]), (h1, ob 4 [.int h1f0, .int h1f1, .int h1f2, .ref h13]), (h11, aJ (k 1) 9 anJ), (h12, aJ (k 1) 9 anJ), (h13, aJ (k 1) 36 anJ)]) (Tr := [(h37, aJ (k 1) 40 anJ), (h38, aJ (k 1) 40 anJ), (h39, aJ (k 1) 40 anJ), (h40, aJ (k 1) 40 anJ), (h4, aQ (k 3) 4 (q4 h17 h18 h19 h20)), (h17, ob 5 [.int h17f0, .int h17f1, .ref h37]), (h18, ob 5 [.int h18f0, .int h18f1, .ref h38]), (h19, ob 5 [.int h19f0, .int h19f1, .ref h39]), (h20, ob 5 [.int h20f0, .int h20f1, .ref h40])]) (as := [h0, h1, h11, h12, h13]) (zcV (q0 := 10) (ci := 7) (As := []) (rest := []) (Tc := [(h0, ob 7 [.ref h1, .ref h2, .int h0f2, .ref h3, .ref h4, .ref h5, .int h0f6, .ref h6, .int h0f8, .null, .ref h7, .int h0f11, .ref h8, .ref h9, .ref h10, .ref h11, .ref h12]), (h1, ob 4 [.int h1f0, .int h1f1, .int h1f2, .ref h13]), (h11, aJ (k 1) 9 anJ), (h12, aJ (k 1) 9 anJ), (h13, aJ (k 1) 36 anJ)]) hx hb hml hown hU hK hT rfl rfl [10, 11, 12, 13, 0] rfl (by decide) (cX10_noGeneratorChangesForm_52b64 l D k _ h0 h1 h11 h12 h13 h2 h3 h4 h5 h6 h7 h8 h9 h10 h0f2 h0f6 h0f8 h0f11 h1f0 h1f1 h1f2 (by omega) (by omega) (by omega) (by omega) (by omega) (by omega)) w657 w654 w656 w20 w63 hdX10_noGeneratorChangesForm ⟨rfl, rfl⟩ ⟨Nat.le_of_ble_eq_true rfl, Nat.le_of_ble_eq_true rfl⟩ rfl hl.1 (Nat.le_of_ble_eq_true rfl) dX10_keeps_70 ⟨Nat.le_of_ble_eq_true rfl, Nat.le_of_ble_eq_true rfl⟩) hT hS hA [10, 11, 12, 13, 0] [1, 2, 3, 4, 5, 6, 7, 8, 9] rfl rfl rfl (by decide) (by decide) (fun r340 H locs hB J hS => ?_)
            obtain ⟨b_r340, hT1⟩ := hB
            have hT := J _ hT1
            have hT : TP D A [(h37, aJ (k 1) 40 anJ), (h38, aJ (k 1) 40 anJ), (h39, aJ (k 1) 40 anJ), (h40, aJ (k 1) 40 anJ), (h4, aQ (k 3) 4 (q4 h17 h18 h19 h20)), (h17, ob 5 [.int h17f0, .int h17f1, .ref h37]), (h18, ob 5 [.int h18f0, .int h18f1, .ref h38]), (h19, ob 5 [.int h19f0, .int h19f1, .ref h39]), (h20, ob 5 [.int h20f0, .int h20f1, .ref h40]), (h0, ob 7 [.ref h1, .ref h2, .int h0f2, .ref h3, .ref h4, .ref h5, .int h0f6, .ref h6, .int h0f8, .null, .ref h7, .int h0f11, .ref h8, .ref h9, .ref h10, .ref h11, .ref h12]), (h1, ob 4 [.int h1f0, .int h1f1, .int h1f2, .ref h13]), (h11, aJ (k 1) 9 anJ), (h12, aJ (k 1) 9 anJ), (h13, aJ (k 1) 36 anJ)] _ := hT
            refine lv_if_eq (tgt := 80) hx hb dX10_keeps_73 (by decide) (fun c_341 => ?_) (fun c_341 => ?_)
            · skip
              have c_341 := ni_eq c_341 rfl li_0
              refine lv_iconst (v := 0) hx hb dX10_keeps_80 (by decide) ?_
              exact tz_retI (B := B_cX10_keeps_deb30 D k h0 h1 h4 h11 h12 h13 h17 h18 h19 h20 h37 h38 h39 h40 h2 h3 h5 h6 h7 h8 h9 h10 x1 x2 h0f2 h0f6 h0f8 h0f11 h1f0 h1f1 h1f2 h17f0 h17f1 h18f0 h18f1 h19f0 h19f1 h20f0 h20f1) (v := 0) hQ hx hb hr hlocks hS (Nat.le_of_ble_eq_true rfl) (Nat.le_of_ble_eq_true rfl) dX10_keeps_81 (⟨(by have := li_0; omega), (hT.sub [9, 10, 4, 11, 12, 13, 5, 6, 7, 8, 0, 1, 2, 3] (by decide) rfl)⟩)
            · skip
              have c_341 := ni_ne c_341 rfl li_0
              refine lv_iconst (v := 1) hx hb dX10_keeps_76 (by decide) ?_
              refine lv_goto (tgt := 81) hx hb dX10_keeps_77 (by decide) ?_
              exact tz_retI (B := B_cX10_keeps_deb30 D k h0 h1 h4 h11 h12 h13 h17 h18 h19 h20 h37 h38 h39 h40 h2 h3 h5 h6 h7 h8 h9 h10 x1 x2 h0f2 h0f6 h0f8 h0f11 h1f0 h1f1 h1f2 h17f0 h17f1 h18f0 h18f1 h19f0 h19f1 h20f0 h20f1) (v := 1) hQ hx hb hr hlocks hS (Nat.le_of_ble_eq_true rfl) (Nat.le_of_ble_eq_true rfl) dX10_keeps_81 (⟨(by have := li_1; omega), (hT.sub [9, 10, 4, 11, 12, 13, 5, 6, 7, 8, 0, 1, 2, 3] (by decide) rfl)⟩)
        · skip
          have c_337 := ni_eq c_337 rfl li_0
          refine lv_bipush (v := (-16)) hx hb dX10_keeps_59 (by decide) ?_
          exact tz_retI (B := B_cX10_keeps_deb30 D k h0 h1 h4 h11 h12 h13 h17 h18 h19 h20 h37 h38 h39 h40 h2 h3 h5 h6 h7 h8 h9 h10 x1 x2 h0f2 h0f6 h0f8 h0f11 h1f0 h1f1 h1f2 h17f0 h17f1 h18f0 h18f1 h19f0 h19f1 h20f0 h20f1) (v := (-16)) hQ hx hb hr hlocks hS (Nat.le_of_ble_eq_true rfl) (Nat.le_of_ble_eq_true rfl) dX10_keeps_61 (⟨(by have := li_m16; omega), (hT.sub [6, 12, 7, 13, 0, 1, 8, 9, 10, 11, 2, 3, 4, 5] (by decide) rfl)⟩)
      · skip
        have hT := J _ hT1
        have hT : TP D A [(h11, aJ (k 1) 9 anJ), (h12, aJ (k 1) 9 anJ), (h13, aJ (k 1) 36 anJ), (h37, aJ (k 1) 40 anJ), (h38, aJ (k 1) 40 anJ), (h39, aJ (k 1) 40 anJ), (h40, aJ (k 1) 40 anJ), (h0, ob 7 [.ref h1, .ref h2, .int h0f2, .ref h3, .ref h4, .ref h5, .int h0f6, .ref h6, .int h0f8, .null, .ref h7, .int h0f11, .ref h8, .ref h9, .ref h10, .ref h11, .ref h12]), (h4, aQ (k 3) 4 (q4 h17 h18 h19 h20)), (h17, ob 5 [.int h17f0, .int h17f1, .ref h37]), (h18, ob 5 [.int h18f0, .int h18f1, .ref h38]), (h19, ob 5 [.int h19f0, .int h19f1, .ref h39]), (h20, ob 5 [.int h20f0, .int h20f1, .ref h40]), (h1, ob 4 [.int h1f0, .int h1f1, .int h1f2, .ref h13])] _ := hT
        exfalso; omega
      · skip
        have hT := J _ hT1
        have hT : TP D A [(h11, aJ (k 1) 9 anJ), (h12, aJ (k 1) 9 anJ), (h13, aJ (k 1) 36 anJ), (h37, aJ (k 1) 40 anJ), (h38, aJ (k 1) 40 anJ), (h39, aJ (k 1) 40 anJ), (h40, aJ (k 1) 40 anJ), (h0, ob 7 [.ref h1, .ref h2, .int h0f2, .ref h3, .ref h4, .ref h5, .int h0f6, .ref h6, .int h0f8, .null, .ref h7, .int h0f11, .ref h8, .ref h9, .ref h10, .ref h11, .ref h12]), (h4, aQ (k 3) 4 (q4 h17 h18 h19 h20)), (h17, ob 5 [.int h17f0, .int h17f1, .ref h37]), (h18, ob 5 [.int h18f0, .int h18f1, .ref h38]), (h19, ob 5 [.int h19f0, .int h19f1, .ref h39]), (h20, ob 5 [.int h20f0, .int h20f1, .ref h40]), (h1, ob 4 [.int h1f0, .int h1f1, .int h1f2, .ref h13])] _ := hT
        exfalso; omega
    · skip
      have hT := J _ hT1
      have hT : TP D A [(h11, aJ (k 1) 9 anJ), (h12, aJ (k 1) 9 anJ), (h13, aJ (k 1) 36 anJ), (h37, aJ (k 1) 40 anJ), (h38, aJ (k 1) 40 anJ), (h39, aJ (k 1) 40 anJ), (h40, aJ (k 1) 40 anJ), (h0, ob 7 [.ref h1, .ref h2, .int h0f2, .ref h3, .ref h4, .ref h5, .int h0f6, .ref h6, .int h0f8, .null, .ref h7, .int h0f11, .ref h8, .ref h9, .ref h10, .ref h11, .ref h12]), (h4, aQ (k 3) 4 (q4 h17 h18 h19 h20)), (h17, ob 5 [.int h17f0, .int h17f1, .ref h37]), (h18, ob 5 [.int h18f0, .int h18f1, .ref h38]), (h19, ob 5 [.int h19f0, .int h19f1, .ref h39]), (h20, ob 5 [.int h20f0, .int h20f1, .ref h40]), (h1, ob 4 [.int h1f0, .int h1f1, .int h1f2, .ref h13])] _ := hT
      exfalso; omega
    · skip
      have hT := J _ hT1
      have hT : TP D A [(h11, aJ (k 1) 9 anJ), (h12, aJ (k 1) 9 anJ), (h13, aJ (k 1) 36 anJ), (h37, aJ (k 1) 40 anJ), (h38, aJ (k 1) 40 anJ), (h39, aJ (k 1) 40 anJ), (h40, aJ (k 1) 40 anJ), (h0, ob 7 [.ref h1, .ref h2, .int h0f2, .ref h3, .ref h4, .ref h5, .int h0f6, .ref h6, .int h0f8, .null, .ref h7, .int h0f11, .ref h8, .ref h9, .ref h10, .ref h11, .ref h12]), (h4, aQ (k 3) 4 (q4 h17 h18 h19 h20)), (h17, ob 5 [.int h17f0, .int h17f1, .ref h37]), (h18, ob 5 [.int h18f0, .int h18f1, .ref h38]), (h19, ob 5 [.int h19f0, .int h19f1, .ref h39]), (h20, ob 5 [.int h20f0, .int h20f1, .ref h40]), (h1, ob 4 [.int h1f0, .int h1f1, .int h1f2, .ref h13])] _ := hT
      exfalso; omega
  · skip
    have hT := J _ hT1
    have hT : TP D A [(h11, aJ (k 1) 9 anJ), (h12, aJ (k 1) 9 anJ), (h13, aJ (k 1) 36 anJ), (h37, aJ (k 1) 40 anJ), (h38, aJ (k 1) 40 anJ), (h39, aJ (k 1) 40 anJ), (h40, aJ (k 1) 40 anJ), (h0, ob 7 [.ref h1, .ref h2, .int h0f2, .ref h3, .ref h4, .ref h5, .int h0f6, .ref h6, .int h0f8, .null, .ref h7, .int h0f11, .ref h8, .ref h9, .ref h10, .ref h11, .ref h12]), (h1, ob 4 [.int h1f0, .int h1f1, .int h1f2, .ref h13]), (h4, aQ (k 3) 4 (q4 h17 h18 h19 h20)), (h17, ob 5 [.int h17f0, .int h17f1, .ref h37]), (h18, ob 5 [.int h18f0, .int h18f1, .ref h38]), (h19, ob 5 [.int h19f0, .int h19f1, .ref h39]), (h20, ob 5 [.int h20f0, .int h20f1, .ref h40])] _ := hT
    refine lv_istore_n (lv' := [(3, .int 0), (0, .ref h0), (1, .int x1), (2, .int x2)]) hx hb dX10_keeps_7 rfl hl (by decide) rfl (fun ls hl => ?_)
    refine lv_iload_n hx hb dX10_keeps_8 rfl (lv_at hl 0 rfl) ?_
    refine lv_if_eq (tgt := 14) hx hb dX10_keeps_9 (by decide) (fun _ => ?_) (fun cc => absurd (by decide +kernel) cc)
    refine lv_aload_n hx hb dX10_keeps_14 rfl (lv_at hl 1 rfl) ?_
    refine tz_get (ci := 7) (v := .ref h4) (C := RX10) (F := TX10) (N := 17) hx hb hU iX10 hown hK hT 7 rfl rfl 4 (by decide) w253 (fun _ h9 => h9) rfl dX10_keeps_15 ?_
    refine lv_iload_n hx hb dX10_keeps_18 rfl (lv_at hl 2 rfl) ?_
    have hq342 : x1.toInt = 2 := by omega
    refine tz_aldq (b := h19) hx hb hK hT 9 rfl (vp_in_iff.mpr (by have := hq342; omega)) (fun f hf => by rw [cl_of hq342]; exact hf.2.2.1) dX10_keeps_19 ?_
    refine tz_get (ci := 5) (v := .ref h39) (C := RX6) (F := TX6) (N := 3) hx hb hU iX6 hown hK hT 12 rfl rfl 2 (by decide) w241 (fun _ h9 => h9) rfl dX10_keeps_20 ?_
    refine lv_iload_n hx hb dX10_keeps_23 rfl (lv_at hl 3 rfl) ?_
    refine lv_aload_n hx hb dX10_keeps_24 rfl (lv_at hl 1 rfl) ?_
    refine tz_get (ci := 7) (v := .ref h11) (C := RX10) (F := TX10) (N := 17) hx hb hU iX10 hown hK hT 7 rfl rfl 15 (by decide) w264 (fun _ h9 => h9) rfl dX10_keeps_25 ?_
    refine lv_iconst (v := 0) hx hb dX10_keeps_28 (by decide) ?_
    refine lv_aload_n hx hb dX10_keeps_29 rfl (lv_at hl 1 rfl) ?_
    refine tz_get (ci := 7) (v := .ref h1) (C := RX10) (F := TX10) (N := 17) hx hb hU iX10 hown hK hT 7 rfl rfl 0 (by decide) w249 (fun _ h9 => h9) rfl dX10_keeps_30 ?_
    refine tcI (Tc := [(h1, ob 4 [.int h1f0, .int h1f1, .int h1f2, .ref h13])]) (Tr := [(h11, aJ (k 1) 9 anJ), (h12, aJ (k 1) 9 anJ), (h13, aJ (k 1) 36 anJ), (h37, aJ (k 1) 40 anJ), (h38, aJ (k 1) 40 anJ), (h39, aJ (k 1) 40 anJ), (h40, aJ (k 1) 40 anJ), (h0, ob 7 [.ref h1, .ref h2, .int h0f2, .ref h3, .ref h4, .ref h5, .int h0f6, .ref h6, .int h0f8, .null, .ref h7, .int h0f11, .ref h8, .ref h9, .ref h10, .ref h11, .ref h12]), (h4, aQ (k 3) 4 (q4 h17 h18 h19 h20)), (h17, ob 5 [.int h17f0, .int h17f1, .ref h37]), (h18, ob 5 [.int h18f0, .int h18f1, .ref h38]), (h19, ob 5 [.int h19f0, .int h19f1, .ref h39]), (h20, ob 5 [.int h20f0, .int h20f1, .ref h40])]) (as := [h1]) (zcV (q0 := 8) (ci := 4) (As := []) (rest := [.int 0, .ref h11, .int x2, .ref h39]) (Tc := [(h1, ob 4 [.int h1f0, .int h1f1, .int h1f2, .ref h13])]) hx hb hml hown hU hK hT rfl rfl [8] rfl (by decide) (cX5_cellCount_f3983 l D k _ h1 h13 h1f0 h1f1 h1f2 (by omega) (by omega)) w385 w382 w383 w384 w64 hdX5_cellCount ⟨rfl, rfl⟩ ⟨Nat.le_of_ble_eq_true rfl, Nat.le_of_ble_eq_true rfl⟩ rfl hl.1 (Nat.le_of_ble_eq_true rfl) dX10_keeps_33 ⟨Nat.le_of_ble_eq_true rfl, Nat.le_of_ble_eq_true rfl⟩) hT hS hA [8] [0, 1, 2, 3, 4, 5, 6, 7, 9, 10, 11, 12, 13] rfl rfl rfl (by decide) (by decide) (fun r343 H locs hB J hS => ?_)
    rcases hB with ⟨v344, b_v344, c_345, c_346, rfl, hT1⟩ | ⟨v347, b_v347, c_348, c_349, rfl, hT1⟩ | ⟨v350, b_v350, c_351, c_352, rfl, hT1⟩
    · skip
      have hT := J _ hT1
      have hT : TP D A [(h11, aJ (k 1) 9 anJ), (h12, aJ (k 1) 9 anJ), (h13, aJ (k 1) 36 anJ), (h37, aJ (k 1) 40 anJ), (h38, aJ (k 1) 40 anJ), (h39, aJ (k 1) 40 anJ), (h40, aJ (k 1) 40 anJ), (h0, ob 7 [.ref h1, .ref h2, .int h0f2, .ref h3, .ref h4, .ref h5, .int h0f6, .ref h6, .int h0f8, .null, .ref h7, .int h0f11, .ref h8, .ref h9, .ref h10, .ref h11, .ref h12]), (h4, aQ (k 3) 4 (q4 h17 h18 h19 h20)), (h17, ob 5 [.int h17f0, .int h17f1, .ref h37]), (h18, ob 5 [.int h18f0, .int h18f1, .ref h38]), (h19, ob 5 [.int h19f0, .int h19f1, .ref h39]), (h20, ob 5 [.int h20f0, .int h20f1, .ref h40]), (h1, ob 4 [.int h1f0, .int h1f1, .int h1f2, .ref h13])] _ := hT
      exfalso; omega
    · skip
      have hT := J _ hT1
      have hT : TP D A [(h11, aJ (k 1) 9 anJ), (h12, aJ (k 1) 9 anJ), (h13, aJ (k 1) 36 anJ), (h37, aJ (k 1) 40 anJ), (h38, aJ (k 1) 40 anJ), (h39, aJ (k 1) 40 anJ), (h40, aJ (k 1) 40 anJ), (h0, ob 7 [.ref h1, .ref h2, .int h0f2, .ref h3, .ref h4, .ref h5, .int h0f6, .ref h6, .int h0f8, .null, .ref h7, .int h0f11, .ref h8, .ref h9, .ref h10, .ref h11, .ref h12]), (h4, aQ (k 3) 4 (q4 h17 h18 h19 h20)), (h17, ob 5 [.int h17f0, .int h17f1, .ref h37]), (h18, ob 5 [.int h18f0, .int h18f1, .ref h38]), (h19, ob 5 [.int h19f0, .int h19f1, .ref h39]), (h20, ob 5 [.int h20f0, .int h20f1, .ref h40]), (h1, ob 4 [.int h1f0, .int h1f1, .int h1f2, .ref h13])] _ := hT
      refine tz_copyl hx hb (by rw [hml]; exact hl.1.symm) hown hU w410 w348 w347 w75 hK hT hS 5 0 rfl rfl (by have := li_0; omega) (fun _ _ _ _ => trivial) (Nat.le_of_ble_eq_true rfl) (Nat.le_of_ble_eq_true rfl) dX10_keeps_36 (fun H locs hT hS => ?_)
      refine lv_aload_n hx hb dX10_keeps_39 rfl (lv_at hl 1 rfl) ?_
      refine tz_get (ci := 7) (v := .ref h11) (C := RX10) (F := TX10) (N := 17) hx hb hU iX10 hown hK hT 7 rfl rfl 15 (by decide) w264 (fun _ h9 => h9) rfl dX10_keeps_40 ?_
      refine lv_aload_n hx hb dX10_keeps_43 rfl (lv_at hl 1 rfl) ?_
      refine tz_get (ci := 7) (v := .ref h1) (C := RX10) (F := TX10) (N := 17) hx hb hU iX10 hown hK hT 7 rfl rfl 0 (by decide) w249 (fun _ h9 => h9) rfl dX10_keeps_44 ?_
      refine tcI (Tc := [(h1, ob 4 [.int h1f0, .int h1f1, .int h1f2, .ref h13])]) (Tr := [(h11, aJ (k 1) 9 anJ), (h12, aJ (k 1) 9 anJ), (h13, aJ (k 1) 36 anJ), (h37, aJ (k 1) 40 anJ), (h38, aJ (k 1) 40 anJ), (h39, aJ (k 1) 40 anJ), (h40, aJ (k 1) 40 anJ), (h0, ob 7 [.ref h1, .ref h2, .int h0f2, .ref h3, .ref h4, .ref h5, .int h0f6, .ref h6, .int h0f8, .null, .ref h7, .int h0f11, .ref h8, .ref h9, .ref h10, .ref h11, .ref h12]), (h4, aQ (k 3) 4 (q4 h17 h18 h19 h20)), (h17, ob 5 [.int h17f0, .int h17f1, .ref h37]), (h18, ob 5 [.int h18f0, .int h18f1, .ref h38]), (h19, ob 5 [.int h19f0, .int h19f1, .ref h39]), (h20, ob 5 [.int h20f0, .int h20f1, .ref h40])]) (as := [h1]) (zcV (q0 := 13) (ci := 4) (As := []) (rest := [.ref h11]) (Tc := [(h1, ob 4 [.int h1f0, .int h1f1, .int h1f2, .ref h13])]) hx hb hml hown hU hK hT rfl rfl [13] rfl (by decide) (cX5_cellCount_f3983 l D k _ h1 h13 h1f0 h1f1 h1f2 (by omega) (by omega)) w385 w382 w383 w384 w64 hdX5_cellCount ⟨rfl, rfl⟩ ⟨Nat.le_of_ble_eq_true rfl, Nat.le_of_ble_eq_true rfl⟩ rfl hl.1 (Nat.le_of_ble_eq_true rfl) dX10_keeps_47 ⟨Nat.le_of_ble_eq_true rfl, Nat.le_of_ble_eq_true rfl⟩) hT hS hA [13] [0, 1, 2, 3, 4, 5, 6, 7, 8, 9, 10, 11, 12] rfl rfl rfl (by decide) (by decide) (fun r353 H locs hB J hS => ?_)
      rcases hB with ⟨v354, b_v354, c_355, c_356, rfl, hT1⟩ | ⟨v357, b_v357, c_358, c_359, rfl, hT1⟩ | ⟨v360, b_v360, c_361, c_362, rfl, hT1⟩
      · skip
        have hT := J _ hT1
        have hT : TP D A [(h11, aJ (k 1) 9 anJ), (h12, aJ (k 1) 9 anJ), (h13, aJ (k 1) 36 anJ), (h37, aJ (k 1) 40 anJ), (h38, aJ (k 1) 40 anJ), (h39, aJ (k 1) 40 anJ), (h40, aJ (k 1) 40 anJ), (h0, ob 7 [.ref h1, .ref h2, .int h0f2, .ref h3, .ref h4, .ref h5, .int h0f6, .ref h6, .int h0f8, .null, .ref h7, .int h0f11, .ref h8, .ref h9, .ref h10, .ref h11, .ref h12]), (h4, aQ (k 3) 4 (q4 h17 h18 h19 h20)), (h17, ob 5 [.int h17f0, .int h17f1, .ref h37]), (h18, ob 5 [.int h18f0, .int h18f1, .ref h38]), (h19, ob 5 [.int h19f0, .int h19f1, .ref h39]), (h20, ob 5 [.int h20f0, .int h20f1, .ref h40]), (h1, ob 4 [.int h1f0, .int h1f1, .int h1f2, .ref h13])] _ := hT
        exfalso; omega
      · skip
        have hT := J _ hT1
        have hT : TP D A [(h11, aJ (k 1) 9 anJ), (h12, aJ (k 1) 9 anJ), (h13, aJ (k 1) 36 anJ), (h37, aJ (k 1) 40 anJ), (h38, aJ (k 1) 40 anJ), (h39, aJ (k 1) 40 anJ), (h40, aJ (k 1) 40 anJ), (h0, ob 7 [.ref h1, .ref h2, .int h0f2, .ref h3, .ref h4, .ref h5, .int h0f6, .ref h6, .int h0f8, .null, .ref h7, .int h0f11, .ref h8, .ref h9, .ref h10, .ref h11, .ref h12]), (h4, aQ (k 3) 4 (q4 h17 h18 h19 h20)), (h17, ob 5 [.int h17f0, .int h17f1, .ref h37]), (h18, ob 5 [.int h18f0, .int h18f1, .ref h38]), (h19, ob 5 [.int h19f0, .int h19f1, .ref h39]), (h20, ob 5 [.int h20f0, .int h20f1, .ref h40]), (h1, ob 4 [.int h1f0, .int h1f1, .int h1f2, .ref h13])] _ := hT
        refine lv_ldc2 hx hb hown (hU _ w649) dX10_keeps_50 ?_
        have q_q364 := ll_1000000
        refine tcI (Tc := [(h11, aJ (k 1) 9 anJ)]) (Tr := [(h12, aJ (k 1) 9 anJ), (h13, aJ (k 1) 36 anJ), (h37, aJ (k 1) 40 anJ), (h38, aJ (k 1) 40 anJ), (h39, aJ (k 1) 40 anJ), (h40, aJ (k 1) 40 anJ), (h0, ob 7 [.ref h1, .ref h2, .int h0f2, .ref h3, .ref h4, .ref h5, .int h0f6, .ref h6, .int h0f8, .null, .ref h7, .int h0f11, .ref h8, .ref h9, .ref h10, .ref h11, .ref h12]), (h4, aQ (k 3) 4 (q4 h17 h18 h19 h20)), (h17, ob 5 [.int h17f0, .int h17f1, .ref h37]), (h18, ob 5 [.int h18f0, .int h18f1, .ref h38]), (h19, ob 5 [.int h19f0, .int h19f1, .ref h39]), (h20, ob 5 [.int h20f0, .int h20f1, .ref h40]), (h1, ob 4 [.int h1f0, .int h1f1, .int h1f2, .ref h13])]) (as := [h11]) (zcS (As := [.ref h11, .int v357, .long 1000000]) (rest := []) (Tc := [(h11, aJ (k 1) 9 anJ)]) hx hb hml hown hU hK hT [0] rfl (by decide) (cX7_isWithin_443ab l D k _ h11 v357 (1000000) (by omega) (by have := ll_1000000; omega)) w389 w387 w388 w74 hdX7_isWithin ⟨rfl, rfl⟩ ⟨Nat.le_of_ble_eq_true rfl, Nat.le_of_ble_eq_true rfl⟩ rfl hl.1 (Nat.le_of_ble_eq_true rfl) dX10_keeps_53 ⟨Nat.le_of_ble_eq_true rfl, Nat.le_of_ble_eq_true rfl⟩) hT hS hA [0] [1, 2, 3, 4, 5, 6, 7, 8, 9, 10, 11, 12, 13] rfl rfl rfl (by decide) (by decide) (fun r363 H locs hB J hS => ?_)
        obtain ⟨b_r363, hT1⟩ := hB
        have hT := J _ hT1
        have hT : TP D A [(h12, aJ (k 1) 9 anJ), (h13, aJ (k 1) 36 anJ), (h37, aJ (k 1) 40 anJ), (h38, aJ (k 1) 40 anJ), (h39, aJ (k 1) 40 anJ), (h40, aJ (k 1) 40 anJ), (h0, ob 7 [.ref h1, .ref h2, .int h0f2, .ref h3, .ref h4, .ref h5, .int h0f6, .ref h6, .int h0f8, .null, .ref h7, .int h0f11, .ref h8, .ref h9, .ref h10, .ref h11, .ref h12]), (h4, aQ (k 3) 4 (q4 h17 h18 h19 h20)), (h17, ob 5 [.int h17f0, .int h17f1, .ref h37]), (h18, ob 5 [.int h18f0, .int h18f1, .ref h38]), (h19, ob 5 [.int h19f0, .int h19f1, .ref h39]), (h20, ob 5 [.int h20f0, .int h20f1, .ref h40]), (h1, ob 4 [.int h1f0, .int h1f1, .int h1f2, .ref h13]), (h11, aJ (k 1) 9 anJ)] _ := hT
        refine lv_if_ne (tgt := 62) hx hb dX10_keeps_56 (by decide) (fun c_365 => ?_) (fun c_365 => ?_)
        · skip
          have c_365 := ni_ne c_365 rfl li_0
          refine lv_aload_n hx hb dX10_keeps_62 rfl (lv_at hl 1 rfl) ?_
          refine tcI (Tc := [(h0, ob 7 [.ref h1, .ref h2, .int h0f2, .ref h3, .ref h4, .ref h5, .int h0f6, .ref h6, .int h0f8, .null, .ref h7, .int h0f11, .ref h8, .ref h9, .ref h10, .ref h11, .ref h12]), (h1, ob 4 [.int h1f0, .int h1f1, .int h1f2, .ref h13]), (h11, aJ (k 1) 9 anJ), (h12, aJ (k 1) 9 anJ)]) (Tr := [(h13, aJ (k 1) 36 anJ), (h37, aJ (k 1) 40 anJ), (h38, aJ (k 1) 40 anJ), (h39, aJ (k 1) 40 anJ), (h40, aJ (k 1) 40 anJ), (h4, aQ (k 3) 4 (q4 h17 h18 h19 h20)), (h17, ob 5 [.int h17f0, .int h17f1, .ref h37]), (h18, ob 5 [.int h18f0, .int h18f1, .ref h38]), (h19, ob 5 [.int h19f0, .int h19f1, .ref h39]), (h20, ob 5 [.int h20f0, .int h20f1, .ref h40])]) (as := [h0, h1, h11, h12]) (zcV (q0 := 6) (ci := 7) (As := []) (rest := []) (Tc := [(h0, ob 7 [.ref h1, .ref h2, .int h0f2, .ref h3, .ref h4, .ref h5, .int h0f6, .ref h6, .int h0f8, .null, .ref h7, .int h0f11, .ref h8, .ref h9, .ref h10, .ref h11, .ref h12]), (h1, ob 4 [.int h1f0, .int h1f1, .int h1f2, .ref h13]), (h11, aJ (k 1) 9 anJ), (h12, aJ (k 1) 9 anJ)]) hx hb hml hown hU hK hT rfl rfl [6, 12, 13, 0] rfl (by decide) (cX10_isPositiveForm_92f38 l D k _ h0 h1 h11 h12 h2 h3 h4 h5 h6 h7 h8 h9 h10 h13 h0f2 h0f6 h0f8 h0f11 h1f0 h1f1 h1f2 (by omega) (by omega) (by omega) (by omega) (by omega) (by omega)) w653 w650 w652 w19 w63 hdX10_isPositiveForm ⟨rfl, rfl⟩ ⟨Nat.le_of_ble_eq_true rfl, Nat.le_of_ble_eq_true rfl⟩ rfl hl.1 (Nat.le_of_ble_eq_true rfl) dX10_keeps_63 ⟨Nat.le_of_ble_eq_true rfl, Nat.le_of_ble_eq_true rfl⟩) hT hS hA [6, 12, 13, 0] [1, 2, 3, 4, 5, 7, 8, 9, 10, 11] rfl rfl rfl (by decide) (by decide) (fun r366 H locs hB J hS => ?_)
          obtain ⟨b_r366, hT1⟩ := hB
          have hT := J _ hT1
          have hT : TP D A [(h13, aJ (k 1) 36 anJ), (h37, aJ (k 1) 40 anJ), (h38, aJ (k 1) 40 anJ), (h39, aJ (k 1) 40 anJ), (h40, aJ (k 1) 40 anJ), (h4, aQ (k 3) 4 (q4 h17 h18 h19 h20)), (h17, ob 5 [.int h17f0, .int h17f1, .ref h37]), (h18, ob 5 [.int h18f0, .int h18f1, .ref h38]), (h19, ob 5 [.int h19f0, .int h19f1, .ref h39]), (h20, ob 5 [.int h20f0, .int h20f1, .ref h40]), (h0, ob 7 [.ref h1, .ref h2, .int h0f2, .ref h3, .ref h4, .ref h5, .int h0f6, .ref h6, .int h0f8, .null, .ref h7, .int h0f11, .ref h8, .ref h9, .ref h10, .ref h11, .ref h12]), (h1, ob 4 [.int h1f0, .int h1f1, .int h1f2, .ref h13]), (h11, aJ (k 1) 9 anJ), (h12, aJ (k 1) 9 anJ)] _ := hT
          refine lv_if_eq (tgt := 80) hx hb dX10_keeps_66 (by decide) (fun c_367 => ?_) (fun c_367 => ?_)
          · skip
            have c_367 := ni_eq c_367 rfl li_0
            refine lv_iconst (v := 0) hx hb dX10_keeps_80 (by decide) ?_
            exact tz_retI (B := B_cX10_keeps_deb30 D k h0 h1 h4 h11 h12 h13 h17 h18 h19 h20 h37 h38 h39 h40 h2 h3 h5 h6 h7 h8 h9 h10 x1 x2 h0f2 h0f6 h0f8 h0f11 h1f0 h1f1 h1f2 h17f0 h17f1 h18f0 h18f1 h19f0 h19f1 h20f0 h20f1) (v := 0) hQ hx hb hr hlocks hS (Nat.le_of_ble_eq_true rfl) (Nat.le_of_ble_eq_true rfl) dX10_keeps_81 (⟨(by have := li_0; omega), (hT.sub [10, 11, 5, 12, 13, 0, 6, 7, 8, 9, 1, 2, 3, 4] (by decide) rfl)⟩)
          · skip
            have c_367 := ni_ne c_367 rfl li_0
            refine lv_aload_n hx hb dX10_keeps_69 rfl (lv_at hl 1 rfl) ?_
            refine tcI (Tc := [(h0, ob 7 [.ref h1, .ref h2, .int h0f2, .ref h3, .ref h4, .ref h5, .int h0f6, .ref h6, .int h0f8, .null, .ref h7, .int h0f11, .ref h8, .ref h9, .ref h10, .ref h11, .ref h12]), (h1, ob 4 [.int h1f0, .int h1f1, .int h1f2, .ref h13]), (h11, aJ (k 1) 9 anJ), (h12, aJ (k 1) 9 anJ), (h13, aJ (k 1) 36 anJ)]) (Tr := [(h37, aJ (k 1) 40 anJ), (h38, aJ (k 1) 40 anJ), (h39, aJ (k 1) 40 anJ), (h40, aJ (k 1) 40 anJ), (h4, aQ (k 3) 4 (q4 h17 h18 h19 h20)), (h17, ob 5 [.int h17f0, .int h17f1, .ref h37]), (h18, ob 5 [.int h18f0, .int h18f1, .ref h38]), (h19, ob 5 [.int h19f0, .int h19f1, .ref h39]), (h20, ob 5 [.int h20f0, .int h20f1, .ref h40])]) (as := [h0, h1, h11, h12, h13]) (zcV (q0 := 10) (ci := 7) (As := []) (rest := []) (Tc := [(h0, ob 7 [.ref h1, .ref h2, .int h0f2, .ref h3, .ref h4, .ref h5, .int h0f6, .ref h6, .int h0f8, .null, .ref h7, .int h0f11, .ref h8, .ref h9, .ref h10, .ref h11, .ref h12]), (h1, ob 4 [.int h1f0, .int h1f1, .int h1f2, .ref h13]), (h11, aJ (k 1) 9 anJ), (h12, aJ (k 1) 9 anJ), (h13, aJ (k 1) 36 anJ)]) hx hb hml hown hU hK hT rfl rfl [10, 11, 12, 13, 0] rfl (by decide) (cX10_noGeneratorChangesForm_52b64 l D k _ h0 h1 h11 h12 h13 h2 h3 h4 h5 h6 h7 h8 h9 h10 h0f2 h0f6 h0f8 h0f11 h1f0 h1f1 h1f2 (by omega) (by omega) (by omega) (by omega) (by omega) (by omega)) w657 w654 w656 w20 w63 hdX10_noGeneratorChangesForm ⟨rfl, rfl⟩ ⟨Nat.le_of_ble_eq_true rfl, Nat.le_of_ble_eq_true rfl⟩ rfl hl.1 (Nat.le_of_ble_eq_true rfl) dX10_keeps_70 ⟨Nat.le_of_ble_eq_true rfl, Nat.le_of_ble_eq_true rfl⟩) hT hS hA [10, 11, 12, 13, 0] [1, 2, 3, 4, 5, 6, 7, 8, 9] rfl rfl rfl (by decide) (by decide) (fun r368 H locs hB J hS => ?_)
            obtain ⟨b_r368, hT1⟩ := hB
            have hT := J _ hT1
            have hT : TP D A [(h37, aJ (k 1) 40 anJ), (h38, aJ (k 1) 40 anJ), (h39, aJ (k 1) 40 anJ), (h40, aJ (k 1) 40 anJ), (h4, aQ (k 3) 4 (q4 h17 h18 h19 h20)), (h17, ob 5 [.int h17f0, .int h17f1, .ref h37]), (h18, ob 5 [.int h18f0, .int h18f1, .ref h38]), (h19, ob 5 [.int h19f0, .int h19f1, .ref h39]), (h20, ob 5 [.int h20f0, .int h20f1, .ref h40]), (h0, ob 7 [.ref h1, .ref h2, .int h0f2, .ref h3, .ref h4, .ref h5, .int h0f6, .ref h6, .int h0f8, .null, .ref h7, .int h0f11, .ref h8, .ref h9, .ref h10, .ref h11, .ref h12]), (h1, ob 4 [.int h1f0, .int h1f1, .int h1f2, .ref h13]), (h11, aJ (k 1) 9 anJ), (h12, aJ (k 1) 9 anJ), (h13, aJ (k 1) 36 anJ)] _ := hT
            refine lv_if_eq (tgt := 80) hx hb dX10_keeps_73 (by decide) (fun c_369 => ?_) (fun c_369 => ?_)
            · skip
              have c_369 := ni_eq c_369 rfl li_0
              refine lv_iconst (v := 0) hx hb dX10_keeps_80 (by decide) ?_
              exact tz_retI (B := B_cX10_keeps_deb30 D k h0 h1 h4 h11 h12 h13 h17 h18 h19 h20 h37 h38 h39 h40 h2 h3 h5 h6 h7 h8 h9 h10 x1 x2 h0f2 h0f6 h0f8 h0f11 h1f0 h1f1 h1f2 h17f0 h17f1 h18f0 h18f1 h19f0 h19f1 h20f0 h20f1) (v := 0) hQ hx hb hr hlocks hS (Nat.le_of_ble_eq_true rfl) (Nat.le_of_ble_eq_true rfl) dX10_keeps_81 (⟨(by have := li_0; omega), (hT.sub [9, 10, 4, 11, 12, 13, 5, 6, 7, 8, 0, 1, 2, 3] (by decide) rfl)⟩)
            · skip
              have c_369 := ni_ne c_369 rfl li_0
              refine lv_iconst (v := 1) hx hb dX10_keeps_76 (by decide) ?_
              refine lv_goto (tgt := 81) hx hb dX10_keeps_77 (by decide) ?_
              exact tz_retI (B := B_cX10_keeps_deb30 D k h0 h1 h4 h11 h12 h13 h17 h18 h19 h20 h37 h38 h39 h40 h2 h3 h5 h6 h7 h8 h9 h10 x1 x2 h0f2 h0f6 h0f8 h0f11 h1f0 h1f1 h1f2 h17f0 h17f1 h18f0 h18f1 h19f0 h19f1 h20f0 h20f1) (v := 1) hQ hx hb hr hlocks hS (Nat.le_of_ble_eq_true rfl) (Nat.le_of_ble_eq_true rfl) dX10_keeps_81 (⟨(by have := li_1; omega), (hT.sub [9, 10, 4, 11, 12, 13, 5, 6, 7, 8, 0, 1, 2, 3] (by decide) rfl)⟩)
        · skip
          have c_365 := ni_eq c_365 rfl li_0
          refine lv_bipush (v := (-16)) hx hb dX10_keeps_59 (by decide) ?_
          exact tz_retI (B := B_cX10_keeps_deb30 D k h0 h1 h4 h11 h12 h13 h17 h18 h19 h20 h37 h38 h39 h40 h2 h3 h5 h6 h7 h8 h9 h10 x1 x2 h0f2 h0f6 h0f8 h0f11 h1f0 h1f1 h1f2 h17f0 h17f1 h18f0 h18f1 h19f0 h19f1 h20f0 h20f1) (v := (-16)) hQ hx hb hr hlocks hS (Nat.le_of_ble_eq_true rfl) (Nat.le_of_ble_eq_true rfl) dX10_keeps_61 (⟨(by have := li_m16; omega), (hT.sub [6, 12, 7, 13, 0, 1, 8, 9, 10, 11, 2, 3, 4, 5] (by decide) rfl)⟩)
      · skip
        have hT := J _ hT1
        have hT : TP D A [(h11, aJ (k 1) 9 anJ), (h12, aJ (k 1) 9 anJ), (h13, aJ (k 1) 36 anJ), (h37, aJ (k 1) 40 anJ), (h38, aJ (k 1) 40 anJ), (h39, aJ (k 1) 40 anJ), (h40, aJ (k 1) 40 anJ), (h0, ob 7 [.ref h1, .ref h2, .int h0f2, .ref h3, .ref h4, .ref h5, .int h0f6, .ref h6, .int h0f8, .null, .ref h7, .int h0f11, .ref h8, .ref h9, .ref h10, .ref h11, .ref h12]), (h4, aQ (k 3) 4 (q4 h17 h18 h19 h20)), (h17, ob 5 [.int h17f0, .int h17f1, .ref h37]), (h18, ob 5 [.int h18f0, .int h18f1, .ref h38]), (h19, ob 5 [.int h19f0, .int h19f1, .ref h39]), (h20, ob 5 [.int h20f0, .int h20f1, .ref h40]), (h1, ob 4 [.int h1f0, .int h1f1, .int h1f2, .ref h13])] _ := hT
        exfalso; omega
    · skip
      have hT := J _ hT1
      have hT : TP D A [(h11, aJ (k 1) 9 anJ), (h12, aJ (k 1) 9 anJ), (h13, aJ (k 1) 36 anJ), (h37, aJ (k 1) 40 anJ), (h38, aJ (k 1) 40 anJ), (h39, aJ (k 1) 40 anJ), (h40, aJ (k 1) 40 anJ), (h0, ob 7 [.ref h1, .ref h2, .int h0f2, .ref h3, .ref h4, .ref h5, .int h0f6, .ref h6, .int h0f8, .null, .ref h7, .int h0f11, .ref h8, .ref h9, .ref h10, .ref h11, .ref h12]), (h4, aQ (k 3) 4 (q4 h17 h18 h19 h20)), (h17, ob 5 [.int h17f0, .int h17f1, .ref h37]), (h18, ob 5 [.int h18f0, .int h18f1, .ref h38]), (h19, ob 5 [.int h19f0, .int h19f1, .ref h39]), (h20, ob 5 [.int h20f0, .int h20f1, .ref h40]), (h1, ob 4 [.int h1f0, .int h1f1, .int h1f2, .ref h13])] _ := hT
      exfalso; omega
  · skip
    have hT := J _ hT1
    have hT : TP D A [(h11, aJ (k 1) 9 anJ), (h12, aJ (k 1) 9 anJ), (h13, aJ (k 1) 36 anJ), (h37, aJ (k 1) 40 anJ), (h38, aJ (k 1) 40 anJ), (h39, aJ (k 1) 40 anJ), (h40, aJ (k 1) 40 anJ), (h0, ob 7 [.ref h1, .ref h2, .int h0f2, .ref h3, .ref h4, .ref h5, .int h0f6, .ref h6, .int h0f8, .null, .ref h7, .int h0f11, .ref h8, .ref h9, .ref h10, .ref h11, .ref h12]), (h1, ob 4 [.int h1f0, .int h1f1, .int h1f2, .ref h13]), (h4, aQ (k 3) 4 (q4 h17 h18 h19 h20)), (h17, ob 5 [.int h17f0, .int h17f1, .ref h37]), (h18, ob 5 [.int h18f0, .int h18f1, .ref h38]), (h19, ob 5 [.int h19f0, .int h19f1, .ref h39]), (h20, ob 5 [.int h20f0, .int h20f1, .ref h40])] _ := hT
    refine lv_istore_n (lv' := [(3, .int 0), (0, .ref h0), (1, .int x1), (2, .int x2)]) hx hb dX10_keeps_7 rfl hl (by decide) rfl (fun ls hl => ?_)
    refine lv_iload_n hx hb dX10_keeps_8 rfl (lv_at hl 0 rfl) ?_
    refine lv_if_eq (tgt := 14) hx hb dX10_keeps_9 (by decide) (fun _ => ?_) (fun cc => absurd (by decide +kernel) cc)
    refine lv_aload_n hx hb dX10_keeps_14 rfl (lv_at hl 1 rfl) ?_
    refine tz_get (ci := 7) (v := .ref h4) (C := RX10) (F := TX10) (N := 17) hx hb hU iX10 hown hK hT 7 rfl rfl 4 (by decide) w253 (fun _ h9 => h9) rfl dX10_keeps_15 ?_
    refine lv_iload_n hx hb dX10_keeps_18 rfl (lv_at hl 2 rfl) ?_
    have hq370 : x1.toInt = 2 := by omega
    refine tz_aldq (b := h19) hx hb hK hT 9 rfl (vp_in_iff.mpr (by have := hq370; omega)) (fun f hf => by rw [cl_of hq370]; exact hf.2.2.1) dX10_keeps_19 ?_
    refine tz_get (ci := 5) (v := .ref h39) (C := RX6) (F := TX6) (N := 3) hx hb hU iX6 hown hK hT 12 rfl rfl 2 (by decide) w241 (fun _ h9 => h9) rfl dX10_keeps_20 ?_
    refine lv_iload_n hx hb dX10_keeps_23 rfl (lv_at hl 3 rfl) ?_
    refine lv_aload_n hx hb dX10_keeps_24 rfl (lv_at hl 1 rfl) ?_
    refine tz_get (ci := 7) (v := .ref h11) (C := RX10) (F := TX10) (N := 17) hx hb hU iX10 hown hK hT 7 rfl rfl 15 (by decide) w264 (fun _ h9 => h9) rfl dX10_keeps_25 ?_
    refine lv_iconst (v := 0) hx hb dX10_keeps_28 (by decide) ?_
    refine lv_aload_n hx hb dX10_keeps_29 rfl (lv_at hl 1 rfl) ?_
    refine tz_get (ci := 7) (v := .ref h1) (C := RX10) (F := TX10) (N := 17) hx hb hU iX10 hown hK hT 7 rfl rfl 0 (by decide) w249 (fun _ h9 => h9) rfl dX10_keeps_30 ?_
    refine tcI (Tc := [(h1, ob 4 [.int h1f0, .int h1f1, .int h1f2, .ref h13])]) (Tr := [(h11, aJ (k 1) 9 anJ), (h12, aJ (k 1) 9 anJ), (h13, aJ (k 1) 36 anJ), (h37, aJ (k 1) 40 anJ), (h38, aJ (k 1) 40 anJ), (h39, aJ (k 1) 40 anJ), (h40, aJ (k 1) 40 anJ), (h0, ob 7 [.ref h1, .ref h2, .int h0f2, .ref h3, .ref h4, .ref h5, .int h0f6, .ref h6, .int h0f8, .null, .ref h7, .int h0f11, .ref h8, .ref h9, .ref h10, .ref h11, .ref h12]), (h4, aQ (k 3) 4 (q4 h17 h18 h19 h20)), (h17, ob 5 [.int h17f0, .int h17f1, .ref h37]), (h18, ob 5 [.int h18f0, .int h18f1, .ref h38]), (h19, ob 5 [.int h19f0, .int h19f1, .ref h39]), (h20, ob 5 [.int h20f0, .int h20f1, .ref h40])]) (as := [h1]) (zcV (q0 := 8) (ci := 4) (As := []) (rest := [.int 0, .ref h11, .int x2, .ref h39]) (Tc := [(h1, ob 4 [.int h1f0, .int h1f1, .int h1f2, .ref h13])]) hx hb hml hown hU hK hT rfl rfl [8] rfl (by decide) (cX5_cellCount_f3983 l D k _ h1 h13 h1f0 h1f1 h1f2 (by omega) (by omega)) w385 w382 w383 w384 w64 hdX5_cellCount ⟨rfl, rfl⟩ ⟨Nat.le_of_ble_eq_true rfl, Nat.le_of_ble_eq_true rfl⟩ rfl hl.1 (Nat.le_of_ble_eq_true rfl) dX10_keeps_33 ⟨Nat.le_of_ble_eq_true rfl, Nat.le_of_ble_eq_true rfl⟩) hT hS hA [8] [0, 1, 2, 3, 4, 5, 6, 7, 9, 10, 11, 12, 13] rfl rfl rfl (by decide) (by decide) (fun r371 H locs hB J hS => ?_)
    rcases hB with ⟨v372, b_v372, c_373, c_374, rfl, hT1⟩ | ⟨v375, b_v375, c_376, c_377, rfl, hT1⟩ | ⟨v378, b_v378, c_379, c_380, rfl, hT1⟩
    · skip
      have hT := J _ hT1
      have hT : TP D A [(h11, aJ (k 1) 9 anJ), (h12, aJ (k 1) 9 anJ), (h13, aJ (k 1) 36 anJ), (h37, aJ (k 1) 40 anJ), (h38, aJ (k 1) 40 anJ), (h39, aJ (k 1) 40 anJ), (h40, aJ (k 1) 40 anJ), (h0, ob 7 [.ref h1, .ref h2, .int h0f2, .ref h3, .ref h4, .ref h5, .int h0f6, .ref h6, .int h0f8, .null, .ref h7, .int h0f11, .ref h8, .ref h9, .ref h10, .ref h11, .ref h12]), (h4, aQ (k 3) 4 (q4 h17 h18 h19 h20)), (h17, ob 5 [.int h17f0, .int h17f1, .ref h37]), (h18, ob 5 [.int h18f0, .int h18f1, .ref h38]), (h19, ob 5 [.int h19f0, .int h19f1, .ref h39]), (h20, ob 5 [.int h20f0, .int h20f1, .ref h40]), (h1, ob 4 [.int h1f0, .int h1f1, .int h1f2, .ref h13])] _ := hT
      exfalso; omega
    · skip
      have hT := J _ hT1
      have hT : TP D A [(h11, aJ (k 1) 9 anJ), (h12, aJ (k 1) 9 anJ), (h13, aJ (k 1) 36 anJ), (h37, aJ (k 1) 40 anJ), (h38, aJ (k 1) 40 anJ), (h39, aJ (k 1) 40 anJ), (h40, aJ (k 1) 40 anJ), (h0, ob 7 [.ref h1, .ref h2, .int h0f2, .ref h3, .ref h4, .ref h5, .int h0f6, .ref h6, .int h0f8, .null, .ref h7, .int h0f11, .ref h8, .ref h9, .ref h10, .ref h11, .ref h12]), (h4, aQ (k 3) 4 (q4 h17 h18 h19 h20)), (h17, ob 5 [.int h17f0, .int h17f1, .ref h37]), (h18, ob 5 [.int h18f0, .int h18f1, .ref h38]), (h19, ob 5 [.int h19f0, .int h19f1, .ref h39]), (h20, ob 5 [.int h20f0, .int h20f1, .ref h40]), (h1, ob 4 [.int h1f0, .int h1f1, .int h1f2, .ref h13])] _ := hT
      exfalso; omega
    · skip
      have hT := J _ hT1
      have hT : TP D A [(h11, aJ (k 1) 9 anJ), (h12, aJ (k 1) 9 anJ), (h13, aJ (k 1) 36 anJ), (h37, aJ (k 1) 40 anJ), (h38, aJ (k 1) 40 anJ), (h39, aJ (k 1) 40 anJ), (h40, aJ (k 1) 40 anJ), (h0, ob 7 [.ref h1, .ref h2, .int h0f2, .ref h3, .ref h4, .ref h5, .int h0f6, .ref h6, .int h0f8, .null, .ref h7, .int h0f11, .ref h8, .ref h9, .ref h10, .ref h11, .ref h12]), (h4, aQ (k 3) 4 (q4 h17 h18 h19 h20)), (h17, ob 5 [.int h17f0, .int h17f1, .ref h37]), (h18, ob 5 [.int h18f0, .int h18f1, .ref h38]), (h19, ob 5 [.int h19f0, .int h19f1, .ref h39]), (h20, ob 5 [.int h20f0, .int h20f1, .ref h40]), (h1, ob 4 [.int h1f0, .int h1f1, .int h1f2, .ref h13])] _ := hT
      refine tz_copyl hx hb (by rw [hml]; exact hl.1.symm) hown hU w410 w348 w347 w75 hK hT hS 5 0 rfl rfl (by have := li_0; omega) (fun _ _ _ _ => trivial) (Nat.le_of_ble_eq_true rfl) (Nat.le_of_ble_eq_true rfl) dX10_keeps_36 (fun H locs hT hS => ?_)
      refine lv_aload_n hx hb dX10_keeps_39 rfl (lv_at hl 1 rfl) ?_
      refine tz_get (ci := 7) (v := .ref h11) (C := RX10) (F := TX10) (N := 17) hx hb hU iX10 hown hK hT 7 rfl rfl 15 (by decide) w264 (fun _ h9 => h9) rfl dX10_keeps_40 ?_
      refine lv_aload_n hx hb dX10_keeps_43 rfl (lv_at hl 1 rfl) ?_
      refine tz_get (ci := 7) (v := .ref h1) (C := RX10) (F := TX10) (N := 17) hx hb hU iX10 hown hK hT 7 rfl rfl 0 (by decide) w249 (fun _ h9 => h9) rfl dX10_keeps_44 ?_
      refine tcI (Tc := [(h1, ob 4 [.int h1f0, .int h1f1, .int h1f2, .ref h13])]) (Tr := [(h11, aJ (k 1) 9 anJ), (h12, aJ (k 1) 9 anJ), (h13, aJ (k 1) 36 anJ), (h37, aJ (k 1) 40 anJ), (h38, aJ (k 1) 40 anJ), (h39, aJ (k 1) 40 anJ), (h40, aJ (k 1) 40 anJ), (h0, ob 7 [.ref h1, .ref h2, .int h0f2, .ref h3, .ref h4, .ref h5, .int h0f6, .ref h6, .int h0f8, .null, .ref h7, .int h0f11, .ref h8, .ref h9, .ref h10, .ref h11, .ref h12]), (h4, aQ (k 3) 4 (q4 h17 h18 h19 h20)), (h17, ob 5 [.int h17f0, .int h17f1, .ref h37]), (h18, ob 5 [.int h18f0, .int h18f1, .ref h38]), (h19, ob 5 [.int h19f0, .int h19f1, .ref h39]), (h20, ob 5 [.int h20f0, .int h20f1, .ref h40])]) (as := [h1]) (zcV (q0 := 13) (ci := 4) (As := []) (rest := [.ref h11]) (Tc := [(h1, ob 4 [.int h1f0, .int h1f1, .int h1f2, .ref h13])]) hx hb hml hown hU hK hT rfl rfl [13] rfl (by decide) (cX5_cellCount_f3983 l D k _ h1 h13 h1f0 h1f1 h1f2 (by omega) (by omega)) w385 w382 w383 w384 w64 hdX5_cellCount ⟨rfl, rfl⟩ ⟨Nat.le_of_ble_eq_true rfl, Nat.le_of_ble_eq_true rfl⟩ rfl hl.1 (Nat.le_of_ble_eq_true rfl) dX10_keeps_47 ⟨Nat.le_of_ble_eq_true rfl, Nat.le_of_ble_eq_true rfl⟩) hT hS hA [13] [0, 1, 2, 3, 4, 5, 6, 7, 8, 9, 10, 11, 12] rfl rfl rfl (by decide) (by decide) (fun r381 H locs hB J hS => ?_)
      rcases hB with ⟨v382, b_v382, c_383, c_384, rfl, hT1⟩ | ⟨v385, b_v385, c_386, c_387, rfl, hT1⟩ | ⟨v388, b_v388, c_389, c_390, rfl, hT1⟩
      · skip
        have hT := J _ hT1
        have hT : TP D A [(h11, aJ (k 1) 9 anJ), (h12, aJ (k 1) 9 anJ), (h13, aJ (k 1) 36 anJ), (h37, aJ (k 1) 40 anJ), (h38, aJ (k 1) 40 anJ), (h39, aJ (k 1) 40 anJ), (h40, aJ (k 1) 40 anJ), (h0, ob 7 [.ref h1, .ref h2, .int h0f2, .ref h3, .ref h4, .ref h5, .int h0f6, .ref h6, .int h0f8, .null, .ref h7, .int h0f11, .ref h8, .ref h9, .ref h10, .ref h11, .ref h12]), (h4, aQ (k 3) 4 (q4 h17 h18 h19 h20)), (h17, ob 5 [.int h17f0, .int h17f1, .ref h37]), (h18, ob 5 [.int h18f0, .int h18f1, .ref h38]), (h19, ob 5 [.int h19f0, .int h19f1, .ref h39]), (h20, ob 5 [.int h20f0, .int h20f1, .ref h40]), (h1, ob 4 [.int h1f0, .int h1f1, .int h1f2, .ref h13])] _ := hT
        exfalso; omega
      · skip
        have hT := J _ hT1
        have hT : TP D A [(h11, aJ (k 1) 9 anJ), (h12, aJ (k 1) 9 anJ), (h13, aJ (k 1) 36 anJ), (h37, aJ (k 1) 40 anJ), (h38, aJ (k 1) 40 anJ), (h39, aJ (k 1) 40 anJ), (h40, aJ (k 1) 40 anJ), (h0, ob 7 [.ref h1, .ref h2, .int h0f2, .ref h3, .ref h4, .ref h5, .int h0f6, .ref h6, .int h0f8, .null, .ref h7, .int h0f11, .ref h8, .ref h9, .ref h10, .ref h11, .ref h12]), (h4, aQ (k 3) 4 (q4 h17 h18 h19 h20)), (h17, ob 5 [.int h17f0, .int h17f1, .ref h37]), (h18, ob 5 [.int h18f0, .int h18f1, .ref h38]), (h19, ob 5 [.int h19f0, .int h19f1, .ref h39]), (h20, ob 5 [.int h20f0, .int h20f1, .ref h40]), (h1, ob 4 [.int h1f0, .int h1f1, .int h1f2, .ref h13])] _ := hT
        exfalso; omega
      · skip
        have hT := J _ hT1
        have hT : TP D A [(h11, aJ (k 1) 9 anJ), (h12, aJ (k 1) 9 anJ), (h13, aJ (k 1) 36 anJ), (h37, aJ (k 1) 40 anJ), (h38, aJ (k 1) 40 anJ), (h39, aJ (k 1) 40 anJ), (h40, aJ (k 1) 40 anJ), (h0, ob 7 [.ref h1, .ref h2, .int h0f2, .ref h3, .ref h4, .ref h5, .int h0f6, .ref h6, .int h0f8, .null, .ref h7, .int h0f11, .ref h8, .ref h9, .ref h10, .ref h11, .ref h12]), (h4, aQ (k 3) 4 (q4 h17 h18 h19 h20)), (h17, ob 5 [.int h17f0, .int h17f1, .ref h37]), (h18, ob 5 [.int h18f0, .int h18f1, .ref h38]), (h19, ob 5 [.int h19f0, .int h19f1, .ref h39]), (h20, ob 5 [.int h20f0, .int h20f1, .ref h40]), (h1, ob 4 [.int h1f0, .int h1f1, .int h1f2, .ref h13])] _ := hT
        refine lv_ldc2 hx hb hown (hU _ w649) dX10_keeps_50 ?_
        have q_q392 := ll_1000000
        refine tcI (Tc := [(h11, aJ (k 1) 9 anJ)]) (Tr := [(h12, aJ (k 1) 9 anJ), (h13, aJ (k 1) 36 anJ), (h37, aJ (k 1) 40 anJ), (h38, aJ (k 1) 40 anJ), (h39, aJ (k 1) 40 anJ), (h40, aJ (k 1) 40 anJ), (h0, ob 7 [.ref h1, .ref h2, .int h0f2, .ref h3, .ref h4, .ref h5, .int h0f6, .ref h6, .int h0f8, .null, .ref h7, .int h0f11, .ref h8, .ref h9, .ref h10, .ref h11, .ref h12]), (h4, aQ (k 3) 4 (q4 h17 h18 h19 h20)), (h17, ob 5 [.int h17f0, .int h17f1, .ref h37]), (h18, ob 5 [.int h18f0, .int h18f1, .ref h38]), (h19, ob 5 [.int h19f0, .int h19f1, .ref h39]), (h20, ob 5 [.int h20f0, .int h20f1, .ref h40]), (h1, ob 4 [.int h1f0, .int h1f1, .int h1f2, .ref h13])]) (as := [h11]) (zcS (As := [.ref h11, .int v388, .long 1000000]) (rest := []) (Tc := [(h11, aJ (k 1) 9 anJ)]) hx hb hml hown hU hK hT [0] rfl (by decide) (cX7_isWithin_443ab l D k _ h11 v388 (1000000) (by omega) (by have := ll_1000000; omega)) w389 w387 w388 w74 hdX7_isWithin ⟨rfl, rfl⟩ ⟨Nat.le_of_ble_eq_true rfl, Nat.le_of_ble_eq_true rfl⟩ rfl hl.1 (Nat.le_of_ble_eq_true rfl) dX10_keeps_53 ⟨Nat.le_of_ble_eq_true rfl, Nat.le_of_ble_eq_true rfl⟩) hT hS hA [0] [1, 2, 3, 4, 5, 6, 7, 8, 9, 10, 11, 12, 13] rfl rfl rfl (by decide) (by decide) (fun r391 H locs hB J hS => ?_)
        obtain ⟨b_r391, hT1⟩ := hB
        have hT := J _ hT1
        have hT : TP D A [(h12, aJ (k 1) 9 anJ), (h13, aJ (k 1) 36 anJ), (h37, aJ (k 1) 40 anJ), (h38, aJ (k 1) 40 anJ), (h39, aJ (k 1) 40 anJ), (h40, aJ (k 1) 40 anJ), (h0, ob 7 [.ref h1, .ref h2, .int h0f2, .ref h3, .ref h4, .ref h5, .int h0f6, .ref h6, .int h0f8, .null, .ref h7, .int h0f11, .ref h8, .ref h9, .ref h10, .ref h11, .ref h12]), (h4, aQ (k 3) 4 (q4 h17 h18 h19 h20)), (h17, ob 5 [.int h17f0, .int h17f1, .ref h37]), (h18, ob 5 [.int h18f0, .int h18f1, .ref h38]), (h19, ob 5 [.int h19f0, .int h19f1, .ref h39]), (h20, ob 5 [.int h20f0, .int h20f1, .ref h40]), (h1, ob 4 [.int h1f0, .int h1f1, .int h1f2, .ref h13]), (h11, aJ (k 1) 9 anJ)] _ := hT
        refine lv_if_ne (tgt := 62) hx hb dX10_keeps_56 (by decide) (fun c_393 => ?_) (fun c_393 => ?_)
        · skip
          have c_393 := ni_ne c_393 rfl li_0
          refine lv_aload_n hx hb dX10_keeps_62 rfl (lv_at hl 1 rfl) ?_
          refine tcI (Tc := [(h0, ob 7 [.ref h1, .ref h2, .int h0f2, .ref h3, .ref h4, .ref h5, .int h0f6, .ref h6, .int h0f8, .null, .ref h7, .int h0f11, .ref h8, .ref h9, .ref h10, .ref h11, .ref h12]), (h1, ob 4 [.int h1f0, .int h1f1, .int h1f2, .ref h13]), (h11, aJ (k 1) 9 anJ), (h12, aJ (k 1) 9 anJ)]) (Tr := [(h13, aJ (k 1) 36 anJ), (h37, aJ (k 1) 40 anJ), (h38, aJ (k 1) 40 anJ), (h39, aJ (k 1) 40 anJ), (h40, aJ (k 1) 40 anJ), (h4, aQ (k 3) 4 (q4 h17 h18 h19 h20)), (h17, ob 5 [.int h17f0, .int h17f1, .ref h37]), (h18, ob 5 [.int h18f0, .int h18f1, .ref h38]), (h19, ob 5 [.int h19f0, .int h19f1, .ref h39]), (h20, ob 5 [.int h20f0, .int h20f1, .ref h40])]) (as := [h0, h1, h11, h12]) (zcV (q0 := 6) (ci := 7) (As := []) (rest := []) (Tc := [(h0, ob 7 [.ref h1, .ref h2, .int h0f2, .ref h3, .ref h4, .ref h5, .int h0f6, .ref h6, .int h0f8, .null, .ref h7, .int h0f11, .ref h8, .ref h9, .ref h10, .ref h11, .ref h12]), (h1, ob 4 [.int h1f0, .int h1f1, .int h1f2, .ref h13]), (h11, aJ (k 1) 9 anJ), (h12, aJ (k 1) 9 anJ)]) hx hb hml hown hU hK hT rfl rfl [6, 12, 13, 0] rfl (by decide) (cX10_isPositiveForm_92f38 l D k _ h0 h1 h11 h12 h2 h3 h4 h5 h6 h7 h8 h9 h10 h13 h0f2 h0f6 h0f8 h0f11 h1f0 h1f1 h1f2 (by omega) (by omega) (by omega) (by omega) (by omega) (by omega)) w653 w650 w652 w19 w63 hdX10_isPositiveForm ⟨rfl, rfl⟩ ⟨Nat.le_of_ble_eq_true rfl, Nat.le_of_ble_eq_true rfl⟩ rfl hl.1 (Nat.le_of_ble_eq_true rfl) dX10_keeps_63 ⟨Nat.le_of_ble_eq_true rfl, Nat.le_of_ble_eq_true rfl⟩) hT hS hA [6, 12, 13, 0] [1, 2, 3, 4, 5, 7, 8, 9, 10, 11] rfl rfl rfl (by decide) (by decide) (fun r394 H locs hB J hS => ?_)
          obtain ⟨b_r394, hT1⟩ := hB
          have hT := J _ hT1
          have hT : TP D A [(h13, aJ (k 1) 36 anJ), (h37, aJ (k 1) 40 anJ), (h38, aJ (k 1) 40 anJ), (h39, aJ (k 1) 40 anJ), (h40, aJ (k 1) 40 anJ), (h4, aQ (k 3) 4 (q4 h17 h18 h19 h20)), (h17, ob 5 [.int h17f0, .int h17f1, .ref h37]), (h18, ob 5 [.int h18f0, .int h18f1, .ref h38]), (h19, ob 5 [.int h19f0, .int h19f1, .ref h39]), (h20, ob 5 [.int h20f0, .int h20f1, .ref h40]), (h0, ob 7 [.ref h1, .ref h2, .int h0f2, .ref h3, .ref h4, .ref h5, .int h0f6, .ref h6, .int h0f8, .null, .ref h7, .int h0f11, .ref h8, .ref h9, .ref h10, .ref h11, .ref h12]), (h1, ob 4 [.int h1f0, .int h1f1, .int h1f2, .ref h13]), (h11, aJ (k 1) 9 anJ), (h12, aJ (k 1) 9 anJ)] _ := hT
          refine lv_if_eq (tgt := 80) hx hb dX10_keeps_66 (by decide) (fun c_395 => ?_) (fun c_395 => ?_)
          · skip
            have c_395 := ni_eq c_395 rfl li_0
            refine lv_iconst (v := 0) hx hb dX10_keeps_80 (by decide) ?_
            exact tz_retI (B := B_cX10_keeps_deb30 D k h0 h1 h4 h11 h12 h13 h17 h18 h19 h20 h37 h38 h39 h40 h2 h3 h5 h6 h7 h8 h9 h10 x1 x2 h0f2 h0f6 h0f8 h0f11 h1f0 h1f1 h1f2 h17f0 h17f1 h18f0 h18f1 h19f0 h19f1 h20f0 h20f1) (v := 0) hQ hx hb hr hlocks hS (Nat.le_of_ble_eq_true rfl) (Nat.le_of_ble_eq_true rfl) dX10_keeps_81 (⟨(by have := li_0; omega), (hT.sub [10, 11, 5, 12, 13, 0, 6, 7, 8, 9, 1, 2, 3, 4] (by decide) rfl)⟩)
          · skip
            have c_395 := ni_ne c_395 rfl li_0
            refine lv_aload_n hx hb dX10_keeps_69 rfl (lv_at hl 1 rfl) ?_
            refine tcI (Tc := [(h0, ob 7 [.ref h1, .ref h2, .int h0f2, .ref h3, .ref h4, .ref h5, .int h0f6, .ref h6, .int h0f8, .null, .ref h7, .int h0f11, .ref h8, .ref h9, .ref h10, .ref h11, .ref h12]), (h1, ob 4 [.int h1f0, .int h1f1, .int h1f2, .ref h13]), (h11, aJ (k 1) 9 anJ), (h12, aJ (k 1) 9 anJ), (h13, aJ (k 1) 36 anJ)]) (Tr := [(h37, aJ (k 1) 40 anJ), (h38, aJ (k 1) 40 anJ), (h39, aJ (k 1) 40 anJ), (h40, aJ (k 1) 40 anJ), (h4, aQ (k 3) 4 (q4 h17 h18 h19 h20)), (h17, ob 5 [.int h17f0, .int h17f1, .ref h37]), (h18, ob 5 [.int h18f0, .int h18f1, .ref h38]), (h19, ob 5 [.int h19f0, .int h19f1, .ref h39]), (h20, ob 5 [.int h20f0, .int h20f1, .ref h40])]) (as := [h0, h1, h11, h12, h13]) (zcV (q0 := 10) (ci := 7) (As := []) (rest := []) (Tc := [(h0, ob 7 [.ref h1, .ref h2, .int h0f2, .ref h3, .ref h4, .ref h5, .int h0f6, .ref h6, .int h0f8, .null, .ref h7, .int h0f11, .ref h8, .ref h9, .ref h10, .ref h11, .ref h12]), (h1, ob 4 [.int h1f0, .int h1f1, .int h1f2, .ref h13]), (h11, aJ (k 1) 9 anJ), (h12, aJ (k 1) 9 anJ), (h13, aJ (k 1) 36 anJ)]) hx hb hml hown hU hK hT rfl rfl [10, 11, 12, 13, 0] rfl (by decide) (cX10_noGeneratorChangesForm_52b64 l D k _ h0 h1 h11 h12 h13 h2 h3 h4 h5 h6 h7 h8 h9 h10 h0f2 h0f6 h0f8 h0f11 h1f0 h1f1 h1f2 (by omega) (by omega) (by omega) (by omega) (by omega) (by omega)) w657 w654 w656 w20 w63 hdX10_noGeneratorChangesForm ⟨rfl, rfl⟩ ⟨Nat.le_of_ble_eq_true rfl, Nat.le_of_ble_eq_true rfl⟩ rfl hl.1 (Nat.le_of_ble_eq_true rfl) dX10_keeps_70 ⟨Nat.le_of_ble_eq_true rfl, Nat.le_of_ble_eq_true rfl⟩) hT hS hA [10, 11, 12, 13, 0] [1, 2, 3, 4, 5, 6, 7, 8, 9] rfl rfl rfl (by decide) (by decide) (fun r396 H locs hB J hS => ?_)
            obtain ⟨b_r396, hT1⟩ := hB
            have hT := J _ hT1
            have hT : TP D A [(h37, aJ (k 1) 40 anJ), (h38, aJ (k 1) 40 anJ), (h39, aJ (k 1) 40 anJ), (h40, aJ (k 1) 40 anJ), (h4, aQ (k 3) 4 (q4 h17 h18 h19 h20)), (h17, ob 5 [.int h17f0, .int h17f1, .ref h37]), (h18, ob 5 [.int h18f0, .int h18f1, .ref h38]), (h19, ob 5 [.int h19f0, .int h19f1, .ref h39]), (h20, ob 5 [.int h20f0, .int h20f1, .ref h40]), (h0, ob 7 [.ref h1, .ref h2, .int h0f2, .ref h3, .ref h4, .ref h5, .int h0f6, .ref h6, .int h0f8, .null, .ref h7, .int h0f11, .ref h8, .ref h9, .ref h10, .ref h11, .ref h12]), (h1, ob 4 [.int h1f0, .int h1f1, .int h1f2, .ref h13]), (h11, aJ (k 1) 9 anJ), (h12, aJ (k 1) 9 anJ), (h13, aJ (k 1) 36 anJ)] _ := hT
            refine lv_if_eq (tgt := 80) hx hb dX10_keeps_73 (by decide) (fun c_397 => ?_) (fun c_397 => ?_)
            · skip
              have c_397 := ni_eq c_397 rfl li_0
              refine lv_iconst (v := 0) hx hb dX10_keeps_80 (by decide) ?_
              exact tz_retI (B := B_cX10_keeps_deb30 D k h0 h1 h4 h11 h12 h13 h17 h18 h19 h20 h37 h38 h39 h40 h2 h3 h5 h6 h7 h8 h9 h10 x1 x2 h0f2 h0f6 h0f8 h0f11 h1f0 h1f1 h1f2 h17f0 h17f1 h18f0 h18f1 h19f0 h19f1 h20f0 h20f1) (v := 0) hQ hx hb hr hlocks hS (Nat.le_of_ble_eq_true rfl) (Nat.le_of_ble_eq_true rfl) dX10_keeps_81 (⟨(by have := li_0; omega), (hT.sub [9, 10, 4, 11, 12, 13, 5, 6, 7, 8, 0, 1, 2, 3] (by decide) rfl)⟩)
            · skip
              have c_397 := ni_ne c_397 rfl li_0
              refine lv_iconst (v := 1) hx hb dX10_keeps_76 (by decide) ?_
              refine lv_goto (tgt := 81) hx hb dX10_keeps_77 (by decide) ?_
              exact tz_retI (B := B_cX10_keeps_deb30 D k h0 h1 h4 h11 h12 h13 h17 h18 h19 h20 h37 h38 h39 h40 h2 h3 h5 h6 h7 h8 h9 h10 x1 x2 h0f2 h0f6 h0f8 h0f11 h1f0 h1f1 h1f2 h17f0 h17f1 h18f0 h18f1 h19f0 h19f1 h20f0 h20f1) (v := 1) hQ hx hb hr hlocks hS (Nat.le_of_ble_eq_true rfl) (Nat.le_of_ble_eq_true rfl) dX10_keeps_81 (⟨(by have := li_1; omega), (hT.sub [9, 10, 4, 11, 12, 13, 5, 6, 7, 8, 0, 1, 2, 3] (by decide) rfl)⟩)
        · skip
          have c_393 := ni_eq c_393 rfl li_0
          refine lv_bipush (v := (-16)) hx hb dX10_keeps_59 (by decide) ?_
          exact tz_retI (B := B_cX10_keeps_deb30 D k h0 h1 h4 h11 h12 h13 h17 h18 h19 h20 h37 h38 h39 h40 h2 h3 h5 h6 h7 h8 h9 h10 x1 x2 h0f2 h0f6 h0f8 h0f11 h1f0 h1f1 h1f2 h17f0 h17f1 h18f0 h18f1 h19f0 h19f1 h20f0 h20f1) (v := (-16)) hQ hx hb hr hlocks hS (Nat.le_of_ble_eq_true rfl) (Nat.le_of_ble_eq_true rfl) dX10_keeps_61 (⟨(by have := li_m16; omega), (hT.sub [6, 12, 7, 13, 0, 1, 8, 9, 10, 11, 2, 3, 4, 5] (by decide) rfl)⟩)
  · skip
    have hT := J _ hT1
    have hT : TP D A [(h11, aJ (k 1) 9 anJ), (h12, aJ (k 1) 9 anJ), (h13, aJ (k 1) 36 anJ), (h37, aJ (k 1) 40 anJ), (h38, aJ (k 1) 40 anJ), (h39, aJ (k 1) 40 anJ), (h40, aJ (k 1) 40 anJ), (h0, ob 7 [.ref h1, .ref h2, .int h0f2, .ref h3, .ref h4, .ref h5, .int h0f6, .ref h6, .int h0f8, .null, .ref h7, .int h0f11, .ref h8, .ref h9, .ref h10, .ref h11, .ref h12]), (h1, ob 4 [.int h1f0, .int h1f1, .int h1f2, .ref h13]), (h4, aQ (k 3) 4 (q4 h17 h18 h19 h20)), (h17, ob 5 [.int h17f0, .int h17f1, .ref h37]), (h18, ob 5 [.int h18f0, .int h18f1, .ref h38]), (h19, ob 5 [.int h19f0, .int h19f1, .ref h39]), (h20, ob 5 [.int h20f0, .int h20f1, .ref h40])] _ := hT
    refine lv_istore_n (lv' := [(3, .int 0), (0, .ref h0), (1, .int x1), (2, .int x2)]) hx hb dX10_keeps_7 rfl hl (by decide) rfl (fun ls hl => ?_)
    refine lv_iload_n hx hb dX10_keeps_8 rfl (lv_at hl 0 rfl) ?_
    refine lv_if_eq (tgt := 14) hx hb dX10_keeps_9 (by decide) (fun _ => ?_) (fun cc => absurd (by decide +kernel) cc)
    refine lv_aload_n hx hb dX10_keeps_14 rfl (lv_at hl 1 rfl) ?_
    refine tz_get (ci := 7) (v := .ref h4) (C := RX10) (F := TX10) (N := 17) hx hb hU iX10 hown hK hT 7 rfl rfl 4 (by decide) w253 (fun _ h9 => h9) rfl dX10_keeps_15 ?_
    refine lv_iload_n hx hb dX10_keeps_18 rfl (lv_at hl 2 rfl) ?_
    have hq398 : x1.toInt = 3 := by omega
    refine tz_aldq (b := h20) hx hb hK hT 9 rfl (vp_in_iff.mpr (by have := hq398; omega)) (fun f hf => by rw [cl_of hq398]; exact hf.2.2.2) dX10_keeps_19 ?_
    refine tz_get (ci := 5) (v := .ref h40) (C := RX6) (F := TX6) (N := 3) hx hb hU iX6 hown hK hT 13 rfl rfl 2 (by decide) w241 (fun _ h9 => h9) rfl dX10_keeps_20 ?_
    refine lv_iload_n hx hb dX10_keeps_23 rfl (lv_at hl 3 rfl) ?_
    refine lv_aload_n hx hb dX10_keeps_24 rfl (lv_at hl 1 rfl) ?_
    refine tz_get (ci := 7) (v := .ref h11) (C := RX10) (F := TX10) (N := 17) hx hb hU iX10 hown hK hT 7 rfl rfl 15 (by decide) w264 (fun _ h9 => h9) rfl dX10_keeps_25 ?_
    refine lv_iconst (v := 0) hx hb dX10_keeps_28 (by decide) ?_
    refine lv_aload_n hx hb dX10_keeps_29 rfl (lv_at hl 1 rfl) ?_
    refine tz_get (ci := 7) (v := .ref h1) (C := RX10) (F := TX10) (N := 17) hx hb hU iX10 hown hK hT 7 rfl rfl 0 (by decide) w249 (fun _ h9 => h9) rfl dX10_keeps_30 ?_
    refine tcI (Tc := [(h1, ob 4 [.int h1f0, .int h1f1, .int h1f2, .ref h13])]) (Tr := [(h11, aJ (k 1) 9 anJ), (h12, aJ (k 1) 9 anJ), (h13, aJ (k 1) 36 anJ), (h37, aJ (k 1) 40 anJ), (h38, aJ (k 1) 40 anJ), (h39, aJ (k 1) 40 anJ), (h40, aJ (k 1) 40 anJ), (h0, ob 7 [.ref h1, .ref h2, .int h0f2, .ref h3, .ref h4, .ref h5, .int h0f6, .ref h6, .int h0f8, .null, .ref h7, .int h0f11, .ref h8, .ref h9, .ref h10, .ref h11, .ref h12]), (h4, aQ (k 3) 4 (q4 h17 h18 h19 h20)), (h17, ob 5 [.int h17f0, .int h17f1, .ref h37]), (h18, ob 5 [.int h18f0, .int h18f1, .ref h38]), (h19, ob 5 [.int h19f0, .int h19f1, .ref h39]), (h20, ob 5 [.int h20f0, .int h20f1, .ref h40])]) (as := [h1]) (zcV (q0 := 8) (ci := 4) (As := []) (rest := [.int 0, .ref h11, .int x2, .ref h40]) (Tc := [(h1, ob 4 [.int h1f0, .int h1f1, .int h1f2, .ref h13])]) hx hb hml hown hU hK hT rfl rfl [8] rfl (by decide) (cX5_cellCount_f3983 l D k _ h1 h13 h1f0 h1f1 h1f2 (by omega) (by omega)) w385 w382 w383 w384 w64 hdX5_cellCount ⟨rfl, rfl⟩ ⟨Nat.le_of_ble_eq_true rfl, Nat.le_of_ble_eq_true rfl⟩ rfl hl.1 (Nat.le_of_ble_eq_true rfl) dX10_keeps_33 ⟨Nat.le_of_ble_eq_true rfl, Nat.le_of_ble_eq_true rfl⟩) hT hS hA [8] [0, 1, 2, 3, 4, 5, 6, 7, 9, 10, 11, 12, 13] rfl rfl rfl (by decide) (by decide) (fun r399 H locs hB J hS => ?_)
    rcases hB with ⟨v400, b_v400, c_401, c_402, rfl, hT1⟩ | ⟨v403, b_v403, c_404, c_405, rfl, hT1⟩ | ⟨v406, b_v406, c_407, c_408, rfl, hT1⟩
    · skip
      have hT := J _ hT1
      have hT : TP D A [(h11, aJ (k 1) 9 anJ), (h12, aJ (k 1) 9 anJ), (h13, aJ (k 1) 36 anJ), (h37, aJ (k 1) 40 anJ), (h38, aJ (k 1) 40 anJ), (h39, aJ (k 1) 40 anJ), (h40, aJ (k 1) 40 anJ), (h0, ob 7 [.ref h1, .ref h2, .int h0f2, .ref h3, .ref h4, .ref h5, .int h0f6, .ref h6, .int h0f8, .null, .ref h7, .int h0f11, .ref h8, .ref h9, .ref h10, .ref h11, .ref h12]), (h4, aQ (k 3) 4 (q4 h17 h18 h19 h20)), (h17, ob 5 [.int h17f0, .int h17f1, .ref h37]), (h18, ob 5 [.int h18f0, .int h18f1, .ref h38]), (h19, ob 5 [.int h19f0, .int h19f1, .ref h39]), (h20, ob 5 [.int h20f0, .int h20f1, .ref h40]), (h1, ob 4 [.int h1f0, .int h1f1, .int h1f2, .ref h13])] _ := hT
      refine tz_copyl hx hb (by rw [hml]; exact hl.1.symm) hown hU w410 w348 w347 w75 hK hT hS 6 0 rfl rfl (by have := li_0; omega) (fun _ _ _ _ => trivial) (Nat.le_of_ble_eq_true rfl) (Nat.le_of_ble_eq_true rfl) dX10_keeps_36 (fun H locs hT hS => ?_)
      refine lv_aload_n hx hb dX10_keeps_39 rfl (lv_at hl 1 rfl) ?_
      refine tz_get (ci := 7) (v := .ref h11) (C := RX10) (F := TX10) (N := 17) hx hb hU iX10 hown hK hT 7 rfl rfl 15 (by decide) w264 (fun _ h9 => h9) rfl dX10_keeps_40 ?_
      refine lv_aload_n hx hb dX10_keeps_43 rfl (lv_at hl 1 rfl) ?_
      refine tz_get (ci := 7) (v := .ref h1) (C := RX10) (F := TX10) (N := 17) hx hb hU iX10 hown hK hT 7 rfl rfl 0 (by decide) w249 (fun _ h9 => h9) rfl dX10_keeps_44 ?_
      refine tcI (Tc := [(h1, ob 4 [.int h1f0, .int h1f1, .int h1f2, .ref h13])]) (Tr := [(h11, aJ (k 1) 9 anJ), (h12, aJ (k 1) 9 anJ), (h13, aJ (k 1) 36 anJ), (h37, aJ (k 1) 40 anJ), (h38, aJ (k 1) 40 anJ), (h39, aJ (k 1) 40 anJ), (h40, aJ (k 1) 40 anJ), (h0, ob 7 [.ref h1, .ref h2, .int h0f2, .ref h3, .ref h4, .ref h5, .int h0f6, .ref h6, .int h0f8, .null, .ref h7, .int h0f11, .ref h8, .ref h9, .ref h10, .ref h11, .ref h12]), (h4, aQ (k 3) 4 (q4 h17 h18 h19 h20)), (h17, ob 5 [.int h17f0, .int h17f1, .ref h37]), (h18, ob 5 [.int h18f0, .int h18f1, .ref h38]), (h19, ob 5 [.int h19f0, .int h19f1, .ref h39]), (h20, ob 5 [.int h20f0, .int h20f1, .ref h40])]) (as := [h1]) (zcV (q0 := 13) (ci := 4) (As := []) (rest := [.ref h11]) (Tc := [(h1, ob 4 [.int h1f0, .int h1f1, .int h1f2, .ref h13])]) hx hb hml hown hU hK hT rfl rfl [13] rfl (by decide) (cX5_cellCount_f3983 l D k _ h1 h13 h1f0 h1f1 h1f2 (by omega) (by omega)) w385 w382 w383 w384 w64 hdX5_cellCount ⟨rfl, rfl⟩ ⟨Nat.le_of_ble_eq_true rfl, Nat.le_of_ble_eq_true rfl⟩ rfl hl.1 (Nat.le_of_ble_eq_true rfl) dX10_keeps_47 ⟨Nat.le_of_ble_eq_true rfl, Nat.le_of_ble_eq_true rfl⟩) hT hS hA [13] [0, 1, 2, 3, 4, 5, 6, 7, 8, 9, 10, 11, 12] rfl rfl rfl (by decide) (by decide) (fun r409 H locs hB J hS => ?_)
      rcases hB with ⟨v410, b_v410, c_411, c_412, rfl, hT1⟩ | ⟨v413, b_v413, c_414, c_415, rfl, hT1⟩ | ⟨v416, b_v416, c_417, c_418, rfl, hT1⟩
      · skip
        have hT := J _ hT1
        have hT : TP D A [(h11, aJ (k 1) 9 anJ), (h12, aJ (k 1) 9 anJ), (h13, aJ (k 1) 36 anJ), (h37, aJ (k 1) 40 anJ), (h38, aJ (k 1) 40 anJ), (h39, aJ (k 1) 40 anJ), (h40, aJ (k 1) 40 anJ), (h0, ob 7 [.ref h1, .ref h2, .int h0f2, .ref h3, .ref h4, .ref h5, .int h0f6, .ref h6, .int h0f8, .null, .ref h7, .int h0f11, .ref h8, .ref h9, .ref h10, .ref h11, .ref h12]), (h4, aQ (k 3) 4 (q4 h17 h18 h19 h20)), (h17, ob 5 [.int h17f0, .int h17f1, .ref h37]), (h18, ob 5 [.int h18f0, .int h18f1, .ref h38]), (h19, ob 5 [.int h19f0, .int h19f1, .ref h39]), (h20, ob 5 [.int h20f0, .int h20f1, .ref h40]), (h1, ob 4 [.int h1f0, .int h1f1, .int h1f2, .ref h13])] _ := hT
        refine lv_ldc2 hx hb hown (hU _ w649) dX10_keeps_50 ?_
        have q_q420 := ll_1000000
        refine tcI (Tc := [(h11, aJ (k 1) 9 anJ)]) (Tr := [(h12, aJ (k 1) 9 anJ), (h13, aJ (k 1) 36 anJ), (h37, aJ (k 1) 40 anJ), (h38, aJ (k 1) 40 anJ), (h39, aJ (k 1) 40 anJ), (h40, aJ (k 1) 40 anJ), (h0, ob 7 [.ref h1, .ref h2, .int h0f2, .ref h3, .ref h4, .ref h5, .int h0f6, .ref h6, .int h0f8, .null, .ref h7, .int h0f11, .ref h8, .ref h9, .ref h10, .ref h11, .ref h12]), (h4, aQ (k 3) 4 (q4 h17 h18 h19 h20)), (h17, ob 5 [.int h17f0, .int h17f1, .ref h37]), (h18, ob 5 [.int h18f0, .int h18f1, .ref h38]), (h19, ob 5 [.int h19f0, .int h19f1, .ref h39]), (h20, ob 5 [.int h20f0, .int h20f1, .ref h40]), (h1, ob 4 [.int h1f0, .int h1f1, .int h1f2, .ref h13])]) (as := [h11]) (zcS (As := [.ref h11, .int v410, .long 1000000]) (rest := []) (Tc := [(h11, aJ (k 1) 9 anJ)]) hx hb hml hown hU hK hT [0] rfl (by decide) (cX7_isWithin_443ab l D k _ h11 v410 (1000000) (by omega) (by have := ll_1000000; omega)) w389 w387 w388 w74 hdX7_isWithin ⟨rfl, rfl⟩ ⟨Nat.le_of_ble_eq_true rfl, Nat.le_of_ble_eq_true rfl⟩ rfl hl.1 (Nat.le_of_ble_eq_true rfl) dX10_keeps_53 ⟨Nat.le_of_ble_eq_true rfl, Nat.le_of_ble_eq_true rfl⟩) hT hS hA [0] [1, 2, 3, 4, 5, 6, 7, 8, 9, 10, 11, 12, 13] rfl rfl rfl (by decide) (by decide) (fun r419 H locs hB J hS => ?_)
        obtain ⟨b_r419, hT1⟩ := hB
        have hT := J _ hT1
        have hT : TP D A [(h12, aJ (k 1) 9 anJ), (h13, aJ (k 1) 36 anJ), (h37, aJ (k 1) 40 anJ), (h38, aJ (k 1) 40 anJ), (h39, aJ (k 1) 40 anJ), (h40, aJ (k 1) 40 anJ), (h0, ob 7 [.ref h1, .ref h2, .int h0f2, .ref h3, .ref h4, .ref h5, .int h0f6, .ref h6, .int h0f8, .null, .ref h7, .int h0f11, .ref h8, .ref h9, .ref h10, .ref h11, .ref h12]), (h4, aQ (k 3) 4 (q4 h17 h18 h19 h20)), (h17, ob 5 [.int h17f0, .int h17f1, .ref h37]), (h18, ob 5 [.int h18f0, .int h18f1, .ref h38]), (h19, ob 5 [.int h19f0, .int h19f1, .ref h39]), (h20, ob 5 [.int h20f0, .int h20f1, .ref h40]), (h1, ob 4 [.int h1f0, .int h1f1, .int h1f2, .ref h13]), (h11, aJ (k 1) 9 anJ)] _ := hT
        refine lv_if_ne (tgt := 62) hx hb dX10_keeps_56 (by decide) (fun c_421 => ?_) (fun c_421 => ?_)
        · skip
          have c_421 := ni_ne c_421 rfl li_0
          refine lv_aload_n hx hb dX10_keeps_62 rfl (lv_at hl 1 rfl) ?_
          refine tcI (Tc := [(h0, ob 7 [.ref h1, .ref h2, .int h0f2, .ref h3, .ref h4, .ref h5, .int h0f6, .ref h6, .int h0f8, .null, .ref h7, .int h0f11, .ref h8, .ref h9, .ref h10, .ref h11, .ref h12]), (h1, ob 4 [.int h1f0, .int h1f1, .int h1f2, .ref h13]), (h11, aJ (k 1) 9 anJ), (h12, aJ (k 1) 9 anJ)]) (Tr := [(h13, aJ (k 1) 36 anJ), (h37, aJ (k 1) 40 anJ), (h38, aJ (k 1) 40 anJ), (h39, aJ (k 1) 40 anJ), (h40, aJ (k 1) 40 anJ), (h4, aQ (k 3) 4 (q4 h17 h18 h19 h20)), (h17, ob 5 [.int h17f0, .int h17f1, .ref h37]), (h18, ob 5 [.int h18f0, .int h18f1, .ref h38]), (h19, ob 5 [.int h19f0, .int h19f1, .ref h39]), (h20, ob 5 [.int h20f0, .int h20f1, .ref h40])]) (as := [h0, h1, h11, h12]) (zcV (q0 := 6) (ci := 7) (As := []) (rest := []) (Tc := [(h0, ob 7 [.ref h1, .ref h2, .int h0f2, .ref h3, .ref h4, .ref h5, .int h0f6, .ref h6, .int h0f8, .null, .ref h7, .int h0f11, .ref h8, .ref h9, .ref h10, .ref h11, .ref h12]), (h1, ob 4 [.int h1f0, .int h1f1, .int h1f2, .ref h13]), (h11, aJ (k 1) 9 anJ), (h12, aJ (k 1) 9 anJ)]) hx hb hml hown hU hK hT rfl rfl [6, 12, 13, 0] rfl (by decide) (cX10_isPositiveForm_92f38 l D k _ h0 h1 h11 h12 h2 h3 h4 h5 h6 h7 h8 h9 h10 h13 h0f2 h0f6 h0f8 h0f11 h1f0 h1f1 h1f2 (by omega) (by omega) (by omega) (by omega) (by omega) (by omega)) w653 w650 w652 w19 w63 hdX10_isPositiveForm ⟨rfl, rfl⟩ ⟨Nat.le_of_ble_eq_true rfl, Nat.le_of_ble_eq_true rfl⟩ rfl hl.1 (Nat.le_of_ble_eq_true rfl) dX10_keeps_63 ⟨Nat.le_of_ble_eq_true rfl, Nat.le_of_ble_eq_true rfl⟩) hT hS hA [6, 12, 13, 0] [1, 2, 3, 4, 5, 7, 8, 9, 10, 11] rfl rfl rfl (by decide) (by decide) (fun r422 H locs hB J hS => ?_)
          obtain ⟨b_r422, hT1⟩ := hB
          have hT := J _ hT1
          have hT : TP D A [(h13, aJ (k 1) 36 anJ), (h37, aJ (k 1) 40 anJ), (h38, aJ (k 1) 40 anJ), (h39, aJ (k 1) 40 anJ), (h40, aJ (k 1) 40 anJ), (h4, aQ (k 3) 4 (q4 h17 h18 h19 h20)), (h17, ob 5 [.int h17f0, .int h17f1, .ref h37]), (h18, ob 5 [.int h18f0, .int h18f1, .ref h38]), (h19, ob 5 [.int h19f0, .int h19f1, .ref h39]), (h20, ob 5 [.int h20f0, .int h20f1, .ref h40]), (h0, ob 7 [.ref h1, .ref h2, .int h0f2, .ref h3, .ref h4, .ref h5, .int h0f6, .ref h6, .int h0f8, .null, .ref h7, .int h0f11, .ref h8, .ref h9, .ref h10, .ref h11, .ref h12]), (h1, ob 4 [.int h1f0, .int h1f1, .int h1f2, .ref h13]), (h11, aJ (k 1) 9 anJ), (h12, aJ (k 1) 9 anJ)] _ := hT
          refine lv_if_eq (tgt := 80) hx hb dX10_keeps_66 (by decide) (fun c_423 => ?_) (fun c_423 => ?_)
          · skip
            have c_423 := ni_eq c_423 rfl li_0
            refine lv_iconst (v := 0) hx hb dX10_keeps_80 (by decide) ?_
            exact tz_retI (B := B_cX10_keeps_deb30 D k h0 h1 h4 h11 h12 h13 h17 h18 h19 h20 h37 h38 h39 h40 h2 h3 h5 h6 h7 h8 h9 h10 x1 x2 h0f2 h0f6 h0f8 h0f11 h1f0 h1f1 h1f2 h17f0 h17f1 h18f0 h18f1 h19f0 h19f1 h20f0 h20f1) (v := 0) hQ hx hb hr hlocks hS (Nat.le_of_ble_eq_true rfl) (Nat.le_of_ble_eq_true rfl) dX10_keeps_81 (⟨(by have := li_0; omega), (hT.sub [10, 11, 5, 12, 13, 0, 6, 7, 8, 9, 1, 2, 3, 4] (by decide) rfl)⟩)
          · skip
            have c_423 := ni_ne c_423 rfl li_0
            refine lv_aload_n hx hb dX10_keeps_69 rfl (lv_at hl 1 rfl) ?_
            refine tcI (Tc := [(h0, ob 7 [.ref h1, .ref h2, .int h0f2, .ref h3, .ref h4, .ref h5, .int h0f6, .ref h6, .int h0f8, .null, .ref h7, .int h0f11, .ref h8, .ref h9, .ref h10, .ref h11, .ref h12]), (h1, ob 4 [.int h1f0, .int h1f1, .int h1f2, .ref h13]), (h11, aJ (k 1) 9 anJ), (h12, aJ (k 1) 9 anJ), (h13, aJ (k 1) 36 anJ)]) (Tr := [(h37, aJ (k 1) 40 anJ), (h38, aJ (k 1) 40 anJ), (h39, aJ (k 1) 40 anJ), (h40, aJ (k 1) 40 anJ), (h4, aQ (k 3) 4 (q4 h17 h18 h19 h20)), (h17, ob 5 [.int h17f0, .int h17f1, .ref h37]), (h18, ob 5 [.int h18f0, .int h18f1, .ref h38]), (h19, ob 5 [.int h19f0, .int h19f1, .ref h39]), (h20, ob 5 [.int h20f0, .int h20f1, .ref h40])]) (as := [h0, h1, h11, h12, h13]) (zcV (q0 := 10) (ci := 7) (As := []) (rest := []) (Tc := [(h0, ob 7 [.ref h1, .ref h2, .int h0f2, .ref h3, .ref h4, .ref h5, .int h0f6, .ref h6, .int h0f8, .null, .ref h7, .int h0f11, .ref h8, .ref h9, .ref h10, .ref h11, .ref h12]), (h1, ob 4 [.int h1f0, .int h1f1, .int h1f2, .ref h13]), (h11, aJ (k 1) 9 anJ), (h12, aJ (k 1) 9 anJ), (h13, aJ (k 1) 36 anJ)]) hx hb hml hown hU hK hT rfl rfl [10, 11, 12, 13, 0] rfl (by decide) (cX10_noGeneratorChangesForm_52b64 l D k _ h0 h1 h11 h12 h13 h2 h3 h4 h5 h6 h7 h8 h9 h10 h0f2 h0f6 h0f8 h0f11 h1f0 h1f1 h1f2 (by omega) (by omega) (by omega) (by omega) (by omega) (by omega)) w657 w654 w656 w20 w63 hdX10_noGeneratorChangesForm ⟨rfl, rfl⟩ ⟨Nat.le_of_ble_eq_true rfl, Nat.le_of_ble_eq_true rfl⟩ rfl hl.1 (Nat.le_of_ble_eq_true rfl) dX10_keeps_70 ⟨Nat.le_of_ble_eq_true rfl, Nat.le_of_ble_eq_true rfl⟩) hT hS hA [10, 11, 12, 13, 0] [1, 2, 3, 4, 5, 6, 7, 8, 9] rfl rfl rfl (by decide) (by decide) (fun r424 H locs hB J hS => ?_)
            obtain ⟨b_r424, hT1⟩ := hB
            have hT := J _ hT1
            have hT : TP D A [(h37, aJ (k 1) 40 anJ), (h38, aJ (k 1) 40 anJ), (h39, aJ (k 1) 40 anJ), (h40, aJ (k 1) 40 anJ), (h4, aQ (k 3) 4 (q4 h17 h18 h19 h20)), (h17, ob 5 [.int h17f0, .int h17f1, .ref h37]), (h18, ob 5 [.int h18f0, .int h18f1, .ref h38]), (h19, ob 5 [.int h19f0, .int h19f1, .ref h39]), (h20, ob 5 [.int h20f0, .int h20f1, .ref h40]), (h0, ob 7 [.ref h1, .ref h2, .int h0f2, .ref h3, .ref h4, .ref h5, .int h0f6, .ref h6, .int h0f8, .null, .ref h7, .int h0f11, .ref h8, .ref h9, .ref h10, .ref h11, .ref h12]), (h1, ob 4 [.int h1f0, .int h1f1, .int h1f2, .ref h13]), (h11, aJ (k 1) 9 anJ), (h12, aJ (k 1) 9 anJ), (h13, aJ (k 1) 36 anJ)] _ := hT
            refine lv_if_eq (tgt := 80) hx hb dX10_keeps_73 (by decide) (fun c_425 => ?_) (fun c_425 => ?_)
            · skip
              have c_425 := ni_eq c_425 rfl li_0
              refine lv_iconst (v := 0) hx hb dX10_keeps_80 (by decide) ?_
              exact tz_retI (B := B_cX10_keeps_deb30 D k h0 h1 h4 h11 h12 h13 h17 h18 h19 h20 h37 h38 h39 h40 h2 h3 h5 h6 h7 h8 h9 h10 x1 x2 h0f2 h0f6 h0f8 h0f11 h1f0 h1f1 h1f2 h17f0 h17f1 h18f0 h18f1 h19f0 h19f1 h20f0 h20f1) (v := 0) hQ hx hb hr hlocks hS (Nat.le_of_ble_eq_true rfl) (Nat.le_of_ble_eq_true rfl) dX10_keeps_81 (⟨(by have := li_0; omega), (hT.sub [9, 10, 4, 11, 12, 13, 5, 6, 7, 8, 0, 1, 2, 3] (by decide) rfl)⟩)
            · skip
              have c_425 := ni_ne c_425 rfl li_0
              refine lv_iconst (v := 1) hx hb dX10_keeps_76 (by decide) ?_
              refine lv_goto (tgt := 81) hx hb dX10_keeps_77 (by decide) ?_
              exact tz_retI (B := B_cX10_keeps_deb30 D k h0 h1 h4 h11 h12 h13 h17 h18 h19 h20 h37 h38 h39 h40 h2 h3 h5 h6 h7 h8 h9 h10 x1 x2 h0f2 h0f6 h0f8 h0f11 h1f0 h1f1 h1f2 h17f0 h17f1 h18f0 h18f1 h19f0 h19f1 h20f0 h20f1) (v := 1) hQ hx hb hr hlocks hS (Nat.le_of_ble_eq_true rfl) (Nat.le_of_ble_eq_true rfl) dX10_keeps_81 (⟨(by have := li_1; omega), (hT.sub [9, 10, 4, 11, 12, 13, 5, 6, 7, 8, 0, 1, 2, 3] (by decide) rfl)⟩)
        · skip
          have c_421 := ni_eq c_421 rfl li_0
          refine lv_bipush (v := (-16)) hx hb dX10_keeps_59 (by decide) ?_
          exact tz_retI (B := B_cX10_keeps_deb30 D k h0 h1 h4 h11 h12 h13 h17 h18 h19 h20 h37 h38 h39 h40 h2 h3 h5 h6 h7 h8 h9 h10 x1 x2 h0f2 h0f6 h0f8 h0f11 h1f0 h1f1 h1f2 h17f0 h17f1 h18f0 h18f1 h19f0 h19f1 h20f0 h20f1) (v := (-16)) hQ hx hb hr hlocks hS (Nat.le_of_ble_eq_true rfl) (Nat.le_of_ble_eq_true rfl) dX10_keeps_61 (⟨(by have := li_m16; omega), (hT.sub [6, 12, 7, 13, 0, 1, 8, 9, 10, 11, 2, 3, 4, 5] (by decide) rfl)⟩)
      · skip
        have hT := J _ hT1
        have hT : TP D A [(h11, aJ (k 1) 9 anJ), (h12, aJ (k 1) 9 anJ), (h13, aJ (k 1) 36 anJ), (h37, aJ (k 1) 40 anJ), (h38, aJ (k 1) 40 anJ), (h39, aJ (k 1) 40 anJ), (h40, aJ (k 1) 40 anJ), (h0, ob 7 [.ref h1, .ref h2, .int h0f2, .ref h3, .ref h4, .ref h5, .int h0f6, .ref h6, .int h0f8, .null, .ref h7, .int h0f11, .ref h8, .ref h9, .ref h10, .ref h11, .ref h12]), (h4, aQ (k 3) 4 (q4 h17 h18 h19 h20)), (h17, ob 5 [.int h17f0, .int h17f1, .ref h37]), (h18, ob 5 [.int h18f0, .int h18f1, .ref h38]), (h19, ob 5 [.int h19f0, .int h19f1, .ref h39]), (h20, ob 5 [.int h20f0, .int h20f1, .ref h40]), (h1, ob 4 [.int h1f0, .int h1f1, .int h1f2, .ref h13])] _ := hT
        exfalso; omega
      · skip
        have hT := J _ hT1
        have hT : TP D A [(h11, aJ (k 1) 9 anJ), (h12, aJ (k 1) 9 anJ), (h13, aJ (k 1) 36 anJ), (h37, aJ (k 1) 40 anJ), (h38, aJ (k 1) 40 anJ), (h39, aJ (k 1) 40 anJ), (h40, aJ (k 1) 40 anJ), (h0, ob 7 [.ref h1, .ref h2, .int h0f2, .ref h3, .ref h4, .ref h5, .int h0f6, .ref h6, .int h0f8, .null, .ref h7, .int h0f11, .ref h8, .ref h9, .ref h10, .ref h11, .ref h12]), (h4, aQ (k 3) 4 (q4 h17 h18 h19 h20)), (h17, ob 5 [.int h17f0, .int h17f1, .ref h37]), (h18, ob 5 [.int h18f0, .int h18f1, .ref h38]), (h19, ob 5 [.int h19f0, .int h19f1, .ref h39]), (h20, ob 5 [.int h20f0, .int h20f1, .ref h40]), (h1, ob 4 [.int h1f0, .int h1f1, .int h1f2, .ref h13])] _ := hT
        exfalso; omega
    · skip
      have hT := J _ hT1
      have hT : TP D A [(h11, aJ (k 1) 9 anJ), (h12, aJ (k 1) 9 anJ), (h13, aJ (k 1) 36 anJ), (h37, aJ (k 1) 40 anJ), (h38, aJ (k 1) 40 anJ), (h39, aJ (k 1) 40 anJ), (h40, aJ (k 1) 40 anJ), (h0, ob 7 [.ref h1, .ref h2, .int h0f2, .ref h3, .ref h4, .ref h5, .int h0f6, .ref h6, .int h0f8, .null, .ref h7, .int h0f11, .ref h8, .ref h9, .ref h10, .ref h11, .ref h12]), (h4, aQ (k 3) 4 (q4 h17 h18 h19 h20)), (h17, ob 5 [.int h17f0, .int h17f1, .ref h37]), (h18, ob 5 [.int h18f0, .int h18f1, .ref h38]), (h19, ob 5 [.int h19f0, .int h19f1, .ref h39]), (h20, ob 5 [.int h20f0, .int h20f1, .ref h40]), (h1, ob 4 [.int h1f0, .int h1f1, .int h1f2, .ref h13])] _ := hT
      exfalso; omega
    · skip
      have hT := J _ hT1
      have hT : TP D A [(h11, aJ (k 1) 9 anJ), (h12, aJ (k 1) 9 anJ), (h13, aJ (k 1) 36 anJ), (h37, aJ (k 1) 40 anJ), (h38, aJ (k 1) 40 anJ), (h39, aJ (k 1) 40 anJ), (h40, aJ (k 1) 40 anJ), (h0, ob 7 [.ref h1, .ref h2, .int h0f2, .ref h3, .ref h4, .ref h5, .int h0f6, .ref h6, .int h0f8, .null, .ref h7, .int h0f11, .ref h8, .ref h9, .ref h10, .ref h11, .ref h12]), (h4, aQ (k 3) 4 (q4 h17 h18 h19 h20)), (h17, ob 5 [.int h17f0, .int h17f1, .ref h37]), (h18, ob 5 [.int h18f0, .int h18f1, .ref h38]), (h19, ob 5 [.int h19f0, .int h19f1, .ref h39]), (h20, ob 5 [.int h20f0, .int h20f1, .ref h40]), (h1, ob 4 [.int h1f0, .int h1f1, .int h1f2, .ref h13])] _ := hT
      exfalso; omega
  · skip
    have hT := J _ hT1
    have hT : TP D A [(h11, aJ (k 1) 9 anJ), (h12, aJ (k 1) 9 anJ), (h13, aJ (k 1) 36 anJ), (h37, aJ (k 1) 40 anJ), (h38, aJ (k 1) 40 anJ), (h39, aJ (k 1) 40 anJ), (h40, aJ (k 1) 40 anJ), (h0, ob 7 [.ref h1, .ref h2, .int h0f2, .ref h3, .ref h4, .ref h5, .int h0f6, .ref h6, .int h0f8, .null, .ref h7, .int h0f11, .ref h8, .ref h9, .ref h10, .ref h11, .ref h12]), (h1, ob 4 [.int h1f0, .int h1f1, .int h1f2, .ref h13]), (h4, aQ (k 3) 4 (q4 h17 h18 h19 h20)), (h17, ob 5 [.int h17f0, .int h17f1, .ref h37]), (h18, ob 5 [.int h18f0, .int h18f1, .ref h38]), (h19, ob 5 [.int h19f0, .int h19f1, .ref h39]), (h20, ob 5 [.int h20f0, .int h20f1, .ref h40])] _ := hT
    refine lv_istore_n (lv' := [(3, .int 0), (0, .ref h0), (1, .int x1), (2, .int x2)]) hx hb dX10_keeps_7 rfl hl (by decide) rfl (fun ls hl => ?_)
    refine lv_iload_n hx hb dX10_keeps_8 rfl (lv_at hl 0 rfl) ?_
    refine lv_if_eq (tgt := 14) hx hb dX10_keeps_9 (by decide) (fun _ => ?_) (fun cc => absurd (by decide +kernel) cc)
    refine lv_aload_n hx hb dX10_keeps_14 rfl (lv_at hl 1 rfl) ?_
    refine tz_get (ci := 7) (v := .ref h4) (C := RX10) (F := TX10) (N := 17) hx hb hU iX10 hown hK hT 7 rfl rfl 4 (by decide) w253 (fun _ h9 => h9) rfl dX10_keeps_15 ?_
    refine lv_iload_n hx hb dX10_keeps_18 rfl (lv_at hl 2 rfl) ?_
    have hq426 : x1.toInt = 3 := by omega
    refine tz_aldq (b := h20) hx hb hK hT 9 rfl (vp_in_iff.mpr (by have := hq426; omega)) (fun f hf => by rw [cl_of hq426]; exact hf.2.2.2) dX10_keeps_19 ?_
    refine tz_get (ci := 5) (v := .ref h40) (C := RX6) (F := TX6) (N := 3) hx hb hU iX6 hown hK hT 13 rfl rfl 2 (by decide) w241 (fun _ h9 => h9) rfl dX10_keeps_20 ?_
    refine lv_iload_n hx hb dX10_keeps_23 rfl (lv_at hl 3 rfl) ?_
    refine lv_aload_n hx hb dX10_keeps_24 rfl (lv_at hl 1 rfl) ?_
    refine tz_get (ci := 7) (v := .ref h11) (C := RX10) (F := TX10) (N := 17) hx hb hU iX10 hown hK hT 7 rfl rfl 15 (by decide) w264 (fun _ h9 => h9) rfl dX10_keeps_25 ?_
    refine lv_iconst (v := 0) hx hb dX10_keeps_28 (by decide) ?_
    refine lv_aload_n hx hb dX10_keeps_29 rfl (lv_at hl 1 rfl) ?_
    refine tz_get (ci := 7) (v := .ref h1) (C := RX10) (F := TX10) (N := 17) hx hb hU iX10 hown hK hT 7 rfl rfl 0 (by decide) w249 (fun _ h9 => h9) rfl dX10_keeps_30 ?_
    refine tcI (Tc := [(h1, ob 4 [.int h1f0, .int h1f1, .int h1f2, .ref h13])]) (Tr := [(h11, aJ (k 1) 9 anJ), (h12, aJ (k 1) 9 anJ), (h13, aJ (k 1) 36 anJ), (h37, aJ (k 1) 40 anJ), (h38, aJ (k 1) 40 anJ), (h39, aJ (k 1) 40 anJ), (h40, aJ (k 1) 40 anJ), (h0, ob 7 [.ref h1, .ref h2, .int h0f2, .ref h3, .ref h4, .ref h5, .int h0f6, .ref h6, .int h0f8, .null, .ref h7, .int h0f11, .ref h8, .ref h9, .ref h10, .ref h11, .ref h12]), (h4, aQ (k 3) 4 (q4 h17 h18 h19 h20)), (h17, ob 5 [.int h17f0, .int h17f1, .ref h37]), (h18, ob 5 [.int h18f0, .int h18f1, .ref h38]), (h19, ob 5 [.int h19f0, .int h19f1, .ref h39]), (h20, ob 5 [.int h20f0, .int h20f1, .ref h40])]) (as := [h1]) (zcV (q0 := 8) (ci := 4) (As := []) (rest := [.int 0, .ref h11, .int x2, .ref h40]) (Tc := [(h1, ob 4 [.int h1f0, .int h1f1, .int h1f2, .ref h13])]) hx hb hml hown hU hK hT rfl rfl [8] rfl (by decide) (cX5_cellCount_f3983 l D k _ h1 h13 h1f0 h1f1 h1f2 (by omega) (by omega)) w385 w382 w383 w384 w64 hdX5_cellCount ⟨rfl, rfl⟩ ⟨Nat.le_of_ble_eq_true rfl, Nat.le_of_ble_eq_true rfl⟩ rfl hl.1 (Nat.le_of_ble_eq_true rfl) dX10_keeps_33 ⟨Nat.le_of_ble_eq_true rfl, Nat.le_of_ble_eq_true rfl⟩) hT hS hA [8] [0, 1, 2, 3, 4, 5, 6, 7, 9, 10, 11, 12, 13] rfl rfl rfl (by decide) (by decide) (fun r427 H locs hB J hS => ?_)
    rcases hB with ⟨v428, b_v428, c_429, c_430, rfl, hT1⟩ | ⟨v431, b_v431, c_432, c_433, rfl, hT1⟩ | ⟨v434, b_v434, c_435, c_436, rfl, hT1⟩
    · skip
      have hT := J _ hT1
      have hT : TP D A [(h11, aJ (k 1) 9 anJ), (h12, aJ (k 1) 9 anJ), (h13, aJ (k 1) 36 anJ), (h37, aJ (k 1) 40 anJ), (h38, aJ (k 1) 40 anJ), (h39, aJ (k 1) 40 anJ), (h40, aJ (k 1) 40 anJ), (h0, ob 7 [.ref h1, .ref h2, .int h0f2, .ref h3, .ref h4, .ref h5, .int h0f6, .ref h6, .int h0f8, .null, .ref h7, .int h0f11, .ref h8, .ref h9, .ref h10, .ref h11, .ref h12]), (h4, aQ (k 3) 4 (q4 h17 h18 h19 h20)), (h17, ob 5 [.int h17f0, .int h17f1, .ref h37]), (h18, ob 5 [.int h18f0, .int h18f1, .ref h38]), (h19, ob 5 [.int h19f0, .int h19f1, .ref h39]), (h20, ob 5 [.int h20f0, .int h20f1, .ref h40]), (h1, ob 4 [.int h1f0, .int h1f1, .int h1f2, .ref h13])] _ := hT
      exfalso; omega
    · skip
      have hT := J _ hT1
      have hT : TP D A [(h11, aJ (k 1) 9 anJ), (h12, aJ (k 1) 9 anJ), (h13, aJ (k 1) 36 anJ), (h37, aJ (k 1) 40 anJ), (h38, aJ (k 1) 40 anJ), (h39, aJ (k 1) 40 anJ), (h40, aJ (k 1) 40 anJ), (h0, ob 7 [.ref h1, .ref h2, .int h0f2, .ref h3, .ref h4, .ref h5, .int h0f6, .ref h6, .int h0f8, .null, .ref h7, .int h0f11, .ref h8, .ref h9, .ref h10, .ref h11, .ref h12]), (h4, aQ (k 3) 4 (q4 h17 h18 h19 h20)), (h17, ob 5 [.int h17f0, .int h17f1, .ref h37]), (h18, ob 5 [.int h18f0, .int h18f1, .ref h38]), (h19, ob 5 [.int h19f0, .int h19f1, .ref h39]), (h20, ob 5 [.int h20f0, .int h20f1, .ref h40]), (h1, ob 4 [.int h1f0, .int h1f1, .int h1f2, .ref h13])] _ := hT
      refine tz_copyl hx hb (by rw [hml]; exact hl.1.symm) hown hU w410 w348 w347 w75 hK hT hS 6 0 rfl rfl (by have := li_0; omega) (fun _ _ _ _ => trivial) (Nat.le_of_ble_eq_true rfl) (Nat.le_of_ble_eq_true rfl) dX10_keeps_36 (fun H locs hT hS => ?_)
      refine lv_aload_n hx hb dX10_keeps_39 rfl (lv_at hl 1 rfl) ?_
      refine tz_get (ci := 7) (v := .ref h11) (C := RX10) (F := TX10) (N := 17) hx hb hU iX10 hown hK hT 7 rfl rfl 15 (by decide) w264 (fun _ h9 => h9) rfl dX10_keeps_40 ?_
      refine lv_aload_n hx hb dX10_keeps_43 rfl (lv_at hl 1 rfl) ?_
      refine tz_get (ci := 7) (v := .ref h1) (C := RX10) (F := TX10) (N := 17) hx hb hU iX10 hown hK hT 7 rfl rfl 0 (by decide) w249 (fun _ h9 => h9) rfl dX10_keeps_44 ?_
      refine tcI (Tc := [(h1, ob 4 [.int h1f0, .int h1f1, .int h1f2, .ref h13])]) (Tr := [(h11, aJ (k 1) 9 anJ), (h12, aJ (k 1) 9 anJ), (h13, aJ (k 1) 36 anJ), (h37, aJ (k 1) 40 anJ), (h38, aJ (k 1) 40 anJ), (h39, aJ (k 1) 40 anJ), (h40, aJ (k 1) 40 anJ), (h0, ob 7 [.ref h1, .ref h2, .int h0f2, .ref h3, .ref h4, .ref h5, .int h0f6, .ref h6, .int h0f8, .null, .ref h7, .int h0f11, .ref h8, .ref h9, .ref h10, .ref h11, .ref h12]), (h4, aQ (k 3) 4 (q4 h17 h18 h19 h20)), (h17, ob 5 [.int h17f0, .int h17f1, .ref h37]), (h18, ob 5 [.int h18f0, .int h18f1, .ref h38]), (h19, ob 5 [.int h19f0, .int h19f1, .ref h39]), (h20, ob 5 [.int h20f0, .int h20f1, .ref h40])]) (as := [h1]) (zcV (q0 := 13) (ci := 4) (As := []) (rest := [.ref h11]) (Tc := [(h1, ob 4 [.int h1f0, .int h1f1, .int h1f2, .ref h13])]) hx hb hml hown hU hK hT rfl rfl [13] rfl (by decide) (cX5_cellCount_f3983 l D k _ h1 h13 h1f0 h1f1 h1f2 (by omega) (by omega)) w385 w382 w383 w384 w64 hdX5_cellCount ⟨rfl, rfl⟩ ⟨Nat.le_of_ble_eq_true rfl, Nat.le_of_ble_eq_true rfl⟩ rfl hl.1 (Nat.le_of_ble_eq_true rfl) dX10_keeps_47 ⟨Nat.le_of_ble_eq_true rfl, Nat.le_of_ble_eq_true rfl⟩) hT hS hA [13] [0, 1, 2, 3, 4, 5, 6, 7, 8, 9, 10, 11, 12] rfl rfl rfl (by decide) (by decide) (fun r437 H locs hB J hS => ?_)
      rcases hB with ⟨v438, b_v438, c_439, c_440, rfl, hT1⟩ | ⟨v441, b_v441, c_442, c_443, rfl, hT1⟩ | ⟨v444, b_v444, c_445, c_446, rfl, hT1⟩
      · skip
        have hT := J _ hT1
        have hT : TP D A [(h11, aJ (k 1) 9 anJ), (h12, aJ (k 1) 9 anJ), (h13, aJ (k 1) 36 anJ), (h37, aJ (k 1) 40 anJ), (h38, aJ (k 1) 40 anJ), (h39, aJ (k 1) 40 anJ), (h40, aJ (k 1) 40 anJ), (h0, ob 7 [.ref h1, .ref h2, .int h0f2, .ref h3, .ref h4, .ref h5, .int h0f6, .ref h6, .int h0f8, .null, .ref h7, .int h0f11, .ref h8, .ref h9, .ref h10, .ref h11, .ref h12]), (h4, aQ (k 3) 4 (q4 h17 h18 h19 h20)), (h17, ob 5 [.int h17f0, .int h17f1, .ref h37]), (h18, ob 5 [.int h18f0, .int h18f1, .ref h38]), (h19, ob 5 [.int h19f0, .int h19f1, .ref h39]), (h20, ob 5 [.int h20f0, .int h20f1, .ref h40]), (h1, ob 4 [.int h1f0, .int h1f1, .int h1f2, .ref h13])] _ := hT
        exfalso; omega
      · skip
        have hT := J _ hT1
        have hT : TP D A [(h11, aJ (k 1) 9 anJ), (h12, aJ (k 1) 9 anJ), (h13, aJ (k 1) 36 anJ), (h37, aJ (k 1) 40 anJ), (h38, aJ (k 1) 40 anJ), (h39, aJ (k 1) 40 anJ), (h40, aJ (k 1) 40 anJ), (h0, ob 7 [.ref h1, .ref h2, .int h0f2, .ref h3, .ref h4, .ref h5, .int h0f6, .ref h6, .int h0f8, .null, .ref h7, .int h0f11, .ref h8, .ref h9, .ref h10, .ref h11, .ref h12]), (h4, aQ (k 3) 4 (q4 h17 h18 h19 h20)), (h17, ob 5 [.int h17f0, .int h17f1, .ref h37]), (h18, ob 5 [.int h18f0, .int h18f1, .ref h38]), (h19, ob 5 [.int h19f0, .int h19f1, .ref h39]), (h20, ob 5 [.int h20f0, .int h20f1, .ref h40]), (h1, ob 4 [.int h1f0, .int h1f1, .int h1f2, .ref h13])] _ := hT
        refine lv_ldc2 hx hb hown (hU _ w649) dX10_keeps_50 ?_
        have q_q448 := ll_1000000
        refine tcI (Tc := [(h11, aJ (k 1) 9 anJ)]) (Tr := [(h12, aJ (k 1) 9 anJ), (h13, aJ (k 1) 36 anJ), (h37, aJ (k 1) 40 anJ), (h38, aJ (k 1) 40 anJ), (h39, aJ (k 1) 40 anJ), (h40, aJ (k 1) 40 anJ), (h0, ob 7 [.ref h1, .ref h2, .int h0f2, .ref h3, .ref h4, .ref h5, .int h0f6, .ref h6, .int h0f8, .null, .ref h7, .int h0f11, .ref h8, .ref h9, .ref h10, .ref h11, .ref h12]), (h4, aQ (k 3) 4 (q4 h17 h18 h19 h20)), (h17, ob 5 [.int h17f0, .int h17f1, .ref h37]), (h18, ob 5 [.int h18f0, .int h18f1, .ref h38]), (h19, ob 5 [.int h19f0, .int h19f1, .ref h39]), (h20, ob 5 [.int h20f0, .int h20f1, .ref h40]), (h1, ob 4 [.int h1f0, .int h1f1, .int h1f2, .ref h13])]) (as := [h11]) (zcS (As := [.ref h11, .int v441, .long 1000000]) (rest := []) (Tc := [(h11, aJ (k 1) 9 anJ)]) hx hb hml hown hU hK hT [0] rfl (by decide) (cX7_isWithin_443ab l D k _ h11 v441 (1000000) (by omega) (by have := ll_1000000; omega)) w389 w387 w388 w74 hdX7_isWithin ⟨rfl, rfl⟩ ⟨Nat.le_of_ble_eq_true rfl, Nat.le_of_ble_eq_true rfl⟩ rfl hl.1 (Nat.le_of_ble_eq_true rfl) dX10_keeps_53 ⟨Nat.le_of_ble_eq_true rfl, Nat.le_of_ble_eq_true rfl⟩) hT hS hA [0] [1, 2, 3, 4, 5, 6, 7, 8, 9, 10, 11, 12, 13] rfl rfl rfl (by decide) (by decide) (fun r447 H locs hB J hS => ?_)
        obtain ⟨b_r447, hT1⟩ := hB
        have hT := J _ hT1
        have hT : TP D A [(h12, aJ (k 1) 9 anJ), (h13, aJ (k 1) 36 anJ), (h37, aJ (k 1) 40 anJ), (h38, aJ (k 1) 40 anJ), (h39, aJ (k 1) 40 anJ), (h40, aJ (k 1) 40 anJ), (h0, ob 7 [.ref h1, .ref h2, .int h0f2, .ref h3, .ref h4, .ref h5, .int h0f6, .ref h6, .int h0f8, .null, .ref h7, .int h0f11, .ref h8, .ref h9, .ref h10, .ref h11, .ref h12]), (h4, aQ (k 3) 4 (q4 h17 h18 h19 h20)), (h17, ob 5 [.int h17f0, .int h17f1, .ref h37]), (h18, ob 5 [.int h18f0, .int h18f1, .ref h38]), (h19, ob 5 [.int h19f0, .int h19f1, .ref h39]), (h20, ob 5 [.int h20f0, .int h20f1, .ref h40]), (h1, ob 4 [.int h1f0, .int h1f1, .int h1f2, .ref h13]), (h11, aJ (k 1) 9 anJ)] _ := hT
        refine lv_if_ne (tgt := 62) hx hb dX10_keeps_56 (by decide) (fun c_449 => ?_) (fun c_449 => ?_)
        · skip
          have c_449 := ni_ne c_449 rfl li_0
          refine lv_aload_n hx hb dX10_keeps_62 rfl (lv_at hl 1 rfl) ?_
          refine tcI (Tc := [(h0, ob 7 [.ref h1, .ref h2, .int h0f2, .ref h3, .ref h4, .ref h5, .int h0f6, .ref h6, .int h0f8, .null, .ref h7, .int h0f11, .ref h8, .ref h9, .ref h10, .ref h11, .ref h12]), (h1, ob 4 [.int h1f0, .int h1f1, .int h1f2, .ref h13]), (h11, aJ (k 1) 9 anJ), (h12, aJ (k 1) 9 anJ)]) (Tr := [(h13, aJ (k 1) 36 anJ), (h37, aJ (k 1) 40 anJ), (h38, aJ (k 1) 40 anJ), (h39, aJ (k 1) 40 anJ), (h40, aJ (k 1) 40 anJ), (h4, aQ (k 3) 4 (q4 h17 h18 h19 h20)), (h17, ob 5 [.int h17f0, .int h17f1, .ref h37]), (h18, ob 5 [.int h18f0, .int h18f1, .ref h38]), (h19, ob 5 [.int h19f0, .int h19f1, .ref h39]), (h20, ob 5 [.int h20f0, .int h20f1, .ref h40])]) (as := [h0, h1, h11, h12]) (zcV (q0 := 6) (ci := 7) (As := []) (rest := []) (Tc := [(h0, ob 7 [.ref h1, .ref h2, .int h0f2, .ref h3, .ref h4, .ref h5, .int h0f6, .ref h6, .int h0f8, .null, .ref h7, .int h0f11, .ref h8, .ref h9, .ref h10, .ref h11, .ref h12]), (h1, ob 4 [.int h1f0, .int h1f1, .int h1f2, .ref h13]), (h11, aJ (k 1) 9 anJ), (h12, aJ (k 1) 9 anJ)]) hx hb hml hown hU hK hT rfl rfl [6, 12, 13, 0] rfl (by decide) (cX10_isPositiveForm_92f38 l D k _ h0 h1 h11 h12 h2 h3 h4 h5 h6 h7 h8 h9 h10 h13 h0f2 h0f6 h0f8 h0f11 h1f0 h1f1 h1f2 (by omega) (by omega) (by omega) (by omega) (by omega) (by omega)) w653 w650 w652 w19 w63 hdX10_isPositiveForm ⟨rfl, rfl⟩ ⟨Nat.le_of_ble_eq_true rfl, Nat.le_of_ble_eq_true rfl⟩ rfl hl.1 (Nat.le_of_ble_eq_true rfl) dX10_keeps_63 ⟨Nat.le_of_ble_eq_true rfl, Nat.le_of_ble_eq_true rfl⟩) hT hS hA [6, 12, 13, 0] [1, 2, 3, 4, 5, 7, 8, 9, 10, 11] rfl rfl rfl (by decide) (by decide) (fun r450 H locs hB J hS => ?_)
          obtain ⟨b_r450, hT1⟩ := hB
          have hT := J _ hT1
          have hT : TP D A [(h13, aJ (k 1) 36 anJ), (h37, aJ (k 1) 40 anJ), (h38, aJ (k 1) 40 anJ), (h39, aJ (k 1) 40 anJ), (h40, aJ (k 1) 40 anJ), (h4, aQ (k 3) 4 (q4 h17 h18 h19 h20)), (h17, ob 5 [.int h17f0, .int h17f1, .ref h37]), (h18, ob 5 [.int h18f0, .int h18f1, .ref h38]), (h19, ob 5 [.int h19f0, .int h19f1, .ref h39]), (h20, ob 5 [.int h20f0, .int h20f1, .ref h40]), (h0, ob 7 [.ref h1, .ref h2, .int h0f2, .ref h3, .ref h4, .ref h5, .int h0f6, .ref h6, .int h0f8, .null, .ref h7, .int h0f11, .ref h8, .ref h9, .ref h10, .ref h11, .ref h12]), (h1, ob 4 [.int h1f0, .int h1f1, .int h1f2, .ref h13]), (h11, aJ (k 1) 9 anJ), (h12, aJ (k 1) 9 anJ)] _ := hT
          refine lv_if_eq (tgt := 80) hx hb dX10_keeps_66 (by decide) (fun c_451 => ?_) (fun c_451 => ?_)
          · skip
            have c_451 := ni_eq c_451 rfl li_0
            refine lv_iconst (v := 0) hx hb dX10_keeps_80 (by decide) ?_
            exact tz_retI (B := B_cX10_keeps_deb30 D k h0 h1 h4 h11 h12 h13 h17 h18 h19 h20 h37 h38 h39 h40 h2 h3 h5 h6 h7 h8 h9 h10 x1 x2 h0f2 h0f6 h0f8 h0f11 h1f0 h1f1 h1f2 h17f0 h17f1 h18f0 h18f1 h19f0 h19f1 h20f0 h20f1) (v := 0) hQ hx hb hr hlocks hS (Nat.le_of_ble_eq_true rfl) (Nat.le_of_ble_eq_true rfl) dX10_keeps_81 (⟨(by have := li_0; omega), (hT.sub [10, 11, 5, 12, 13, 0, 6, 7, 8, 9, 1, 2, 3, 4] (by decide) rfl)⟩)
          · skip
            have c_451 := ni_ne c_451 rfl li_0
            refine lv_aload_n hx hb dX10_keeps_69 rfl (lv_at hl 1 rfl) ?_
            refine tcI (Tc := [(h0, ob 7 [.ref h1, .ref h2, .int h0f2, .ref h3, .ref h4, .ref h5, .int h0f6, .ref h6, .int h0f8, .null, .ref h7, .int h0f11, .ref h8, .ref h9, .ref h10, .ref h11, .ref h12]), (h1, ob 4 [.int h1f0, .int h1f1, .int h1f2, .ref h13]), (h11, aJ (k 1) 9 anJ), (h12, aJ (k 1) 9 anJ), (h13, aJ (k 1) 36 anJ)]) (Tr := [(h37, aJ (k 1) 40 anJ), (h38, aJ (k 1) 40 anJ), (h39, aJ (k 1) 40 anJ), (h40, aJ (k 1) 40 anJ), (h4, aQ (k 3) 4 (q4 h17 h18 h19 h20)), (h17, ob 5 [.int h17f0, .int h17f1, .ref h37]), (h18, ob 5 [.int h18f0, .int h18f1, .ref h38]), (h19, ob 5 [.int h19f0, .int h19f1, .ref h39]), (h20, ob 5 [.int h20f0, .int h20f1, .ref h40])]) (as := [h0, h1, h11, h12, h13]) (zcV (q0 := 10) (ci := 7) (As := []) (rest := []) (Tc := [(h0, ob 7 [.ref h1, .ref h2, .int h0f2, .ref h3, .ref h4, .ref h5, .int h0f6, .ref h6, .int h0f8, .null, .ref h7, .int h0f11, .ref h8, .ref h9, .ref h10, .ref h11, .ref h12]), (h1, ob 4 [.int h1f0, .int h1f1, .int h1f2, .ref h13]), (h11, aJ (k 1) 9 anJ), (h12, aJ (k 1) 9 anJ), (h13, aJ (k 1) 36 anJ)]) hx hb hml hown hU hK hT rfl rfl [10, 11, 12, 13, 0] rfl (by decide) (cX10_noGeneratorChangesForm_52b64 l D k _ h0 h1 h11 h12 h13 h2 h3 h4 h5 h6 h7 h8 h9 h10 h0f2 h0f6 h0f8 h0f11 h1f0 h1f1 h1f2 (by omega) (by omega) (by omega) (by omega) (by omega) (by omega)) w657 w654 w656 w20 w63 hdX10_noGeneratorChangesForm ⟨rfl, rfl⟩ ⟨Nat.le_of_ble_eq_true rfl, Nat.le_of_ble_eq_true rfl⟩ rfl hl.1 (Nat.le_of_ble_eq_true rfl) dX10_keeps_70 ⟨Nat.le_of_ble_eq_true rfl, Nat.le_of_ble_eq_true rfl⟩) hT hS hA [10, 11, 12, 13, 0] [1, 2, 3, 4, 5, 6, 7, 8, 9] rfl rfl rfl (by decide) (by decide) (fun r452 H locs hB J hS => ?_)
            obtain ⟨b_r452, hT1⟩ := hB
            have hT := J _ hT1
            have hT : TP D A [(h37, aJ (k 1) 40 anJ), (h38, aJ (k 1) 40 anJ), (h39, aJ (k 1) 40 anJ), (h40, aJ (k 1) 40 anJ), (h4, aQ (k 3) 4 (q4 h17 h18 h19 h20)), (h17, ob 5 [.int h17f0, .int h17f1, .ref h37]), (h18, ob 5 [.int h18f0, .int h18f1, .ref h38]), (h19, ob 5 [.int h19f0, .int h19f1, .ref h39]), (h20, ob 5 [.int h20f0, .int h20f1, .ref h40]), (h0, ob 7 [.ref h1, .ref h2, .int h0f2, .ref h3, .ref h4, .ref h5, .int h0f6, .ref h6, .int h0f8, .null, .ref h7, .int h0f11, .ref h8, .ref h9, .ref h10, .ref h11, .ref h12]), (h1, ob 4 [.int h1f0, .int h1f1, .int h1f2, .ref h13]), (h11, aJ (k 1) 9 anJ), (h12, aJ (k 1) 9 anJ), (h13, aJ (k 1) 36 anJ)] _ := hT
            refine lv_if_eq (tgt := 80) hx hb dX10_keeps_73 (by decide) (fun c_453 => ?_) (fun c_453 => ?_)
            · skip
              have c_453 := ni_eq c_453 rfl li_0
              refine lv_iconst (v := 0) hx hb dX10_keeps_80 (by decide) ?_
              exact tz_retI (B := B_cX10_keeps_deb30 D k h0 h1 h4 h11 h12 h13 h17 h18 h19 h20 h37 h38 h39 h40 h2 h3 h5 h6 h7 h8 h9 h10 x1 x2 h0f2 h0f6 h0f8 h0f11 h1f0 h1f1 h1f2 h17f0 h17f1 h18f0 h18f1 h19f0 h19f1 h20f0 h20f1) (v := 0) hQ hx hb hr hlocks hS (Nat.le_of_ble_eq_true rfl) (Nat.le_of_ble_eq_true rfl) dX10_keeps_81 (⟨(by have := li_0; omega), (hT.sub [9, 10, 4, 11, 12, 13, 5, 6, 7, 8, 0, 1, 2, 3] (by decide) rfl)⟩)
            · skip
              have c_453 := ni_ne c_453 rfl li_0
              refine lv_iconst (v := 1) hx hb dX10_keeps_76 (by decide) ?_
              refine lv_goto (tgt := 81) hx hb dX10_keeps_77 (by decide) ?_
              exact tz_retI (B := B_cX10_keeps_deb30 D k h0 h1 h4 h11 h12 h13 h17 h18 h19 h20 h37 h38 h39 h40 h2 h3 h5 h6 h7 h8 h9 h10 x1 x2 h0f2 h0f6 h0f8 h0f11 h1f0 h1f1 h1f2 h17f0 h17f1 h18f0 h18f1 h19f0 h19f1 h20f0 h20f1) (v := 1) hQ hx hb hr hlocks hS (Nat.le_of_ble_eq_true rfl) (Nat.le_of_ble_eq_true rfl) dX10_keeps_81 (⟨(by have := li_1; omega), (hT.sub [9, 10, 4, 11, 12, 13, 5, 6, 7, 8, 0, 1, 2, 3] (by decide) rfl)⟩)
        · skip
          have c_449 := ni_eq c_449 rfl li_0
          refine lv_bipush (v := (-16)) hx hb dX10_keeps_59 (by decide) ?_
          exact tz_retI (B := B_cX10_keeps_deb30 D k h0 h1 h4 h11 h12 h13 h17 h18 h19 h20 h37 h38 h39 h40 h2 h3 h5 h6 h7 h8 h9 h10 x1 x2 h0f2 h0f6 h0f8 h0f11 h1f0 h1f1 h1f2 h17f0 h17f1 h18f0 h18f1 h19f0 h19f1 h20f0 h20f1) (v := (-16)) hQ hx hb hr hlocks hS (Nat.le_of_ble_eq_true rfl) (Nat.le_of_ble_eq_true rfl) dX10_keeps_61 (⟨(by have := li_m16; omega), (hT.sub [6, 12, 7, 13, 0, 1, 8, 9, 10, 11, 2, 3, 4, 5] (by decide) rfl)⟩)
      · skip
        have hT := J _ hT1
        have hT : TP D A [(h11, aJ (k 1) 9 anJ), (h12, aJ (k 1) 9 anJ), (h13, aJ (k 1) 36 anJ), (h37, aJ (k 1) 40 anJ), (h38, aJ (k 1) 40 anJ), (h39, aJ (k 1) 40 anJ), (h40, aJ (k 1) 40 anJ), (h0, ob 7 [.ref h1, .ref h2, .int h0f2, .ref h3, .ref h4, .ref h5, .int h0f6, .ref h6, .int h0f8, .null, .ref h7, .int h0f11, .ref h8, .ref h9, .ref h10, .ref h11, .ref h12]), (h4, aQ (k 3) 4 (q4 h17 h18 h19 h20)), (h17, ob 5 [.int h17f0, .int h17f1, .ref h37]), (h18, ob 5 [.int h18f0, .int h18f1, .ref h38]), (h19, ob 5 [.int h19f0, .int h19f1, .ref h39]), (h20, ob 5 [.int h20f0, .int h20f1, .ref h40]), (h1, ob 4 [.int h1f0, .int h1f1, .int h1f2, .ref h13])] _ := hT
        exfalso; omega
    · skip
      have hT := J _ hT1
      have hT : TP D A [(h11, aJ (k 1) 9 anJ), (h12, aJ (k 1) 9 anJ), (h13, aJ (k 1) 36 anJ), (h37, aJ (k 1) 40 anJ), (h38, aJ (k 1) 40 anJ), (h39, aJ (k 1) 40 anJ), (h40, aJ (k 1) 40 anJ), (h0, ob 7 [.ref h1, .ref h2, .int h0f2, .ref h3, .ref h4, .ref h5, .int h0f6, .ref h6, .int h0f8, .null, .ref h7, .int h0f11, .ref h8, .ref h9, .ref h10, .ref h11, .ref h12]), (h4, aQ (k 3) 4 (q4 h17 h18 h19 h20)), (h17, ob 5 [.int h17f0, .int h17f1, .ref h37]), (h18, ob 5 [.int h18f0, .int h18f1, .ref h38]), (h19, ob 5 [.int h19f0, .int h19f1, .ref h39]), (h20, ob 5 [.int h20f0, .int h20f1, .ref h40]), (h1, ob 4 [.int h1f0, .int h1f1, .int h1f2, .ref h13])] _ := hT
      exfalso; omega
  · skip
    have hT := J _ hT1
    have hT : TP D A [(h11, aJ (k 1) 9 anJ), (h12, aJ (k 1) 9 anJ), (h13, aJ (k 1) 36 anJ), (h37, aJ (k 1) 40 anJ), (h38, aJ (k 1) 40 anJ), (h39, aJ (k 1) 40 anJ), (h40, aJ (k 1) 40 anJ), (h0, ob 7 [.ref h1, .ref h2, .int h0f2, .ref h3, .ref h4, .ref h5, .int h0f6, .ref h6, .int h0f8, .null, .ref h7, .int h0f11, .ref h8, .ref h9, .ref h10, .ref h11, .ref h12]), (h1, ob 4 [.int h1f0, .int h1f1, .int h1f2, .ref h13]), (h4, aQ (k 3) 4 (q4 h17 h18 h19 h20)), (h17, ob 5 [.int h17f0, .int h17f1, .ref h37]), (h18, ob 5 [.int h18f0, .int h18f1, .ref h38]), (h19, ob 5 [.int h19f0, .int h19f1, .ref h39]), (h20, ob 5 [.int h20f0, .int h20f1, .ref h40])] _ := hT
    refine lv_istore_n (lv' := [(3, .int 0), (0, .ref h0), (1, .int x1), (2, .int x2)]) hx hb dX10_keeps_7 rfl hl (by decide) rfl (fun ls hl => ?_)
    refine lv_iload_n hx hb dX10_keeps_8 rfl (lv_at hl 0 rfl) ?_
    refine lv_if_eq (tgt := 14) hx hb dX10_keeps_9 (by decide) (fun _ => ?_) (fun cc => absurd (by decide +kernel) cc)
    refine lv_aload_n hx hb dX10_keeps_14 rfl (lv_at hl 1 rfl) ?_
    refine tz_get (ci := 7) (v := .ref h4) (C := RX10) (F := TX10) (N := 17) hx hb hU iX10 hown hK hT 7 rfl rfl 4 (by decide) w253 (fun _ h9 => h9) rfl dX10_keeps_15 ?_
    refine lv_iload_n hx hb dX10_keeps_18 rfl (lv_at hl 2 rfl) ?_
    have hq454 : x1.toInt = 3 := by omega
    refine tz_aldq (b := h20) hx hb hK hT 9 rfl (vp_in_iff.mpr (by have := hq454; omega)) (fun f hf => by rw [cl_of hq454]; exact hf.2.2.2) dX10_keeps_19 ?_
    refine tz_get (ci := 5) (v := .ref h40) (C := RX6) (F := TX6) (N := 3) hx hb hU iX6 hown hK hT 13 rfl rfl 2 (by decide) w241 (fun _ h9 => h9) rfl dX10_keeps_20 ?_
    refine lv_iload_n hx hb dX10_keeps_23 rfl (lv_at hl 3 rfl) ?_
    refine lv_aload_n hx hb dX10_keeps_24 rfl (lv_at hl 1 rfl) ?_
    refine tz_get (ci := 7) (v := .ref h11) (C := RX10) (F := TX10) (N := 17) hx hb hU iX10 hown hK hT 7 rfl rfl 15 (by decide) w264 (fun _ h9 => h9) rfl dX10_keeps_25 ?_
    refine lv_iconst (v := 0) hx hb dX10_keeps_28 (by decide) ?_
    refine lv_aload_n hx hb dX10_keeps_29 rfl (lv_at hl 1 rfl) ?_
    refine tz_get (ci := 7) (v := .ref h1) (C := RX10) (F := TX10) (N := 17) hx hb hU iX10 hown hK hT 7 rfl rfl 0 (by decide) w249 (fun _ h9 => h9) rfl dX10_keeps_30 ?_
    refine tcI (Tc := [(h1, ob 4 [.int h1f0, .int h1f1, .int h1f2, .ref h13])]) (Tr := [(h11, aJ (k 1) 9 anJ), (h12, aJ (k 1) 9 anJ), (h13, aJ (k 1) 36 anJ), (h37, aJ (k 1) 40 anJ), (h38, aJ (k 1) 40 anJ), (h39, aJ (k 1) 40 anJ), (h40, aJ (k 1) 40 anJ), (h0, ob 7 [.ref h1, .ref h2, .int h0f2, .ref h3, .ref h4, .ref h5, .int h0f6, .ref h6, .int h0f8, .null, .ref h7, .int h0f11, .ref h8, .ref h9, .ref h10, .ref h11, .ref h12]), (h4, aQ (k 3) 4 (q4 h17 h18 h19 h20)), (h17, ob 5 [.int h17f0, .int h17f1, .ref h37]), (h18, ob 5 [.int h18f0, .int h18f1, .ref h38]), (h19, ob 5 [.int h19f0, .int h19f1, .ref h39]), (h20, ob 5 [.int h20f0, .int h20f1, .ref h40])]) (as := [h1]) (zcV (q0 := 8) (ci := 4) (As := []) (rest := [.int 0, .ref h11, .int x2, .ref h40]) (Tc := [(h1, ob 4 [.int h1f0, .int h1f1, .int h1f2, .ref h13])]) hx hb hml hown hU hK hT rfl rfl [8] rfl (by decide) (cX5_cellCount_f3983 l D k _ h1 h13 h1f0 h1f1 h1f2 (by omega) (by omega)) w385 w382 w383 w384 w64 hdX5_cellCount ⟨rfl, rfl⟩ ⟨Nat.le_of_ble_eq_true rfl, Nat.le_of_ble_eq_true rfl⟩ rfl hl.1 (Nat.le_of_ble_eq_true rfl) dX10_keeps_33 ⟨Nat.le_of_ble_eq_true rfl, Nat.le_of_ble_eq_true rfl⟩) hT hS hA [8] [0, 1, 2, 3, 4, 5, 6, 7, 9, 10, 11, 12, 13] rfl rfl rfl (by decide) (by decide) (fun r455 H locs hB J hS => ?_)
    rcases hB with ⟨v456, b_v456, c_457, c_458, rfl, hT1⟩ | ⟨v459, b_v459, c_460, c_461, rfl, hT1⟩ | ⟨v462, b_v462, c_463, c_464, rfl, hT1⟩
    · skip
      have hT := J _ hT1
      have hT : TP D A [(h11, aJ (k 1) 9 anJ), (h12, aJ (k 1) 9 anJ), (h13, aJ (k 1) 36 anJ), (h37, aJ (k 1) 40 anJ), (h38, aJ (k 1) 40 anJ), (h39, aJ (k 1) 40 anJ), (h40, aJ (k 1) 40 anJ), (h0, ob 7 [.ref h1, .ref h2, .int h0f2, .ref h3, .ref h4, .ref h5, .int h0f6, .ref h6, .int h0f8, .null, .ref h7, .int h0f11, .ref h8, .ref h9, .ref h10, .ref h11, .ref h12]), (h4, aQ (k 3) 4 (q4 h17 h18 h19 h20)), (h17, ob 5 [.int h17f0, .int h17f1, .ref h37]), (h18, ob 5 [.int h18f0, .int h18f1, .ref h38]), (h19, ob 5 [.int h19f0, .int h19f1, .ref h39]), (h20, ob 5 [.int h20f0, .int h20f1, .ref h40]), (h1, ob 4 [.int h1f0, .int h1f1, .int h1f2, .ref h13])] _ := hT
      exfalso; omega
    · skip
      have hT := J _ hT1
      have hT : TP D A [(h11, aJ (k 1) 9 anJ), (h12, aJ (k 1) 9 anJ), (h13, aJ (k 1) 36 anJ), (h37, aJ (k 1) 40 anJ), (h38, aJ (k 1) 40 anJ), (h39, aJ (k 1) 40 anJ), (h40, aJ (k 1) 40 anJ), (h0, ob 7 [.ref h1, .ref h2, .int h0f2, .ref h3, .ref h4, .ref h5, .int h0f6, .ref h6, .int h0f8, .null, .ref h7, .int h0f11, .ref h8, .ref h9, .ref h10, .ref h11, .ref h12]), (h4, aQ (k 3) 4 (q4 h17 h18 h19 h20)), (h17, ob 5 [.int h17f0, .int h17f1, .ref h37]), (h18, ob 5 [.int h18f0, .int h18f1, .ref h38]), (h19, ob 5 [.int h19f0, .int h19f1, .ref h39]), (h20, ob 5 [.int h20f0, .int h20f1, .ref h40]), (h1, ob 4 [.int h1f0, .int h1f1, .int h1f2, .ref h13])] _ := hT
      exfalso; omega
    · skip
      have hT := J _ hT1
      have hT : TP D A [(h11, aJ (k 1) 9 anJ), (h12, aJ (k 1) 9 anJ), (h13, aJ (k 1) 36 anJ), (h37, aJ (k 1) 40 anJ), (h38, aJ (k 1) 40 anJ), (h39, aJ (k 1) 40 anJ), (h40, aJ (k 1) 40 anJ), (h0, ob 7 [.ref h1, .ref h2, .int h0f2, .ref h3, .ref h4, .ref h5, .int h0f6, .ref h6, .int h0f8, .null, .ref h7, .int h0f11, .ref h8, .ref h9, .ref h10, .ref h11, .ref h12]), (h4, aQ (k 3) 4 (q4 h17 h18 h19 h20)), (h17, ob 5 [.int h17f0, .int h17f1, .ref h37]), (h18, ob 5 [.int h18f0, .int h18f1, .ref h38]), (h19, ob 5 [.int h19f0, .int h19f1, .ref h39]), (h20, ob 5 [.int h20f0, .int h20f1, .ref h40]), (h1, ob 4 [.int h1f0, .int h1f1, .int h1f2, .ref h13])] _ := hT
      refine tz_copyl hx hb (by rw [hml]; exact hl.1.symm) hown hU w410 w348 w347 w75 hK hT hS 6 0 rfl rfl (by have := li_0; omega) (fun _ _ _ _ => trivial) (Nat.le_of_ble_eq_true rfl) (Nat.le_of_ble_eq_true rfl) dX10_keeps_36 (fun H locs hT hS => ?_)
      refine lv_aload_n hx hb dX10_keeps_39 rfl (lv_at hl 1 rfl) ?_
      refine tz_get (ci := 7) (v := .ref h11) (C := RX10) (F := TX10) (N := 17) hx hb hU iX10 hown hK hT 7 rfl rfl 15 (by decide) w264 (fun _ h9 => h9) rfl dX10_keeps_40 ?_
      refine lv_aload_n hx hb dX10_keeps_43 rfl (lv_at hl 1 rfl) ?_
      refine tz_get (ci := 7) (v := .ref h1) (C := RX10) (F := TX10) (N := 17) hx hb hU iX10 hown hK hT 7 rfl rfl 0 (by decide) w249 (fun _ h9 => h9) rfl dX10_keeps_44 ?_
      refine tcI (Tc := [(h1, ob 4 [.int h1f0, .int h1f1, .int h1f2, .ref h13])]) (Tr := [(h11, aJ (k 1) 9 anJ), (h12, aJ (k 1) 9 anJ), (h13, aJ (k 1) 36 anJ), (h37, aJ (k 1) 40 anJ), (h38, aJ (k 1) 40 anJ), (h39, aJ (k 1) 40 anJ), (h40, aJ (k 1) 40 anJ), (h0, ob 7 [.ref h1, .ref h2, .int h0f2, .ref h3, .ref h4, .ref h5, .int h0f6, .ref h6, .int h0f8, .null, .ref h7, .int h0f11, .ref h8, .ref h9, .ref h10, .ref h11, .ref h12]), (h4, aQ (k 3) 4 (q4 h17 h18 h19 h20)), (h17, ob 5 [.int h17f0, .int h17f1, .ref h37]), (h18, ob 5 [.int h18f0, .int h18f1, .ref h38]), (h19, ob 5 [.int h19f0, .int h19f1, .ref h39]), (h20, ob 5 [.int h20f0, .int h20f1, .ref h40])]) (as := [h1]) (zcV (q0 := 13) (ci := 4) (As := []) (rest := [.ref h11]) (Tc := [(h1, ob 4 [.int h1f0, .int h1f1, .int h1f2, .ref h13])]) hx hb hml hown hU hK hT rfl rfl [13] rfl (by decide) (cX5_cellCount_f3983 l D k _ h1 h13 h1f0 h1f1 h1f2 (by omega) (by omega)) w385 w382 w383 w384 w64 hdX5_cellCount ⟨rfl, rfl⟩ ⟨Nat.le_of_ble_eq_true rfl, Nat.le_of_ble_eq_true rfl⟩ rfl hl.1 (Nat.le_of_ble_eq_true rfl) dX10_keeps_47 ⟨Nat.le_of_ble_eq_true rfl, Nat.le_of_ble_eq_true rfl⟩) hT hS hA [13] [0, 1, 2, 3, 4, 5, 6, 7, 8, 9, 10, 11, 12] rfl rfl rfl (by decide) (by decide) (fun r465 H locs hB J hS => ?_)
      rcases hB with ⟨v466, b_v466, c_467, c_468, rfl, hT1⟩ | ⟨v469, b_v469, c_470, c_471, rfl, hT1⟩ | ⟨v472, b_v472, c_473, c_474, rfl, hT1⟩
      · skip
        have hT := J _ hT1
        have hT : TP D A [(h11, aJ (k 1) 9 anJ), (h12, aJ (k 1) 9 anJ), (h13, aJ (k 1) 36 anJ), (h37, aJ (k 1) 40 anJ), (h38, aJ (k 1) 40 anJ), (h39, aJ (k 1) 40 anJ), (h40, aJ (k 1) 40 anJ), (h0, ob 7 [.ref h1, .ref h2, .int h0f2, .ref h3, .ref h4, .ref h5, .int h0f6, .ref h6, .int h0f8, .null, .ref h7, .int h0f11, .ref h8, .ref h9, .ref h10, .ref h11, .ref h12]), (h4, aQ (k 3) 4 (q4 h17 h18 h19 h20)), (h17, ob 5 [.int h17f0, .int h17f1, .ref h37]), (h18, ob 5 [.int h18f0, .int h18f1, .ref h38]), (h19, ob 5 [.int h19f0, .int h19f1, .ref h39]), (h20, ob 5 [.int h20f0, .int h20f1, .ref h40]), (h1, ob 4 [.int h1f0, .int h1f1, .int h1f2, .ref h13])] _ := hT
        exfalso; omega
      · skip
        have hT := J _ hT1
        have hT : TP D A [(h11, aJ (k 1) 9 anJ), (h12, aJ (k 1) 9 anJ), (h13, aJ (k 1) 36 anJ), (h37, aJ (k 1) 40 anJ), (h38, aJ (k 1) 40 anJ), (h39, aJ (k 1) 40 anJ), (h40, aJ (k 1) 40 anJ), (h0, ob 7 [.ref h1, .ref h2, .int h0f2, .ref h3, .ref h4, .ref h5, .int h0f6, .ref h6, .int h0f8, .null, .ref h7, .int h0f11, .ref h8, .ref h9, .ref h10, .ref h11, .ref h12]), (h4, aQ (k 3) 4 (q4 h17 h18 h19 h20)), (h17, ob 5 [.int h17f0, .int h17f1, .ref h37]), (h18, ob 5 [.int h18f0, .int h18f1, .ref h38]), (h19, ob 5 [.int h19f0, .int h19f1, .ref h39]), (h20, ob 5 [.int h20f0, .int h20f1, .ref h40]), (h1, ob 4 [.int h1f0, .int h1f1, .int h1f2, .ref h13])] _ := hT
        exfalso; omega
      · skip
        have hT := J _ hT1
        have hT : TP D A [(h11, aJ (k 1) 9 anJ), (h12, aJ (k 1) 9 anJ), (h13, aJ (k 1) 36 anJ), (h37, aJ (k 1) 40 anJ), (h38, aJ (k 1) 40 anJ), (h39, aJ (k 1) 40 anJ), (h40, aJ (k 1) 40 anJ), (h0, ob 7 [.ref h1, .ref h2, .int h0f2, .ref h3, .ref h4, .ref h5, .int h0f6, .ref h6, .int h0f8, .null, .ref h7, .int h0f11, .ref h8, .ref h9, .ref h10, .ref h11, .ref h12]), (h4, aQ (k 3) 4 (q4 h17 h18 h19 h20)), (h17, ob 5 [.int h17f0, .int h17f1, .ref h37]), (h18, ob 5 [.int h18f0, .int h18f1, .ref h38]), (h19, ob 5 [.int h19f0, .int h19f1, .ref h39]), (h20, ob 5 [.int h20f0, .int h20f1, .ref h40]), (h1, ob 4 [.int h1f0, .int h1f1, .int h1f2, .ref h13])] _ := hT
        refine lv_ldc2 hx hb hown (hU _ w649) dX10_keeps_50 ?_
        have q_q476 := ll_1000000
        refine tcI (Tc := [(h11, aJ (k 1) 9 anJ)]) (Tr := [(h12, aJ (k 1) 9 anJ), (h13, aJ (k 1) 36 anJ), (h37, aJ (k 1) 40 anJ), (h38, aJ (k 1) 40 anJ), (h39, aJ (k 1) 40 anJ), (h40, aJ (k 1) 40 anJ), (h0, ob 7 [.ref h1, .ref h2, .int h0f2, .ref h3, .ref h4, .ref h5, .int h0f6, .ref h6, .int h0f8, .null, .ref h7, .int h0f11, .ref h8, .ref h9, .ref h10, .ref h11, .ref h12]), (h4, aQ (k 3) 4 (q4 h17 h18 h19 h20)), (h17, ob 5 [.int h17f0, .int h17f1, .ref h37]), (h18, ob 5 [.int h18f0, .int h18f1, .ref h38]), (h19, ob 5 [.int h19f0, .int h19f1, .ref h39]), (h20, ob 5 [.int h20f0, .int h20f1, .ref h40]), (h1, ob 4 [.int h1f0, .int h1f1, .int h1f2, .ref h13])]) (as := [h11]) (zcS (As := [.ref h11, .int v472, .long 1000000]) (rest := []) (Tc := [(h11, aJ (k 1) 9 anJ)]) hx hb hml hown hU hK hT [0] rfl (by decide) (cX7_isWithin_443ab l D k _ h11 v472 (1000000) (by omega) (by have := ll_1000000; omega)) w389 w387 w388 w74 hdX7_isWithin ⟨rfl, rfl⟩ ⟨Nat.le_of_ble_eq_true rfl, Nat.le_of_ble_eq_true rfl⟩ rfl hl.1 (Nat.le_of_ble_eq_true rfl) dX10_keeps_53 ⟨Nat.le_of_ble_eq_true rfl, Nat.le_of_ble_eq_true rfl⟩) hT hS hA [0] [1, 2, 3, 4, 5, 6, 7, 8, 9, 10, 11, 12, 13] rfl rfl rfl (by decide) (by decide) (fun r475 H locs hB J hS => ?_)
        obtain ⟨b_r475, hT1⟩ := hB
        have hT := J _ hT1
        have hT : TP D A [(h12, aJ (k 1) 9 anJ), (h13, aJ (k 1) 36 anJ), (h37, aJ (k 1) 40 anJ), (h38, aJ (k 1) 40 anJ), (h39, aJ (k 1) 40 anJ), (h40, aJ (k 1) 40 anJ), (h0, ob 7 [.ref h1, .ref h2, .int h0f2, .ref h3, .ref h4, .ref h5, .int h0f6, .ref h6, .int h0f8, .null, .ref h7, .int h0f11, .ref h8, .ref h9, .ref h10, .ref h11, .ref h12]), (h4, aQ (k 3) 4 (q4 h17 h18 h19 h20)), (h17, ob 5 [.int h17f0, .int h17f1, .ref h37]), (h18, ob 5 [.int h18f0, .int h18f1, .ref h38]), (h19, ob 5 [.int h19f0, .int h19f1, .ref h39]), (h20, ob 5 [.int h20f0, .int h20f1, .ref h40]), (h1, ob 4 [.int h1f0, .int h1f1, .int h1f2, .ref h13]), (h11, aJ (k 1) 9 anJ)] _ := hT
        refine lv_if_ne (tgt := 62) hx hb dX10_keeps_56 (by decide) (fun c_477 => ?_) (fun c_477 => ?_)
        · skip
          have c_477 := ni_ne c_477 rfl li_0
          refine lv_aload_n hx hb dX10_keeps_62 rfl (lv_at hl 1 rfl) ?_
          refine tcI (Tc := [(h0, ob 7 [.ref h1, .ref h2, .int h0f2, .ref h3, .ref h4, .ref h5, .int h0f6, .ref h6, .int h0f8, .null, .ref h7, .int h0f11, .ref h8, .ref h9, .ref h10, .ref h11, .ref h12]), (h1, ob 4 [.int h1f0, .int h1f1, .int h1f2, .ref h13]), (h11, aJ (k 1) 9 anJ), (h12, aJ (k 1) 9 anJ)]) (Tr := [(h13, aJ (k 1) 36 anJ), (h37, aJ (k 1) 40 anJ), (h38, aJ (k 1) 40 anJ), (h39, aJ (k 1) 40 anJ), (h40, aJ (k 1) 40 anJ), (h4, aQ (k 3) 4 (q4 h17 h18 h19 h20)), (h17, ob 5 [.int h17f0, .int h17f1, .ref h37]), (h18, ob 5 [.int h18f0, .int h18f1, .ref h38]), (h19, ob 5 [.int h19f0, .int h19f1, .ref h39]), (h20, ob 5 [.int h20f0, .int h20f1, .ref h40])]) (as := [h0, h1, h11, h12]) (zcV (q0 := 6) (ci := 7) (As := []) (rest := []) (Tc := [(h0, ob 7 [.ref h1, .ref h2, .int h0f2, .ref h3, .ref h4, .ref h5, .int h0f6, .ref h6, .int h0f8, .null, .ref h7, .int h0f11, .ref h8, .ref h9, .ref h10, .ref h11, .ref h12]), (h1, ob 4 [.int h1f0, .int h1f1, .int h1f2, .ref h13]), (h11, aJ (k 1) 9 anJ), (h12, aJ (k 1) 9 anJ)]) hx hb hml hown hU hK hT rfl rfl [6, 12, 13, 0] rfl (by decide) (cX10_isPositiveForm_92f38 l D k _ h0 h1 h11 h12 h2 h3 h4 h5 h6 h7 h8 h9 h10 h13 h0f2 h0f6 h0f8 h0f11 h1f0 h1f1 h1f2 (by omega) (by omega) (by omega) (by omega) (by omega) (by omega)) w653 w650 w652 w19 w63 hdX10_isPositiveForm ⟨rfl, rfl⟩ ⟨Nat.le_of_ble_eq_true rfl, Nat.le_of_ble_eq_true rfl⟩ rfl hl.1 (Nat.le_of_ble_eq_true rfl) dX10_keeps_63 ⟨Nat.le_of_ble_eq_true rfl, Nat.le_of_ble_eq_true rfl⟩) hT hS hA [6, 12, 13, 0] [1, 2, 3, 4, 5, 7, 8, 9, 10, 11] rfl rfl rfl (by decide) (by decide) (fun r478 H locs hB J hS => ?_)
          obtain ⟨b_r478, hT1⟩ := hB
          have hT := J _ hT1
          have hT : TP D A [(h13, aJ (k 1) 36 anJ), (h37, aJ (k 1) 40 anJ), (h38, aJ (k 1) 40 anJ), (h39, aJ (k 1) 40 anJ), (h40, aJ (k 1) 40 anJ), (h4, aQ (k 3) 4 (q4 h17 h18 h19 h20)), (h17, ob 5 [.int h17f0, .int h17f1, .ref h37]), (h18, ob 5 [.int h18f0, .int h18f1, .ref h38]), (h19, ob 5 [.int h19f0, .int h19f1, .ref h39]), (h20, ob 5 [.int h20f0, .int h20f1, .ref h40]), (h0, ob 7 [.ref h1, .ref h2, .int h0f2, .ref h3, .ref h4, .ref h5, .int h0f6, .ref h6, .int h0f8, .null, .ref h7, .int h0f11, .ref h8, .ref h9, .ref h10, .ref h11, .ref h12]), (h1, ob 4 [.int h1f0, .int h1f1, .int h1f2, .ref h13]), (h11, aJ (k 1) 9 anJ), (h12, aJ (k 1) 9 anJ)] _ := hT
          refine lv_if_eq (tgt := 80) hx hb dX10_keeps_66 (by decide) (fun c_479 => ?_) (fun c_479 => ?_)
          · skip
            have c_479 := ni_eq c_479 rfl li_0
            refine lv_iconst (v := 0) hx hb dX10_keeps_80 (by decide) ?_
            exact tz_retI (B := B_cX10_keeps_deb30 D k h0 h1 h4 h11 h12 h13 h17 h18 h19 h20 h37 h38 h39 h40 h2 h3 h5 h6 h7 h8 h9 h10 x1 x2 h0f2 h0f6 h0f8 h0f11 h1f0 h1f1 h1f2 h17f0 h17f1 h18f0 h18f1 h19f0 h19f1 h20f0 h20f1) (v := 0) hQ hx hb hr hlocks hS (Nat.le_of_ble_eq_true rfl) (Nat.le_of_ble_eq_true rfl) dX10_keeps_81 (⟨(by have := li_0; omega), (hT.sub [10, 11, 5, 12, 13, 0, 6, 7, 8, 9, 1, 2, 3, 4] (by decide) rfl)⟩)
          · skip
            have c_479 := ni_ne c_479 rfl li_0
            refine lv_aload_n hx hb dX10_keeps_69 rfl (lv_at hl 1 rfl) ?_
            refine tcI (Tc := [(h0, ob 7 [.ref h1, .ref h2, .int h0f2, .ref h3, .ref h4, .ref h5, .int h0f6, .ref h6, .int h0f8, .null, .ref h7, .int h0f11, .ref h8, .ref h9, .ref h10, .ref h11, .ref h12]), (h1, ob 4 [.int h1f0, .int h1f1, .int h1f2, .ref h13]), (h11, aJ (k 1) 9 anJ), (h12, aJ (k 1) 9 anJ), (h13, aJ (k 1) 36 anJ)]) (Tr := [(h37, aJ (k 1) 40 anJ), (h38, aJ (k 1) 40 anJ), (h39, aJ (k 1) 40 anJ), (h40, aJ (k 1) 40 anJ), (h4, aQ (k 3) 4 (q4 h17 h18 h19 h20)), (h17, ob 5 [.int h17f0, .int h17f1, .ref h37]), (h18, ob 5 [.int h18f0, .int h18f1, .ref h38]), (h19, ob 5 [.int h19f0, .int h19f1, .ref h39]), (h20, ob 5 [.int h20f0, .int h20f1, .ref h40])]) (as := [h0, h1, h11, h12, h13]) (zcV (q0 := 10) (ci := 7) (As := []) (rest := []) (Tc := [(h0, ob 7 [.ref h1, .ref h2, .int h0f2, .ref h3, .ref h4, .ref h5, .int h0f6, .ref h6, .int h0f8, .null, .ref h7, .int h0f11, .ref h8, .ref h9, .ref h10, .ref h11, .ref h12]), (h1, ob 4 [.int h1f0, .int h1f1, .int h1f2, .ref h13]), (h11, aJ (k 1) 9 anJ), (h12, aJ (k 1) 9 anJ), (h13, aJ (k 1) 36 anJ)]) hx hb hml hown hU hK hT rfl rfl [10, 11, 12, 13, 0] rfl (by decide) (cX10_noGeneratorChangesForm_52b64 l D k _ h0 h1 h11 h12 h13 h2 h3 h4 h5 h6 h7 h8 h9 h10 h0f2 h0f6 h0f8 h0f11 h1f0 h1f1 h1f2 (by omega) (by omega) (by omega) (by omega) (by omega) (by omega)) w657 w654 w656 w20 w63 hdX10_noGeneratorChangesForm ⟨rfl, rfl⟩ ⟨Nat.le_of_ble_eq_true rfl, Nat.le_of_ble_eq_true rfl⟩ rfl hl.1 (Nat.le_of_ble_eq_true rfl) dX10_keeps_70 ⟨Nat.le_of_ble_eq_true rfl, Nat.le_of_ble_eq_true rfl⟩) hT hS hA [10, 11, 12, 13, 0] [1, 2, 3, 4, 5, 6, 7, 8, 9] rfl rfl rfl (by decide) (by decide) (fun r480 H locs hB J hS => ?_)
            obtain ⟨b_r480, hT1⟩ := hB
            have hT := J _ hT1
            have hT : TP D A [(h37, aJ (k 1) 40 anJ), (h38, aJ (k 1) 40 anJ), (h39, aJ (k 1) 40 anJ), (h40, aJ (k 1) 40 anJ), (h4, aQ (k 3) 4 (q4 h17 h18 h19 h20)), (h17, ob 5 [.int h17f0, .int h17f1, .ref h37]), (h18, ob 5 [.int h18f0, .int h18f1, .ref h38]), (h19, ob 5 [.int h19f0, .int h19f1, .ref h39]), (h20, ob 5 [.int h20f0, .int h20f1, .ref h40]), (h0, ob 7 [.ref h1, .ref h2, .int h0f2, .ref h3, .ref h4, .ref h5, .int h0f6, .ref h6, .int h0f8, .null, .ref h7, .int h0f11, .ref h8, .ref h9, .ref h10, .ref h11, .ref h12]), (h1, ob 4 [.int h1f0, .int h1f1, .int h1f2, .ref h13]), (h11, aJ (k 1) 9 anJ), (h12, aJ (k 1) 9 anJ), (h13, aJ (k 1) 36 anJ)] _ := hT
            refine lv_if_eq (tgt := 80) hx hb dX10_keeps_73 (by decide) (fun c_481 => ?_) (fun c_481 => ?_)
            · skip
              have c_481 := ni_eq c_481 rfl li_0
              refine lv_iconst (v := 0) hx hb dX10_keeps_80 (by decide) ?_
              exact tz_retI (B := B_cX10_keeps_deb30 D k h0 h1 h4 h11 h12 h13 h17 h18 h19 h20 h37 h38 h39 h40 h2 h3 h5 h6 h7 h8 h9 h10 x1 x2 h0f2 h0f6 h0f8 h0f11 h1f0 h1f1 h1f2 h17f0 h17f1 h18f0 h18f1 h19f0 h19f1 h20f0 h20f1) (v := 0) hQ hx hb hr hlocks hS (Nat.le_of_ble_eq_true rfl) (Nat.le_of_ble_eq_true rfl) dX10_keeps_81 (⟨(by have := li_0; omega), (hT.sub [9, 10, 4, 11, 12, 13, 5, 6, 7, 8, 0, 1, 2, 3] (by decide) rfl)⟩)
            · skip
              have c_481 := ni_ne c_481 rfl li_0
              refine lv_iconst (v := 1) hx hb dX10_keeps_76 (by decide) ?_
              refine lv_goto (tgt := 81) hx hb dX10_keeps_77 (by decide) ?_
              exact tz_retI (B := B_cX10_keeps_deb30 D k h0 h1 h4 h11 h12 h13 h17 h18 h19 h20 h37 h38 h39 h40 h2 h3 h5 h6 h7 h8 h9 h10 x1 x2 h0f2 h0f6 h0f8 h0f11 h1f0 h1f1 h1f2 h17f0 h17f1 h18f0 h18f1 h19f0 h19f1 h20f0 h20f1) (v := 1) hQ hx hb hr hlocks hS (Nat.le_of_ble_eq_true rfl) (Nat.le_of_ble_eq_true rfl) dX10_keeps_81 (⟨(by have := li_1; omega), (hT.sub [9, 10, 4, 11, 12, 13, 5, 6, 7, 8, 0, 1, 2, 3] (by decide) rfl)⟩)
        · skip
          have c_477 := ni_eq c_477 rfl li_0
          refine lv_bipush (v := (-16)) hx hb dX10_keeps_59 (by decide) ?_
          exact tz_retI (B := B_cX10_keeps_deb30 D k h0 h1 h4 h11 h12 h13 h17 h18 h19 h20 h37 h38 h39 h40 h2 h3 h5 h6 h7 h8 h9 h10 x1 x2 h0f2 h0f6 h0f8 h0f11 h1f0 h1f1 h1f2 h17f0 h17f1 h18f0 h18f1 h19f0 h19f1 h20f0 h20f1) (v := (-16)) hQ hx hb hr hlocks hS (Nat.le_of_ble_eq_true rfl) (Nat.le_of_ble_eq_true rfl) dX10_keeps_61 (⟨(by have := li_m16; omega), (hT.sub [6, 12, 7, 13, 0, 1, 8, 9, 10, 11, 2, 3, 4, 5] (by decide) rfl)⟩)
