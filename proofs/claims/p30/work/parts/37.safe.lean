abbrev Rm_cX11_take_344a2 : Room := { frames := 2, cells := 0, slots := 0, locals := 45 }
abbrev B_cX11_take_344a2 (D : va_G) (k : Nat → ClassId) (h0 h1 h3 h18 h19 h20 h2 h4 h5 h6 h7 h8 h9 h10 h11 h12 h13 h14 h15 h16 h17 h21 : Nat) (x1 : Int32) (x2 : Int32) (h0f0 : Int32) (h0f1 : Int32) (h0f2 : Int32) (h0f3 : Int32) (h0f4 : Int32) (h0f5 : Int32) (h0f8 : Int32) (h0f9 : Int32) (h0f17 : Int32) (h0f18 : Int32) (h0f19 : Int32) (h0f24 : Int32) (h0f25 : Int32) (h0f30 : Int32) (h0f31 : Int32) (h18f0 : Int32) (h18f1 : Int32) (h18f2 : Int32) (h18f3 : Int32) (h19f0 : Int32) (h19f1 : Int32) (h19f2 : Int32) (h19f3 : Int32) (A : Nat → Prop) (r : Int32) (H : Heap) : Prop := ∃ o0 : Int32, ∃ o1 : Int32, ∃ o2 : Int32, (0 ≤ o0.toInt ∧ o0.toInt ≤ 4) ∧ (0 ≤ o1.toInt ∧ o1.toInt ≤ 1) ∧ (0 ≤ o2.toInt ∧ o2.toInt ≤ 60) ∧ ((-13) ≤ r.toInt ∧ r.toInt ≤ 3) ∧ (o2.toInt = 0 ∨ (o2.toInt = h0f30.toInt ∧ o0.toInt = h0f1.toInt ∧ h0f31.toInt = h0f31.toInt)) ∧ (o1.toInt = 0 ∨ o1.toInt = h0f9.toInt) ∧ TP D A [(h0, ob 8 [.int h0f0, .int o0, .int h0f2, .int h0f3, .int h0f4, .int h0f5, .ref h1, .ref h2, .int h0f8, .int o1, .ref h3, .ref h4, .ref h5, .ref h6, .ref h7, .ref h8, .ref h9, .int h0f17, .int h0f18, .int h0f19, .ref h10, .ref h11, .ref h12, .ref h13, .int h0f24, .int h0f25, .ref h14, .ref h15, .ref h16, .ref h17, .int o2, .int h0f31, .ref h18, .ref h19, .ref h20, .ref h21]), (h1, aI (k 0) 36 anI), (h3, aJ (k 1) 9 anJ), (h18, aI (k 0) 4 (vec4 h18f0 h18f1 h18f2 h18f3)), (h19, aI (k 0) 4 (vec4 h19f0 h19f1 h19f2 h19f3)), (h20, aJ (k 1) 160 anJ)] H
set_option maxHeartbeats 4000000 in
set_option maxRecDepth 100000 in
theorem cX11_take_344a2 (l : Launch) (D : va_G) (k : Nat → ClassId) (sz : Nat) (h0 h1 h3 h18 h19 h20 h2 h4 h5 h6 h7 h8 h9 h10 h11 h12 h13 h14 h15 h16 h17 h21 : Nat) (x1 : Int32) (x2 : Int32) (h0f0 : Int32) (h0f1 : Int32) (h0f2 : Int32) (h0f3 : Int32) (h0f4 : Int32) (h0f5 : Int32) (h0f8 : Int32) (h0f9 : Int32) (h0f17 : Int32) (h0f18 : Int32) (h0f19 : Int32) (h0f24 : Int32) (h0f25 : Int32) (h0f30 : Int32) (h0f31 : Int32) (h18f0 : Int32) (h18f1 : Int32) (h18f2 : Int32) (h18f3 : Int32) (h19f0 : Int32) (h19f1 : Int32) (h19f2 : Int32) (h19f3 : Int32) (b_h0f0 : 1 ≤ h0f0.toInt ∧ h0f0.toInt ≤ 3) (b_h0f1 : 0 ≤ h0f1.toInt ∧ h0f1.toInt ≤ 4) (b_h0f3 : 0 ≤ h0f3.toInt ∧ h0f3.toInt ≤ 3) (b_h0f4 : 0 ≤ h0f4.toInt ∧ h0f4.toInt ≤ 4) (b_h0f8 : 0 ≤ h0f8.toInt ∧ h0f8.toInt ≤ 1) (b_h0f9 : 0 ≤ h0f9.toInt ∧ h0f9.toInt ≤ 1) (b_h0f17 : 0 ≤ h0f17.toInt ∧ h0f17.toInt ≤ 120) (b_h0f18 : 0 ≤ h0f18.toInt ∧ h0f18.toInt ≤ 120) (b_h0f19 : 0 ≤ h0f19.toInt ∧ h0f19.toInt ≤ 4) (b_h0f24 : 0 ≤ h0f24.toInt ∧ h0f24.toInt ≤ 100) (b_h0f25 : 0 ≤ h0f25.toInt ∧ h0f25.toInt ≤ 1) (b_h0f30 : 0 ≤ h0f30.toInt ∧ h0f30.toInt ≤ 60) (b_h0f31 : 0 ≤ h0f31.toInt ∧ h0f31.toInt ≤ 1) (b_h18f0 : (-1) ≤ h18f0.toInt ∧ h18f0.toInt ≤ 2) (b_h18f1 : (-1) ≤ h18f1.toInt ∧ h18f1.toInt ≤ 2) (b_h18f2 : (-1) ≤ h18f2.toInt ∧ h18f2.toInt ≤ 2) (b_h18f3 : (-1) ≤ h18f3.toInt ∧ h18f3.toInt ≤ 2) (b_h19f0 : 0 ≤ h19f0.toInt ∧ h19f0.toInt ≤ 40) (b_h19f1 : 0 ≤ h19f1.toInt ∧ h19f1.toInt ≤ 40) (b_h19f2 : 0 ≤ h19f2.toInt ∧ h19f2.toInt ≤ 40) (b_h19f3 : 0 ≤ h19f3.toInt ∧ h19f3.toInt ≤ 40) (i_0 : h0f8.toInt ≤ h0f3.toInt) (i_1 : h0f9.toInt ≤ h0f24.toInt) : Met l yX11_take (Cond.code yX11_take cX11_take 8 (some .int) :: uw) Rm_cX11_take_344a2 (pT D k sz [.ref h0, .int x1, .int x2] [(h0, ob 8 [.int h0f0, .int h0f1, .int h0f2, .int h0f3, .int h0f4, .int h0f5, .ref h1, .ref h2, .int h0f8, .int h0f9, .ref h3, .ref h4, .ref h5, .ref h6, .ref h7, .ref h8, .ref h9, .int h0f17, .int h0f18, .int h0f19, .ref h10, .ref h11, .ref h12, .ref h13, .int h0f24, .int h0f25, .ref h14, .ref h15, .ref h16, .ref h17, .int h0f30, .int h0f31, .ref h18, .ref h19, .ref h20, .ref h21]), (h1, aI (k 0) 36 anI), (h3, aJ (k 1) 9 anJ), (h18, aI (k 0) 4 (vec4 h18f0 h18f1 h18f2 h18f3)), (h19, aI (k 0) 4 (vec4 h19f0 h19f1 h19f2 h19f3)), (h20, aJ (k 1) 160 anJ)]) (qI (B_cX11_take_344a2 D k h0 h1 h3 h18 h19 h20 h2 h4 h5 h6 h7 h8 h9 h10 h11 h12 h13 h14 h15 h16 h17 h21 x1 x2 h0f0 h0f1 h0f2 h0f3 h0f4 h0f5 h0f8 h0f9 h0f17 h0f18 h0f19 h0f24 h0f25 h0f30 h0f31 h18f0 h18f1 h18f2 h18f3 h19f0 h19f1 h19f2 h19f3 (zA [h0, h1, h3, h18, h19, h20] sz)) (zA [h0, h1, h3, h18, h19, h20] sz)) 0 0 (zA [h0, h1, h3, h18, h19, h20] sz) := by
  refine tz_begin (as := [h0, h1, h3, h18, h19, h20]) (Qc := fun A => qI (B_cX11_take_344a2 D k h0 h1 h3 h18 h19 h20 h2 h4 h5 h6 h7 h8 h9 h10 h11 h12 h13 h14 h15 h16 h17 h21 x1 x2 h0f0 h0f1 h0f2 h0f3 h0f4 h0f5 h0f8 h0f9 h0f17 h0f18 h0f19 h0f24 h0f25 h0f30 h0f31 h18f0 h18f1 h18f2 h18f3 h19f0 h19f1 h19f2 h19f3 A) A) (by decide +kernel) rfl (Nat.le_of_ble_eq_true rfl) ?_
  intro p e s m args below meth c ls A Q hx hb hr hml hown hlocks hin hU hK hT hS hA hl hQ
  have hl : lv_has ls 8 [(0, .ref h0), (1, .int x1), (2, .int x2)] := hl
  have hT : TP D A [(h0, ob 8 [.int h0f0, .int h0f1, .int h0f2, .int h0f3, .int h0f4, .int h0f5, .ref h1, .ref h2, .int h0f8, .int h0f9, .ref h3, .ref h4, .ref h5, .ref h6, .ref h7, .ref h8, .ref h9, .int h0f17, .int h0f18, .int h0f19, .ref h10, .ref h11, .ref h12, .ref h13, .int h0f24, .int h0f25, .ref h14, .ref h15, .ref h16, .ref h17, .int h0f30, .int h0f31, .ref h18, .ref h19, .ref h20, .ref h21]), (h1, aI (k 0) 36 anI), (h3, aJ (k 1) 9 anJ), (h18, aI (k 0) 4 (vec4 h18f0 h18f1 h18f2 h18f3)), (h19, aI (k 0) 4 (vec4 h19f0 h19f1 h19f2 h19f3)), (h20, aJ (k 1) 160 anJ)] s.heap := hT
  refine lv_iload_n hx hb dX11_take_0 rfl (lv_at hl 1 rfl) ?_
  refine tcI (Tc := []) (Tr := [(h0, ob 8 [.int h0f0, .int h0f1, .int h0f2, .int h0f3, .int h0f4, .int h0f5, .ref h1, .ref h2, .int h0f8, .int h0f9, .ref h3, .ref h4, .ref h5, .ref h6, .ref h7, .ref h8, .ref h9, .int h0f17, .int h0f18, .int h0f19, .ref h10, .ref h11, .ref h12, .ref h13, .int h0f24, .int h0f25, .ref h14, .ref h15, .ref h16, .ref h17, .int h0f30, .int h0f31, .ref h18, .ref h19, .ref h20, .ref h21]), (h1, aI (k 0) 36 anI), (h3, aJ (k 1) 9 anJ), (h18, aI (k 0) 4 (vec4 h18f0 h18f1 h18f2 h18f3)), (h19, aI (k 0) 4 (vec4 h19f0 h19f1 h19f2 h19f3)), (h20, aJ (k 1) 160 anJ)]) (as := []) (zcS (As := [.int x1]) (rest := []) (Tc := []) hx hb hml hown hU hK hT [] rfl (by decide) (cX11_isSheet_2c130 l D k _ x1) w1101 w1099 w1100 w72 hdX11_isSheet ⟨rfl, rfl⟩ ⟨Nat.le_of_ble_eq_true rfl, Nat.le_of_ble_eq_true rfl⟩ rfl hl.1 (Nat.le_of_ble_eq_true rfl) dX11_take_1 ⟨Nat.le_of_ble_eq_true rfl, Nat.le_of_ble_eq_true rfl⟩) hT hS hA [] [0, 1, 2, 3, 4, 5] rfl rfl rfl (by decide) (by decide) (fun r1 H locs hB J hS => ?_)
  rcases hB with ⟨rfl, hT1⟩ | ⟨c_2, c_3, rfl, hT1⟩
  · skip
    have hT := J _ hT1
    have hT : TP D A [(h0, ob 8 [.int h0f0, .int h0f1, .int h0f2, .int h0f3, .int h0f4, .int h0f5, .ref h1, .ref h2, .int h0f8, .int h0f9, .ref h3, .ref h4, .ref h5, .ref h6, .ref h7, .ref h8, .ref h9, .int h0f17, .int h0f18, .int h0f19, .ref h10, .ref h11, .ref h12, .ref h13, .int h0f24, .int h0f25, .ref h14, .ref h15, .ref h16, .ref h17, .int h0f30, .int h0f31, .ref h18, .ref h19, .ref h20, .ref h21]), (h1, aI (k 0) 36 anI), (h3, aJ (k 1) 9 anJ), (h18, aI (k 0) 4 (vec4 h18f0 h18f1 h18f2 h18f3)), (h19, aI (k 0) 4 (vec4 h19f0 h19f1 h19f2 h19f3)), (h20, aJ (k 1) 160 anJ)] _ := hT
    refine lv_if_ne (tgt := 9) hx hb dX11_take_4 (by decide) (fun cc => absurd (by decide +kernel) cc) (fun _ => ?_)
    refine lv_iconst (v := (-1)) hx hb dX11_take_7 (by decide) ?_
    exact tz_retI (B := B_cX11_take_344a2 D k h0 h1 h3 h18 h19 h20 h2 h4 h5 h6 h7 h8 h9 h10 h11 h12 h13 h14 h15 h16 h17 h21 x1 x2 h0f0 h0f1 h0f2 h0f3 h0f4 h0f5 h0f8 h0f9 h0f17 h0f18 h0f19 h0f24 h0f25 h0f30 h0f31 h18f0 h18f1 h18f2 h18f3 h19f0 h19f1 h19f2 h19f3) (v := (-1)) hQ hx hb hr hlocks hS (Nat.le_of_ble_eq_true rfl) (Nat.le_of_ble_eq_true rfl) dX11_take_8 (⟨h0f1, h0f9, h0f30, (by have := li_m1; omega), (by have := li_m1; omega), (by have := li_m1; omega), (by have := li_m1; omega), (by have := li_m1; omega), (by have := li_m1; omega), hT⟩)
  · skip
    have hT := J _ hT1
    have hT : TP D A [(h0, ob 8 [.int h0f0, .int h0f1, .int h0f2, .int h0f3, .int h0f4, .int h0f5, .ref h1, .ref h2, .int h0f8, .int h0f9, .ref h3, .ref h4, .ref h5, .ref h6, .ref h7, .ref h8, .ref h9, .int h0f17, .int h0f18, .int h0f19, .ref h10, .ref h11, .ref h12, .ref h13, .int h0f24, .int h0f25, .ref h14, .ref h15, .ref h16, .ref h17, .int h0f30, .int h0f31, .ref h18, .ref h19, .ref h20, .ref h21]), (h1, aI (k 0) 36 anI), (h3, aJ (k 1) 9 anJ), (h18, aI (k 0) 4 (vec4 h18f0 h18f1 h18f2 h18f3)), (h19, aI (k 0) 4 (vec4 h19f0 h19f1 h19f2 h19f3)), (h20, aJ (k 1) 160 anJ)] _ := hT
    refine lv_if_ne (tgt := 9) hx hb dX11_take_4 (by decide) (fun _ => ?_) (fun cc => absurd cc (by decide +kernel))
    refine lv_aload_n hx hb dX11_take_9 rfl (lv_at hl 0 rfl) ?_
    refine lv_iload_n hx hb dX11_take_10 rfl (lv_at hl 1 rfl) ?_
    refine lv_iload_n hx hb dX11_take_11 rfl (lv_at hl 2 rfl) ?_
    refine tcI (Tc := [(h0, ob 8 [.int h0f0, .int h0f1, .int h0f2, .int h0f3, .int h0f4, .int h0f5, .ref h1, .ref h2, .int h0f8, .int h0f9, .ref h3, .ref h4, .ref h5, .ref h6, .ref h7, .ref h8, .ref h9, .int h0f17, .int h0f18, .int h0f19, .ref h10, .ref h11, .ref h12, .ref h13, .int h0f24, .int h0f25, .ref h14, .ref h15, .ref h16, .ref h17, .int h0f30, .int h0f31, .ref h18, .ref h19, .ref h20, .ref h21]), (h18, aI (k 0) 4 (vec4 h18f0 h18f1 h18f2 h18f3)), (h19, aI (k 0) 4 (vec4 h19f0 h19f1 h19f2 h19f3))]) (Tr := [(h1, aI (k 0) 36 anI), (h3, aJ (k 1) 9 anJ), (h20, aJ (k 1) 160 anJ)]) (as := [h0, h18, h19]) (zcV (q0 := 0) (ci := 8) (As := [.int x1, .int x2]) (rest := []) (Tc := [(h0, ob 8 [.int h0f0, .int h0f1, .int h0f2, .int h0f3, .int h0f4, .int h0f5, .ref h1, .ref h2, .int h0f8, .int h0f9, .ref h3, .ref h4, .ref h5, .ref h6, .ref h7, .ref h8, .ref h9, .int h0f17, .int h0f18, .int h0f19, .ref h10, .ref h11, .ref h12, .ref h13, .int h0f24, .int h0f25, .ref h14, .ref h15, .ref h16, .ref h17, .int h0f30, .int h0f31, .ref h18, .ref h19, .ref h20, .ref h21]), (h18, aI (k 0) 4 (vec4 h18f0 h18f1 h18f2 h18f3)), (h19, aI (k 0) 4 (vec4 h19f0 h19f1 h19f2 h19f3))]) hx hb hml hown hU hK hT rfl rfl [0, 3, 4] rfl (by decide) (cX11_lacks_3358c l D k _ h0 h18 h19 h1 h2 h3 h4 h5 h6 h7 h8 h9 h10 h11 h12 h13 h14 h15 h16 h17 h20 h21 x1 x2 h0f0 h0f1 h0f2 h0f3 h0f4 h0f5 h0f8 h0f9 h0f17 h0f18 h0f19 h0f24 h0f25 h0f30 h0f31 h18f0 h18f1 h18f2 h18f3 h19f0 h19f1 h19f2 h19f3 (by omega) (by omega) (by omega) (by omega) (by omega) (by omega) (by omega) (by omega) (by omega) (by omega) (by omega) (by omega) (by omega) (by omega) (by omega) (by omega) (by omega) (by omega) (by omega) (by omega) (by omega) (by omega) (by omega) (by omega)) w1205 w1202 w1204 w61 w72 hdX11_lacks ⟨rfl, rfl⟩ ⟨Nat.le_of_ble_eq_true rfl, Nat.le_of_ble_eq_true rfl⟩ rfl hl.1 (Nat.le_of_ble_eq_true rfl) dX11_take_12 ⟨Nat.le_of_ble_eq_true rfl, Nat.le_of_ble_eq_true rfl⟩) hT hS hA [0, 3, 4] [1, 2, 5] rfl rfl rfl (by decide) (by decide) (fun r4 H locs hB J hS => ?_)
    rcases hB with ⟨rfl, hT1⟩ | ⟨v5, v6, v7, b_v5, b_v6, b_v7, c_8, c_9, c_10, c_11, c_12, c_13, c_14, c_15, rfl, hT1⟩ | ⟨rfl, hT1⟩ | ⟨rfl, hT1⟩ | ⟨v16, v17, v18, b_v16, b_v17, b_v18, c_19, c_20, c_21, c_22, c_23, c_24, c_25, c_26, rfl, hT1⟩ | ⟨v27, v28, v29, b_v27, b_v28, b_v29, c_30, c_31, c_32, c_33, c_34, c_35, c_36, c_37, rfl, hT1⟩
    · skip
      have hT := J _ hT1
      have hT : TP D A [(h1, aI (k 0) 36 anI), (h3, aJ (k 1) 9 anJ), (h20, aJ (k 1) 160 anJ), (h0, ob 8 [.int h0f0, .int h0f1, .int h0f2, .int h0f3, .int h0f4, .int h0f5, .ref h1, .ref h2, .int h0f8, .int h0f9, .ref h3, .ref h4, .ref h5, .ref h6, .ref h7, .ref h8, .ref h9, .int h0f17, .int h0f18, .int h0f19, .ref h10, .ref h11, .ref h12, .ref h13, .int h0f24, .int h0f25, .ref h14, .ref h15, .ref h16, .ref h17, .int h0f30, .int h0f31, .ref h18, .ref h19, .ref h20, .ref h21]), (h18, aI (k 0) 4 (vec4 h18f0 h18f1 h18f2 h18f3)), (h19, aI (k 0) 4 (vec4 h19f0 h19f1 h19f2 h19f3))] _ := hT
      refine lv_istore_n (lv' := [(3, .int (-12)), (0, .ref h0), (1, .int x1), (2, .int x2)]) hx hb dX11_take_15 rfl hl (by decide) rfl (fun ls hl => ?_)
      refine lv_iload_n hx hb dX11_take_16 rfl (lv_at hl 0 rfl) ?_
      refine lv_if_eq (tgt := 22) hx hb dX11_take_17 (by decide) (fun cc => absurd cc (by decide +kernel)) (fun _ => ?_)
      refine lv_iload_n hx hb dX11_take_20 rfl (lv_at hl 0 rfl) ?_
      exact tz_retI (B := B_cX11_take_344a2 D k h0 h1 h3 h18 h19 h20 h2 h4 h5 h6 h7 h8 h9 h10 h11 h12 h13 h14 h15 h16 h17 h21 x1 x2 h0f0 h0f1 h0f2 h0f3 h0f4 h0f5 h0f8 h0f9 h0f17 h0f18 h0f19 h0f24 h0f25 h0f30 h0f31 h18f0 h18f1 h18f2 h18f3 h19f0 h19f1 h19f2 h19f3) (v := (-12)) hQ hx hb hr hlocks hS (Nat.le_of_ble_eq_true rfl) (Nat.le_of_ble_eq_true rfl) dX11_take_21 (⟨h0f1, h0f9, h0f30, (by have := li_m12; omega), (by have := li_m12; omega), (by have := li_m12; omega), (by have := li_m12; omega), (by have := li_m12; omega), (by have := li_m12; omega), (hT.sub [3, 0, 1, 4, 5, 2] (by decide) rfl)⟩)
    · skip
      have hT := J _ hT1
      have hT : TP D A [(h1, aI (k 0) 36 anI), (h3, aJ (k 1) 9 anJ), (h20, aJ (k 1) 160 anJ), (h0, ob 8 [.int h0f0, .int h0f1, .int h0f2, .int h0f3, .int h0f4, .int h0f5, .ref h1, .ref h2, .int h0f8, .int h0f9, .ref h3, .ref h4, .ref h5, .ref h6, .ref h7, .ref h8, .ref h9, .int h0f17, .int h0f18, .int h0f19, .ref h10, .ref h11, .ref h12, .ref h13, .int h0f24, .int h0f25, .ref h14, .ref h15, .ref h16, .ref h17, .int h0f30, .int h0f31, .ref h18, .ref h19, .ref h20, .ref h21]), (h18, aI (k 0) 4 (vec4 h18f0 h18f1 h18f2 h18f3)), (h19, aI (k 0) 4 (vec4 h19f0 h19f1 h19f2 h19f3))] _ := hT
      refine lv_istore_n (lv' := [(3, .int 0), (0, .ref h0), (1, .int x1), (2, .int x2)]) hx hb dX11_take_15 rfl hl (by decide) rfl (fun ls hl => ?_)
      refine lv_iload_n hx hb dX11_take_16 rfl (lv_at hl 0 rfl) ?_
      refine lv_if_eq (tgt := 22) hx hb dX11_take_17 (by decide) (fun _ => ?_) (fun cc => absurd (by decide +kernel) cc)
      refine lv_aload_n hx hb dX11_take_22 rfl (lv_at hl 1 rfl) ?_
      refine lv_aload_n hx hb dX11_take_23 rfl (lv_at hl 1 rfl) ?_
      refine tz_get (ci := 8) (v := .ref h3) (C := RX11) (F := TX11) (N := 36) hx hb hU iX11 hown hK hT 3 rfl rfl 10 (by decide) w795 (fun _ h9 => h9) rfl dX11_take_24 ?_
      refine tcV (Tc := [(h0, ob 8 [.int h0f0, .int h0f1, .int h0f2, .int h0f3, .int h0f4, .int h0f5, .ref h1, .ref h2, .int h0f8, .int h0f9, .ref h3, .ref h4, .ref h5, .ref h6, .ref h7, .ref h8, .ref h9, .int h0f17, .int h0f18, .int h0f19, .ref h10, .ref h11, .ref h12, .ref h13, .int h0f24, .int h0f25, .ref h14, .ref h15, .ref h16, .ref h17, .int h0f30, .int h0f31, .ref h18, .ref h19, .ref h20, .ref h21]), (h3, aJ (k 1) 9 anJ)]) (Tr := [(h1, aI (k 0) 36 anI), (h20, aJ (k 1) 160 anJ), (h18, aI (k 0) 4 (vec4 h18f0 h18f1 h18f2 h18f3)), (h19, aI (k 0) 4 (vec4 h19f0 h19f1 h19f2 h19f3))]) (as := [h0, h3]) (zcV (q0 := 3) (ci := 8) (As := [.ref h3]) (rest := []) (Tc := [(h0, ob 8 [.int h0f0, .int h0f1, .int h0f2, .int h0f3, .int h0f4, .int h0f5, .ref h1, .ref h2, .int h0f8, .int h0f9, .ref h3, .ref h4, .ref h5, .ref h6, .ref h7, .ref h8, .ref h9, .int h0f17, .int h0f18, .int h0f19, .ref h10, .ref h11, .ref h12, .ref h13, .int h0f24, .int h0f25, .ref h14, .ref h15, .ref h16, .ref h17, .int h0f30, .int h0f31, .ref h18, .ref h19, .ref h20, .ref h21]), (h3, aJ (k 1) 9 anJ)]) hx hb hml hown hU hK hT rfl rfl [3, 1] rfl (by decide) (cX11_clears_d395b l D k _ h0 h3 h1 h2 h4 h5 h6 h7 h8 h9 h10 h11 h12 h13 h14 h15 h16 h17 h18 h19 h20 h21 h0f0 h0f1 h0f2 h0f3 h0f4 h0f5 h0f8 h0f9 h0f17 h0f18 h0f19 h0f24 h0f25 h0f30 h0f31 (by omega) (by omega) (by omega) (by omega) (by omega) (by omega) (by omega) (by omega) (by omega) (by omega) (by omega) (by omega) (by omega) (by omega) (by omega)) w923 w920 w922 w29 w72 hdX11_clears ⟨rfl, rfl⟩ ⟨Nat.le_of_ble_eq_true rfl, Nat.le_of_ble_eq_true rfl⟩ rfl hl.1 (Nat.le_of_ble_eq_true rfl) dX11_take_27 ⟨Nat.le_of_ble_eq_true rfl, Nat.le_of_ble_eq_true rfl⟩) hT hS hA [3, 1] [0, 2, 4, 5] rfl rfl rfl (by decide) (by decide) (fun H locs hB J hS => ?_)
      have hT1 := hB
      have hT := J _ hT1
      have hT : TP D A [(h1, aI (k 0) 36 anI), (h20, aJ (k 1) 160 anJ), (h18, aI (k 0) 4 (vec4 h18f0 h18f1 h18f2 h18f3)), (h19, aI (k 0) 4 (vec4 h19f0 h19f1 h19f2 h19f3)), (h0, ob 8 [.int h0f0, .int h0f1, .int h0f2, .int h0f3, .int h0f4, .int h0f5, .ref h1, .ref h2, .int h0f8, .int h0f9, .ref h3, .ref h4, .ref h5, .ref h6, .ref h7, .ref h8, .ref h9, .int h0f17, .int h0f18, .int h0f19, .ref h10, .ref h11, .ref h12, .ref h13, .int h0f24, .int h0f25, .ref h14, .ref h15, .ref h16, .ref h17, .int h0f30, .int h0f31, .ref h18, .ref h19, .ref h20, .ref h21]), (h3, aJ (k 1) 9 anJ)] _ := hT
      refine lv_iconst (v := 1) hx hb dX11_take_30 (by decide) ?_
      refine lv_istore (lv' := [(4, .int 1), (3, .int 0), (0, .ref h0), (1, .int x1), (2, .int x2)]) hx hb dX11_take_31 hl (by decide) rfl (fun ls hl => ?_)
      refine lv_iconst (v := 0) hx hb dX11_take_33 (by decide) ?_
      refine lv_istore (lv' := [(5, .int 0), (4, .int 1), (3, .int 0), (0, .ref h0), (1, .int x1), (2, .int x2)]) hx hb dX11_take_34 hl (by decide) rfl (fun ls hl => ?_)
      have lp36_41 : ∀ (n : Nat) (y39 : Int32) (y40 : Int32) (H : Heap) (locs : List Loc) (ls : Array Slot), (0 ≤ y39.toInt ∧ y39.toInt ≤ 1) → (0 ≤ y40.toInt ∧ y40.toInt ≤ 1) → (h0f0.toInt + (-1) * y39.toInt + 1).toNat < n → TP D A [(h1, aI (k 0) 36 anI), (h20, aJ (k 1) 160 anJ), (h18, aI (k 0) 4 (vec4 h18f0 h18f1 h18f2 h18f3)), (h19, aI (k 0) 4 (vec4 h19f0 h19f1 h19f2 h19f3)), (h0, ob 8 [.int h0f0, .int h0f1, .int h0f2, .int h0f3, .int h0f4, .int h0f5, .ref h1, .ref h2, .int h0f8, .int h0f9, .ref h3, .ref h4, .ref h5, .ref h6, .ref h7, .ref h8, .ref h9, .int h0f17, .int h0f18, .int h0f19, .ref h10, .ref h11, .ref h12, .ref h13, .int h0f24, .int h0f25, .ref h14, .ref h15, .ref h16, .ref h17, .int h0f30, .int h0f31, .ref h18, .ref h19, .ref h20, .ref h21]), (h3, aJ (k 1) 9 anJ)] H → va_S A s.heap H locs → lv_has ls 8 [(0, .ref h0), (1, .int x1), (2, .int x2), (4, .int y40), (5, .int y39)] → W p l e Rm_cX11_take_344a2 s m args below meth c H locs 0 0 Q (F0 m 36 ls []) := by
        intro n
        induction n with
        | zero => intro y39 y40 H locs ls b_y39 b_y40 hm hT hS hl; exact absurd hm (Nat.not_lt_zero _)
        | succ n ih =>
          intro y39 y40 H locs ls b_y39 b_y40 hm hT hS hl
          have ih36_41 := ih
          clear ih
          refine lv_iload hx hb dX11_take_36 (lv_at hl 4 rfl) ?_
          refine lv_aload_n hx hb dX11_take_38 rfl (lv_at hl 0 rfl) ?_
          refine tz_get (ci := 8) (v := .int h0f0) (C := RX11) (F := TX11) (N := 36) hx hb hU iX11 hown hK hT 4 rfl rfl 0 (by decide) w785 (fun _ h9 => h9) rfl dX11_take_39 ?_
          refine lv_aload_n hx hb dX11_take_42 rfl (lv_at hl 0 rfl) ?_
          refine tz_get (ci := 8) (v := .int h0f0) (C := RX11) (F := TX11) (N := 36) hx hb hU iX11 hown hK hT 4 rfl rfl 0 (by decide) w785 (fun _ h9 => h9) rfl dX11_take_43 ?_
          have hq42 : h0f0.toInt = 1 := by omega
          refine lv_imul hx hb dX11_take_46 (lv_topi (fun v43 e_v43 => ?_))
          have e_v43 := ai_mul e_v43 hq42 hq42 (by omega)
          refine lv_icmp_ge (tgt := 131) hx hb dX11_take_47 (by decide) (fun c_44 => ?_) (fun c_44 => ?_)
          · skip
            have c_44 := ni_le c_44 rfl rfl
            refine lv_iload hx hb dX11_take_131 (lv_at hl 3 rfl) ?_
            refine lv_if_eq (tgt := 164) hx hb dX11_take_133 (by decide) (fun c_45 => ?_) (fun c_45 => ?_)
            · skip
              have c_45 := ni_eq c_45 rfl li_0
              refine lv_iconst (v := (-1)) hx hb dX11_take_164 (by decide) ?_
              exact tz_retI (B := B_cX11_take_344a2 D k h0 h1 h3 h18 h19 h20 h2 h4 h5 h6 h7 h8 h9 h10 h11 h12 h13 h14 h15 h16 h17 h21 x1 x2 h0f0 h0f1 h0f2 h0f3 h0f4 h0f5 h0f8 h0f9 h0f17 h0f18 h0f19 h0f24 h0f25 h0f30 h0f31 h18f0 h18f1 h18f2 h18f3 h19f0 h19f1 h19f2 h19f3) (v := (-1)) hQ hx hb hr hlocks hS (Nat.le_of_ble_eq_true rfl) (Nat.le_of_ble_eq_true rfl) dX11_take_165 (⟨h0f1, h0f9, h0f30, (by have := li_m1; omega), (by have := li_m1; omega), (by have := li_m1; omega), (by have := li_m1; omega), (by have := li_m1; omega), (by have := li_m1; omega), (hT.sub [4, 0, 5, 2, 3, 1] (by decide) rfl)⟩)
            · skip
              have c_45 := ni_ne c_45 rfl li_0
              refine lv_aload_n hx hb dX11_take_136 rfl (lv_at hl 0 rfl) ?_
              refine lv_aload_n hx hb dX11_take_137 rfl (lv_at hl 0 rfl) ?_
              refine tz_get (ci := 8) (v := .ref h3) (C := RX11) (F := TX11) (N := 36) hx hb hU iX11 hown hK hT 4 rfl rfl 10 (by decide) w795 (fun _ h9 => h9) rfl dX11_take_138 ?_
              refine tcL (Tc := [(h0, ob 8 [.int h0f0, .int h0f1, .int h0f2, .int h0f3, .int h0f4, .int h0f5, .ref h1, .ref h2, .int h0f8, .int h0f9, .ref h3, .ref h4, .ref h5, .ref h6, .ref h7, .ref h8, .ref h9, .int h0f17, .int h0f18, .int h0f19, .ref h10, .ref h11, .ref h12, .ref h13, .int h0f24, .int h0f25, .ref h14, .ref h15, .ref h16, .ref h17, .int h0f30, .int h0f31, .ref h18, .ref h19, .ref h20, .ref h21]), (h3, aJ (k 1) 9 anJ)]) (Tr := [(h1, aI (k 0) 36 anI), (h20, aJ (k 1) 160 anJ), (h18, aI (k 0) 4 (vec4 h18f0 h18f1 h18f2 h18f3)), (h19, aI (k 0) 4 (vec4 h19f0 h19f1 h19f2 h19f3))]) (as := [h0, h3]) (zcV (q0 := 4) (ci := 8) (As := [.ref h3]) (rest := []) (Tc := [(h0, ob 8 [.int h0f0, .int h0f1, .int h0f2, .int h0f3, .int h0f4, .int h0f5, .ref h1, .ref h2, .int h0f8, .int h0f9, .ref h3, .ref h4, .ref h5, .ref h6, .ref h7, .ref h8, .ref h9, .int h0f17, .int h0f18, .int h0f19, .ref h10, .ref h11, .ref h12, .ref h13, .int h0f24, .int h0f25, .ref h14, .ref h15, .ref h16, .ref h17, .int h0f30, .int h0f31, .ref h18, .ref h19, .ref h20, .ref h21]), (h3, aJ (k 1) 9 anJ)]) hx hb hml hown hU hK hT rfl rfl [4, 5] rfl (by decide) (cX11_det_62049 l D k _ h0 h3 h1 h2 h4 h5 h6 h7 h8 h9 h10 h11 h12 h13 h14 h15 h16 h17 h18 h19 h20 h21 h0f0 h0f1 h0f2 h0f3 h0f4 h0f5 h0f8 h0f9 h0f17 h0f18 h0f19 h0f24 h0f25 h0f30 h0f31 (by omega) (by omega) (by omega) (by omega) (by omega) (by omega) (by omega) (by omega) (by omega) (by omega) (by omega) (by omega) (by omega) (by omega) (by omega)) w952 w949 w951 w35 w72 hdX11_det ⟨rfl, rfl⟩ ⟨Nat.le_of_ble_eq_true rfl, Nat.le_of_ble_eq_true rfl⟩ rfl hl.1 (Nat.le_of_ble_eq_true rfl) dX11_take_141 ⟨Nat.le_of_ble_eq_true rfl, Nat.le_of_ble_eq_true rfl⟩) hT hS hA [4, 5] [0, 1, 2, 3] rfl rfl rfl (by decide) (by decide) (fun r46 H locs hB J hS => ?_)
              have hT1 := hB
              have hT := J _ hT1
              have hT : TP D A [(h1, aI (k 0) 36 anI), (h20, aJ (k 1) 160 anJ), (h18, aI (k 0) 4 (vec4 h18f0 h18f1 h18f2 h18f3)), (h19, aI (k 0) 4 (vec4 h19f0 h19f1 h19f2 h19f3)), (h0, ob 8 [.int h0f0, .int h0f1, .int h0f2, .int h0f3, .int h0f4, .int h0f5, .ref h1, .ref h2, .int h0f8, .int h0f9, .ref h3, .ref h4, .ref h5, .ref h6, .ref h7, .ref h8, .ref h9, .int h0f17, .int h0f18, .int h0f19, .ref h10, .ref h11, .ref h12, .ref h13, .int h0f24, .int h0f25, .ref h14, .ref h15, .ref h16, .ref h17, .int h0f30, .int h0f31, .ref h18, .ref h19, .ref h20, .ref h21]), (h3, aJ (k 1) 9 anJ)] _ := hT
              refine lv_lconst (v := 1) hx hb dX11_take_144 (by decide) ?_
              refine W.lcmp hx hb dX11_take_145 ?_
              refine lv_if_eq (tgt := 166) hx hb dX11_take_146 (by decide) (fun c_47 => ?_) (fun c_47 => ?_)
              · skip
                have c_47 := nl_eq c_47 rfl ll_1
                refine lv_aload_n hx hb dX11_take_166 rfl (lv_at hl 0 rfl) ?_
                refine tz_get (ci := 8) (v := .int h0f1) (C := RX11) (F := TX11) (N := 36) hx hb hU iX11 hown hK hT 4 rfl rfl 1 (by decide) w786 (fun _ h9 => h9) rfl dX11_take_167 ?_
                refine lv_iconst (v := 4) hx hb dX11_take_170 (by decide) ?_
                refine lv_icmp_ne (tgt := 179) hx hb dX11_take_171 (by decide) (fun c_48 => ?_) (fun c_48 => ?_)
                · skip
                  have c_48 := ni_ne c_48 rfl li_4
                  refine lv_aload_n hx hb dX11_take_179 rfl (lv_at hl 0 rfl) ?_
                  refine tcI (Tc := [(h0, ob 8 [.int h0f0, .int h0f1, .int h0f2, .int h0f3, .int h0f4, .int h0f5, .ref h1, .ref h2, .int h0f8, .int h0f9, .ref h3, .ref h4, .ref h5, .ref h6, .ref h7, .ref h8, .ref h9, .int h0f17, .int h0f18, .int h0f19, .ref h10, .ref h11, .ref h12, .ref h13, .int h0f24, .int h0f25, .ref h14, .ref h15, .ref h16, .ref h17, .int h0f30, .int h0f31, .ref h18, .ref h19, .ref h20, .ref h21]), (h1, aI (k 0) 36 anI), (h3, aJ (k 1) 9 anJ)]) (Tr := [(h20, aJ (k 1) 160 anJ), (h18, aI (k 0) 4 (vec4 h18f0 h18f1 h18f2 h18f3)), (h19, aI (k 0) 4 (vec4 h19f0 h19f1 h19f2 h19f3))]) (as := [h0, h1, h3]) (zcV (q0 := 4) (ci := 8) (As := []) (rest := []) (Tc := [(h0, ob 8 [.int h0f0, .int h0f1, .int h0f2, .int h0f3, .int h0f4, .int h0f5, .ref h1, .ref h2, .int h0f8, .int h0f9, .ref h3, .ref h4, .ref h5, .ref h6, .ref h7, .ref h8, .ref h9, .int h0f17, .int h0f18, .int h0f19, .ref h10, .ref h11, .ref h12, .ref h13, .int h0f24, .int h0f25, .ref h14, .ref h15, .ref h16, .ref h17, .int h0f30, .int h0f31, .ref h18, .ref h19, .ref h20, .ref h21]), (h1, aI (k 0) 36 anI), (h3, aJ (k 1) 9 anJ)]) hx hb hml hown hU hK hT rfl rfl [4, 0, 5] rfl (by decide) (cX11_comes_53948 l D k _ h0 h1 h3 h2 h4 h5 h6 h7 h8 h9 h10 h11 h12 h13 h14 h15 h16 h17 h18 h19 h20 h21 h0f0 h0f1 h0f2 h0f3 h0f4 h0f5 h0f8 h0f9 h0f17 h0f18 h0f19 h0f24 h0f25 h0f30 h0f31 (by omega) (by omega) (by omega) (by omega) (by omega) (by omega) (by omega) (by omega) (by omega) (by omega) (by omega) (by omega) (by omega) (by omega) (by omega)) w927 w924 w926 w30 w72 hdX11_comes ⟨rfl, rfl⟩ ⟨Nat.le_of_ble_eq_true rfl, Nat.le_of_ble_eq_true rfl⟩ rfl hl.1 (Nat.le_of_ble_eq_true rfl) dX11_take_180 ⟨Nat.le_of_ble_eq_true rfl, Nat.le_of_ble_eq_true rfl⟩) hT hS hA [4, 0, 5] [1, 2, 3] rfl rfl rfl (by decide) (by decide) (fun r49 H locs hB J hS => ?_)
                  obtain ⟨v50, b_v50, b_r49, hT1⟩ := hB
                  have hT := J _ hT1
                  have hT : TP D A [(h20, aJ (k 1) 160 anJ), (h18, aI (k 0) 4 (vec4 h18f0 h18f1 h18f2 h18f3)), (h19, aI (k 0) 4 (vec4 h19f0 h19f1 h19f2 h19f3)), (h0, ob 8 [.int h0f0, .int v50, .int h0f2, .int h0f3, .int h0f4, .int h0f5, .ref h1, .ref h2, .int h0f8, .int 0, .ref h3, .ref h4, .ref h5, .ref h6, .ref h7, .ref h8, .ref h9, .int h0f17, .int h0f18, .int h0f19, .ref h10, .ref h11, .ref h12, .ref h13, .int h0f24, .int h0f25, .ref h14, .ref h15, .ref h16, .ref h17, .int 0, .int h0f31, .ref h18, .ref h19, .ref h20, .ref h21]), (h1, aI (k 0) 36 anI), (h3, aJ (k 1) 9 anJ)] _ := hT
                  exact tz_retI (B := B_cX11_take_344a2 D k h0 h1 h3 h18 h19 h20 h2 h4 h5 h6 h7 h8 h9 h10 h11 h12 h13 h14 h15 h16 h17 h21 x1 x2 h0f0 h0f1 h0f2 h0f3 h0f4 h0f5 h0f8 h0f9 h0f17 h0f18 h0f19 h0f24 h0f25 h0f30 h0f31 h18f0 h18f1 h18f2 h18f3 h19f0 h19f1 h19f2 h19f3) (v := r49) hQ hx hb hr hlocks hS (Nat.le_of_ble_eq_true rfl) (Nat.le_of_ble_eq_true rfl) dX11_take_183 (⟨v50, 0, 0, (by have := li_0; omega), (by have := li_0; omega), (by have := li_0; omega), (by have := li_0; omega), (by have := li_0; omega), (by have := li_0; omega), (hT.sub [3, 4, 5, 1, 2, 0] (by decide) rfl)⟩)
                · skip
                  have c_48 := ni_eq c_48 rfl li_4
                  refine lv_bipush (v := (-2)) hx hb dX11_take_174 (by decide) ?_
                  refine lv_goto (tgt := 183) hx hb dX11_take_176 (by decide) ?_
                  exact tz_retI (B := B_cX11_take_344a2 D k h0 h1 h3 h18 h19 h20 h2 h4 h5 h6 h7 h8 h9 h10 h11 h12 h13 h14 h15 h16 h17 h21 x1 x2 h0f0 h0f1 h0f2 h0f3 h0f4 h0f5 h0f8 h0f9 h0f17 h0f18 h0f19 h0f24 h0f25 h0f30 h0f31 h18f0 h18f1 h18f2 h18f3 h19f0 h19f1 h19f2 h19f3) (v := (-2)) hQ hx hb hr hlocks hS (Nat.le_of_ble_eq_true rfl) (Nat.le_of_ble_eq_true rfl) dX11_take_183 (⟨h0f1, h0f9, h0f30, (by have := li_m2; omega), (by have := li_m2; omega), (by have := li_m2; omega), (by have := li_m2; omega), (by have := li_m2; omega), (by have := li_m2; omega), (hT.sub [4, 0, 5, 2, 3, 1] (by decide) rfl)⟩)
              · skip
                have c_47 := nl_ne c_47 rfl ll_1
                refine lv_aload_n hx hb dX11_take_149 rfl (lv_at hl 0 rfl) ?_
                refine lv_aload_n hx hb dX11_take_150 rfl (lv_at hl 0 rfl) ?_
                refine tz_get (ci := 8) (v := .ref h3) (C := RX11) (F := TX11) (N := 36) hx hb hU iX11 hown hK hT 4 rfl rfl 10 (by decide) w795 (fun _ h9 => h9) rfl dX11_take_151 ?_
                refine tcL (Tc := [(h0, ob 8 [.int h0f0, .int h0f1, .int h0f2, .int h0f3, .int h0f4, .int h0f5, .ref h1, .ref h2, .int h0f8, .int h0f9, .ref h3, .ref h4, .ref h5, .ref h6, .ref h7, .ref h8, .ref h9, .int h0f17, .int h0f18, .int h0f19, .ref h10, .ref h11, .ref h12, .ref h13, .int h0f24, .int h0f25, .ref h14, .ref h15, .ref h16, .ref h17, .int h0f30, .int h0f31, .ref h18, .ref h19, .ref h20, .ref h21]), (h3, aJ (k 1) 9 anJ)]) (Tr := [(h1, aI (k 0) 36 anI), (h20, aJ (k 1) 160 anJ), (h18, aI (k 0) 4 (vec4 h18f0 h18f1 h18f2 h18f3)), (h19, aI (k 0) 4 (vec4 h19f0 h19f1 h19f2 h19f3))]) (as := [h0, h3]) (zcV (q0 := 4) (ci := 8) (As := [.ref h3]) (rest := []) (Tc := [(h0, ob 8 [.int h0f0, .int h0f1, .int h0f2, .int h0f3, .int h0f4, .int h0f5, .ref h1, .ref h2, .int h0f8, .int h0f9, .ref h3, .ref h4, .ref h5, .ref h6, .ref h7, .ref h8, .ref h9, .int h0f17, .int h0f18, .int h0f19, .ref h10, .ref h11, .ref h12, .ref h13, .int h0f24, .int h0f25, .ref h14, .ref h15, .ref h16, .ref h17, .int h0f30, .int h0f31, .ref h18, .ref h19, .ref h20, .ref h21]), (h3, aJ (k 1) 9 anJ)]) hx hb hml hown hU hK hT rfl rfl [4, 5] rfl (by decide) (cX11_det_62049 l D k _ h0 h3 h1 h2 h4 h5 h6 h7 h8 h9 h10 h11 h12 h13 h14 h15 h16 h17 h18 h19 h20 h21 h0f0 h0f1 h0f2 h0f3 h0f4 h0f5 h0f8 h0f9 h0f17 h0f18 h0f19 h0f24 h0f25 h0f30 h0f31 (by omega) (by omega) (by omega) (by omega) (by omega) (by omega) (by omega) (by omega) (by omega) (by omega) (by omega) (by omega) (by omega) (by omega) (by omega)) w952 w949 w951 w35 w72 hdX11_det ⟨rfl, rfl⟩ ⟨Nat.le_of_ble_eq_true rfl, Nat.le_of_ble_eq_true rfl⟩ rfl hl.1 (Nat.le_of_ble_eq_true rfl) dX11_take_154 ⟨Nat.le_of_ble_eq_true rfl, Nat.le_of_ble_eq_true rfl⟩) hT hS hA [4, 5] [0, 1, 2, 3] rfl rfl rfl (by decide) (by decide) (fun r51 H locs hB J hS => ?_)
                have hT1 := hB
                have hT := J _ hT1
                have hT : TP D A [(h1, aI (k 0) 36 anI), (h20, aJ (k 1) 160 anJ), (h18, aI (k 0) 4 (vec4 h18f0 h18f1 h18f2 h18f3)), (h19, aI (k 0) 4 (vec4 h19f0 h19f1 h19f2 h19f3)), (h0, ob 8 [.int h0f0, .int h0f1, .int h0f2, .int h0f3, .int h0f4, .int h0f5, .ref h1, .ref h2, .int h0f8, .int h0f9, .ref h3, .ref h4, .ref h5, .ref h6, .ref h7, .ref h8, .ref h9, .int h0f17, .int h0f18, .int h0f19, .ref h10, .ref h11, .ref h12, .ref h13, .int h0f24, .int h0f25, .ref h14, .ref h15, .ref h16, .ref h17, .int h0f30, .int h0f31, .ref h18, .ref h19, .ref h20, .ref h21]), (h3, aJ (k 1) 9 anJ)] _ := hT
                refine lv_ldc2 hx hb hown (hU _ w944) dX11_take_157 ?_
                refine W.lcmp hx hb dX11_take_160 ?_
                refine lv_if_eq (tgt := 166) hx hb dX11_take_161 (by decide) (fun c_52 => ?_) (fun c_52 => ?_)
                · skip
                  have c_52 := nl_eq c_52 rfl ll_m1
                  refine lv_aload_n hx hb dX11_take_166 rfl (lv_at hl 0 rfl) ?_
                  refine tz_get (ci := 8) (v := .int h0f1) (C := RX11) (F := TX11) (N := 36) hx hb hU iX11 hown hK hT 4 rfl rfl 1 (by decide) w786 (fun _ h9 => h9) rfl dX11_take_167 ?_
                  refine lv_iconst (v := 4) hx hb dX11_take_170 (by decide) ?_
                  refine lv_icmp_ne (tgt := 179) hx hb dX11_take_171 (by decide) (fun c_53 => ?_) (fun c_53 => ?_)
                  · skip
                    have c_53 := ni_ne c_53 rfl li_4
                    refine lv_aload_n hx hb dX11_take_179 rfl (lv_at hl 0 rfl) ?_
                    refine tcI (Tc := [(h0, ob 8 [.int h0f0, .int h0f1, .int h0f2, .int h0f3, .int h0f4, .int h0f5, .ref h1, .ref h2, .int h0f8, .int h0f9, .ref h3, .ref h4, .ref h5, .ref h6, .ref h7, .ref h8, .ref h9, .int h0f17, .int h0f18, .int h0f19, .ref h10, .ref h11, .ref h12, .ref h13, .int h0f24, .int h0f25, .ref h14, .ref h15, .ref h16, .ref h17, .int h0f30, .int h0f31, .ref h18, .ref h19, .ref h20, .ref h21]), (h1, aI (k 0) 36 anI), (h3, aJ (k 1) 9 anJ)]) (Tr := [(h20, aJ (k 1) 160 anJ), (h18, aI (k 0) 4 (vec4 h18f0 h18f1 h18f2 h18f3)), (h19, aI (k 0) 4 (vec4 h19f0 h19f1 h19f2 h19f3))]) (as := [h0, h1, h3]) (zcV (q0 := 4) (ci := 8) (As := []) (rest := []) (Tc := [(h0, ob 8 [.int h0f0, .int h0f1, .int h0f2, .int h0f3, .int h0f4, .int h0f5, .ref h1, .ref h2, .int h0f8, .int h0f9, .ref h3, .ref h4, .ref h5, .ref h6, .ref h7, .ref h8, .ref h9, .int h0f17, .int h0f18, .int h0f19, .ref h10, .ref h11, .ref h12, .ref h13, .int h0f24, .int h0f25, .ref h14, .ref h15, .ref h16, .ref h17, .int h0f30, .int h0f31, .ref h18, .ref h19, .ref h20, .ref h21]), (h1, aI (k 0) 36 anI), (h3, aJ (k 1) 9 anJ)]) hx hb hml hown hU hK hT rfl rfl [4, 0, 5] rfl (by decide) (cX11_comes_53948 l D k _ h0 h1 h3 h2 h4 h5 h6 h7 h8 h9 h10 h11 h12 h13 h14 h15 h16 h17 h18 h19 h20 h21 h0f0 h0f1 h0f2 h0f3 h0f4 h0f5 h0f8 h0f9 h0f17 h0f18 h0f19 h0f24 h0f25 h0f30 h0f31 (by omega) (by omega) (by omega) (by omega) (by omega) (by omega) (by omega) (by omega) (by omega) (by omega) (by omega) (by omega) (by omega) (by omega) (by omega)) w927 w924 w926 w30 w72 hdX11_comes ⟨rfl, rfl⟩ ⟨Nat.le_of_ble_eq_true rfl, Nat.le_of_ble_eq_true rfl⟩ rfl hl.1 (Nat.le_of_ble_eq_true rfl) dX11_take_180 ⟨Nat.le_of_ble_eq_true rfl, Nat.le_of_ble_eq_true rfl⟩) hT hS hA [4, 0, 5] [1, 2, 3] rfl rfl rfl (by decide) (by decide) (fun r54 H locs hB J hS => ?_)
                    obtain ⟨v55, b_v55, b_r54, hT1⟩ := hB
                    have hT := J _ hT1
                    have hT : TP D A [(h20, aJ (k 1) 160 anJ), (h18, aI (k 0) 4 (vec4 h18f0 h18f1 h18f2 h18f3)), (h19, aI (k 0) 4 (vec4 h19f0 h19f1 h19f2 h19f3)), (h0, ob 8 [.int h0f0, .int v55, .int h0f2, .int h0f3, .int h0f4, .int h0f5, .ref h1, .ref h2, .int h0f8, .int 0, .ref h3, .ref h4, .ref h5, .ref h6, .ref h7, .ref h8, .ref h9, .int h0f17, .int h0f18, .int h0f19, .ref h10, .ref h11, .ref h12, .ref h13, .int h0f24, .int h0f25, .ref h14, .ref h15, .ref h16, .ref h17, .int 0, .int h0f31, .ref h18, .ref h19, .ref h20, .ref h21]), (h1, aI (k 0) 36 anI), (h3, aJ (k 1) 9 anJ)] _ := hT
                    exact tz_retI (B := B_cX11_take_344a2 D k h0 h1 h3 h18 h19 h20 h2 h4 h5 h6 h7 h8 h9 h10 h11 h12 h13 h14 h15 h16 h17 h21 x1 x2 h0f0 h0f1 h0f2 h0f3 h0f4 h0f5 h0f8 h0f9 h0f17 h0f18 h0f19 h0f24 h0f25 h0f30 h0f31 h18f0 h18f1 h18f2 h18f3 h19f0 h19f1 h19f2 h19f3) (v := r54) hQ hx hb hr hlocks hS (Nat.le_of_ble_eq_true rfl) (Nat.le_of_ble_eq_true rfl) dX11_take_183 (⟨v55, 0, 0, (by have := li_0; omega), (by have := li_0; omega), (by have := li_0; omega), (by have := li_0; omega), (by have := li_0; omega), (by have := li_0; omega), (hT.sub [3, 4, 5, 1, 2, 0] (by decide) rfl)⟩)
                  · skip
                    have c_53 := ni_eq c_53 rfl li_4
                    refine lv_bipush (v := (-2)) hx hb dX11_take_174 (by decide) ?_
                    refine lv_goto (tgt := 183) hx hb dX11_take_176 (by decide) ?_
                    exact tz_retI (B := B_cX11_take_344a2 D k h0 h1 h3 h18 h19 h20 h2 h4 h5 h6 h7 h8 h9 h10 h11 h12 h13 h14 h15 h16 h17 h21 x1 x2 h0f0 h0f1 h0f2 h0f3 h0f4 h0f5 h0f8 h0f9 h0f17 h0f18 h0f19 h0f24 h0f25 h0f30 h0f31 h18f0 h18f1 h18f2 h18f3 h19f0 h19f1 h19f2 h19f3) (v := (-2)) hQ hx hb hr hlocks hS (Nat.le_of_ble_eq_true rfl) (Nat.le_of_ble_eq_true rfl) dX11_take_183 (⟨h0f1, h0f9, h0f30, (by have := li_m2; omega), (by have := li_m2; omega), (by have := li_m2; omega), (by have := li_m2; omega), (by have := li_m2; omega), (by have := li_m2; omega), (hT.sub [4, 0, 5, 2, 3, 1] (by decide) rfl)⟩)
                · skip
                  have c_52 := nl_ne c_52 rfl ll_m1
                  refine lv_iconst (v := (-1)) hx hb dX11_take_164 (by decide) ?_
                  exact tz_retI (B := B_cX11_take_344a2 D k h0 h1 h3 h18 h19 h20 h2 h4 h5 h6 h7 h8 h9 h10 h11 h12 h13 h14 h15 h16 h17 h21 x1 x2 h0f0 h0f1 h0f2 h0f3 h0f4 h0f5 h0f8 h0f9 h0f17 h0f18 h0f19 h0f24 h0f25 h0f30 h0f31 h18f0 h18f1 h18f2 h18f3 h19f0 h19f1 h19f2 h19f3) (v := (-1)) hQ hx hb hr hlocks hS (Nat.le_of_ble_eq_true rfl) (Nat.le_of_ble_eq_true rfl) dX11_take_165 (⟨h0f1, h0f9, h0f30, (by have := li_m1; omega), (by have := li_m1; omega), (by have := li_m1; omega), (by have := li_m1; omega), (by have := li_m1; omega), (by have := li_m1; omega), (hT.sub [4, 0, 5, 2, 3, 1] (by decide) rfl)⟩)
          · skip
            have c_44 := ni_nle c_44 rfl rfl
            refine lv_aload_n hx hb dX11_take_50 rfl (lv_at hl 0 rfl) ?_
            refine tz_get (ci := 8) (v := .ref h20) (C := RX11) (F := TX11) (N := 36) hx hb hU iX11 hown hK hT 4 rfl rfl 34 (by decide) w819 (fun _ h9 => h9) rfl dX11_take_51 ?_
            refine lv_bipush (v := 40) hx hb dX11_take_54 (by decide) ?_
            refine lv_iload_n hx hb dX11_take_56 rfl (lv_at hl 1 rfl) ?_
            refine lv_imul hx hb dX11_take_57 (lv_topi (fun v56 e_v56 => ?_))
            have e_v56 := ai_mul e_v56 li_40 rfl (by omega)
            refine lv_iload_n hx hb dX11_take_58 rfl (lv_at hl 2 rfl) ?_
            refine lv_iadd hx hb dX11_take_59 (lv_topi (fun v57 e_v57 => ?_))
            have e_v57 := ai_add e_v57 rfl rfl (by omega)
            refine lv_iload hx hb dX11_take_60 (lv_at hl 4 rfl) ?_
            have hq58 : y39.toInt = 0 := by omega
            refine lv_iadd hx hb dX11_take_62 (lv_topi (fun v59 e_v59 => ?_))
            have e_v59 := ai_add e_v59 rfl hq58 (by omega)
            refine tz_lald hx hb hK hT 1 rfl (by omega) dX11_take_63 (fun v60 e_v60 => ?_)
            clear e_v60
            refine lv_lstore (lv' := [(6, .long v60), (0, .ref h0), (1, .int x1), (2, .int x2), (4, .int y40), (5, .int y39)]) hx hb dX11_take_64 hl (by decide) rfl (fun ls hl => ?_)
            refine lv_iload hx hb dX11_take_66 (lv_at hl 4 rfl) ?_
            refine lv_if_eq (tgt := 89) hx hb dX11_take_68 (by decide) (fun c_61 => ?_) (fun c_61 => ?_)
            · skip
              have c_61 := ni_eq c_61 rfl li_0
              refine lv_iconst (v := 0) hx hb dX11_take_89 (by decide) ?_
              refine lv_istore (lv' := [(4, .int 0), (6, .long v60), (0, .ref h0), (1, .int x1), (2, .int x2), (5, .int y39)]) hx hb dX11_take_90 hl (by decide) rfl (fun ls hl => ?_)
              refine lv_aload_n hx hb dX11_take_92 rfl (lv_at hl 2 rfl) ?_
              refine tz_get (ci := 8) (v := .ref h3) (C := RX11) (F := TX11) (N := 36) hx hb hU iX11 hown hK hT 4 rfl rfl 10 (by decide) w795 (fun _ h9 => h9) rfl dX11_take_93 ?_
              refine lv_iconst (v := 3) hx hb dX11_take_96 (by decide) ?_
              refine lv_iload hx hb dX11_take_97 (lv_at hl 5 rfl) ?_
              refine lv_aload_n hx hb dX11_take_99 rfl (lv_at hl 2 rfl) ?_
              refine tz_get (ci := 8) (v := .int h0f0) (C := RX11) (F := TX11) (N := 36) hx hb hU iX11 hown hK hT 4 rfl rfl 0 (by decide) w785 (fun _ h9 => h9) rfl dX11_take_100 ?_
              refine lv_idiv hx hb dX11_take_103 (nz32 (y := 1) hq42 (by omega)) (lv_topi (fun v62 e_v62 => ?_))
              have e_v62 := ai_div e_v62 hq58 hq42 (by omega)
              have hq63 : v62.toInt = 0 := by omega
              refine lv_imul hx hb dX11_take_104 (lv_topi (fun v64 e_v64 => ?_))
              have e_v64 := ai_mul e_v64 li_3 hq63 (by omega)
              refine lv_iload hx hb dX11_take_105 (lv_at hl 5 rfl) ?_
              refine lv_aload_n hx hb dX11_take_107 rfl (lv_at hl 2 rfl) ?_
              refine tz_get (ci := 8) (v := .int h0f0) (C := RX11) (F := TX11) (N := 36) hx hb hU iX11 hown hK hT 4 rfl rfl 0 (by decide) w785 (fun _ h9 => h9) rfl dX11_take_108 ?_
              refine lv_irem hx hb dX11_take_111 (nz32 (y := 1) hq42 (by omega)) (lv_topi (fun v65 e_v65 => ?_))
              have e_v65 := ai_rem e_v65 hq58 hq42 (by omega)
              have hq66 : v64.toInt = 0 := by omega
              have hq67 : v65.toInt = 0 := by omega
              refine lv_iadd hx hb dX11_take_112 (lv_topi (fun v68 e_v68 => ?_))
              have e_v68 := ai_add e_v68 hq66 hq67 (by omega)
              refine lv_iload hx hb dX11_take_113 (lv_at hl 0 rfl) ?_
              refine lv_if_eq (tgt := 123) hx hb dX11_take_115 (by decide) (fun _ => ?_) (fun cc => absurd (by decide +kernel) cc)
              refine lv_lconst (v := 0) hx hb dX11_take_123 (by decide) ?_
              refine tz_last hx hb hK hT hS 5 rfl (by omega) (fun _ _ => trivial) dX11_take_124 (fun H locs hT hS => ?_)
              obtain ⟨v69, e_v69⟩ : ∃ x : Int32, x = y39 + Int32.ofInt 1 := ⟨_, rfl⟩
              have f_v69 := e_v69.symm
              have e_v69 : v69.toInt = 0 + 1 := ai_add e_v69 hq58 (show (Int32.ofInt 1).toInt = 1 from (by decide +kernel)) (by omega)
              refine lv_iinc (v := v69) (lv' := [(5, .int v69), (4, .int 0), (6, .long v60), (0, .ref h0), (1, .int x1), (2, .int x2)]) hx hb dX11_take_125 hl (k := 5) rfl f_v69 (by decide) rfl (fun ls hl => ?_)
              refine lv_goto (tgt := 36) hx hb dX11_take_128 (by decide) ?_
              exact ih36_41 v69 (0) _ _ _ (by have := li_0; omega) (by have := li_0; omega)  (by have := li_0; omega) hT hS (lv_sub hl [3, 4, 5, 1, 0] rfl)
            · skip
              have c_61 := ni_ne c_61 rfl li_0
              refine lv_lload hx hb dX11_take_71 (lv_at hl 0 rfl) ?_
              refine lv_ldc2 hx hb hown (hU _ w910) dX11_take_73 ?_
              refine lv_ldc2 hx hb hown (hU _ w911) dX11_take_76 ?_
              have q_q71 := ll_m99
              have q_q72 := ll_99
              refine tcI (Tc := []) (Tr := [(h1, aI (k 0) 36 anI), (h20, aJ (k 1) 160 anJ), (h18, aI (k 0) 4 (vec4 h18f0 h18f1 h18f2 h18f3)), (h19, aI (k 0) 4 (vec4 h19f0 h19f1 h19f2 h19f3)), (h0, ob 8 [.int h0f0, .int h0f1, .int h0f2, .int h0f3, .int h0f4, .int h0f5, .ref h1, .ref h2, .int h0f8, .int h0f9, .ref h3, .ref h4, .ref h5, .ref h6, .ref h7, .ref h8, .ref h9, .int h0f17, .int h0f18, .int h0f19, .ref h10, .ref h11, .ref h12, .ref h13, .int h0f24, .int h0f25, .ref h14, .ref h15, .ref h16, .ref h17, .int h0f30, .int h0f31, .ref h18, .ref h19, .ref h20, .ref h21]), (h3, aJ (k 1) 9 anJ)]) (as := []) (zcS (As := [.long v60, .long (-99), .long 99]) (rest := []) (Tc := []) hx hb hml hown hU hK hT [] rfl (by decide) (cX11_in_ca3b9 l D k _ v60 ((-99)) (99) (by have := ll_m99; omega) (by have := ll_99; omega)) w901 w899 w900 w72 hdX11_in ⟨rfl, rfl⟩ ⟨Nat.le_of_ble_eq_true rfl, Nat.le_of_ble_eq_true rfl⟩ rfl hl.1 (Nat.le_of_ble_eq_true rfl) dX11_take_79 ⟨Nat.le_of_ble_eq_true rfl, Nat.le_of_ble_eq_true rfl⟩) hT hS hA [] [0, 1, 2, 3, 4, 5] rfl rfl rfl (by decide) (by decide) (fun r70 H locs hB J hS => ?_)
              rcases hB with ⟨rfl, hT1⟩ | ⟨c_73, c_74, rfl, hT1⟩
              · skip
                have hT := J _ hT1
                have hT : TP D A [(h1, aI (k 0) 36 anI), (h20, aJ (k 1) 160 anJ), (h18, aI (k 0) 4 (vec4 h18f0 h18f1 h18f2 h18f3)), (h19, aI (k 0) 4 (vec4 h19f0 h19f1 h19f2 h19f3)), (h0, ob 8 [.int h0f0, .int h0f1, .int h0f2, .int h0f3, .int h0f4, .int h0f5, .ref h1, .ref h2, .int h0f8, .int h0f9, .ref h3, .ref h4, .ref h5, .ref h6, .ref h7, .ref h8, .ref h9, .int h0f17, .int h0f18, .int h0f19, .ref h10, .ref h11, .ref h12, .ref h13, .int h0f24, .int h0f25, .ref h14, .ref h15, .ref h16, .ref h17, .int h0f30, .int h0f31, .ref h18, .ref h19, .ref h20, .ref h21]), (h3, aJ (k 1) 9 anJ)] _ := hT
                refine lv_if_eq (tgt := 89) hx hb dX11_take_82 (by decide) (fun _ => ?_) (fun cc => absurd (by decide +kernel) cc)
                refine lv_iconst (v := 0) hx hb dX11_take_89 (by decide) ?_
                refine lv_istore (lv' := [(4, .int 0), (6, .long v60), (0, .ref h0), (1, .int x1), (2, .int x2), (5, .int y39)]) hx hb dX11_take_90 hl (by decide) rfl (fun ls hl => ?_)
                refine lv_aload_n hx hb dX11_take_92 rfl (lv_at hl 2 rfl) ?_
                refine tz_get (ci := 8) (v := .ref h3) (C := RX11) (F := TX11) (N := 36) hx hb hU iX11 hown hK hT 4 rfl rfl 10 (by decide) w795 (fun _ h9 => h9) rfl dX11_take_93 ?_
                refine lv_iconst (v := 3) hx hb dX11_take_96 (by decide) ?_
                refine lv_iload hx hb dX11_take_97 (lv_at hl 5 rfl) ?_
                refine lv_aload_n hx hb dX11_take_99 rfl (lv_at hl 2 rfl) ?_
                refine tz_get (ci := 8) (v := .int h0f0) (C := RX11) (F := TX11) (N := 36) hx hb hU iX11 hown hK hT 4 rfl rfl 0 (by decide) w785 (fun _ h9 => h9) rfl dX11_take_100 ?_
                refine lv_idiv hx hb dX11_take_103 (nz32 (y := 1) hq42 (by omega)) (lv_topi (fun v75 e_v75 => ?_))
                have e_v75 := ai_div e_v75 hq58 hq42 (by omega)
                have hq76 : v75.toInt = 0 := by omega
                refine lv_imul hx hb dX11_take_104 (lv_topi (fun v77 e_v77 => ?_))
                have e_v77 := ai_mul e_v77 li_3 hq76 (by omega)
                refine lv_iload hx hb dX11_take_105 (lv_at hl 5 rfl) ?_
                refine lv_aload_n hx hb dX11_take_107 rfl (lv_at hl 2 rfl) ?_
                refine tz_get (ci := 8) (v := .int h0f0) (C := RX11) (F := TX11) (N := 36) hx hb hU iX11 hown hK hT 4 rfl rfl 0 (by decide) w785 (fun _ h9 => h9) rfl dX11_take_108 ?_
                refine lv_irem hx hb dX11_take_111 (nz32 (y := 1) hq42 (by omega)) (lv_topi (fun v78 e_v78 => ?_))
                have e_v78 := ai_rem e_v78 hq58 hq42 (by omega)
                have hq79 : v77.toInt = 0 := by omega
                have hq80 : v78.toInt = 0 := by omega
                refine lv_iadd hx hb dX11_take_112 (lv_topi (fun v81 e_v81 => ?_))
                have e_v81 := ai_add e_v81 hq79 hq80 (by omega)
                refine lv_iload hx hb dX11_take_113 (lv_at hl 0 rfl) ?_
                refine lv_if_eq (tgt := 123) hx hb dX11_take_115 (by decide) (fun _ => ?_) (fun cc => absurd (by decide +kernel) cc)
                refine lv_lconst (v := 0) hx hb dX11_take_123 (by decide) ?_
                refine tz_last hx hb hK hT hS 5 rfl (by omega) (fun _ _ => trivial) dX11_take_124 (fun H locs hT hS => ?_)
                obtain ⟨v82, e_v82⟩ : ∃ x : Int32, x = y39 + Int32.ofInt 1 := ⟨_, rfl⟩
                have f_v82 := e_v82.symm
                have e_v82 : v82.toInt = 0 + 1 := ai_add e_v82 hq58 (show (Int32.ofInt 1).toInt = 1 from (by decide +kernel)) (by omega)
                refine lv_iinc (v := v82) (lv' := [(5, .int v82), (4, .int 0), (6, .long v60), (0, .ref h0), (1, .int x1), (2, .int x2)]) hx hb dX11_take_125 hl (k := 5) rfl f_v82 (by decide) rfl (fun ls hl => ?_)
                refine lv_goto (tgt := 36) hx hb dX11_take_128 (by decide) ?_
                exact ih36_41 v82 (0) _ _ _ (by have := li_0; omega) (by have := li_0; omega)  (by have := li_0; omega) hT hS (lv_sub hl [3, 4, 5, 1, 0] rfl)
              · skip
                have hT := J _ hT1
                have hT : TP D A [(h1, aI (k 0) 36 anI), (h20, aJ (k 1) 160 anJ), (h18, aI (k 0) 4 (vec4 h18f0 h18f1 h18f2 h18f3)), (h19, aI (k 0) 4 (vec4 h19f0 h19f1 h19f2 h19f3)), (h0, ob 8 [.int h0f0, .int h0f1, .int h0f2, .int h0f3, .int h0f4, .int h0f5, .ref h1, .ref h2, .int h0f8, .int h0f9, .ref h3, .ref h4, .ref h5, .ref h6, .ref h7, .ref h8, .ref h9, .int h0f17, .int h0f18, .int h0f19, .ref h10, .ref h11, .ref h12, .ref h13, .int h0f24, .int h0f25, .ref h14, .ref h15, .ref h16, .ref h17, .int h0f30, .int h0f31, .ref h18, .ref h19, .ref h20, .ref h21]), (h3, aJ (k 1) 9 anJ)] _ := hT
                refine lv_if_eq (tgt := 89) hx hb dX11_take_82 (by decide) (fun cc => absurd cc (by decide +kernel)) (fun _ => ?_)
                refine lv_iconst (v := 1) hx hb dX11_take_85 (by decide) ?_
                refine lv_goto (tgt := 90) hx hb dX11_take_86 (by decide) ?_
                refine lv_istore (lv' := [(4, .int 1), (6, .long v60), (0, .ref h0), (1, .int x1), (2, .int x2), (5, .int y39)]) hx hb dX11_take_90 hl (by decide) rfl (fun ls hl => ?_)
                refine lv_aload_n hx hb dX11_take_92 rfl (lv_at hl 2 rfl) ?_
                refine tz_get (ci := 8) (v := .ref h3) (C := RX11) (F := TX11) (N := 36) hx hb hU iX11 hown hK hT 4 rfl rfl 10 (by decide) w795 (fun _ h9 => h9) rfl dX11_take_93 ?_
                refine lv_iconst (v := 3) hx hb dX11_take_96 (by decide) ?_
                refine lv_iload hx hb dX11_take_97 (lv_at hl 5 rfl) ?_
                refine lv_aload_n hx hb dX11_take_99 rfl (lv_at hl 2 rfl) ?_
                refine tz_get (ci := 8) (v := .int h0f0) (C := RX11) (F := TX11) (N := 36) hx hb hU iX11 hown hK hT 4 rfl rfl 0 (by decide) w785 (fun _ h9 => h9) rfl dX11_take_100 ?_
                refine lv_idiv hx hb dX11_take_103 (nz32 (y := 1) hq42 (by omega)) (lv_topi (fun v83 e_v83 => ?_))
                have e_v83 := ai_div e_v83 hq58 hq42 (by omega)
                have hq84 : v83.toInt = 0 := by omega
                refine lv_imul hx hb dX11_take_104 (lv_topi (fun v85 e_v85 => ?_))
                have e_v85 := ai_mul e_v85 li_3 hq84 (by omega)
                refine lv_iload hx hb dX11_take_105 (lv_at hl 5 rfl) ?_
                refine lv_aload_n hx hb dX11_take_107 rfl (lv_at hl 2 rfl) ?_
                refine tz_get (ci := 8) (v := .int h0f0) (C := RX11) (F := TX11) (N := 36) hx hb hU iX11 hown hK hT 4 rfl rfl 0 (by decide) w785 (fun _ h9 => h9) rfl dX11_take_108 ?_
                refine lv_irem hx hb dX11_take_111 (nz32 (y := 1) hq42 (by omega)) (lv_topi (fun v86 e_v86 => ?_))
                have e_v86 := ai_rem e_v86 hq58 hq42 (by omega)
                have hq87 : v85.toInt = 0 := by omega
                have hq88 : v86.toInt = 0 := by omega
                refine lv_iadd hx hb dX11_take_112 (lv_topi (fun v89 e_v89 => ?_))
                have e_v89 := ai_add e_v89 hq87 hq88 (by omega)
                refine lv_iload hx hb dX11_take_113 (lv_at hl 0 rfl) ?_
                refine lv_if_eq (tgt := 123) hx hb dX11_take_115 (by decide) (fun cc => absurd cc (by decide +kernel)) (fun _ => ?_)
                refine lv_lload hx hb dX11_take_118 (lv_at hl 1 rfl) ?_
                refine lv_goto (tgt := 124) hx hb dX11_take_120 (by decide) ?_
                refine tz_last hx hb hK hT hS 5 rfl (by omega) (fun _ _ => trivial) dX11_take_124 (fun H locs hT hS => ?_)
                obtain ⟨v90, e_v90⟩ : ∃ x : Int32, x = y39 + Int32.ofInt 1 := ⟨_, rfl⟩
                have f_v90 := e_v90.symm
                have e_v90 : v90.toInt = 0 + 1 := ai_add e_v90 hq58 (show (Int32.ofInt 1).toInt = 1 from (by decide +kernel)) (by omega)
                refine lv_iinc (v := v90) (lv' := [(5, .int v90), (4, .int 1), (6, .long v60), (0, .ref h0), (1, .int x1), (2, .int x2)]) hx hb dX11_take_125 hl (k := 5) rfl f_v90 (by decide) rfl (fun ls hl => ?_)
                refine lv_goto (tgt := 36) hx hb dX11_take_128 (by decide) ?_
                exact ih36_41 v90 (1) _ _ _ (by have := li_1; omega) (by have := li_1; omega)  (by have := li_1; omega) hT hS (lv_sub hl [3, 4, 5, 1, 0] rfl)
      exact lp36_41 ((h0f0.toInt + (-1) * (0 : Int32).toInt + 1).toNat + 1) (0) (1) _ _ _ (by have := li_0; have := li_1; omega) (by have := li_0; have := li_1; omega)  (Nat.lt_succ_self _) hT hS (lv_sub hl [3, 4, 5, 1, 0] rfl)
    · skip
      have hT := J _ hT1
      have hT : TP D A [(h1, aI (k 0) 36 anI), (h3, aJ (k 1) 9 anJ), (h20, aJ (k 1) 160 anJ), (h0, ob 8 [.int h0f0, .int h0f1, .int h0f2, .int h0f3, .int h0f4, .int h0f5, .ref h1, .ref h2, .int h0f8, .int h0f9, .ref h3, .ref h4, .ref h5, .ref h6, .ref h7, .ref h8, .ref h9, .int h0f17, .int h0f18, .int h0f19, .ref h10, .ref h11, .ref h12, .ref h13, .int h0f24, .int h0f25, .ref h14, .ref h15, .ref h16, .ref h17, .int h0f30, .int h0f31, .ref h18, .ref h19, .ref h20, .ref h21]), (h18, aI (k 0) 4 (vec4 h18f0 h18f1 h18f2 h18f3)), (h19, aI (k 0) 4 (vec4 h19f0 h19f1 h19f2 h19f3))] _ := hT
      refine lv_istore_n (lv' := [(3, .int (-13)), (0, .ref h0), (1, .int x1), (2, .int x2)]) hx hb dX11_take_15 rfl hl (by decide) rfl (fun ls hl => ?_)
      refine lv_iload_n hx hb dX11_take_16 rfl (lv_at hl 0 rfl) ?_
      refine lv_if_eq (tgt := 22) hx hb dX11_take_17 (by decide) (fun cc => absurd cc (by decide +kernel)) (fun _ => ?_)
      refine lv_iload_n hx hb dX11_take_20 rfl (lv_at hl 0 rfl) ?_
      exact tz_retI (B := B_cX11_take_344a2 D k h0 h1 h3 h18 h19 h20 h2 h4 h5 h6 h7 h8 h9 h10 h11 h12 h13 h14 h15 h16 h17 h21 x1 x2 h0f0 h0f1 h0f2 h0f3 h0f4 h0f5 h0f8 h0f9 h0f17 h0f18 h0f19 h0f24 h0f25 h0f30 h0f31 h18f0 h18f1 h18f2 h18f3 h19f0 h19f1 h19f2 h19f3) (v := (-13)) hQ hx hb hr hlocks hS (Nat.le_of_ble_eq_true rfl) (Nat.le_of_ble_eq_true rfl) dX11_take_21 (⟨h0f1, h0f9, h0f30, (by have := li_m13; omega), (by have := li_m13; omega), (by have := li_m13; omega), (by have := li_m13; omega), (by have := li_m13; omega), (by have := li_m13; omega), (hT.sub [3, 0, 1, 4, 5, 2] (by decide) rfl)⟩)
    · skip
      have hT := J _ hT1
      have hT : TP D A [(h1, aI (k 0) 36 anI), (h3, aJ (k 1) 9 anJ), (h20, aJ (k 1) 160 anJ), (h0, ob 8 [.int h0f0, .int h0f1, .int h0f2, .int h0f3, .int h0f4, .int h0f5, .ref h1, .ref h2, .int h0f8, .int h0f9, .ref h3, .ref h4, .ref h5, .ref h6, .ref h7, .ref h8, .ref h9, .int h0f17, .int h0f18, .int h0f19, .ref h10, .ref h11, .ref h12, .ref h13, .int h0f24, .int h0f25, .ref h14, .ref h15, .ref h16, .ref h17, .int h0f30, .int h0f31, .ref h18, .ref h19, .ref h20, .ref h21]), (h18, aI (k 0) 4 (vec4 h18f0 h18f1 h18f2 h18f3)), (h19, aI (k 0) 4 (vec4 h19f0 h19f1 h19f2 h19f3))] _ := hT
      refine lv_istore_n (lv' := [(3, .int (-11)), (0, .ref h0), (1, .int x1), (2, .int x2)]) hx hb dX11_take_15 rfl hl (by decide) rfl (fun ls hl => ?_)
      refine lv_iload_n hx hb dX11_take_16 rfl (lv_at hl 0 rfl) ?_
      refine lv_if_eq (tgt := 22) hx hb dX11_take_17 (by decide) (fun cc => absurd cc (by decide +kernel)) (fun _ => ?_)
      refine lv_iload_n hx hb dX11_take_20 rfl (lv_at hl 0 rfl) ?_
      exact tz_retI (B := B_cX11_take_344a2 D k h0 h1 h3 h18 h19 h20 h2 h4 h5 h6 h7 h8 h9 h10 h11 h12 h13 h14 h15 h16 h17 h21 x1 x2 h0f0 h0f1 h0f2 h0f3 h0f4 h0f5 h0f8 h0f9 h0f17 h0f18 h0f19 h0f24 h0f25 h0f30 h0f31 h18f0 h18f1 h18f2 h18f3 h19f0 h19f1 h19f2 h19f3) (v := (-11)) hQ hx hb hr hlocks hS (Nat.le_of_ble_eq_true rfl) (Nat.le_of_ble_eq_true rfl) dX11_take_21 (⟨h0f1, h0f9, h0f30, (by have := li_m11; omega), (by have := li_m11; omega), (by have := li_m11; omega), (by have := li_m11; omega), (by have := li_m11; omega), (by have := li_m11; omega), (hT.sub [3, 0, 1, 4, 5, 2] (by decide) rfl)⟩)
    · skip
      have hT := J _ hT1
      have hT : TP D A [(h1, aI (k 0) 36 anI), (h3, aJ (k 1) 9 anJ), (h20, aJ (k 1) 160 anJ), (h0, ob 8 [.int h0f0, .int h0f1, .int h0f2, .int h0f3, .int h0f4, .int h0f5, .ref h1, .ref h2, .int h0f8, .int h0f9, .ref h3, .ref h4, .ref h5, .ref h6, .ref h7, .ref h8, .ref h9, .int h0f17, .int h0f18, .int h0f19, .ref h10, .ref h11, .ref h12, .ref h13, .int h0f24, .int h0f25, .ref h14, .ref h15, .ref h16, .ref h17, .int h0f30, .int h0f31, .ref h18, .ref h19, .ref h20, .ref h21]), (h18, aI (k 0) 4 (vec4 h18f0 h18f1 h18f2 h18f3)), (h19, aI (k 0) 4 (vec4 h19f0 h19f1 h19f2 h19f3))] _ := hT
      refine lv_istore_n (lv' := [(3, .int 0), (0, .ref h0), (1, .int x1), (2, .int x2)]) hx hb dX11_take_15 rfl hl (by decide) rfl (fun ls hl => ?_)
      refine lv_iload_n hx hb dX11_take_16 rfl (lv_at hl 0 rfl) ?_
      refine lv_if_eq (tgt := 22) hx hb dX11_take_17 (by decide) (fun _ => ?_) (fun cc => absurd (by decide +kernel) cc)
      refine lv_aload_n hx hb dX11_take_22 rfl (lv_at hl 1 rfl) ?_
      refine lv_aload_n hx hb dX11_take_23 rfl (lv_at hl 1 rfl) ?_
      refine tz_get (ci := 8) (v := .ref h3) (C := RX11) (F := TX11) (N := 36) hx hb hU iX11 hown hK hT 3 rfl rfl 10 (by decide) w795 (fun _ h9 => h9) rfl dX11_take_24 ?_
      refine tcV (Tc := [(h0, ob 8 [.int h0f0, .int h0f1, .int h0f2, .int h0f3, .int h0f4, .int h0f5, .ref h1, .ref h2, .int h0f8, .int h0f9, .ref h3, .ref h4, .ref h5, .ref h6, .ref h7, .ref h8, .ref h9, .int h0f17, .int h0f18, .int h0f19, .ref h10, .ref h11, .ref h12, .ref h13, .int h0f24, .int h0f25, .ref h14, .ref h15, .ref h16, .ref h17, .int h0f30, .int h0f31, .ref h18, .ref h19, .ref h20, .ref h21]), (h3, aJ (k 1) 9 anJ)]) (Tr := [(h1, aI (k 0) 36 anI), (h20, aJ (k 1) 160 anJ), (h18, aI (k 0) 4 (vec4 h18f0 h18f1 h18f2 h18f3)), (h19, aI (k 0) 4 (vec4 h19f0 h19f1 h19f2 h19f3))]) (as := [h0, h3]) (zcV (q0 := 3) (ci := 8) (As := [.ref h3]) (rest := []) (Tc := [(h0, ob 8 [.int h0f0, .int h0f1, .int h0f2, .int h0f3, .int h0f4, .int h0f5, .ref h1, .ref h2, .int h0f8, .int h0f9, .ref h3, .ref h4, .ref h5, .ref h6, .ref h7, .ref h8, .ref h9, .int h0f17, .int h0f18, .int h0f19, .ref h10, .ref h11, .ref h12, .ref h13, .int h0f24, .int h0f25, .ref h14, .ref h15, .ref h16, .ref h17, .int h0f30, .int h0f31, .ref h18, .ref h19, .ref h20, .ref h21]), (h3, aJ (k 1) 9 anJ)]) hx hb hml hown hU hK hT rfl rfl [3, 1] rfl (by decide) (cX11_clears_d395b l D k _ h0 h3 h1 h2 h4 h5 h6 h7 h8 h9 h10 h11 h12 h13 h14 h15 h16 h17 h18 h19 h20 h21 h0f0 h0f1 h0f2 h0f3 h0f4 h0f5 h0f8 h0f9 h0f17 h0f18 h0f19 h0f24 h0f25 h0f30 h0f31 (by omega) (by omega) (by omega) (by omega) (by omega) (by omega) (by omega) (by omega) (by omega) (by omega) (by omega) (by omega) (by omega) (by omega) (by omega)) w923 w920 w922 w29 w72 hdX11_clears ⟨rfl, rfl⟩ ⟨Nat.le_of_ble_eq_true rfl, Nat.le_of_ble_eq_true rfl⟩ rfl hl.1 (Nat.le_of_ble_eq_true rfl) dX11_take_27 ⟨Nat.le_of_ble_eq_true rfl, Nat.le_of_ble_eq_true rfl⟩) hT hS hA [3, 1] [0, 2, 4, 5] rfl rfl rfl (by decide) (by decide) (fun H locs hB J hS => ?_)
      have hT1 := hB
      have hT := J _ hT1
      have hT : TP D A [(h1, aI (k 0) 36 anI), (h20, aJ (k 1) 160 anJ), (h18, aI (k 0) 4 (vec4 h18f0 h18f1 h18f2 h18f3)), (h19, aI (k 0) 4 (vec4 h19f0 h19f1 h19f2 h19f3)), (h0, ob 8 [.int h0f0, .int h0f1, .int h0f2, .int h0f3, .int h0f4, .int h0f5, .ref h1, .ref h2, .int h0f8, .int h0f9, .ref h3, .ref h4, .ref h5, .ref h6, .ref h7, .ref h8, .ref h9, .int h0f17, .int h0f18, .int h0f19, .ref h10, .ref h11, .ref h12, .ref h13, .int h0f24, .int h0f25, .ref h14, .ref h15, .ref h16, .ref h17, .int h0f30, .int h0f31, .ref h18, .ref h19, .ref h20, .ref h21]), (h3, aJ (k 1) 9 anJ)] _ := hT
      refine lv_iconst (v := 1) hx hb dX11_take_30 (by decide) ?_
      refine lv_istore (lv' := [(4, .int 1), (3, .int 0), (0, .ref h0), (1, .int x1), (2, .int x2)]) hx hb dX11_take_31 hl (by decide) rfl (fun ls hl => ?_)
      refine lv_iconst (v := 0) hx hb dX11_take_33 (by decide) ?_
      refine lv_istore (lv' := [(5, .int 0), (4, .int 1), (3, .int 0), (0, .ref h0), (1, .int x1), (2, .int x2)]) hx hb dX11_take_34 hl (by decide) rfl (fun ls hl => ?_)
      have lp36_100 : ∀ (n : Nat) (y98 : Int32) (y99 : Int32) (H : Heap) (locs : List Loc) (ls : Array Slot), (0 ≤ y98.toInt ∧ y98.toInt ≤ 4) → (0 ≤ y99.toInt ∧ y99.toInt ≤ 1) → (2 * h0f0.toInt + (-1) * y98.toInt + 1).toNat < n → TP D A [(h1, aI (k 0) 36 anI), (h20, aJ (k 1) 160 anJ), (h18, aI (k 0) 4 (vec4 h18f0 h18f1 h18f2 h18f3)), (h19, aI (k 0) 4 (vec4 h19f0 h19f1 h19f2 h19f3)), (h0, ob 8 [.int h0f0, .int h0f1, .int h0f2, .int h0f3, .int h0f4, .int h0f5, .ref h1, .ref h2, .int h0f8, .int h0f9, .ref h3, .ref h4, .ref h5, .ref h6, .ref h7, .ref h8, .ref h9, .int h0f17, .int h0f18, .int h0f19, .ref h10, .ref h11, .ref h12, .ref h13, .int h0f24, .int h0f25, .ref h14, .ref h15, .ref h16, .ref h17, .int h0f30, .int h0f31, .ref h18, .ref h19, .ref h20, .ref h21]), (h3, aJ (k 1) 9 anJ)] H → va_S A s.heap H locs → lv_has ls 8 [(0, .ref h0), (1, .int x1), (2, .int x2), (4, .int y99), (5, .int y98)] → W p l e Rm_cX11_take_344a2 s m args below meth c H locs 0 0 Q (F0 m 36 ls []) := by
        intro n
        induction n with
        | zero => intro y98 y99 H locs ls b_y98 b_y99 hm hT hS hl; exact absurd hm (Nat.not_lt_zero _)
        | succ n ih =>
          intro y98 y99 H locs ls b_y98 b_y99 hm hT hS hl
          have ih36_100 := ih
          clear ih
          refine lv_iload hx hb dX11_take_36 (lv_at hl 4 rfl) ?_
          refine lv_aload_n hx hb dX11_take_38 rfl (lv_at hl 0 rfl) ?_
          refine tz_get (ci := 8) (v := .int h0f0) (C := RX11) (F := TX11) (N := 36) hx hb hU iX11 hown hK hT 4 rfl rfl 0 (by decide) w785 (fun _ h9 => h9) rfl dX11_take_39 ?_
          refine lv_aload_n hx hb dX11_take_42 rfl (lv_at hl 0 rfl) ?_
          refine tz_get (ci := 8) (v := .int h0f0) (C := RX11) (F := TX11) (N := 36) hx hb hU iX11 hown hK hT 4 rfl rfl 0 (by decide) w785 (fun _ h9 => h9) rfl dX11_take_43 ?_
          have hq101 : h0f0.toInt = 2 := by omega
          refine lv_imul hx hb dX11_take_46 (lv_topi (fun v102 e_v102 => ?_))
          have e_v102 := ai_mul e_v102 hq101 hq101 (by omega)
          refine lv_icmp_ge (tgt := 131) hx hb dX11_take_47 (by decide) (fun c_103 => ?_) (fun c_103 => ?_)
          · skip
            have c_103 := ni_le c_103 rfl rfl
            refine lv_iload hx hb dX11_take_131 (lv_at hl 3 rfl) ?_
            refine lv_if_eq (tgt := 164) hx hb dX11_take_133 (by decide) (fun c_104 => ?_) (fun c_104 => ?_)
            · skip
              have c_104 := ni_eq c_104 rfl li_0
              refine lv_iconst (v := (-1)) hx hb dX11_take_164 (by decide) ?_
              exact tz_retI (B := B_cX11_take_344a2 D k h0 h1 h3 h18 h19 h20 h2 h4 h5 h6 h7 h8 h9 h10 h11 h12 h13 h14 h15 h16 h17 h21 x1 x2 h0f0 h0f1 h0f2 h0f3 h0f4 h0f5 h0f8 h0f9 h0f17 h0f18 h0f19 h0f24 h0f25 h0f30 h0f31 h18f0 h18f1 h18f2 h18f3 h19f0 h19f1 h19f2 h19f3) (v := (-1)) hQ hx hb hr hlocks hS (Nat.le_of_ble_eq_true rfl) (Nat.le_of_ble_eq_true rfl) dX11_take_165 (⟨h0f1, h0f9, h0f30, (by have := li_m1; omega), (by have := li_m1; omega), (by have := li_m1; omega), (by have := li_m1; omega), (by have := li_m1; omega), (by have := li_m1; omega), (hT.sub [4, 0, 5, 2, 3, 1] (by decide) rfl)⟩)
            · skip
              have c_104 := ni_ne c_104 rfl li_0
              refine lv_aload_n hx hb dX11_take_136 rfl (lv_at hl 0 rfl) ?_
              refine lv_aload_n hx hb dX11_take_137 rfl (lv_at hl 0 rfl) ?_
              refine tz_get (ci := 8) (v := .ref h3) (C := RX11) (F := TX11) (N := 36) hx hb hU iX11 hown hK hT 4 rfl rfl 10 (by decide) w795 (fun _ h9 => h9) rfl dX11_take_138 ?_
              refine tcL (Tc := [(h0, ob 8 [.int h0f0, .int h0f1, .int h0f2, .int h0f3, .int h0f4, .int h0f5, .ref h1, .ref h2, .int h0f8, .int h0f9, .ref h3, .ref h4, .ref h5, .ref h6, .ref h7, .ref h8, .ref h9, .int h0f17, .int h0f18, .int h0f19, .ref h10, .ref h11, .ref h12, .ref h13, .int h0f24, .int h0f25, .ref h14, .ref h15, .ref h16, .ref h17, .int h0f30, .int h0f31, .ref h18, .ref h19, .ref h20, .ref h21]), (h3, aJ (k 1) 9 anJ)]) (Tr := [(h1, aI (k 0) 36 anI), (h20, aJ (k 1) 160 anJ), (h18, aI (k 0) 4 (vec4 h18f0 h18f1 h18f2 h18f3)), (h19, aI (k 0) 4 (vec4 h19f0 h19f1 h19f2 h19f3))]) (as := [h0, h3]) (zcV (q0 := 4) (ci := 8) (As := [.ref h3]) (rest := []) (Tc := [(h0, ob 8 [.int h0f0, .int h0f1, .int h0f2, .int h0f3, .int h0f4, .int h0f5, .ref h1, .ref h2, .int h0f8, .int h0f9, .ref h3, .ref h4, .ref h5, .ref h6, .ref h7, .ref h8, .ref h9, .int h0f17, .int h0f18, .int h0f19, .ref h10, .ref h11, .ref h12, .ref h13, .int h0f24, .int h0f25, .ref h14, .ref h15, .ref h16, .ref h17, .int h0f30, .int h0f31, .ref h18, .ref h19, .ref h20, .ref h21]), (h3, aJ (k 1) 9 anJ)]) hx hb hml hown hU hK hT rfl rfl [4, 5] rfl (by decide) (cX11_det_62049 l D k _ h0 h3 h1 h2 h4 h5 h6 h7 h8 h9 h10 h11 h12 h13 h14 h15 h16 h17 h18 h19 h20 h21 h0f0 h0f1 h0f2 h0f3 h0f4 h0f5 h0f8 h0f9 h0f17 h0f18 h0f19 h0f24 h0f25 h0f30 h0f31 (by omega) (by omega) (by omega) (by omega) (by omega) (by omega) (by omega) (by omega) (by omega) (by omega) (by omega) (by omega) (by omega) (by omega) (by omega)) w952 w949 w951 w35 w72 hdX11_det ⟨rfl, rfl⟩ ⟨Nat.le_of_ble_eq_true rfl, Nat.le_of_ble_eq_true rfl⟩ rfl hl.1 (Nat.le_of_ble_eq_true rfl) dX11_take_141 ⟨Nat.le_of_ble_eq_true rfl, Nat.le_of_ble_eq_true rfl⟩) hT hS hA [4, 5] [0, 1, 2, 3] rfl rfl rfl (by decide) (by decide) (fun r105 H locs hB J hS => ?_)
              have hT1 := hB
              have hT := J _ hT1
              have hT : TP D A [(h1, aI (k 0) 36 anI), (h20, aJ (k 1) 160 anJ), (h18, aI (k 0) 4 (vec4 h18f0 h18f1 h18f2 h18f3)), (h19, aI (k 0) 4 (vec4 h19f0 h19f1 h19f2 h19f3)), (h0, ob 8 [.int h0f0, .int h0f1, .int h0f2, .int h0f3, .int h0f4, .int h0f5, .ref h1, .ref h2, .int h0f8, .int h0f9, .ref h3, .ref h4, .ref h5, .ref h6, .ref h7, .ref h8, .ref h9, .int h0f17, .int h0f18, .int h0f19, .ref h10, .ref h11, .ref h12, .ref h13, .int h0f24, .int h0f25, .ref h14, .ref h15, .ref h16, .ref h17, .int h0f30, .int h0f31, .ref h18, .ref h19, .ref h20, .ref h21]), (h3, aJ (k 1) 9 anJ)] _ := hT
              refine lv_lconst (v := 1) hx hb dX11_take_144 (by decide) ?_
              refine W.lcmp hx hb dX11_take_145 ?_
              refine lv_if_eq (tgt := 166) hx hb dX11_take_146 (by decide) (fun c_106 => ?_) (fun c_106 => ?_)
              · skip
                have c_106 := nl_eq c_106 rfl ll_1
                refine lv_aload_n hx hb dX11_take_166 rfl (lv_at hl 0 rfl) ?_
                refine tz_get (ci := 8) (v := .int h0f1) (C := RX11) (F := TX11) (N := 36) hx hb hU iX11 hown hK hT 4 rfl rfl 1 (by decide) w786 (fun _ h9 => h9) rfl dX11_take_167 ?_
                refine lv_iconst (v := 4) hx hb dX11_take_170 (by decide) ?_
                refine lv_icmp_ne (tgt := 179) hx hb dX11_take_171 (by decide) (fun c_107 => ?_) (fun c_107 => ?_)
                · skip
                  have c_107 := ni_ne c_107 rfl li_4
                  refine lv_aload_n hx hb dX11_take_179 rfl (lv_at hl 0 rfl) ?_
                  refine tcI (Tc := [(h0, ob 8 [.int h0f0, .int h0f1, .int h0f2, .int h0f3, .int h0f4, .int h0f5, .ref h1, .ref h2, .int h0f8, .int h0f9, .ref h3, .ref h4, .ref h5, .ref h6, .ref h7, .ref h8, .ref h9, .int h0f17, .int h0f18, .int h0f19, .ref h10, .ref h11, .ref h12, .ref h13, .int h0f24, .int h0f25, .ref h14, .ref h15, .ref h16, .ref h17, .int h0f30, .int h0f31, .ref h18, .ref h19, .ref h20, .ref h21]), (h1, aI (k 0) 36 anI), (h3, aJ (k 1) 9 anJ)]) (Tr := [(h20, aJ (k 1) 160 anJ), (h18, aI (k 0) 4 (vec4 h18f0 h18f1 h18f2 h18f3)), (h19, aI (k 0) 4 (vec4 h19f0 h19f1 h19f2 h19f3))]) (as := [h0, h1, h3]) (zcV (q0 := 4) (ci := 8) (As := []) (rest := []) (Tc := [(h0, ob 8 [.int h0f0, .int h0f1, .int h0f2, .int h0f3, .int h0f4, .int h0f5, .ref h1, .ref h2, .int h0f8, .int h0f9, .ref h3, .ref h4, .ref h5, .ref h6, .ref h7, .ref h8, .ref h9, .int h0f17, .int h0f18, .int h0f19, .ref h10, .ref h11, .ref h12, .ref h13, .int h0f24, .int h0f25, .ref h14, .ref h15, .ref h16, .ref h17, .int h0f30, .int h0f31, .ref h18, .ref h19, .ref h20, .ref h21]), (h1, aI (k 0) 36 anI), (h3, aJ (k 1) 9 anJ)]) hx hb hml hown hU hK hT rfl rfl [4, 0, 5] rfl (by decide) (cX11_comes_53948 l D k _ h0 h1 h3 h2 h4 h5 h6 h7 h8 h9 h10 h11 h12 h13 h14 h15 h16 h17 h18 h19 h20 h21 h0f0 h0f1 h0f2 h0f3 h0f4 h0f5 h0f8 h0f9 h0f17 h0f18 h0f19 h0f24 h0f25 h0f30 h0f31 (by omega) (by omega) (by omega) (by omega) (by omega) (by omega) (by omega) (by omega) (by omega) (by omega) (by omega) (by omega) (by omega) (by omega) (by omega)) w927 w924 w926 w30 w72 hdX11_comes ⟨rfl, rfl⟩ ⟨Nat.le_of_ble_eq_true rfl, Nat.le_of_ble_eq_true rfl⟩ rfl hl.1 (Nat.le_of_ble_eq_true rfl) dX11_take_180 ⟨Nat.le_of_ble_eq_true rfl, Nat.le_of_ble_eq_true rfl⟩) hT hS hA [4, 0, 5] [1, 2, 3] rfl rfl rfl (by decide) (by decide) (fun r108 H locs hB J hS => ?_)
                  obtain ⟨v109, b_v109, b_r108, hT1⟩ := hB
                  have hT := J _ hT1
                  have hT : TP D A [(h20, aJ (k 1) 160 anJ), (h18, aI (k 0) 4 (vec4 h18f0 h18f1 h18f2 h18f3)), (h19, aI (k 0) 4 (vec4 h19f0 h19f1 h19f2 h19f3)), (h0, ob 8 [.int h0f0, .int v109, .int h0f2, .int h0f3, .int h0f4, .int h0f5, .ref h1, .ref h2, .int h0f8, .int 0, .ref h3, .ref h4, .ref h5, .ref h6, .ref h7, .ref h8, .ref h9, .int h0f17, .int h0f18, .int h0f19, .ref h10, .ref h11, .ref h12, .ref h13, .int h0f24, .int h0f25, .ref h14, .ref h15, .ref h16, .ref h17, .int 0, .int h0f31, .ref h18, .ref h19, .ref h20, .ref h21]), (h1, aI (k 0) 36 anI), (h3, aJ (k 1) 9 anJ)] _ := hT
                  exact tz_retI (B := B_cX11_take_344a2 D k h0 h1 h3 h18 h19 h20 h2 h4 h5 h6 h7 h8 h9 h10 h11 h12 h13 h14 h15 h16 h17 h21 x1 x2 h0f0 h0f1 h0f2 h0f3 h0f4 h0f5 h0f8 h0f9 h0f17 h0f18 h0f19 h0f24 h0f25 h0f30 h0f31 h18f0 h18f1 h18f2 h18f3 h19f0 h19f1 h19f2 h19f3) (v := r108) hQ hx hb hr hlocks hS (Nat.le_of_ble_eq_true rfl) (Nat.le_of_ble_eq_true rfl) dX11_take_183 (⟨v109, 0, 0, (by have := li_0; omega), (by have := li_0; omega), (by have := li_0; omega), (by have := li_0; omega), (by have := li_0; omega), (by have := li_0; omega), (hT.sub [3, 4, 5, 1, 2, 0] (by decide) rfl)⟩)
                · skip
                  have c_107 := ni_eq c_107 rfl li_4
                  refine lv_bipush (v := (-2)) hx hb dX11_take_174 (by decide) ?_
                  refine lv_goto (tgt := 183) hx hb dX11_take_176 (by decide) ?_
                  exact tz_retI (B := B_cX11_take_344a2 D k h0 h1 h3 h18 h19 h20 h2 h4 h5 h6 h7 h8 h9 h10 h11 h12 h13 h14 h15 h16 h17 h21 x1 x2 h0f0 h0f1 h0f2 h0f3 h0f4 h0f5 h0f8 h0f9 h0f17 h0f18 h0f19 h0f24 h0f25 h0f30 h0f31 h18f0 h18f1 h18f2 h18f3 h19f0 h19f1 h19f2 h19f3) (v := (-2)) hQ hx hb hr hlocks hS (Nat.le_of_ble_eq_true rfl) (Nat.le_of_ble_eq_true rfl) dX11_take_183 (⟨h0f1, h0f9, h0f30, (by have := li_m2; omega), (by have := li_m2; omega), (by have := li_m2; omega), (by have := li_m2; omega), (by have := li_m2; omega), (by have := li_m2; omega), (hT.sub [4, 0, 5, 2, 3, 1] (by decide) rfl)⟩)
              · skip
                have c_106 := nl_ne c_106 rfl ll_1
                refine lv_aload_n hx hb dX11_take_149 rfl (lv_at hl 0 rfl) ?_
                refine lv_aload_n hx hb dX11_take_150 rfl (lv_at hl 0 rfl) ?_
                refine tz_get (ci := 8) (v := .ref h3) (C := RX11) (F := TX11) (N := 36) hx hb hU iX11 hown hK hT 4 rfl rfl 10 (by decide) w795 (fun _ h9 => h9) rfl dX11_take_151 ?_
                refine tcL (Tc := [(h0, ob 8 [.int h0f0, .int h0f1, .int h0f2, .int h0f3, .int h0f4, .int h0f5, .ref h1, .ref h2, .int h0f8, .int h0f9, .ref h3, .ref h4, .ref h5, .ref h6, .ref h7, .ref h8, .ref h9, .int h0f17, .int h0f18, .int h0f19, .ref h10, .ref h11, .ref h12, .ref h13, .int h0f24, .int h0f25, .ref h14, .ref h15, .ref h16, .ref h17, .int h0f30, .int h0f31, .ref h18, .ref h19, .ref h20, .ref h21]), (h3, aJ (k 1) 9 anJ)]) (Tr := [(h1, aI (k 0) 36 anI), (h20, aJ (k 1) 160 anJ), (h18, aI (k 0) 4 (vec4 h18f0 h18f1 h18f2 h18f3)), (h19, aI (k 0) 4 (vec4 h19f0 h19f1 h19f2 h19f3))]) (as := [h0, h3]) (zcV (q0 := 4) (ci := 8) (As := [.ref h3]) (rest := []) (Tc := [(h0, ob 8 [.int h0f0, .int h0f1, .int h0f2, .int h0f3, .int h0f4, .int h0f5, .ref h1, .ref h2, .int h0f8, .int h0f9, .ref h3, .ref h4, .ref h5, .ref h6, .ref h7, .ref h8, .ref h9, .int h0f17, .int h0f18, .int h0f19, .ref h10, .ref h11, .ref h12, .ref h13, .int h0f24, .int h0f25, .ref h14, .ref h15, .ref h16, .ref h17, .int h0f30, .int h0f31, .ref h18, .ref h19, .ref h20, .ref h21]), (h3, aJ (k 1) 9 anJ)]) hx hb hml hown hU hK hT rfl rfl [4, 5] rfl (by decide) (cX11_det_62049 l D k _ h0 h3 h1 h2 h4 h5 h6 h7 h8 h9 h10 h11 h12 h13 h14 h15 h16 h17 h18 h19 h20 h21 h0f0 h0f1 h0f2 h0f3 h0f4 h0f5 h0f8 h0f9 h0f17 h0f18 h0f19 h0f24 h0f25 h0f30 h0f31 (by omega) (by omega) (by omega) (by omega) (by omega) (by omega) (by omega) (by omega) (by omega) (by omega) (by omega) (by omega) (by omega) (by omega) (by omega)) w952 w949 w951 w35 w72 hdX11_det ⟨rfl, rfl⟩ ⟨Nat.le_of_ble_eq_true rfl, Nat.le_of_ble_eq_true rfl⟩ rfl hl.1 (Nat.le_of_ble_eq_true rfl) dX11_take_154 ⟨Nat.le_of_ble_eq_true rfl, Nat.le_of_ble_eq_true rfl⟩) hT hS hA [4, 5] [0, 1, 2, 3] rfl rfl rfl (by decide) (by decide) (fun r110 H locs hB J hS => ?_)
                have hT1 := hB
                have hT := J _ hT1
                have hT : TP D A [(h1, aI (k 0) 36 anI), (h20, aJ (k 1) 160 anJ), (h18, aI (k 0) 4 (vec4 h18f0 h18f1 h18f2 h18f3)), (h19, aI (k 0) 4 (vec4 h19f0 h19f1 h19f2 h19f3)), (h0, ob 8 [.int h0f0, .int h0f1, .int h0f2, .int h0f3, .int h0f4, .int h0f5, .ref h1, .ref h2, .int h0f8, .int h0f9, .ref h3, .ref h4, .ref h5, .ref h6, .ref h7, .ref h8, .ref h9, .int h0f17, .int h0f18, .int h0f19, .ref h10, .ref h11, .ref h12, .ref h13, .int h0f24, .int h0f25, .ref h14, .ref h15, .ref h16, .ref h17, .int h0f30, .int h0f31, .ref h18, .ref h19, .ref h20, .ref h21]), (h3, aJ (k 1) 9 anJ)] _ := hT
                refine lv_ldc2 hx hb hown (hU _ w944) dX11_take_157 ?_
                refine W.lcmp hx hb dX11_take_160 ?_
                refine lv_if_eq (tgt := 166) hx hb dX11_take_161 (by decide) (fun c_111 => ?_) (fun c_111 => ?_)
                · skip
                  have c_111 := nl_eq c_111 rfl ll_m1
                  refine lv_aload_n hx hb dX11_take_166 rfl (lv_at hl 0 rfl) ?_
                  refine tz_get (ci := 8) (v := .int h0f1) (C := RX11) (F := TX11) (N := 36) hx hb hU iX11 hown hK hT 4 rfl rfl 1 (by decide) w786 (fun _ h9 => h9) rfl dX11_take_167 ?_
                  refine lv_iconst (v := 4) hx hb dX11_take_170 (by decide) ?_
                  refine lv_icmp_ne (tgt := 179) hx hb dX11_take_171 (by decide) (fun c_112 => ?_) (fun c_112 => ?_)
                  · skip
                    have c_112 := ni_ne c_112 rfl li_4
                    refine lv_aload_n hx hb dX11_take_179 rfl (lv_at hl 0 rfl) ?_
                    refine tcI (Tc := [(h0, ob 8 [.int h0f0, .int h0f1, .int h0f2, .int h0f3, .int h0f4, .int h0f5, .ref h1, .ref h2, .int h0f8, .int h0f9, .ref h3, .ref h4, .ref h5, .ref h6, .ref h7, .ref h8, .ref h9, .int h0f17, .int h0f18, .int h0f19, .ref h10, .ref h11, .ref h12, .ref h13, .int h0f24, .int h0f25, .ref h14, .ref h15, .ref h16, .ref h17, .int h0f30, .int h0f31, .ref h18, .ref h19, .ref h20, .ref h21]), (h1, aI (k 0) 36 anI), (h3, aJ (k 1) 9 anJ)]) (Tr := [(h20, aJ (k 1) 160 anJ), (h18, aI (k 0) 4 (vec4 h18f0 h18f1 h18f2 h18f3)), (h19, aI (k 0) 4 (vec4 h19f0 h19f1 h19f2 h19f3))]) (as := [h0, h1, h3]) (zcV (q0 := 4) (ci := 8) (As := []) (rest := []) (Tc := [(h0, ob 8 [.int h0f0, .int h0f1, .int h0f2, .int h0f3, .int h0f4, .int h0f5, .ref h1, .ref h2, .int h0f8, .int h0f9, .ref h3, .ref h4, .ref h5, .ref h6, .ref h7, .ref h8, .ref h9, .int h0f17, .int h0f18, .int h0f19, .ref h10, .ref h11, .ref h12, .ref h13, .int h0f24, .int h0f25, .ref h14, .ref h15, .ref h16, .ref h17, .int h0f30, .int h0f31, .ref h18, .ref h19, .ref h20, .ref h21]), (h1, aI (k 0) 36 anI), (h3, aJ (k 1) 9 anJ)]) hx hb hml hown hU hK hT rfl rfl [4, 0, 5] rfl (by decide) (cX11_comes_53948 l D k _ h0 h1 h3 h2 h4 h5 h6 h7 h8 h9 h10 h11 h12 h13 h14 h15 h16 h17 h18 h19 h20 h21 h0f0 h0f1 h0f2 h0f3 h0f4 h0f5 h0f8 h0f9 h0f17 h0f18 h0f19 h0f24 h0f25 h0f30 h0f31 (by omega) (by omega) (by omega) (by omega) (by omega) (by omega) (by omega) (by omega) (by omega) (by omega) (by omega) (by omega) (by omega) (by omega) (by omega)) w927 w924 w926 w30 w72 hdX11_comes ⟨rfl, rfl⟩ ⟨Nat.le_of_ble_eq_true rfl, Nat.le_of_ble_eq_true rfl⟩ rfl hl.1 (Nat.le_of_ble_eq_true rfl) dX11_take_180 ⟨Nat.le_of_ble_eq_true rfl, Nat.le_of_ble_eq_true rfl⟩) hT hS hA [4, 0, 5] [1, 2, 3] rfl rfl rfl (by decide) (by decide) (fun r113 H locs hB J hS => ?_)
                    obtain ⟨v114, b_v114, b_r113, hT1⟩ := hB
                    have hT := J _ hT1
                    have hT : TP D A [(h20, aJ (k 1) 160 anJ), (h18, aI (k 0) 4 (vec4 h18f0 h18f1 h18f2 h18f3)), (h19, aI (k 0) 4 (vec4 h19f0 h19f1 h19f2 h19f3)), (h0, ob 8 [.int h0f0, .int v114, .int h0f2, .int h0f3, .int h0f4, .int h0f5, .ref h1, .ref h2, .int h0f8, .int 0, .ref h3, .ref h4, .ref h5, .ref h6, .ref h7, .ref h8, .ref h9, .int h0f17, .int h0f18, .int h0f19, .ref h10, .ref h11, .ref h12, .ref h13, .int h0f24, .int h0f25, .ref h14, .ref h15, .ref h16, .ref h17, .int 0, .int h0f31, .ref h18, .ref h19, .ref h20, .ref h21]), (h1, aI (k 0) 36 anI), (h3, aJ (k 1) 9 anJ)] _ := hT
                    exact tz_retI (B := B_cX11_take_344a2 D k h0 h1 h3 h18 h19 h20 h2 h4 h5 h6 h7 h8 h9 h10 h11 h12 h13 h14 h15 h16 h17 h21 x1 x2 h0f0 h0f1 h0f2 h0f3 h0f4 h0f5 h0f8 h0f9 h0f17 h0f18 h0f19 h0f24 h0f25 h0f30 h0f31 h18f0 h18f1 h18f2 h18f3 h19f0 h19f1 h19f2 h19f3) (v := r113) hQ hx hb hr hlocks hS (Nat.le_of_ble_eq_true rfl) (Nat.le_of_ble_eq_true rfl) dX11_take_183 (⟨v114, 0, 0, (by have := li_0; omega), (by have := li_0; omega), (by have := li_0; omega), (by have := li_0; omega), (by have := li_0; omega), (by have := li_0; omega), (hT.sub [3, 4, 5, 1, 2, 0] (by decide) rfl)⟩)
                  · skip
                    have c_112 := ni_eq c_112 rfl li_4
                    refine lv_bipush (v := (-2)) hx hb dX11_take_174 (by decide) ?_
                    refine lv_goto (tgt := 183) hx hb dX11_take_176 (by decide) ?_
                    exact tz_retI (B := B_cX11_take_344a2 D k h0 h1 h3 h18 h19 h20 h2 h4 h5 h6 h7 h8 h9 h10 h11 h12 h13 h14 h15 h16 h17 h21 x1 x2 h0f0 h0f1 h0f2 h0f3 h0f4 h0f5 h0f8 h0f9 h0f17 h0f18 h0f19 h0f24 h0f25 h0f30 h0f31 h18f0 h18f1 h18f2 h18f3 h19f0 h19f1 h19f2 h19f3) (v := (-2)) hQ hx hb hr hlocks hS (Nat.le_of_ble_eq_true rfl) (Nat.le_of_ble_eq_true rfl) dX11_take_183 (⟨h0f1, h0f9, h0f30, (by have := li_m2; omega), (by have := li_m2; omega), (by have := li_m2; omega), (by have := li_m2; omega), (by have := li_m2; omega), (by have := li_m2; omega), (hT.sub [4, 0, 5, 2, 3, 1] (by decide) rfl)⟩)
                · skip
                  have c_111 := nl_ne c_111 rfl ll_m1
                  refine lv_iconst (v := (-1)) hx hb dX11_take_164 (by decide) ?_
                  exact tz_retI (B := B_cX11_take_344a2 D k h0 h1 h3 h18 h19 h20 h2 h4 h5 h6 h7 h8 h9 h10 h11 h12 h13 h14 h15 h16 h17 h21 x1 x2 h0f0 h0f1 h0f2 h0f3 h0f4 h0f5 h0f8 h0f9 h0f17 h0f18 h0f19 h0f24 h0f25 h0f30 h0f31 h18f0 h18f1 h18f2 h18f3 h19f0 h19f1 h19f2 h19f3) (v := (-1)) hQ hx hb hr hlocks hS (Nat.le_of_ble_eq_true rfl) (Nat.le_of_ble_eq_true rfl) dX11_take_165 (⟨h0f1, h0f9, h0f30, (by have := li_m1; omega), (by have := li_m1; omega), (by have := li_m1; omega), (by have := li_m1; omega), (by have := li_m1; omega), (by have := li_m1; omega), (hT.sub [4, 0, 5, 2, 3, 1] (by decide) rfl)⟩)
          · skip
            have c_103 := ni_nle c_103 rfl rfl
            refine lv_aload_n hx hb dX11_take_50 rfl (lv_at hl 0 rfl) ?_
            refine tz_get (ci := 8) (v := .ref h20) (C := RX11) (F := TX11) (N := 36) hx hb hU iX11 hown hK hT 4 rfl rfl 34 (by decide) w819 (fun _ h9 => h9) rfl dX11_take_51 ?_
            refine lv_bipush (v := 40) hx hb dX11_take_54 (by decide) ?_
            refine lv_iload_n hx hb dX11_take_56 rfl (lv_at hl 1 rfl) ?_
            refine lv_imul hx hb dX11_take_57 (lv_topi (fun v115 e_v115 => ?_))
            have e_v115 := ai_mul e_v115 li_40 rfl (by omega)
            refine lv_iload_n hx hb dX11_take_58 rfl (lv_at hl 2 rfl) ?_
            refine lv_iadd hx hb dX11_take_59 (lv_topi (fun v116 e_v116 => ?_))
            have e_v116 := ai_add e_v116 rfl rfl (by omega)
            refine lv_iload hx hb dX11_take_60 (lv_at hl 4 rfl) ?_
            refine lv_iadd hx hb dX11_take_62 (lv_topi (fun v117 e_v117 => ?_))
            have e_v117 := ai_add e_v117 rfl rfl (by omega)
            refine tz_lald hx hb hK hT 1 rfl (by omega) dX11_take_63 (fun v118 e_v118 => ?_)
            clear e_v118
            refine lv_lstore (lv' := [(6, .long v118), (0, .ref h0), (1, .int x1), (2, .int x2), (4, .int y99), (5, .int y98)]) hx hb dX11_take_64 hl (by decide) rfl (fun ls hl => ?_)
            refine lv_iload hx hb dX11_take_66 (lv_at hl 4 rfl) ?_
            refine lv_if_eq (tgt := 89) hx hb dX11_take_68 (by decide) (fun c_119 => ?_) (fun c_119 => ?_)
            · skip
              have c_119 := ni_eq c_119 rfl li_0
              refine lv_iconst (v := 0) hx hb dX11_take_89 (by decide) ?_
              refine lv_istore (lv' := [(4, .int 0), (6, .long v118), (0, .ref h0), (1, .int x1), (2, .int x2), (5, .int y98)]) hx hb dX11_take_90 hl (by decide) rfl (fun ls hl => ?_)
              refine lv_aload_n hx hb dX11_take_92 rfl (lv_at hl 2 rfl) ?_
              refine tz_get (ci := 8) (v := .ref h3) (C := RX11) (F := TX11) (N := 36) hx hb hU iX11 hown hK hT 4 rfl rfl 10 (by decide) w795 (fun _ h9 => h9) rfl dX11_take_93 ?_
              refine lv_iconst (v := 3) hx hb dX11_take_96 (by decide) ?_
              refine lv_iload hx hb dX11_take_97 (lv_at hl 5 rfl) ?_
              refine lv_aload_n hx hb dX11_take_99 rfl (lv_at hl 2 rfl) ?_
              refine tz_get (ci := 8) (v := .int h0f0) (C := RX11) (F := TX11) (N := 36) hx hb hU iX11 hown hK hT 4 rfl rfl 0 (by decide) w785 (fun _ h9 => h9) rfl dX11_take_100 ?_
              refine lv_idiv hx hb dX11_take_103 (nz32 (y := 2) hq101 (by omega)) (lv_topi (fun v120 e_v120 => ?_))
              have e_v120 := ai_div e_v120 rfl hq101 (by omega)
              refine lv_imul hx hb dX11_take_104 (lv_topi (fun v121 e_v121 => ?_))
              have e_v121 := ai_mul e_v121 li_3 rfl (by omega)
              refine lv_iload hx hb dX11_take_105 (lv_at hl 5 rfl) ?_
              refine lv_aload_n hx hb dX11_take_107 rfl (lv_at hl 2 rfl) ?_
              refine tz_get (ci := 8) (v := .int h0f0) (C := RX11) (F := TX11) (N := 36) hx hb hU iX11 hown hK hT 4 rfl rfl 0 (by decide) w785 (fun _ h9 => h9) rfl dX11_take_108 ?_
              refine lv_irem hx hb dX11_take_111 (nz32 (y := 2) hq101 (by omega)) (lv_topi (fun v122 e_v122 => ?_))
              have e_v122 := ai_rem e_v122 rfl hq101 (by omega)
              refine lv_iadd hx hb dX11_take_112 (lv_topi (fun v123 e_v123 => ?_))
              have e_v123 := ai_add e_v123 rfl rfl (by omega)
              refine lv_iload hx hb dX11_take_113 (lv_at hl 0 rfl) ?_
              refine lv_if_eq (tgt := 123) hx hb dX11_take_115 (by decide) (fun _ => ?_) (fun cc => absurd (by decide +kernel) cc)
              refine lv_lconst (v := 0) hx hb dX11_take_123 (by decide) ?_
              refine tz_last hx hb hK hT hS 5 rfl (by omega) (fun _ _ => trivial) dX11_take_124 (fun H locs hT hS => ?_)
              obtain ⟨v124, e_v124⟩ : ∃ x : Int32, x = y98 + Int32.ofInt 1 := ⟨_, rfl⟩
              have f_v124 := e_v124.symm
              have e_v124 : v124.toInt = y98.toInt + 1 := ai_add e_v124 rfl (show (Int32.ofInt 1).toInt = 1 from (by decide +kernel)) (by omega)
              refine lv_iinc (v := v124) (lv' := [(5, .int v124), (4, .int 0), (6, .long v118), (0, .ref h0), (1, .int x1), (2, .int x2)]) hx hb dX11_take_125 hl (k := 5) rfl f_v124 (by decide) rfl (fun ls hl => ?_)
              refine lv_goto (tgt := 36) hx hb dX11_take_128 (by decide) ?_
              exact ih36_100 v124 (0) _ _ _ (by have := li_0; omega) (by have := li_0; omega)  (by have := li_0; omega) hT hS (lv_sub hl [3, 4, 5, 1, 0] rfl)
            · skip
              have c_119 := ni_ne c_119 rfl li_0
              refine lv_lload hx hb dX11_take_71 (lv_at hl 0 rfl) ?_
              refine lv_ldc2 hx hb hown (hU _ w910) dX11_take_73 ?_
              refine lv_ldc2 hx hb hown (hU _ w911) dX11_take_76 ?_
              have q_q126 := ll_m99
              have q_q127 := ll_99
              refine tcI (Tc := []) (Tr := [(h1, aI (k 0) 36 anI), (h20, aJ (k 1) 160 anJ), (h18, aI (k 0) 4 (vec4 h18f0 h18f1 h18f2 h18f3)), (h19, aI (k 0) 4 (vec4 h19f0 h19f1 h19f2 h19f3)), (h0, ob 8 [.int h0f0, .int h0f1, .int h0f2, .int h0f3, .int h0f4, .int h0f5, .ref h1, .ref h2, .int h0f8, .int h0f9, .ref h3, .ref h4, .ref h5, .ref h6, .ref h7, .ref h8, .ref h9, .int h0f17, .int h0f18, .int h0f19, .ref h10, .ref h11, .ref h12, .ref h13, .int h0f24, .int h0f25, .ref h14, .ref h15, .ref h16, .ref h17, .int h0f30, .int h0f31, .ref h18, .ref h19, .ref h20, .ref h21]), (h3, aJ (k 1) 9 anJ)]) (as := []) (zcS (As := [.long v118, .long (-99), .long 99]) (rest := []) (Tc := []) hx hb hml hown hU hK hT [] rfl (by decide) (cX11_in_ca3b9 l D k _ v118 ((-99)) (99) (by have := ll_m99; omega) (by have := ll_99; omega)) w901 w899 w900 w72 hdX11_in ⟨rfl, rfl⟩ ⟨Nat.le_of_ble_eq_true rfl, Nat.le_of_ble_eq_true rfl⟩ rfl hl.1 (Nat.le_of_ble_eq_true rfl) dX11_take_79 ⟨Nat.le_of_ble_eq_true rfl, Nat.le_of_ble_eq_true rfl⟩) hT hS hA [] [0, 1, 2, 3, 4, 5] rfl rfl rfl (by decide) (by decide) (fun r125 H locs hB J hS => ?_)
              rcases hB with ⟨rfl, hT1⟩ | ⟨c_128, c_129, rfl, hT1⟩
              · skip
                have hT := J _ hT1
                have hT : TP D A [(h1, aI (k 0) 36 anI), (h20, aJ (k 1) 160 anJ), (h18, aI (k 0) 4 (vec4 h18f0 h18f1 h18f2 h18f3)), (h19, aI (k 0) 4 (vec4 h19f0 h19f1 h19f2 h19f3)), (h0, ob 8 [.int h0f0, .int h0f1, .int h0f2, .int h0f3, .int h0f4, .int h0f5, .ref h1, .ref h2, .int h0f8, .int h0f9, .ref h3, .ref h4, .ref h5, .ref h6, .ref h7, .ref h8, .ref h9, .int h0f17, .int h0f18, .int h0f19, .ref h10, .ref h11, .ref h12, .ref h13, .int h0f24, .int h0f25, .ref h14, .ref h15, .ref h16, .ref h17, .int h0f30, .int h0f31, .ref h18, .ref h19, .ref h20, .ref h21]), (h3, aJ (k 1) 9 anJ)] _ := hT
                refine lv_if_eq (tgt := 89) hx hb dX11_take_82 (by decide) (fun _ => ?_) (fun cc => absurd (by decide +kernel) cc)
                refine lv_iconst (v := 0) hx hb dX11_take_89 (by decide) ?_
                refine lv_istore (lv' := [(4, .int 0), (6, .long v118), (0, .ref h0), (1, .int x1), (2, .int x2), (5, .int y98)]) hx hb dX11_take_90 hl (by decide) rfl (fun ls hl => ?_)
                refine lv_aload_n hx hb dX11_take_92 rfl (lv_at hl 2 rfl) ?_
                refine tz_get (ci := 8) (v := .ref h3) (C := RX11) (F := TX11) (N := 36) hx hb hU iX11 hown hK hT 4 rfl rfl 10 (by decide) w795 (fun _ h9 => h9) rfl dX11_take_93 ?_
                refine lv_iconst (v := 3) hx hb dX11_take_96 (by decide) ?_
                refine lv_iload hx hb dX11_take_97 (lv_at hl 5 rfl) ?_
                refine lv_aload_n hx hb dX11_take_99 rfl (lv_at hl 2 rfl) ?_
                refine tz_get (ci := 8) (v := .int h0f0) (C := RX11) (F := TX11) (N := 36) hx hb hU iX11 hown hK hT 4 rfl rfl 0 (by decide) w785 (fun _ h9 => h9) rfl dX11_take_100 ?_
                refine lv_idiv hx hb dX11_take_103 (nz32 (y := 2) hq101 (by omega)) (lv_topi (fun v130 e_v130 => ?_))
                have e_v130 := ai_div e_v130 rfl hq101 (by omega)
                refine lv_imul hx hb dX11_take_104 (lv_topi (fun v131 e_v131 => ?_))
                have e_v131 := ai_mul e_v131 li_3 rfl (by omega)
                refine lv_iload hx hb dX11_take_105 (lv_at hl 5 rfl) ?_
                refine lv_aload_n hx hb dX11_take_107 rfl (lv_at hl 2 rfl) ?_
                refine tz_get (ci := 8) (v := .int h0f0) (C := RX11) (F := TX11) (N := 36) hx hb hU iX11 hown hK hT 4 rfl rfl 0 (by decide) w785 (fun _ h9 => h9) rfl dX11_take_108 ?_
                refine lv_irem hx hb dX11_take_111 (nz32 (y := 2) hq101 (by omega)) (lv_topi (fun v132 e_v132 => ?_))
                have e_v132 := ai_rem e_v132 rfl hq101 (by omega)
                refine lv_iadd hx hb dX11_take_112 (lv_topi (fun v133 e_v133 => ?_))
                have e_v133 := ai_add e_v133 rfl rfl (by omega)
                refine lv_iload hx hb dX11_take_113 (lv_at hl 0 rfl) ?_
                refine lv_if_eq (tgt := 123) hx hb dX11_take_115 (by decide) (fun _ => ?_) (fun cc => absurd (by decide +kernel) cc)
                refine lv_lconst (v := 0) hx hb dX11_take_123 (by decide) ?_
                refine tz_last hx hb hK hT hS 5 rfl (by omega) (fun _ _ => trivial) dX11_take_124 (fun H locs hT hS => ?_)
                obtain ⟨v134, e_v134⟩ : ∃ x : Int32, x = y98 + Int32.ofInt 1 := ⟨_, rfl⟩
                have f_v134 := e_v134.symm
                have e_v134 : v134.toInt = y98.toInt + 1 := ai_add e_v134 rfl (show (Int32.ofInt 1).toInt = 1 from (by decide +kernel)) (by omega)
                refine lv_iinc (v := v134) (lv' := [(5, .int v134), (4, .int 0), (6, .long v118), (0, .ref h0), (1, .int x1), (2, .int x2)]) hx hb dX11_take_125 hl (k := 5) rfl f_v134 (by decide) rfl (fun ls hl => ?_)
                refine lv_goto (tgt := 36) hx hb dX11_take_128 (by decide) ?_
                exact ih36_100 v134 (0) _ _ _ (by have := li_0; omega) (by have := li_0; omega)  (by have := li_0; omega) hT hS (lv_sub hl [3, 4, 5, 1, 0] rfl)
              · skip
                have hT := J _ hT1
                have hT : TP D A [(h1, aI (k 0) 36 anI), (h20, aJ (k 1) 160 anJ), (h18, aI (k 0) 4 (vec4 h18f0 h18f1 h18f2 h18f3)), (h19, aI (k 0) 4 (vec4 h19f0 h19f1 h19f2 h19f3)), (h0, ob 8 [.int h0f0, .int h0f1, .int h0f2, .int h0f3, .int h0f4, .int h0f5, .ref h1, .ref h2, .int h0f8, .int h0f9, .ref h3, .ref h4, .ref h5, .ref h6, .ref h7, .ref h8, .ref h9, .int h0f17, .int h0f18, .int h0f19, .ref h10, .ref h11, .ref h12, .ref h13, .int h0f24, .int h0f25, .ref h14, .ref h15, .ref h16, .ref h17, .int h0f30, .int h0f31, .ref h18, .ref h19, .ref h20, .ref h21]), (h3, aJ (k 1) 9 anJ)] _ := hT
                refine lv_if_eq (tgt := 89) hx hb dX11_take_82 (by decide) (fun cc => absurd cc (by decide +kernel)) (fun _ => ?_)
                refine lv_iconst (v := 1) hx hb dX11_take_85 (by decide) ?_
                refine lv_goto (tgt := 90) hx hb dX11_take_86 (by decide) ?_
                refine lv_istore (lv' := [(4, .int 1), (6, .long v118), (0, .ref h0), (1, .int x1), (2, .int x2), (5, .int y98)]) hx hb dX11_take_90 hl (by decide) rfl (fun ls hl => ?_)
                refine lv_aload_n hx hb dX11_take_92 rfl (lv_at hl 2 rfl) ?_
                refine tz_get (ci := 8) (v := .ref h3) (C := RX11) (F := TX11) (N := 36) hx hb hU iX11 hown hK hT 4 rfl rfl 10 (by decide) w795 (fun _ h9 => h9) rfl dX11_take_93 ?_
                refine lv_iconst (v := 3) hx hb dX11_take_96 (by decide) ?_
                refine lv_iload hx hb dX11_take_97 (lv_at hl 5 rfl) ?_
                refine lv_aload_n hx hb dX11_take_99 rfl (lv_at hl 2 rfl) ?_
                refine tz_get (ci := 8) (v := .int h0f0) (C := RX11) (F := TX11) (N := 36) hx hb hU iX11 hown hK hT 4 rfl rfl 0 (by decide) w785 (fun _ h9 => h9) rfl dX11_take_100 ?_
                refine lv_idiv hx hb dX11_take_103 (nz32 (y := 2) hq101 (by omega)) (lv_topi (fun v135 e_v135 => ?_))
                have e_v135 := ai_div e_v135 rfl hq101 (by omega)
                refine lv_imul hx hb dX11_take_104 (lv_topi (fun v136 e_v136 => ?_))
                have e_v136 := ai_mul e_v136 li_3 rfl (by omega)
                refine lv_iload hx hb dX11_take_105 (lv_at hl 5 rfl) ?_
                refine lv_aload_n hx hb dX11_take_107 rfl (lv_at hl 2 rfl) ?_
                refine tz_get (ci := 8) (v := .int h0f0) (C := RX11) (F := TX11) (N := 36) hx hb hU iX11 hown hK hT 4 rfl rfl 0 (by decide) w785 (fun _ h9 => h9) rfl dX11_take_108 ?_
                refine lv_irem hx hb dX11_take_111 (nz32 (y := 2) hq101 (by omega)) (lv_topi (fun v137 e_v137 => ?_))
                have e_v137 := ai_rem e_v137 rfl hq101 (by omega)
                refine lv_iadd hx hb dX11_take_112 (lv_topi (fun v138 e_v138 => ?_))
                have e_v138 := ai_add e_v138 rfl rfl (by omega)
                refine lv_iload hx hb dX11_take_113 (lv_at hl 0 rfl) ?_
                refine lv_if_eq (tgt := 123) hx hb dX11_take_115 (by decide) (fun cc => absurd cc (by decide +kernel)) (fun _ => ?_)
                refine lv_lload hx hb dX11_take_118 (lv_at hl 1 rfl) ?_
                refine lv_goto (tgt := 124) hx hb dX11_take_120 (by decide) ?_
                refine tz_last hx hb hK hT hS 5 rfl (by omega) (fun _ _ => trivial) dX11_take_124 (fun H locs hT hS => ?_)
                obtain ⟨v139, e_v139⟩ : ∃ x : Int32, x = y98 + Int32.ofInt 1 := ⟨_, rfl⟩
                have f_v139 := e_v139.symm
                have e_v139 : v139.toInt = y98.toInt + 1 := ai_add e_v139 rfl (show (Int32.ofInt 1).toInt = 1 from (by decide +kernel)) (by omega)
                refine lv_iinc (v := v139) (lv' := [(5, .int v139), (4, .int 1), (6, .long v118), (0, .ref h0), (1, .int x1), (2, .int x2)]) hx hb dX11_take_125 hl (k := 5) rfl f_v139 (by decide) rfl (fun ls hl => ?_)
                refine lv_goto (tgt := 36) hx hb dX11_take_128 (by decide) ?_
                exact ih36_100 v139 (1) _ _ _ (by have := li_1; omega) (by have := li_1; omega)  (by have := li_1; omega) hT hS (lv_sub hl [3, 4, 5, 1, 0] rfl)
      exact lp36_100 ((2 * h0f0.toInt + (-1) * (0 : Int32).toInt + 1).toNat + 1) (0) (1) _ _ _ (by have := li_0; have := li_1; omega) (by have := li_0; have := li_1; omega)  (Nat.lt_succ_self _) hT hS (lv_sub hl [3, 4, 5, 1, 0] rfl)
    · skip
      have hT := J _ hT1
      have hT : TP D A [(h1, aI (k 0) 36 anI), (h3, aJ (k 1) 9 anJ), (h20, aJ (k 1) 160 anJ), (h0, ob 8 [.int h0f0, .int h0f1, .int h0f2, .int h0f3, .int h0f4, .int h0f5, .ref h1, .ref h2, .int h0f8, .int h0f9, .ref h3, .ref h4, .ref h5, .ref h6, .ref h7, .ref h8, .ref h9, .int h0f17, .int h0f18, .int h0f19, .ref h10, .ref h11, .ref h12, .ref h13, .int h0f24, .int h0f25, .ref h14, .ref h15, .ref h16, .ref h17, .int h0f30, .int h0f31, .ref h18, .ref h19, .ref h20, .ref h21]), (h18, aI (k 0) 4 (vec4 h18f0 h18f1 h18f2 h18f3)), (h19, aI (k 0) 4 (vec4 h19f0 h19f1 h19f2 h19f3))] _ := hT
      refine lv_istore_n (lv' := [(3, .int 0), (0, .ref h0), (1, .int x1), (2, .int x2)]) hx hb dX11_take_15 rfl hl (by decide) rfl (fun ls hl => ?_)
      refine lv_iload_n hx hb dX11_take_16 rfl (lv_at hl 0 rfl) ?_
      refine lv_if_eq (tgt := 22) hx hb dX11_take_17 (by decide) (fun _ => ?_) (fun cc => absurd (by decide +kernel) cc)
      refine lv_aload_n hx hb dX11_take_22 rfl (lv_at hl 1 rfl) ?_
      refine lv_aload_n hx hb dX11_take_23 rfl (lv_at hl 1 rfl) ?_
      refine tz_get (ci := 8) (v := .ref h3) (C := RX11) (F := TX11) (N := 36) hx hb hU iX11 hown hK hT 3 rfl rfl 10 (by decide) w795 (fun _ h9 => h9) rfl dX11_take_24 ?_
      refine tcV (Tc := [(h0, ob 8 [.int h0f0, .int h0f1, .int h0f2, .int h0f3, .int h0f4, .int h0f5, .ref h1, .ref h2, .int h0f8, .int h0f9, .ref h3, .ref h4, .ref h5, .ref h6, .ref h7, .ref h8, .ref h9, .int h0f17, .int h0f18, .int h0f19, .ref h10, .ref h11, .ref h12, .ref h13, .int h0f24, .int h0f25, .ref h14, .ref h15, .ref h16, .ref h17, .int h0f30, .int h0f31, .ref h18, .ref h19, .ref h20, .ref h21]), (h3, aJ (k 1) 9 anJ)]) (Tr := [(h1, aI (k 0) 36 anI), (h20, aJ (k 1) 160 anJ), (h18, aI (k 0) 4 (vec4 h18f0 h18f1 h18f2 h18f3)), (h19, aI (k 0) 4 (vec4 h19f0 h19f1 h19f2 h19f3))]) (as := [h0, h3]) (zcV (q0 := 3) (ci := 8) (As := [.ref h3]) (rest := []) (Tc := [(h0, ob 8 [.int h0f0, .int h0f1, .int h0f2, .int h0f3, .int h0f4, .int h0f5, .ref h1, .ref h2, .int h0f8, .int h0f9, .ref h3, .ref h4, .ref h5, .ref h6, .ref h7, .ref h8, .ref h9, .int h0f17, .int h0f18, .int h0f19, .ref h10, .ref h11, .ref h12, .ref h13, .int h0f24, .int h0f25, .ref h14, .ref h15, .ref h16, .ref h17, .int h0f30, .int h0f31, .ref h18, .ref h19, .ref h20, .ref h21]), (h3, aJ (k 1) 9 anJ)]) hx hb hml hown hU hK hT rfl rfl [3, 1] rfl (by decide) (cX11_clears_d395b l D k _ h0 h3 h1 h2 h4 h5 h6 h7 h8 h9 h10 h11 h12 h13 h14 h15 h16 h17 h18 h19 h20 h21 h0f0 h0f1 h0f2 h0f3 h0f4 h0f5 h0f8 h0f9 h0f17 h0f18 h0f19 h0f24 h0f25 h0f30 h0f31 (by omega) (by omega) (by omega) (by omega) (by omega) (by omega) (by omega) (by omega) (by omega) (by omega) (by omega) (by omega) (by omega) (by omega) (by omega)) w923 w920 w922 w29 w72 hdX11_clears ⟨rfl, rfl⟩ ⟨Nat.le_of_ble_eq_true rfl, Nat.le_of_ble_eq_true rfl⟩ rfl hl.1 (Nat.le_of_ble_eq_true rfl) dX11_take_27 ⟨Nat.le_of_ble_eq_true rfl, Nat.le_of_ble_eq_true rfl⟩) hT hS hA [3, 1] [0, 2, 4, 5] rfl rfl rfl (by decide) (by decide) (fun H locs hB J hS => ?_)
      have hT1 := hB
      have hT := J _ hT1
      have hT : TP D A [(h1, aI (k 0) 36 anI), (h20, aJ (k 1) 160 anJ), (h18, aI (k 0) 4 (vec4 h18f0 h18f1 h18f2 h18f3)), (h19, aI (k 0) 4 (vec4 h19f0 h19f1 h19f2 h19f3)), (h0, ob 8 [.int h0f0, .int h0f1, .int h0f2, .int h0f3, .int h0f4, .int h0f5, .ref h1, .ref h2, .int h0f8, .int h0f9, .ref h3, .ref h4, .ref h5, .ref h6, .ref h7, .ref h8, .ref h9, .int h0f17, .int h0f18, .int h0f19, .ref h10, .ref h11, .ref h12, .ref h13, .int h0f24, .int h0f25, .ref h14, .ref h15, .ref h16, .ref h17, .int h0f30, .int h0f31, .ref h18, .ref h19, .ref h20, .ref h21]), (h3, aJ (k 1) 9 anJ)] _ := hT
      refine lv_iconst (v := 1) hx hb dX11_take_30 (by decide) ?_
      refine lv_istore (lv' := [(4, .int 1), (3, .int 0), (0, .ref h0), (1, .int x1), (2, .int x2)]) hx hb dX11_take_31 hl (by decide) rfl (fun ls hl => ?_)
      refine lv_iconst (v := 0) hx hb dX11_take_33 (by decide) ?_
      refine lv_istore (lv' := [(5, .int 0), (4, .int 1), (3, .int 0), (0, .ref h0), (1, .int x1), (2, .int x2)]) hx hb dX11_take_34 hl (by decide) rfl (fun ls hl => ?_)
      have lp36_157 : ∀ (n : Nat) (y155 : Int32) (y156 : Int32) (H : Heap) (locs : List Loc) (ls : Array Slot), (0 ≤ y155.toInt ∧ y155.toInt ≤ 9) → (0 ≤ y156.toInt ∧ y156.toInt ≤ 1) → (3 * h0f0.toInt + (-1) * y155.toInt + 1).toNat < n → TP D A [(h1, aI (k 0) 36 anI), (h20, aJ (k 1) 160 anJ), (h18, aI (k 0) 4 (vec4 h18f0 h18f1 h18f2 h18f3)), (h19, aI (k 0) 4 (vec4 h19f0 h19f1 h19f2 h19f3)), (h0, ob 8 [.int h0f0, .int h0f1, .int h0f2, .int h0f3, .int h0f4, .int h0f5, .ref h1, .ref h2, .int h0f8, .int h0f9, .ref h3, .ref h4, .ref h5, .ref h6, .ref h7, .ref h8, .ref h9, .int h0f17, .int h0f18, .int h0f19, .ref h10, .ref h11, .ref h12, .ref h13, .int h0f24, .int h0f25, .ref h14, .ref h15, .ref h16, .ref h17, .int h0f30, .int h0f31, .ref h18, .ref h19, .ref h20, .ref h21]), (h3, aJ (k 1) 9 anJ)] H → va_S A s.heap H locs → lv_has ls 8 [(0, .ref h0), (1, .int x1), (2, .int x2), (4, .int y156), (5, .int y155)] → W p l e Rm_cX11_take_344a2 s m args below meth c H locs 0 0 Q (F0 m 36 ls []) := by
        intro n
        induction n with
        | zero => intro y155 y156 H locs ls b_y155 b_y156 hm hT hS hl; exact absurd hm (Nat.not_lt_zero _)
        | succ n ih =>
          intro y155 y156 H locs ls b_y155 b_y156 hm hT hS hl
          have ih36_157 := ih
          clear ih
          refine lv_iload hx hb dX11_take_36 (lv_at hl 4 rfl) ?_
          refine lv_aload_n hx hb dX11_take_38 rfl (lv_at hl 0 rfl) ?_
          refine tz_get (ci := 8) (v := .int h0f0) (C := RX11) (F := TX11) (N := 36) hx hb hU iX11 hown hK hT 4 rfl rfl 0 (by decide) w785 (fun _ h9 => h9) rfl dX11_take_39 ?_
          refine lv_aload_n hx hb dX11_take_42 rfl (lv_at hl 0 rfl) ?_
          refine tz_get (ci := 8) (v := .int h0f0) (C := RX11) (F := TX11) (N := 36) hx hb hU iX11 hown hK hT 4 rfl rfl 0 (by decide) w785 (fun _ h9 => h9) rfl dX11_take_43 ?_
          have hq158 : h0f0.toInt = 3 := by omega
          refine lv_imul hx hb dX11_take_46 (lv_topi (fun v159 e_v159 => ?_))
          have e_v159 := ai_mul e_v159 hq158 hq158 (by omega)
          refine lv_icmp_ge (tgt := 131) hx hb dX11_take_47 (by decide) (fun c_160 => ?_) (fun c_160 => ?_)
          · skip
            have c_160 := ni_le c_160 rfl rfl
            refine lv_iload hx hb dX11_take_131 (lv_at hl 3 rfl) ?_
            refine lv_if_eq (tgt := 164) hx hb dX11_take_133 (by decide) (fun c_161 => ?_) (fun c_161 => ?_)
            · skip
              have c_161 := ni_eq c_161 rfl li_0
              refine lv_iconst (v := (-1)) hx hb dX11_take_164 (by decide) ?_
              exact tz_retI (B := B_cX11_take_344a2 D k h0 h1 h3 h18 h19 h20 h2 h4 h5 h6 h7 h8 h9 h10 h11 h12 h13 h14 h15 h16 h17 h21 x1 x2 h0f0 h0f1 h0f2 h0f3 h0f4 h0f5 h0f8 h0f9 h0f17 h0f18 h0f19 h0f24 h0f25 h0f30 h0f31 h18f0 h18f1 h18f2 h18f3 h19f0 h19f1 h19f2 h19f3) (v := (-1)) hQ hx hb hr hlocks hS (Nat.le_of_ble_eq_true rfl) (Nat.le_of_ble_eq_true rfl) dX11_take_165 (⟨h0f1, h0f9, h0f30, (by have := li_m1; omega), (by have := li_m1; omega), (by have := li_m1; omega), (by have := li_m1; omega), (by have := li_m1; omega), (by have := li_m1; omega), (hT.sub [4, 0, 5, 2, 3, 1] (by decide) rfl)⟩)
            · skip
              have c_161 := ni_ne c_161 rfl li_0
              refine lv_aload_n hx hb dX11_take_136 rfl (lv_at hl 0 rfl) ?_
              refine lv_aload_n hx hb dX11_take_137 rfl (lv_at hl 0 rfl) ?_
              refine tz_get (ci := 8) (v := .ref h3) (C := RX11) (F := TX11) (N := 36) hx hb hU iX11 hown hK hT 4 rfl rfl 10 (by decide) w795 (fun _ h9 => h9) rfl dX11_take_138 ?_
              refine tcL (Tc := [(h0, ob 8 [.int h0f0, .int h0f1, .int h0f2, .int h0f3, .int h0f4, .int h0f5, .ref h1, .ref h2, .int h0f8, .int h0f9, .ref h3, .ref h4, .ref h5, .ref h6, .ref h7, .ref h8, .ref h9, .int h0f17, .int h0f18, .int h0f19, .ref h10, .ref h11, .ref h12, .ref h13, .int h0f24, .int h0f25, .ref h14, .ref h15, .ref h16, .ref h17, .int h0f30, .int h0f31, .ref h18, .ref h19, .ref h20, .ref h21]), (h3, aJ (k 1) 9 anJ)]) (Tr := [(h1, aI (k 0) 36 anI), (h20, aJ (k 1) 160 anJ), (h18, aI (k 0) 4 (vec4 h18f0 h18f1 h18f2 h18f3)), (h19, aI (k 0) 4 (vec4 h19f0 h19f1 h19f2 h19f3))]) (as := [h0, h3]) (zcV (q0 := 4) (ci := 8) (As := [.ref h3]) (rest := []) (Tc := [(h0, ob 8 [.int h0f0, .int h0f1, .int h0f2, .int h0f3, .int h0f4, .int h0f5, .ref h1, .ref h2, .int h0f8, .int h0f9, .ref h3, .ref h4, .ref h5, .ref h6, .ref h7, .ref h8, .ref h9, .int h0f17, .int h0f18, .int h0f19, .ref h10, .ref h11, .ref h12, .ref h13, .int h0f24, .int h0f25, .ref h14, .ref h15, .ref h16, .ref h17, .int h0f30, .int h0f31, .ref h18, .ref h19, .ref h20, .ref h21]), (h3, aJ (k 1) 9 anJ)]) hx hb hml hown hU hK hT rfl rfl [4, 5] rfl (by decide) (cX11_det_62049 l D k _ h0 h3 h1 h2 h4 h5 h6 h7 h8 h9 h10 h11 h12 h13 h14 h15 h16 h17 h18 h19 h20 h21 h0f0 h0f1 h0f2 h0f3 h0f4 h0f5 h0f8 h0f9 h0f17 h0f18 h0f19 h0f24 h0f25 h0f30 h0f31 (by omega) (by omega) (by omega) (by omega) (by omega) (by omega) (by omega) (by omega) (by omega) (by omega) (by omega) (by omega) (by omega) (by omega) (by omega)) w952 w949 w951 w35 w72 hdX11_det ⟨rfl, rfl⟩ ⟨Nat.le_of_ble_eq_true rfl, Nat.le_of_ble_eq_true rfl⟩ rfl hl.1 (Nat.le_of_ble_eq_true rfl) dX11_take_141 ⟨Nat.le_of_ble_eq_true rfl, Nat.le_of_ble_eq_true rfl⟩) hT hS hA [4, 5] [0, 1, 2, 3] rfl rfl rfl (by decide) (by decide) (fun r162 H locs hB J hS => ?_)
              have hT1 := hB
              have hT := J _ hT1
              have hT : TP D A [(h1, aI (k 0) 36 anI), (h20, aJ (k 1) 160 anJ), (h18, aI (k 0) 4 (vec4 h18f0 h18f1 h18f2 h18f3)), (h19, aI (k 0) 4 (vec4 h19f0 h19f1 h19f2 h19f3)), (h0, ob 8 [.int h0f0, .int h0f1, .int h0f2, .int h0f3, .int h0f4, .int h0f5, .ref h1, .ref h2, .int h0f8, .int h0f9, .ref h3, .ref h4, .ref h5, .ref h6, .ref h7, .ref h8, .ref h9, .int h0f17, .int h0f18, .int h0f19, .ref h10, .ref h11, .ref h12, .ref h13, .int h0f24, .int h0f25, .ref h14, .ref h15, .ref h16, .ref h17, .int h0f30, .int h0f31, .ref h18, .ref h19, .ref h20, .ref h21]), (h3, aJ (k 1) 9 anJ)] _ := hT
              refine lv_lconst (v := 1) hx hb dX11_take_144 (by decide) ?_
              refine W.lcmp hx hb dX11_take_145 ?_
              refine lv_if_eq (tgt := 166) hx hb dX11_take_146 (by decide) (fun c_163 => ?_) (fun c_163 => ?_)
              · skip
                have c_163 := nl_eq c_163 rfl ll_1
                refine lv_aload_n hx hb dX11_take_166 rfl (lv_at hl 0 rfl) ?_
                refine tz_get (ci := 8) (v := .int h0f1) (C := RX11) (F := TX11) (N := 36) hx hb hU iX11 hown hK hT 4 rfl rfl 1 (by decide) w786 (fun _ h9 => h9) rfl dX11_take_167 ?_
                refine lv_iconst (v := 4) hx hb dX11_take_170 (by decide) ?_
                refine lv_icmp_ne (tgt := 179) hx hb dX11_take_171 (by decide) (fun c_164 => ?_) (fun c_164 => ?_)
                · skip
                  have c_164 := ni_ne c_164 rfl li_4
                  refine lv_aload_n hx hb dX11_take_179 rfl (lv_at hl 0 rfl) ?_
                  refine tcI (Tc := [(h0, ob 8 [.int h0f0, .int h0f1, .int h0f2, .int h0f3, .int h0f4, .int h0f5, .ref h1, .ref h2, .int h0f8, .int h0f9, .ref h3, .ref h4, .ref h5, .ref h6, .ref h7, .ref h8, .ref h9, .int h0f17, .int h0f18, .int h0f19, .ref h10, .ref h11, .ref h12, .ref h13, .int h0f24, .int h0f25, .ref h14, .ref h15, .ref h16, .ref h17, .int h0f30, .int h0f31, .ref h18, .ref h19, .ref h20, .ref h21]), (h1, aI (k 0) 36 anI), (h3, aJ (k 1) 9 anJ)]) (Tr := [(h20, aJ (k 1) 160 anJ), (h18, aI (k 0) 4 (vec4 h18f0 h18f1 h18f2 h18f3)), (h19, aI (k 0) 4 (vec4 h19f0 h19f1 h19f2 h19f3))]) (as := [h0, h1, h3]) (zcV (q0 := 4) (ci := 8) (As := []) (rest := []) (Tc := [(h0, ob 8 [.int h0f0, .int h0f1, .int h0f2, .int h0f3, .int h0f4, .int h0f5, .ref h1, .ref h2, .int h0f8, .int h0f9, .ref h3, .ref h4, .ref h5, .ref h6, .ref h7, .ref h8, .ref h9, .int h0f17, .int h0f18, .int h0f19, .ref h10, .ref h11, .ref h12, .ref h13, .int h0f24, .int h0f25, .ref h14, .ref h15, .ref h16, .ref h17, .int h0f30, .int h0f31, .ref h18, .ref h19, .ref h20, .ref h21]), (h1, aI (k 0) 36 anI), (h3, aJ (k 1) 9 anJ)]) hx hb hml hown hU hK hT rfl rfl [4, 0, 5] rfl (by decide) (cX11_comes_53948 l D k _ h0 h1 h3 h2 h4 h5 h6 h7 h8 h9 h10 h11 h12 h13 h14 h15 h16 h17 h18 h19 h20 h21 h0f0 h0f1 h0f2 h0f3 h0f4 h0f5 h0f8 h0f9 h0f17 h0f18 h0f19 h0f24 h0f25 h0f30 h0f31 (by omega) (by omega) (by omega) (by omega) (by omega) (by omega) (by omega) (by omega) (by omega) (by omega) (by omega) (by omega) (by omega) (by omega) (by omega)) w927 w924 w926 w30 w72 hdX11_comes ⟨rfl, rfl⟩ ⟨Nat.le_of_ble_eq_true rfl, Nat.le_of_ble_eq_true rfl⟩ rfl hl.1 (Nat.le_of_ble_eq_true rfl) dX11_take_180 ⟨Nat.le_of_ble_eq_true rfl, Nat.le_of_ble_eq_true rfl⟩) hT hS hA [4, 0, 5] [1, 2, 3] rfl rfl rfl (by decide) (by decide) (fun r165 H locs hB J hS => ?_)
                  obtain ⟨v166, b_v166, b_r165, hT1⟩ := hB
                  have hT := J _ hT1
                  have hT : TP D A [(h20, aJ (k 1) 160 anJ), (h18, aI (k 0) 4 (vec4 h18f0 h18f1 h18f2 h18f3)), (h19, aI (k 0) 4 (vec4 h19f0 h19f1 h19f2 h19f3)), (h0, ob 8 [.int h0f0, .int v166, .int h0f2, .int h0f3, .int h0f4, .int h0f5, .ref h1, .ref h2, .int h0f8, .int 0, .ref h3, .ref h4, .ref h5, .ref h6, .ref h7, .ref h8, .ref h9, .int h0f17, .int h0f18, .int h0f19, .ref h10, .ref h11, .ref h12, .ref h13, .int h0f24, .int h0f25, .ref h14, .ref h15, .ref h16, .ref h17, .int 0, .int h0f31, .ref h18, .ref h19, .ref h20, .ref h21]), (h1, aI (k 0) 36 anI), (h3, aJ (k 1) 9 anJ)] _ := hT
                  exact tz_retI (B := B_cX11_take_344a2 D k h0 h1 h3 h18 h19 h20 h2 h4 h5 h6 h7 h8 h9 h10 h11 h12 h13 h14 h15 h16 h17 h21 x1 x2 h0f0 h0f1 h0f2 h0f3 h0f4 h0f5 h0f8 h0f9 h0f17 h0f18 h0f19 h0f24 h0f25 h0f30 h0f31 h18f0 h18f1 h18f2 h18f3 h19f0 h19f1 h19f2 h19f3) (v := r165) hQ hx hb hr hlocks hS (Nat.le_of_ble_eq_true rfl) (Nat.le_of_ble_eq_true rfl) dX11_take_183 (⟨v166, 0, 0, (by have := li_0; omega), (by have := li_0; omega), (by have := li_0; omega), (by have := li_0; omega), (by have := li_0; omega), (by have := li_0; omega), (hT.sub [3, 4, 5, 1, 2, 0] (by decide) rfl)⟩)
                · skip
                  have c_164 := ni_eq c_164 rfl li_4
                  refine lv_bipush (v := (-2)) hx hb dX11_take_174 (by decide) ?_
                  refine lv_goto (tgt := 183) hx hb dX11_take_176 (by decide) ?_
                  exact tz_retI (B := B_cX11_take_344a2 D k h0 h1 h3 h18 h19 h20 h2 h4 h5 h6 h7 h8 h9 h10 h11 h12 h13 h14 h15 h16 h17 h21 x1 x2 h0f0 h0f1 h0f2 h0f3 h0f4 h0f5 h0f8 h0f9 h0f17 h0f18 h0f19 h0f24 h0f25 h0f30 h0f31 h18f0 h18f1 h18f2 h18f3 h19f0 h19f1 h19f2 h19f3) (v := (-2)) hQ hx hb hr hlocks hS (Nat.le_of_ble_eq_true rfl) (Nat.le_of_ble_eq_true rfl) dX11_take_183 (⟨h0f1, h0f9, h0f30, (by have := li_m2; omega), (by have := li_m2; omega), (by have := li_m2; omega), (by have := li_m2; omega), (by have := li_m2; omega), (by have := li_m2; omega), (hT.sub [4, 0, 5, 2, 3, 1] (by decide) rfl)⟩)
              · skip
                have c_163 := nl_ne c_163 rfl ll_1
                refine lv_aload_n hx hb dX11_take_149 rfl (lv_at hl 0 rfl) ?_
                refine lv_aload_n hx hb dX11_take_150 rfl (lv_at hl 0 rfl) ?_
                refine tz_get (ci := 8) (v := .ref h3) (C := RX11) (F := TX11) (N := 36) hx hb hU iX11 hown hK hT 4 rfl rfl 10 (by decide) w795 (fun _ h9 => h9) rfl dX11_take_151 ?_
                refine tcL (Tc := [(h0, ob 8 [.int h0f0, .int h0f1, .int h0f2, .int h0f3, .int h0f4, .int h0f5, .ref h1, .ref h2, .int h0f8, .int h0f9, .ref h3, .ref h4, .ref h5, .ref h6, .ref h7, .ref h8, .ref h9, .int h0f17, .int h0f18, .int h0f19, .ref h10, .ref h11, .ref h12, .ref h13, .int h0f24, .int h0f25, .ref h14, .ref h15, .ref h16, .ref h17, .int h0f30, .int h0f31, .ref h18, .ref h19, .ref h20, .ref h21]), (h3, aJ (k 1) 9 anJ)]) (Tr := [(h1, aI (k 0) 36 anI), (h20, aJ (k 1) 160 anJ), (h18, aI (k 0) 4 (vec4 h18f0 h18f1 h18f2 h18f3)), (h19, aI (k 0) 4 (vec4 h19f0 h19f1 h19f2 h19f3))]) (as := [h0, h3]) (zcV (q0 := 4) (ci := 8) (As := [.ref h3]) (rest := []) (Tc := [(h0, ob 8 [.int h0f0, .int h0f1, .int h0f2, .int h0f3, .int h0f4, .int h0f5, .ref h1, .ref h2, .int h0f8, .int h0f9, .ref h3, .ref h4, .ref h5, .ref h6, .ref h7, .ref h8, .ref h9, .int h0f17, .int h0f18, .int h0f19, .ref h10, .ref h11, .ref h12, .ref h13, .int h0f24, .int h0f25, .ref h14, .ref h15, .ref h16, .ref h17, .int h0f30, .int h0f31, .ref h18, .ref h19, .ref h20, .ref h21]), (h3, aJ (k 1) 9 anJ)]) hx hb hml hown hU hK hT rfl rfl [4, 5] rfl (by decide) (cX11_det_62049 l D k _ h0 h3 h1 h2 h4 h5 h6 h7 h8 h9 h10 h11 h12 h13 h14 h15 h16 h17 h18 h19 h20 h21 h0f0 h0f1 h0f2 h0f3 h0f4 h0f5 h0f8 h0f9 h0f17 h0f18 h0f19 h0f24 h0f25 h0f30 h0f31 (by omega) (by omega) (by omega) (by omega) (by omega) (by omega) (by omega) (by omega) (by omega) (by omega) (by omega) (by omega) (by omega) (by omega) (by omega)) w952 w949 w951 w35 w72 hdX11_det ⟨rfl, rfl⟩ ⟨Nat.le_of_ble_eq_true rfl, Nat.le_of_ble_eq_true rfl⟩ rfl hl.1 (Nat.le_of_ble_eq_true rfl) dX11_take_154 ⟨Nat.le_of_ble_eq_true rfl, Nat.le_of_ble_eq_true rfl⟩) hT hS hA [4, 5] [0, 1, 2, 3] rfl rfl rfl (by decide) (by decide) (fun r167 H locs hB J hS => ?_)
                have hT1 := hB
                have hT := J _ hT1
                have hT : TP D A [(h1, aI (k 0) 36 anI), (h20, aJ (k 1) 160 anJ), (h18, aI (k 0) 4 (vec4 h18f0 h18f1 h18f2 h18f3)), (h19, aI (k 0) 4 (vec4 h19f0 h19f1 h19f2 h19f3)), (h0, ob 8 [.int h0f0, .int h0f1, .int h0f2, .int h0f3, .int h0f4, .int h0f5, .ref h1, .ref h2, .int h0f8, .int h0f9, .ref h3, .ref h4, .ref h5, .ref h6, .ref h7, .ref h8, .ref h9, .int h0f17, .int h0f18, .int h0f19, .ref h10, .ref h11, .ref h12, .ref h13, .int h0f24, .int h0f25, .ref h14, .ref h15, .ref h16, .ref h17, .int h0f30, .int h0f31, .ref h18, .ref h19, .ref h20, .ref h21]), (h3, aJ (k 1) 9 anJ)] _ := hT
                refine lv_ldc2 hx hb hown (hU _ w944) dX11_take_157 ?_
                refine W.lcmp hx hb dX11_take_160 ?_
                refine lv_if_eq (tgt := 166) hx hb dX11_take_161 (by decide) (fun c_168 => ?_) (fun c_168 => ?_)
                · skip
                  have c_168 := nl_eq c_168 rfl ll_m1
                  refine lv_aload_n hx hb dX11_take_166 rfl (lv_at hl 0 rfl) ?_
                  refine tz_get (ci := 8) (v := .int h0f1) (C := RX11) (F := TX11) (N := 36) hx hb hU iX11 hown hK hT 4 rfl rfl 1 (by decide) w786 (fun _ h9 => h9) rfl dX11_take_167 ?_
                  refine lv_iconst (v := 4) hx hb dX11_take_170 (by decide) ?_
                  refine lv_icmp_ne (tgt := 179) hx hb dX11_take_171 (by decide) (fun c_169 => ?_) (fun c_169 => ?_)
                  · skip
                    have c_169 := ni_ne c_169 rfl li_4
                    refine lv_aload_n hx hb dX11_take_179 rfl (lv_at hl 0 rfl) ?_
                    refine tcI (Tc := [(h0, ob 8 [.int h0f0, .int h0f1, .int h0f2, .int h0f3, .int h0f4, .int h0f5, .ref h1, .ref h2, .int h0f8, .int h0f9, .ref h3, .ref h4, .ref h5, .ref h6, .ref h7, .ref h8, .ref h9, .int h0f17, .int h0f18, .int h0f19, .ref h10, .ref h11, .ref h12, .ref h13, .int h0f24, .int h0f25, .ref h14, .ref h15, .ref h16, .ref h17, .int h0f30, .int h0f31, .ref h18, .ref h19, .ref h20, .ref h21]), (h1, aI (k 0) 36 anI), (h3, aJ (k 1) 9 anJ)]) (Tr := [(h20, aJ (k 1) 160 anJ), (h18, aI (k 0) 4 (vec4 h18f0 h18f1 h18f2 h18f3)), (h19, aI (k 0) 4 (vec4 h19f0 h19f1 h19f2 h19f3))]) (as := [h0, h1, h3]) (zcV (q0 := 4) (ci := 8) (As := []) (rest := []) (Tc := [(h0, ob 8 [.int h0f0, .int h0f1, .int h0f2, .int h0f3, .int h0f4, .int h0f5, .ref h1, .ref h2, .int h0f8, .int h0f9, .ref h3, .ref h4, .ref h5, .ref h6, .ref h7, .ref h8, .ref h9, .int h0f17, .int h0f18, .int h0f19, .ref h10, .ref h11, .ref h12, .ref h13, .int h0f24, .int h0f25, .ref h14, .ref h15, .ref h16, .ref h17, .int h0f30, .int h0f31, .ref h18, .ref h19, .ref h20, .ref h21]), (h1, aI (k 0) 36 anI), (h3, aJ (k 1) 9 anJ)]) hx hb hml hown hU hK hT rfl rfl [4, 0, 5] rfl (by decide) (cX11_comes_53948 l D k _ h0 h1 h3 h2 h4 h5 h6 h7 h8 h9 h10 h11 h12 h13 h14 h15 h16 h17 h18 h19 h20 h21 h0f0 h0f1 h0f2 h0f3 h0f4 h0f5 h0f8 h0f9 h0f17 h0f18 h0f19 h0f24 h0f25 h0f30 h0f31 (by omega) (by omega) (by omega) (by omega) (by omega) (by omega) (by omega) (by omega) (by omega) (by omega) (by omega) (by omega) (by omega) (by omega) (by omega)) w927 w924 w926 w30 w72 hdX11_comes ⟨rfl, rfl⟩ ⟨Nat.le_of_ble_eq_true rfl, Nat.le_of_ble_eq_true rfl⟩ rfl hl.1 (Nat.le_of_ble_eq_true rfl) dX11_take_180 ⟨Nat.le_of_ble_eq_true rfl, Nat.le_of_ble_eq_true rfl⟩) hT hS hA [4, 0, 5] [1, 2, 3] rfl rfl rfl (by decide) (by decide) (fun r170 H locs hB J hS => ?_)
                    obtain ⟨v171, b_v171, b_r170, hT1⟩ := hB
                    have hT := J _ hT1
                    have hT : TP D A [(h20, aJ (k 1) 160 anJ), (h18, aI (k 0) 4 (vec4 h18f0 h18f1 h18f2 h18f3)), (h19, aI (k 0) 4 (vec4 h19f0 h19f1 h19f2 h19f3)), (h0, ob 8 [.int h0f0, .int v171, .int h0f2, .int h0f3, .int h0f4, .int h0f5, .ref h1, .ref h2, .int h0f8, .int 0, .ref h3, .ref h4, .ref h5, .ref h6, .ref h7, .ref h8, .ref h9, .int h0f17, .int h0f18, .int h0f19, .ref h10, .ref h11, .ref h12, .ref h13, .int h0f24, .int h0f25, .ref h14, .ref h15, .ref h16, .ref h17, .int 0, .int h0f31, .ref h18, .ref h19, .ref h20, .ref h21]), (h1, aI (k 0) 36 anI), (h3, aJ (k 1) 9 anJ)] _ := hT
                    exact tz_retI (B := B_cX11_take_344a2 D k h0 h1 h3 h18 h19 h20 h2 h4 h5 h6 h7 h8 h9 h10 h11 h12 h13 h14 h15 h16 h17 h21 x1 x2 h0f0 h0f1 h0f2 h0f3 h0f4 h0f5 h0f8 h0f9 h0f17 h0f18 h0f19 h0f24 h0f25 h0f30 h0f31 h18f0 h18f1 h18f2 h18f3 h19f0 h19f1 h19f2 h19f3) (v := r170) hQ hx hb hr hlocks hS (Nat.le_of_ble_eq_true rfl) (Nat.le_of_ble_eq_true rfl) dX11_take_183 (⟨v171, 0, 0, (by have := li_0; omega), (by have := li_0; omega), (by have := li_0; omega), (by have := li_0; omega), (by have := li_0; omega), (by have := li_0; omega), (hT.sub [3, 4, 5, 1, 2, 0] (by decide) rfl)⟩)
                  · skip
                    have c_169 := ni_eq c_169 rfl li_4
                    refine lv_bipush (v := (-2)) hx hb dX11_take_174 (by decide) ?_
                    refine lv_goto (tgt := 183) hx hb dX11_take_176 (by decide) ?_
                    exact tz_retI (B := B_cX11_take_344a2 D k h0 h1 h3 h18 h19 h20 h2 h4 h5 h6 h7 h8 h9 h10 h11 h12 h13 h14 h15 h16 h17 h21 x1 x2 h0f0 h0f1 h0f2 h0f3 h0f4 h0f5 h0f8 h0f9 h0f17 h0f18 h0f19 h0f24 h0f25 h0f30 h0f31 h18f0 h18f1 h18f2 h18f3 h19f0 h19f1 h19f2 h19f3) (v := (-2)) hQ hx hb hr hlocks hS (Nat.le_of_ble_eq_true rfl) (Nat.le_of_ble_eq_true rfl) dX11_take_183 (⟨h0f1, h0f9, h0f30, (by have := li_m2; omega), (by have := li_m2; omega), (by have := li_m2; omega), (by have := li_m2; omega), (by have := li_m2; omega), (by have := li_m2; omega), (hT.sub [4, 0, 5, 2, 3, 1] (by decide) rfl)⟩)
                · skip
                  have c_168 := nl_ne c_168 rfl ll_m1
                  refine lv_iconst (v := (-1)) hx hb dX11_take_164 (by decide) ?_
                  exact tz_retI (B := B_cX11_take_344a2 D k h0 h1 h3 h18 h19 h20 h2 h4 h5 h6 h7 h8 h9 h10 h11 h12 h13 h14 h15 h16 h17 h21 x1 x2 h0f0 h0f1 h0f2 h0f3 h0f4 h0f5 h0f8 h0f9 h0f17 h0f18 h0f19 h0f24 h0f25 h0f30 h0f31 h18f0 h18f1 h18f2 h18f3 h19f0 h19f1 h19f2 h19f3) (v := (-1)) hQ hx hb hr hlocks hS (Nat.le_of_ble_eq_true rfl) (Nat.le_of_ble_eq_true rfl) dX11_take_165 (⟨h0f1, h0f9, h0f30, (by have := li_m1; omega), (by have := li_m1; omega), (by have := li_m1; omega), (by have := li_m1; omega), (by have := li_m1; omega), (by have := li_m1; omega), (hT.sub [4, 0, 5, 2, 3, 1] (by decide) rfl)⟩)
          · skip
            have c_160 := ni_nle c_160 rfl rfl
            refine lv_aload_n hx hb dX11_take_50 rfl (lv_at hl 0 rfl) ?_
            refine tz_get (ci := 8) (v := .ref h20) (C := RX11) (F := TX11) (N := 36) hx hb hU iX11 hown hK hT 4 rfl rfl 34 (by decide) w819 (fun _ h9 => h9) rfl dX11_take_51 ?_
            refine lv_bipush (v := 40) hx hb dX11_take_54 (by decide) ?_
            refine lv_iload_n hx hb dX11_take_56 rfl (lv_at hl 1 rfl) ?_
            refine lv_imul hx hb dX11_take_57 (lv_topi (fun v172 e_v172 => ?_))
            have e_v172 := ai_mul e_v172 li_40 rfl (by omega)
            refine lv_iload_n hx hb dX11_take_58 rfl (lv_at hl 2 rfl) ?_
            refine lv_iadd hx hb dX11_take_59 (lv_topi (fun v173 e_v173 => ?_))
            have e_v173 := ai_add e_v173 rfl rfl (by omega)
            refine lv_iload hx hb dX11_take_60 (lv_at hl 4 rfl) ?_
            refine lv_iadd hx hb dX11_take_62 (lv_topi (fun v174 e_v174 => ?_))
            have e_v174 := ai_add e_v174 rfl rfl (by omega)
            refine tz_lald hx hb hK hT 1 rfl (by omega) dX11_take_63 (fun v175 e_v175 => ?_)
            clear e_v175
            refine lv_lstore (lv' := [(6, .long v175), (0, .ref h0), (1, .int x1), (2, .int x2), (4, .int y156), (5, .int y155)]) hx hb dX11_take_64 hl (by decide) rfl (fun ls hl => ?_)
            refine lv_iload hx hb dX11_take_66 (lv_at hl 4 rfl) ?_
            refine lv_if_eq (tgt := 89) hx hb dX11_take_68 (by decide) (fun c_176 => ?_) (fun c_176 => ?_)
            · skip
              have c_176 := ni_eq c_176 rfl li_0
              refine lv_iconst (v := 0) hx hb dX11_take_89 (by decide) ?_
              refine lv_istore (lv' := [(4, .int 0), (6, .long v175), (0, .ref h0), (1, .int x1), (2, .int x2), (5, .int y155)]) hx hb dX11_take_90 hl (by decide) rfl (fun ls hl => ?_)
              refine lv_aload_n hx hb dX11_take_92 rfl (lv_at hl 2 rfl) ?_
              refine tz_get (ci := 8) (v := .ref h3) (C := RX11) (F := TX11) (N := 36) hx hb hU iX11 hown hK hT 4 rfl rfl 10 (by decide) w795 (fun _ h9 => h9) rfl dX11_take_93 ?_
              refine lv_iconst (v := 3) hx hb dX11_take_96 (by decide) ?_
              refine lv_iload hx hb dX11_take_97 (lv_at hl 5 rfl) ?_
              refine lv_aload_n hx hb dX11_take_99 rfl (lv_at hl 2 rfl) ?_
              refine tz_get (ci := 8) (v := .int h0f0) (C := RX11) (F := TX11) (N := 36) hx hb hU iX11 hown hK hT 4 rfl rfl 0 (by decide) w785 (fun _ h9 => h9) rfl dX11_take_100 ?_
              refine lv_idiv hx hb dX11_take_103 (nz32 (y := 3) hq158 (by omega)) (lv_topi (fun v177 e_v177 => ?_))
              have e_v177 := ai_div e_v177 rfl hq158 (by omega)
              refine lv_imul hx hb dX11_take_104 (lv_topi (fun v178 e_v178 => ?_))
              have e_v178 := ai_mul e_v178 li_3 rfl (by omega)
              refine lv_iload hx hb dX11_take_105 (lv_at hl 5 rfl) ?_
              refine lv_aload_n hx hb dX11_take_107 rfl (lv_at hl 2 rfl) ?_
              refine tz_get (ci := 8) (v := .int h0f0) (C := RX11) (F := TX11) (N := 36) hx hb hU iX11 hown hK hT 4 rfl rfl 0 (by decide) w785 (fun _ h9 => h9) rfl dX11_take_108 ?_
              refine lv_irem hx hb dX11_take_111 (nz32 (y := 3) hq158 (by omega)) (lv_topi (fun v179 e_v179 => ?_))
              have e_v179 := ai_rem e_v179 rfl hq158 (by omega)
              refine lv_iadd hx hb dX11_take_112 (lv_topi (fun v180 e_v180 => ?_))
              have e_v180 := ai_add e_v180 rfl rfl (by omega)
              refine lv_iload hx hb dX11_take_113 (lv_at hl 0 rfl) ?_
              refine lv_if_eq (tgt := 123) hx hb dX11_take_115 (by decide) (fun _ => ?_) (fun cc => absurd (by decide +kernel) cc)
              refine lv_lconst (v := 0) hx hb dX11_take_123 (by decide) ?_
              refine tz_last hx hb hK hT hS 5 rfl (by omega) (fun _ _ => trivial) dX11_take_124 (fun H locs hT hS => ?_)
              obtain ⟨v181, e_v181⟩ : ∃ x : Int32, x = y155 + Int32.ofInt 1 := ⟨_, rfl⟩
              have f_v181 := e_v181.symm
              have e_v181 : v181.toInt = y155.toInt + 1 := ai_add e_v181 rfl (show (Int32.ofInt 1).toInt = 1 from (by decide +kernel)) (by omega)
              refine lv_iinc (v := v181) (lv' := [(5, .int v181), (4, .int 0), (6, .long v175), (0, .ref h0), (1, .int x1), (2, .int x2)]) hx hb dX11_take_125 hl (k := 5) rfl f_v181 (by decide) rfl (fun ls hl => ?_)
              refine lv_goto (tgt := 36) hx hb dX11_take_128 (by decide) ?_
              exact ih36_157 v181 (0) _ _ _ (by have := li_0; omega) (by have := li_0; omega)  (by have := li_0; omega) hT hS (lv_sub hl [3, 4, 5, 1, 0] rfl)
            · skip
              have c_176 := ni_ne c_176 rfl li_0
              refine lv_lload hx hb dX11_take_71 (lv_at hl 0 rfl) ?_
              refine lv_ldc2 hx hb hown (hU _ w910) dX11_take_73 ?_
              refine lv_ldc2 hx hb hown (hU _ w911) dX11_take_76 ?_
              have q_q183 := ll_m99
              have q_q184 := ll_99
              refine tcI (Tc := []) (Tr := [(h1, aI (k 0) 36 anI), (h20, aJ (k 1) 160 anJ), (h18, aI (k 0) 4 (vec4 h18f0 h18f1 h18f2 h18f3)), (h19, aI (k 0) 4 (vec4 h19f0 h19f1 h19f2 h19f3)), (h0, ob 8 [.int h0f0, .int h0f1, .int h0f2, .int h0f3, .int h0f4, .int h0f5, .ref h1, .ref h2, .int h0f8, .int h0f9, .ref h3, .ref h4, .ref h5, .ref h6, .ref h7, .ref h8, .ref h9, .int h0f17, .int h0f18, .int h0f19, .ref h10, .ref h11, .ref h12, .ref h13, .int h0f24, .int h0f25, .ref h14, .ref h15, .ref h16, .ref h17, .int h0f30, .int h0f31, .ref h18, .ref h19, .ref h20, .ref h21]), (h3, aJ (k 1) 9 anJ)]) (as := []) (zcS (As := [.long v175, .long (-99), .long 99]) (rest := []) (Tc := []) hx hb hml hown hU hK hT [] rfl (by decide) (cX11_in_ca3b9 l D k _ v175 ((-99)) (99) (by have := ll_m99; omega) (by have := ll_99; omega)) w901 w899 w900 w72 hdX11_in ⟨rfl, rfl⟩ ⟨Nat.le_of_ble_eq_true rfl, Nat.le_of_ble_eq_true rfl⟩ rfl hl.1 (Nat.le_of_ble_eq_true rfl) dX11_take_79 ⟨Nat.le_of_ble_eq_true rfl, Nat.le_of_ble_eq_true rfl⟩) hT hS hA [] [0, 1, 2, 3, 4, 5] rfl rfl rfl (by decide) (by decide) (fun r182 H locs hB J hS => ?_)
              rcases hB with ⟨rfl, hT1⟩ | ⟨c_185, c_186, rfl, hT1⟩
              · skip
                have hT := J _ hT1
                have hT : TP D A [(h1, aI (k 0) 36 anI), (h20, aJ (k 1) 160 anJ), (h18, aI (k 0) 4 (vec4 h18f0 h18f1 h18f2 h18f3)), (h19, aI (k 0) 4 (vec4 h19f0 h19f1 h19f2 h19f3)), (h0, ob 8 [.int h0f0, .int h0f1, .int h0f2, .int h0f3, .int h0f4, .int h0f5, .ref h1, .ref h2, .int h0f8, .int h0f9, .ref h3, .ref h4, .ref h5, .ref h6, .ref h7, .ref h8, .ref h9, .int h0f17, .int h0f18, .int h0f19, .ref h10, .ref h11, .ref h12, .ref h13, .int h0f24, .int h0f25, .ref h14, .ref h15, .ref h16, .ref h17, .int h0f30, .int h0f31, .ref h18, .ref h19, .ref h20, .ref h21]), (h3, aJ (k 1) 9 anJ)] _ := hT
                refine lv_if_eq (tgt := 89) hx hb dX11_take_82 (by decide) (fun _ => ?_) (fun cc => absurd (by decide +kernel) cc)
                refine lv_iconst (v := 0) hx hb dX11_take_89 (by decide) ?_
                refine lv_istore (lv' := [(4, .int 0), (6, .long v175), (0, .ref h0), (1, .int x1), (2, .int x2), (5, .int y155)]) hx hb dX11_take_90 hl (by decide) rfl (fun ls hl => ?_)
                refine lv_aload_n hx hb dX11_take_92 rfl (lv_at hl 2 rfl) ?_
                refine tz_get (ci := 8) (v := .ref h3) (C := RX11) (F := TX11) (N := 36) hx hb hU iX11 hown hK hT 4 rfl rfl 10 (by decide) w795 (fun _ h9 => h9) rfl dX11_take_93 ?_
                refine lv_iconst (v := 3) hx hb dX11_take_96 (by decide) ?_
                refine lv_iload hx hb dX11_take_97 (lv_at hl 5 rfl) ?_
                refine lv_aload_n hx hb dX11_take_99 rfl (lv_at hl 2 rfl) ?_
                refine tz_get (ci := 8) (v := .int h0f0) (C := RX11) (F := TX11) (N := 36) hx hb hU iX11 hown hK hT 4 rfl rfl 0 (by decide) w785 (fun _ h9 => h9) rfl dX11_take_100 ?_
                refine lv_idiv hx hb dX11_take_103 (nz32 (y := 3) hq158 (by omega)) (lv_topi (fun v187 e_v187 => ?_))
                have e_v187 := ai_div e_v187 rfl hq158 (by omega)
                refine lv_imul hx hb dX11_take_104 (lv_topi (fun v188 e_v188 => ?_))
                have e_v188 := ai_mul e_v188 li_3 rfl (by omega)
                refine lv_iload hx hb dX11_take_105 (lv_at hl 5 rfl) ?_
                refine lv_aload_n hx hb dX11_take_107 rfl (lv_at hl 2 rfl) ?_
                refine tz_get (ci := 8) (v := .int h0f0) (C := RX11) (F := TX11) (N := 36) hx hb hU iX11 hown hK hT 4 rfl rfl 0 (by decide) w785 (fun _ h9 => h9) rfl dX11_take_108 ?_
                refine lv_irem hx hb dX11_take_111 (nz32 (y := 3) hq158 (by omega)) (lv_topi (fun v189 e_v189 => ?_))
                have e_v189 := ai_rem e_v189 rfl hq158 (by omega)
                refine lv_iadd hx hb dX11_take_112 (lv_topi (fun v190 e_v190 => ?_))
                have e_v190 := ai_add e_v190 rfl rfl (by omega)
                refine lv_iload hx hb dX11_take_113 (lv_at hl 0 rfl) ?_
                refine lv_if_eq (tgt := 123) hx hb dX11_take_115 (by decide) (fun _ => ?_) (fun cc => absurd (by decide +kernel) cc)
                refine lv_lconst (v := 0) hx hb dX11_take_123 (by decide) ?_
                refine tz_last hx hb hK hT hS 5 rfl (by omega) (fun _ _ => trivial) dX11_take_124 (fun H locs hT hS => ?_)
                obtain ⟨v191, e_v191⟩ : ∃ x : Int32, x = y155 + Int32.ofInt 1 := ⟨_, rfl⟩
                have f_v191 := e_v191.symm
                have e_v191 : v191.toInt = y155.toInt + 1 := ai_add e_v191 rfl (show (Int32.ofInt 1).toInt = 1 from (by decide +kernel)) (by omega)
                refine lv_iinc (v := v191) (lv' := [(5, .int v191), (4, .int 0), (6, .long v175), (0, .ref h0), (1, .int x1), (2, .int x2)]) hx hb dX11_take_125 hl (k := 5) rfl f_v191 (by decide) rfl (fun ls hl => ?_)
                refine lv_goto (tgt := 36) hx hb dX11_take_128 (by decide) ?_
                exact ih36_157 v191 (0) _ _ _ (by have := li_0; omega) (by have := li_0; omega)  (by have := li_0; omega) hT hS (lv_sub hl [3, 4, 5, 1, 0] rfl)
              · skip
                have hT := J _ hT1
                have hT : TP D A [(h1, aI (k 0) 36 anI), (h20, aJ (k 1) 160 anJ), (h18, aI (k 0) 4 (vec4 h18f0 h18f1 h18f2 h18f3)), (h19, aI (k 0) 4 (vec4 h19f0 h19f1 h19f2 h19f3)), (h0, ob 8 [.int h0f0, .int h0f1, .int h0f2, .int h0f3, .int h0f4, .int h0f5, .ref h1, .ref h2, .int h0f8, .int h0f9, .ref h3, .ref h4, .ref h5, .ref h6, .ref h7, .ref h8, .ref h9, .int h0f17, .int h0f18, .int h0f19, .ref h10, .ref h11, .ref h12, .ref h13, .int h0f24, .int h0f25, .ref h14, .ref h15, .ref h16, .ref h17, .int h0f30, .int h0f31, .ref h18, .ref h19, .ref h20, .ref h21]), (h3, aJ (k 1) 9 anJ)] _ := hT
                refine lv_if_eq (tgt := 89) hx hb dX11_take_82 (by decide) (fun cc => absurd cc (by decide +kernel)) (fun _ => ?_)
                refine lv_iconst (v := 1) hx hb dX11_take_85 (by decide) ?_
                refine lv_goto (tgt := 90) hx hb dX11_take_86 (by decide) ?_
                refine lv_istore (lv' := [(4, .int 1), (6, .long v175), (0, .ref h0), (1, .int x1), (2, .int x2), (5, .int y155)]) hx hb dX11_take_90 hl (by decide) rfl (fun ls hl => ?_)
                refine lv_aload_n hx hb dX11_take_92 rfl (lv_at hl 2 rfl) ?_
                refine tz_get (ci := 8) (v := .ref h3) (C := RX11) (F := TX11) (N := 36) hx hb hU iX11 hown hK hT 4 rfl rfl 10 (by decide) w795 (fun _ h9 => h9) rfl dX11_take_93 ?_
                refine lv_iconst (v := 3) hx hb dX11_take_96 (by decide) ?_
                refine lv_iload hx hb dX11_take_97 (lv_at hl 5 rfl) ?_
                refine lv_aload_n hx hb dX11_take_99 rfl (lv_at hl 2 rfl) ?_
                refine tz_get (ci := 8) (v := .int h0f0) (C := RX11) (F := TX11) (N := 36) hx hb hU iX11 hown hK hT 4 rfl rfl 0 (by decide) w785 (fun _ h9 => h9) rfl dX11_take_100 ?_
                refine lv_idiv hx hb dX11_take_103 (nz32 (y := 3) hq158 (by omega)) (lv_topi (fun v192 e_v192 => ?_))
                have e_v192 := ai_div e_v192 rfl hq158 (by omega)
                refine lv_imul hx hb dX11_take_104 (lv_topi (fun v193 e_v193 => ?_))
                have e_v193 := ai_mul e_v193 li_3 rfl (by omega)
                refine lv_iload hx hb dX11_take_105 (lv_at hl 5 rfl) ?_
                refine lv_aload_n hx hb dX11_take_107 rfl (lv_at hl 2 rfl) ?_
                refine tz_get (ci := 8) (v := .int h0f0) (C := RX11) (F := TX11) (N := 36) hx hb hU iX11 hown hK hT 4 rfl rfl 0 (by decide) w785 (fun _ h9 => h9) rfl dX11_take_108 ?_
                refine lv_irem hx hb dX11_take_111 (nz32 (y := 3) hq158 (by omega)) (lv_topi (fun v194 e_v194 => ?_))
                have e_v194 := ai_rem e_v194 rfl hq158 (by omega)
                refine lv_iadd hx hb dX11_take_112 (lv_topi (fun v195 e_v195 => ?_))
                have e_v195 := ai_add e_v195 rfl rfl (by omega)
                refine lv_iload hx hb dX11_take_113 (lv_at hl 0 rfl) ?_
                refine lv_if_eq (tgt := 123) hx hb dX11_take_115 (by decide) (fun cc => absurd cc (by decide +kernel)) (fun _ => ?_)
                refine lv_lload hx hb dX11_take_118 (lv_at hl 1 rfl) ?_
                refine lv_goto (tgt := 124) hx hb dX11_take_120 (by decide) ?_
                refine tz_last hx hb hK hT hS 5 rfl (by omega) (fun _ _ => trivial) dX11_take_124 (fun H locs hT hS => ?_)
                obtain ⟨v196, e_v196⟩ : ∃ x : Int32, x = y155 + Int32.ofInt 1 := ⟨_, rfl⟩
                have f_v196 := e_v196.symm
                have e_v196 : v196.toInt = y155.toInt + 1 := ai_add e_v196 rfl (show (Int32.ofInt 1).toInt = 1 from (by decide +kernel)) (by omega)
                refine lv_iinc (v := v196) (lv' := [(5, .int v196), (4, .int 1), (6, .long v175), (0, .ref h0), (1, .int x1), (2, .int x2)]) hx hb dX11_take_125 hl (k := 5) rfl f_v196 (by decide) rfl (fun ls hl => ?_)
                refine lv_goto (tgt := 36) hx hb dX11_take_128 (by decide) ?_
                exact ih36_157 v196 (1) _ _ _ (by have := li_1; omega) (by have := li_1; omega)  (by have := li_1; omega) hT hS (lv_sub hl [3, 4, 5, 1, 0] rfl)
      exact lp36_157 ((3 * h0f0.toInt + (-1) * (0 : Int32).toInt + 1).toNat + 1) (0) (1) _ _ _ (by have := li_0; have := li_1; omega) (by have := li_0; have := li_1; omega)  (Nat.lt_succ_self _) hT hS (lv_sub hl [3, 4, 5, 1, 0] rfl)
abbrev Rm_cX10_many_4352d : Room := { frames := 0, cells := 0, slots := 0, locals := 0 }
abbrev B_cX10_many_4352d (D : va_G) (k : Nat → ClassId) (h0 h1 h3 h2 h4 h5 h6 h7 h8 h9 h10 h11 h12 h13 h15 h16 : Nat) (x1 : Int32) (h0f2 : Int32) (h0f6 : Int32) (h0f8 : Int32) (h0f11 : Int32) (h1f0 : Int32) (h1f1 : Int32) (h1f2 : Int32) (h3f1 : Int32) (h3f2 : Int32) (h3f3 : Int32) (A : Nat → Prop) (r : Int32) (H : Heap) : Prop := ((-1) ≤ r.toInt ∧ r.toInt ≤ 120) ∧ TP D A [(h0, ob 7 [.ref h1, .ref h2, .int h0f2, .ref h3, .ref h4, .ref h5, .int h0f6, .ref h6, .int h0f8, .null, .ref h7, .int h0f11, .ref h8, .ref h9, .ref h10, .ref h11, .ref h12]), (h1, ob 4 [.int h1f0, .int h1f1, .int h1f2, .ref h13]), (h3, ob 6 [.ref h15, .int h3f1, .int h3f2, .int h3f3, .ref h16])] H
set_option maxHeartbeats 4000000 in
set_option maxRecDepth 100000 in
theorem cX10_many_4352d (l : Launch) (D : va_G) (k : Nat → ClassId) (sz : Nat) (h0 h1 h3 h2 h4 h5 h6 h7 h8 h9 h10 h11 h12 h13 h15 h16 : Nat) (x1 : Int32) (h0f2 : Int32) (h0f6 : Int32) (h0f8 : Int32) (h0f11 : Int32) (h1f0 : Int32) (h1f1 : Int32) (h1f2 : Int32) (h3f1 : Int32) (h3f2 : Int32) (h3f3 : Int32) (b_h0f2 : 0 ≤ h0f2.toInt ∧ h0f2.toInt ≤ 1) (b_h0f6 : 0 ≤ h0f6.toInt ∧ h0f6.toInt ≤ 1) (b_h0f8 : 0 ≤ h0f8.toInt ∧ h0f8.toInt ≤ 1) (b_h0f11 : 0 ≤ h0f11.toInt ∧ h0f11.toInt ≤ 200) (b_h1f0 : 1 ≤ h1f0.toInt ∧ h1f0.toInt ≤ 3) (b_h1f1 : 0 ≤ h1f1.toInt ∧ h1f1.toInt ≤ 4) (b_h3f1 : 0 ≤ h3f1.toInt ∧ h3f1.toInt ≤ 120) (b_h3f2 : 0 ≤ h3f2.toInt ∧ h3f2.toInt ≤ 120) (b_h3f3 : 0 ≤ h3f3.toInt ∧ h3f3.toInt ≤ 4) : Met l yX10_many (Cond.code yX10_many cX10_many 2 (some .int) :: uw) Rm_cX10_many_4352d (pT D k sz [.ref h0, .int x1] [(h0, ob 7 [.ref h1, .ref h2, .int h0f2, .ref h3, .ref h4, .ref h5, .int h0f6, .ref h6, .int h0f8, .null, .ref h7, .int h0f11, .ref h8, .ref h9, .ref h10, .ref h11, .ref h12]), (h1, ob 4 [.int h1f0, .int h1f1, .int h1f2, .ref h13]), (h3, ob 6 [.ref h15, .int h3f1, .int h3f2, .int h3f3, .ref h16])]) (qI (B_cX10_many_4352d D k h0 h1 h3 h2 h4 h5 h6 h7 h8 h9 h10 h11 h12 h13 h15 h16 x1 h0f2 h0f6 h0f8 h0f11 h1f0 h1f1 h1f2 h3f1 h3f2 h3f3 (zA [h0, h1, h3] sz)) (zA [h0, h1, h3] sz)) 0 0 (zA [h0, h1, h3] sz) := by
  refine tz_begin (as := [h0, h1, h3]) (Qc := fun A => qI (B_cX10_many_4352d D k h0 h1 h3 h2 h4 h5 h6 h7 h8 h9 h10 h11 h12 h13 h15 h16 x1 h0f2 h0f6 h0f8 h0f11 h1f0 h1f1 h1f2 h3f1 h3f2 h3f3 A) A) (by decide +kernel) rfl (Nat.le_of_ble_eq_true rfl) ?_
  intro p e s m args below meth c ls A Q hx hb hr hml hown hlocks hin hU hK hT hS hA hl hQ
  have hl : lv_has ls 2 [(0, .ref h0), (1, .int x1)] := hl
  have hT : TP D A [(h0, ob 7 [.ref h1, .ref h2, .int h0f2, .ref h3, .ref h4, .ref h5, .int h0f6, .ref h6, .int h0f8, .null, .ref h7, .int h0f11, .ref h8, .ref h9, .ref h10, .ref h11, .ref h12]), (h1, ob 4 [.int h1f0, .int h1f1, .int h1f2, .ref h13]), (h3, ob 6 [.ref h15, .int h3f1, .int h3f2, .int h3f3, .ref h16])] s.heap := hT
  refine lv_iload_n hx hb dX10_many_0 rfl (lv_at hl 1 rfl) ?_
  rcases (show (x1.toInt < 0 ∨ 2 < x1.toInt) ∨ x1.toInt = 0 ∨ x1.toInt = 1 ∨ x1.toInt = 2 by omega) with c_1 | c_1 | c_1 | c_1
  · skip
    refine lv_tableOut (tgt := 52) hx hb dX10_many_1 c_1 (by decide) ?_
    refine lv_iconst (v := (-1)) hx hb dX10_many_52 (by decide) ?_
    exact tz_retI (B := B_cX10_many_4352d D k h0 h1 h3 h2 h4 h5 h6 h7 h8 h9 h10 h11 h12 h13 h15 h16 x1 h0f2 h0f6 h0f8 h0f11 h1f0 h1f1 h1f2 h3f1 h3f2 h3f3) (v := (-1)) hQ hx hb hr hlocks hS (Nat.le_of_ble_eq_true rfl) (Nat.le_of_ble_eq_true rfl) dX10_many_53 (⟨(by have := li_m1; omega), hT⟩)
  · skip
    refine lv_tableIn (tgt := 28) (off := 27) hx hb dX10_many_1 (by omega) (by omega) (by rw [c_1]; decide +kernel) (by decide) ?_
    refine lv_aload_n hx hb dX10_many_28 rfl (lv_at hl 0 rfl) ?_
    refine tz_get (ci := 7) (v := .ref h1) (C := RX10) (F := TX10) (N := 17) hx hb hU iX10 hown hK hT 0 rfl rfl 0 (by decide) w249 (fun _ h9 => h9) rfl dX10_many_29 ?_
    refine tz_get (ci := 4) (v := .int h1f0) (C := RX5) (F := TX5) (N := 4) hx hb hU iX5 hown hK hT 1 rfl rfl 0 (by decide) w93 (fun _ h9 => h9) rfl dX10_many_32 ?_
    exact tz_retI (B := B_cX10_many_4352d D k h0 h1 h3 h2 h4 h5 h6 h7 h8 h9 h10 h11 h12 h13 h15 h16 x1 h0f2 h0f6 h0f8 h0f11 h1f0 h1f1 h1f2 h3f1 h3f2 h3f3) (v := h1f0) hQ hx hb hr hlocks hS (Nat.le_of_ble_eq_true rfl) (Nat.le_of_ble_eq_true rfl) dX10_many_35 (⟨(by omega), hT⟩)
  · skip
    refine lv_tableIn (tgt := 36) (off := 35) hx hb dX10_many_1 (by omega) (by omega) (by rw [c_1]; decide +kernel) (by decide) ?_
    refine lv_aload_n hx hb dX10_many_36 rfl (lv_at hl 0 rfl) ?_
    refine tz_get (ci := 7) (v := .ref h1) (C := RX10) (F := TX10) (N := 17) hx hb hU iX10 hown hK hT 0 rfl rfl 0 (by decide) w249 (fun _ h9 => h9) rfl dX10_many_37 ?_
    refine tz_get (ci := 4) (v := .int h1f1) (C := RX5) (F := TX5) (N := 4) hx hb hU iX5 hown hK hT 1 rfl rfl 1 (by decide) w97 (fun _ h9 => h9) rfl dX10_many_40 ?_
    exact tz_retI (B := B_cX10_many_4352d D k h0 h1 h3 h2 h4 h5 h6 h7 h8 h9 h10 h11 h12 h13 h15 h16 x1 h0f2 h0f6 h0f8 h0f11 h1f0 h1f1 h1f2 h3f1 h3f2 h3f3) (v := h1f1) hQ hx hb hr hlocks hS (Nat.le_of_ble_eq_true rfl) (Nat.le_of_ble_eq_true rfl) dX10_many_43 (⟨(by omega), hT⟩)
  · skip
    refine lv_tableIn (tgt := 44) (off := 43) hx hb dX10_many_1 (by omega) (by omega) (by rw [c_1]; decide +kernel) (by decide) ?_
    refine lv_aload_n hx hb dX10_many_44 rfl (lv_at hl 0 rfl) ?_
    refine tz_get (ci := 7) (v := .ref h3) (C := RX10) (F := TX10) (N := 17) hx hb hU iX10 hown hK hT 0 rfl rfl 3 (by decide) w252 (fun _ h9 => h9) rfl dX10_many_45 ?_
    refine tz_get (ci := 6) (v := .int h3f1) (C := RX9) (F := TX9) (N := 5) hx hb hU iX9 hown hK hT 2 rfl rfl 1 (by decide) w122 (fun _ h9 => h9) rfl dX10_many_48 ?_
    exact tz_retI (B := B_cX10_many_4352d D k h0 h1 h3 h2 h4 h5 h6 h7 h8 h9 h10 h11 h12 h13 h15 h16 x1 h0f2 h0f6 h0f8 h0f11 h1f0 h1f1 h1f2 h3f1 h3f2 h3f3) (v := h3f1) hQ hx hb hr hlocks hS (Nat.le_of_ble_eq_true rfl) (Nat.le_of_ble_eq_true rfl) dX10_many_51 (⟨(by omega), hT⟩)
abbrev Rm_cX10_many_6babd : Room := { frames := 0, cells := 0, slots := 0, locals := 0 }
abbrev B_cX10_many_6babd (D : va_G) (k : Nat → ClassId) (h0 h1 h3 h2 h4 h5 h6 h7 h8 h9 h10 h11 h12 h13 h14 h16 h17 : Nat) (x1 : Int32) (h0f2 : Int32) (h0f6 : Int32) (h0f8 : Int32) (h0f11 : Int32) (h1f0 : Int32) (h1f1 : Int32) (h1f2 : Int32) (h3f1 : Int32) (h3f2 : Int32) (h3f3 : Int32) (A : Nat → Prop) (r : Int32) (H : Heap) : Prop := ((-1) ≤ r.toInt ∧ r.toInt ≤ 120) ∧ TP D A [(h0, ob 7 [.ref h1, .ref h2, .int h0f2, .ref h3, .ref h4, .ref h5, .int h0f6, .ref h6, .int h0f8, .ref h7, .ref h8, .int h0f11, .ref h9, .ref h10, .ref h11, .ref h12, .ref h13]), (h1, ob 4 [.int h1f0, .int h1f1, .int h1f2, .ref h14]), (h3, ob 6 [.ref h16, .int h3f1, .int h3f2, .int h3f3, .ref h17])] H
set_option maxHeartbeats 4000000 in
set_option maxRecDepth 100000 in
theorem cX10_many_6babd (l : Launch) (D : va_G) (k : Nat → ClassId) (sz : Nat) (h0 h1 h3 h2 h4 h5 h6 h7 h8 h9 h10 h11 h12 h13 h14 h16 h17 : Nat) (x1 : Int32) (h0f2 : Int32) (h0f6 : Int32) (h0f8 : Int32) (h0f11 : Int32) (h1f0 : Int32) (h1f1 : Int32) (h1f2 : Int32) (h3f1 : Int32) (h3f2 : Int32) (h3f3 : Int32) (b_h0f2 : 0 ≤ h0f2.toInt ∧ h0f2.toInt ≤ 1) (b_h0f6 : 0 ≤ h0f6.toInt ∧ h0f6.toInt ≤ 1) (b_h0f8 : 0 ≤ h0f8.toInt ∧ h0f8.toInt ≤ 1) (b_h0f11 : 0 ≤ h0f11.toInt ∧ h0f11.toInt ≤ 200) (b_h1f0 : 1 ≤ h1f0.toInt ∧ h1f0.toInt ≤ 3) (b_h1f1 : 0 ≤ h1f1.toInt ∧ h1f1.toInt ≤ 4) (b_h3f1 : 0 ≤ h3f1.toInt ∧ h3f1.toInt ≤ 120) (b_h3f2 : 0 ≤ h3f2.toInt ∧ h3f2.toInt ≤ 120) (b_h3f3 : 0 ≤ h3f3.toInt ∧ h3f3.toInt ≤ 4) : Met l yX10_many (Cond.code yX10_many cX10_many 2 (some .int) :: uw) Rm_cX10_many_6babd (pT D k sz [.ref h0, .int x1] [(h0, ob 7 [.ref h1, .ref h2, .int h0f2, .ref h3, .ref h4, .ref h5, .int h0f6, .ref h6, .int h0f8, .ref h7, .ref h8, .int h0f11, .ref h9, .ref h10, .ref h11, .ref h12, .ref h13]), (h1, ob 4 [.int h1f0, .int h1f1, .int h1f2, .ref h14]), (h3, ob 6 [.ref h16, .int h3f1, .int h3f2, .int h3f3, .ref h17])]) (qI (B_cX10_many_6babd D k h0 h1 h3 h2 h4 h5 h6 h7 h8 h9 h10 h11 h12 h13 h14 h16 h17 x1 h0f2 h0f6 h0f8 h0f11 h1f0 h1f1 h1f2 h3f1 h3f2 h3f3 (zA [h0, h1, h3] sz)) (zA [h0, h1, h3] sz)) 0 0 (zA [h0, h1, h3] sz) := by
  refine tz_begin (as := [h0, h1, h3]) (Qc := fun A => qI (B_cX10_many_6babd D k h0 h1 h3 h2 h4 h5 h6 h7 h8 h9 h10 h11 h12 h13 h14 h16 h17 x1 h0f2 h0f6 h0f8 h0f11 h1f0 h1f1 h1f2 h3f1 h3f2 h3f3 A) A) (by decide +kernel) rfl (Nat.le_of_ble_eq_true rfl) ?_
  intro p e s m args below meth c ls A Q hx hb hr hml hown hlocks hin hU hK hT hS hA hl hQ
  have hl : lv_has ls 2 [(0, .ref h0), (1, .int x1)] := hl
  have hT : TP D A [(h0, ob 7 [.ref h1, .ref h2, .int h0f2, .ref h3, .ref h4, .ref h5, .int h0f6, .ref h6, .int h0f8, .ref h7, .ref h8, .int h0f11, .ref h9, .ref h10, .ref h11, .ref h12, .ref h13]), (h1, ob 4 [.int h1f0, .int h1f1, .int h1f2, .ref h14]), (h3, ob 6 [.ref h16, .int h3f1, .int h3f2, .int h3f3, .ref h17])] s.heap := hT
  refine lv_iload_n hx hb dX10_many_0 rfl (lv_at hl 1 rfl) ?_
  rcases (show (x1.toInt < 0 ∨ 2 < x1.toInt) ∨ x1.toInt = 0 ∨ x1.toInt = 1 ∨ x1.toInt = 2 by omega) with c_1 | c_1 | c_1 | c_1
  · skip
    refine lv_tableOut (tgt := 52) hx hb dX10_many_1 c_1 (by decide) ?_
    refine lv_iconst (v := (-1)) hx hb dX10_many_52 (by decide) ?_
    exact tz_retI (B := B_cX10_many_6babd D k h0 h1 h3 h2 h4 h5 h6 h7 h8 h9 h10 h11 h12 h13 h14 h16 h17 x1 h0f2 h0f6 h0f8 h0f11 h1f0 h1f1 h1f2 h3f1 h3f2 h3f3) (v := (-1)) hQ hx hb hr hlocks hS (Nat.le_of_ble_eq_true rfl) (Nat.le_of_ble_eq_true rfl) dX10_many_53 (⟨(by have := li_m1; omega), hT⟩)
  · skip
    refine lv_tableIn (tgt := 28) (off := 27) hx hb dX10_many_1 (by omega) (by omega) (by rw [c_1]; decide +kernel) (by decide) ?_
    refine lv_aload_n hx hb dX10_many_28 rfl (lv_at hl 0 rfl) ?_
    refine tz_get (ci := 7) (v := .ref h1) (C := RX10) (F := TX10) (N := 17) hx hb hU iX10 hown hK hT 0 rfl rfl 0 (by decide) w249 (fun _ h9 => h9) rfl dX10_many_29 ?_
    refine tz_get (ci := 4) (v := .int h1f0) (C := RX5) (F := TX5) (N := 4) hx hb hU iX5 hown hK hT 1 rfl rfl 0 (by decide) w93 (fun _ h9 => h9) rfl dX10_many_32 ?_
    exact tz_retI (B := B_cX10_many_6babd D k h0 h1 h3 h2 h4 h5 h6 h7 h8 h9 h10 h11 h12 h13 h14 h16 h17 x1 h0f2 h0f6 h0f8 h0f11 h1f0 h1f1 h1f2 h3f1 h3f2 h3f3) (v := h1f0) hQ hx hb hr hlocks hS (Nat.le_of_ble_eq_true rfl) (Nat.le_of_ble_eq_true rfl) dX10_many_35 (⟨(by omega), hT⟩)
  · skip
    refine lv_tableIn (tgt := 36) (off := 35) hx hb dX10_many_1 (by omega) (by omega) (by rw [c_1]; decide +kernel) (by decide) ?_
    refine lv_aload_n hx hb dX10_many_36 rfl (lv_at hl 0 rfl) ?_
    refine tz_get (ci := 7) (v := .ref h1) (C := RX10) (F := TX10) (N := 17) hx hb hU iX10 hown hK hT 0 rfl rfl 0 (by decide) w249 (fun _ h9 => h9) rfl dX10_many_37 ?_
    refine tz_get (ci := 4) (v := .int h1f1) (C := RX5) (F := TX5) (N := 4) hx hb hU iX5 hown hK hT 1 rfl rfl 1 (by decide) w97 (fun _ h9 => h9) rfl dX10_many_40 ?_
    exact tz_retI (B := B_cX10_many_6babd D k h0 h1 h3 h2 h4 h5 h6 h7 h8 h9 h10 h11 h12 h13 h14 h16 h17 x1 h0f2 h0f6 h0f8 h0f11 h1f0 h1f1 h1f2 h3f1 h3f2 h3f3) (v := h1f1) hQ hx hb hr hlocks hS (Nat.le_of_ble_eq_true rfl) (Nat.le_of_ble_eq_true rfl) dX10_many_43 (⟨(by omega), hT⟩)
  · skip
    refine lv_tableIn (tgt := 44) (off := 43) hx hb dX10_many_1 (by omega) (by omega) (by rw [c_1]; decide +kernel) (by decide) ?_
    refine lv_aload_n hx hb dX10_many_44 rfl (lv_at hl 0 rfl) ?_
    refine tz_get (ci := 7) (v := .ref h3) (C := RX10) (F := TX10) (N := 17) hx hb hU iX10 hown hK hT 0 rfl rfl 3 (by decide) w252 (fun _ h9 => h9) rfl dX10_many_45 ?_
    refine tz_get (ci := 6) (v := .int h3f1) (C := RX9) (F := TX9) (N := 5) hx hb hU iX9 hown hK hT 2 rfl rfl 1 (by decide) w122 (fun _ h9 => h9) rfl dX10_many_48 ?_
    exact tz_retI (B := B_cX10_many_6babd D k h0 h1 h3 h2 h4 h5 h6 h7 h8 h9 h10 h11 h12 h13 h14 h16 h17 x1 h0f2 h0f6 h0f8 h0f11 h1f0 h1f1 h1f2 h3f1 h3f2 h3f3) (v := h3f1) hQ hx hb hr hlocks hS (Nat.le_of_ble_eq_true rfl) (Nat.le_of_ble_eq_true rfl) dX10_many_51 (⟨(by omega), hT⟩)
abbrev Rm_cX11_many_c7b03 : Room := { frames := 0, cells := 0, slots := 0, locals := 0 }
abbrev B_cX11_many_c7b03 (D : va_G) (k : Nat → ClassId) (h0 h1 h2 h3 h4 h5 h6 h7 h8 h9 h10 h11 h12 h13 h14 h15 h16 h17 h18 h19 h20 h21 : Nat) (x1 : Int32) (h0f0 : Int32) (h0f1 : Int32) (h0f2 : Int32) (h0f3 : Int32) (h0f4 : Int32) (h0f5 : Int32) (h0f8 : Int32) (h0f9 : Int32) (h0f17 : Int32) (h0f18 : Int32) (h0f19 : Int32) (h0f24 : Int32) (h0f25 : Int32) (h0f30 : Int32) (h0f31 : Int32) (A : Nat → Prop) (r : Int32) (H : Heap) : Prop := ((-1) ≤ r.toInt ∧ r.toInt ≤ 120) ∧ TP D A [(h0, ob 8 [.int h0f0, .int h0f1, .int h0f2, .int h0f3, .int h0f4, .int h0f5, .ref h1, .ref h2, .int h0f8, .int h0f9, .ref h3, .ref h4, .ref h5, .ref h6, .ref h7, .ref h8, .ref h9, .int h0f17, .int h0f18, .int h0f19, .ref h10, .ref h11, .ref h12, .ref h13, .int h0f24, .int h0f25, .ref h14, .ref h15, .ref h16, .ref h17, .int h0f30, .int h0f31, .ref h18, .ref h19, .ref h20, .ref h21])] H
set_option maxHeartbeats 4000000 in
set_option maxRecDepth 100000 in
theorem cX11_many_c7b03 (l : Launch) (D : va_G) (k : Nat → ClassId) (sz : Nat) (h0 h1 h2 h3 h4 h5 h6 h7 h8 h9 h10 h11 h12 h13 h14 h15 h16 h17 h18 h19 h20 h21 : Nat) (x1 : Int32) (h0f0 : Int32) (h0f1 : Int32) (h0f2 : Int32) (h0f3 : Int32) (h0f4 : Int32) (h0f5 : Int32) (h0f8 : Int32) (h0f9 : Int32) (h0f17 : Int32) (h0f18 : Int32) (h0f19 : Int32) (h0f24 : Int32) (h0f25 : Int32) (h0f30 : Int32) (h0f31 : Int32) (b_h0f0 : 1 ≤ h0f0.toInt ∧ h0f0.toInt ≤ 3) (b_h0f1 : 0 ≤ h0f1.toInt ∧ h0f1.toInt ≤ 4) (b_h0f3 : 0 ≤ h0f3.toInt ∧ h0f3.toInt ≤ 3) (b_h0f4 : 0 ≤ h0f4.toInt ∧ h0f4.toInt ≤ 4) (b_h0f8 : 0 ≤ h0f8.toInt ∧ h0f8.toInt ≤ 1) (b_h0f9 : 0 ≤ h0f9.toInt ∧ h0f9.toInt ≤ 1) (b_h0f17 : 0 ≤ h0f17.toInt ∧ h0f17.toInt ≤ 120) (b_h0f18 : 0 ≤ h0f18.toInt ∧ h0f18.toInt ≤ 120) (b_h0f19 : 0 ≤ h0f19.toInt ∧ h0f19.toInt ≤ 4) (b_h0f24 : 0 ≤ h0f24.toInt ∧ h0f24.toInt ≤ 100) (b_h0f25 : 0 ≤ h0f25.toInt ∧ h0f25.toInt ≤ 1) (b_h0f30 : 0 ≤ h0f30.toInt ∧ h0f30.toInt ≤ 60) (b_h0f31 : 0 ≤ h0f31.toInt ∧ h0f31.toInt ≤ 1) (i_0 : h0f8.toInt ≤ h0f3.toInt) (i_1 : h0f9.toInt ≤ h0f24.toInt) : Met l yX11_many (Cond.code yX11_many cX11_many 2 (some .int) :: uw) Rm_cX11_many_c7b03 (pT D k sz [.ref h0, .int x1] [(h0, ob 8 [.int h0f0, .int h0f1, .int h0f2, .int h0f3, .int h0f4, .int h0f5, .ref h1, .ref h2, .int h0f8, .int h0f9, .ref h3, .ref h4, .ref h5, .ref h6, .ref h7, .ref h8, .ref h9, .int h0f17, .int h0f18, .int h0f19, .ref h10, .ref h11, .ref h12, .ref h13, .int h0f24, .int h0f25, .ref h14, .ref h15, .ref h16, .ref h17, .int h0f30, .int h0f31, .ref h18, .ref h19, .ref h20, .ref h21])]) (qI (B_cX11_many_c7b03 D k h0 h1 h2 h3 h4 h5 h6 h7 h8 h9 h10 h11 h12 h13 h14 h15 h16 h17 h18 h19 h20 h21 x1 h0f0 h0f1 h0f2 h0f3 h0f4 h0f5 h0f8 h0f9 h0f17 h0f18 h0f19 h0f24 h0f25 h0f30 h0f31 (zA [h0] sz)) (zA [h0] sz)) 0 0 (zA [h0] sz) := by
  refine tz_begin (as := [h0]) (Qc := fun A => qI (B_cX11_many_c7b03 D k h0 h1 h2 h3 h4 h5 h6 h7 h8 h9 h10 h11 h12 h13 h14 h15 h16 h17 h18 h19 h20 h21 x1 h0f0 h0f1 h0f2 h0f3 h0f4 h0f5 h0f8 h0f9 h0f17 h0f18 h0f19 h0f24 h0f25 h0f30 h0f31 A) A) (by decide +kernel) rfl (Nat.le_of_ble_eq_true rfl) ?_
  intro p e s m args below meth c ls A Q hx hb hr hml hown hlocks hin hU hK hT hS hA hl hQ
  have hl : lv_has ls 2 [(0, .ref h0), (1, .int x1)] := hl
  have hT : TP D A [(h0, ob 8 [.int h0f0, .int h0f1, .int h0f2, .int h0f3, .int h0f4, .int h0f5, .ref h1, .ref h2, .int h0f8, .int h0f9, .ref h3, .ref h4, .ref h5, .ref h6, .ref h7, .ref h8, .ref h9, .int h0f17, .int h0f18, .int h0f19, .ref h10, .ref h11, .ref h12, .ref h13, .int h0f24, .int h0f25, .ref h14, .ref h15, .ref h16, .ref h17, .int h0f30, .int h0f31, .ref h18, .ref h19, .ref h20, .ref h21])] s.heap := hT
  refine lv_iload_n hx hb dX11_many_0 rfl (lv_at hl 1 rfl) ?_
  rcases (show (x1.toInt < 0 ∨ 2 < x1.toInt) ∨ x1.toInt = 0 ∨ x1.toInt = 1 ∨ x1.toInt = 2 by omega) with c_1 | c_1 | c_1 | c_1
  · skip
    refine lv_tableOut (tgt := 43) hx hb dX11_many_1 c_1 (by decide) ?_
    refine lv_iconst (v := (-1)) hx hb dX11_many_43 (by decide) ?_
    exact tz_retI (B := B_cX11_many_c7b03 D k h0 h1 h2 h3 h4 h5 h6 h7 h8 h9 h10 h11 h12 h13 h14 h15 h16 h17 h18 h19 h20 h21 x1 h0f0 h0f1 h0f2 h0f3 h0f4 h0f5 h0f8 h0f9 h0f17 h0f18 h0f19 h0f24 h0f25 h0f30 h0f31) (v := (-1)) hQ hx hb hr hlocks hS (Nat.le_of_ble_eq_true rfl) (Nat.le_of_ble_eq_true rfl) dX11_many_44 (⟨(by have := li_m1; omega), hT⟩)
  · skip
    refine lv_tableIn (tgt := 28) (off := 27) hx hb dX11_many_1 (by omega) (by omega) (by rw [c_1]; decide +kernel) (by decide) ?_
    refine lv_aload_n hx hb dX11_many_28 rfl (lv_at hl 0 rfl) ?_
    refine tz_get (ci := 8) (v := .int h0f0) (C := RX11) (F := TX11) (N := 36) hx hb hU iX11 hown hK hT 0 rfl rfl 0 (by decide) w785 (fun _ h9 => h9) rfl dX11_many_29 ?_
    exact tz_retI (B := B_cX11_many_c7b03 D k h0 h1 h2 h3 h4 h5 h6 h7 h8 h9 h10 h11 h12 h13 h14 h15 h16 h17 h18 h19 h20 h21 x1 h0f0 h0f1 h0f2 h0f3 h0f4 h0f5 h0f8 h0f9 h0f17 h0f18 h0f19 h0f24 h0f25 h0f30 h0f31) (v := h0f0) hQ hx hb hr hlocks hS (Nat.le_of_ble_eq_true rfl) (Nat.le_of_ble_eq_true rfl) dX11_many_32 (⟨(by omega), hT⟩)
  · skip
    refine lv_tableIn (tgt := 33) (off := 32) hx hb dX11_many_1 (by omega) (by omega) (by rw [c_1]; decide +kernel) (by decide) ?_
    refine lv_aload_n hx hb dX11_many_33 rfl (lv_at hl 0 rfl) ?_
    refine tz_get (ci := 8) (v := .int h0f1) (C := RX11) (F := TX11) (N := 36) hx hb hU iX11 hown hK hT 0 rfl rfl 1 (by decide) w786 (fun _ h9 => h9) rfl dX11_many_34 ?_
    exact tz_retI (B := B_cX11_many_c7b03 D k h0 h1 h2 h3 h4 h5 h6 h7 h8 h9 h10 h11 h12 h13 h14 h15 h16 h17 h18 h19 h20 h21 x1 h0f0 h0f1 h0f2 h0f3 h0f4 h0f5 h0f8 h0f9 h0f17 h0f18 h0f19 h0f24 h0f25 h0f30 h0f31) (v := h0f1) hQ hx hb hr hlocks hS (Nat.le_of_ble_eq_true rfl) (Nat.le_of_ble_eq_true rfl) dX11_many_37 (⟨(by omega), hT⟩)
  · skip
    refine lv_tableIn (tgt := 38) (off := 37) hx hb dX11_many_1 (by omega) (by omega) (by rw [c_1]; decide +kernel) (by decide) ?_
    refine lv_aload_n hx hb dX11_many_38 rfl (lv_at hl 0 rfl) ?_
    refine tz_get (ci := 8) (v := .int h0f17) (C := RX11) (F := TX11) (N := 36) hx hb hU iX11 hown hK hT 0 rfl rfl 17 (by decide) w802 (fun _ h9 => h9) rfl dX11_many_39 ?_
    exact tz_retI (B := B_cX11_many_c7b03 D k h0 h1 h2 h3 h4 h5 h6 h7 h8 h9 h10 h11 h12 h13 h14 h15 h16 h17 h18 h19 h20 h21 x1 h0f0 h0f1 h0f2 h0f3 h0f4 h0f5 h0f8 h0f9 h0f17 h0f18 h0f19 h0f24 h0f25 h0f30 h0f31) (v := h0f17) hQ hx hb hr hlocks hS (Nat.le_of_ble_eq_true rfl) (Nat.le_of_ble_eq_true rfl) dX11_many_42 (⟨(by omega), hT⟩)
abbrev Rm_cX5_become_2c604 : Room := { frames := 1, cells := 0, slots := 0, locals := 26 }
abbrev B_cX5_become_2c604 (D : va_G) (k : Nat → ClassId) (h0 h1 h2 h3 : Nat) (h0f0 : Int32) (h0f1 : Int32) (h0f2 : Int32) (h1f0 : Int32) (h1f1 : Int32) (h1f2 : Int32) (A : Nat → Prop) (H : Heap) : Prop := TP D A [(h0, ob 4 [.int h1f0, .int h1f1, .int h1f2, .ref h2]), (h1, ob 4 [.int h1f0, .int h1f1, .int h1f2, .ref h3]), (h2, aJ (k 1) 36 anJ), (h3, aJ (k 1) 36 anJ)] H
set_option maxHeartbeats 4000000 in
set_option maxRecDepth 100000 in
theorem cX5_become_2c604 (l : Launch) (D : va_G) (k : Nat → ClassId) (sz : Nat) (h0 h1 h2 h3 : Nat) (h0f0 : Int32) (h0f1 : Int32) (h0f2 : Int32) (h1f0 : Int32) (h1f1 : Int32) (h1f2 : Int32) (b_h0f0 : 1 ≤ h0f0.toInt ∧ h0f0.toInt ≤ 3) (b_h0f1 : 0 ≤ h0f1.toInt ∧ h0f1.toInt ≤ 4) (b_h1f0 : 1 ≤ h1f0.toInt ∧ h1f0.toInt ≤ 3) (b_h1f1 : 0 ≤ h1f1.toInt ∧ h1f1.toInt ≤ 4) : Met l yX5_become (Cond.code yX5_become cX5_become 2 none :: uw) Rm_cX5_become_2c604 (pT D k sz [.ref h0, .ref h1] [(h0, ob 4 [.int h0f0, .int h0f1, .int h0f2, .ref h2]), (h1, ob 4 [.int h1f0, .int h1f1, .int h1f2, .ref h3]), (h2, aJ (k 1) 36 anJ), (h3, aJ (k 1) 36 anJ)]) (qV (B_cX5_become_2c604 D k h0 h1 h2 h3 h0f0 h0f1 h0f2 h1f0 h1f1 h1f2 (zA [h0, h1, h2, h3] sz)) (zA [h0, h1, h2, h3] sz)) 0 0 (zA [h0, h1, h2, h3] sz) := by
  refine tz_begin (as := [h0, h1, h2, h3]) (Qc := fun A => qV (B_cX5_become_2c604 D k h0 h1 h2 h3 h0f0 h0f1 h0f2 h1f0 h1f1 h1f2 A) A) (by decide +kernel) rfl (Nat.le_of_ble_eq_true rfl) ?_
  intro p e s m args below meth c ls A Q hx hb hr hml hown hlocks hin hU hK hT hS hA hl hQ
  have hl : lv_has ls 2 [(0, .ref h0), (1, .ref h1)] := hl
  have hT : TP D A [(h0, ob 4 [.int h0f0, .int h0f1, .int h0f2, .ref h2]), (h1, ob 4 [.int h1f0, .int h1f1, .int h1f2, .ref h3]), (h2, aJ (k 1) 36 anJ), (h3, aJ (k 1) 36 anJ)] s.heap := hT
  refine lv_aload_n hx hb dX5_become_0 rfl (lv_at hl 0 rfl) ?_
  refine lv_aload_n hx hb dX5_become_1 rfl (lv_at hl 1 rfl) ?_
  refine tz_get (ci := 4) (v := .int h1f0) (C := RX5) (F := TX5) (N := 4) hx hb hU iX5 hown hK hT 1 rfl rfl 0 (by decide) w92 (fun _ h9 => h9) rfl dX5_become_2 ?_
  refine tz_put (ci := 4) (v := .int h1f0) (ty := .int) (C := RX5) (F := TX5) (N := 4) hx hb hU iX5 tyX5 tyX5_ok nmX5 hown hK hT hS 0 rfl rfl 0 (by decide) w92 (fun _ h9 => h9) rfl (by decide +kernel) rfl rfl (Nat.le_of_ble_eq_true rfl) dX5_become_5 (fun H locs hT hS => ?_)
  have hT : TP D A [(h0, ob 4 [.int h1f0, .int h0f1, .int h0f2, .ref h2]), (h1, ob 4 [.int h1f0, .int h1f1, .int h1f2, .ref h3]), (h2, aJ (k 1) 36 anJ), (h3, aJ (k 1) 36 anJ)] _ := hT
  refine lv_aload_n hx hb dX5_become_8 rfl (lv_at hl 0 rfl) ?_
  refine lv_aload_n hx hb dX5_become_9 rfl (lv_at hl 1 rfl) ?_
  refine tz_get (ci := 4) (v := .int h1f1) (C := RX5) (F := TX5) (N := 4) hx hb hU iX5 hown hK hT 1 rfl rfl 1 (by decide) w96 (fun _ h9 => h9) rfl dX5_become_10 ?_
  refine tz_put (ci := 4) (v := .int h1f1) (ty := .int) (C := RX5) (F := TX5) (N := 4) hx hb hU iX5 tyX5 tyX5_ok nmX5 hown hK hT hS 0 rfl rfl 1 (by decide) w96 (fun _ h9 => h9) rfl (by decide +kernel) rfl rfl (Nat.le_of_ble_eq_true rfl) dX5_become_13 (fun H locs hT hS => ?_)
  have hT : TP D A [(h0, ob 4 [.int h1f0, .int h1f1, .int h0f2, .ref h2]), (h1, ob 4 [.int h1f0, .int h1f1, .int h1f2, .ref h3]), (h2, aJ (k 1) 36 anJ), (h3, aJ (k 1) 36 anJ)] _ := hT
  refine lv_aload_n hx hb dX5_become_16 rfl (lv_at hl 0 rfl) ?_
  refine lv_aload_n hx hb dX5_become_17 rfl (lv_at hl 1 rfl) ?_
  refine tz_get (ci := 4) (v := .int h1f2) (C := RX5) (F := TX5) (N := 4) hx hb hU iX5 hown hK hT 1 rfl rfl 2 (by decide) w98 (fun _ h9 => h9) rfl dX5_become_18 ?_
  refine tz_put (ci := 4) (v := .int h1f2) (ty := .int) (C := RX5) (F := TX5) (N := 4) hx hb hU iX5 tyX5 tyX5_ok nmX5 hown hK hT hS 0 rfl rfl 2 (by decide) w98 (fun _ h9 => h9) rfl (by decide +kernel) rfl rfl (Nat.le_of_ble_eq_true rfl) dX5_become_21 (fun H locs hT hS => ?_)
  have hT : TP D A [(h0, ob 4 [.int h1f0, .int h1f1, .int h1f2, .ref h2]), (h1, ob 4 [.int h1f0, .int h1f1, .int h1f2, .ref h3]), (h2, aJ (k 1) 36 anJ), (h3, aJ (k 1) 36 anJ)] _ := hT
  refine lv_aload_n hx hb dX5_become_24 rfl (lv_at hl 1 rfl) ?_
  refine tz_get (ci := 4) (v := .ref h3) (C := RX5) (F := TX5) (N := 4) hx hb hU iX5 hown hK hT 1 rfl rfl 3 (by decide) w100 (fun _ h9 => h9) rfl dX5_become_25 ?_
  refine lv_iconst (v := 0) hx hb dX5_become_28 (by decide) ?_
  refine lv_aload_n hx hb dX5_become_29 rfl (lv_at hl 0 rfl) ?_
  refine tz_get (ci := 4) (v := .ref h2) (C := RX5) (F := TX5) (N := 4) hx hb hU iX5 hown hK hT 0 rfl rfl 3 (by decide) w100 (fun _ h9 => h9) rfl dX5_become_30 ?_
  refine lv_iconst (v := 0) hx hb dX5_become_33 (by decide) ?_
  refine lv_aload_n hx hb dX5_become_34 rfl (lv_at hl 0 rfl) ?_
  refine tz_get (ci := 4) (v := .ref h2) (C := RX5) (F := TX5) (N := 4) hx hb hU iX5 hown hK hT 0 rfl rfl 3 (by decide) w100 (fun _ h9 => h9) rfl dX5_become_35 ?_
  refine tz_alenl (v := 36) hx hb hK hT 2 rfl (by decide +kernel) dX5_become_38 ?_
  refine tz_copyl hx hb (by rw [hml]; exact hl.1.symm) hown hU w346 w348 w347 w75 hK hT hS 3 2 rfl rfl (by have := li_0; have := li_36; omega) (fun _ _ _ _ => trivial) (Nat.le_of_ble_eq_true rfl) (Nat.le_of_ble_eq_true rfl) dX5_become_39 (fun H locs hT hS => ?_)
  exact tz_retV (B := B_cX5_become_2c604 D k h0 h1 h2 h3 h0f0 h0f1 h0f2 h1f0 h1f1 h1f2) hQ hx hb hr hlocks hS (Nat.le_of_ble_eq_true rfl) (Nat.le_of_ble_eq_true rfl) dX5_become_42 (hT)
abbrev Rm_cX10_keep_43ee8 : Room := { frames := 2, cells := 0, slots := 0, locals := 47 }
abbrev B_cX10_keep_43ee8 (D : va_G) (k : Nat → ClassId) (h0 h1 h2 h13 h14 h3 h4 h5 h6 h7 h8 h9 h10 h11 h12 : Nat) (h0f2 : Int32) (h0f6 : Int32) (h0f8 : Int32) (h0f11 : Int32) (h1f0 : Int32) (h1f1 : Int32) (h1f2 : Int32) (h2f0 : Int32) (h2f1 : Int32) (h2f2 : Int32) (A : Nat → Prop) (r : Int32) (H : Heap) : Prop := 1 = r ∧ TP D A [(h0, ob 7 [.ref h1, .ref h2, .int 1, .ref h3, .ref h4, .ref h5, .int h0f6, .ref h6, .int h0f8, .null, .ref h7, .int h0f11, .ref h8, .ref h9, .ref h10, .ref h11, .ref h12]), (h1, ob 4 [.int h1f0, .int h1f1, .int h1f2, .ref h13]), (h2, ob 4 [.int h1f0, .int h1f1, .int h1f2, .ref h14]), (h13, aJ (k 1) 36 anJ), (h14, aJ (k 1) 36 anJ)] H
set_option maxHeartbeats 4000000 in
set_option maxRecDepth 100000 in
theorem cX10_keep_43ee8 (l : Launch) (D : va_G) (k : Nat → ClassId) (sz : Nat) (h0 h1 h2 h13 h14 h3 h4 h5 h6 h7 h8 h9 h10 h11 h12 : Nat) (h0f2 : Int32) (h0f6 : Int32) (h0f8 : Int32) (h0f11 : Int32) (h1f0 : Int32) (h1f1 : Int32) (h1f2 : Int32) (h2f0 : Int32) (h2f1 : Int32) (h2f2 : Int32) (b_h0f2 : 0 ≤ h0f2.toInt ∧ h0f2.toInt ≤ 1) (b_h0f6 : 0 ≤ h0f6.toInt ∧ h0f6.toInt ≤ 1) (b_h0f8 : 0 ≤ h0f8.toInt ∧ h0f8.toInt ≤ 1) (b_h0f11 : 0 ≤ h0f11.toInt ∧ h0f11.toInt ≤ 200) (b_h1f0 : 1 ≤ h1f0.toInt ∧ h1f0.toInt ≤ 3) (b_h1f1 : 0 ≤ h1f1.toInt ∧ h1f1.toInt ≤ 4) (b_h2f0 : 1 ≤ h2f0.toInt ∧ h2f0.toInt ≤ 3) (b_h2f1 : 0 ≤ h2f1.toInt ∧ h2f1.toInt ≤ 4) : Met l yX10_keep (Cond.code yX10_keep cX10_keep 1 (some .int) :: uw) Rm_cX10_keep_43ee8 (pT D k sz [.ref h0] [(h0, ob 7 [.ref h1, .ref h2, .int h0f2, .ref h3, .ref h4, .ref h5, .int h0f6, .ref h6, .int h0f8, .null, .ref h7, .int h0f11, .ref h8, .ref h9, .ref h10, .ref h11, .ref h12]), (h1, ob 4 [.int h1f0, .int h1f1, .int h1f2, .ref h13]), (h2, ob 4 [.int h2f0, .int h2f1, .int h2f2, .ref h14]), (h13, aJ (k 1) 36 anJ), (h14, aJ (k 1) 36 anJ)]) (qI (B_cX10_keep_43ee8 D k h0 h1 h2 h13 h14 h3 h4 h5 h6 h7 h8 h9 h10 h11 h12 h0f2 h0f6 h0f8 h0f11 h1f0 h1f1 h1f2 h2f0 h2f1 h2f2 (zA [h0, h1, h2, h13, h14] sz)) (zA [h0, h1, h2, h13, h14] sz)) 0 0 (zA [h0, h1, h2, h13, h14] sz) := by
  refine tz_begin (as := [h0, h1, h2, h13, h14]) (Qc := fun A => qI (B_cX10_keep_43ee8 D k h0 h1 h2 h13 h14 h3 h4 h5 h6 h7 h8 h9 h10 h11 h12 h0f2 h0f6 h0f8 h0f11 h1f0 h1f1 h1f2 h2f0 h2f1 h2f2 A) A) (by decide +kernel) rfl (Nat.le_of_ble_eq_true rfl) ?_
  intro p e s m args below meth c ls A Q hx hb hr hml hown hlocks hin hU hK hT hS hA hl hQ
  have hl : lv_has ls 1 [(0, .ref h0)] := hl
  have hT : TP D A [(h0, ob 7 [.ref h1, .ref h2, .int h0f2, .ref h3, .ref h4, .ref h5, .int h0f6, .ref h6, .int h0f8, .null, .ref h7, .int h0f11, .ref h8, .ref h9, .ref h10, .ref h11, .ref h12]), (h1, ob 4 [.int h1f0, .int h1f1, .int h1f2, .ref h13]), (h2, ob 4 [.int h2f0, .int h2f1, .int h2f2, .ref h14]), (h13, aJ (k 1) 36 anJ), (h14, aJ (k 1) 36 anJ)] s.heap := hT
  refine lv_aload_n hx hb dX10_keep_0 rfl (lv_at hl 0 rfl) ?_
  refine tz_get (ci := 7) (v := .ref h2) (C := RX10) (F := TX10) (N := 17) hx hb hU iX10 hown hK hT 0 rfl rfl 1 (by decide) w250 (fun _ h9 => h9) rfl dX10_keep_1 ?_
  refine lv_aload_n hx hb dX10_keep_4 rfl (lv_at hl 0 rfl) ?_
  refine tz_get (ci := 7) (v := .ref h1) (C := RX10) (F := TX10) (N := 17) hx hb hU iX10 hown hK hT 0 rfl rfl 0 (by decide) w249 (fun _ h9 => h9) rfl dX10_keep_5 ?_
  refine tcV (Tc := [(h2, ob 4 [.int h2f0, .int h2f1, .int h2f2, .ref h14]), (h1, ob 4 [.int h1f0, .int h1f1, .int h1f2, .ref h13]), (h14, aJ (k 1) 36 anJ), (h13, aJ (k 1) 36 anJ)]) (Tr := [(h0, ob 7 [.ref h1, .ref h2, .int h0f2, .ref h3, .ref h4, .ref h5, .int h0f6, .ref h6, .int h0f8, .null, .ref h7, .int h0f11, .ref h8, .ref h9, .ref h10, .ref h11, .ref h12])]) (as := [h2, h1, h14, h13]) (zcV (q0 := 2) (ci := 4) (As := [.ref h1]) (rest := []) (Tc := [(h2, ob 4 [.int h2f0, .int h2f1, .int h2f2, .ref h14]), (h1, ob 4 [.int h1f0, .int h1f1, .int h1f2, .ref h13]), (h14, aJ (k 1) 36 anJ), (h13, aJ (k 1) 36 anJ)]) hx hb hml hown hU hK hT rfl rfl [2, 1, 4, 3] rfl (by decide) (cX5_become_2c604 l D k _ h2 h1 h14 h13 h2f0 h2f1 h2f2 h1f0 h1f1 h1f2 (by omega) (by omega) (by omega) (by omega)) w774 w771 w772 w773 w64 hdX5_become ⟨rfl, rfl⟩ ⟨Nat.le_of_ble_eq_true rfl, Nat.le_of_ble_eq_true rfl⟩ rfl hl.1 (Nat.le_of_ble_eq_true rfl) dX10_keep_8 ⟨Nat.le_of_ble_eq_true rfl, Nat.le_of_ble_eq_true rfl⟩) hT hS hA [2, 1, 4, 3] [0] rfl rfl rfl (by decide) (by decide) (fun H locs hB J hS => ?_)
  have hT1 := hB
  have hT := J _ hT1
  have hT : TP D A [(h0, ob 7 [.ref h1, .ref h2, .int h0f2, .ref h3, .ref h4, .ref h5, .int h0f6, .ref h6, .int h0f8, .null, .ref h7, .int h0f11, .ref h8, .ref h9, .ref h10, .ref h11, .ref h12]), (h2, ob 4 [.int h1f0, .int h1f1, .int h1f2, .ref h14]), (h1, ob 4 [.int h1f0, .int h1f1, .int h1f2, .ref h13]), (h14, aJ (k 1) 36 anJ), (h13, aJ (k 1) 36 anJ)] _ := hT
  refine lv_aload_n hx hb dX10_keep_11 rfl (lv_at hl 0 rfl) ?_
  refine lv_iconst (v := 1) hx hb dX10_keep_12 (by decide) ?_
  refine tz_put (ci := 7) (v := .int 1) (ty := .boolean) (C := RX10) (F := TX10) (N := 17) hx hb hU iX10 tyX10 tyX10_ok nmX10 hown hK hT hS 0 rfl rfl 2 (by decide) w251 (fun _ h9 => h9) rfl (by decide +kernel) rfl rfl (Nat.le_of_ble_eq_true rfl) dX10_keep_13 (fun H locs hT hS => ?_)
  have hT : TP D A [(h0, ob 7 [.ref h1, .ref h2, .int 1, .ref h3, .ref h4, .ref h5, .int h0f6, .ref h6, .int h0f8, .null, .ref h7, .int h0f11, .ref h8, .ref h9, .ref h10, .ref h11, .ref h12]), (h2, ob 4 [.int h1f0, .int h1f1, .int h1f2, .ref h14]), (h1, ob 4 [.int h1f0, .int h1f1, .int h1f2, .ref h13]), (h14, aJ (k 1) 36 anJ), (h13, aJ (k 1) 36 anJ)] _ := hT
  refine lv_iconst (v := 1) hx hb dX10_keep_16 (by decide) ?_
  exact tz_retI (B := B_cX10_keep_43ee8 D k h0 h1 h2 h13 h14 h3 h4 h5 h6 h7 h8 h9 h10 h11 h12 h0f2 h0f6 h0f8 h0f11 h1f0 h1f1 h1f2 h2f0 h2f1 h2f2) (v := 1) hQ hx hb hr hlocks hS (Nat.le_of_ble_eq_true rfl) (Nat.le_of_ble_eq_true rfl) dX10_keep_17 (⟨rfl, (hT.sub [0, 2, 1, 4, 3] (by decide) rfl)⟩)
abbrev Rm_cX10_keep_9ee10 : Room := { frames := 2, cells := 0, slots := 0, locals := 47 }
abbrev B_cX10_keep_9ee10 (D : va_G) (k : Nat → ClassId) (h0 h1 h2 h14 h15 h3 h4 h5 h6 h7 h8 h9 h10 h11 h12 h13 : Nat) (h0f2 : Int32) (h0f6 : Int32) (h0f8 : Int32) (h0f11 : Int32) (h1f0 : Int32) (h1f1 : Int32) (h1f2 : Int32) (h2f0 : Int32) (h2f1 : Int32) (h2f2 : Int32) (A : Nat → Prop) (r : Int32) (H : Heap) : Prop := 1 = r ∧ TP D A [(h0, ob 7 [.ref h1, .ref h2, .int 1, .ref h3, .ref h4, .ref h5, .int h0f6, .ref h6, .int h0f8, .ref h7, .ref h8, .int h0f11, .ref h9, .ref h10, .ref h11, .ref h12, .ref h13]), (h1, ob 4 [.int h1f0, .int h1f1, .int h1f2, .ref h14]), (h2, ob 4 [.int h1f0, .int h1f1, .int h1f2, .ref h15]), (h14, aJ (k 1) 36 anJ), (h15, aJ (k 1) 36 anJ)] H
set_option maxHeartbeats 4000000 in
set_option maxRecDepth 100000 in
theorem cX10_keep_9ee10 (l : Launch) (D : va_G) (k : Nat → ClassId) (sz : Nat) (h0 h1 h2 h14 h15 h3 h4 h5 h6 h7 h8 h9 h10 h11 h12 h13 : Nat) (h0f2 : Int32) (h0f6 : Int32) (h0f8 : Int32) (h0f11 : Int32) (h1f0 : Int32) (h1f1 : Int32) (h1f2 : Int32) (h2f0 : Int32) (h2f1 : Int32) (h2f2 : Int32) (b_h0f2 : 0 ≤ h0f2.toInt ∧ h0f2.toInt ≤ 1) (b_h0f6 : 0 ≤ h0f6.toInt ∧ h0f6.toInt ≤ 1) (b_h0f8 : 0 ≤ h0f8.toInt ∧ h0f8.toInt ≤ 1) (b_h0f11 : 0 ≤ h0f11.toInt ∧ h0f11.toInt ≤ 200) (b_h1f0 : 1 ≤ h1f0.toInt ∧ h1f0.toInt ≤ 3) (b_h1f1 : 0 ≤ h1f1.toInt ∧ h1f1.toInt ≤ 4) (b_h2f0 : 1 ≤ h2f0.toInt ∧ h2f0.toInt ≤ 3) (b_h2f1 : 0 ≤ h2f1.toInt ∧ h2f1.toInt ≤ 4) : Met l yX10_keep (Cond.code yX10_keep cX10_keep 1 (some .int) :: uw) Rm_cX10_keep_9ee10 (pT D k sz [.ref h0] [(h0, ob 7 [.ref h1, .ref h2, .int h0f2, .ref h3, .ref h4, .ref h5, .int h0f6, .ref h6, .int h0f8, .ref h7, .ref h8, .int h0f11, .ref h9, .ref h10, .ref h11, .ref h12, .ref h13]), (h1, ob 4 [.int h1f0, .int h1f1, .int h1f2, .ref h14]), (h2, ob 4 [.int h2f0, .int h2f1, .int h2f2, .ref h15]), (h14, aJ (k 1) 36 anJ), (h15, aJ (k 1) 36 anJ)]) (qI (B_cX10_keep_9ee10 D k h0 h1 h2 h14 h15 h3 h4 h5 h6 h7 h8 h9 h10 h11 h12 h13 h0f2 h0f6 h0f8 h0f11 h1f0 h1f1 h1f2 h2f0 h2f1 h2f2 (zA [h0, h1, h2, h14, h15] sz)) (zA [h0, h1, h2, h14, h15] sz)) 0 0 (zA [h0, h1, h2, h14, h15] sz) := by
  refine tz_begin (as := [h0, h1, h2, h14, h15]) (Qc := fun A => qI (B_cX10_keep_9ee10 D k h0 h1 h2 h14 h15 h3 h4 h5 h6 h7 h8 h9 h10 h11 h12 h13 h0f2 h0f6 h0f8 h0f11 h1f0 h1f1 h1f2 h2f0 h2f1 h2f2 A) A) (by decide +kernel) rfl (Nat.le_of_ble_eq_true rfl) ?_
  intro p e s m args below meth c ls A Q hx hb hr hml hown hlocks hin hU hK hT hS hA hl hQ
  have hl : lv_has ls 1 [(0, .ref h0)] := hl
  have hT : TP D A [(h0, ob 7 [.ref h1, .ref h2, .int h0f2, .ref h3, .ref h4, .ref h5, .int h0f6, .ref h6, .int h0f8, .ref h7, .ref h8, .int h0f11, .ref h9, .ref h10, .ref h11, .ref h12, .ref h13]), (h1, ob 4 [.int h1f0, .int h1f1, .int h1f2, .ref h14]), (h2, ob 4 [.int h2f0, .int h2f1, .int h2f2, .ref h15]), (h14, aJ (k 1) 36 anJ), (h15, aJ (k 1) 36 anJ)] s.heap := hT
  refine lv_aload_n hx hb dX10_keep_0 rfl (lv_at hl 0 rfl) ?_
  refine tz_get (ci := 7) (v := .ref h2) (C := RX10) (F := TX10) (N := 17) hx hb hU iX10 hown hK hT 0 rfl rfl 1 (by decide) w250 (fun _ h9 => h9) rfl dX10_keep_1 ?_
  refine lv_aload_n hx hb dX10_keep_4 rfl (lv_at hl 0 rfl) ?_
  refine tz_get (ci := 7) (v := .ref h1) (C := RX10) (F := TX10) (N := 17) hx hb hU iX10 hown hK hT 0 rfl rfl 0 (by decide) w249 (fun _ h9 => h9) rfl dX10_keep_5 ?_
  refine tcV (Tc := [(h2, ob 4 [.int h2f0, .int h2f1, .int h2f2, .ref h15]), (h1, ob 4 [.int h1f0, .int h1f1, .int h1f2, .ref h14]), (h15, aJ (k 1) 36 anJ), (h14, aJ (k 1) 36 anJ)]) (Tr := [(h0, ob 7 [.ref h1, .ref h2, .int h0f2, .ref h3, .ref h4, .ref h5, .int h0f6, .ref h6, .int h0f8, .ref h7, .ref h8, .int h0f11, .ref h9, .ref h10, .ref h11, .ref h12, .ref h13])]) (as := [h2, h1, h15, h14]) (zcV (q0 := 2) (ci := 4) (As := [.ref h1]) (rest := []) (Tc := [(h2, ob 4 [.int h2f0, .int h2f1, .int h2f2, .ref h15]), (h1, ob 4 [.int h1f0, .int h1f1, .int h1f2, .ref h14]), (h15, aJ (k 1) 36 anJ), (h14, aJ (k 1) 36 anJ)]) hx hb hml hown hU hK hT rfl rfl [2, 1, 4, 3] rfl (by decide) (cX5_become_2c604 l D k _ h2 h1 h15 h14 h2f0 h2f1 h2f2 h1f0 h1f1 h1f2 (by omega) (by omega) (by omega) (by omega)) w774 w771 w772 w773 w64 hdX5_become ⟨rfl, rfl⟩ ⟨Nat.le_of_ble_eq_true rfl, Nat.le_of_ble_eq_true rfl⟩ rfl hl.1 (Nat.le_of_ble_eq_true rfl) dX10_keep_8 ⟨Nat.le_of_ble_eq_true rfl, Nat.le_of_ble_eq_true rfl⟩) hT hS hA [2, 1, 4, 3] [0] rfl rfl rfl (by decide) (by decide) (fun H locs hB J hS => ?_)
  have hT1 := hB
  have hT := J _ hT1
  have hT : TP D A [(h0, ob 7 [.ref h1, .ref h2, .int h0f2, .ref h3, .ref h4, .ref h5, .int h0f6, .ref h6, .int h0f8, .ref h7, .ref h8, .int h0f11, .ref h9, .ref h10, .ref h11, .ref h12, .ref h13]), (h2, ob 4 [.int h1f0, .int h1f1, .int h1f2, .ref h15]), (h1, ob 4 [.int h1f0, .int h1f1, .int h1f2, .ref h14]), (h15, aJ (k 1) 36 anJ), (h14, aJ (k 1) 36 anJ)] _ := hT
  refine lv_aload_n hx hb dX10_keep_11 rfl (lv_at hl 0 rfl) ?_
  refine lv_iconst (v := 1) hx hb dX10_keep_12 (by decide) ?_
  refine tz_put (ci := 7) (v := .int 1) (ty := .boolean) (C := RX10) (F := TX10) (N := 17) hx hb hU iX10 tyX10 tyX10_ok nmX10 hown hK hT hS 0 rfl rfl 2 (by decide) w251 (fun _ h9 => h9) rfl (by decide +kernel) rfl rfl (Nat.le_of_ble_eq_true rfl) dX10_keep_13 (fun H locs hT hS => ?_)
  have hT : TP D A [(h0, ob 7 [.ref h1, .ref h2, .int 1, .ref h3, .ref h4, .ref h5, .int h0f6, .ref h6, .int h0f8, .ref h7, .ref h8, .int h0f11, .ref h9, .ref h10, .ref h11, .ref h12, .ref h13]), (h2, ob 4 [.int h1f0, .int h1f1, .int h1f2, .ref h15]), (h1, ob 4 [.int h1f0, .int h1f1, .int h1f2, .ref h14]), (h15, aJ (k 1) 36 anJ), (h14, aJ (k 1) 36 anJ)] _ := hT
  refine lv_iconst (v := 1) hx hb dX10_keep_16 (by decide) ?_
  exact tz_retI (B := B_cX10_keep_9ee10 D k h0 h1 h2 h14 h15 h3 h4 h5 h6 h7 h8 h9 h10 h11 h12 h13 h0f2 h0f6 h0f8 h0f11 h1f0 h1f1 h1f2 h2f0 h2f1 h2f2) (v := 1) hQ hx hb hr hlocks hS (Nat.le_of_ble_eq_true rfl) (Nat.le_of_ble_eq_true rfl) dX10_keep_17 (⟨rfl, (hT.sub [0, 2, 1, 4, 3] (by decide) rfl)⟩)
abbrev Rm_cX11_keep_6bcfa : Room := { frames := 0, cells := 0, slots := 0, locals := 0 }
abbrev B_cX11_keep_6bcfa (D : va_G) (k : Nat → ClassId) (h0 h1 h2 h3 h4 h5 h6 h7 h8 h9 h10 h11 h12 h13 h14 h15 h16 h17 h18 h19 h20 h21 : Nat) (h0f0 : Int32) (h0f1 : Int32) (h0f2 : Int32) (h0f3 : Int32) (h0f4 : Int32) (h0f5 : Int32) (h0f8 : Int32) (h0f9 : Int32) (h0f17 : Int32) (h0f18 : Int32) (h0f19 : Int32) (h0f24 : Int32) (h0f25 : Int32) (h0f30 : Int32) (h0f31 : Int32) (A : Nat → Prop) (r : Int32) (H : Heap) : Prop := 1 = r ∧ TP D A [(h0, ob 8 [.int h0f0, .int h0f1, .int h0f2, .int h0f0, .int h0f1, .int h0f2, .ref h1, .ref h2, .int 1, .int h0f9, .ref h3, .ref h4, .ref h5, .ref h6, .ref h7, .ref h8, .ref h9, .int h0f17, .int h0f18, .int h0f19, .ref h10, .ref h11, .ref h12, .ref h13, .int h0f24, .int h0f25, .ref h14, .ref h15, .ref h16, .ref h17, .int h0f30, .int h0f31, .ref h18, .ref h19, .ref h20, .ref h21]), (h1, aI (k 0) 36 anI), (h2, aI (k 0) 36 anI)] H
set_option maxHeartbeats 4000000 in
set_option maxRecDepth 100000 in
theorem cX11_keep_6bcfa (l : Launch) (D : va_G) (k : Nat → ClassId) (sz : Nat) (h0 h1 h2 h3 h4 h5 h6 h7 h8 h9 h10 h11 h12 h13 h14 h15 h16 h17 h18 h19 h20 h21 : Nat) (h0f0 : Int32) (h0f1 : Int32) (h0f2 : Int32) (h0f3 : Int32) (h0f4 : Int32) (h0f5 : Int32) (h0f8 : Int32) (h0f9 : Int32) (h0f17 : Int32) (h0f18 : Int32) (h0f19 : Int32) (h0f24 : Int32) (h0f25 : Int32) (h0f30 : Int32) (h0f31 : Int32) (b_h0f0 : 1 ≤ h0f0.toInt ∧ h0f0.toInt ≤ 3) (b_h0f1 : 0 ≤ h0f1.toInt ∧ h0f1.toInt ≤ 4) (b_h0f3 : 0 ≤ h0f3.toInt ∧ h0f3.toInt ≤ 3) (b_h0f4 : 0 ≤ h0f4.toInt ∧ h0f4.toInt ≤ 4) (b_h0f8 : 0 ≤ h0f8.toInt ∧ h0f8.toInt ≤ 1) (b_h0f9 : 0 ≤ h0f9.toInt ∧ h0f9.toInt ≤ 1) (b_h0f17 : 0 ≤ h0f17.toInt ∧ h0f17.toInt ≤ 120) (b_h0f18 : 0 ≤ h0f18.toInt ∧ h0f18.toInt ≤ 120) (b_h0f19 : 0 ≤ h0f19.toInt ∧ h0f19.toInt ≤ 4) (b_h0f24 : 0 ≤ h0f24.toInt ∧ h0f24.toInt ≤ 100) (b_h0f25 : 0 ≤ h0f25.toInt ∧ h0f25.toInt ≤ 1) (b_h0f30 : 0 ≤ h0f30.toInt ∧ h0f30.toInt ≤ 60) (b_h0f31 : 0 ≤ h0f31.toInt ∧ h0f31.toInt ≤ 1) (i_0 : h0f8.toInt ≤ h0f3.toInt) (i_1 : h0f9.toInt ≤ h0f24.toInt) : Met l yX11_keep (Cond.code yX11_keep cX11_keep 2 (some .int) :: uw) Rm_cX11_keep_6bcfa (pT D k sz [.ref h0] [(h0, ob 8 [.int h0f0, .int h0f1, .int h0f2, .int h0f3, .int h0f4, .int h0f5, .ref h1, .ref h2, .int h0f8, .int h0f9, .ref h3, .ref h4, .ref h5, .ref h6, .ref h7, .ref h8, .ref h9, .int h0f17, .int h0f18, .int h0f19, .ref h10, .ref h11, .ref h12, .ref h13, .int h0f24, .int h0f25, .ref h14, .ref h15, .ref h16, .ref h17, .int h0f30, .int h0f31, .ref h18, .ref h19, .ref h20, .ref h21]), (h1, aI (k 0) 36 anI), (h2, aI (k 0) 36 anI)]) (qI (B_cX11_keep_6bcfa D k h0 h1 h2 h3 h4 h5 h6 h7 h8 h9 h10 h11 h12 h13 h14 h15 h16 h17 h18 h19 h20 h21 h0f0 h0f1 h0f2 h0f3 h0f4 h0f5 h0f8 h0f9 h0f17 h0f18 h0f19 h0f24 h0f25 h0f30 h0f31 (zA [h0, h1, h2] sz)) (zA [h0, h1, h2] sz)) 0 0 (zA [h0, h1, h2] sz) := by
  refine tz_begin (as := [h0, h1, h2]) (Qc := fun A => qI (B_cX11_keep_6bcfa D k h0 h1 h2 h3 h4 h5 h6 h7 h8 h9 h10 h11 h12 h13 h14 h15 h16 h17 h18 h19 h20 h21 h0f0 h0f1 h0f2 h0f3 h0f4 h0f5 h0f8 h0f9 h0f17 h0f18 h0f19 h0f24 h0f25 h0f30 h0f31 A) A) (by decide +kernel) rfl (Nat.le_of_ble_eq_true rfl) ?_
  intro p e s m args below meth c ls A Q hx hb hr hml hown hlocks hin hU hK hT hS hA hl hQ
  have hl : lv_has ls 2 [(0, .ref h0)] := hl
  have hT : TP D A [(h0, ob 8 [.int h0f0, .int h0f1, .int h0f2, .int h0f3, .int h0f4, .int h0f5, .ref h1, .ref h2, .int h0f8, .int h0f9, .ref h3, .ref h4, .ref h5, .ref h6, .ref h7, .ref h8, .ref h9, .int h0f17, .int h0f18, .int h0f19, .ref h10, .ref h11, .ref h12, .ref h13, .int h0f24, .int h0f25, .ref h14, .ref h15, .ref h16, .ref h17, .int h0f30, .int h0f31, .ref h18, .ref h19, .ref h20, .ref h21]), (h1, aI (k 0) 36 anI), (h2, aI (k 0) 36 anI)] s.heap := hT
  refine lv_iconst (v := 0) hx hb dX11_keep_0 (by decide) ?_
  refine lv_istore_n (lv' := [(1, .int 0), (0, .ref h0)]) hx hb dX11_keep_1 rfl hl (by decide) rfl (fun ls hl => ?_)
  have lp2_11 : ∀ (n : Nat) (y10 : Int32) (H : Heap) (locs : List Loc) (ls : Array Slot), (0 ≤ y10.toInt ∧ y10.toInt ≤ 36) → ((-1) * y10.toInt + 36 + 1).toNat < n → TP D A [(h0, ob 8 [.int h0f0, .int h0f1, .int h0f2, .int h0f3, .int h0f4, .int h0f5, .ref h1, .ref h2, .int h0f8, .int h0f9, .ref h3, .ref h4, .ref h5, .ref h6, .ref h7, .ref h8, .ref h9, .int h0f17, .int h0f18, .int h0f19, .ref h10, .ref h11, .ref h12, .ref h13, .int h0f24, .int h0f25, .ref h14, .ref h15, .ref h16, .ref h17, .int h0f30, .int h0f31, .ref h18, .ref h19, .ref h20, .ref h21]), (h1, aI (k 0) 36 anI), (h2, aI (k 0) 36 anI)] H → va_S A s.heap H locs → lv_has ls 2 [(0, .ref h0), (1, .int y10)] → W p l e Rm_cX11_keep_6bcfa s m args below meth c H locs 0 0 Q (F0 m 2 ls []) := by
    intro n
    induction n with
    | zero => intro y10 H locs ls b_y10 hm hT hS hl; exact absurd hm (Nat.not_lt_zero _)
    | succ n ih =>
      intro y10 H locs ls b_y10 hm hT hS hl
      have ih2_11 := ih
      clear ih
      refine lv_iload_n hx hb dX11_keep_2 rfl (lv_at hl 1 rfl) ?_
      refine lv_bipush (v := 36) hx hb dX11_keep_3 (by decide) ?_
      refine lv_icmp_ge (tgt := 26) hx hb dX11_keep_5 (by decide) (fun c_12 => ?_) (fun c_12 => ?_)
      · skip
        have c_12 := ni_le c_12 li_36 rfl
        refine lv_aload_n hx hb dX11_keep_26 rfl (lv_at hl 0 rfl) ?_
        refine lv_aload_n hx hb dX11_keep_27 rfl (lv_at hl 0 rfl) ?_
        refine tz_get (ci := 8) (v := .int h0f0) (C := RX11) (F := TX11) (N := 36) hx hb hU iX11 hown hK hT 0 rfl rfl 0 (by decide) w785 (fun _ h9 => h9) rfl dX11_keep_28 ?_
        refine tz_put (ci := 8) (v := .int h0f0) (ty := .int) (C := RX11) (F := TX11) (N := 36) hx hb hU iX11 tyX11 tyX11_ok nmX11 hown hK hT hS 0 rfl rfl 3 (by decide) w788 (fun _ h9 => h9) rfl (by decide +kernel) rfl rfl (Nat.le_of_ble_eq_true rfl) dX11_keep_31 (fun H locs hT hS => ?_)
        have hT : TP D A [(h0, ob 8 [.int h0f0, .int h0f1, .int h0f2, .int h0f0, .int h0f4, .int h0f5, .ref h1, .ref h2, .int h0f8, .int h0f9, .ref h3, .ref h4, .ref h5, .ref h6, .ref h7, .ref h8, .ref h9, .int h0f17, .int h0f18, .int h0f19, .ref h10, .ref h11, .ref h12, .ref h13, .int h0f24, .int h0f25, .ref h14, .ref h15, .ref h16, .ref h17, .int h0f30, .int h0f31, .ref h18, .ref h19, .ref h20, .ref h21]), (h1, aI (k 0) 36 anI), (h2, aI (k 0) 36 anI)] _ := hT
        refine lv_aload_n hx hb dX11_keep_34 rfl (lv_at hl 0 rfl) ?_
        refine lv_aload_n hx hb dX11_keep_35 rfl (lv_at hl 0 rfl) ?_
        refine tz_get (ci := 8) (v := .int h0f1) (C := RX11) (F := TX11) (N := 36) hx hb hU iX11 hown hK hT 0 rfl rfl 1 (by decide) w786 (fun _ h9 => h9) rfl dX11_keep_36 ?_
        refine tz_put (ci := 8) (v := .int h0f1) (ty := .int) (C := RX11) (F := TX11) (N := 36) hx hb hU iX11 tyX11 tyX11_ok nmX11 hown hK hT hS 0 rfl rfl 4 (by decide) w789 (fun _ h9 => h9) rfl (by decide +kernel) rfl rfl (Nat.le_of_ble_eq_true rfl) dX11_keep_39 (fun H locs hT hS => ?_)
        have hT : TP D A [(h0, ob 8 [.int h0f0, .int h0f1, .int h0f2, .int h0f0, .int h0f1, .int h0f5, .ref h1, .ref h2, .int h0f8, .int h0f9, .ref h3, .ref h4, .ref h5, .ref h6, .ref h7, .ref h8, .ref h9, .int h0f17, .int h0f18, .int h0f19, .ref h10, .ref h11, .ref h12, .ref h13, .int h0f24, .int h0f25, .ref h14, .ref h15, .ref h16, .ref h17, .int h0f30, .int h0f31, .ref h18, .ref h19, .ref h20, .ref h21]), (h1, aI (k 0) 36 anI), (h2, aI (k 0) 36 anI)] _ := hT
        refine lv_aload_n hx hb dX11_keep_42 rfl (lv_at hl 0 rfl) ?_
        refine lv_aload_n hx hb dX11_keep_43 rfl (lv_at hl 0 rfl) ?_
        refine tz_get (ci := 8) (v := .int h0f2) (C := RX11) (F := TX11) (N := 36) hx hb hU iX11 hown hK hT 0 rfl rfl 2 (by decide) w787 (fun _ h9 => h9) rfl dX11_keep_44 ?_
        refine tz_put (ci := 8) (v := .int h0f2) (ty := .int) (C := RX11) (F := TX11) (N := 36) hx hb hU iX11 tyX11 tyX11_ok nmX11 hown hK hT hS 0 rfl rfl 5 (by decide) w790 (fun _ h9 => h9) rfl (by decide +kernel) rfl rfl (Nat.le_of_ble_eq_true rfl) dX11_keep_47 (fun H locs hT hS => ?_)
        have hT : TP D A [(h0, ob 8 [.int h0f0, .int h0f1, .int h0f2, .int h0f0, .int h0f1, .int h0f2, .ref h1, .ref h2, .int h0f8, .int h0f9, .ref h3, .ref h4, .ref h5, .ref h6, .ref h7, .ref h8, .ref h9, .int h0f17, .int h0f18, .int h0f19, .ref h10, .ref h11, .ref h12, .ref h13, .int h0f24, .int h0f25, .ref h14, .ref h15, .ref h16, .ref h17, .int h0f30, .int h0f31, .ref h18, .ref h19, .ref h20, .ref h21]), (h1, aI (k 0) 36 anI), (h2, aI (k 0) 36 anI)] _ := hT
        refine lv_aload_n hx hb dX11_keep_50 rfl (lv_at hl 0 rfl) ?_
        refine lv_iconst (v := 1) hx hb dX11_keep_51 (by decide) ?_
        refine tz_put (ci := 8) (v := .int 1) (ty := .boolean) (C := RX11) (F := TX11) (N := 36) hx hb hU iX11 tyX11 tyX11_ok nmX11 hown hK hT hS 0 rfl rfl 8 (by decide) w793 (fun _ h9 => h9) rfl (by decide +kernel) rfl rfl (Nat.le_of_ble_eq_true rfl) dX11_keep_52 (fun H locs hT hS => ?_)
        have hT : TP D A [(h0, ob 8 [.int h0f0, .int h0f1, .int h0f2, .int h0f0, .int h0f1, .int h0f2, .ref h1, .ref h2, .int 1, .int h0f9, .ref h3, .ref h4, .ref h5, .ref h6, .ref h7, .ref h8, .ref h9, .int h0f17, .int h0f18, .int h0f19, .ref h10, .ref h11, .ref h12, .ref h13, .int h0f24, .int h0f25, .ref h14, .ref h15, .ref h16, .ref h17, .int h0f30, .int h0f31, .ref h18, .ref h19, .ref h20, .ref h21]), (h1, aI (k 0) 36 anI), (h2, aI (k 0) 36 anI)] _ := hT
        refine lv_iconst (v := 1) hx hb dX11_keep_55 (by decide) ?_
        exact tz_retI (B := B_cX11_keep_6bcfa D k h0 h1 h2 h3 h4 h5 h6 h7 h8 h9 h10 h11 h12 h13 h14 h15 h16 h17 h18 h19 h20 h21 h0f0 h0f1 h0f2 h0f3 h0f4 h0f5 h0f8 h0f9 h0f17 h0f18 h0f19 h0f24 h0f25 h0f30 h0f31) (v := 1) hQ hx hb hr hlocks hS (Nat.le_of_ble_eq_true rfl) (Nat.le_of_ble_eq_true rfl) dX11_keep_56 (⟨rfl, hT⟩)
      · skip
        have c_12 := ni_nle c_12 li_36 rfl
        refine lv_aload_n hx hb dX11_keep_8 rfl (lv_at hl 0 rfl) ?_
        refine tz_get (ci := 8) (v := .ref h2) (C := RX11) (F := TX11) (N := 36) hx hb hU iX11 hown hK hT 0 rfl rfl 7 (by decide) w792 (fun _ h9 => h9) rfl dX11_keep_9 ?_
        refine lv_iload_n hx hb dX11_keep_12 rfl (lv_at hl 1 rfl) ?_
        refine lv_aload_n hx hb dX11_keep_13 rfl (lv_at hl 0 rfl) ?_
        refine tz_get (ci := 8) (v := .ref h1) (C := RX11) (F := TX11) (N := 36) hx hb hU iX11 hown hK hT 0 rfl rfl 6 (by decide) w791 (fun _ h9 => h9) rfl dX11_keep_14 ?_
        refine lv_iload_n hx hb dX11_keep_17 rfl (lv_at hl 1 rfl) ?_
        refine tz_iald hx hb hK hT 1 rfl (by omega) dX11_keep_18 (fun v13 e_v13 => ?_)
        clear e_v13
        refine tz_iast hx hb hK hT hS 2 rfl (by omega) (fun _ _ => trivial) dX11_keep_19 (fun H locs hT hS => ?_)
        obtain ⟨v14, e_v14⟩ : ∃ x : Int32, x = y10 + Int32.ofInt 1 := ⟨_, rfl⟩
        have f_v14 := e_v14.symm
        have e_v14 : v14.toInt = y10.toInt + 1 := ai_add e_v14 rfl (show (Int32.ofInt 1).toInt = 1 from (by decide +kernel)) (by omega)
        refine lv_iinc (v := v14) (lv' := [(1, .int v14), (0, .ref h0)]) hx hb dX11_keep_20 hl (k := 1) rfl f_v14 (by decide) rfl (fun ls hl => ?_)
        refine lv_goto (tgt := 2) hx hb dX11_keep_23 (by decide) ?_
        exact ih2_11 v14 _ _ _ (by omega)  (by omega) hT hS (lv_sub hl [1, 0] rfl)
  exact lp2_11 (((-1) * (0 : Int32).toInt + 36 + 1).toNat + 1) (0) _ _ _ (by have := li_0; omega)  (Nat.lt_succ_self _) hT hS (lv_sub hl [1, 0] rfl)
abbrev Rm_cX10_again_3169d : Room := { frames := 2, cells := 0, slots := 0, locals := 47 }
abbrev B_cX10_again_3169d (D : va_G) (k : Nat → ClassId) (h0 h1 h2 h7 h13 h14 h3 h4 h5 h6 h8 h9 h10 h11 h12 : Nat) (h0f2 : Int32) (h0f6 : Int32) (h0f8 : Int32) (h0f11 : Int32) (h1f0 : Int32) (h1f1 : Int32) (h1f2 : Int32) (h2f0 : Int32) (h2f1 : Int32) (h2f2 : Int32) (A : Nat → Prop) (r : Int32) (H : Heap) : Prop := ∃ o0 : Int32, ∃ o1 : Int32, ∃ o2 : Int32, ∃ o3 : Int32, ∃ o4 : Int32, (0 ≤ o0.toInt ∧ o0.toInt ≤ 1) ∧ (0 ≤ o1.toInt ∧ o1.toInt ≤ 1) ∧ (1 ≤ o2.toInt ∧ o2.toInt ≤ 3) ∧ (0 ≤ o3.toInt ∧ o3.toInt ≤ 4) ∧ ((-3) ≤ r.toInt ∧ r.toInt ≤ 4) ∧ TP D A [(h0, ob 7 [.ref h1, .ref h2, .int h0f2, .ref h3, .ref h4, .ref h5, .int o0, .ref h6, .int o1, .null, .ref h7, .int h0f11, .ref h8, .ref h9, .ref h10, .ref h11, .ref h12]), (h1, ob 4 [.int o2, .int o3, .int o4, .ref h13]), (h2, ob 4 [.int h2f0, .int h2f1, .int h2f2, .ref h14]), (h7, aI (k 0) 8 anI), (h13, aJ (k 1) 36 anJ), (h14, aJ (k 1) 36 anJ)] H
set_option maxHeartbeats 4000000 in
set_option maxRecDepth 100000 in
theorem cX10_again_3169d (l : Launch) (D : va_G) (k : Nat → ClassId) (sz : Nat) (h0 h1 h2 h7 h13 h14 h3 h4 h5 h6 h8 h9 h10 h11 h12 : Nat) (h0f2 : Int32) (h0f6 : Int32) (h0f8 : Int32) (h0f11 : Int32) (h1f0 : Int32) (h1f1 : Int32) (h1f2 : Int32) (h2f0 : Int32) (h2f1 : Int32) (h2f2 : Int32) (b_h0f2 : 0 ≤ h0f2.toInt ∧ h0f2.toInt ≤ 1) (b_h0f6 : 0 ≤ h0f6.toInt ∧ h0f6.toInt ≤ 1) (b_h0f8 : 0 ≤ h0f8.toInt ∧ h0f8.toInt ≤ 1) (b_h0f11 : 0 ≤ h0f11.toInt ∧ h0f11.toInt ≤ 200) (b_h1f0 : 1 ≤ h1f0.toInt ∧ h1f0.toInt ≤ 3) (b_h1f1 : 0 ≤ h1f1.toInt ∧ h1f1.toInt ≤ 4) (b_h2f0 : 1 ≤ h2f0.toInt ∧ h2f0.toInt ≤ 3) (b_h2f1 : 0 ≤ h2f1.toInt ∧ h2f1.toInt ≤ 4) : Met l yX10_again (Cond.code yX10_again cX10_again 1 (some .int) :: uw) Rm_cX10_again_3169d (pT D k sz [.ref h0] [(h0, ob 7 [.ref h1, .ref h2, .int h0f2, .ref h3, .ref h4, .ref h5, .int h0f6, .ref h6, .int h0f8, .null, .ref h7, .int h0f11, .ref h8, .ref h9, .ref h10, .ref h11, .ref h12]), (h1, ob 4 [.int h1f0, .int h1f1, .int h1f2, .ref h13]), (h2, ob 4 [.int h2f0, .int h2f1, .int h2f2, .ref h14]), (h7, aI (k 0) 8 anI), (h13, aJ (k 1) 36 anJ), (h14, aJ (k 1) 36 anJ)]) (qI (B_cX10_again_3169d D k h0 h1 h2 h7 h13 h14 h3 h4 h5 h6 h8 h9 h10 h11 h12 h0f2 h0f6 h0f8 h0f11 h1f0 h1f1 h1f2 h2f0 h2f1 h2f2 (zA [h0, h1, h2, h7, h13, h14] sz)) (zA [h0, h1, h2, h7, h13, h14] sz)) 0 0 (zA [h0, h1, h2, h7, h13, h14] sz) := by
  refine tz_begin (as := [h0, h1, h2, h7, h13, h14]) (Qc := fun A => qI (B_cX10_again_3169d D k h0 h1 h2 h7 h13 h14 h3 h4 h5 h6 h8 h9 h10 h11 h12 h0f2 h0f6 h0f8 h0f11 h1f0 h1f1 h1f2 h2f0 h2f1 h2f2 A) A) (by decide +kernel) rfl (Nat.le_of_ble_eq_true rfl) ?_
  intro p e s m args below meth c ls A Q hx hb hr hml hown hlocks hin hU hK hT hS hA hl hQ
  have hl : lv_has ls 1 [(0, .ref h0)] := hl
  have hT : TP D A [(h0, ob 7 [.ref h1, .ref h2, .int h0f2, .ref h3, .ref h4, .ref h5, .int h0f6, .ref h6, .int h0f8, .null, .ref h7, .int h0f11, .ref h8, .ref h9, .ref h10, .ref h11, .ref h12]), (h1, ob 4 [.int h1f0, .int h1f1, .int h1f2, .ref h13]), (h2, ob 4 [.int h2f0, .int h2f1, .int h2f2, .ref h14]), (h7, aI (k 0) 8 anI), (h13, aJ (k 1) 36 anJ), (h14, aJ (k 1) 36 anJ)] s.heap := hT
  refine lv_aload_n hx hb dX10_again_0 rfl (lv_at hl 0 rfl) ?_
  refine tz_get (ci := 7) (v := .int h0f2) (C := RX10) (F := TX10) (N := 17) hx hb hU iX10 hown hK hT 0 rfl rfl 2 (by decide) w251 (fun _ h9 => h9) rfl dX10_again_1 ?_
  refine lv_if_ne (tgt := 10) hx hb dX10_again_4 (by decide) (fun c_1 => ?_) (fun c_1 => ?_)
  · skip
    have c_1 := ni_ne c_1 rfl li_0
    refine lv_aload_n hx hb dX10_again_10 rfl (lv_at hl 0 rfl) ?_
    refine tz_get (ci := 7) (v := .ref h1) (C := RX10) (F := TX10) (N := 17) hx hb hU iX10 hown hK hT 0 rfl rfl 0 (by decide) w249 (fun _ h9 => h9) rfl dX10_again_11 ?_
    refine lv_aload_n hx hb dX10_again_14 rfl (lv_at hl 0 rfl) ?_
    refine tz_get (ci := 7) (v := .ref h2) (C := RX10) (F := TX10) (N := 17) hx hb hU iX10 hown hK hT 0 rfl rfl 1 (by decide) w250 (fun _ h9 => h9) rfl dX10_again_15 ?_
    refine tcV (Tc := [(h1, ob 4 [.int h1f0, .int h1f1, .int h1f2, .ref h13]), (h2, ob 4 [.int h2f0, .int h2f1, .int h2f2, .ref h14]), (h13, aJ (k 1) 36 anJ), (h14, aJ (k 1) 36 anJ)]) (Tr := [(h0, ob 7 [.ref h1, .ref h2, .int h0f2, .ref h3, .ref h4, .ref h5, .int h0f6, .ref h6, .int h0f8, .null, .ref h7, .int h0f11, .ref h8, .ref h9, .ref h10, .ref h11, .ref h12]), (h7, aI (k 0) 8 anI)]) (as := [h1, h2, h13, h14]) (zcV (q0 := 1) (ci := 4) (As := [.ref h2]) (rest := []) (Tc := [(h1, ob 4 [.int h1f0, .int h1f1, .int h1f2, .ref h13]), (h2, ob 4 [.int h2f0, .int h2f1, .int h2f2, .ref h14]), (h13, aJ (k 1) 36 anJ), (h14, aJ (k 1) 36 anJ)]) hx hb hml hown hU hK hT rfl rfl [1, 2, 4, 5] rfl (by decide) (cX5_become_2c604 l D k _ h1 h2 h13 h14 h1f0 h1f1 h1f2 h2f0 h2f1 h2f2 (by omega) (by omega) (by omega) (by omega)) w774 w771 w772 w773 w64 hdX5_become ⟨rfl, rfl⟩ ⟨Nat.le_of_ble_eq_true rfl, Nat.le_of_ble_eq_true rfl⟩ rfl hl.1 (Nat.le_of_ble_eq_true rfl) dX10_again_18 ⟨Nat.le_of_ble_eq_true rfl, Nat.le_of_ble_eq_true rfl⟩) hT hS hA [1, 2, 4, 5] [0, 3] rfl rfl rfl (by decide) (by decide) (fun H locs hB J hS => ?_)
    have hT1 := hB
    have hT := J _ hT1
    have hT : TP D A [(h0, ob 7 [.ref h1, .ref h2, .int h0f2, .ref h3, .ref h4, .ref h5, .int h0f6, .ref h6, .int h0f8, .null, .ref h7, .int h0f11, .ref h8, .ref h9, .ref h10, .ref h11, .ref h12]), (h7, aI (k 0) 8 anI), (h1, ob 4 [.int h2f0, .int h2f1, .int h2f2, .ref h13]), (h2, ob 4 [.int h2f0, .int h2f1, .int h2f2, .ref h14]), (h13, aJ (k 1) 36 anJ), (h14, aJ (k 1) 36 anJ)] _ := hT
    refine lv_aload_n hx hb dX10_again_21 rfl (lv_at hl 0 rfl) ?_
    refine tcV (Tc := [(h0, ob 7 [.ref h1, .ref h2, .int h0f2, .ref h3, .ref h4, .ref h5, .int h0f6, .ref h6, .int h0f8, .null, .ref h7, .int h0f11, .ref h8, .ref h9, .ref h10, .ref h11, .ref h12]), (h7, aI (k 0) 8 anI)]) (Tr := [(h1, ob 4 [.int h2f0, .int h2f1, .int h2f2, .ref h13]), (h2, ob 4 [.int h2f0, .int h2f1, .int h2f2, .ref h14]), (h13, aJ (k 1) 36 anJ), (h14, aJ (k 1) 36 anJ)]) (as := [h0, h7]) (zcV (q0 := 0) (ci := 7) (As := []) (rest := []) (Tc := [(h0, ob 7 [.ref h1, .ref h2, .int h0f2, .ref h3, .ref h4, .ref h5, .int h0f6, .ref h6, .int h0f8, .null, .ref h7, .int h0f11, .ref h8, .ref h9, .ref h10, .ref h11, .ref h12]), (h7, aI (k 0) 8 anI)]) hx hb hml hown hU hK hT rfl rfl [0, 1] rfl (by decide) (cX10_forgetWhatCame_0fe65 l D k _ h0 h7 h1 h2 h3 h4 h5 h6 h8 h9 h10 h11 h12 h0f2 h0f6 h0f8 h0f11 (by omega) (by omega) (by omega) (by omega)) w308 w305 w307 w0 w63 hdX10_forgetWhatCame ⟨rfl, rfl⟩ ⟨Nat.le_of_ble_eq_true rfl, Nat.le_of_ble_eq_true rfl⟩ rfl hl.1 (Nat.le_of_ble_eq_true rfl) dX10_again_22 ⟨Nat.le_of_ble_eq_true rfl, Nat.le_of_ble_eq_true rfl⟩) hT hS hA [0, 1] [2, 3, 4, 5] rfl rfl rfl (by decide) (by decide) (fun H locs hB J hS => ?_)
    have hT1 := hB
    have hT := J _ hT1
    have hT : TP D A [(h1, ob 4 [.int h2f0, .int h2f1, .int h2f2, .ref h13]), (h2, ob 4 [.int h2f0, .int h2f1, .int h2f2, .ref h14]), (h13, aJ (k 1) 36 anJ), (h14, aJ (k 1) 36 anJ), (h0, ob 7 [.ref h1, .ref h2, .int h0f2, .ref h3, .ref h4, .ref h5, .int 0, .ref h6, .int 0, .null, .ref h7, .int h0f11, .ref h8, .ref h9, .ref h10, .ref h11, .ref h12]), (h7, aI (k 0) 8 anI)] _ := hT
    refine lv_aload_n hx hb dX10_again_25 rfl (lv_at hl 0 rfl) ?_
    refine tz_get (ci := 7) (v := .ref h1) (C := RX10) (F := TX10) (N := 17) hx hb hU iX10 hown hK hT 4 rfl rfl 0 (by decide) w249 (fun _ h9 => h9) rfl dX10_again_26 ?_
    refine tz_get (ci := 4) (v := .int h2f1) (C := RX5) (F := TX5) (N := 4) hx hb hU iX5 hown hK hT 0 rfl rfl 1 (by decide) w97 (fun _ h9 => h9) rfl dX10_again_29 ?_
    exact tz_retI (B := B_cX10_again_3169d D k h0 h1 h2 h7 h13 h14 h3 h4 h5 h6 h8 h9 h10 h11 h12 h0f2 h0f6 h0f8 h0f11 h1f0 h1f1 h1f2 h2f0 h2f1 h2f2) (v := h2f1) hQ hx hb hr hlocks hS (Nat.le_of_ble_eq_true rfl) (Nat.le_of_ble_eq_true rfl) dX10_again_32 (⟨0, 0, h2f0, h2f1, h2f2, (by have := li_0; omega), (by have := li_0; omega), (by have := li_0; omega), (by have := li_0; omega), (by have := li_0; omega), (hT.sub [4, 0, 1, 5, 2, 3] (by decide) rfl)⟩)
  · skip
    have c_1 := ni_eq c_1 rfl li_0
    refine lv_bipush (v := (-3)) hx hb dX10_again_7 (by decide) ?_
    exact tz_retI (B := B_cX10_again_3169d D k h0 h1 h2 h7 h13 h14 h3 h4 h5 h6 h8 h9 h10 h11 h12 h0f2 h0f6 h0f8 h0f11 h1f0 h1f1 h1f2 h2f0 h2f1 h2f2) (v := (-3)) hQ hx hb hr hlocks hS (Nat.le_of_ble_eq_true rfl) (Nat.le_of_ble_eq_true rfl) dX10_again_9 (⟨h0f6, h0f8, h1f0, h1f1, h1f2, (by have := li_m3; omega), (by have := li_m3; omega), (by have := li_m3; omega), (by have := li_m3; omega), (by have := li_m3; omega), hT⟩)
abbrev Rm_cX10_again_32dcf : Room := { frames := 2, cells := 0, slots := 0, locals := 47 }
abbrev B_cX10_again_32dcf (D : va_G) (k : Nat → ClassId) (h0 h1 h2 h8 h14 h15 h3 h4 h5 h6 h7 h9 h10 h11 h12 h13 : Nat) (h0f2 : Int32) (h0f6 : Int32) (h0f8 : Int32) (h0f11 : Int32) (h1f0 : Int32) (h1f1 : Int32) (h1f2 : Int32) (h2f0 : Int32) (h2f1 : Int32) (h2f2 : Int32) (A : Nat → Prop) (r : Int32) (H : Heap) : Prop := ∃ o0 : Int32, ∃ o1 : Int32, ∃ o2 : Int32, ∃ o3 : Int32, ∃ o4 : Int32, (0 ≤ o0.toInt ∧ o0.toInt ≤ 1) ∧ (0 ≤ o1.toInt ∧ o1.toInt ≤ 1) ∧ (1 ≤ o2.toInt ∧ o2.toInt ≤ 3) ∧ (0 ≤ o3.toInt ∧ o3.toInt ≤ 4) ∧ ((-3) ≤ r.toInt ∧ r.toInt ≤ 4) ∧ TP D A [(h0, ob 7 [.ref h1, .ref h2, .int h0f2, .ref h3, .ref h4, .ref h5, .int o0, .ref h6, .int o1, .ref h7, .ref h8, .int h0f11, .ref h9, .ref h10, .ref h11, .ref h12, .ref h13]), (h1, ob 4 [.int o2, .int o3, .int o4, .ref h14]), (h2, ob 4 [.int h2f0, .int h2f1, .int h2f2, .ref h15]), (h8, aI (k 0) 8 anI), (h14, aJ (k 1) 36 anJ), (h15, aJ (k 1) 36 anJ)] H
set_option maxHeartbeats 4000000 in
set_option maxRecDepth 100000 in
theorem cX10_again_32dcf (l : Launch) (D : va_G) (k : Nat → ClassId) (sz : Nat) (h0 h1 h2 h8 h14 h15 h3 h4 h5 h6 h7 h9 h10 h11 h12 h13 : Nat) (h0f2 : Int32) (h0f6 : Int32) (h0f8 : Int32) (h0f11 : Int32) (h1f0 : Int32) (h1f1 : Int32) (h1f2 : Int32) (h2f0 : Int32) (h2f1 : Int32) (h2f2 : Int32) (b_h0f2 : 0 ≤ h0f2.toInt ∧ h0f2.toInt ≤ 1) (b_h0f6 : 0 ≤ h0f6.toInt ∧ h0f6.toInt ≤ 1) (b_h0f8 : 0 ≤ h0f8.toInt ∧ h0f8.toInt ≤ 1) (b_h0f11 : 0 ≤ h0f11.toInt ∧ h0f11.toInt ≤ 200) (b_h1f0 : 1 ≤ h1f0.toInt ∧ h1f0.toInt ≤ 3) (b_h1f1 : 0 ≤ h1f1.toInt ∧ h1f1.toInt ≤ 4) (b_h2f0 : 1 ≤ h2f0.toInt ∧ h2f0.toInt ≤ 3) (b_h2f1 : 0 ≤ h2f1.toInt ∧ h2f1.toInt ≤ 4) : Met l yX10_again (Cond.code yX10_again cX10_again 1 (some .int) :: uw) Rm_cX10_again_32dcf (pT D k sz [.ref h0] [(h0, ob 7 [.ref h1, .ref h2, .int h0f2, .ref h3, .ref h4, .ref h5, .int h0f6, .ref h6, .int h0f8, .ref h7, .ref h8, .int h0f11, .ref h9, .ref h10, .ref h11, .ref h12, .ref h13]), (h1, ob 4 [.int h1f0, .int h1f1, .int h1f2, .ref h14]), (h2, ob 4 [.int h2f0, .int h2f1, .int h2f2, .ref h15]), (h8, aI (k 0) 8 anI), (h14, aJ (k 1) 36 anJ), (h15, aJ (k 1) 36 anJ)]) (qI (B_cX10_again_32dcf D k h0 h1 h2 h8 h14 h15 h3 h4 h5 h6 h7 h9 h10 h11 h12 h13 h0f2 h0f6 h0f8 h0f11 h1f0 h1f1 h1f2 h2f0 h2f1 h2f2 (zA [h0, h1, h2, h8, h14, h15] sz)) (zA [h0, h1, h2, h8, h14, h15] sz)) 0 0 (zA [h0, h1, h2, h8, h14, h15] sz) := by
  refine tz_begin (as := [h0, h1, h2, h8, h14, h15]) (Qc := fun A => qI (B_cX10_again_32dcf D k h0 h1 h2 h8 h14 h15 h3 h4 h5 h6 h7 h9 h10 h11 h12 h13 h0f2 h0f6 h0f8 h0f11 h1f0 h1f1 h1f2 h2f0 h2f1 h2f2 A) A) (by decide +kernel) rfl (Nat.le_of_ble_eq_true rfl) ?_
  intro p e s m args below meth c ls A Q hx hb hr hml hown hlocks hin hU hK hT hS hA hl hQ
  have hl : lv_has ls 1 [(0, .ref h0)] := hl
  have hT : TP D A [(h0, ob 7 [.ref h1, .ref h2, .int h0f2, .ref h3, .ref h4, .ref h5, .int h0f6, .ref h6, .int h0f8, .ref h7, .ref h8, .int h0f11, .ref h9, .ref h10, .ref h11, .ref h12, .ref h13]), (h1, ob 4 [.int h1f0, .int h1f1, .int h1f2, .ref h14]), (h2, ob 4 [.int h2f0, .int h2f1, .int h2f2, .ref h15]), (h8, aI (k 0) 8 anI), (h14, aJ (k 1) 36 anJ), (h15, aJ (k 1) 36 anJ)] s.heap := hT
  refine lv_aload_n hx hb dX10_again_0 rfl (lv_at hl 0 rfl) ?_
  refine tz_get (ci := 7) (v := .int h0f2) (C := RX10) (F := TX10) (N := 17) hx hb hU iX10 hown hK hT 0 rfl rfl 2 (by decide) w251 (fun _ h9 => h9) rfl dX10_again_1 ?_
  refine lv_if_ne (tgt := 10) hx hb dX10_again_4 (by decide) (fun c_1 => ?_) (fun c_1 => ?_)
  · skip
    have c_1 := ni_ne c_1 rfl li_0
    refine lv_aload_n hx hb dX10_again_10 rfl (lv_at hl 0 rfl) ?_
    refine tz_get (ci := 7) (v := .ref h1) (C := RX10) (F := TX10) (N := 17) hx hb hU iX10 hown hK hT 0 rfl rfl 0 (by decide) w249 (fun _ h9 => h9) rfl dX10_again_11 ?_
    refine lv_aload_n hx hb dX10_again_14 rfl (lv_at hl 0 rfl) ?_
    refine tz_get (ci := 7) (v := .ref h2) (C := RX10) (F := TX10) (N := 17) hx hb hU iX10 hown hK hT 0 rfl rfl 1 (by decide) w250 (fun _ h9 => h9) rfl dX10_again_15 ?_
    refine tcV (Tc := [(h1, ob 4 [.int h1f0, .int h1f1, .int h1f2, .ref h14]), (h2, ob 4 [.int h2f0, .int h2f1, .int h2f2, .ref h15]), (h14, aJ (k 1) 36 anJ), (h15, aJ (k 1) 36 anJ)]) (Tr := [(h0, ob 7 [.ref h1, .ref h2, .int h0f2, .ref h3, .ref h4, .ref h5, .int h0f6, .ref h6, .int h0f8, .ref h7, .ref h8, .int h0f11, .ref h9, .ref h10, .ref h11, .ref h12, .ref h13]), (h8, aI (k 0) 8 anI)]) (as := [h1, h2, h14, h15]) (zcV (q0 := 1) (ci := 4) (As := [.ref h2]) (rest := []) (Tc := [(h1, ob 4 [.int h1f0, .int h1f1, .int h1f2, .ref h14]), (h2, ob 4 [.int h2f0, .int h2f1, .int h2f2, .ref h15]), (h14, aJ (k 1) 36 anJ), (h15, aJ (k 1) 36 anJ)]) hx hb hml hown hU hK hT rfl rfl [1, 2, 4, 5] rfl (by decide) (cX5_become_2c604 l D k _ h1 h2 h14 h15 h1f0 h1f1 h1f2 h2f0 h2f1 h2f2 (by omega) (by omega) (by omega) (by omega)) w774 w771 w772 w773 w64 hdX5_become ⟨rfl, rfl⟩ ⟨Nat.le_of_ble_eq_true rfl, Nat.le_of_ble_eq_true rfl⟩ rfl hl.1 (Nat.le_of_ble_eq_true rfl) dX10_again_18 ⟨Nat.le_of_ble_eq_true rfl, Nat.le_of_ble_eq_true rfl⟩) hT hS hA [1, 2, 4, 5] [0, 3] rfl rfl rfl (by decide) (by decide) (fun H locs hB J hS => ?_)
    have hT1 := hB
    have hT := J _ hT1
    have hT : TP D A [(h0, ob 7 [.ref h1, .ref h2, .int h0f2, .ref h3, .ref h4, .ref h5, .int h0f6, .ref h6, .int h0f8, .ref h7, .ref h8, .int h0f11, .ref h9, .ref h10, .ref h11, .ref h12, .ref h13]), (h8, aI (k 0) 8 anI), (h1, ob 4 [.int h2f0, .int h2f1, .int h2f2, .ref h14]), (h2, ob 4 [.int h2f0, .int h2f1, .int h2f2, .ref h15]), (h14, aJ (k 1) 36 anJ), (h15, aJ (k 1) 36 anJ)] _ := hT
    refine lv_aload_n hx hb dX10_again_21 rfl (lv_at hl 0 rfl) ?_
    refine tcV (Tc := [(h0, ob 7 [.ref h1, .ref h2, .int h0f2, .ref h3, .ref h4, .ref h5, .int h0f6, .ref h6, .int h0f8, .ref h7, .ref h8, .int h0f11, .ref h9, .ref h10, .ref h11, .ref h12, .ref h13]), (h8, aI (k 0) 8 anI)]) (Tr := [(h1, ob 4 [.int h2f0, .int h2f1, .int h2f2, .ref h14]), (h2, ob 4 [.int h2f0, .int h2f1, .int h2f2, .ref h15]), (h14, aJ (k 1) 36 anJ), (h15, aJ (k 1) 36 anJ)]) (as := [h0, h8]) (zcV (q0 := 0) (ci := 7) (As := []) (rest := []) (Tc := [(h0, ob 7 [.ref h1, .ref h2, .int h0f2, .ref h3, .ref h4, .ref h5, .int h0f6, .ref h6, .int h0f8, .ref h7, .ref h8, .int h0f11, .ref h9, .ref h10, .ref h11, .ref h12, .ref h13]), (h8, aI (k 0) 8 anI)]) hx hb hml hown hU hK hT rfl rfl [0, 1] rfl (by decide) (cX10_forgetWhatCame_69e3b l D k _ h0 h8 h1 h2 h3 h4 h5 h6 h7 h9 h10 h11 h12 h13 h0f2 h0f6 h0f8 h0f11 (by omega) (by omega) (by omega) (by omega)) w308 w305 w307 w0 w63 hdX10_forgetWhatCame ⟨rfl, rfl⟩ ⟨Nat.le_of_ble_eq_true rfl, Nat.le_of_ble_eq_true rfl⟩ rfl hl.1 (Nat.le_of_ble_eq_true rfl) dX10_again_22 ⟨Nat.le_of_ble_eq_true rfl, Nat.le_of_ble_eq_true rfl⟩) hT hS hA [0, 1] [2, 3, 4, 5] rfl rfl rfl (by decide) (by decide) (fun H locs hB J hS => ?_)
    have hT1 := hB
    have hT := J _ hT1
    have hT : TP D A [(h1, ob 4 [.int h2f0, .int h2f1, .int h2f2, .ref h14]), (h2, ob 4 [.int h2f0, .int h2f1, .int h2f2, .ref h15]), (h14, aJ (k 1) 36 anJ), (h15, aJ (k 1) 36 anJ), (h0, ob 7 [.ref h1, .ref h2, .int h0f2, .ref h3, .ref h4, .ref h5, .int 0, .ref h6, .int 0, .ref h7, .ref h8, .int h0f11, .ref h9, .ref h10, .ref h11, .ref h12, .ref h13]), (h8, aI (k 0) 8 anI)] _ := hT
    refine lv_aload_n hx hb dX10_again_25 rfl (lv_at hl 0 rfl) ?_
    refine tz_get (ci := 7) (v := .ref h1) (C := RX10) (F := TX10) (N := 17) hx hb hU iX10 hown hK hT 4 rfl rfl 0 (by decide) w249 (fun _ h9 => h9) rfl dX10_again_26 ?_
    refine tz_get (ci := 4) (v := .int h2f1) (C := RX5) (F := TX5) (N := 4) hx hb hU iX5 hown hK hT 0 rfl rfl 1 (by decide) w97 (fun _ h9 => h9) rfl dX10_again_29 ?_
    exact tz_retI (B := B_cX10_again_32dcf D k h0 h1 h2 h8 h14 h15 h3 h4 h5 h6 h7 h9 h10 h11 h12 h13 h0f2 h0f6 h0f8 h0f11 h1f0 h1f1 h1f2 h2f0 h2f1 h2f2) (v := h2f1) hQ hx hb hr hlocks hS (Nat.le_of_ble_eq_true rfl) (Nat.le_of_ble_eq_true rfl) dX10_again_32 (⟨0, 0, h2f0, h2f1, h2f2, (by have := li_0; omega), (by have := li_0; omega), (by have := li_0; omega), (by have := li_0; omega), (by have := li_0; omega), (hT.sub [4, 0, 1, 5, 2, 3] (by decide) rfl)⟩)
  · skip
    have c_1 := ni_eq c_1 rfl li_0
    refine lv_bipush (v := (-3)) hx hb dX10_again_7 (by decide) ?_
    exact tz_retI (B := B_cX10_again_32dcf D k h0 h1 h2 h8 h14 h15 h3 h4 h5 h6 h7 h9 h10 h11 h12 h13 h0f2 h0f6 h0f8 h0f11 h1f0 h1f1 h1f2 h2f0 h2f1 h2f2) (v := (-3)) hQ hx hb hr hlocks hS (Nat.le_of_ble_eq_true rfl) (Nat.le_of_ble_eq_true rfl) dX10_again_9 (⟨h0f6, h0f8, h1f0, h1f1, h1f2, (by have := li_m3; omega), (by have := li_m3; omega), (by have := li_m3; omega), (by have := li_m3; omega), (by have := li_m3; omega), hT⟩)
abbrev Rm_cX11_again_7e659 : Room := { frames := 0, cells := 0, slots := 0, locals := 0 }
abbrev B_cX11_again_7e659 (D : va_G) (k : Nat → ClassId) (h0 h1 h2 h3 h4 h5 h6 h7 h8 h9 h10 h11 h12 h13 h14 h15 h16 h17 h18 h19 h20 h21 : Nat) (h0f0 : Int32) (h0f1 : Int32) (h0f2 : Int32) (h0f3 : Int32) (h0f4 : Int32) (h0f5 : Int32) (h0f8 : Int32) (h0f9 : Int32) (h0f17 : Int32) (h0f18 : Int32) (h0f19 : Int32) (h0f24 : Int32) (h0f25 : Int32) (h0f30 : Int32) (h0f31 : Int32) (A : Nat → Prop) (r : Int32) (H : Heap) : Prop := ∃ o0 : Int32, ∃ o1 : Int32, ∃ o2 : Int32, ∃ o3 : Int32, ∃ o4 : Int32, (1 ≤ o0.toInt ∧ o0.toInt ≤ 3) ∧ (0 ≤ o1.toInt ∧ o1.toInt ≤ 4) ∧ (0 ≤ o3.toInt ∧ o3.toInt ≤ 1) ∧ (0 ≤ o4.toInt ∧ o4.toInt ≤ 60) ∧ ((-3) ≤ r.toInt ∧ r.toInt ≤ 4) ∧ (o4.toInt = 0 ∨ (o4.toInt = h0f30.toInt ∧ o1.toInt = h0f1.toInt ∧ h0f31.toInt = h0f31.toInt)) ∧ (o3.toInt = 0 ∨ o3.toInt = h0f9.toInt) ∧ TP D A [(h0, ob 8 [.int o0, .int o1, .int o2, .int h0f3, .int h0f4, .int h0f5, .ref h1, .ref h2, .int h0f8, .int o3, .ref h3, .ref h4, .ref h5, .ref h6, .ref h7, .ref h8, .ref h9, .int h0f17, .int h0f18, .int h0f19, .ref h10, .ref h11, .ref h12, .ref h13, .int h0f24, .int h0f25, .ref h14, .ref h15, .ref h16, .ref h17, .int o4, .int h0f31, .ref h18, .ref h19, .ref h20, .ref h21]), (h1, aI (k 0) 36 anI), (h2, aI (k 0) 36 anI)] H
set_option maxHeartbeats 4000000 in
set_option maxRecDepth 100000 in
theorem cX11_again_7e659 (l : Launch) (D : va_G) (k : Nat → ClassId) (sz : Nat) (h0 h1 h2 h3 h4 h5 h6 h7 h8 h9 h10 h11 h12 h13 h14 h15 h16 h17 h18 h19 h20 h21 : Nat) (h0f0 : Int32) (h0f1 : Int32) (h0f2 : Int32) (h0f3 : Int32) (h0f4 : Int32) (h0f5 : Int32) (h0f8 : Int32) (h0f9 : Int32) (h0f17 : Int32) (h0f18 : Int32) (h0f19 : Int32) (h0f24 : Int32) (h0f25 : Int32) (h0f30 : Int32) (h0f31 : Int32) (b_h0f0 : 1 ≤ h0f0.toInt ∧ h0f0.toInt ≤ 3) (b_h0f1 : 0 ≤ h0f1.toInt ∧ h0f1.toInt ≤ 4) (b_h0f3 : 0 ≤ h0f3.toInt ∧ h0f3.toInt ≤ 3) (b_h0f4 : 0 ≤ h0f4.toInt ∧ h0f4.toInt ≤ 4) (b_h0f8 : 0 ≤ h0f8.toInt ∧ h0f8.toInt ≤ 1) (b_h0f9 : 0 ≤ h0f9.toInt ∧ h0f9.toInt ≤ 1) (b_h0f17 : 0 ≤ h0f17.toInt ∧ h0f17.toInt ≤ 120) (b_h0f18 : 0 ≤ h0f18.toInt ∧ h0f18.toInt ≤ 120) (b_h0f19 : 0 ≤ h0f19.toInt ∧ h0f19.toInt ≤ 4) (b_h0f24 : 0 ≤ h0f24.toInt ∧ h0f24.toInt ≤ 100) (b_h0f25 : 0 ≤ h0f25.toInt ∧ h0f25.toInt ≤ 1) (b_h0f30 : 0 ≤ h0f30.toInt ∧ h0f30.toInt ≤ 60) (b_h0f31 : 0 ≤ h0f31.toInt ∧ h0f31.toInt ≤ 1) (i_0 : h0f8.toInt ≤ h0f3.toInt) (i_1 : h0f9.toInt ≤ h0f24.toInt) : Met l yX11_again (Cond.code yX11_again cX11_again 2 (some .int) :: uw) Rm_cX11_again_7e659 (pT D k sz [.ref h0] [(h0, ob 8 [.int h0f0, .int h0f1, .int h0f2, .int h0f3, .int h0f4, .int h0f5, .ref h1, .ref h2, .int h0f8, .int h0f9, .ref h3, .ref h4, .ref h5, .ref h6, .ref h7, .ref h8, .ref h9, .int h0f17, .int h0f18, .int h0f19, .ref h10, .ref h11, .ref h12, .ref h13, .int h0f24, .int h0f25, .ref h14, .ref h15, .ref h16, .ref h17, .int h0f30, .int h0f31, .ref h18, .ref h19, .ref h20, .ref h21]), (h1, aI (k 0) 36 anI), (h2, aI (k 0) 36 anI)]) (qI (B_cX11_again_7e659 D k h0 h1 h2 h3 h4 h5 h6 h7 h8 h9 h10 h11 h12 h13 h14 h15 h16 h17 h18 h19 h20 h21 h0f0 h0f1 h0f2 h0f3 h0f4 h0f5 h0f8 h0f9 h0f17 h0f18 h0f19 h0f24 h0f25 h0f30 h0f31 (zA [h0, h1, h2] sz)) (zA [h0, h1, h2] sz)) 0 0 (zA [h0, h1, h2] sz) := by
  refine tz_begin (as := [h0, h1, h2]) (Qc := fun A => qI (B_cX11_again_7e659 D k h0 h1 h2 h3 h4 h5 h6 h7 h8 h9 h10 h11 h12 h13 h14 h15 h16 h17 h18 h19 h20 h21 h0f0 h0f1 h0f2 h0f3 h0f4 h0f5 h0f8 h0f9 h0f17 h0f18 h0f19 h0f24 h0f25 h0f30 h0f31 A) A) (by decide +kernel) rfl (Nat.le_of_ble_eq_true rfl) ?_
  intro p e s m args below meth c ls A Q hx hb hr hml hown hlocks hin hU hK hT hS hA hl hQ
  have hl : lv_has ls 2 [(0, .ref h0)] := hl
  have hT : TP D A [(h0, ob 8 [.int h0f0, .int h0f1, .int h0f2, .int h0f3, .int h0f4, .int h0f5, .ref h1, .ref h2, .int h0f8, .int h0f9, .ref h3, .ref h4, .ref h5, .ref h6, .ref h7, .ref h8, .ref h9, .int h0f17, .int h0f18, .int h0f19, .ref h10, .ref h11, .ref h12, .ref h13, .int h0f24, .int h0f25, .ref h14, .ref h15, .ref h16, .ref h17, .int h0f30, .int h0f31, .ref h18, .ref h19, .ref h20, .ref h21]), (h1, aI (k 0) 36 anI), (h2, aI (k 0) 36 anI)] s.heap := hT
  refine lv_aload_n hx hb dX11_again_0 rfl (lv_at hl 0 rfl) ?_
  refine tz_get (ci := 8) (v := .int h0f8) (C := RX11) (F := TX11) (N := 36) hx hb hU iX11 hown hK hT 0 rfl rfl 8 (by decide) w793 (fun _ h9 => h9) rfl dX11_again_1 ?_
  refine lv_if_ne (tgt := 10) hx hb dX11_again_4 (by decide) (fun c_1 => ?_) (fun c_1 => ?_)
  · skip
    have c_1 := ni_ne c_1 rfl li_0
    refine lv_iconst (v := 0) hx hb dX11_again_10 (by decide) ?_
    refine lv_istore_n (lv' := [(1, .int 0), (0, .ref h0)]) hx hb dX11_again_11 rfl hl (by decide) rfl (fun ls hl => ?_)
    have lp12_12 : ∀ (n : Nat) (y11 : Int32) (H : Heap) (locs : List Loc) (ls : Array Slot), (0 ≤ y11.toInt ∧ y11.toInt ≤ 36) → ((-1) * y11.toInt + 36 + 1).toNat < n → TP D A [(h0, ob 8 [.int h0f0, .int h0f1, .int h0f2, .int h0f3, .int h0f4, .int h0f5, .ref h1, .ref h2, .int h0f8, .int h0f9, .ref h3, .ref h4, .ref h5, .ref h6, .ref h7, .ref h8, .ref h9, .int h0f17, .int h0f18, .int h0f19, .ref h10, .ref h11, .ref h12, .ref h13, .int h0f24, .int h0f25, .ref h14, .ref h15, .ref h16, .ref h17, .int h0f30, .int h0f31, .ref h18, .ref h19, .ref h20, .ref h21]), (h1, aI (k 0) 36 anI), (h2, aI (k 0) 36 anI)] H → va_S A s.heap H locs → lv_has ls 2 [(0, .ref h0), (1, .int y11)] → W p l e Rm_cX11_again_7e659 s m args below meth c H locs 0 0 Q (F0 m 12 ls []) := by
      intro n
      induction n with
      | zero => intro y11 H locs ls b_y11 hm hT hS hl; exact absurd hm (Nat.not_lt_zero _)
      | succ n ih =>
        intro y11 H locs ls b_y11 hm hT hS hl
        have ih12_12 := ih
        clear ih
        refine lv_iload_n hx hb dX11_again_12 rfl (lv_at hl 1 rfl) ?_
        refine lv_bipush (v := 36) hx hb dX11_again_13 (by decide) ?_
        refine lv_icmp_ge (tgt := 36) hx hb dX11_again_15 (by decide) (fun c_13 => ?_) (fun c_13 => ?_)
        · skip
          have c_13 := ni_le c_13 li_36 rfl
          refine lv_aload_n hx hb dX11_again_36 rfl (lv_at hl 0 rfl) ?_
          refine lv_aload_n hx hb dX11_again_37 rfl (lv_at hl 0 rfl) ?_
          refine tz_get (ci := 8) (v := .int h0f3) (C := RX11) (F := TX11) (N := 36) hx hb hU iX11 hown hK hT 0 rfl rfl 3 (by decide) w788 (fun _ h9 => h9) rfl dX11_again_38 ?_
          refine tz_put (ci := 8) (v := .int h0f3) (ty := .int) (C := RX11) (F := TX11) (N := 36) hx hb hU iX11 tyX11 tyX11_ok nmX11 hown hK hT hS 0 rfl rfl 0 (by decide) w785 (fun _ h9 => h9) rfl (by decide +kernel) rfl rfl (Nat.le_of_ble_eq_true rfl) dX11_again_41 (fun H locs hT hS => ?_)
          have hT : TP D A [(h0, ob 8 [.int h0f3, .int h0f1, .int h0f2, .int h0f3, .int h0f4, .int h0f5, .ref h1, .ref h2, .int h0f8, .int h0f9, .ref h3, .ref h4, .ref h5, .ref h6, .ref h7, .ref h8, .ref h9, .int h0f17, .int h0f18, .int h0f19, .ref h10, .ref h11, .ref h12, .ref h13, .int h0f24, .int h0f25, .ref h14, .ref h15, .ref h16, .ref h17, .int h0f30, .int h0f31, .ref h18, .ref h19, .ref h20, .ref h21]), (h1, aI (k 0) 36 anI), (h2, aI (k 0) 36 anI)] _ := hT
          refine lv_aload_n hx hb dX11_again_44 rfl (lv_at hl 0 rfl) ?_
          refine lv_aload_n hx hb dX11_again_45 rfl (lv_at hl 0 rfl) ?_
          refine tz_get (ci := 8) (v := .int h0f4) (C := RX11) (F := TX11) (N := 36) hx hb hU iX11 hown hK hT 0 rfl rfl 4 (by decide) w789 (fun _ h9 => h9) rfl dX11_again_46 ?_
          refine tz_put (ci := 8) (v := .int h0f4) (ty := .int) (C := RX11) (F := TX11) (N := 36) hx hb hU iX11 tyX11 tyX11_ok nmX11 hown hK hT hS 0 rfl rfl 1 (by decide) w786 (fun _ h9 => h9) rfl (by decide +kernel) rfl rfl (Nat.le_of_ble_eq_true rfl) dX11_again_49 (fun H locs hT hS => ?_)
          have hT : TP D A [(h0, ob 8 [.int h0f3, .int h0f4, .int h0f2, .int h0f3, .int h0f4, .int h0f5, .ref h1, .ref h2, .int h0f8, .int h0f9, .ref h3, .ref h4, .ref h5, .ref h6, .ref h7, .ref h8, .ref h9, .int h0f17, .int h0f18, .int h0f19, .ref h10, .ref h11, .ref h12, .ref h13, .int h0f24, .int h0f25, .ref h14, .ref h15, .ref h16, .ref h17, .int h0f30, .int h0f31, .ref h18, .ref h19, .ref h20, .ref h21]), (h1, aI (k 0) 36 anI), (h2, aI (k 0) 36 anI)] _ := hT
          refine lv_aload_n hx hb dX11_again_52 rfl (lv_at hl 0 rfl) ?_
          refine lv_aload_n hx hb dX11_again_53 rfl (lv_at hl 0 rfl) ?_
          refine tz_get (ci := 8) (v := .int h0f5) (C := RX11) (F := TX11) (N := 36) hx hb hU iX11 hown hK hT 0 rfl rfl 5 (by decide) w790 (fun _ h9 => h9) rfl dX11_again_54 ?_
          refine tz_put (ci := 8) (v := .int h0f5) (ty := .int) (C := RX11) (F := TX11) (N := 36) hx hb hU iX11 tyX11 tyX11_ok nmX11 hown hK hT hS 0 rfl rfl 2 (by decide) w787 (fun _ h9 => h9) rfl (by decide +kernel) rfl rfl (Nat.le_of_ble_eq_true rfl) dX11_again_57 (fun H locs hT hS => ?_)
          have hT : TP D A [(h0, ob 8 [.int h0f3, .int h0f4, .int h0f5, .int h0f3, .int h0f4, .int h0f5, .ref h1, .ref h2, .int h0f8, .int h0f9, .ref h3, .ref h4, .ref h5, .ref h6, .ref h7, .ref h8, .ref h9, .int h0f17, .int h0f18, .int h0f19, .ref h10, .ref h11, .ref h12, .ref h13, .int h0f24, .int h0f25, .ref h14, .ref h15, .ref h16, .ref h17, .int h0f30, .int h0f31, .ref h18, .ref h19, .ref h20, .ref h21]), (h1, aI (k 0) 36 anI), (h2, aI (k 0) 36 anI)] _ := hT
          refine lv_aload_n hx hb dX11_again_60 rfl (lv_at hl 0 rfl) ?_
          refine lv_iconst (v := 0) hx hb dX11_again_61 (by decide) ?_
          refine tz_put (ci := 8) (v := .int 0) (ty := .boolean) (C := RX11) (F := TX11) (N := 36) hx hb hU iX11 tyX11 tyX11_ok nmX11 hown hK hT hS 0 rfl rfl 9 (by decide) w794 (fun _ h9 => h9) rfl (by decide +kernel) rfl rfl (Nat.le_of_ble_eq_true rfl) dX11_again_62 (fun H locs hT hS => ?_)
          have hT : TP D A [(h0, ob 8 [.int h0f3, .int h0f4, .int h0f5, .int h0f3, .int h0f4, .int h0f5, .ref h1, .ref h2, .int h0f8, .int 0, .ref h3, .ref h4, .ref h5, .ref h6, .ref h7, .ref h8, .ref h9, .int h0f17, .int h0f18, .int h0f19, .ref h10, .ref h11, .ref h12, .ref h13, .int h0f24, .int h0f25, .ref h14, .ref h15, .ref h16, .ref h17, .int h0f30, .int h0f31, .ref h18, .ref h19, .ref h20, .ref h21]), (h1, aI (k 0) 36 anI), (h2, aI (k 0) 36 anI)] _ := hT
          refine lv_aload_n hx hb dX11_again_65 rfl (lv_at hl 0 rfl) ?_
          refine lv_iconst (v := 0) hx hb dX11_again_66 (by decide) ?_
          refine tz_put (ci := 8) (v := .int 0) (ty := .int) (C := RX11) (F := TX11) (N := 36) hx hb hU iX11 tyX11 tyX11_ok nmX11 hown hK hT hS 0 rfl rfl 30 (by decide) w815 (fun _ h9 => h9) rfl (by decide +kernel) rfl rfl (Nat.le_of_ble_eq_true rfl) dX11_again_67 (fun H locs hT hS => ?_)
          have hT : TP D A [(h0, ob 8 [.int h0f3, .int h0f4, .int h0f5, .int h0f3, .int h0f4, .int h0f5, .ref h1, .ref h2, .int h0f8, .int 0, .ref h3, .ref h4, .ref h5, .ref h6, .ref h7, .ref h8, .ref h9, .int h0f17, .int h0f18, .int h0f19, .ref h10, .ref h11, .ref h12, .ref h13, .int h0f24, .int h0f25, .ref h14, .ref h15, .ref h16, .ref h17, .int 0, .int h0f31, .ref h18, .ref h19, .ref h20, .ref h21]), (h1, aI (k 0) 36 anI), (h2, aI (k 0) 36 anI)] _ := hT
          refine lv_aload_n hx hb dX11_again_70 rfl (lv_at hl 0 rfl) ?_
          refine tz_get (ci := 8) (v := .int h0f4) (C := RX11) (F := TX11) (N := 36) hx hb hU iX11 hown hK hT 0 rfl rfl 1 (by decide) w786 (fun _ h9 => h9) rfl dX11_again_71 ?_
          exact tz_retI (B := B_cX11_again_7e659 D k h0 h1 h2 h3 h4 h5 h6 h7 h8 h9 h10 h11 h12 h13 h14 h15 h16 h17 h18 h19 h20 h21 h0f0 h0f1 h0f2 h0f3 h0f4 h0f5 h0f8 h0f9 h0f17 h0f18 h0f19 h0f24 h0f25 h0f30 h0f31) (v := h0f4) hQ hx hb hr hlocks hS (Nat.le_of_ble_eq_true rfl) (Nat.le_of_ble_eq_true rfl) dX11_again_74 (⟨h0f3, h0f4, h0f5, 0, 0, (by have := li_0; omega), (by have := li_0; omega), (by have := li_0; omega), (by have := li_0; omega), (by have := li_0; omega), (by have := li_0; omega), (by have := li_0; omega), hT⟩)
        · skip
          have c_13 := ni_nle c_13 li_36 rfl
          refine lv_aload_n hx hb dX11_again_18 rfl (lv_at hl 0 rfl) ?_
          refine tz_get (ci := 8) (v := .ref h1) (C := RX11) (F := TX11) (N := 36) hx hb hU iX11 hown hK hT 0 rfl rfl 6 (by decide) w791 (fun _ h9 => h9) rfl dX11_again_19 ?_
          refine lv_iload_n hx hb dX11_again_22 rfl (lv_at hl 1 rfl) ?_
          refine lv_aload_n hx hb dX11_again_23 rfl (lv_at hl 0 rfl) ?_
          refine tz_get (ci := 8) (v := .ref h2) (C := RX11) (F := TX11) (N := 36) hx hb hU iX11 hown hK hT 0 rfl rfl 7 (by decide) w792 (fun _ h9 => h9) rfl dX11_again_24 ?_
          refine lv_iload_n hx hb dX11_again_27 rfl (lv_at hl 1 rfl) ?_
          refine tz_iald hx hb hK hT 2 rfl (by omega) dX11_again_28 (fun v14 e_v14 => ?_)
          clear e_v14
          refine tz_iast hx hb hK hT hS 1 rfl (by omega) (fun _ _ => trivial) dX11_again_29 (fun H locs hT hS => ?_)
          obtain ⟨v15, e_v15⟩ : ∃ x : Int32, x = y11 + Int32.ofInt 1 := ⟨_, rfl⟩
          have f_v15 := e_v15.symm
          have e_v15 : v15.toInt = y11.toInt + 1 := ai_add e_v15 rfl (show (Int32.ofInt 1).toInt = 1 from (by decide +kernel)) (by omega)
          refine lv_iinc (v := v15) (lv' := [(1, .int v15), (0, .ref h0)]) hx hb dX11_again_30 hl (k := 1) rfl f_v15 (by decide) rfl (fun ls hl => ?_)
          refine lv_goto (tgt := 12) hx hb dX11_again_33 (by decide) ?_
          exact ih12_12 v15 _ _ _ (by omega)  (by omega) hT hS (lv_sub hl [1, 0] rfl)
    exact lp12_12 (((-1) * (0 : Int32).toInt + 36 + 1).toNat + 1) (0) _ _ _ (by have := li_0; omega)  (Nat.lt_succ_self _) hT hS (lv_sub hl [1, 0] rfl)
  · skip
    have c_1 := ni_eq c_1 rfl li_0
    refine lv_bipush (v := (-3)) hx hb dX11_again_7 (by decide) ?_
    exact tz_retI (B := B_cX11_again_7e659 D k h0 h1 h2 h3 h4 h5 h6 h7 h8 h9 h10 h11 h12 h13 h14 h15 h16 h17 h18 h19 h20 h21 h0f0 h0f1 h0f2 h0f3 h0f4 h0f5 h0f8 h0f9 h0f17 h0f18 h0f19 h0f24 h0f25 h0f30 h0f31) (v := (-3)) hQ hx hb hr hlocks hS (Nat.le_of_ble_eq_true rfl) (Nat.le_of_ble_eq_true rfl) dX11_again_9 (⟨h0f0, h0f1, h0f2, h0f9, h0f30, (by have := li_m3; omega), (by have := li_m3; omega), (by have := li_m3; omega), (by have := li_m3; omega), (by have := li_m3; omega), (by have := li_m3; omega), (by have := li_m3; omega), hT⟩)
