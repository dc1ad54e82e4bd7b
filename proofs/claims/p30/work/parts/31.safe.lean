abbrev Rm_cX10_faithful_b7c12 : Room := { frames := 6, cells := 9, slots := 16296, locals := 149 }
abbrev B_cX10_faithful_b7c12 (D : va_G) (k : Nat → ClassId) (h0 h1 h5 h8 h11 h13 h21 h22 h23 h24 h25 h26 h27 h28 h2 h3 h4 h6 h7 h9 h10 h12 : Nat) (x1 : Int32) (h0f2 : Int32) (h0f6 : Int32) (h0f8 : Int32) (h0f11 : Int32) (h1f0 : Int32) (h1f1 : Int32) (h1f2 : Int32) (h5f8 : Int32) (h5f9 : Int32) (h5f10 : Int32) (h5f11 : Int32) (h8f1 : Int32) (A : Nat → Prop) (r : Int32) (H : Heap) : Prop := (∃ n0 : Nat, ∃ n1 : Nat, ∃ n2 : Nat, ∃ n3 : Nat, ∃ n4 : Nat, ∃ n5 : Nat, ∃ n6 : Nat, ∃ n7 : Nat, ∃ n8 : Nat, ∃ o0 : Int32, ∃ o1 : Int32, ∃ o2 : Int32, ∃ o3 : Int32, ∃ o4 : Int32, ∃ o5 : Int32, ∃ o6 : Int32, ∃ o7 : Int32, (1 ≤ o0.toInt ∧ o0.toInt ≤ 1) ∧ (0 ≤ o1.toInt ∧ o1.toInt ≤ 9) ∧ (0 ≤ o2.toInt ∧ o2.toInt ≤ 100) ∧ (0 ≤ o3.toInt ∧ o3.toInt ≤ 100) ∧ (0 ≤ o4.toInt ∧ o4.toInt ≤ 1) ∧ (0 ≤ o5.toInt ∧ o5.toInt ≤ 7) ∧ (1 ≤ o6.toInt ∧ o6.toInt ≤ 9) ∧ (0 ≤ o7.toInt ∧ o7.toInt ≤ 400) ∧ (0 ≤ r.toInt ∧ r.toInt ≤ 1) ∧ TP D A [(h0, ob 7 [.ref h1, .ref h2, .int h0f2, .ref h3, .ref h4, .ref h5, .int o0, .ref h6, .int h0f8, .ref n0, .ref h7, .int h0f11, .ref h8, .ref h9, .ref h10, .ref h11, .ref h12]), (h1, ob 4 [.int h1f0, .int h1f1, .int h1f2, .ref h13]), (h5, ob 3 [.ref h21, .ref h22, .ref h23, .ref h24, .ref h25, .ref h26, .ref h27, .ref h28, .int o1, .int o2, .int o3, .int o4]), (h8, ob 2 [.ref h1, .int o5]), (h11, aJ (k 1) 9 anJ), (h13, aJ (k 1) 36 anJ), (h21, aJ (k 1) 900 anJ), (h22, aI (k 0) 100 anI), (h23, aI (k 0) 100 anI), (h24, aI (k 0) 100 anI), (h25, aI (k 0) 400 anI), (h26, aI (k 0) 256 (rgI (-1) 99)), (h27, aI (k 0) 100 (rgI (-1) 99)), (h28, aJ (k 1) 60 anJ), (n0, ob 3 [.ref n1, .ref n2, .ref n3, .ref n4, .ref n5, .ref n6, .ref n7, .ref n8, .int o6, .int 400, .int o7, .int 0]), (n1, aJ (k 1) 12000 anJ), (n2, aI (k 0) 400 anI), (n3, aI (k 0) 400 anI), (n4, aI (k 0) 400 anI), (n5, aI (k 0) 1600 anI), (n6, aI (k 0) 1024 anI), (n7, aI (k 0) 400 anI), (n8, aJ (k 1) 60 anJ)] H) ∨ ((-1) = r ∧ TP D A [(h0, ob 7 [.ref h1, .ref h2, .int h0f2, .ref h3, .ref h4, .ref h5, .int h0f6, .ref h6, .int h0f8, .null, .ref h7, .int h0f11, .ref h8, .ref h9, .ref h10, .ref h11, .ref h12]), (h1, ob 4 [.int h1f0, .int h1f1, .int h1f2, .ref h13]), (h5, ob 3 [.ref h21, .ref h22, .ref h23, .ref h24, .ref h25, .ref h26, .ref h27, .ref h28, .int h5f8, .int h5f9, .int h5f10, .int h5f11]), (h8, ob 2 [.ref h1, .int h8f1]), (h11, aJ (k 1) 9 anJ), (h13, aJ (k 1) 36 anJ), (h21, aJ (k 1) 900 anJ), (h22, aI (k 0) 100 anI), (h23, aI (k 0) 100 anI), (h24, aI (k 0) 100 anI), (h25, aI (k 0) 400 anI), (h26, aI (k 0) 256 (rgI (-1) 99)), (h27, aI (k 0) 100 (rgI (-1) 99)), (h28, aJ (k 1) 60 anJ)] H)
set_option maxHeartbeats 4000000 in
set_option maxRecDepth 100000 in
theorem cX10_faithful_b7c12 (l : Launch) (D : va_G) (k : Nat → ClassId) (sz : Nat) (h0 h1 h5 h8 h11 h13 h21 h22 h23 h24 h25 h26 h27 h28 h2 h3 h4 h6 h7 h9 h10 h12 : Nat) (x1 : Int32) (h0f2 : Int32) (h0f6 : Int32) (h0f8 : Int32) (h0f11 : Int32) (h1f0 : Int32) (h1f1 : Int32) (h1f2 : Int32) (h5f8 : Int32) (h5f9 : Int32) (h5f10 : Int32) (h5f11 : Int32) (h8f1 : Int32) (b_h0f2 : 0 ≤ h0f2.toInt ∧ h0f2.toInt ≤ 1) (b_h0f6 : 0 ≤ h0f6.toInt ∧ h0f6.toInt ≤ 1) (b_h0f8 : 0 ≤ h0f8.toInt ∧ h0f8.toInt ≤ 1) (b_h0f11 : 0 ≤ h0f11.toInt ∧ h0f11.toInt ≤ 200) (b_h1f0 : 1 ≤ h1f0.toInt ∧ h1f0.toInt ≤ 3) (b_h1f1 : 0 ≤ h1f1.toInt ∧ h1f1.toInt ≤ 4) (b_h5f8 : 0 ≤ h5f8.toInt ∧ h5f8.toInt ≤ 9) (b_h5f9 : 0 ≤ h5f9.toInt ∧ h5f9.toInt ≤ 100) (b_h5f10 : 0 ≤ h5f10.toInt ∧ h5f10.toInt ≤ 100) (b_h5f11 : 0 ≤ h5f11.toInt ∧ h5f11.toInt ≤ 1) (b_h8f1 : 0 ≤ h8f1.toInt ∧ h8f1.toInt ≤ 7) : Met l yX10_faithful (Cond.code yX10_faithful cX10_faithful 2 (some .int) :: uw) Rm_cX10_faithful_b7c12 (pT D k sz [.ref h0, .int x1] [(h0, ob 7 [.ref h1, .ref h2, .int h0f2, .ref h3, .ref h4, .ref h5, .int h0f6, .ref h6, .int h0f8, .null, .ref h7, .int h0f11, .ref h8, .ref h9, .ref h10, .ref h11, .ref h12]), (h1, ob 4 [.int h1f0, .int h1f1, .int h1f2, .ref h13]), (h5, ob 3 [.ref h21, .ref h22, .ref h23, .ref h24, .ref h25, .ref h26, .ref h27, .ref h28, .int h5f8, .int h5f9, .int h5f10, .int h5f11]), (h8, ob 2 [.ref h1, .int h8f1]), (h11, aJ (k 1) 9 anJ), (h13, aJ (k 1) 36 anJ), (h21, aJ (k 1) 900 anJ), (h22, aI (k 0) 100 anI), (h23, aI (k 0) 100 anI), (h24, aI (k 0) 100 anI), (h25, aI (k 0) 400 anI), (h26, aI (k 0) 256 (rgI (-1) 99)), (h27, aI (k 0) 100 (rgI (-1) 99)), (h28, aJ (k 1) 60 anJ)]) (qI (B_cX10_faithful_b7c12 D k h0 h1 h5 h8 h11 h13 h21 h22 h23 h24 h25 h26 h27 h28 h2 h3 h4 h6 h7 h9 h10 h12 x1 h0f2 h0f6 h0f8 h0f11 h1f0 h1f1 h1f2 h5f8 h5f9 h5f10 h5f11 h8f1 (zA [h0, h1, h5, h8, h11, h13, h21, h22, h23, h24, h25, h26, h27, h28] sz)) (zA [h0, h1, h5, h8, h11, h13, h21, h22, h23, h24, h25, h26, h27, h28] sz)) 9 16296 (zA [h0, h1, h5, h8, h11, h13, h21, h22, h23, h24, h25, h26, h27, h28] sz) := by
  refine tz_begin (as := [h0, h1, h5, h8, h11, h13, h21, h22, h23, h24, h25, h26, h27, h28]) (Qc := fun A => qI (B_cX10_faithful_b7c12 D k h0 h1 h5 h8 h11 h13 h21 h22 h23 h24 h25 h26 h27 h28 h2 h3 h4 h6 h7 h9 h10 h12 x1 h0f2 h0f6 h0f8 h0f11 h1f0 h1f1 h1f2 h5f8 h5f9 h5f10 h5f11 h8f1 A) A) (by decide +kernel) rfl (Nat.le_of_ble_eq_true rfl) ?_
  intro p e s m args below meth c ls A Q hx hb hr hml hown hlocks hin hU hK hT hS hA hl hQ
  have hl : lv_has ls 2 [(0, .ref h0), (1, .int x1)] := hl
  have hT : TP D A [(h0, ob 7 [.ref h1, .ref h2, .int h0f2, .ref h3, .ref h4, .ref h5, .int h0f6, .ref h6, .int h0f8, .null, .ref h7, .int h0f11, .ref h8, .ref h9, .ref h10, .ref h11, .ref h12]), (h1, ob 4 [.int h1f0, .int h1f1, .int h1f2, .ref h13]), (h5, ob 3 [.ref h21, .ref h22, .ref h23, .ref h24, .ref h25, .ref h26, .ref h27, .ref h28, .int h5f8, .int h5f9, .int h5f10, .int h5f11]), (h8, ob 2 [.ref h1, .int h8f1]), (h11, aJ (k 1) 9 anJ), (h13, aJ (k 1) 36 anJ), (h21, aJ (k 1) 900 anJ), (h22, aI (k 0) 100 anI), (h23, aI (k 0) 100 anI), (h24, aI (k 0) 100 anI), (h25, aI (k 0) 400 anI), (h26, aI (k 0) 256 (rgI (-1) 99)), (h27, aI (k 0) 100 (rgI (-1) 99)), (h28, aJ (k 1) 60 anJ)] s.heap := hT
  refine lv_iload_n hx hb dX10_faithful_0 rfl (lv_at hl 1 rfl) ?_
  refine tcI (Tc := []) (Tr := [(h0, ob 7 [.ref h1, .ref h2, .int h0f2, .ref h3, .ref h4, .ref h5, .int h0f6, .ref h6, .int h0f8, .null, .ref h7, .int h0f11, .ref h8, .ref h9, .ref h10, .ref h11, .ref h12]), (h1, ob 4 [.int h1f0, .int h1f1, .int h1f2, .ref h13]), (h5, ob 3 [.ref h21, .ref h22, .ref h23, .ref h24, .ref h25, .ref h26, .ref h27, .ref h28, .int h5f8, .int h5f9, .int h5f10, .int h5f11]), (h8, ob 2 [.ref h1, .int h8f1]), (h11, aJ (k 1) 9 anJ), (h13, aJ (k 1) 36 anJ), (h21, aJ (k 1) 900 anJ), (h22, aI (k 0) 100 anI), (h23, aI (k 0) 100 anI), (h24, aI (k 0) 100 anI), (h25, aI (k 0) 400 anI), (h26, aI (k 0) 256 (rgI (-1) 99)), (h27, aI (k 0) 100 (rgI (-1) 99)), (h28, aJ (k 1) 60 anJ)]) (as := []) (zcS (As := [.int x1]) (rest := []) (Tc := []) hx hb hml hown hU hK hT [] rfl (by decide) (cX10_isPrimeTaken_1c6a4 l D k _ x1) w664 w662 w663 w63 hdX10_isPrimeTaken ⟨rfl, rfl⟩ ⟨Nat.le_of_ble_eq_true rfl, Nat.le_of_ble_eq_true rfl⟩ rfl hl.1 (Nat.le_of_ble_eq_true rfl) dX10_faithful_1 ⟨Nat.le_of_ble_eq_true rfl, Nat.le_of_ble_eq_true rfl⟩) hT hS hA [] [0, 1, 2, 3, 4, 5, 6, 7, 8, 9, 10, 11, 12, 13] rfl rfl rfl (by decide) (by decide) (fun r1 H locs hB J hS => ?_)
  rcases hB with ⟨c_2, rfl, hT1⟩ | ⟨c_3, c_4, rfl, hT1⟩ | ⟨c_5, c_6, c_7, rfl, hT1⟩ | ⟨rfl, hT1⟩ | ⟨c_8, c_9, c_10, c_11, rfl, hT1⟩
  · skip
    have hT := J _ hT1
    have hT : TP D A [(h0, ob 7 [.ref h1, .ref h2, .int h0f2, .ref h3, .ref h4, .ref h5, .int h0f6, .ref h6, .int h0f8, .null, .ref h7, .int h0f11, .ref h8, .ref h9, .ref h10, .ref h11, .ref h12]), (h1, ob 4 [.int h1f0, .int h1f1, .int h1f2, .ref h13]), (h5, ob 3 [.ref h21, .ref h22, .ref h23, .ref h24, .ref h25, .ref h26, .ref h27, .ref h28, .int h5f8, .int h5f9, .int h5f10, .int h5f11]), (h8, ob 2 [.ref h1, .int h8f1]), (h11, aJ (k 1) 9 anJ), (h13, aJ (k 1) 36 anJ), (h21, aJ (k 1) 900 anJ), (h22, aI (k 0) 100 anI), (h23, aI (k 0) 100 anI), (h24, aI (k 0) 100 anI), (h25, aI (k 0) 400 anI), (h26, aI (k 0) 256 (rgI (-1) 99)), (h27, aI (k 0) 100 (rgI (-1) 99)), (h28, aJ (k 1) 60 anJ)] _ := hT
    refine lv_if_ne (tgt := 9) hx hb dX10_faithful_4 (by decide) (fun _ => ?_) (fun cc => absurd cc (by decide +kernel))
    refine lv_aload_n hx hb dX10_faithful_9 rfl (lv_at hl 0 rfl) ?_
    refine tcV (Tc := [(h0, ob 7 [.ref h1, .ref h2, .int h0f2, .ref h3, .ref h4, .ref h5, .int h0f6, .ref h6, .int h0f8, .null, .ref h7, .int h0f11, .ref h8, .ref h9, .ref h10, .ref h11, .ref h12]), (h1, ob 4 [.int h1f0, .int h1f1, .int h1f2, .ref h13]), (h5, ob 3 [.ref h21, .ref h22, .ref h23, .ref h24, .ref h25, .ref h26, .ref h27, .ref h28, .int h5f8, .int h5f9, .int h5f10, .int h5f11]), (h8, ob 2 [.ref h1, .int h8f1]), (h11, aJ (k 1) 9 anJ), (h13, aJ (k 1) 36 anJ), (h21, aJ (k 1) 900 anJ), (h22, aI (k 0) 100 anI), (h23, aI (k 0) 100 anI), (h24, aI (k 0) 100 anI), (h25, aI (k 0) 400 anI), (h26, aI (k 0) 256 (rgI (-1) 99)), (h27, aI (k 0) 100 (rgI (-1) 99)), (h28, aJ (k 1) 60 anJ)]) (Tr := []) (as := [h0, h1, h5, h8, h11, h13, h21, h22, h23, h24, h25, h26, h27, h28]) (zcV (q0 := 0) (ci := 7) (As := []) (rest := []) (Tc := [(h0, ob 7 [.ref h1, .ref h2, .int h0f2, .ref h3, .ref h4, .ref h5, .int h0f6, .ref h6, .int h0f8, .null, .ref h7, .int h0f11, .ref h8, .ref h9, .ref h10, .ref h11, .ref h12]), (h1, ob 4 [.int h1f0, .int h1f1, .int h1f2, .ref h13]), (h5, ob 3 [.ref h21, .ref h22, .ref h23, .ref h24, .ref h25, .ref h26, .ref h27, .ref h28, .int h5f8, .int h5f9, .int h5f10, .int h5f11]), (h8, ob 2 [.ref h1, .int h8f1]), (h11, aJ (k 1) 9 anJ), (h13, aJ (k 1) 36 anJ), (h21, aJ (k 1) 900 anJ), (h22, aI (k 0) 100 anI), (h23, aI (k 0) 100 anI), (h24, aI (k 0) 100 anI), (h25, aI (k 0) 400 anI), (h26, aI (k 0) 256 (rgI (-1) 99)), (h27, aI (k 0) 100 (rgI (-1) 99)), (h28, aJ (k 1) 60 anJ)]) hx hb hml hown hU hK hT rfl rfl [0, 1, 2, 3, 4, 5, 6, 7, 8, 9, 10, 11, 12, 13] rfl (by decide) (cX10_listAll_fe300 l D k _ h0 h1 h5 h8 h11 h13 h21 h22 h23 h24 h25 h26 h27 h28 h2 h3 h4 h6 h7 h9 h10 h12 h0f2 h0f6 h0f8 h0f11 h1f0 h1f1 h1f2 h5f8 h5f9 h5f10 h5f11 h8f1 (by omega) (by omega) (by omega) (by omega) (by omega) (by omega) (by omega) (by omega) (by omega) (by omega) (by omega)) w492 w489 w491 w10 w63 hdX10_listAll ⟨rfl, rfl⟩ ⟨Nat.le_of_ble_eq_true rfl, Nat.le_of_ble_eq_true rfl⟩ rfl hl.1 (Nat.le_of_ble_eq_true rfl) dX10_faithful_10 ⟨Nat.le_of_ble_eq_true rfl, Nat.le_of_ble_eq_true rfl⟩) hT hS hA [0, 1, 2, 3, 4, 5, 6, 7, 8, 9, 10, 11, 12, 13] [] rfl rfl rfl (by decide) (by decide) (fun H locs hB J hS => ?_)
    obtain ⟨v13, v14, v15, v16, v17, v18, b_v13, b_v14, b_v15, b_v16, b_v17, b_v18, hT1⟩ := hB
    have hT := J _ hT1
    have hT : TP D A [(h0, ob 7 [.ref h1, .ref h2, .int h0f2, .ref h3, .ref h4, .ref h5, .int v13, .ref h6, .int h0f8, .null, .ref h7, .int h0f11, .ref h8, .ref h9, .ref h10, .ref h11, .ref h12]), (h1, ob 4 [.int h1f0, .int h1f1, .int h1f2, .ref h13]), (h5, ob 3 [.ref h21, .ref h22, .ref h23, .ref h24, .ref h25, .ref h26, .ref h27, .ref h28, .int v14, .int v15, .int v16, .int v17]), (h8, ob 2 [.ref h1, .int v18]), (h11, aJ (k 1) 9 anJ), (h13, aJ (k 1) 36 anJ), (h21, aJ (k 1) 900 anJ), (h22, aI (k 0) 100 anI), (h23, aI (k 0) 100 anI), (h24, aI (k 0) 100 anI), (h25, aI (k 0) 400 anI), (h26, aI (k 0) 256 (rgI (-1) 99)), (h27, aI (k 0) 100 (rgI (-1) 99)), (h28, aJ (k 1) 60 anJ)] _ := hT
    refine lv_aload_n hx hb dX10_faithful_13 rfl (lv_at hl 0 rfl) ?_
    refine lv_iload_n hx hb dX10_faithful_14 rfl (lv_at hl 1 rfl) ?_
    refine tcI (Tc := [(h0, ob 7 [.ref h1, .ref h2, .int h0f2, .ref h3, .ref h4, .ref h5, .int v13, .ref h6, .int h0f8, .null, .ref h7, .int h0f11, .ref h8, .ref h9, .ref h10, .ref h11, .ref h12]), (h1, ob 4 [.int h1f0, .int h1f1, .int h1f2, .ref h13]), (h5, ob 3 [.ref h21, .ref h22, .ref h23, .ref h24, .ref h25, .ref h26, .ref h27, .ref h28, .int v14, .int v15, .int v16, .int v17]), (h11, aJ (k 1) 9 anJ), (h21, aJ (k 1) 900 anJ)]) (Tr := [(h8, ob 2 [.ref h1, .int v18]), (h13, aJ (k 1) 36 anJ), (h22, aI (k 0) 100 anI), (h23, aI (k 0) 100 anI), (h24, aI (k 0) 100 anI), (h25, aI (k 0) 400 anI), (h26, aI (k 0) 256 (rgI (-1) 99)), (h27, aI (k 0) 100 (rgI (-1) 99)), (h28, aJ (k 1) 60 anJ)]) (as := [h0, h1, h5, h11, h21]) (zcV (q0 := 0) (ci := 7) (As := [.int x1]) (rest := []) (Tc := [(h0, ob 7 [.ref h1, .ref h2, .int h0f2, .ref h3, .ref h4, .ref h5, .int v13, .ref h6, .int h0f8, .null, .ref h7, .int h0f11, .ref h8, .ref h9, .ref h10, .ref h11, .ref h12]), (h1, ob 4 [.int h1f0, .int h1f1, .int h1f2, .ref h13]), (h5, ob 3 [.ref h21, .ref h22, .ref h23, .ref h24, .ref h25, .ref h26, .ref h27, .ref h28, .int v14, .int v15, .int v16, .int v17]), (h11, aJ (k 1) 9 anJ), (h21, aJ (k 1) 900 anJ)]) hx hb hml hown hU hK hT rfl rfl [0, 1, 2, 4, 6] rfl (by decide) (cX10_areApartBy_0198b l D k _ h0 h1 h5 h11 h21 h2 h3 h4 h6 h7 h8 h9 h10 h12 h13 h22 h23 h24 h25 h26 h27 h28 x1 h0f2 v13 h0f8 h0f11 h1f0 h1f1 h1f2 v14 v15 v16 v17 (by omega) (by omega) (by omega) (by omega) (by omega) (by omega) (by omega) (by omega) (by omega) (by omega) (by omega)) w680 w677 w679 w23 w63 hdX10_areApartBy ⟨rfl, rfl⟩ ⟨Nat.le_of_ble_eq_true rfl, Nat.le_of_ble_eq_true rfl⟩ rfl hl.1 (Nat.le_of_ble_eq_true rfl) dX10_faithful_15 ⟨Nat.le_of_ble_eq_true rfl, Nat.le_of_ble_eq_true rfl⟩) hT hS hA [0, 1, 2, 4, 6] [3, 5, 7, 8, 9, 10, 11, 12, 13] rfl rfl rfl (by decide) (by decide) (fun r19 H locs hB J hS => ?_)
    obtain ⟨q20, q21, q22, q23, q24, q25, q26, q27, q28, v29, v30, b_v29, b_v30, b_r19, hT1⟩ := hB
    have hT := J _ hT1
    have hT : TP D A [(h8, ob 2 [.ref h1, .int v18]), (h13, aJ (k 1) 36 anJ), (h22, aI (k 0) 100 anI), (h23, aI (k 0) 100 anI), (h24, aI (k 0) 100 anI), (h25, aI (k 0) 400 anI), (h26, aI (k 0) 256 (rgI (-1) 99)), (h27, aI (k 0) 100 (rgI (-1) 99)), (h28, aJ (k 1) 60 anJ), (h0, ob 7 [.ref h1, .ref h2, .int h0f2, .ref h3, .ref h4, .ref h5, .int v13, .ref h6, .int h0f8, .ref q20, .ref h7, .int h0f11, .ref h8, .ref h9, .ref h10, .ref h11, .ref h12]), (h1, ob 4 [.int h1f0, .int h1f1, .int h1f2, .ref h13]), (h5, ob 3 [.ref h21, .ref h22, .ref h23, .ref h24, .ref h25, .ref h26, .ref h27, .ref h28, .int v14, .int v15, .int v16, .int v17]), (h11, aJ (k 1) 9 anJ), (h21, aJ (k 1) 900 anJ), (q20, ob 3 [.ref q21, .ref q22, .ref q23, .ref q24, .ref q25, .ref q26, .ref q27, .ref q28, .int v29, .int 400, .int v30, .int 0]), (q21, aJ (k 1) 12000 anJ), (q22, aI (k 0) 400 anI), (q23, aI (k 0) 400 anI), (q24, aI (k 0) 400 anI), (q25, aI (k 0) 1600 anI), (q26, aI (k 0) 1024 anI), (q27, aI (k 0) 400 anI), (q28, aJ (k 1) 60 anJ)] _ := hT
    refine lv_if_eq (tgt := 25) hx hb dX10_faithful_18 (by decide) (fun c_31 => ?_) (fun c_31 => ?_)
    · skip
      have c_31 := ni_eq c_31 rfl li_0
      refine lv_iconst (v := 0) hx hb dX10_faithful_25 (by decide) ?_
      exact tz_retI (B := B_cX10_faithful_b7c12 D k h0 h1 h5 h8 h11 h13 h21 h22 h23 h24 h25 h26 h27 h28 h2 h3 h4 h6 h7 h9 h10 h12 x1 h0f2 h0f6 h0f8 h0f11 h1f0 h1f1 h1f2 h5f8 h5f9 h5f10 h5f11 h8f1) (v := 0) hQ hx hb hr hlocks hS (Nat.le_of_ble_eq_true rfl) (Nat.le_of_ble_eq_true rfl) dX10_faithful_26 (Or.inl ⟨q20, q21, q22, q23, q24, q25, q26, q27, q28, v13, v14, v15, v16, v17, v18, v29, v30, (by have := li_0; omega), (by have := li_0; omega), (by have := li_0; omega), (by have := li_0; omega), (by have := li_0; omega), (by have := li_0; omega), (by have := li_0; omega), (by have := li_0; omega), (by have := li_0; omega), (hT.sub [9, 10, 11, 0, 12, 1, 13, 2, 3, 4, 5, 6, 7, 8, 14, 15, 16, 17, 18, 19, 20, 21, 22] (by decide) rfl)⟩)
    · skip
      have c_31 := ni_ne c_31 rfl li_0
      refine lv_iconst (v := 1) hx hb dX10_faithful_21 (by decide) ?_
      refine lv_goto (tgt := 26) hx hb dX10_faithful_22 (by decide) ?_
      exact tz_retI (B := B_cX10_faithful_b7c12 D k h0 h1 h5 h8 h11 h13 h21 h22 h23 h24 h25 h26 h27 h28 h2 h3 h4 h6 h7 h9 h10 h12 x1 h0f2 h0f6 h0f8 h0f11 h1f0 h1f1 h1f2 h5f8 h5f9 h5f10 h5f11 h8f1) (v := 1) hQ hx hb hr hlocks hS (Nat.le_of_ble_eq_true rfl) (Nat.le_of_ble_eq_true rfl) dX10_faithful_26 (Or.inl ⟨q20, q21, q22, q23, q24, q25, q26, q27, q28, v13, v14, v15, v16, v17, v18, v29, v30, (by have := li_1; omega), (by have := li_1; omega), (by have := li_1; omega), (by have := li_1; omega), (by have := li_1; omega), (by have := li_1; omega), (by have := li_1; omega), (by have := li_1; omega), (by have := li_1; omega), (hT.sub [9, 10, 11, 0, 12, 1, 13, 2, 3, 4, 5, 6, 7, 8, 14, 15, 16, 17, 18, 19, 20, 21, 22] (by decide) rfl)⟩)
  · skip
    have hT := J _ hT1
    have hT : TP D A [(h0, ob 7 [.ref h1, .ref h2, .int h0f2, .ref h3, .ref h4, .ref h5, .int h0f6, .ref h6, .int h0f8, .null, .ref h7, .int h0f11, .ref h8, .ref h9, .ref h10, .ref h11, .ref h12]), (h1, ob 4 [.int h1f0, .int h1f1, .int h1f2, .ref h13]), (h5, ob 3 [.ref h21, .ref h22, .ref h23, .ref h24, .ref h25, .ref h26, .ref h27, .ref h28, .int h5f8, .int h5f9, .int h5f10, .int h5f11]), (h8, ob 2 [.ref h1, .int h8f1]), (h11, aJ (k 1) 9 anJ), (h13, aJ (k 1) 36 anJ), (h21, aJ (k 1) 900 anJ), (h22, aI (k 0) 100 anI), (h23, aI (k 0) 100 anI), (h24, aI (k 0) 100 anI), (h25, aI (k 0) 400 anI), (h26, aI (k 0) 256 (rgI (-1) 99)), (h27, aI (k 0) 100 (rgI (-1) 99)), (h28, aJ (k 1) 60 anJ)] _ := hT
    refine lv_if_ne (tgt := 9) hx hb dX10_faithful_4 (by decide) (fun _ => ?_) (fun cc => absurd cc (by decide +kernel))
    refine lv_aload_n hx hb dX10_faithful_9 rfl (lv_at hl 0 rfl) ?_
    refine tcV (Tc := [(h0, ob 7 [.ref h1, .ref h2, .int h0f2, .ref h3, .ref h4, .ref h5, .int h0f6, .ref h6, .int h0f8, .null, .ref h7, .int h0f11, .ref h8, .ref h9, .ref h10, .ref h11, .ref h12]), (h1, ob 4 [.int h1f0, .int h1f1, .int h1f2, .ref h13]), (h5, ob 3 [.ref h21, .ref h22, .ref h23, .ref h24, .ref h25, .ref h26, .ref h27, .ref h28, .int h5f8, .int h5f9, .int h5f10, .int h5f11]), (h8, ob 2 [.ref h1, .int h8f1]), (h11, aJ (k 1) 9 anJ), (h13, aJ (k 1) 36 anJ), (h21, aJ (k 1) 900 anJ), (h22, aI (k 0) 100 anI), (h23, aI (k 0) 100 anI), (h24, aI (k 0) 100 anI), (h25, aI (k 0) 400 anI), (h26, aI (k 0) 256 (rgI (-1) 99)), (h27, aI (k 0) 100 (rgI (-1) 99)), (h28, aJ (k 1) 60 anJ)]) (Tr := []) (as := [h0, h1, h5, h8, h11, h13, h21, h22, h23, h24, h25, h26, h27, h28]) (zcV (q0 := 0) (ci := 7) (As := []) (rest := []) (Tc := [(h0, ob 7 [.ref h1, .ref h2, .int h0f2, .ref h3, .ref h4, .ref h5, .int h0f6, .ref h6, .int h0f8, .null, .ref h7, .int h0f11, .ref h8, .ref h9, .ref h10, .ref h11, .ref h12]), (h1, ob 4 [.int h1f0, .int h1f1, .int h1f2, .ref h13]), (h5, ob 3 [.ref h21, .ref h22, .ref h23, .ref h24, .ref h25, .ref h26, .ref h27, .ref h28, .int h5f8, .int h5f9, .int h5f10, .int h5f11]), (h8, ob 2 [.ref h1, .int h8f1]), (h11, aJ (k 1) 9 anJ), (h13, aJ (k 1) 36 anJ), (h21, aJ (k 1) 900 anJ), (h22, aI (k 0) 100 anI), (h23, aI (k 0) 100 anI), (h24, aI (k 0) 100 anI), (h25, aI (k 0) 400 anI), (h26, aI (k 0) 256 (rgI (-1) 99)), (h27, aI (k 0) 100 (rgI (-1) 99)), (h28, aJ (k 1) 60 anJ)]) hx hb hml hown hU hK hT rfl rfl [0, 1, 2, 3, 4, 5, 6, 7, 8, 9, 10, 11, 12, 13] rfl (by decide) (cX10_listAll_fe300 l D k _ h0 h1 h5 h8 h11 h13 h21 h22 h23 h24 h25 h26 h27 h28 h2 h3 h4 h6 h7 h9 h10 h12 h0f2 h0f6 h0f8 h0f11 h1f0 h1f1 h1f2 h5f8 h5f9 h5f10 h5f11 h8f1 (by omega) (by omega) (by omega) (by omega) (by omega) (by omega) (by omega) (by omega) (by omega) (by omega) (by omega)) w492 w489 w491 w10 w63 hdX10_listAll ⟨rfl, rfl⟩ ⟨Nat.le_of_ble_eq_true rfl, Nat.le_of_ble_eq_true rfl⟩ rfl hl.1 (Nat.le_of_ble_eq_true rfl) dX10_faithful_10 ⟨Nat.le_of_ble_eq_true rfl, Nat.le_of_ble_eq_true rfl⟩) hT hS hA [0, 1, 2, 3, 4, 5, 6, 7, 8, 9, 10, 11, 12, 13] [] rfl rfl rfl (by decide) (by decide) (fun H locs hB J hS => ?_)
    obtain ⟨v33, v34, v35, v36, v37, v38, b_v33, b_v34, b_v35, b_v36, b_v37, b_v38, hT1⟩ := hB
    have hT := J _ hT1
    have hT : TP D A [(h0, ob 7 [.ref h1, .ref h2, .int h0f2, .ref h3, .ref h4, .ref h5, .int v33, .ref h6, .int h0f8, .null, .ref h7, .int h0f11, .ref h8, .ref h9, .ref h10, .ref h11, .ref h12]), (h1, ob 4 [.int h1f0, .int h1f1, .int h1f2, .ref h13]), (h5, ob 3 [.ref h21, .ref h22, .ref h23, .ref h24, .ref h25, .ref h26, .ref h27, .ref h28, .int v34, .int v35, .int v36, .int v37]), (h8, ob 2 [.ref h1, .int v38]), (h11, aJ (k 1) 9 anJ), (h13, aJ (k 1) 36 anJ), (h21, aJ (k 1) 900 anJ), (h22, aI (k 0) 100 anI), (h23, aI (k 0) 100 anI), (h24, aI (k 0) 100 anI), (h25, aI (k 0) 400 anI), (h26, aI (k 0) 256 (rgI (-1) 99)), (h27, aI (k 0) 100 (rgI (-1) 99)), (h28, aJ (k 1) 60 anJ)] _ := hT
    refine lv_aload_n hx hb dX10_faithful_13 rfl (lv_at hl 0 rfl) ?_
    refine lv_iload_n hx hb dX10_faithful_14 rfl (lv_at hl 1 rfl) ?_
    refine tcI (Tc := [(h0, ob 7 [.ref h1, .ref h2, .int h0f2, .ref h3, .ref h4, .ref h5, .int v33, .ref h6, .int h0f8, .null, .ref h7, .int h0f11, .ref h8, .ref h9, .ref h10, .ref h11, .ref h12]), (h1, ob 4 [.int h1f0, .int h1f1, .int h1f2, .ref h13]), (h5, ob 3 [.ref h21, .ref h22, .ref h23, .ref h24, .ref h25, .ref h26, .ref h27, .ref h28, .int v34, .int v35, .int v36, .int v37]), (h11, aJ (k 1) 9 anJ), (h21, aJ (k 1) 900 anJ)]) (Tr := [(h8, ob 2 [.ref h1, .int v38]), (h13, aJ (k 1) 36 anJ), (h22, aI (k 0) 100 anI), (h23, aI (k 0) 100 anI), (h24, aI (k 0) 100 anI), (h25, aI (k 0) 400 anI), (h26, aI (k 0) 256 (rgI (-1) 99)), (h27, aI (k 0) 100 (rgI (-1) 99)), (h28, aJ (k 1) 60 anJ)]) (as := [h0, h1, h5, h11, h21]) (zcV (q0 := 0) (ci := 7) (As := [.int x1]) (rest := []) (Tc := [(h0, ob 7 [.ref h1, .ref h2, .int h0f2, .ref h3, .ref h4, .ref h5, .int v33, .ref h6, .int h0f8, .null, .ref h7, .int h0f11, .ref h8, .ref h9, .ref h10, .ref h11, .ref h12]), (h1, ob 4 [.int h1f0, .int h1f1, .int h1f2, .ref h13]), (h5, ob 3 [.ref h21, .ref h22, .ref h23, .ref h24, .ref h25, .ref h26, .ref h27, .ref h28, .int v34, .int v35, .int v36, .int v37]), (h11, aJ (k 1) 9 anJ), (h21, aJ (k 1) 900 anJ)]) hx hb hml hown hU hK hT rfl rfl [0, 1, 2, 4, 6] rfl (by decide) (cX10_areApartBy_0198b l D k _ h0 h1 h5 h11 h21 h2 h3 h4 h6 h7 h8 h9 h10 h12 h13 h22 h23 h24 h25 h26 h27 h28 x1 h0f2 v33 h0f8 h0f11 h1f0 h1f1 h1f2 v34 v35 v36 v37 (by omega) (by omega) (by omega) (by omega) (by omega) (by omega) (by omega) (by omega) (by omega) (by omega) (by omega)) w680 w677 w679 w23 w63 hdX10_areApartBy ⟨rfl, rfl⟩ ⟨Nat.le_of_ble_eq_true rfl, Nat.le_of_ble_eq_true rfl⟩ rfl hl.1 (Nat.le_of_ble_eq_true rfl) dX10_faithful_15 ⟨Nat.le_of_ble_eq_true rfl, Nat.le_of_ble_eq_true rfl⟩) hT hS hA [0, 1, 2, 4, 6] [3, 5, 7, 8, 9, 10, 11, 12, 13] rfl rfl rfl (by decide) (by decide) (fun r39 H locs hB J hS => ?_)
    obtain ⟨q40, q41, q42, q43, q44, q45, q46, q47, q48, v49, v50, b_v49, b_v50, b_r39, hT1⟩ := hB
    have hT := J _ hT1
    have hT : TP D A [(h8, ob 2 [.ref h1, .int v38]), (h13, aJ (k 1) 36 anJ), (h22, aI (k 0) 100 anI), (h23, aI (k 0) 100 anI), (h24, aI (k 0) 100 anI), (h25, aI (k 0) 400 anI), (h26, aI (k 0) 256 (rgI (-1) 99)), (h27, aI (k 0) 100 (rgI (-1) 99)), (h28, aJ (k 1) 60 anJ), (h0, ob 7 [.ref h1, .ref h2, .int h0f2, .ref h3, .ref h4, .ref h5, .int v33, .ref h6, .int h0f8, .ref q40, .ref h7, .int h0f11, .ref h8, .ref h9, .ref h10, .ref h11, .ref h12]), (h1, ob 4 [.int h1f0, .int h1f1, .int h1f2, .ref h13]), (h5, ob 3 [.ref h21, .ref h22, .ref h23, .ref h24, .ref h25, .ref h26, .ref h27, .ref h28, .int v34, .int v35, .int v36, .int v37]), (h11, aJ (k 1) 9 anJ), (h21, aJ (k 1) 900 anJ), (q40, ob 3 [.ref q41, .ref q42, .ref q43, .ref q44, .ref q45, .ref q46, .ref q47, .ref q48, .int v49, .int 400, .int v50, .int 0]), (q41, aJ (k 1) 12000 anJ), (q42, aI (k 0) 400 anI), (q43, aI (k 0) 400 anI), (q44, aI (k 0) 400 anI), (q45, aI (k 0) 1600 anI), (q46, aI (k 0) 1024 anI), (q47, aI (k 0) 400 anI), (q48, aJ (k 1) 60 anJ)] _ := hT
    refine lv_if_eq (tgt := 25) hx hb dX10_faithful_18 (by decide) (fun c_51 => ?_) (fun c_51 => ?_)
    · skip
      have c_51 := ni_eq c_51 rfl li_0
      refine lv_iconst (v := 0) hx hb dX10_faithful_25 (by decide) ?_
      exact tz_retI (B := B_cX10_faithful_b7c12 D k h0 h1 h5 h8 h11 h13 h21 h22 h23 h24 h25 h26 h27 h28 h2 h3 h4 h6 h7 h9 h10 h12 x1 h0f2 h0f6 h0f8 h0f11 h1f0 h1f1 h1f2 h5f8 h5f9 h5f10 h5f11 h8f1) (v := 0) hQ hx hb hr hlocks hS (Nat.le_of_ble_eq_true rfl) (Nat.le_of_ble_eq_true rfl) dX10_faithful_26 (Or.inl ⟨q40, q41, q42, q43, q44, q45, q46, q47, q48, v33, v34, v35, v36, v37, v38, v49, v50, (by have := li_0; omega), (by have := li_0; omega), (by have := li_0; omega), (by have := li_0; omega), (by have := li_0; omega), (by have := li_0; omega), (by have := li_0; omega), (by have := li_0; omega), (by have := li_0; omega), (hT.sub [9, 10, 11, 0, 12, 1, 13, 2, 3, 4, 5, 6, 7, 8, 14, 15, 16, 17, 18, 19, 20, 21, 22] (by decide) rfl)⟩)
    · skip
      have c_51 := ni_ne c_51 rfl li_0
      refine lv_iconst (v := 1) hx hb dX10_faithful_21 (by decide) ?_
      refine lv_goto (tgt := 26) hx hb dX10_faithful_22 (by decide) ?_
      exact tz_retI (B := B_cX10_faithful_b7c12 D k h0 h1 h5 h8 h11 h13 h21 h22 h23 h24 h25 h26 h27 h28 h2 h3 h4 h6 h7 h9 h10 h12 x1 h0f2 h0f6 h0f8 h0f11 h1f0 h1f1 h1f2 h5f8 h5f9 h5f10 h5f11 h8f1) (v := 1) hQ hx hb hr hlocks hS (Nat.le_of_ble_eq_true rfl) (Nat.le_of_ble_eq_true rfl) dX10_faithful_26 (Or.inl ⟨q40, q41, q42, q43, q44, q45, q46, q47, q48, v33, v34, v35, v36, v37, v38, v49, v50, (by have := li_1; omega), (by have := li_1; omega), (by have := li_1; omega), (by have := li_1; omega), (by have := li_1; omega), (by have := li_1; omega), (by have := li_1; omega), (by have := li_1; omega), (by have := li_1; omega), (hT.sub [9, 10, 11, 0, 12, 1, 13, 2, 3, 4, 5, 6, 7, 8, 14, 15, 16, 17, 18, 19, 20, 21, 22] (by decide) rfl)⟩)
  · skip
    have hT := J _ hT1
    have hT : TP D A [(h0, ob 7 [.ref h1, .ref h2, .int h0f2, .ref h3, .ref h4, .ref h5, .int h0f6, .ref h6, .int h0f8, .null, .ref h7, .int h0f11, .ref h8, .ref h9, .ref h10, .ref h11, .ref h12]), (h1, ob 4 [.int h1f0, .int h1f1, .int h1f2, .ref h13]), (h5, ob 3 [.ref h21, .ref h22, .ref h23, .ref h24, .ref h25, .ref h26, .ref h27, .ref h28, .int h5f8, .int h5f9, .int h5f10, .int h5f11]), (h8, ob 2 [.ref h1, .int h8f1]), (h11, aJ (k 1) 9 anJ), (h13, aJ (k 1) 36 anJ), (h21, aJ (k 1) 900 anJ), (h22, aI (k 0) 100 anI), (h23, aI (k 0) 100 anI), (h24, aI (k 0) 100 anI), (h25, aI (k 0) 400 anI), (h26, aI (k 0) 256 (rgI (-1) 99)), (h27, aI (k 0) 100 (rgI (-1) 99)), (h28, aJ (k 1) 60 anJ)] _ := hT
    refine lv_if_ne (tgt := 9) hx hb dX10_faithful_4 (by decide) (fun _ => ?_) (fun cc => absurd cc (by decide +kernel))
    refine lv_aload_n hx hb dX10_faithful_9 rfl (lv_at hl 0 rfl) ?_
    refine tcV (Tc := [(h0, ob 7 [.ref h1, .ref h2, .int h0f2, .ref h3, .ref h4, .ref h5, .int h0f6, .ref h6, .int h0f8, .null, .ref h7, .int h0f11, .ref h8, .ref h9, .ref h10, .ref h11, .ref h12]), (h1, ob 4 [.int h1f0, .int h1f1, .int h1f2, .ref h13]), (h5, ob 3 [.ref h21, .ref h22, .ref h23, .ref h24, .ref h25, .ref h26, .ref h27, .ref h28, .int h5f8, .int h5f9, .int h5f10, .int h5f11]), (h8, ob 2 [.ref h1, .int h8f1]), (h11, aJ (k 1) 9 anJ), (h13, aJ (k 1) 36 anJ), (h21, aJ (k 1) 900 anJ), (h22, aI (k 0) 100 anI), (h23, aI (k 0) 100 anI), (h24, aI (k 0) 100 anI), (h25, aI (k 0) 400 anI), (h26, aI (k 0) 256 (rgI (-1) 99)), (h27, aI (k 0) 100 (rgI (-1) 99)), (h28, aJ (k 1) 60 anJ)]) (Tr := []) (as := [h0, h1, h5, h8, h11, h13, h21, h22, h23, h24, h25, h26, h27, h28]) (zcV (q0 := 0) (ci := 7) (As := []) (rest := []) (Tc := [(h0, ob 7 [.ref h1, .ref h2, .int h0f2, .ref h3, .ref h4, .ref h5, .int h0f6, .ref h6, .int h0f8, .null, .ref h7, .int h0f11, .ref h8, .ref h9, .ref h10, .ref h11, .ref h12]), (h1, ob 4 [.int h1f0, .int h1f1, .int h1f2, .ref h13]), (h5, ob 3 [.ref h21, .ref h22, .ref h23, .ref h24, .ref h25, .ref h26, .ref h27, .ref h28, .int h5f8, .int h5f9, .int h5f10, .int h5f11]), (h8, ob 2 [.ref h1, .int h8f1]), (h11, aJ (k 1) 9 anJ), (h13, aJ (k 1) 36 anJ), (h21, aJ (k 1) 900 anJ), (h22, aI (k 0) 100 anI), (h23, aI (k 0) 100 anI), (h24, aI (k 0) 100 anI), (h25, aI (k 0) 400 anI), (h26, aI (k 0) 256 (rgI (-1) 99)), (h27, aI (k 0) 100 (rgI (-1) 99)), (h28, aJ (k 1) 60 anJ)]) hx hb hml hown hU hK hT rfl rfl [0, 1, 2, 3, 4, 5, 6, 7, 8, 9, 10, 11, 12, 13] rfl (by decide) (cX10_listAll_fe300 l D k _ h0 h1 h5 h8 h11 h13 h21 h22 h23 h24 h25 h26 h27 h28 h2 h3 h4 h6 h7 h9 h10 h12 h0f2 h0f6 h0f8 h0f11 h1f0 h1f1 h1f2 h5f8 h5f9 h5f10 h5f11 h8f1 (by omega) (by omega) (by omega) (by omega) (by omega) (by omega) (by omega) (by omega) (by omega) (by omega) (by omega)) w492 w489 w491 w10 w63 hdX10_listAll ⟨rfl, rfl⟩ ⟨Nat.le_of_ble_eq_true rfl, Nat.le_of_ble_eq_true rfl⟩ rfl hl.1 (Nat.le_of_ble_eq_true rfl) dX10_faithful_10 ⟨Nat.le_of_ble_eq_true rfl, Nat.le_of_ble_eq_true rfl⟩) hT hS hA [0, 1, 2, 3, 4, 5, 6, 7, 8, 9, 10, 11, 12, 13] [] rfl rfl rfl (by decide) (by decide) (fun H locs hB J hS => ?_)
    obtain ⟨v53, v54, v55, v56, v57, v58, b_v53, b_v54, b_v55, b_v56, b_v57, b_v58, hT1⟩ := hB
    have hT := J _ hT1
    have hT : TP D A [(h0, ob 7 [.ref h1, .ref h2, .int h0f2, .ref h3, .ref h4, .ref h5, .int v53, .ref h6, .int h0f8, .null, .ref h7, .int h0f11, .ref h8, .ref h9, .ref h10, .ref h11, .ref h12]), (h1, ob 4 [.int h1f0, .int h1f1, .int h1f2, .ref h13]), (h5, ob 3 [.ref h21, .ref h22, .ref h23, .ref h24, .ref h25, .ref h26, .ref h27, .ref h28, .int v54, .int v55, .int v56, .int v57]), (h8, ob 2 [.ref h1, .int v58]), (h11, aJ (k 1) 9 anJ), (h13, aJ (k 1) 36 anJ), (h21, aJ (k 1) 900 anJ), (h22, aI (k 0) 100 anI), (h23, aI (k 0) 100 anI), (h24, aI (k 0) 100 anI), (h25, aI (k 0) 400 anI), (h26, aI (k 0) 256 (rgI (-1) 99)), (h27, aI (k 0) 100 (rgI (-1) 99)), (h28, aJ (k 1) 60 anJ)] _ := hT
    refine lv_aload_n hx hb dX10_faithful_13 rfl (lv_at hl 0 rfl) ?_
    refine lv_iload_n hx hb dX10_faithful_14 rfl (lv_at hl 1 rfl) ?_
    refine tcI (Tc := [(h0, ob 7 [.ref h1, .ref h2, .int h0f2, .ref h3, .ref h4, .ref h5, .int v53, .ref h6, .int h0f8, .null, .ref h7, .int h0f11, .ref h8, .ref h9, .ref h10, .ref h11, .ref h12]), (h1, ob 4 [.int h1f0, .int h1f1, .int h1f2, .ref h13]), (h5, ob 3 [.ref h21, .ref h22, .ref h23, .ref h24, .ref h25, .ref h26, .ref h27, .ref h28, .int v54, .int v55, .int v56, .int v57]), (h11, aJ (k 1) 9 anJ), (h21, aJ (k 1) 900 anJ)]) (Tr := [(h8, ob 2 [.ref h1, .int v58]), (h13, aJ (k 1) 36 anJ), (h22, aI (k 0) 100 anI), (h23, aI (k 0) 100 anI), (h24, aI (k 0) 100 anI), (h25, aI (k 0) 400 anI), (h26, aI (k 0) 256 (rgI (-1) 99)), (h27, aI (k 0) 100 (rgI (-1) 99)), (h28, aJ (k 1) 60 anJ)]) (as := [h0, h1, h5, h11, h21]) (zcV (q0 := 0) (ci := 7) (As := [.int x1]) (rest := []) (Tc := [(h0, ob 7 [.ref h1, .ref h2, .int h0f2, .ref h3, .ref h4, .ref h5, .int v53, .ref h6, .int h0f8, .null, .ref h7, .int h0f11, .ref h8, .ref h9, .ref h10, .ref h11, .ref h12]), (h1, ob 4 [.int h1f0, .int h1f1, .int h1f2, .ref h13]), (h5, ob 3 [.ref h21, .ref h22, .ref h23, .ref h24, .ref h25, .ref h26, .ref h27, .ref h28, .int v54, .int v55, .int v56, .int v57]), (h11, aJ (k 1) 9 anJ), (h21, aJ (k 1) 900 anJ)]) hx hb hml hown hU hK hT rfl rfl [0, 1, 2, 4, 6] rfl (by decide) (cX10_areApartBy_0198b l D k _ h0 h1 h5 h11 h21 h2 h3 h4 h6 h7 h8 h9 h10 h12 h13 h22 h23 h24 h25 h26 h27 h28 x1 h0f2 v53 h0f8 h0f11 h1f0 h1f1 h1f2 v54 v55 v56 v57 (by omega) (by omega) (by omega) (by omega) (by omega) (by omega) (by omega) (by omega) (by omega) (by omega) (by omega)) w680 w677 w679 w23 w63 hdX10_areApartBy ⟨rfl, rfl⟩ ⟨Nat.le_of_ble_eq_true rfl, Nat.le_of_ble_eq_true rfl⟩ rfl hl.1 (Nat.le_of_ble_eq_true rfl) dX10_faithful_15 ⟨Nat.le_of_ble_eq_true rfl, Nat.le_of_ble_eq_true rfl⟩) hT hS hA [0, 1, 2, 4, 6] [3, 5, 7, 8, 9, 10, 11, 12, 13] rfl rfl rfl (by decide) (by decide) (fun r59 H locs hB J hS => ?_)
    obtain ⟨q60, q61, q62, q63, q64, q65, q66, q67, q68, v69, v70, b_v69, b_v70, b_r59, hT1⟩ := hB
    have hT := J _ hT1
    have hT : TP D A [(h8, ob 2 [.ref h1, .int v58]), (h13, aJ (k 1) 36 anJ), (h22, aI (k 0) 100 anI), (h23, aI (k 0) 100 anI), (h24, aI (k 0) 100 anI), (h25, aI (k 0) 400 anI), (h26, aI (k 0) 256 (rgI (-1) 99)), (h27, aI (k 0) 100 (rgI (-1) 99)), (h28, aJ (k 1) 60 anJ), (h0, ob 7 [.ref h1, .ref h2, .int h0f2, .ref h3, .ref h4, .ref h5, .int v53, .ref h6, .int h0f8, .ref q60, .ref h7, .int h0f11, .ref h8, .ref h9, .ref h10, .ref h11, .ref h12]), (h1, ob 4 [.int h1f0, .int h1f1, .int h1f2, .ref h13]), (h5, ob 3 [.ref h21, .ref h22, .ref h23, .ref h24, .ref h25, .ref h26, .ref h27, .ref h28, .int v54, .int v55, .int v56, .int v57]), (h11, aJ (k 1) 9 anJ), (h21, aJ (k 1) 900 anJ), (q60, ob 3 [.ref q61, .ref q62, .ref q63, .ref q64, .ref q65, .ref q66, .ref q67, .ref q68, .int v69, .int 400, .int v70, .int 0]), (q61, aJ (k 1) 12000 anJ), (q62, aI (k 0) 400 anI), (q63, aI (k 0) 400 anI), (q64, aI (k 0) 400 anI), (q65, aI (k 0) 1600 anI), (q66, aI (k 0) 1024 anI), (q67, aI (k 0) 400 anI), (q68, aJ (k 1) 60 anJ)] _ := hT
    refine lv_if_eq (tgt := 25) hx hb dX10_faithful_18 (by decide) (fun c_71 => ?_) (fun c_71 => ?_)
    · skip
      have c_71 := ni_eq c_71 rfl li_0
      refine lv_iconst (v := 0) hx hb dX10_faithful_25 (by decide) ?_
      exact tz_retI (B := B_cX10_faithful_b7c12 D k h0 h1 h5 h8 h11 h13 h21 h22 h23 h24 h25 h26 h27 h28 h2 h3 h4 h6 h7 h9 h10 h12 x1 h0f2 h0f6 h0f8 h0f11 h1f0 h1f1 h1f2 h5f8 h5f9 h5f10 h5f11 h8f1) (v := 0) hQ hx hb hr hlocks hS (Nat.le_of_ble_eq_true rfl) (Nat.le_of_ble_eq_true rfl) dX10_faithful_26 (Or.inl ⟨q60, q61, q62, q63, q64, q65, q66, q67, q68, v53, v54, v55, v56, v57, v58, v69, v70, (by have := li_0; omega), (by have := li_0; omega), (by have := li_0; omega), (by have := li_0; omega), (by have := li_0; omega), (by have := li_0; omega), (by have := li_0; omega), (by have := li_0; omega), (by have := li_0; omega), (hT.sub [9, 10, 11, 0, 12, 1, 13, 2, 3, 4, 5, 6, 7, 8, 14, 15, 16, 17, 18, 19, 20, 21, 22] (by decide) rfl)⟩)
    · skip
      have c_71 := ni_ne c_71 rfl li_0
      refine lv_iconst (v := 1) hx hb dX10_faithful_21 (by decide) ?_
      refine lv_goto (tgt := 26) hx hb dX10_faithful_22 (by decide) ?_
      exact tz_retI (B := B_cX10_faithful_b7c12 D k h0 h1 h5 h8 h11 h13 h21 h22 h23 h24 h25 h26 h27 h28 h2 h3 h4 h6 h7 h9 h10 h12 x1 h0f2 h0f6 h0f8 h0f11 h1f0 h1f1 h1f2 h5f8 h5f9 h5f10 h5f11 h8f1) (v := 1) hQ hx hb hr hlocks hS (Nat.le_of_ble_eq_true rfl) (Nat.le_of_ble_eq_true rfl) dX10_faithful_26 (Or.inl ⟨q60, q61, q62, q63, q64, q65, q66, q67, q68, v53, v54, v55, v56, v57, v58, v69, v70, (by have := li_1; omega), (by have := li_1; omega), (by have := li_1; omega), (by have := li_1; omega), (by have := li_1; omega), (by have := li_1; omega), (by have := li_1; omega), (by have := li_1; omega), (by have := li_1; omega), (hT.sub [9, 10, 11, 0, 12, 1, 13, 2, 3, 4, 5, 6, 7, 8, 14, 15, 16, 17, 18, 19, 20, 21, 22] (by decide) rfl)⟩)
  · skip
    have hT := J _ hT1
    have hT : TP D A [(h0, ob 7 [.ref h1, .ref h2, .int h0f2, .ref h3, .ref h4, .ref h5, .int h0f6, .ref h6, .int h0f8, .null, .ref h7, .int h0f11, .ref h8, .ref h9, .ref h10, .ref h11, .ref h12]), (h1, ob 4 [.int h1f0, .int h1f1, .int h1f2, .ref h13]), (h5, ob 3 [.ref h21, .ref h22, .ref h23, .ref h24, .ref h25, .ref h26, .ref h27, .ref h28, .int h5f8, .int h5f9, .int h5f10, .int h5f11]), (h8, ob 2 [.ref h1, .int h8f1]), (h11, aJ (k 1) 9 anJ), (h13, aJ (k 1) 36 anJ), (h21, aJ (k 1) 900 anJ), (h22, aI (k 0) 100 anI), (h23, aI (k 0) 100 anI), (h24, aI (k 0) 100 anI), (h25, aI (k 0) 400 anI), (h26, aI (k 0) 256 (rgI (-1) 99)), (h27, aI (k 0) 100 (rgI (-1) 99)), (h28, aJ (k 1) 60 anJ)] _ := hT
    refine lv_if_ne (tgt := 9) hx hb dX10_faithful_4 (by decide) (fun cc => absurd (by decide +kernel) cc) (fun _ => ?_)
    refine lv_iconst (v := (-1)) hx hb dX10_faithful_7 (by decide) ?_
    exact tz_retI (B := B_cX10_faithful_b7c12 D k h0 h1 h5 h8 h11 h13 h21 h22 h23 h24 h25 h26 h27 h28 h2 h3 h4 h6 h7 h9 h10 h12 x1 h0f2 h0f6 h0f8 h0f11 h1f0 h1f1 h1f2 h5f8 h5f9 h5f10 h5f11 h8f1) (v := (-1)) hQ hx hb hr hlocks hS (Nat.le_of_ble_eq_true rfl) (Nat.le_of_ble_eq_true rfl) dX10_faithful_8 (Or.inr (⟨rfl, hT⟩))
  · skip
    have hT := J _ hT1
    have hT : TP D A [(h0, ob 7 [.ref h1, .ref h2, .int h0f2, .ref h3, .ref h4, .ref h5, .int h0f6, .ref h6, .int h0f8, .null, .ref h7, .int h0f11, .ref h8, .ref h9, .ref h10, .ref h11, .ref h12]), (h1, ob 4 [.int h1f0, .int h1f1, .int h1f2, .ref h13]), (h5, ob 3 [.ref h21, .ref h22, .ref h23, .ref h24, .ref h25, .ref h26, .ref h27, .ref h28, .int h5f8, .int h5f9, .int h5f10, .int h5f11]), (h8, ob 2 [.ref h1, .int h8f1]), (h11, aJ (k 1) 9 anJ), (h13, aJ (k 1) 36 anJ), (h21, aJ (k 1) 900 anJ), (h22, aI (k 0) 100 anI), (h23, aI (k 0) 100 anI), (h24, aI (k 0) 100 anI), (h25, aI (k 0) 400 anI), (h26, aI (k 0) 256 (rgI (-1) 99)), (h27, aI (k 0) 100 (rgI (-1) 99)), (h28, aJ (k 1) 60 anJ)] _ := hT
    refine lv_if_ne (tgt := 9) hx hb dX10_faithful_4 (by decide) (fun _ => ?_) (fun cc => absurd cc (by decide +kernel))
    refine lv_aload_n hx hb dX10_faithful_9 rfl (lv_at hl 0 rfl) ?_
    refine tcV (Tc := [(h0, ob 7 [.ref h1, .ref h2, .int h0f2, .ref h3, .ref h4, .ref h5, .int h0f6, .ref h6, .int h0f8, .null, .ref h7, .int h0f11, .ref h8, .ref h9, .ref h10, .ref h11, .ref h12]), (h1, ob 4 [.int h1f0, .int h1f1, .int h1f2, .ref h13]), (h5, ob 3 [.ref h21, .ref h22, .ref h23, .ref h24, .ref h25, .ref h26, .ref h27, .ref h28, .int h5f8, .int h5f9, .int h5f10, .int h5f11]), (h8, ob 2 [.ref h1, .int h8f1]), (h11, aJ (k 1) 9 anJ), (h13, aJ (k 1) 36 anJ), (h21, aJ (k 1) 900 anJ), (h22, aI (k 0) 100 anI), (h23, aI (k 0) 100 anI), (h24, aI (k 0) 100 anI), (h25, aI (k 0) 400 anI), (h26, aI (k 0) 256 (rgI (-1) 99)), (h27, aI (k 0) 100 (rgI (-1) 99)), (h28, aJ (k 1) 60 anJ)]) (Tr := []) (as := [h0, h1, h5, h8, h11, h13, h21, h22, h23, h24, h25, h26, h27, h28]) (zcV (q0 := 0) (ci := 7) (As := []) (rest := []) (Tc := [(h0, ob 7 [.ref h1, .ref h2, .int h0f2, .ref h3, .ref h4, .ref h5, .int h0f6, .ref h6, .int h0f8, .null, .ref h7, .int h0f11, .ref h8, .ref h9, .ref h10, .ref h11, .ref h12]), (h1, ob 4 [.int h1f0, .int h1f1, .int h1f2, .ref h13]), (h5, ob 3 [.ref h21, .ref h22, .ref h23, .ref h24, .ref h25, .ref h26, .ref h27, .ref h28, .int h5f8, .int h5f9, .int h5f10, .int h5f11]), (h8, ob 2 [.ref h1, .int h8f1]), (h11, aJ (k 1) 9 anJ), (h13, aJ (k 1) 36 anJ), (h21, aJ (k 1) 900 anJ), (h22, aI (k 0) 100 anI), (h23, aI (k 0) 100 anI), (h24, aI (k 0) 100 anI), (h25, aI (k 0) 400 anI), (h26, aI (k 0) 256 (rgI (-1) 99)), (h27, aI (k 0) 100 (rgI (-1) 99)), (h28, aJ (k 1) 60 anJ)]) hx hb hml hown hU hK hT rfl rfl [0, 1, 2, 3, 4, 5, 6, 7, 8, 9, 10, 11, 12, 13] rfl (by decide) (cX10_listAll_fe300 l D k _ h0 h1 h5 h8 h11 h13 h21 h22 h23 h24 h25 h26 h27 h28 h2 h3 h4 h6 h7 h9 h10 h12 h0f2 h0f6 h0f8 h0f11 h1f0 h1f1 h1f2 h5f8 h5f9 h5f10 h5f11 h8f1 (by omega) (by omega) (by omega) (by omega) (by omega) (by omega) (by omega) (by omega) (by omega) (by omega) (by omega)) w492 w489 w491 w10 w63 hdX10_listAll ⟨rfl, rfl⟩ ⟨Nat.le_of_ble_eq_true rfl, Nat.le_of_ble_eq_true rfl⟩ rfl hl.1 (Nat.le_of_ble_eq_true rfl) dX10_faithful_10 ⟨Nat.le_of_ble_eq_true rfl, Nat.le_of_ble_eq_true rfl⟩) hT hS hA [0, 1, 2, 3, 4, 5, 6, 7, 8, 9, 10, 11, 12, 13] [] rfl rfl rfl (by decide) (by decide) (fun H locs hB J hS => ?_)
    obtain ⟨v73, v74, v75, v76, v77, v78, b_v73, b_v74, b_v75, b_v76, b_v77, b_v78, hT1⟩ := hB
    have hT := J _ hT1
    have hT : TP D A [(h0, ob 7 [.ref h1, .ref h2, .int h0f2, .ref h3, .ref h4, .ref h5, .int v73, .ref h6, .int h0f8, .null, .ref h7, .int h0f11, .ref h8, .ref h9, .ref h10, .ref h11, .ref h12]), (h1, ob 4 [.int h1f0, .int h1f1, .int h1f2, .ref h13]), (h5, ob 3 [.ref h21, .ref h22, .ref h23, .ref h24, .ref h25, .ref h26, .ref h27, .ref h28, .int v74, .int v75, .int v76, .int v77]), (h8, ob 2 [.ref h1, .int v78]), (h11, aJ (k 1) 9 anJ), (h13, aJ (k 1) 36 anJ), (h21, aJ (k 1) 900 anJ), (h22, aI (k 0) 100 anI), (h23, aI (k 0) 100 anI), (h24, aI (k 0) 100 anI), (h25, aI (k 0) 400 anI), (h26, aI (k 0) 256 (rgI (-1) 99)), (h27, aI (k 0) 100 (rgI (-1) 99)), (h28, aJ (k 1) 60 anJ)] _ := hT
    refine lv_aload_n hx hb dX10_faithful_13 rfl (lv_at hl 0 rfl) ?_
    refine lv_iload_n hx hb dX10_faithful_14 rfl (lv_at hl 1 rfl) ?_
    refine tcI (Tc := [(h0, ob 7 [.ref h1, .ref h2, .int h0f2, .ref h3, .ref h4, .ref h5, .int v73, .ref h6, .int h0f8, .null, .ref h7, .int h0f11, .ref h8, .ref h9, .ref h10, .ref h11, .ref h12]), (h1, ob 4 [.int h1f0, .int h1f1, .int h1f2, .ref h13]), (h5, ob 3 [.ref h21, .ref h22, .ref h23, .ref h24, .ref h25, .ref h26, .ref h27, .ref h28, .int v74, .int v75, .int v76, .int v77]), (h11, aJ (k 1) 9 anJ), (h21, aJ (k 1) 900 anJ)]) (Tr := [(h8, ob 2 [.ref h1, .int v78]), (h13, aJ (k 1) 36 anJ), (h22, aI (k 0) 100 anI), (h23, aI (k 0) 100 anI), (h24, aI (k 0) 100 anI), (h25, aI (k 0) 400 anI), (h26, aI (k 0) 256 (rgI (-1) 99)), (h27, aI (k 0) 100 (rgI (-1) 99)), (h28, aJ (k 1) 60 anJ)]) (as := [h0, h1, h5, h11, h21]) (zcV (q0 := 0) (ci := 7) (As := [.int x1]) (rest := []) (Tc := [(h0, ob 7 [.ref h1, .ref h2, .int h0f2, .ref h3, .ref h4, .ref h5, .int v73, .ref h6, .int h0f8, .null, .ref h7, .int h0f11, .ref h8, .ref h9, .ref h10, .ref h11, .ref h12]), (h1, ob 4 [.int h1f0, .int h1f1, .int h1f2, .ref h13]), (h5, ob 3 [.ref h21, .ref h22, .ref h23, .ref h24, .ref h25, .ref h26, .ref h27, .ref h28, .int v74, .int v75, .int v76, .int v77]), (h11, aJ (k 1) 9 anJ), (h21, aJ (k 1) 900 anJ)]) hx hb hml hown hU hK hT rfl rfl [0, 1, 2, 4, 6] rfl (by decide) (cX10_areApartBy_0198b l D k _ h0 h1 h5 h11 h21 h2 h3 h4 h6 h7 h8 h9 h10 h12 h13 h22 h23 h24 h25 h26 h27 h28 x1 h0f2 v73 h0f8 h0f11 h1f0 h1f1 h1f2 v74 v75 v76 v77 (by omega) (by omega) (by omega) (by omega) (by omega) (by omega) (by omega) (by omega) (by omega) (by omega) (by omega)) w680 w677 w679 w23 w63 hdX10_areApartBy ⟨rfl, rfl⟩ ⟨Nat.le_of_ble_eq_true rfl, Nat.le_of_ble_eq_true rfl⟩ rfl hl.1 (Nat.le_of_ble_eq_true rfl) dX10_faithful_15 ⟨Nat.le_of_ble_eq_true rfl, Nat.le_of_ble_eq_true rfl⟩) hT hS hA [0, 1, 2, 4, 6] [3, 5, 7, 8, 9, 10, 11, 12, 13] rfl rfl rfl (by decide) (by decide) (fun r79 H locs hB J hS => ?_)
    obtain ⟨q80, q81, q82, q83, q84, q85, q86, q87, q88, v89, v90, b_v89, b_v90, b_r79, hT1⟩ := hB
    have hT := J _ hT1
    have hT : TP D A [(h8, ob 2 [.ref h1, .int v78]), (h13, aJ (k 1) 36 anJ), (h22, aI (k 0) 100 anI), (h23, aI (k 0) 100 anI), (h24, aI (k 0) 100 anI), (h25, aI (k 0) 400 anI), (h26, aI (k 0) 256 (rgI (-1) 99)), (h27, aI (k 0) 100 (rgI (-1) 99)), (h28, aJ (k 1) 60 anJ), (h0, ob 7 [.ref h1, .ref h2, .int h0f2, .ref h3, .ref h4, .ref h5, .int v73, .ref h6, .int h0f8, .ref q80, .ref h7, .int h0f11, .ref h8, .ref h9, .ref h10, .ref h11, .ref h12]), (h1, ob 4 [.int h1f0, .int h1f1, .int h1f2, .ref h13]), (h5, ob 3 [.ref h21, .ref h22, .ref h23, .ref h24, .ref h25, .ref h26, .ref h27, .ref h28, .int v74, .int v75, .int v76, .int v77]), (h11, aJ (k 1) 9 anJ), (h21, aJ (k 1) 900 anJ), (q80, ob 3 [.ref q81, .ref q82, .ref q83, .ref q84, .ref q85, .ref q86, .ref q87, .ref q88, .int v89, .int 400, .int v90, .int 0]), (q81, aJ (k 1) 12000 anJ), (q82, aI (k 0) 400 anI), (q83, aI (k 0) 400 anI), (q84, aI (k 0) 400 anI), (q85, aI (k 0) 1600 anI), (q86, aI (k 0) 1024 anI), (q87, aI (k 0) 400 anI), (q88, aJ (k 1) 60 anJ)] _ := hT
    refine lv_if_eq (tgt := 25) hx hb dX10_faithful_18 (by decide) (fun c_91 => ?_) (fun c_91 => ?_)
    · skip
      have c_91 := ni_eq c_91 rfl li_0
      refine lv_iconst (v := 0) hx hb dX10_faithful_25 (by decide) ?_
      exact tz_retI (B := B_cX10_faithful_b7c12 D k h0 h1 h5 h8 h11 h13 h21 h22 h23 h24 h25 h26 h27 h28 h2 h3 h4 h6 h7 h9 h10 h12 x1 h0f2 h0f6 h0f8 h0f11 h1f0 h1f1 h1f2 h5f8 h5f9 h5f10 h5f11 h8f1) (v := 0) hQ hx hb hr hlocks hS (Nat.le_of_ble_eq_true rfl) (Nat.le_of_ble_eq_true rfl) dX10_faithful_26 (Or.inl ⟨q80, q81, q82, q83, q84, q85, q86, q87, q88, v73, v74, v75, v76, v77, v78, v89, v90, (by have := li_0; omega), (by have := li_0; omega), (by have := li_0; omega), (by have := li_0; omega), (by have := li_0; omega), (by have := li_0; omega), (by have := li_0; omega), (by have := li_0; omega), (by have := li_0; omega), (hT.sub [9, 10, 11, 0, 12, 1, 13, 2, 3, 4, 5, 6, 7, 8, 14, 15, 16, 17, 18, 19, 20, 21, 22] (by decide) rfl)⟩)
    · skip
      have c_91 := ni_ne c_91 rfl li_0
      refine lv_iconst (v := 1) hx hb dX10_faithful_21 (by decide) ?_
      refine lv_goto (tgt := 26) hx hb dX10_faithful_22 (by decide) ?_
      exact tz_retI (B := B_cX10_faithful_b7c12 D k h0 h1 h5 h8 h11 h13 h21 h22 h23 h24 h25 h26 h27 h28 h2 h3 h4 h6 h7 h9 h10 h12 x1 h0f2 h0f6 h0f8 h0f11 h1f0 h1f1 h1f2 h5f8 h5f9 h5f10 h5f11 h8f1) (v := 1) hQ hx hb hr hlocks hS (Nat.le_of_ble_eq_true rfl) (Nat.le_of_ble_eq_true rfl) dX10_faithful_26 (Or.inl ⟨q80, q81, q82, q83, q84, q85, q86, q87, q88, v73, v74, v75, v76, v77, v78, v89, v90, (by have := li_1; omega), (by have := li_1; omega), (by have := li_1; omega), (by have := li_1; omega), (by have := li_1; omega), (by have := li_1; omega), (by have := li_1; omega), (by have := li_1; omega), (by have := li_1; omega), (hT.sub [9, 10, 11, 0, 12, 1, 13, 2, 3, 4, 5, 6, 7, 8, 14, 15, 16, 17, 18, 19, 20, 21, 22] (by decide) rfl)⟩)
abbrev Rm_cX10_areApartBy_bc843 : Room := { frames := 3, cells := 0, slots := 0, locals := 68 }
abbrev B_cX10_areApartBy_bc843 (D : va_G) (k : Nat → ClassId) (h0 h1 h5 h7 h12 h22 h38 h39 h40 h41 h43 h44 h2 h3 h4 h6 h8 h9 h10 h11 h13 h14 h23 h24 h25 h26 h27 h28 h29 h42 h45 : Nat) (x1 : Int32) (h0f2 : Int32) (h0f6 : Int32) (h0f8 : Int32) (h0f11 : Int32) (h1f0 : Int32) (h1f1 : Int32) (h1f2 : Int32) (h5f8 : Int32) (h5f9 : Int32) (h5f10 : Int32) (h5f11 : Int32) (h7f8 : Int32) (h7f9 : Int32) (h7f10 : Int32) (h7f11 : Int32) (A : Nat → Prop) (r : Int32) (H : Heap) : Prop := ∃ o0 : Int32, ∃ o1 : Int32, (1 ≤ o0.toInt ∧ o0.toInt ≤ 9) ∧ (0 ≤ o1.toInt ∧ o1.toInt ≤ 400) ∧ (0 ≤ r.toInt ∧ r.toInt ≤ 1) ∧ TP D A [(h0, ob 7 [.ref h1, .ref h2, .int h0f2, .ref h3, .ref h4, .ref h5, .int h0f6, .ref h6, .int h0f8, .ref h7, .ref h8, .int h0f11, .ref h9, .ref h10, .ref h11, .ref h12, .ref h13]), (h1, ob 4 [.int h1f0, .int h1f1, .int h1f2, .ref h14]), (h5, ob 3 [.ref h22, .ref h23, .ref h24, .ref h25, .ref h26, .ref h27, .ref h28, .ref h29, .int h5f8, .int h5f9, .int h5f10, .int h5f11]), (h7, ob 3 [.ref h38, .ref h39, .ref h40, .ref h41, .ref h42, .ref h43, .ref h44, .ref h45, .int o0, .int 400, .int o1, .int 0]), (h12, aJ (k 1) 9 anJ), (h22, aJ (k 1) 900 anJ), (h38, aJ (k 1) 12000 anJ), (h39, aI (k 0) 400 anI), (h40, aI (k 0) 400 anI), (h41, aI (k 0) 400 anI), (h43, aI (k 0) 1024 anI), (h44, aI (k 0) 400 anI)] H
set_option maxHeartbeats 4000000 in
set_option maxRecDepth 100000 in
theorem cX10_areApartBy_bc843 (l : Launch) (D : va_G) (k : Nat → ClassId) (sz : Nat) (h0 h1 h5 h7 h12 h22 h38 h39 h40 h41 h43 h44 h2 h3 h4 h6 h8 h9 h10 h11 h13 h14 h23 h24 h25 h26 h27 h28 h29 h42 h45 : Nat) (x1 : Int32) (h0f2 : Int32) (h0f6 : Int32) (h0f8 : Int32) (h0f11 : Int32) (h1f0 : Int32) (h1f1 : Int32) (h1f2 : Int32) (h5f8 : Int32) (h5f9 : Int32) (h5f10 : Int32) (h5f11 : Int32) (h7f8 : Int32) (h7f9 : Int32) (h7f10 : Int32) (h7f11 : Int32) (b_x1 : 2 ≤ x1.toInt ∧ x1.toInt ≤ 7) (b_h0f2 : 0 ≤ h0f2.toInt ∧ h0f2.toInt ≤ 1) (b_h0f6 : 1 ≤ h0f6.toInt ∧ h0f6.toInt ≤ 1) (b_h0f8 : 0 ≤ h0f8.toInt ∧ h0f8.toInt ≤ 1) (b_h0f11 : 0 ≤ h0f11.toInt ∧ h0f11.toInt ≤ 200) (b_h1f0 : 1 ≤ h1f0.toInt ∧ h1f0.toInt ≤ 3) (b_h1f1 : 0 ≤ h1f1.toInt ∧ h1f1.toInt ≤ 4) (b_h5f8 : 0 ≤ h5f8.toInt ∧ h5f8.toInt ≤ 9) (b_h5f9 : 0 ≤ h5f9.toInt ∧ h5f9.toInt ≤ 100) (b_h5f10 : 0 ≤ h5f10.toInt ∧ h5f10.toInt ≤ 100) (b_h5f11 : 0 ≤ h5f11.toInt ∧ h5f11.toInt ≤ 1) (b_h7f8 : 0 ≤ h7f8.toInt ∧ h7f8.toInt ≤ 60) (b_h7f9 : 0 ≤ h7f9.toInt ∧ h7f9.toInt ≤ 400) (b_h7f10 : 0 ≤ h7f10.toInt ∧ h7f10.toInt ≤ 400) (b_h7f11 : 0 ≤ h7f11.toInt ∧ h7f11.toInt ≤ 1) : Met l yX10_areApartBy (Cond.code yX10_areApartBy cX10_areApartBy 5 (some .boolean) :: uw) Rm_cX10_areApartBy_bc843 (pT D k sz [.ref h0, .int x1] [(h0, ob 7 [.ref h1, .ref h2, .int h0f2, .ref h3, .ref h4, .ref h5, .int h0f6, .ref h6, .int h0f8, .ref h7, .ref h8, .int h0f11, .ref h9, .ref h10, .ref h11, .ref h12, .ref h13]), (h1, ob 4 [.int h1f0, .int h1f1, .int h1f2, .ref h14]), (h5, ob 3 [.ref h22, .ref h23, .ref h24, .ref h25, .ref h26, .ref h27, .ref h28, .ref h29, .int h5f8, .int h5f9, .int h5f10, .int h5f11]), (h7, ob 3 [.ref h38, .ref h39, .ref h40, .ref h41, .ref h42, .ref h43, .ref h44, .ref h45, .int h7f8, .int h7f9, .int h7f10, .int h7f11]), (h12, aJ (k 1) 9 anJ), (h22, aJ (k 1) 900 anJ), (h38, aJ (k 1) 12000 anJ), (h39, aI (k 0) 400 anI), (h40, aI (k 0) 400 anI), (h41, aI (k 0) 400 anI), (h43, aI (k 0) 1024 anI), (h44, aI (k 0) 400 anI)]) (qI (B_cX10_areApartBy_bc843 D k h0 h1 h5 h7 h12 h22 h38 h39 h40 h41 h43 h44 h2 h3 h4 h6 h8 h9 h10 h11 h13 h14 h23 h24 h25 h26 h27 h28 h29 h42 h45 x1 h0f2 h0f6 h0f8 h0f11 h1f0 h1f1 h1f2 h5f8 h5f9 h5f10 h5f11 h7f8 h7f9 h7f10 h7f11 (zA [h0, h1, h5, h7, h12, h22, h38, h39, h40, h41, h43, h44] sz)) (zA [h0, h1, h5, h7, h12, h22, h38, h39, h40, h41, h43, h44] sz)) 0 0 (zA [h0, h1, h5, h7, h12, h22, h38, h39, h40, h41, h43, h44] sz) := by
  refine tz_begin (as := [h0, h1, h5, h7, h12, h22, h38, h39, h40, h41, h43, h44]) (Qc := fun A => qI (B_cX10_areApartBy_bc843 D k h0 h1 h5 h7 h12 h22 h38 h39 h40 h41 h43 h44 h2 h3 h4 h6 h8 h9 h10 h11 h13 h14 h23 h24 h25 h26 h27 h28 h29 h42 h45 x1 h0f2 h0f6 h0f8 h0f11 h1f0 h1f1 h1f2 h5f8 h5f9 h5f10 h5f11 h7f8 h7f9 h7f10 h7f11 A) A) (by decide +kernel) rfl (Nat.le_of_ble_eq_true rfl) ?_
  intro p e s m args below meth c ls A Q hx hb hr hml hown hlocks hin hU hK hT hS hA hl hQ
  have hl : lv_has ls 5 [(0, .ref h0), (1, .int x1)] := hl
  have hT : TP D A [(h0, ob 7 [.ref h1, .ref h2, .int h0f2, .ref h3, .ref h4, .ref h5, .int h0f6, .ref h6, .int h0f8, .ref h7, .ref h8, .int h0f11, .ref h9, .ref h10, .ref h11, .ref h12, .ref h13]), (h1, ob 4 [.int h1f0, .int h1f1, .int h1f2, .ref h14]), (h5, ob 3 [.ref h22, .ref h23, .ref h24, .ref h25, .ref h26, .ref h27, .ref h28, .ref h29, .int h5f8, .int h5f9, .int h5f10, .int h5f11]), (h7, ob 3 [.ref h38, .ref h39, .ref h40, .ref h41, .ref h42, .ref h43, .ref h44, .ref h45, .int h7f8, .int h7f9, .int h7f10, .int h7f11]), (h12, aJ (k 1) 9 anJ), (h22, aJ (k 1) 900 anJ), (h38, aJ (k 1) 12000 anJ), (h39, aI (k 0) 400 anI), (h40, aI (k 0) 400 anI), (h41, aI (k 0) 400 anI), (h43, aI (k 0) 1024 anI), (h44, aI (k 0) 400 anI)] s.heap := hT
  refine lv_aload_n hx hb dX10_areApartBy_0 rfl (lv_at hl 0 rfl) ?_
  refine tz_get (ci := 7) (v := .ref h1) (C := RX10) (F := TX10) (N := 17) hx hb hU iX10 hown hK hT 0 rfl rfl 0 (by decide) w249 (fun _ h9 => h9) rfl dX10_areApartBy_1 ?_
  refine tcI (Tc := [(h1, ob 4 [.int h1f0, .int h1f1, .int h1f2, .ref h14])]) (Tr := [(h0, ob 7 [.ref h1, .ref h2, .int h0f2, .ref h3, .ref h4, .ref h5, .int h0f6, .ref h6, .int h0f8, .ref h7, .ref h8, .int h0f11, .ref h9, .ref h10, .ref h11, .ref h12, .ref h13]), (h5, ob 3 [.ref h22, .ref h23, .ref h24, .ref h25, .ref h26, .ref h27, .ref h28, .ref h29, .int h5f8, .int h5f9, .int h5f10, .int h5f11]), (h7, ob 3 [.ref h38, .ref h39, .ref h40, .ref h41, .ref h42, .ref h43, .ref h44, .ref h45, .int h7f8, .int h7f9, .int h7f10, .int h7f11]), (h12, aJ (k 1) 9 anJ), (h22, aJ (k 1) 900 anJ), (h38, aJ (k 1) 12000 anJ), (h39, aI (k 0) 400 anI), (h40, aI (k 0) 400 anI), (h41, aI (k 0) 400 anI), (h43, aI (k 0) 1024 anI), (h44, aI (k 0) 400 anI)]) (as := [h1]) (zcV (q0 := 1) (ci := 4) (As := []) (rest := []) (Tc := [(h1, ob 4 [.int h1f0, .int h1f1, .int h1f2, .ref h14])]) hx hb hml hown hU hK hT rfl rfl [1] rfl (by decide) (cX5_cellCount_642c9 l D k _ h1 h14 h1f0 h1f1 h1f2 (by omega) (by omega)) w385 w382 w383 w384 w64 hdX5_cellCount ⟨rfl, rfl⟩ ⟨Nat.le_of_ble_eq_true rfl, Nat.le_of_ble_eq_true rfl⟩ rfl hl.1 (Nat.le_of_ble_eq_true rfl) dX10_areApartBy_4 ⟨Nat.le_of_ble_eq_true rfl, Nat.le_of_ble_eq_true rfl⟩) hT hS hA [1] [0, 2, 3, 4, 5, 6, 7, 8, 9, 10, 11] rfl rfl rfl (by decide) (by decide) (fun r1 H locs hB J hS => ?_)
  obtain ⟨b_r1, hT1⟩ := hB
  have hT := J _ hT1
  have hT : TP D A [(h0, ob 7 [.ref h1, .ref h2, .int h0f2, .ref h3, .ref h4, .ref h5, .int h0f6, .ref h6, .int h0f8, .ref h7, .ref h8, .int h0f11, .ref h9, .ref h10, .ref h11, .ref h12, .ref h13]), (h5, ob 3 [.ref h22, .ref h23, .ref h24, .ref h25, .ref h26, .ref h27, .ref h28, .ref h29, .int h5f8, .int h5f9, .int h5f10, .int h5f11]), (h7, ob 3 [.ref h38, .ref h39, .ref h40, .ref h41, .ref h42, .ref h43, .ref h44, .ref h45, .int h7f8, .int h7f9, .int h7f10, .int h7f11]), (h12, aJ (k 1) 9 anJ), (h22, aJ (k 1) 900 anJ), (h38, aJ (k 1) 12000 anJ), (h39, aI (k 0) 400 anI), (h40, aI (k 0) 400 anI), (h41, aI (k 0) 400 anI), (h43, aI (k 0) 1024 anI), (h44, aI (k 0) 400 anI), (h1, ob 4 [.int h1f0, .int h1f1, .int h1f2, .ref h14])] _ := hT
  refine lv_istore_n (lv' := [(2, .int r1), (0, .ref h0), (1, .int x1)]) hx hb dX10_areApartBy_7 rfl hl (by decide) rfl (fun ls hl => ?_)
  refine lv_aload_n hx hb dX10_areApartBy_8 rfl (lv_at hl 1 rfl) ?_
  refine lv_iload_n hx hb dX10_areApartBy_9 rfl (lv_at hl 0 rfl) ?_
  refine lv_sipush (v := 400) hx hb dX10_areApartBy_10 (by decide) ?_
  have q_q3 := li_400
  refine tcR (Tc := [(h0, ob 7 [.ref h1, .ref h2, .int h0f2, .ref h3, .ref h4, .ref h5, .int h0f6, .ref h6, .int h0f8, .ref h7, .ref h8, .int h0f11, .ref h9, .ref h10, .ref h11, .ref h12, .ref h13]), (h7, ob 3 [.ref h38, .ref h39, .ref h40, .ref h41, .ref h42, .ref h43, .ref h44, .ref h45, .int h7f8, .int h7f9, .int h7f10, .int h7f11]), (h43, aI (k 0) 1024 anI), (h44, aI (k 0) 400 anI)]) (Tr := [(h5, ob 3 [.ref h22, .ref h23, .ref h24, .ref h25, .ref h26, .ref h27, .ref h28, .ref h29, .int h5f8, .int h5f9, .int h5f10, .int h5f11]), (h12, aJ (k 1) 9 anJ), (h22, aJ (k 1) 900 anJ), (h38, aJ (k 1) 12000 anJ), (h39, aI (k 0) 400 anI), (h40, aI (k 0) 400 anI), (h41, aI (k 0) 400 anI), (h1, ob 4 [.int h1f0, .int h1f1, .int h1f2, .ref h14])]) (as := [h0, h7, h43, h44]) (zcV (q0 := 0) (ci := 7) (As := [.int r1, .int 400]) (rest := []) (Tc := [(h0, ob 7 [.ref h1, .ref h2, .int h0f2, .ref h3, .ref h4, .ref h5, .int h0f6, .ref h6, .int h0f8, .ref h7, .ref h8, .int h0f11, .ref h9, .ref h10, .ref h11, .ref h12, .ref h13]), (h7, ob 3 [.ref h38, .ref h39, .ref h40, .ref h41, .ref h42, .ref h43, .ref h44, .ref h45, .int h7f8, .int h7f9, .int h7f10, .int h7f11]), (h43, aI (k 0) 1024 anI), (h44, aI (k 0) 400 anI)]) hx hb hml hown hU hK hT rfl rfl [0, 2, 9, 10] rfl (by decide) (cX10_clearBench_b283c l D k _ h0 h7 h43 h44 h1 h2 h3 h4 h5 h6 h8 h9 h10 h11 h12 h13 h38 h39 h40 h41 h42 h45 r1 (400) h0f2 h0f6 h0f8 h0f11 h7f8 h7f9 h7f10 h7f11 (by omega) (by have := li_400; omega) (by omega) (by omega) (by omega) (by omega) (by omega) (by omega) (by omega) (by omega)) w672 w669 w671 w22 w63 hdX10_clearBench ⟨rfl, rfl⟩ ⟨Nat.le_of_ble_eq_true rfl, Nat.le_of_ble_eq_true rfl⟩ rfl hl.1 (Nat.le_of_ble_eq_true rfl) dX10_areApartBy_13 ⟨Nat.le_of_ble_eq_true rfl, Nat.le_of_ble_eq_true rfl⟩) hT hS hA [0, 2, 9, 10] [1, 3, 4, 5, 6, 7, 8, 11] rfl rfl rfl (by decide) (by decide) (fun r2 H locs hB J hS => ?_)
  obtain ⟨rfl, hT1⟩ := hB
  have hT := J _ hT1
  have hT : TP D A [(h5, ob 3 [.ref h22, .ref h23, .ref h24, .ref h25, .ref h26, .ref h27, .ref h28, .ref h29, .int h5f8, .int h5f9, .int h5f10, .int h5f11]), (h12, aJ (k 1) 9 anJ), (h22, aJ (k 1) 900 anJ), (h38, aJ (k 1) 12000 anJ), (h39, aI (k 0) 400 anI), (h40, aI (k 0) 400 anI), (h41, aI (k 0) 400 anI), (h1, ob 4 [.int h1f0, .int h1f1, .int h1f2, .ref h14]), (h0, ob 7 [.ref h1, .ref h2, .int h0f2, .ref h3, .ref h4, .ref h5, .int h0f6, .ref h6, .int h0f8, .ref h7, .ref h8, .int h0f11, .ref h9, .ref h10, .ref h11, .ref h12, .ref h13]), (h7, ob 3 [.ref h38, .ref h39, .ref h40, .ref h41, .ref h42, .ref h43, .ref h44, .ref h45, .int r1, .int 400, .int 0, .int 0]), (h43, aI (k 0) 1024 (rgI (-1) (0 - 1))), (h44, aI (k 0) 400 (pfI (0)))] _ := hT
  refine lv_astore_n (lv' := [(3, .ref h7), (2, .int r1), (0, .ref h0), (1, .int x1)]) hx hb dX10_areApartBy_16 rfl hl (by decide) rfl (fun ls hl => ?_)
  refine lv_iconst (v := 0) hx hb dX10_areApartBy_17 (by decide) ?_
  refine lv_istore (lv' := [(4, .int 0), (3, .ref h7), (2, .int r1), (0, .ref h0), (1, .int x1)]) hx hb dX10_areApartBy_18 hl (by decide) rfl (fun ls hl => ?_)
  have lp20_30 : ∀ (n : Nat) (y28 : Int32) (y29 : Int32) (H : Heap) (locs : List Loc) (ls : Array Slot), (0 ≤ y28.toInt ∧ y28.toInt ≤ 100) → (0 ≤ y29.toInt ∧ y29.toInt ≤ 400) → (h5f10.toInt + (-1) * y28.toInt + 1).toNat < n → TP D A [(h5, ob 3 [.ref h22, .ref h23, .ref h24, .ref h25, .ref h26, .ref h27, .ref h28, .ref h29, .int h5f8, .int h5f9, .int h5f10, .int h5f11]), (h12, aJ (k 1) 9 anJ), (h22, aJ (k 1) 900 anJ), (h38, aJ (k 1) 12000 anJ), (h39, aI (k 0) 400 anI), (h40, aI (k 0) 400 anI), (h41, aI (k 0) 400 anI), (h1, ob 4 [.int h1f0, .int h1f1, .int h1f2, .ref h14]), (h0, ob 7 [.ref h1, .ref h2, .int h0f2, .ref h3, .ref h4, .ref h5, .int h0f6, .ref h6, .int h0f8, .ref h7, .ref h8, .int h0f11, .ref h9, .ref h10, .ref h11, .ref h12, .ref h13]), (h7, ob 3 [.ref h38, .ref h39, .ref h40, .ref h41, .ref h42, .ref h43, .ref h44, .ref h45, .int r1, .int 400, .int y29, .int 0]), (h43, aI (k 0) 1024 (rgI (-1) (y29.toInt - 1))), (h44, aI (k 0) 400 (pfI (y29.toInt)))] H → va_S A s.heap H locs → lv_has ls 5 [(0, .ref h0), (1, .int x1), (2, .int r1), (3, .ref h7), (4, .int y28)] → W p l e Rm_cX10_areApartBy_bc843 s m args below meth c H locs 0 0 Q (F0 m 20 ls []) := by
    intro n
    induction n with
    | zero => intro y28 y29 H locs ls b_y28 b_y29 hm hT hS hl; exact absurd hm (Nat.not_lt_zero _)
    | succ n ih =>
      intro y28 y29 H locs ls b_y28 b_y29 hm hT hS hl
      have ih20_30 := ih
      clear ih
      refine lv_iload hx hb dX10_areApartBy_20 (lv_at hl 4 rfl) ?_
      refine lv_aload_n hx hb dX10_areApartBy_22 rfl (lv_at hl 0 rfl) ?_
      refine tz_get (ci := 7) (v := .ref h5) (C := RX10) (F := TX10) (N := 17) hx hb hU iX10 hown hK hT 8 rfl rfl 5 (by decide) w254 (fun _ h9 => h9) rfl dX10_areApartBy_23 ?_
      refine tz_get (ci := 3) (v := .int h5f10) (C := RX4) (F := TX4) (N := 12) hx hb hU iX4 hown hK hT 0 rfl rfl 10 (by decide) w166 (fun _ h9 => h9) rfl dX10_areApartBy_26 ?_
      refine lv_icmp_ge (tgt := 98) hx hb dX10_areApartBy_29 (by decide) (fun c_31 => ?_) (fun c_31 => ?_)
      · skip
        have c_31 := ni_le c_31 rfl rfl
        refine lv_iconst (v := 1) hx hb dX10_areApartBy_98 (by decide) ?_
        have hT := hT.wk (q := 10) rfl (an_I (c := k 0) (n := 1024))
        have hT : TP D A [(h5, ob 3 [.ref h22, .ref h23, .ref h24, .ref h25, .ref h26, .ref h27, .ref h28, .ref h29, .int h5f8, .int h5f9, .int h5f10, .int h5f11]), (h12, aJ (k 1) 9 anJ), (h22, aJ (k 1) 900 anJ), (h38, aJ (k 1) 12000 anJ), (h39, aI (k 0) 400 anI), (h40, aI (k 0) 400 anI), (h41, aI (k 0) 400 anI), (h1, ob 4 [.int h1f0, .int h1f1, .int h1f2, .ref h14]), (h0, ob 7 [.ref h1, .ref h2, .int h0f2, .ref h3, .ref h4, .ref h5, .int h0f6, .ref h6, .int h0f8, .ref h7, .ref h8, .int h0f11, .ref h9, .ref h10, .ref h11, .ref h12, .ref h13]), (h7, ob 3 [.ref h38, .ref h39, .ref h40, .ref h41, .ref h42, .ref h43, .ref h44, .ref h45, .int r1, .int 400, .int y29, .int 0]), (h43, aI (k 0) 1024 anI), (h44, aI (k 0) 400 (pfI (y29.toInt)))] _ := hT
        have hT := hT.wk (q := 11) rfl (an_I (c := k 0) (n := 400))
        have hT : TP D A [(h5, ob 3 [.ref h22, .ref h23, .ref h24, .ref h25, .ref h26, .ref h27, .ref h28, .ref h29, .int h5f8, .int h5f9, .int h5f10, .int h5f11]), (h12, aJ (k 1) 9 anJ), (h22, aJ (k 1) 900 anJ), (h38, aJ (k 1) 12000 anJ), (h39, aI (k 0) 400 anI), (h40, aI (k 0) 400 anI), (h41, aI (k 0) 400 anI), (h1, ob 4 [.int h1f0, .int h1f1, .int h1f2, .ref h14]), (h0, ob 7 [.ref h1, .ref h2, .int h0f2, .ref h3, .ref h4, .ref h5, .int h0f6, .ref h6, .int h0f8, .ref h7, .ref h8, .int h0f11, .ref h9, .ref h10, .ref h11, .ref h12, .ref h13]), (h7, ob 3 [.ref h38, .ref h39, .ref h40, .ref h41, .ref h42, .ref h43, .ref h44, .ref h45, .int r1, .int 400, .int y29, .int 0]), (h43, aI (k 0) 1024 anI), (h44, aI (k 0) 400 anI)] _ := hT
        exact tz_retZ (B := B_cX10_areApartBy_bc843 D k h0 h1 h5 h7 h12 h22 h38 h39 h40 h41 h43 h44 h2 h3 h4 h6 h8 h9 h10 h11 h13 h14 h23 h24 h25 h26 h27 h28 h29 h42 h45 x1 h0f2 h0f6 h0f8 h0f11 h1f0 h1f1 h1f2 h5f8 h5f9 h5f10 h5f11 h7f8 h7f9 h7f10 h7f11) (v := 1) hQ hx hb hr hlocks hS (Nat.le_of_ble_eq_true rfl) (Nat.le_of_ble_eq_true rfl) dX10_areApartBy_99 (by have := li_1; omega) (⟨r1, y29, (by have := li_1; omega), (by have := li_1; omega), (by have := li_1; omega), (hT.sub [8, 7, 0, 9, 1, 2, 3, 4, 5, 6, 10, 11] (by decide) rfl)⟩)
      · skip
        have c_31 := ni_nle c_31 rfl rfl
        refine lv_aload_n hx hb dX10_areApartBy_32 rfl (lv_at hl 0 rfl) ?_
        refine tz_get (ci := 7) (v := .ref h5) (C := RX10) (F := TX10) (N := 17) hx hb hU iX10 hown hK hT 8 rfl rfl 5 (by decide) w254 (fun _ h9 => h9) rfl dX10_areApartBy_33 ?_
        refine tz_get (ci := 3) (v := .ref h22) (C := RX4) (F := TX4) (N := 12) hx hb hU iX4 hown hK hT 0 rfl rfl 0 (by decide) w150 (fun _ h9 => h9) rfl dX10_areApartBy_36 ?_
        refine lv_aload_n hx hb dX10_areApartBy_39 rfl (lv_at hl 0 rfl) ?_
        refine tz_get (ci := 7) (v := .ref h5) (C := RX10) (F := TX10) (N := 17) hx hb hU iX10 hown hK hT 8 rfl rfl 5 (by decide) w254 (fun _ h9 => h9) rfl dX10_areApartBy_40 ?_
        refine lv_iload hx hb dX10_areApartBy_43 (lv_at hl 4 rfl) ?_
        refine tcI (Tc := [(h5, ob 3 [.ref h22, .ref h23, .ref h24, .ref h25, .ref h26, .ref h27, .ref h28, .ref h29, .int h5f8, .int h5f9, .int h5f10, .int h5f11])]) (Tr := [(h12, aJ (k 1) 9 anJ), (h22, aJ (k 1) 900 anJ), (h38, aJ (k 1) 12000 anJ), (h39, aI (k 0) 400 anI), (h40, aI (k 0) 400 anI), (h41, aI (k 0) 400 anI), (h1, ob 4 [.int h1f0, .int h1f1, .int h1f2, .ref h14]), (h0, ob 7 [.ref h1, .ref h2, .int h0f2, .ref h3, .ref h4, .ref h5, .int h0f6, .ref h6, .int h0f8, .ref h7, .ref h8, .int h0f11, .ref h9, .ref h10, .ref h11, .ref h12, .ref h13]), (h7, ob 3 [.ref h38, .ref h39, .ref h40, .ref h41, .ref h42, .ref h43, .ref h44, .ref h45, .int r1, .int 400, .int y29, .int 0]), (h43, aI (k 0) 1024 (rgI (-1) (y29.toInt - 1))), (h44, aI (k 0) 400 (pfI (y29.toInt)))]) (as := [h5]) (zcV (q0 := 0) (ci := 3) (As := [.int y28]) (rest := [.ref h22]) (Tc := [(h5, ob 3 [.ref h22, .ref h23, .ref h24, .ref h25, .ref h26, .ref h27, .ref h28, .ref h29, .int h5f8, .int h5f9, .int h5f10, .int h5f11])]) hx hb hml hown hU hK hT rfl rfl [0] rfl (by decide) (cX4_start_d01b0 l D k _ h5 h22 h23 h24 h25 h26 h27 h28 h29 y28 h5f8 h5f9 h5f10 h5f11 (by omega) (by omega) (by omega) (by omega) (by omega)) w505 w574 w503 w504 w66 hdX4_start ⟨rfl, rfl⟩ ⟨Nat.le_of_ble_eq_true rfl, Nat.le_of_ble_eq_true rfl⟩ rfl hl.1 (Nat.le_of_ble_eq_true rfl) dX10_areApartBy_45 ⟨Nat.le_of_ble_eq_true rfl, Nat.le_of_ble_eq_true rfl⟩) hT hS hA [0] [1, 2, 3, 4, 5, 6, 7, 8, 9, 10, 11] rfl rfl rfl (by decide) (by decide) (fun r32 H locs hB J hS => ?_)
        obtain ⟨b_r32, hT1⟩ := hB
        have hT := J _ hT1
        have hT : TP D A [(h12, aJ (k 1) 9 anJ), (h22, aJ (k 1) 900 anJ), (h38, aJ (k 1) 12000 anJ), (h39, aI (k 0) 400 anI), (h40, aI (k 0) 400 anI), (h41, aI (k 0) 400 anI), (h1, ob 4 [.int h1f0, .int h1f1, .int h1f2, .ref h14]), (h0, ob 7 [.ref h1, .ref h2, .int h0f2, .ref h3, .ref h4, .ref h5, .int h0f6, .ref h6, .int h0f8, .ref h7, .ref h8, .int h0f11, .ref h9, .ref h10, .ref h11, .ref h12, .ref h13]), (h7, ob 3 [.ref h38, .ref h39, .ref h40, .ref h41, .ref h42, .ref h43, .ref h44, .ref h45, .int r1, .int 400, .int y29, .int 0]), (h43, aI (k 0) 1024 (rgI (-1) (y29.toInt - 1))), (h44, aI (k 0) 400 (pfI (y29.toInt))), (h5, ob 3 [.ref h22, .ref h23, .ref h24, .ref h25, .ref h26, .ref h27, .ref h28, .ref h29, .int h5f8, .int h5f9, .int h5f10, .int h5f11])] _ := hT
        refine lv_aload_n hx hb dX10_areApartBy_48 rfl (lv_at hl 0 rfl) ?_
        refine tz_get (ci := 7) (v := .ref h12) (C := RX10) (F := TX10) (N := 17) hx hb hU iX10 hown hK hT 7 rfl rfl 15 (by decide) w264 (fun _ h9 => h9) rfl dX10_areApartBy_49 ?_
        refine lv_iconst (v := 0) hx hb dX10_areApartBy_52 (by decide) ?_
        refine lv_iload_n hx hb dX10_areApartBy_53 rfl (lv_at hl 2 rfl) ?_
        refine tz_copyl hx hb (by rw [hml]; exact hl.1.symm) hown hU w410 w348 w347 w75 hK hT hS 1 0 rfl rfl (by have := li_0; omega) (fun _ _ _ _ => trivial) (Nat.le_of_ble_eq_true rfl) (Nat.le_of_ble_eq_true rfl) dX10_areApartBy_54 (fun H locs hT hS => ?_)
        refine lv_aload_n hx hb dX10_areApartBy_57 rfl (lv_at hl 0 rfl) ?_
        refine tz_get (ci := 7) (v := .ref h12) (C := RX10) (F := TX10) (N := 17) hx hb hU iX10 hown hK hT 7 rfl rfl 15 (by decide) w264 (fun _ h9 => h9) rfl dX10_areApartBy_58 ?_
        refine lv_iload_n hx hb dX10_areApartBy_61 rfl (lv_at hl 2 rfl) ?_
        refine lv_iload_n hx hb dX10_areApartBy_62 rfl (lv_at hl 1 rfl) ?_
        refine tcV (Tc := [(h12, aJ (k 1) 9 anJ)]) (Tr := [(h22, aJ (k 1) 900 anJ), (h38, aJ (k 1) 12000 anJ), (h39, aI (k 0) 400 anI), (h40, aI (k 0) 400 anI), (h41, aI (k 0) 400 anI), (h1, ob 4 [.int h1f0, .int h1f1, .int h1f2, .ref h14]), (h0, ob 7 [.ref h1, .ref h2, .int h0f2, .ref h3, .ref h4, .ref h5, .int h0f6, .ref h6, .int h0f8, .ref h7, .ref h8, .int h0f11, .ref h9, .ref h10, .ref h11, .ref h12, .ref h13]), (h7, ob 3 [.ref h38, .ref h39, .ref h40, .ref h41, .ref h42, .ref h43, .ref h44, .ref h45, .int r1, .int 400, .int y29, .int 0]), (h43, aI (k 0) 1024 (rgI (-1) (y29.toInt - 1))), (h44, aI (k 0) 400 (pfI (y29.toInt))), (h5, ob 3 [.ref h22, .ref h23, .ref h24, .ref h25, .ref h26, .ref h27, .ref h28, .ref h29, .int h5f8, .int h5f9, .int h5f10, .int h5f11])]) (as := [h12]) (zcS (As := [.ref h12, .int r1, .int x1]) (rest := []) (Tc := [(h12, aJ (k 1) 9 anJ)]) hx hb hml hown hU hK hT [0] rfl (by decide) (cX7_reduce_4e1e3 l D k _ h12 r1 x1 (by omega) (by omega)) w546 w681 w545 w74 hdX7_reduce ⟨rfl, rfl⟩ ⟨Nat.le_of_ble_eq_true rfl, Nat.le_of_ble_eq_true rfl⟩ rfl hl.1 (Nat.le_of_ble_eq_true rfl) dX10_areApartBy_63 ⟨Nat.le_of_ble_eq_true rfl, Nat.le_of_ble_eq_true rfl⟩) hT hS hA [0] [1, 2, 3, 4, 5, 6, 7, 8, 9, 10, 11] rfl rfl rfl (by decide) (by decide) (fun H locs hB J hS => ?_)
        have hT1 := hB
        have hT := J _ hT1
        have hT : TP D A [(h22, aJ (k 1) 900 anJ), (h38, aJ (k 1) 12000 anJ), (h39, aI (k 0) 400 anI), (h40, aI (k 0) 400 anI), (h41, aI (k 0) 400 anI), (h1, ob 4 [.int h1f0, .int h1f1, .int h1f2, .ref h14]), (h0, ob 7 [.ref h1, .ref h2, .int h0f2, .ref h3, .ref h4, .ref h5, .int h0f6, .ref h6, .int h0f8, .ref h7, .ref h8, .int h0f11, .ref h9, .ref h10, .ref h11, .ref h12, .ref h13]), (h7, ob 3 [.ref h38, .ref h39, .ref h40, .ref h41, .ref h42, .ref h43, .ref h44, .ref h45, .int r1, .int 400, .int y29, .int 0]), (h43, aI (k 0) 1024 (rgI (-1) (y29.toInt - 1))), (h44, aI (k 0) 400 (pfI (y29.toInt))), (h5, ob 3 [.ref h22, .ref h23, .ref h24, .ref h25, .ref h26, .ref h27, .ref h28, .ref h29, .int h5f8, .int h5f9, .int h5f10, .int h5f11]), (h12, aJ (k 1) 9 anJ)] _ := hT
        refine lv_aload_n hx hb dX10_areApartBy_66 rfl (lv_at hl 3 rfl) ?_
        refine lv_aload_n hx hb dX10_areApartBy_67 rfl (lv_at hl 0 rfl) ?_
        refine tz_get (ci := 7) (v := .ref h12) (C := RX10) (F := TX10) (N := 17) hx hb hU iX10 hown hK hT 6 rfl rfl 15 (by decide) w264 (fun _ h9 => h9) rfl dX10_areApartBy_68 ?_
        have q_q35 := li_400
        have q_q36 := li_0
        refine tcI (Tc := [(h7, ob 3 [.ref h38, .ref h39, .ref h40, .ref h41, .ref h42, .ref h43, .ref h44, .ref h45, .int r1, .int 400, .int y29, .int 0]), (h12, aJ (k 1) 9 anJ), (h38, aJ (k 1) 12000 anJ), (h43, aI (k 0) 1024 (rgI (-1) (y29.toInt - 1))), (h44, aI (k 0) 400 (pfI (y29.toInt)))]) (Tr := [(h22, aJ (k 1) 900 anJ), (h39, aI (k 0) 400 anI), (h40, aI (k 0) 400 anI), (h41, aI (k 0) 400 anI), (h1, ob 4 [.int h1f0, .int h1f1, .int h1f2, .ref h14]), (h0, ob 7 [.ref h1, .ref h2, .int h0f2, .ref h3, .ref h4, .ref h5, .int h0f6, .ref h6, .int h0f8, .ref h7, .ref h8, .int h0f11, .ref h9, .ref h10, .ref h11, .ref h12, .ref h13]), (h5, ob 3 [.ref h22, .ref h23, .ref h24, .ref h25, .ref h26, .ref h27, .ref h28, .ref h29, .int h5f8, .int h5f9, .int h5f10, .int h5f11])]) (as := [h7, h12, h38, h43, h44]) (zcV (q0 := 7) (ci := 3) (As := [.ref h12]) (rest := []) (Tc := [(h7, ob 3 [.ref h38, .ref h39, .ref h40, .ref h41, .ref h42, .ref h43, .ref h44, .ref h45, .int r1, .int 400, .int y29, .int 0]), (h12, aJ (k 1) 9 anJ), (h38, aJ (k 1) 12000 anJ), (h43, aI (k 0) 1024 (rgI (-1) (y29.toInt - 1))), (h44, aI (k 0) 400 (pfI (y29.toInt)))]) hx hb hml hown hU hK hT rfl rfl [7, 11, 1, 8, 9] rfl (by decide) (cX4_search_15ae4 l D k _ h7 h12 h38 h43 h44 h39 h40 h41 h42 h45 r1 (400) y29 (0) (by omega) (by have := li_400; omega) (by omega) (by have := li_0; omega)) w555 w597 w553 w554 w66 hdX4_search ⟨rfl, rfl⟩ ⟨Nat.le_of_ble_eq_true rfl, Nat.le_of_ble_eq_true rfl⟩ rfl hl.1 (Nat.le_of_ble_eq_true rfl) dX10_areApartBy_71 ⟨Nat.le_of_ble_eq_true rfl, Nat.le_of_ble_eq_true rfl⟩) hT hS hA [7, 11, 1, 8, 9] [0, 2, 3, 4, 5, 6, 10] rfl rfl rfl (by decide) (by decide) (fun r34 H locs hB J hS => ?_)
        obtain ⟨b_r34, hT1⟩ := hB
        have hT := J _ hT1
        have hT : TP D A [(h22, aJ (k 1) 900 anJ), (h39, aI (k 0) 400 anI), (h40, aI (k 0) 400 anI), (h41, aI (k 0) 400 anI), (h1, ob 4 [.int h1f0, .int h1f1, .int h1f2, .ref h14]), (h0, ob 7 [.ref h1, .ref h2, .int h0f2, .ref h3, .ref h4, .ref h5, .int h0f6, .ref h6, .int h0f8, .ref h7, .ref h8, .int h0f11, .ref h9, .ref h10, .ref h11, .ref h12, .ref h13]), (h5, ob 3 [.ref h22, .ref h23, .ref h24, .ref h25, .ref h26, .ref h27, .ref h28, .ref h29, .int h5f8, .int h5f9, .int h5f10, .int h5f11]), (h7, ob 3 [.ref h38, .ref h39, .ref h40, .ref h41, .ref h42, .ref h43, .ref h44, .ref h45, .int r1, .int 400, .int y29, .int 0]), (h12, aJ (k 1) 9 anJ), (h38, aJ (k 1) 12000 anJ), (h43, aI (k 0) 1024 (rgI (-1) (y29.toInt - 1))), (h44, aI (k 0) 400 (pfI (y29.toInt)))] _ := hT
        refine lv_if_lt (tgt := 79) hx hb dX10_areApartBy_74 (by decide) (fun c_37 => ?_) (fun c_37 => ?_)
        · skip
          have c_37 := ni_lt c_37 rfl li_0
          refine lv_aload_n hx hb dX10_areApartBy_79 rfl (lv_at hl 3 rfl) ?_
          refine lv_aload_n hx hb dX10_areApartBy_80 rfl (lv_at hl 0 rfl) ?_
          refine tz_get (ci := 7) (v := .ref h12) (C := RX10) (F := TX10) (N := 17) hx hb hU iX10 hown hK hT 5 rfl rfl 15 (by decide) w264 (fun _ h9 => h9) rfl dX10_areApartBy_81 ?_
          refine lv_bipush (v := (-3)) hx hb dX10_areApartBy_84 (by decide) ?_
          refine lv_bipush (v := (-3)) hx hb dX10_areApartBy_86 (by decide) ?_
          have q_q39 := li_m3
          have q_q40 := li_m3
          have q_q41 := li_400
          have q_q42 := li_0
          refine tcI (Tc := [(h7, ob 3 [.ref h38, .ref h39, .ref h40, .ref h41, .ref h42, .ref h43, .ref h44, .ref h45, .int r1, .int 400, .int y29, .int 0]), (h12, aJ (k 1) 9 anJ), (h38, aJ (k 1) 12000 anJ), (h39, aI (k 0) 400 anI), (h40, aI (k 0) 400 anI), (h41, aI (k 0) 400 anI), (h43, aI (k 0) 1024 (rgI (-1) (y29.toInt - 1))), (h44, aI (k 0) 400 (pfI (y29.toInt)))]) (Tr := [(h22, aJ (k 1) 900 anJ), (h1, ob 4 [.int h1f0, .int h1f1, .int h1f2, .ref h14]), (h0, ob 7 [.ref h1, .ref h2, .int h0f2, .ref h3, .ref h4, .ref h5, .int h0f6, .ref h6, .int h0f8, .ref h7, .ref h8, .int h0f11, .ref h9, .ref h10, .ref h11, .ref h12, .ref h13]), (h5, ob 3 [.ref h22, .ref h23, .ref h24, .ref h25, .ref h26, .ref h27, .ref h28, .ref h29, .int h5f8, .int h5f9, .int h5f10, .int h5f11])]) (as := [h7, h12, h38, h39, h40, h41, h43, h44]) (zcV (q0 := 7) (ci := 3) (As := [.ref h12, .int (-3), .int (-3)]) (rest := []) (Tc := [(h7, ob 3 [.ref h38, .ref h39, .ref h40, .ref h41, .ref h42, .ref h43, .ref h44, .ref h45, .int r1, .int 400, .int y29, .int 0]), (h12, aJ (k 1) 9 anJ), (h38, aJ (k 1) 12000 anJ), (h39, aI (k 0) 400 anI), (h40, aI (k 0) 400 anI), (h41, aI (k 0) 400 anI), (h43, aI (k 0) 1024 (rgI (-1) (y29.toInt - 1))), (h44, aI (k 0) 400 (pfI (y29.toInt)))]) hx hb hml hown hU hK hT rfl rfl [7, 8, 9, 1, 2, 3, 10, 11] rfl (by decide) (cX4_append_aa194 l D k _ h7 h12 h38 h39 h40 h41 h43 h44 h42 h45 ((-3)) ((-3)) r1 (400) y29 (0) (by have := li_m3; omega) (by have := li_m3; omega) (by omega) (by have := li_400; omega) (by omega) (by have := li_0; omega)) w501 w498 w499 w500 w66 hdX4_append ⟨rfl, rfl⟩ ⟨Nat.le_of_ble_eq_true rfl, Nat.le_of_ble_eq_true rfl⟩ rfl hl.1 (Nat.le_of_ble_eq_true rfl) dX10_areApartBy_88 ⟨Nat.le_of_ble_eq_true rfl, Nat.le_of_ble_eq_true rfl⟩) hT hS hA [7, 8, 9, 1, 2, 3, 10, 11] [0, 4, 5, 6] rfl rfl rfl (by decide) (by decide) (fun r38 H locs hB J hS => ?_)
          obtain ⟨v43, b_v43, b_r38, hT1⟩ := hB
          have hT := J _ hT1
          have hT : TP D A [(h22, aJ (k 1) 900 anJ), (h1, ob 4 [.int h1f0, .int h1f1, .int h1f2, .ref h14]), (h0, ob 7 [.ref h1, .ref h2, .int h0f2, .ref h3, .ref h4, .ref h5, .int h0f6, .ref h6, .int h0f8, .ref h7, .ref h8, .int h0f11, .ref h9, .ref h10, .ref h11, .ref h12, .ref h13]), (h5, ob 3 [.ref h22, .ref h23, .ref h24, .ref h25, .ref h26, .ref h27, .ref h28, .ref h29, .int h5f8, .int h5f9, .int h5f10, .int h5f11]), (h7, ob 3 [.ref h38, .ref h39, .ref h40, .ref h41, .ref h42, .ref h43, .ref h44, .ref h45, .int r1, .int 400, .int v43, .int 0]), (h12, aJ (k 1) 9 anJ), (h38, aJ (k 1) 12000 anJ), (h39, aI (k 0) 400 anI), (h40, aI (k 0) 400 anI), (h41, aI (k 0) 400 anI), (h43, aI (k 0) 1024 (rgI (-1) (v43.toInt - 1))), (h44, aI (k 0) 400 (pfI (v43.toInt)))] _ := hT
          refine lv_pop hx hb dX10_areApartBy_91 rfl ?_
          obtain ⟨v44, e_v44⟩ : ∃ x : Int32, x = y28 + Int32.ofInt 1 := ⟨_, rfl⟩
          have f_v44 := e_v44.symm
          have e_v44 : v44.toInt = y28.toInt + 1 := ai_add e_v44 rfl (show (Int32.ofInt 1).toInt = 1 from (by decide +kernel)) (by omega)
          refine lv_iinc (v := v44) (lv' := [(4, .int v44), (0, .ref h0), (1, .int x1), (2, .int r1), (3, .ref h7)]) hx hb dX10_areApartBy_92 hl (k := 4) rfl f_v44 (by decide) rfl (fun ls hl => ?_)
          refine lv_goto (tgt := 20) hx hb dX10_areApartBy_95 (by decide) ?_
          exact ih20_30 v44 v43 _ _ _ (by omega) (by omega)  (by omega) (hT.sub [3, 5, 0, 6, 7, 8, 9, 1, 2, 4, 10, 11] (by decide) rfl) hS (lv_sub hl [1, 2, 3, 4, 0] rfl)
        · skip
          have c_37 := ni_nlt c_37 rfl li_0
          refine lv_iconst (v := 0) hx hb dX10_areApartBy_77 (by decide) ?_
          have hT := hT.wk (q := 10) rfl (an_I (c := k 0) (n := 1024))
          have hT : TP D A [(h22, aJ (k 1) 900 anJ), (h39, aI (k 0) 400 anI), (h40, aI (k 0) 400 anI), (h41, aI (k 0) 400 anI), (h1, ob 4 [.int h1f0, .int h1f1, .int h1f2, .ref h14]), (h0, ob 7 [.ref h1, .ref h2, .int h0f2, .ref h3, .ref h4, .ref h5, .int h0f6, .ref h6, .int h0f8, .ref h7, .ref h8, .int h0f11, .ref h9, .ref h10, .ref h11, .ref h12, .ref h13]), (h5, ob 3 [.ref h22, .ref h23, .ref h24, .ref h25, .ref h26, .ref h27, .ref h28, .ref h29, .int h5f8, .int h5f9, .int h5f10, .int h5f11]), (h7, ob 3 [.ref h38, .ref h39, .ref h40, .ref h41, .ref h42, .ref h43, .ref h44, .ref h45, .int r1, .int 400, .int y29, .int 0]), (h12, aJ (k 1) 9 anJ), (h38, aJ (k 1) 12000 anJ), (h43, aI (k 0) 1024 anI), (h44, aI (k 0) 400 (pfI (y29.toInt)))] _ := hT
          have hT := hT.wk (q := 11) rfl (an_I (c := k 0) (n := 400))
          have hT : TP D A [(h22, aJ (k 1) 900 anJ), (h39, aI (k 0) 400 anI), (h40, aI (k 0) 400 anI), (h41, aI (k 0) 400 anI), (h1, ob 4 [.int h1f0, .int h1f1, .int h1f2, .ref h14]), (h0, ob 7 [.ref h1, .ref h2, .int h0f2, .ref h3, .ref h4, .ref h5, .int h0f6, .ref h6, .int h0f8, .ref h7, .ref h8, .int h0f11, .ref h9, .ref h10, .ref h11, .ref h12, .ref h13]), (h5, ob 3 [.ref h22, .ref h23, .ref h24, .ref h25, .ref h26, .ref h27, .ref h28, .ref h29, .int h5f8, .int h5f9, .int h5f10, .int h5f11]), (h7, ob 3 [.ref h38, .ref h39, .ref h40, .ref h41, .ref h42, .ref h43, .ref h44, .ref h45, .int r1, .int 400, .int y29, .int 0]), (h12, aJ (k 1) 9 anJ), (h38, aJ (k 1) 12000 anJ), (h43, aI (k 0) 1024 anI), (h44, aI (k 0) 400 anI)] _ := hT
          exact tz_retZ (B := B_cX10_areApartBy_bc843 D k h0 h1 h5 h7 h12 h22 h38 h39 h40 h41 h43 h44 h2 h3 h4 h6 h8 h9 h10 h11 h13 h14 h23 h24 h25 h26 h27 h28 h29 h42 h45 x1 h0f2 h0f6 h0f8 h0f11 h1f0 h1f1 h1f2 h5f8 h5f9 h5f10 h5f11 h7f8 h7f9 h7f10 h7f11) (v := 0) hQ hx hb hr hlocks hS (Nat.le_of_ble_eq_true rfl) (Nat.le_of_ble_eq_true rfl) dX10_areApartBy_78 (by have := li_0; omega) (⟨r1, y29, (by have := li_0; omega), (by have := li_0; omega), (by have := li_0; omega), (hT.sub [5, 4, 6, 7, 8, 0, 9, 1, 2, 3, 10, 11] (by decide) rfl)⟩)
  exact lp20_30 ((h5f10.toInt + (-1) * (0 : Int32).toInt + 1).toNat + 1) (0) (0) _ _ _ (by have := li_0; omega) (by have := li_0; omega)  (Nat.lt_succ_self _) hT hS (lv_sub hl [3, 4, 2, 1, 0] rfl)
abbrev Rm_cX10_faithful_3fec0 : Room := { frames := 6, cells := 0, slots := 0, locals := 149 }
abbrev B_cX10_faithful_3fec0 (D : va_G) (k : Nat → ClassId) (h0 h1 h5 h7 h9 h12 h14 h22 h23 h24 h25 h26 h27 h28 h29 h38 h39 h40 h41 h43 h44 h2 h3 h4 h6 h8 h10 h11 h13 h42 h45 : Nat) (x1 : Int32) (h0f2 : Int32) (h0f6 : Int32) (h0f8 : Int32) (h0f11 : Int32) (h1f0 : Int32) (h1f1 : Int32) (h1f2 : Int32) (h5f8 : Int32) (h5f9 : Int32) (h5f10 : Int32) (h5f11 : Int32) (h7f8 : Int32) (h7f9 : Int32) (h7f10 : Int32) (h7f11 : Int32) (h9f1 : Int32) (A : Nat → Prop) (r : Int32) (H : Heap) : Prop := ∃ o0 : Int32, ∃ o1 : Int32, ∃ o2 : Int32, ∃ o3 : Int32, ∃ o4 : Int32, ∃ o5 : Int32, ∃ o6 : Int32, ∃ o7 : Int32, ∃ o8 : Int32, ∃ o9 : Int32, (0 ≤ o0.toInt ∧ o0.toInt ≤ 1) ∧ (0 ≤ o1.toInt ∧ o1.toInt ≤ 9) ∧ (0 ≤ o2.toInt ∧ o2.toInt ≤ 100) ∧ (0 ≤ o3.toInt ∧ o3.toInt ≤ 100) ∧ (0 ≤ o4.toInt ∧ o4.toInt ≤ 1) ∧ (0 ≤ o5.toInt ∧ o5.toInt ≤ 60) ∧ (0 ≤ o6.toInt ∧ o6.toInt ≤ 400) ∧ (0 ≤ o7.toInt ∧ o7.toInt ≤ 400) ∧ (0 ≤ o8.toInt ∧ o8.toInt ≤ 1) ∧ (0 ≤ o9.toInt ∧ o9.toInt ≤ 7) ∧ ((-1) ≤ r.toInt ∧ r.toInt ≤ 1) ∧ TP D A [(h0, ob 7 [.ref h1, .ref h2, .int h0f2, .ref h3, .ref h4, .ref h5, .int o0, .ref h6, .int h0f8, .ref h7, .ref h8, .int h0f11, .ref h9, .ref h10, .ref h11, .ref h12, .ref h13]), (h1, ob 4 [.int h1f0, .int h1f1, .int h1f2, .ref h14]), (h5, ob 3 [.ref h22, .ref h23, .ref h24, .ref h25, .ref h26, .ref h27, .ref h28, .ref h29, .int o1, .int o2, .int o3, .int o4]), (h7, ob 3 [.ref h38, .ref h39, .ref h40, .ref h41, .ref h42, .ref h43, .ref h44, .ref h45, .int o5, .int o6, .int o7, .int o8]), (h9, ob 2 [.ref h1, .int o9]), (h12, aJ (k 1) 9 anJ), (h14, aJ (k 1) 36 anJ), (h22, aJ (k 1) 900 anJ), (h23, aI (k 0) 100 anI), (h24, aI (k 0) 100 anI), (h25, aI (k 0) 100 anI), (h26, aI (k 0) 400 anI), (h27, aI (k 0) 256 (rgI (-1) 99)), (h28, aI (k 0) 100 (rgI (-1) 99)), (h29, aJ (k 1) 60 anJ), (h38, aJ (k 1) 12000 anJ), (h39, aI (k 0) 400 anI), (h40, aI (k 0) 400 anI), (h41, aI (k 0) 400 anI), (h43, aI (k 0) 1024 anI), (h44, aI (k 0) 400 anI)] H
set_option maxHeartbeats 4000000 in
set_option maxRecDepth 100000 in
theorem cX10_faithful_3fec0 (l : Launch) (D : va_G) (k : Nat → ClassId) (sz : Nat) (h0 h1 h5 h7 h9 h12 h14 h22 h23 h24 h25 h26 h27 h28 h29 h38 h39 h40 h41 h43 h44 h2 h3 h4 h6 h8 h10 h11 h13 h42 h45 : Nat) (x1 : Int32) (h0f2 : Int32) (h0f6 : Int32) (h0f8 : Int32) (h0f11 : Int32) (h1f0 : Int32) (h1f1 : Int32) (h1f2 : Int32) (h5f8 : Int32) (h5f9 : Int32) (h5f10 : Int32) (h5f11 : Int32) (h7f8 : Int32) (h7f9 : Int32) (h7f10 : Int32) (h7f11 : Int32) (h9f1 : Int32) (b_h0f2 : 0 ≤ h0f2.toInt ∧ h0f2.toInt ≤ 1) (b_h0f6 : 0 ≤ h0f6.toInt ∧ h0f6.toInt ≤ 1) (b_h0f8 : 0 ≤ h0f8.toInt ∧ h0f8.toInt ≤ 1) (b_h0f11 : 0 ≤ h0f11.toInt ∧ h0f11.toInt ≤ 200) (b_h1f0 : 1 ≤ h1f0.toInt ∧ h1f0.toInt ≤ 3) (b_h1f1 : 0 ≤ h1f1.toInt ∧ h1f1.toInt ≤ 4) (b_h5f8 : 0 ≤ h5f8.toInt ∧ h5f8.toInt ≤ 9) (b_h5f9 : 0 ≤ h5f9.toInt ∧ h5f9.toInt ≤ 100) (b_h5f10 : 0 ≤ h5f10.toInt ∧ h5f10.toInt ≤ 100) (b_h5f11 : 0 ≤ h5f11.toInt ∧ h5f11.toInt ≤ 1) (b_h7f8 : 0 ≤ h7f8.toInt ∧ h7f8.toInt ≤ 60) (b_h7f9 : 0 ≤ h7f9.toInt ∧ h7f9.toInt ≤ 400) (b_h7f10 : 0 ≤ h7f10.toInt ∧ h7f10.toInt ≤ 400) (b_h7f11 : 0 ≤ h7f11.toInt ∧ h7f11.toInt ≤ 1) (b_h9f1 : 0 ≤ h9f1.toInt ∧ h9f1.toInt ≤ 7) : Met l yX10_faithful (Cond.code yX10_faithful cX10_faithful 2 (some .int) :: uw) Rm_cX10_faithful_3fec0 (pT D k sz [.ref h0, .int x1] [(h0, ob 7 [.ref h1, .ref h2, .int h0f2, .ref h3, .ref h4, .ref h5, .int h0f6, .ref h6, .int h0f8, .ref h7, .ref h8, .int h0f11, .ref h9, .ref h10, .ref h11, .ref h12, .ref h13]), (h1, ob 4 [.int h1f0, .int h1f1, .int h1f2, .ref h14]), (h5, ob 3 [.ref h22, .ref h23, .ref h24, .ref h25, .ref h26, .ref h27, .ref h28, .ref h29, .int h5f8, .int h5f9, .int h5f10, .int h5f11]), (h7, ob 3 [.ref h38, .ref h39, .ref h40, .ref h41, .ref h42, .ref h43, .ref h44, .ref h45, .int h7f8, .int h7f9, .int h7f10, .int h7f11]), (h9, ob 2 [.ref h1, .int h9f1]), (h12, aJ (k 1) 9 anJ), (h14, aJ (k 1) 36 anJ), (h22, aJ (k 1) 900 anJ), (h23, aI (k 0) 100 anI), (h24, aI (k 0) 100 anI), (h25, aI (k 0) 100 anI), (h26, aI (k 0) 400 anI), (h27, aI (k 0) 256 (rgI (-1) 99)), (h28, aI (k 0) 100 (rgI (-1) 99)), (h29, aJ (k 1) 60 anJ), (h38, aJ (k 1) 12000 anJ), (h39, aI (k 0) 400 anI), (h40, aI (k 0) 400 anI), (h41, aI (k 0) 400 anI), (h43, aI (k 0) 1024 anI), (h44, aI (k 0) 400 anI)]) (qI (B_cX10_faithful_3fec0 D k h0 h1 h5 h7 h9 h12 h14 h22 h23 h24 h25 h26 h27 h28 h29 h38 h39 h40 h41 h43 h44 h2 h3 h4 h6 h8 h10 h11 h13 h42 h45 x1 h0f2 h0f6 h0f8 h0f11 h1f0 h1f1 h1f2 h5f8 h5f9 h5f10 h5f11 h7f8 h7f9 h7f10 h7f11 h9f1 (zA [h0, h1, h5, h7, h9, h12, h14, h22, h23, h24, h25, h26, h27, h28, h29, h38, h39, h40, h41, h43, h44] sz)) (zA [h0, h1, h5, h7, h9, h12, h14, h22, h23, h24, h25, h26, h27, h28, h29, h38, h39, h40, h41, h43, h44] sz)) 0 0 (zA [h0, h1, h5, h7, h9, h12, h14, h22, h23, h24, h25, h26, h27, h28, h29, h38, h39, h40, h41, h43, h44] sz) := by
  refine tz_begin (as := [h0, h1, h5, h7, h9, h12, h14, h22, h23, h24, h25, h26, h27, h28, h29, h38, h39, h40, h41, h43, h44]) (Qc := fun A => qI (B_cX10_faithful_3fec0 D k h0 h1 h5 h7 h9 h12 h14 h22 h23 h24 h25 h26 h27 h28 h29 h38 h39 h40 h41 h43 h44 h2 h3 h4 h6 h8 h10 h11 h13 h42 h45 x1 h0f2 h0f6 h0f8 h0f11 h1f0 h1f1 h1f2 h5f8 h5f9 h5f10 h5f11 h7f8 h7f9 h7f10 h7f11 h9f1 A) A) (by decide +kernel) rfl (Nat.le_of_ble_eq_true rfl) ?_
  intro p e s m args below meth c ls A Q hx hb hr hml hown hlocks hin hU hK hT hS hA hl hQ
  have hl : lv_has ls 2 [(0, .ref h0), (1, .int x1)] := hl
  have hT : TP D A [(h0, ob 7 [.ref h1, .ref h2, .int h0f2, .ref h3, .ref h4, .ref h5, .int h0f6, .ref h6, .int h0f8, .ref h7, .ref h8, .int h0f11, .ref h9, .ref h10, .ref h11, .ref h12, .ref h13]), (h1, ob 4 [.int h1f0, .int h1f1, .int h1f2, .ref h14]), (h5, ob 3 [.ref h22, .ref h23, .ref h24, .ref h25, .ref h26, .ref h27, .ref h28, .ref h29, .int h5f8, .int h5f9, .int h5f10, .int h5f11]), (h7, ob 3 [.ref h38, .ref h39, .ref h40, .ref h41, .ref h42, .ref h43, .ref h44, .ref h45, .int h7f8, .int h7f9, .int h7f10, .int h7f11]), (h9, ob 2 [.ref h1, .int h9f1]), (h12, aJ (k 1) 9 anJ), (h14, aJ (k 1) 36 anJ), (h22, aJ (k 1) 900 anJ), (h23, aI (k 0) 100 anI), (h24, aI (k 0) 100 anI), (h25, aI (k 0) 100 anI), (h26, aI (k 0) 400 anI), (h27, aI (k 0) 256 (rgI (-1) 99)), (h28, aI (k 0) 100 (rgI (-1) 99)), (h29, aJ (k 1) 60 anJ), (h38, aJ (k 1) 12000 anJ), (h39, aI (k 0) 400 anI), (h40, aI (k 0) 400 anI), (h41, aI (k 0) 400 anI), (h43, aI (k 0) 1024 anI), (h44, aI (k 0) 400 anI)] s.heap := hT
  refine lv_iload_n hx hb dX10_faithful_0 rfl (lv_at hl 1 rfl) ?_
  refine tcI (Tc := []) (Tr := [(h0, ob 7 [.ref h1, .ref h2, .int h0f2, .ref h3, .ref h4, .ref h5, .int h0f6, .ref h6, .int h0f8, .ref h7, .ref h8, .int h0f11, .ref h9, .ref h10, .ref h11, .ref h12, .ref h13]), (h1, ob 4 [.int h1f0, .int h1f1, .int h1f2, .ref h14]), (h5, ob 3 [.ref h22, .ref h23, .ref h24, .ref h25, .ref h26, .ref h27, .ref h28, .ref h29, .int h5f8, .int h5f9, .int h5f10, .int h5f11]), (h7, ob 3 [.ref h38, .ref h39, .ref h40, .ref h41, .ref h42, .ref h43, .ref h44, .ref h45, .int h7f8, .int h7f9, .int h7f10, .int h7f11]), (h9, ob 2 [.ref h1, .int h9f1]), (h12, aJ (k 1) 9 anJ), (h14, aJ (k 1) 36 anJ), (h22, aJ (k 1) 900 anJ), (h23, aI (k 0) 100 anI), (h24, aI (k 0) 100 anI), (h25, aI (k 0) 100 anI), (h26, aI (k 0) 400 anI), (h27, aI (k 0) 256 (rgI (-1) 99)), (h28, aI (k 0) 100 (rgI (-1) 99)), (h29, aJ (k 1) 60 anJ), (h38, aJ (k 1) 12000 anJ), (h39, aI (k 0) 400 anI), (h40, aI (k 0) 400 anI), (h41, aI (k 0) 400 anI), (h43, aI (k 0) 1024 anI), (h44, aI (k 0) 400 anI)]) (as := []) (zcS (As := [.int x1]) (rest := []) (Tc := []) hx hb hml hown hU hK hT [] rfl (by decide) (cX10_isPrimeTaken_1c6a4 l D k _ x1) w664 w662 w663 w63 hdX10_isPrimeTaken ⟨rfl, rfl⟩ ⟨Nat.le_of_ble_eq_true rfl, Nat.le_of_ble_eq_true rfl⟩ rfl hl.1 (Nat.le_of_ble_eq_true rfl) dX10_faithful_1 ⟨Nat.le_of_ble_eq_true rfl, Nat.le_of_ble_eq_true rfl⟩) hT hS hA [] [0, 1, 2, 3, 4, 5, 6, 7, 8, 9, 10, 11, 12, 13, 14, 15, 16, 17, 18, 19, 20] rfl rfl rfl (by decide) (by decide) (fun r1 H locs hB J hS => ?_)
  rcases hB with ⟨c_2, rfl, hT1⟩ | ⟨c_3, c_4, rfl, hT1⟩ | ⟨c_5, c_6, c_7, rfl, hT1⟩ | ⟨rfl, hT1⟩ | ⟨c_8, c_9, c_10, c_11, rfl, hT1⟩
  · skip
    have hT := J _ hT1
    have hT : TP D A [(h0, ob 7 [.ref h1, .ref h2, .int h0f2, .ref h3, .ref h4, .ref h5, .int h0f6, .ref h6, .int h0f8, .ref h7, .ref h8, .int h0f11, .ref h9, .ref h10, .ref h11, .ref h12, .ref h13]), (h1, ob 4 [.int h1f0, .int h1f1, .int h1f2, .ref h14]), (h5, ob 3 [.ref h22, .ref h23, .ref h24, .ref h25, .ref h26, .ref h27, .ref h28, .ref h29, .int h5f8, .int h5f9, .int h5f10, .int h5f11]), (h7, ob 3 [.ref h38, .ref h39, .ref h40, .ref h41, .ref h42, .ref h43, .ref h44, .ref h45, .int h7f8, .int h7f9, .int h7f10, .int h7f11]), (h9, ob 2 [.ref h1, .int h9f1]), (h12, aJ (k 1) 9 anJ), (h14, aJ (k 1) 36 anJ), (h22, aJ (k 1) 900 anJ), (h23, aI (k 0) 100 anI), (h24, aI (k 0) 100 anI), (h25, aI (k 0) 100 anI), (h26, aI (k 0) 400 anI), (h27, aI (k 0) 256 (rgI (-1) 99)), (h28, aI (k 0) 100 (rgI (-1) 99)), (h29, aJ (k 1) 60 anJ), (h38, aJ (k 1) 12000 anJ), (h39, aI (k 0) 400 anI), (h40, aI (k 0) 400 anI), (h41, aI (k 0) 400 anI), (h43, aI (k 0) 1024 anI), (h44, aI (k 0) 400 anI)] _ := hT
    refine lv_if_ne (tgt := 9) hx hb dX10_faithful_4 (by decide) (fun _ => ?_) (fun cc => absurd cc (by decide +kernel))
    refine lv_aload_n hx hb dX10_faithful_9 rfl (lv_at hl 0 rfl) ?_
    refine tcV (Tc := [(h0, ob 7 [.ref h1, .ref h2, .int h0f2, .ref h3, .ref h4, .ref h5, .int h0f6, .ref h6, .int h0f8, .ref h7, .ref h8, .int h0f11, .ref h9, .ref h10, .ref h11, .ref h12, .ref h13]), (h1, ob 4 [.int h1f0, .int h1f1, .int h1f2, .ref h14]), (h5, ob 3 [.ref h22, .ref h23, .ref h24, .ref h25, .ref h26, .ref h27, .ref h28, .ref h29, .int h5f8, .int h5f9, .int h5f10, .int h5f11]), (h9, ob 2 [.ref h1, .int h9f1]), (h12, aJ (k 1) 9 anJ), (h14, aJ (k 1) 36 anJ), (h22, aJ (k 1) 900 anJ), (h23, aI (k 0) 100 anI), (h24, aI (k 0) 100 anI), (h25, aI (k 0) 100 anI), (h26, aI (k 0) 400 anI), (h27, aI (k 0) 256 (rgI (-1) 99)), (h28, aI (k 0) 100 (rgI (-1) 99)), (h29, aJ (k 1) 60 anJ)]) (Tr := [(h7, ob 3 [.ref h38, .ref h39, .ref h40, .ref h41, .ref h42, .ref h43, .ref h44, .ref h45, .int h7f8, .int h7f9, .int h7f10, .int h7f11]), (h38, aJ (k 1) 12000 anJ), (h39, aI (k 0) 400 anI), (h40, aI (k 0) 400 anI), (h41, aI (k 0) 400 anI), (h43, aI (k 0) 1024 anI), (h44, aI (k 0) 400 anI)]) (as := [h0, h1, h5, h9, h12, h14, h22, h23, h24, h25, h26, h27, h28, h29]) (zcV (q0 := 0) (ci := 7) (As := []) (rest := []) (Tc := [(h0, ob 7 [.ref h1, .ref h2, .int h0f2, .ref h3, .ref h4, .ref h5, .int h0f6, .ref h6, .int h0f8, .ref h7, .ref h8, .int h0f11, .ref h9, .ref h10, .ref h11, .ref h12, .ref h13]), (h1, ob 4 [.int h1f0, .int h1f1, .int h1f2, .ref h14]), (h5, ob 3 [.ref h22, .ref h23, .ref h24, .ref h25, .ref h26, .ref h27, .ref h28, .ref h29, .int h5f8, .int h5f9, .int h5f10, .int h5f11]), (h9, ob 2 [.ref h1, .int h9f1]), (h12, aJ (k 1) 9 anJ), (h14, aJ (k 1) 36 anJ), (h22, aJ (k 1) 900 anJ), (h23, aI (k 0) 100 anI), (h24, aI (k 0) 100 anI), (h25, aI (k 0) 100 anI), (h26, aI (k 0) 400 anI), (h27, aI (k 0) 256 (rgI (-1) 99)), (h28, aI (k 0) 100 (rgI (-1) 99)), (h29, aJ (k 1) 60 anJ)]) hx hb hml hown hU hK hT rfl rfl [0, 1, 2, 4, 5, 6, 7, 8, 9, 10, 11, 12, 13, 14] rfl (by decide) (cX10_listAll_d24ec l D k _ h0 h1 h5 h9 h12 h14 h22 h23 h24 h25 h26 h27 h28 h29 h2 h3 h4 h6 h7 h8 h10 h11 h13 h0f2 h0f6 h0f8 h0f11 h1f0 h1f1 h1f2 h5f8 h5f9 h5f10 h5f11 h9f1 (by omega) (by omega) (by omega) (by omega) (by omega) (by omega) (by omega) (by omega) (by omega) (by omega) (by omega)) w492 w489 w491 w10 w63 hdX10_listAll ⟨rfl, rfl⟩ ⟨Nat.le_of_ble_eq_true rfl, Nat.le_of_ble_eq_true rfl⟩ rfl hl.1 (Nat.le_of_ble_eq_true rfl) dX10_faithful_10 ⟨Nat.le_of_ble_eq_true rfl, Nat.le_of_ble_eq_true rfl⟩) hT hS hA [0, 1, 2, 4, 5, 6, 7, 8, 9, 10, 11, 12, 13, 14] [3, 15, 16, 17, 18, 19, 20] rfl rfl rfl (by decide) (by decide) (fun H locs hB J hS => ?_)
    obtain ⟨v13, v14, v15, v16, v17, v18, b_v13, b_v14, b_v15, b_v16, b_v17, b_v18, hT1⟩ := hB
    have hT := J _ hT1
    have hT : TP D A [(h7, ob 3 [.ref h38, .ref h39, .ref h40, .ref h41, .ref h42, .ref h43, .ref h44, .ref h45, .int h7f8, .int h7f9, .int h7f10, .int h7f11]), (h38, aJ (k 1) 12000 anJ), (h39, aI (k 0) 400 anI), (h40, aI (k 0) 400 anI), (h41, aI (k 0) 400 anI), (h43, aI (k 0) 1024 anI), (h44, aI (k 0) 400 anI), (h0, ob 7 [.ref h1, .ref h2, .int h0f2, .ref h3, .ref h4, .ref h5, .int v13, .ref h6, .int h0f8, .ref h7, .ref h8, .int h0f11, .ref h9, .ref h10, .ref h11, .ref h12, .ref h13]), (h1, ob 4 [.int h1f0, .int h1f1, .int h1f2, .ref h14]), (h5, ob 3 [.ref h22, .ref h23, .ref h24, .ref h25, .ref h26, .ref h27, .ref h28, .ref h29, .int v14, .int v15, .int v16, .int v17]), (h9, ob 2 [.ref h1, .int v18]), (h12, aJ (k 1) 9 anJ), (h14, aJ (k 1) 36 anJ), (h22, aJ (k 1) 900 anJ), (h23, aI (k 0) 100 anI), (h24, aI (k 0) 100 anI), (h25, aI (k 0) 100 anI), (h26, aI (k 0) 400 anI), (h27, aI (k 0) 256 (rgI (-1) 99)), (h28, aI (k 0) 100 (rgI (-1) 99)), (h29, aJ (k 1) 60 anJ)] _ := hT
    refine lv_aload_n hx hb dX10_faithful_13 rfl (lv_at hl 0 rfl) ?_
    refine lv_iload_n hx hb dX10_faithful_14 rfl (lv_at hl 1 rfl) ?_
    refine tcI (Tc := [(h0, ob 7 [.ref h1, .ref h2, .int h0f2, .ref h3, .ref h4, .ref h5, .int v13, .ref h6, .int h0f8, .ref h7, .ref h8, .int h0f11, .ref h9, .ref h10, .ref h11, .ref h12, .ref h13]), (h1, ob 4 [.int h1f0, .int h1f1, .int h1f2, .ref h14]), (h5, ob 3 [.ref h22, .ref h23, .ref h24, .ref h25, .ref h26, .ref h27, .ref h28, .ref h29, .int v14, .int v15, .int v16, .int v17]), (h7, ob 3 [.ref h38, .ref h39, .ref h40, .ref h41, .ref h42, .ref h43, .ref h44, .ref h45, .int h7f8, .int h7f9, .int h7f10, .int h7f11]), (h12, aJ (k 1) 9 anJ), (h22, aJ (k 1) 900 anJ), (h38, aJ (k 1) 12000 anJ), (h39, aI (k 0) 400 anI), (h40, aI (k 0) 400 anI), (h41, aI (k 0) 400 anI), (h43, aI (k 0) 1024 anI), (h44, aI (k 0) 400 anI)]) (Tr := [(h9, ob 2 [.ref h1, .int v18]), (h14, aJ (k 1) 36 anJ), (h23, aI (k 0) 100 anI), (h24, aI (k 0) 100 anI), (h25, aI (k 0) 100 anI), (h26, aI (k 0) 400 anI), (h27, aI (k 0) 256 (rgI (-1) 99)), (h28, aI (k 0) 100 (rgI (-1) 99)), (h29, aJ (k 1) 60 anJ)]) (as := [h0, h1, h5, h7, h12, h22, h38, h39, h40, h41, h43, h44]) (zcV (q0 := 7) (ci := 7) (As := [.int x1]) (rest := []) (Tc := [(h0, ob 7 [.ref h1, .ref h2, .int h0f2, .ref h3, .ref h4, .ref h5, .int v13, .ref h6, .int h0f8, .ref h7, .ref h8, .int h0f11, .ref h9, .ref h10, .ref h11, .ref h12, .ref h13]), (h1, ob 4 [.int h1f0, .int h1f1, .int h1f2, .ref h14]), (h5, ob 3 [.ref h22, .ref h23, .ref h24, .ref h25, .ref h26, .ref h27, .ref h28, .ref h29, .int v14, .int v15, .int v16, .int v17]), (h7, ob 3 [.ref h38, .ref h39, .ref h40, .ref h41, .ref h42, .ref h43, .ref h44, .ref h45, .int h7f8, .int h7f9, .int h7f10, .int h7f11]), (h12, aJ (k 1) 9 anJ), (h22, aJ (k 1) 900 anJ), (h38, aJ (k 1) 12000 anJ), (h39, aI (k 0) 400 anI), (h40, aI (k 0) 400 anI), (h41, aI (k 0) 400 anI), (h43, aI (k 0) 1024 anI), (h44, aI (k 0) 400 anI)]) hx hb hml hown hU hK hT rfl rfl [7, 8, 9, 0, 11, 13, 1, 2, 3, 4, 5, 6] rfl (by decide) (cX10_areApartBy_bc843 l D k _ h0 h1 h5 h7 h12 h22 h38 h39 h40 h41 h43 h44 h2 h3 h4 h6 h8 h9 h10 h11 h13 h14 h23 h24 h25 h26 h27 h28 h29 h42 h45 x1 h0f2 v13 h0f8 h0f11 h1f0 h1f1 h1f2 v14 v15 v16 v17 h7f8 h7f9 h7f10 h7f11 (by omega) (by omega) (by omega) (by omega) (by omega) (by omega) (by omega) (by omega) (by omega) (by omega) (by omega) (by omega) (by omega) (by omega) (by omega)) w680 w677 w679 w23 w63 hdX10_areApartBy ⟨rfl, rfl⟩ ⟨Nat.le_of_ble_eq_true rfl, Nat.le_of_ble_eq_true rfl⟩ rfl hl.1 (Nat.le_of_ble_eq_true rfl) dX10_faithful_15 ⟨Nat.le_of_ble_eq_true rfl, Nat.le_of_ble_eq_true rfl⟩) hT hS hA [7, 8, 9, 0, 11, 13, 1, 2, 3, 4, 5, 6] [10, 12, 14, 15, 16, 17, 18, 19, 20] rfl rfl rfl (by decide) (by decide) (fun r19 H locs hB J hS => ?_)
    obtain ⟨v20, v21, b_v20, b_v21, b_r19, hT1⟩ := hB
    have hT := J _ hT1
    have hT : TP D A [(h9, ob 2 [.ref h1, .int v18]), (h14, aJ (k 1) 36 anJ), (h23, aI (k 0) 100 anI), (h24, aI (k 0) 100 anI), (h25, aI (k 0) 100 anI), (h26, aI (k 0) 400 anI), (h27, aI (k 0) 256 (rgI (-1) 99)), (h28, aI (k 0) 100 (rgI (-1) 99)), (h29, aJ (k 1) 60 anJ), (h0, ob 7 [.ref h1, .ref h2, .int h0f2, .ref h3, .ref h4, .ref h5, .int v13, .ref h6, .int h0f8, .ref h7, .ref h8, .int h0f11, .ref h9, .ref h10, .ref h11, .ref h12, .ref h13]), (h1, ob 4 [.int h1f0, .int h1f1, .int h1f2, .ref h14]), (h5, ob 3 [.ref h22, .ref h23, .ref h24, .ref h25, .ref h26, .ref h27, .ref h28, .ref h29, .int v14, .int v15, .int v16, .int v17]), (h7, ob 3 [.ref h38, .ref h39, .ref h40, .ref h41, .ref h42, .ref h43, .ref h44, .ref h45, .int v20, .int 400, .int v21, .int 0]), (h12, aJ (k 1) 9 anJ), (h22, aJ (k 1) 900 anJ), (h38, aJ (k 1) 12000 anJ), (h39, aI (k 0) 400 anI), (h40, aI (k 0) 400 anI), (h41, aI (k 0) 400 anI), (h43, aI (k 0) 1024 anI), (h44, aI (k 0) 400 anI)] _ := hT
    refine lv_if_eq (tgt := 25) hx hb dX10_faithful_18 (by decide) (fun c_22 => ?_) (fun c_22 => ?_)
    · skip
      have c_22 := ni_eq c_22 rfl li_0
      refine lv_iconst (v := 0) hx hb dX10_faithful_25 (by decide) ?_
      exact tz_retI (B := B_cX10_faithful_3fec0 D k h0 h1 h5 h7 h9 h12 h14 h22 h23 h24 h25 h26 h27 h28 h29 h38 h39 h40 h41 h43 h44 h2 h3 h4 h6 h8 h10 h11 h13 h42 h45 x1 h0f2 h0f6 h0f8 h0f11 h1f0 h1f1 h1f2 h5f8 h5f9 h5f10 h5f11 h7f8 h7f9 h7f10 h7f11 h9f1) (v := 0) hQ hx hb hr hlocks hS (Nat.le_of_ble_eq_true rfl) (Nat.le_of_ble_eq_true rfl) dX10_faithful_26 (⟨v13, v14, v15, v16, v17, v20, 400, v21, 0, v18, (by have := li_400; have := li_0; omega), (by have := li_400; have := li_0; omega), (by have := li_400; have := li_0; omega), (by have := li_400; have := li_0; omega), (by have := li_400; have := li_0; omega), (by have := li_400; have := li_0; omega), (by have := li_400; have := li_0; omega), (by have := li_400; have := li_0; omega), (by have := li_400; have := li_0; omega), (by have := li_400; have := li_0; omega), (by have := li_400; have := li_0; omega), (hT.sub [9, 10, 11, 12, 0, 13, 1, 14, 2, 3, 4, 5, 6, 7, 8, 15, 16, 17, 18, 19, 20] (by decide) rfl)⟩)
    · skip
      have c_22 := ni_ne c_22 rfl li_0
      refine lv_iconst (v := 1) hx hb dX10_faithful_21 (by decide) ?_
      refine lv_goto (tgt := 26) hx hb dX10_faithful_22 (by decide) ?_
      exact tz_retI (B := B_cX10_faithful_3fec0 D k h0 h1 h5 h7 h9 h12 h14 h22 h23 h24 h25 h26 h27 h28 h29 h38 h39 h40 h41 h43 h44 h2 h3 h4 h6 h8 h10 h11 h13 h42 h45 x1 h0f2 h0f6 h0f8 h0f11 h1f0 h1f1 h1f2 h5f8 h5f9 h5f10 h5f11 h7f8 h7f9 h7f10 h7f11 h9f1) (v := 1) hQ hx hb hr hlocks hS (Nat.le_of_ble_eq_true rfl) (Nat.le_of_ble_eq_true rfl) dX10_faithful_26 (⟨v13, v14, v15, v16, v17, v20, 400, v21, 0, v18, (by have := li_400; have := li_0; have := li_1; omega), (by have := li_400; have := li_0; have := li_1; omega), (by have := li_400; have := li_0; have := li_1; omega), (by have := li_400; have := li_0; have := li_1; omega), (by have := li_400; have := li_0; have := li_1; omega), (by have := li_400; have := li_0; have := li_1; omega), (by have := li_400; have := li_0; have := li_1; omega), (by have := li_400; have := li_0; have := li_1; omega), (by have := li_400; have := li_0; have := li_1; omega), (by have := li_400; have := li_0; have := li_1; omega), (by have := li_400; have := li_0; have := li_1; omega), (hT.sub [9, 10, 11, 12, 0, 13, 1, 14, 2, 3, 4, 5, 6, 7, 8, 15, 16, 17, 18, 19, 20] (by decide) rfl)⟩)
  · skip
    have hT := J _ hT1
    have hT : TP D A [(h0, ob 7 [.ref h1, .ref h2, .int h0f2, .ref h3, .ref h4, .ref h5, .int h0f6, .ref h6, .int h0f8, .ref h7, .ref h8, .int h0f11, .ref h9, .ref h10, .ref h11, .ref h12, .ref h13]), (h1, ob 4 [.int h1f0, .int h1f1, .int h1f2, .ref h14]), (h5, ob 3 [.ref h22, .ref h23, .ref h24, .ref h25, .ref h26, .ref h27, .ref h28, .ref h29, .int h5f8, .int h5f9, .int h5f10, .int h5f11]), (h7, ob 3 [.ref h38, .ref h39, .ref h40, .ref h41, .ref h42, .ref h43, .ref h44, .ref h45, .int h7f8, .int h7f9, .int h7f10, .int h7f11]), (h9, ob 2 [.ref h1, .int h9f1]), (h12, aJ (k 1) 9 anJ), (h14, aJ (k 1) 36 anJ), (h22, aJ (k 1) 900 anJ), (h23, aI (k 0) 100 anI), (h24, aI (k 0) 100 anI), (h25, aI (k 0) 100 anI), (h26, aI (k 0) 400 anI), (h27, aI (k 0) 256 (rgI (-1) 99)), (h28, aI (k 0) 100 (rgI (-1) 99)), (h29, aJ (k 1) 60 anJ), (h38, aJ (k 1) 12000 anJ), (h39, aI (k 0) 400 anI), (h40, aI (k 0) 400 anI), (h41, aI (k 0) 400 anI), (h43, aI (k 0) 1024 anI), (h44, aI (k 0) 400 anI)] _ := hT
    refine lv_if_ne (tgt := 9) hx hb dX10_faithful_4 (by decide) (fun _ => ?_) (fun cc => absurd cc (by decide +kernel))
    refine lv_aload_n hx hb dX10_faithful_9 rfl (lv_at hl 0 rfl) ?_
    refine tcV (Tc := [(h0, ob 7 [.ref h1, .ref h2, .int h0f2, .ref h3, .ref h4, .ref h5, .int h0f6, .ref h6, .int h0f8, .ref h7, .ref h8, .int h0f11, .ref h9, .ref h10, .ref h11, .ref h12, .ref h13]), (h1, ob 4 [.int h1f0, .int h1f1, .int h1f2, .ref h14]), (h5, ob 3 [.ref h22, .ref h23, .ref h24, .ref h25, .ref h26, .ref h27, .ref h28, .ref h29, .int h5f8, .int h5f9, .int h5f10, .int h5f11]), (h9, ob 2 [.ref h1, .int h9f1]), (h12, aJ (k 1) 9 anJ), (h14, aJ (k 1) 36 anJ), (h22, aJ (k 1) 900 anJ), (h23, aI (k 0) 100 anI), (h24, aI (k 0) 100 anI), (h25, aI (k 0) 100 anI), (h26, aI (k 0) 400 anI), (h27, aI (k 0) 256 (rgI (-1) 99)), (h28, aI (k 0) 100 (rgI (-1) 99)), (h29, aJ (k 1) 60 anJ)]) (Tr := [(h7, ob 3 [.ref h38, .ref h39, .ref h40, .ref h41, .ref h42, .ref h43, .ref h44, .ref h45, .int h7f8, .int h7f9, .int h7f10, .int h7f11]), (h38, aJ (k 1) 12000 anJ), (h39, aI (k 0) 400 anI), (h40, aI (k 0) 400 anI), (h41, aI (k 0) 400 anI), (h43, aI (k 0) 1024 anI), (h44, aI (k 0) 400 anI)]) (as := [h0, h1, h5, h9, h12, h14, h22, h23, h24, h25, h26, h27, h28, h29]) (zcV (q0 := 0) (ci := 7) (As := []) (rest := []) (Tc := [(h0, ob 7 [.ref h1, .ref h2, .int h0f2, .ref h3, .ref h4, .ref h5, .int h0f6, .ref h6, .int h0f8, .ref h7, .ref h8, .int h0f11, .ref h9, .ref h10, .ref h11, .ref h12, .ref h13]), (h1, ob 4 [.int h1f0, .int h1f1, .int h1f2, .ref h14]), (h5, ob 3 [.ref h22, .ref h23, .ref h24, .ref h25, .ref h26, .ref h27, .ref h28, .ref h29, .int h5f8, .int h5f9, .int h5f10, .int h5f11]), (h9, ob 2 [.ref h1, .int h9f1]), (h12, aJ (k 1) 9 anJ), (h14, aJ (k 1) 36 anJ), (h22, aJ (k 1) 900 anJ), (h23, aI (k 0) 100 anI), (h24, aI (k 0) 100 anI), (h25, aI (k 0) 100 anI), (h26, aI (k 0) 400 anI), (h27, aI (k 0) 256 (rgI (-1) 99)), (h28, aI (k 0) 100 (rgI (-1) 99)), (h29, aJ (k 1) 60 anJ)]) hx hb hml hown hU hK hT rfl rfl [0, 1, 2, 4, 5, 6, 7, 8, 9, 10, 11, 12, 13, 14] rfl (by decide) (cX10_listAll_d24ec l D k _ h0 h1 h5 h9 h12 h14 h22 h23 h24 h25 h26 h27 h28 h29 h2 h3 h4 h6 h7 h8 h10 h11 h13 h0f2 h0f6 h0f8 h0f11 h1f0 h1f1 h1f2 h5f8 h5f9 h5f10 h5f11 h9f1 (by omega) (by omega) (by omega) (by omega) (by omega) (by omega) (by omega) (by omega) (by omega) (by omega) (by omega)) w492 w489 w491 w10 w63 hdX10_listAll ⟨rfl, rfl⟩ ⟨Nat.le_of_ble_eq_true rfl, Nat.le_of_ble_eq_true rfl⟩ rfl hl.1 (Nat.le_of_ble_eq_true rfl) dX10_faithful_10 ⟨Nat.le_of_ble_eq_true rfl, Nat.le_of_ble_eq_true rfl⟩) hT hS hA [0, 1, 2, 4, 5, 6, 7, 8, 9, 10, 11, 12, 13, 14] [3, 15, 16, 17, 18, 19, 20] rfl rfl rfl (by decide) (by decide) (fun H locs hB J hS => ?_)
    obtain ⟨v24, v25, v26, v27, v28, v29, b_v24, b_v25, b_v26, b_v27, b_v28, b_v29, hT1⟩ := hB
    have hT := J _ hT1
    have hT : TP D A [(h7, ob 3 [.ref h38, .ref h39, .ref h40, .ref h41, .ref h42, .ref h43, .ref h44, .ref h45, .int h7f8, .int h7f9, .int h7f10, .int h7f11]), (h38, aJ (k 1) 12000 anJ), (h39, aI (k 0) 400 anI), (h40, aI (k 0) 400 anI), (h41, aI (k 0) 400 anI), (h43, aI (k 0) 1024 anI), (h44, aI (k 0) 400 anI), (h0, ob 7 [.ref h1, .ref h2, .int h0f2, .ref h3, .ref h4, .ref h5, .int v24, .ref h6, .int h0f8, .ref h7, .ref h8, .int h0f11, .ref h9, .ref h10, .ref h11, .ref h12, .ref h13]), (h1, ob 4 [.int h1f0, .int h1f1, .int h1f2, .ref h14]), (h5, ob 3 [.ref h22, .ref h23, .ref h24, .ref h25, .ref h26, .ref h27, .ref h28, .ref h29, .int v25, .int v26, .int v27, .int v28]), (h9, ob 2 [.ref h1, .int v29]), (h12, aJ (k 1) 9 anJ), (h14, aJ (k 1) 36 anJ), (h22, aJ (k 1) 900 anJ), (h23, aI (k 0) 100 anI), (h24, aI (k 0) 100 anI), (h25, aI (k 0) 100 anI), (h26, aI (k 0) 400 anI), (h27, aI (k 0) 256 (rgI (-1) 99)), (h28, aI (k 0) 100 (rgI (-1) 99)), (h29, aJ (k 1) 60 anJ)] _ := hT
    refine lv_aload_n hx hb dX10_faithful_13 rfl (lv_at hl 0 rfl) ?_
    refine lv_iload_n hx hb dX10_faithful_14 rfl (lv_at hl 1 rfl) ?_
    refine tcI (Tc := [(h0, ob 7 [.ref h1, .ref h2, .int h0f2, .ref h3, .ref h4, .ref h5, .int v24, .ref h6, .int h0f8, .ref h7, .ref h8, .int h0f11, .ref h9, .ref h10, .ref h11, .ref h12, .ref h13]), (h1, ob 4 [.int h1f0, .int h1f1, .int h1f2, .ref h14]), (h5, ob 3 [.ref h22, .ref h23, .ref h24, .ref h25, .ref h26, .ref h27, .ref h28, .ref h29, .int v25, .int v26, .int v27, .int v28]), (h7, ob 3 [.ref h38, .ref h39, .ref h40, .ref h41, .ref h42, .ref h43, .ref h44, .ref h45, .int h7f8, .int h7f9, .int h7f10, .int h7f11]), (h12, aJ (k 1) 9 anJ), (h22, aJ (k 1) 900 anJ), (h38, aJ (k 1) 12000 anJ), (h39, aI (k 0) 400 anI), (h40, aI (k 0) 400 anI), (h41, aI (k 0) 400 anI), (h43, aI (k 0) 1024 anI), (h44, aI (k 0) 400 anI)]) (Tr := [(h9, ob 2 [.ref h1, .int v29]), (h14, aJ (k 1) 36 anJ), (h23, aI (k 0) 100 anI), (h24, aI (k 0) 100 anI), (h25, aI (k 0) 100 anI), (h26, aI (k 0) 400 anI), (h27, aI (k 0) 256 (rgI (-1) 99)), (h28, aI (k 0) 100 (rgI (-1) 99)), (h29, aJ (k 1) 60 anJ)]) (as := [h0, h1, h5, h7, h12, h22, h38, h39, h40, h41, h43, h44]) (zcV (q0 := 7) (ci := 7) (As := [.int x1]) (rest := []) (Tc := [(h0, ob 7 [.ref h1, .ref h2, .int h0f2, .ref h3, .ref h4, .ref h5, .int v24, .ref h6, .int h0f8, .ref h7, .ref h8, .int h0f11, .ref h9, .ref h10, .ref h11, .ref h12, .ref h13]), (h1, ob 4 [.int h1f0, .int h1f1, .int h1f2, .ref h14]), (h5, ob 3 [.ref h22, .ref h23, .ref h24, .ref h25, .ref h26, .ref h27, .ref h28, .ref h29, .int v25, .int v26, .int v27, .int v28]), (h7, ob 3 [.ref h38, .ref h39, .ref h40, .ref h41, .ref h42, .ref h43, .ref h44, .ref h45, .int h7f8, .int h7f9, .int h7f10, .int h7f11]), (h12, aJ (k 1) 9 anJ), (h22, aJ (k 1) 900 anJ), (h38, aJ (k 1) 12000 anJ), (h39, aI (k 0) 400 anI), (h40, aI (k 0) 400 anI), (h41, aI (k 0) 400 anI), (h43, aI (k 0) 1024 anI), (h44, aI (k 0) 400 anI)]) hx hb hml hown hU hK hT rfl rfl [7, 8, 9, 0, 11, 13, 1, 2, 3, 4, 5, 6] rfl (by decide) (cX10_areApartBy_bc843 l D k _ h0 h1 h5 h7 h12 h22 h38 h39 h40 h41 h43 h44 h2 h3 h4 h6 h8 h9 h10 h11 h13 h14 h23 h24 h25 h26 h27 h28 h29 h42 h45 x1 h0f2 v24 h0f8 h0f11 h1f0 h1f1 h1f2 v25 v26 v27 v28 h7f8 h7f9 h7f10 h7f11 (by omega) (by omega) (by omega) (by omega) (by omega) (by omega) (by omega) (by omega) (by omega) (by omega) (by omega) (by omega) (by omega) (by omega) (by omega)) w680 w677 w679 w23 w63 hdX10_areApartBy ⟨rfl, rfl⟩ ⟨Nat.le_of_ble_eq_true rfl, Nat.le_of_ble_eq_true rfl⟩ rfl hl.1 (Nat.le_of_ble_eq_true rfl) dX10_faithful_15 ⟨Nat.le_of_ble_eq_true rfl, Nat.le_of_ble_eq_true rfl⟩) hT hS hA [7, 8, 9, 0, 11, 13, 1, 2, 3, 4, 5, 6] [10, 12, 14, 15, 16, 17, 18, 19, 20] rfl rfl rfl (by decide) (by decide) (fun r30 H locs hB J hS => ?_)
    obtain ⟨v31, v32, b_v31, b_v32, b_r30, hT1⟩ := hB
    have hT := J _ hT1
    have hT : TP D A [(h9, ob 2 [.ref h1, .int v29]), (h14, aJ (k 1) 36 anJ), (h23, aI (k 0) 100 anI), (h24, aI (k 0) 100 anI), (h25, aI (k 0) 100 anI), (h26, aI (k 0) 400 anI), (h27, aI (k 0) 256 (rgI (-1) 99)), (h28, aI (k 0) 100 (rgI (-1) 99)), (h29, aJ (k 1) 60 anJ), (h0, ob 7 [.ref h1, .ref h2, .int h0f2, .ref h3, .ref h4, .ref h5, .int v24, .ref h6, .int h0f8, .ref h7, .ref h8, .int h0f11, .ref h9, .ref h10, .ref h11, .ref h12, .ref h13]), (h1, ob 4 [.int h1f0, .int h1f1, .int h1f2, .ref h14]), (h5, ob 3 [.ref h22, .ref h23, .ref h24, .ref h25, .ref h26, .ref h27, .ref h28, .ref h29, .int v25, .int v26, .int v27, .int v28]), (h7, ob 3 [.ref h38, .ref h39, .ref h40, .ref h41, .ref h42, .ref h43, .ref h44, .ref h45, .int v31, .int 400, .int v32, .int 0]), (h12, aJ (k 1) 9 anJ), (h22, aJ (k 1) 900 anJ), (h38, aJ (k 1) 12000 anJ), (h39, aI (k 0) 400 anI), (h40, aI (k 0) 400 anI), (h41, aI (k 0) 400 anI), (h43, aI (k 0) 1024 anI), (h44, aI (k 0) 400 anI)] _ := hT
    refine lv_if_eq (tgt := 25) hx hb dX10_faithful_18 (by decide) (fun c_33 => ?_) (fun c_33 => ?_)
    · skip
      have c_33 := ni_eq c_33 rfl li_0
      refine lv_iconst (v := 0) hx hb dX10_faithful_25 (by decide) ?_
      exact tz_retI (B := B_cX10_faithful_3fec0 D k h0 h1 h5 h7 h9 h12 h14 h22 h23 h24 h25 h26 h27 h28 h29 h38 h39 h40 h41 h43 h44 h2 h3 h4 h6 h8 h10 h11 h13 h42 h45 x1 h0f2 h0f6 h0f8 h0f11 h1f0 h1f1 h1f2 h5f8 h5f9 h5f10 h5f11 h7f8 h7f9 h7f10 h7f11 h9f1) (v := 0) hQ hx hb hr hlocks hS (Nat.le_of_ble_eq_true rfl) (Nat.le_of_ble_eq_true rfl) dX10_faithful_26 (⟨v24, v25, v26, v27, v28, v31, 400, v32, 0, v29, (by have := li_400; have := li_0; omega), (by have := li_400; have := li_0; omega), (by have := li_400; have := li_0; omega), (by have := li_400; have := li_0; omega), (by have := li_400; have := li_0; omega), (by have := li_400; have := li_0; omega), (by have := li_400; have := li_0; omega), (by have := li_400; have := li_0; omega), (by have := li_400; have := li_0; omega), (by have := li_400; have := li_0; omega), (by have := li_400; have := li_0; omega), (hT.sub [9, 10, 11, 12, 0, 13, 1, 14, 2, 3, 4, 5, 6, 7, 8, 15, 16, 17, 18, 19, 20] (by decide) rfl)⟩)
    · skip
      have c_33 := ni_ne c_33 rfl li_0
      refine lv_iconst (v := 1) hx hb dX10_faithful_21 (by decide) ?_
      refine lv_goto (tgt := 26) hx hb dX10_faithful_22 (by decide) ?_
      exact tz_retI (B := B_cX10_faithful_3fec0 D k h0 h1 h5 h7 h9 h12 h14 h22 h23 h24 h25 h26 h27 h28 h29 h38 h39 h40 h41 h43 h44 h2 h3 h4 h6 h8 h10 h11 h13 h42 h45 x1 h0f2 h0f6 h0f8 h0f11 h1f0 h1f1 h1f2 h5f8 h5f9 h5f10 h5f11 h7f8 h7f9 h7f10 h7f11 h9f1) (v := 1) hQ hx hb hr hlocks hS (Nat.le_of_ble_eq_true rfl) (Nat.le_of_ble_eq_true rfl) dX10_faithful_26 (⟨v24, v25, v26, v27, v28, v31, 400, v32, 0, v29, (by have := li_400; have := li_0; have := li_1; omega), (by have := li_400; have := li_0; have := li_1; omega), (by have := li_400; have := li_0; have := li_1; omega), (by have := li_400; have := li_0; have := li_1; omega), (by have := li_400; have := li_0; have := li_1; omega), (by have := li_400; have := li_0; have := li_1; omega), (by have := li_400; have := li_0; have := li_1; omega), (by have := li_400; have := li_0; have := li_1; omega), (by have := li_400; have := li_0; have := li_1; omega), (by have := li_400; have := li_0; have := li_1; omega), (by have := li_400; have := li_0; have := li_1; omega), (hT.sub [9, 10, 11, 12, 0, 13, 1, 14, 2, 3, 4, 5, 6, 7, 8, 15, 16, 17, 18, 19, 20] (by decide) rfl)⟩)
  · skip
    have hT := J _ hT1
    have hT : TP D A [(h0, ob 7 [.ref h1, .ref h2, .int h0f2, .ref h3, .ref h4, .ref h5, .int h0f6, .ref h6, .int h0f8, .ref h7, .ref h8, .int h0f11, .ref h9, .ref h10, .ref h11, .ref h12, .ref h13]), (h1, ob 4 [.int h1f0, .int h1f1, .int h1f2, .ref h14]), (h5, ob 3 [.ref h22, .ref h23, .ref h24, .ref h25, .ref h26, .ref h27, .ref h28, .ref h29, .int h5f8, .int h5f9, .int h5f10, .int h5f11]), (h7, ob 3 [.ref h38, .ref h39, .ref h40, .ref h41, .ref h42, .ref h43, .ref h44, .ref h45, .int h7f8, .int h7f9, .int h7f10, .int h7f11]), (h9, ob 2 [.ref h1, .int h9f1]), (h12, aJ (k 1) 9 anJ), (h14, aJ (k 1) 36 anJ), (h22, aJ (k 1) 900 anJ), (h23, aI (k 0) 100 anI), (h24, aI (k 0) 100 anI), (h25, aI (k 0) 100 anI), (h26, aI (k 0) 400 anI), (h27, aI (k 0) 256 (rgI (-1) 99)), (h28, aI (k 0) 100 (rgI (-1) 99)), (h29, aJ (k 1) 60 anJ), (h38, aJ (k 1) 12000 anJ), (h39, aI (k 0) 400 anI), (h40, aI (k 0) 400 anI), (h41, aI (k 0) 400 anI), (h43, aI (k 0) 1024 anI), (h44, aI (k 0) 400 anI)] _ := hT
    refine lv_if_ne (tgt := 9) hx hb dX10_faithful_4 (by decide) (fun _ => ?_) (fun cc => absurd cc (by decide +kernel))
    refine lv_aload_n hx hb dX10_faithful_9 rfl (lv_at hl 0 rfl) ?_
    refine tcV (Tc := [(h0, ob 7 [.ref h1, .ref h2, .int h0f2, .ref h3, .ref h4, .ref h5, .int h0f6, .ref h6, .int h0f8, .ref h7, .ref h8, .int h0f11, .ref h9, .ref h10, .ref h11, .ref h12, .ref h13]), (h1, ob 4 [.int h1f0, .int h1f1, .int h1f2, .ref h14]), (h5, ob 3 [.ref h22, .ref h23, .ref h24, .ref h25, .ref h26, .ref h27, .ref h28, .ref h29, .int h5f8, .int h5f9, .int h5f10, .int h5f11]), (h9, ob 2 [.ref h1, .int h9f1]), (h12, aJ (k 1) 9 anJ), (h14, aJ (k 1) 36 anJ), (h22, aJ (k 1) 900 anJ), (h23, aI (k 0) 100 anI), (h24, aI (k 0) 100 anI), (h25, aI (k 0) 100 anI), (h26, aI (k 0) 400 anI), (h27, aI (k 0) 256 (rgI (-1) 99)), (h28, aI (k 0) 100 (rgI (-1) 99)), (h29, aJ (k 1) 60 anJ)]) (Tr := [(h7, ob 3 [.ref h38, .ref h39, .ref h40, .ref h41, .ref h42, .ref h43, .ref h44, .ref h45, .int h7f8, .int h7f9, .int h7f10, .int h7f11]), (h38, aJ (k 1) 12000 anJ), (h39, aI (k 0) 400 anI), (h40, aI (k 0) 400 anI), (h41, aI (k 0) 400 anI), (h43, aI (k 0) 1024 anI), (h44, aI (k 0) 400 anI)]) (as := [h0, h1, h5, h9, h12, h14, h22, h23, h24, h25, h26, h27, h28, h29]) (zcV (q0 := 0) (ci := 7) (As := []) (rest := []) (Tc := [(h0, ob 7 [.ref h1, .ref h2, .int h0f2, .ref h3, .ref h4, .ref h5, .int h0f6, .ref h6, .int h0f8, .ref h7, .ref h8, .int h0f11, .ref h9, .ref h10, .ref h11, .ref h12, .ref h13]), (h1, ob 4 [.int h1f0, .int h1f1, .int h1f2, .ref h14]), (h5, ob 3 [.ref h22, .ref h23, .ref h24, .ref h25, .ref h26, .ref h27, .ref h28, .ref h29, .int h5f8, .int h5f9, .int h5f10, .int h5f11]), (h9, ob 2 [.ref h1, .int h9f1]), (h12, aJ (k 1) 9 anJ), (h14, aJ (k 1) 36 anJ), (h22, aJ (k 1) 900 anJ), (h23, aI (k 0) 100 anI), (h24, aI (k 0) 100 anI), (h25, aI (k 0) 100 anI), (h26, aI (k 0) 400 anI), (h27, aI (k 0) 256 (rgI (-1) 99)), (h28, aI (k 0) 100 (rgI (-1) 99)), (h29, aJ (k 1) 60 anJ)]) hx hb hml hown hU hK hT rfl rfl [0, 1, 2, 4, 5, 6, 7, 8, 9, 10, 11, 12, 13, 14] rfl (by decide) (cX10_listAll_d24ec l D k _ h0 h1 h5 h9 h12 h14 h22 h23 h24 h25 h26 h27 h28 h29 h2 h3 h4 h6 h7 h8 h10 h11 h13 h0f2 h0f6 h0f8 h0f11 h1f0 h1f1 h1f2 h5f8 h5f9 h5f10 h5f11 h9f1 (by omega) (by omega) (by omega) (by omega) (by omega) (by omega) (by omega) (by omega) (by omega) (by omega) (by omega)) w492 w489 w491 w10 w63 hdX10_listAll ⟨rfl, rfl⟩ ⟨Nat.le_of_ble_eq_true rfl, Nat.le_of_ble_eq_true rfl⟩ rfl hl.1 (Nat.le_of_ble_eq_true rfl) dX10_faithful_10 ⟨Nat.le_of_ble_eq_true rfl, Nat.le_of_ble_eq_true rfl⟩) hT hS hA [0, 1, 2, 4, 5, 6, 7, 8, 9, 10, 11, 12, 13, 14] [3, 15, 16, 17, 18, 19, 20] rfl rfl rfl (by decide) (by decide) (fun H locs hB J hS => ?_)
    obtain ⟨v35, v36, v37, v38, v39, v40, b_v35, b_v36, b_v37, b_v38, b_v39, b_v40, hT1⟩ := hB
    have hT := J _ hT1
    have hT : TP D A [(h7, ob 3 [.ref h38, .ref h39, .ref h40, .ref h41, .ref h42, .ref h43, .ref h44, .ref h45, .int h7f8, .int h7f9, .int h7f10, .int h7f11]), (h38, aJ (k 1) 12000 anJ), (h39, aI (k 0) 400 anI), (h40, aI (k 0) 400 anI), (h41, aI (k 0) 400 anI), (h43, aI (k 0) 1024 anI), (h44, aI (k 0) 400 anI), (h0, ob 7 [.ref h1, .ref h2, .int h0f2, .ref h3, .ref h4, .ref h5, .int v35, .ref h6, .int h0f8, .ref h7, .ref h8, .int h0f11, .ref h9, .ref h10, .ref h11, .ref h12, .ref h13]), (h1, ob 4 [.int h1f0, .int h1f1, .int h1f2, .ref h14]), (h5, ob 3 [.ref h22, .ref h23, .ref h24, .ref h25, .ref h26, .ref h27, .ref h28, .ref h29, .int v36, .int v37, .int v38, .int v39]), (h9, ob 2 [.ref h1, .int v40]), (h12, aJ (k 1) 9 anJ), (h14, aJ (k 1) 36 anJ), (h22, aJ (k 1) 900 anJ), (h23, aI (k 0) 100 anI), (h24, aI (k 0) 100 anI), (h25, aI (k 0) 100 anI), (h26, aI (k 0) 400 anI), (h27, aI (k 0) 256 (rgI (-1) 99)), (h28, aI (k 0) 100 (rgI (-1) 99)), (h29, aJ (k 1) 60 anJ)] _ := hT
    refine lv_aload_n hx hb dX10_faithful_13 rfl (lv_at hl 0 rfl) ?_
    refine lv_iload_n hx hb dX10_faithful_14 rfl (lv_at hl 1 rfl) ?_
    refine tcI (Tc := [(h0, ob 7 [.ref h1, .ref h2, .int h0f2, .ref h3, .ref h4, .ref h5, .int v35, .ref h6, .int h0f8, .ref h7, .ref h8, .int h0f11, .ref h9, .ref h10, .ref h11, .ref h12, .ref h13]), (h1, ob 4 [.int h1f0, .int h1f1, .int h1f2, .ref h14]), (h5, ob 3 [.ref h22, .ref h23, .ref h24, .ref h25, .ref h26, .ref h27, .ref h28, .ref h29, .int v36, .int v37, .int v38, .int v39]), (h7, ob 3 [.ref h38, .ref h39, .ref h40, .ref h41, .ref h42, .ref h43, .ref h44, .ref h45, .int h7f8, .int h7f9, .int h7f10, .int h7f11]), (h12, aJ (k 1) 9 anJ), (h22, aJ (k 1) 900 anJ), (h38, aJ (k 1) 12000 anJ), (h39, aI (k 0) 400 anI), (h40, aI (k 0) 400 anI), (h41, aI (k 0) 400 anI), (h43, aI (k 0) 1024 anI), (h44, aI (k 0) 400 anI)]) (Tr := [(h9, ob 2 [.ref h1, .int v40]), (h14, aJ (k 1) 36 anJ), (h23, aI (k 0) 100 anI), (h24, aI (k 0) 100 anI), (h25, aI (k 0) 100 anI), (h26, aI (k 0) 400 anI), (h27, aI (k 0) 256 (rgI (-1) 99)), (h28, aI (k 0) 100 (rgI (-1) 99)), (h29, aJ (k 1) 60 anJ)]) (as := [h0, h1, h5, h7, h12, h22, h38, h39, h40, h41, h43, h44]) (zcV (q0 := 7) (ci := 7) (As := [.int x1]) (rest := []) (Tc := [(h0, ob 7 [.ref h1, .ref h2, .int h0f2, .ref h3, .ref h4, .ref h5, .int v35, .ref h6, .int h0f8, .ref h7, .ref h8, .int h0f11, .ref h9, .ref h10, .ref h11, .ref h12, .ref h13]), (h1, ob 4 [.int h1f0, .int h1f1, .int h1f2, .ref h14]), (h5, ob 3 [.ref h22, .ref h23, .ref h24, .ref h25, .ref h26, .ref h27, .ref h28, .ref h29, .int v36, .int v37, .int v38, .int v39]), (h7, ob 3 [.ref h38, .ref h39, .ref h40, .ref h41, .ref h42, .ref h43, .ref h44, .ref h45, .int h7f8, .int h7f9, .int h7f10, .int h7f11]), (h12, aJ (k 1) 9 anJ), (h22, aJ (k 1) 900 anJ), (h38, aJ (k 1) 12000 anJ), (h39, aI (k 0) 400 anI), (h40, aI (k 0) 400 anI), (h41, aI (k 0) 400 anI), (h43, aI (k 0) 1024 anI), (h44, aI (k 0) 400 anI)]) hx hb hml hown hU hK hT rfl rfl [7, 8, 9, 0, 11, 13, 1, 2, 3, 4, 5, 6] rfl (by decide) (cX10_areApartBy_bc843 l D k _ h0 h1 h5 h7 h12 h22 h38 h39 h40 h41 h43 h44 h2 h3 h4 h6 h8 h9 h10 h11 h13 h14 h23 h24 h25 h26 h27 h28 h29 h42 h45 x1 h0f2 v35 h0f8 h0f11 h1f0 h1f1 h1f2 v36 v37 v38 v39 h7f8 h7f9 h7f10 h7f11 (by omega) (by omega) (by omega) (by omega) (by omega) (by omega) (by omega) (by omega) (by omega) (by omega) (by omega) (by omega) (by omega) (by omega) (by omega)) w680 w677 w679 w23 w63 hdX10_areApartBy ⟨rfl, rfl⟩ ⟨Nat.le_of_ble_eq_true rfl, Nat.le_of_ble_eq_true rfl⟩ rfl hl.1 (Nat.le_of_ble_eq_true rfl) dX10_faithful_15 ⟨Nat.le_of_ble_eq_true rfl, Nat.le_of_ble_eq_true rfl⟩) hT hS hA [7, 8, 9, 0, 11, 13, 1, 2, 3, 4, 5, 6] [10, 12, 14, 15, 16, 17, 18, 19, 20] rfl rfl rfl (by decide) (by decide) (fun r41 H locs hB J hS => ?_)
    obtain ⟨v42, v43, b_v42, b_v43, b_r41, hT1⟩ := hB
    have hT := J _ hT1
    have hT : TP D A [(h9, ob 2 [.ref h1, .int v40]), (h14, aJ (k 1) 36 anJ), (h23, aI (k 0) 100 anI), (h24, aI (k 0) 100 anI), (h25, aI (k 0) 100 anI), (h26, aI (k 0) 400 anI), (h27, aI (k 0) 256 (rgI (-1) 99)), (h28, aI (k 0) 100 (rgI (-1) 99)), (h29, aJ (k 1) 60 anJ), (h0, ob 7 [.ref h1, .ref h2, .int h0f2, .ref h3, .ref h4, .ref h5, .int v35, .ref h6, .int h0f8, .ref h7, .ref h8, .int h0f11, .ref h9, .ref h10, .ref h11, .ref h12, .ref h13]), (h1, ob 4 [.int h1f0, .int h1f1, .int h1f2, .ref h14]), (h5, ob 3 [.ref h22, .ref h23, .ref h24, .ref h25, .ref h26, .ref h27, .ref h28, .ref h29, .int v36, .int v37, .int v38, .int v39]), (h7, ob 3 [.ref h38, .ref h39, .ref h40, .ref h41, .ref h42, .ref h43, .ref h44, .ref h45, .int v42, .int 400, .int v43, .int 0]), (h12, aJ (k 1) 9 anJ), (h22, aJ (k 1) 900 anJ), (h38, aJ (k 1) 12000 anJ), (h39, aI (k 0) 400 anI), (h40, aI (k 0) 400 anI), (h41, aI (k 0) 400 anI), (h43, aI (k 0) 1024 anI), (h44, aI (k 0) 400 anI)] _ := hT
    refine lv_if_eq (tgt := 25) hx hb dX10_faithful_18 (by decide) (fun c_44 => ?_) (fun c_44 => ?_)
    · skip
      have c_44 := ni_eq c_44 rfl li_0
      refine lv_iconst (v := 0) hx hb dX10_faithful_25 (by decide) ?_
      exact tz_retI (B := B_cX10_faithful_3fec0 D k h0 h1 h5 h7 h9 h12 h14 h22 h23 h24 h25 h26 h27 h28 h29 h38 h39 h40 h41 h43 h44 h2 h3 h4 h6 h8 h10 h11 h13 h42 h45 x1 h0f2 h0f6 h0f8 h0f11 h1f0 h1f1 h1f2 h5f8 h5f9 h5f10 h5f11 h7f8 h7f9 h7f10 h7f11 h9f1) (v := 0) hQ hx hb hr hlocks hS (Nat.le_of_ble_eq_true rfl) (Nat.le_of_ble_eq_true rfl) dX10_faithful_26 (⟨v35, v36, v37, v38, v39, v42, 400, v43, 0, v40, (by have := li_400; have := li_0; omega), (by have := li_400; have := li_0; omega), (by have := li_400; have := li_0; omega), (by have := li_400; have := li_0; omega), (by have := li_400; have := li_0; omega), (by have := li_400; have := li_0; omega), (by have := li_400; have := li_0; omega), (by have := li_400; have := li_0; omega), (by have := li_400; have := li_0; omega), (by have := li_400; have := li_0; omega), (by have := li_400; have := li_0; omega), (hT.sub [9, 10, 11, 12, 0, 13, 1, 14, 2, 3, 4, 5, 6, 7, 8, 15, 16, 17, 18, 19, 20] (by decide) rfl)⟩)
    · skip
      have c_44 := ni_ne c_44 rfl li_0
      refine lv_iconst (v := 1) hx hb dX10_faithful_21 (by decide) ?_
      refine lv_goto (tgt := 26) hx hb dX10_faithful_22 (by decide) ?_
      exact tz_retI (B := B_cX10_faithful_3fec0 D k h0 h1 h5 h7 h9 h12 h14 h22 h23 h24 h25 h26 h27 h28 h29 h38 h39 h40 h41 h43 h44 h2 h3 h4 h6 h8 h10 h11 h13 h42 h45 x1 h0f2 h0f6 h0f8 h0f11 h1f0 h1f1 h1f2 h5f8 h5f9 h5f10 h5f11 h7f8 h7f9 h7f10 h7f11 h9f1) (v := 1) hQ hx hb hr hlocks hS (Nat.le_of_ble_eq_true rfl) (Nat.le_of_ble_eq_true rfl) dX10_faithful_26 (⟨v35, v36, v37, v38, v39, v42, 400, v43, 0, v40, (by have := li_400; have := li_0; have := li_1; omega), (by have := li_400; have := li_0; have := li_1; omega), (by have := li_400; have := li_0; have := li_1; omega), (by have := li_400; have := li_0; have := li_1; omega), (by have := li_400; have := li_0; have := li_1; omega), (by have := li_400; have := li_0; have := li_1; omega), (by have := li_400; have := li_0; have := li_1; omega), (by have := li_400; have := li_0; have := li_1; omega), (by have := li_400; have := li_0; have := li_1; omega), (by have := li_400; have := li_0; have := li_1; omega), (by have := li_400; have := li_0; have := li_1; omega), (hT.sub [9, 10, 11, 12, 0, 13, 1, 14, 2, 3, 4, 5, 6, 7, 8, 15, 16, 17, 18, 19, 20] (by decide) rfl)⟩)
  · skip
    have hT := J _ hT1
    have hT : TP D A [(h0, ob 7 [.ref h1, .ref h2, .int h0f2, .ref h3, .ref h4, .ref h5, .int h0f6, .ref h6, .int h0f8, .ref h7, .ref h8, .int h0f11, .ref h9, .ref h10, .ref h11, .ref h12, .ref h13]), (h1, ob 4 [.int h1f0, .int h1f1, .int h1f2, .ref h14]), (h5, ob 3 [.ref h22, .ref h23, .ref h24, .ref h25, .ref h26, .ref h27, .ref h28, .ref h29, .int h5f8, .int h5f9, .int h5f10, .int h5f11]), (h7, ob 3 [.ref h38, .ref h39, .ref h40, .ref h41, .ref h42, .ref h43, .ref h44, .ref h45, .int h7f8, .int h7f9, .int h7f10, .int h7f11]), (h9, ob 2 [.ref h1, .int h9f1]), (h12, aJ (k 1) 9 anJ), (h14, aJ (k 1) 36 anJ), (h22, aJ (k 1) 900 anJ), (h23, aI (k 0) 100 anI), (h24, aI (k 0) 100 anI), (h25, aI (k 0) 100 anI), (h26, aI (k 0) 400 anI), (h27, aI (k 0) 256 (rgI (-1) 99)), (h28, aI (k 0) 100 (rgI (-1) 99)), (h29, aJ (k 1) 60 anJ), (h38, aJ (k 1) 12000 anJ), (h39, aI (k 0) 400 anI), (h40, aI (k 0) 400 anI), (h41, aI (k 0) 400 anI), (h43, aI (k 0) 1024 anI), (h44, aI (k 0) 400 anI)] _ := hT
    refine lv_if_ne (tgt := 9) hx hb dX10_faithful_4 (by decide) (fun cc => absurd (by decide +kernel) cc) (fun _ => ?_)
    refine lv_iconst (v := (-1)) hx hb dX10_faithful_7 (by decide) ?_
    exact tz_retI (B := B_cX10_faithful_3fec0 D k h0 h1 h5 h7 h9 h12 h14 h22 h23 h24 h25 h26 h27 h28 h29 h38 h39 h40 h41 h43 h44 h2 h3 h4 h6 h8 h10 h11 h13 h42 h45 x1 h0f2 h0f6 h0f8 h0f11 h1f0 h1f1 h1f2 h5f8 h5f9 h5f10 h5f11 h7f8 h7f9 h7f10 h7f11 h9f1) (v := (-1)) hQ hx hb hr hlocks hS (Nat.le_of_ble_eq_true rfl) (Nat.le_of_ble_eq_true rfl) dX10_faithful_8 (⟨h0f6, h5f8, h5f9, h5f10, h5f11, h7f8, h7f9, h7f10, h7f11, h9f1, (by have := li_m1; omega), (by have := li_m1; omega), (by have := li_m1; omega), (by have := li_m1; omega), (by have := li_m1; omega), (by have := li_m1; omega), (by have := li_m1; omega), (by have := li_m1; omega), (by have := li_m1; omega), (by have := li_m1; omega), (by have := li_m1; omega), hT⟩)
  · skip
    have hT := J _ hT1
    have hT : TP D A [(h0, ob 7 [.ref h1, .ref h2, .int h0f2, .ref h3, .ref h4, .ref h5, .int h0f6, .ref h6, .int h0f8, .ref h7, .ref h8, .int h0f11, .ref h9, .ref h10, .ref h11, .ref h12, .ref h13]), (h1, ob 4 [.int h1f0, .int h1f1, .int h1f2, .ref h14]), (h5, ob 3 [.ref h22, .ref h23, .ref h24, .ref h25, .ref h26, .ref h27, .ref h28, .ref h29, .int h5f8, .int h5f9, .int h5f10, .int h5f11]), (h7, ob 3 [.ref h38, .ref h39, .ref h40, .ref h41, .ref h42, .ref h43, .ref h44, .ref h45, .int h7f8, .int h7f9, .int h7f10, .int h7f11]), (h9, ob 2 [.ref h1, .int h9f1]), (h12, aJ (k 1) 9 anJ), (h14, aJ (k 1) 36 anJ), (h22, aJ (k 1) 900 anJ), (h23, aI (k 0) 100 anI), (h24, aI (k 0) 100 anI), (h25, aI (k 0) 100 anI), (h26, aI (k 0) 400 anI), (h27, aI (k 0) 256 (rgI (-1) 99)), (h28, aI (k 0) 100 (rgI (-1) 99)), (h29, aJ (k 1) 60 anJ), (h38, aJ (k 1) 12000 anJ), (h39, aI (k 0) 400 anI), (h40, aI (k 0) 400 anI), (h41, aI (k 0) 400 anI), (h43, aI (k 0) 1024 anI), (h44, aI (k 0) 400 anI)] _ := hT
    refine lv_if_ne (tgt := 9) hx hb dX10_faithful_4 (by decide) (fun _ => ?_) (fun cc => absurd cc (by decide +kernel))
    refine lv_aload_n hx hb dX10_faithful_9 rfl (lv_at hl 0 rfl) ?_
    refine tcV (Tc := [(h0, ob 7 [.ref h1, .ref h2, .int h0f2, .ref h3, .ref h4, .ref h5, .int h0f6, .ref h6, .int h0f8, .ref h7, .ref h8, .int h0f11, .ref h9, .ref h10, .ref h11, .ref h12, .ref h13]), (h1, ob 4 [.int h1f0, .int h1f1, .int h1f2, .ref h14]), (h5, ob 3 [.ref h22, .ref h23, .ref h24, .ref h25, .ref h26, .ref h27, .ref h28, .ref h29, .int h5f8, .int h5f9, .int h5f10, .int h5f11]), (h9, ob 2 [.ref h1, .int h9f1]), (h12, aJ (k 1) 9 anJ), (h14, aJ (k 1) 36 anJ), (h22, aJ (k 1) 900 anJ), (h23, aI (k 0) 100 anI), (h24, aI (k 0) 100 anI), (h25, aI (k 0) 100 anI), (h26, aI (k 0) 400 anI), (h27, aI (k 0) 256 (rgI (-1) 99)), (h28, aI (k 0) 100 (rgI (-1) 99)), (h29, aJ (k 1) 60 anJ)]) (Tr := [(h7, ob 3 [.ref h38, .ref h39, .ref h40, .ref h41, .ref h42, .ref h43, .ref h44, .ref h45, .int h7f8, .int h7f9, .int h7f10, .int h7f11]), (h38, aJ (k 1) 12000 anJ), (h39, aI (k 0) 400 anI), (h40, aI (k 0) 400 anI), (h41, aI (k 0) 400 anI), (h43, aI (k 0) 1024 anI), (h44, aI (k 0) 400 anI)]) (as := [h0, h1, h5, h9, h12, h14, h22, h23, h24, h25, h26, h27, h28, h29]) (zcV (q0 := 0) (ci := 7) (As := []) (rest := []) (Tc := [(h0, ob 7 [.ref h1, .ref h2, .int h0f2, .ref h3, .ref h4, .ref h5, .int h0f6, .ref h6, .int h0f8, .ref h7, .ref h8, .int h0f11, .ref h9, .ref h10, .ref h11, .ref h12, .ref h13]), (h1, ob 4 [.int h1f0, .int h1f1, .int h1f2, .ref h14]), (h5, ob 3 [.ref h22, .ref h23, .ref h24, .ref h25, .ref h26, .ref h27, .ref h28, .ref h29, .int h5f8, .int h5f9, .int h5f10, .int h5f11]), (h9, ob 2 [.ref h1, .int h9f1]), (h12, aJ (k 1) 9 anJ), (h14, aJ (k 1) 36 anJ), (h22, aJ (k 1) 900 anJ), (h23, aI (k 0) 100 anI), (h24, aI (k 0) 100 anI), (h25, aI (k 0) 100 anI), (h26, aI (k 0) 400 anI), (h27, aI (k 0) 256 (rgI (-1) 99)), (h28, aI (k 0) 100 (rgI (-1) 99)), (h29, aJ (k 1) 60 anJ)]) hx hb hml hown hU hK hT rfl rfl [0, 1, 2, 4, 5, 6, 7, 8, 9, 10, 11, 12, 13, 14] rfl (by decide) (cX10_listAll_d24ec l D k _ h0 h1 h5 h9 h12 h14 h22 h23 h24 h25 h26 h27 h28 h29 h2 h3 h4 h6 h7 h8 h10 h11 h13 h0f2 h0f6 h0f8 h0f11 h1f0 h1f1 h1f2 h5f8 h5f9 h5f10 h5f11 h9f1 (by omega) (by omega) (by omega) (by omega) (by omega) (by omega) (by omega) (by omega) (by omega) (by omega) (by omega)) w492 w489 w491 w10 w63 hdX10_listAll ⟨rfl, rfl⟩ ⟨Nat.le_of_ble_eq_true rfl, Nat.le_of_ble_eq_true rfl⟩ rfl hl.1 (Nat.le_of_ble_eq_true rfl) dX10_faithful_10 ⟨Nat.le_of_ble_eq_true rfl, Nat.le_of_ble_eq_true rfl⟩) hT hS hA [0, 1, 2, 4, 5, 6, 7, 8, 9, 10, 11, 12, 13, 14] [3, 15, 16, 17, 18, 19, 20] rfl rfl rfl (by decide) (by decide) (fun H locs hB J hS => ?_)
    obtain ⟨v46, v47, v48, v49, v50, v51, b_v46, b_v47, b_v48, b_v49, b_v50, b_v51, hT1⟩ := hB
    have hT := J _ hT1
    have hT : TP D A [(h7, ob 3 [.ref h38, .ref h39, .ref h40, .ref h41, .ref h42, .ref h43, .ref h44, .ref h45, .int h7f8, .int h7f9, .int h7f10, .int h7f11]), (h38, aJ (k 1) 12000 anJ), (h39, aI (k 0) 400 anI), (h40, aI (k 0) 400 anI), (h41, aI (k 0) 400 anI), (h43, aI (k 0) 1024 anI), (h44, aI (k 0) 400 anI), (h0, ob 7 [.ref h1, .ref h2, .int h0f2, .ref h3, .ref h4, .ref h5, .int v46, .ref h6, .int h0f8, .ref h7, .ref h8, .int h0f11, .ref h9, .ref h10, .ref h11, .ref h12, .ref h13]), (h1, ob 4 [.int h1f0, .int h1f1, .int h1f2, .ref h14]), (h5, ob 3 [.ref h22, .ref h23, .ref h24, .ref h25, .ref h26, .ref h27, .ref h28, .ref h29, .int v47, .int v48, .int v49, .int v50]), (h9, ob 2 [.ref h1, .int v51]), (h12, aJ (k 1) 9 anJ), (h14, aJ (k 1) 36 anJ), (h22, aJ (k 1) 900 anJ), (h23, aI (k 0) 100 anI), (h24, aI (k 0) 100 anI), (h25, aI (k 0) 100 anI), (h26, aI (k 0) 400 anI), (h27, aI (k 0) 256 (rgI (-1) 99)), (h28, aI (k 0) 100 (rgI (-1) 99)), (h29, aJ (k 1) 60 anJ)] _ := hT
    refine lv_aload_n hx hb dX10_faithful_13 rfl (lv_at hl 0 rfl) ?_
    refine lv_iload_n hx hb dX10_faithful_14 rfl (lv_at hl 1 rfl) ?_
    refine tcI (Tc := [(h0, ob 7 [.ref h1, .ref h2, .int h0f2, .ref h3, .ref h4, .ref h5, .int v46, .ref h6, .int h0f8, .ref h7, .ref h8, .int h0f11, .ref h9, .ref h10, .ref h11, .ref h12, .ref h13]), (h1, ob 4 [.int h1f0, .int h1f1, .int h1f2, .ref h14]), (h5, ob 3 [.ref h22, .ref h23, .ref h24, .ref h25, .ref h26, .ref h27, .ref h28, .ref h29, .int v47, .int v48, .int v49, .int v50]), (h7, ob 3 [.ref h38, .ref h39, .ref h40, .ref h41, .ref h42, .ref h43, .ref h44, .ref h45, .int h7f8, .int h7f9, .int h7f10, .int h7f11]), (h12, aJ (k 1) 9 anJ), (h22, aJ (k 1) 900 anJ), (h38, aJ (k 1) 12000 anJ), (h39, aI (k 0) 400 anI), (h40, aI (k 0) 400 anI), (h41, aI (k 0) 400 anI), (h43, aI (k 0) 1024 anI), (h44, aI (k 0) 400 anI)]) (Tr := [(h9, ob 2 [.ref h1, .int v51]), (h14, aJ (k 1) 36 anJ), (h23, aI (k 0) 100 anI), (h24, aI (k 0) 100 anI), (h25, aI (k 0) 100 anI), (h26, aI (k 0) 400 anI), (h27, aI (k 0) 256 (rgI (-1) 99)), (h28, aI (k 0) 100 (rgI (-1) 99)), (h29, aJ (k 1) 60 anJ)]) (as := [h0, h1, h5, h7, h12, h22, h38, h39, h40, h41, h43, h44]) (zcV (q0 := 7) (ci := 7) (As := [.int x1]) (rest := []) (Tc := [(h0, ob 7 [.ref h1, .ref h2, .int h0f2, .ref h3, .ref h4, .ref h5, .int v46, .ref h6, .int h0f8, .ref h7, .ref h8, .int h0f11, .ref h9, .ref h10, .ref h11, .ref h12, .ref h13]), (h1, ob 4 [.int h1f0, .int h1f1, .int h1f2, .ref h14]), (h5, ob 3 [.ref h22, .ref h23, .ref h24, .ref h25, .ref h26, .ref h27, .ref h28, .ref h29, .int v47, .int v48, .int v49, .int v50]), (h7, ob 3 [.ref h38, .ref h39, .ref h40, .ref h41, .ref h42, .ref h43, .ref h44, .ref h45, .int h7f8, .int h7f9, .int h7f10, .int h7f11]), (h12, aJ (k 1) 9 anJ), (h22, aJ (k 1) 900 anJ), (h38, aJ (k 1) 12000 anJ), (h39, aI (k 0) 400 anI), (h40, aI (k 0) 400 anI), (h41, aI (k 0) 400 anI), (h43, aI (k 0) 1024 anI), (h44, aI (k 0) 400 anI)]) hx hb hml hown hU hK hT rfl rfl [7, 8, 9, 0, 11, 13, 1, 2, 3, 4, 5, 6] rfl (by decide) (cX10_areApartBy_bc843 l D k _ h0 h1 h5 h7 h12 h22 h38 h39 h40 h41 h43 h44 h2 h3 h4 h6 h8 h9 h10 h11 h13 h14 h23 h24 h25 h26 h27 h28 h29 h42 h45 x1 h0f2 v46 h0f8 h0f11 h1f0 h1f1 h1f2 v47 v48 v49 v50 h7f8 h7f9 h7f10 h7f11 (by omega) (by omega) (by omega) (by omega) (by omega) (by omega) (by omega) (by omega) (by omega) (by omega) (by omega) (by omega) (by omega) (by omega) (by omega)) w680 w677 w679 w23 w63 hdX10_areApartBy ⟨rfl, rfl⟩ ⟨Nat.le_of_ble_eq_true rfl, Nat.le_of_ble_eq_true rfl⟩ rfl hl.1 (Nat.le_of_ble_eq_true rfl) dX10_faithful_15 ⟨Nat.le_of_ble_eq_true rfl, Nat.le_of_ble_eq_true rfl⟩) hT hS hA [7, 8, 9, 0, 11, 13, 1, 2, 3, 4, 5, 6] [10, 12, 14, 15, 16, 17, 18, 19, 20] rfl rfl rfl (by decide) (by decide) (fun r52 H locs hB J hS => ?_)
    obtain ⟨v53, v54, b_v53, b_v54, b_r52, hT1⟩ := hB
    have hT := J _ hT1
    have hT : TP D A [(h9, ob 2 [.ref h1, .int v51]), (h14, aJ (k 1) 36 anJ), (h23, aI (k 0) 100 anI), (h24, aI (k 0) 100 anI), (h25, aI (k 0) 100 anI), (h26, aI (k 0) 400 anI), (h27, aI (k 0) 256 (rgI (-1) 99)), (h28, aI (k 0) 100 (rgI (-1) 99)), (h29, aJ (k 1) 60 anJ), (h0, ob 7 [.ref h1, .ref h2, .int h0f2, .ref h3, .ref h4, .ref h5, .int v46, .ref h6, .int h0f8, .ref h7, .ref h8, .int h0f11, .ref h9, .ref h10, .ref h11, .ref h12, .ref h13]), (h1, ob 4 [.int h1f0, .int h1f1, .int h1f2, .ref h14]), (h5, ob 3 [.ref h22, .ref h23, .ref h24, .ref h25, .ref h26, .ref h27, .ref h28, .ref h29, .int v47, .int v48, .int v49, .int v50]), (h7, ob 3 [.ref h38, .ref h39, .ref h40, .ref h41, .ref h42, .ref h43, .ref h44, .ref h45, .int v53, .int 400, .int v54, .int 0]), (h12, aJ (k 1) 9 anJ), (h22, aJ (k 1) 900 anJ), (h38, aJ (k 1) 12000 anJ), (h39, aI (k 0) 400 anI), (h40, aI (k 0) 400 anI), (h41, aI (k 0) 400 anI), (h43, aI (k 0) 1024 anI), (h44, aI (k 0) 400 anI)] _ := hT
    refine lv_if_eq (tgt := 25) hx hb dX10_faithful_18 (by decide) (fun c_55 => ?_) (fun c_55 => ?_)
    · skip
      have c_55 := ni_eq c_55 rfl li_0
      refine lv_iconst (v := 0) hx hb dX10_faithful_25 (by decide) ?_
      exact tz_retI (B := B_cX10_faithful_3fec0 D k h0 h1 h5 h7 h9 h12 h14 h22 h23 h24 h25 h26 h27 h28 h29 h38 h39 h40 h41 h43 h44 h2 h3 h4 h6 h8 h10 h11 h13 h42 h45 x1 h0f2 h0f6 h0f8 h0f11 h1f0 h1f1 h1f2 h5f8 h5f9 h5f10 h5f11 h7f8 h7f9 h7f10 h7f11 h9f1) (v := 0) hQ hx hb hr hlocks hS (Nat.le_of_ble_eq_true rfl) (Nat.le_of_ble_eq_true rfl) dX10_faithful_26 (⟨v46, v47, v48, v49, v50, v53, 400, v54, 0, v51, (by have := li_400; have := li_0; omega), (by have := li_400; have := li_0; omega), (by have := li_400; have := li_0; omega), (by have := li_400; have := li_0; omega), (by have := li_400; have := li_0; omega), (by have := li_400; have := li_0; omega), (by have := li_400; have := li_0; omega), (by have := li_400; have := li_0; omega), (by have := li_400; have := li_0; omega), (by have := li_400; have := li_0; omega), (by have := li_400; have := li_0; omega), (hT.sub [9, 10, 11, 12, 0, 13, 1, 14, 2, 3, 4, 5, 6, 7, 8, 15, 16, 17, 18, 19, 20] (by decide) rfl)⟩)
    · skip
      have c_55 := ni_ne c_55 rfl li_0
      refine lv_iconst (v := 1) hx hb dX10_faithful_21 (by decide) ?_
      refine lv_goto (tgt := 26) hx hb dX10_faithful_22 (by decide) ?_
      exact tz_retI (B := B_cX10_faithful_3fec0 D k h0 h1 h5 h7 h9 h12 h14 h22 h23 h24 h25 h26 h27 h28 h29 h38 h39 h40 h41 h43 h44 h2 h3 h4 h6 h8 h10 h11 h13 h42 h45 x1 h0f2 h0f6 h0f8 h0f11 h1f0 h1f1 h1f2 h5f8 h5f9 h5f10 h5f11 h7f8 h7f9 h7f10 h7f11 h9f1) (v := 1) hQ hx hb hr hlocks hS (Nat.le_of_ble_eq_true rfl) (Nat.le_of_ble_eq_true rfl) dX10_faithful_26 (⟨v46, v47, v48, v49, v50, v53, 400, v54, 0, v51, (by have := li_400; have := li_0; have := li_1; omega), (by have := li_400; have := li_0; have := li_1; omega), (by have := li_400; have := li_0; have := li_1; omega), (by have := li_400; have := li_0; have := li_1; omega), (by have := li_400; have := li_0; have := li_1; omega), (by have := li_400; have := li_0; have := li_1; omega), (by have := li_400; have := li_0; have := li_1; omega), (by have := li_400; have := li_0; have := li_1; omega), (by have := li_400; have := li_0; have := li_1; omega), (by have := li_400; have := li_0; have := li_1; omega), (by have := li_400; have := li_0; have := li_1; omega), (hT.sub [9, 10, 11, 12, 0, 13, 1, 14, 2, 3, 4, 5, 6, 7, 8, 15, 16, 17, 18, 19, 20] (by decide) rfl)⟩)
abbrev Rm_cX11_faithful_a3187 : Room := { frames := 3, cells := 0, slots := 0, locals := 70 }
abbrev B_cX11_faithful_a3187 (D : va_G) (k : Nat → ClassId) (h0 h1 h4 h5 h6 h10 h11 h12 h13 h14 h2 h3 h7 h8 h9 h15 h16 h17 h18 h19 h20 h21 : Nat) (x1 : Int32) (h0f0 : Int32) (h0f1 : Int32) (h0f2 : Int32) (h0f3 : Int32) (h0f4 : Int32) (h0f5 : Int32) (h0f8 : Int32) (h0f9 : Int32) (h0f17 : Int32) (h0f18 : Int32) (h0f19 : Int32) (h0f24 : Int32) (h0f25 : Int32) (h0f30 : Int32) (h0f31 : Int32) (A : Nat → Prop) (r : Int32) (H : Heap) : Prop := ∃ o0 : Int32, ∃ o1 : Int32, ∃ o2 : Int32, (0 ≤ o0.toInt ∧ o0.toInt ≤ 1) ∧ (0 ≤ o1.toInt ∧ o1.toInt ≤ 100) ∧ (0 ≤ o2.toInt ∧ o2.toInt ≤ 1) ∧ ((-1) ≤ r.toInt ∧ r.toInt ≤ 1) ∧ TP D A [(h0, ob 8 [.int h0f0, .int h0f1, .int h0f2, .int h0f3, .int h0f4, .int h0f5, .ref h1, .ref h2, .int h0f8, .int o0, .ref h3, .ref h4, .ref h5, .ref h6, .ref h7, .ref h8, .ref h9, .int h0f17, .int h0f18, .int h0f19, .ref h10, .ref h11, .ref h12, .ref h13, .int o1, .int o2, .ref h14, .ref h15, .ref h16, .ref h17, .int h0f30, .int h0f31, .ref h18, .ref h19, .ref h20, .ref h21]), (h1, aI (k 0) 36 anI), (h4, aJ (k 1) 9 anJ), (h5, aJ (k 1) 9 anJ), (h6, aJ (k 1) 9 anJ), (h10, aJ (k 1) 900 (lsP (o0.toInt))), (h11, aI (k 0) 100 anI), (h12, aI (k 0) 100 anI), (h13, aI (k 0) 100 anI), (h14, aI (k 0) 400 anI)] H
set_option maxHeartbeats 4000000 in
set_option maxRecDepth 100000 in
theorem cX11_faithful_a3187 (l : Launch) (D : va_G) (k : Nat → ClassId) (sz : Nat) (h0 h1 h4 h5 h6 h10 h11 h12 h13 h14 h2 h3 h7 h8 h9 h15 h16 h17 h18 h19 h20 h21 : Nat) (x1 : Int32) (h0f0 : Int32) (h0f1 : Int32) (h0f2 : Int32) (h0f3 : Int32) (h0f4 : Int32) (h0f5 : Int32) (h0f8 : Int32) (h0f9 : Int32) (h0f17 : Int32) (h0f18 : Int32) (h0f19 : Int32) (h0f24 : Int32) (h0f25 : Int32) (h0f30 : Int32) (h0f31 : Int32) (b_h0f0 : 1 ≤ h0f0.toInt ∧ h0f0.toInt ≤ 3) (b_h0f1 : 0 ≤ h0f1.toInt ∧ h0f1.toInt ≤ 4) (b_h0f3 : 0 ≤ h0f3.toInt ∧ h0f3.toInt ≤ 3) (b_h0f4 : 0 ≤ h0f4.toInt ∧ h0f4.toInt ≤ 4) (b_h0f8 : 0 ≤ h0f8.toInt ∧ h0f8.toInt ≤ 1) (b_h0f9 : 0 ≤ h0f9.toInt ∧ h0f9.toInt ≤ 1) (b_h0f17 : 0 ≤ h0f17.toInt ∧ h0f17.toInt ≤ 120) (b_h0f18 : 0 ≤ h0f18.toInt ∧ h0f18.toInt ≤ 120) (b_h0f19 : 0 ≤ h0f19.toInt ∧ h0f19.toInt ≤ 4) (b_h0f24 : 0 ≤ h0f24.toInt ∧ h0f24.toInt ≤ 100) (b_h0f25 : 0 ≤ h0f25.toInt ∧ h0f25.toInt ≤ 1) (b_h0f30 : 0 ≤ h0f30.toInt ∧ h0f30.toInt ≤ 60) (b_h0f31 : 0 ≤ h0f31.toInt ∧ h0f31.toInt ≤ 1) (i_0 : h0f8.toInt ≤ h0f3.toInt) (i_1 : h0f9.toInt ≤ h0f24.toInt) : Met l yX11_faithful (Cond.code yX11_faithful cX11_faithful 5 (some .int) :: uw) Rm_cX11_faithful_a3187 (pT D k sz [.ref h0, .int x1] [(h0, ob 8 [.int h0f0, .int h0f1, .int h0f2, .int h0f3, .int h0f4, .int h0f5, .ref h1, .ref h2, .int h0f8, .int h0f9, .ref h3, .ref h4, .ref h5, .ref h6, .ref h7, .ref h8, .ref h9, .int h0f17, .int h0f18, .int h0f19, .ref h10, .ref h11, .ref h12, .ref h13, .int h0f24, .int h0f25, .ref h14, .ref h15, .ref h16, .ref h17, .int h0f30, .int h0f31, .ref h18, .ref h19, .ref h20, .ref h21]), (h1, aI (k 0) 36 anI), (h4, aJ (k 1) 9 anJ), (h5, aJ (k 1) 9 anJ), (h6, aJ (k 1) 9 anJ), (h10, aJ (k 1) 900 (lsP (h0f9.toInt))), (h11, aI (k 0) 100 anI), (h12, aI (k 0) 100 anI), (h13, aI (k 0) 100 anI), (h14, aI (k 0) 400 anI)]) (qI (B_cX11_faithful_a3187 D k h0 h1 h4 h5 h6 h10 h11 h12 h13 h14 h2 h3 h7 h8 h9 h15 h16 h17 h18 h19 h20 h21 x1 h0f0 h0f1 h0f2 h0f3 h0f4 h0f5 h0f8 h0f9 h0f17 h0f18 h0f19 h0f24 h0f25 h0f30 h0f31 (zA [h0, h1, h4, h5, h6, h10, h11, h12, h13, h14] sz)) (zA [h0, h1, h4, h5, h6, h10, h11, h12, h13, h14] sz)) 0 0 (zA [h0, h1, h4, h5, h6, h10, h11, h12, h13, h14] sz) := by
  refine tz_begin (as := [h0, h1, h4, h5, h6, h10, h11, h12, h13, h14]) (Qc := fun A => qI (B_cX11_faithful_a3187 D k h0 h1 h4 h5 h6 h10 h11 h12 h13 h14 h2 h3 h7 h8 h9 h15 h16 h17 h18 h19 h20 h21 x1 h0f0 h0f1 h0f2 h0f3 h0f4 h0f5 h0f8 h0f9 h0f17 h0f18 h0f19 h0f24 h0f25 h0f30 h0f31 A) A) (by decide +kernel) rfl (Nat.le_of_ble_eq_true rfl) ?_
  intro p e s m args below meth c ls A Q hx hb hr hml hown hlocks hin hU hK hT hS hA hl hQ
  have hl : lv_has ls 5 [(0, .ref h0), (1, .int x1)] := hl
  have hT : TP D A [(h0, ob 8 [.int h0f0, .int h0f1, .int h0f2, .int h0f3, .int h0f4, .int h0f5, .ref h1, .ref h2, .int h0f8, .int h0f9, .ref h3, .ref h4, .ref h5, .ref h6, .ref h7, .ref h8, .ref h9, .int h0f17, .int h0f18, .int h0f19, .ref h10, .ref h11, .ref h12, .ref h13, .int h0f24, .int h0f25, .ref h14, .ref h15, .ref h16, .ref h17, .int h0f30, .int h0f31, .ref h18, .ref h19, .ref h20, .ref h21]), (h1, aI (k 0) 36 anI), (h4, aJ (k 1) 9 anJ), (h5, aJ (k 1) 9 anJ), (h6, aJ (k 1) 9 anJ), (h10, aJ (k 1) 900 (lsP (h0f9.toInt))), (h11, aI (k 0) 100 anI), (h12, aI (k 0) 100 anI), (h13, aI (k 0) 100 anI), (h14, aI (k 0) 400 anI)] s.heap := hT
  have lp17_68 : ∀ (n : Nat) (y63 : Int32) (y64 : Int32) (y65 : Int32) (y66 : Int32) (y67 : Int32) (H : Heap) (locs : List Loc) (ls : Array Slot), (0 ≤ y63.toInt ∧ y63.toInt ≤ 100) → (0 ≤ y64.toInt ∧ y64.toInt ≤ 1) → (1 ≤ y65.toInt ∧ y65.toInt ≤ 1) → (1 ≤ y66.toInt ∧ y66.toInt ≤ 100) → (0 ≤ y67.toInt ∧ y67.toInt ≤ 1) → (2 ≤ x1.toInt ∧ x1.toInt ≤ 7) → (y66.toInt + (-1) * y63.toInt + 1).toNat < n → TP D A [(h14, aI (k 0) 400 anI), (h0, ob 8 [.int h0f0, .int h0f1, .int h0f2, .int h0f3, .int h0f4, .int h0f5, .ref h1, .ref h2, .int h0f8, .int y65, .ref h3, .ref h4, .ref h5, .ref h6, .ref h7, .ref h8, .ref h9, .int h0f17, .int h0f18, .int h0f19, .ref h10, .ref h11, .ref h12, .ref h13, .int y66, .int y67, .ref h14, .ref h15, .ref h16, .ref h17, .int h0f30, .int h0f31, .ref h18, .ref h19, .ref h20, .ref h21]), (h1, aI (k 0) 36 anI), (h4, aJ (k 1) 9 anJ), (h5, aJ (k 1) 9 anJ), (h6, aJ (k 1) 9 anJ), (h10, aJ (k 1) 900 (lsP (y65.toInt))), (h11, aI (k 0) 100 anI), (h12, aI (k 0) 100 anI), (h13, aI (k 0) 100 anI)] H → va_S A s.heap H locs → lv_has ls 5 [(0, .ref h0), (1, .int x1), (2, .int y64), (3, .int y63)] → W p l e Rm_cX11_faithful_a3187 s m args below meth c H locs 0 0 Q (F0 m 17 ls []) := by
    intro n
    induction n with
    | zero => intro y63 y64 y65 y66 y67 H locs ls b_y63 b_y64 b_y65 b_y66 b_y67 b_x1 hm hT hS hl; exact absurd hm (Nat.not_lt_zero _)
    | succ n ih =>
      intro y63 y64 y65 y66 y67 H locs ls b_y63 b_y64 b_y65 b_y66 b_y67 b_x1 hm hT hS hl
      have ih17_68 := ih
      clear ih
      refine lv_iload_n hx hb dX11_faithful_17 rfl (lv_at hl 3 rfl) ?_
      refine lv_aload_n hx hb dX11_faithful_18 rfl (lv_at hl 0 rfl) ?_
      refine tz_get (ci := 8) (v := .int y66) (C := RX11) (F := TX11) (N := 36) hx hb hU iX11 hown hK hT 1 rfl rfl 24 (by decide) w809 (fun _ h9 => h9) rfl dX11_faithful_19 ?_
      refine lv_icmp_ge (tgt := 96) hx hb dX11_faithful_22 (by decide) (fun c_69 => ?_) (fun c_69 => ?_)
      · skip
        have c_69 := ni_le c_69 rfl rfl
        refine lv_iload_n hx hb dX11_faithful_96 rfl (lv_at hl 2 rfl) ?_
        refine lv_if_eq (tgt := 104) hx hb dX11_faithful_97 (by decide) (fun c_70 => ?_) (fun c_70 => ?_)
        · skip
          have c_70 := ni_eq c_70 rfl li_0
          refine lv_iconst (v := 0) hx hb dX11_faithful_104 (by decide) ?_
          exact tz_retI (B := B_cX11_faithful_a3187 D k h0 h1 h4 h5 h6 h10 h11 h12 h13 h14 h2 h3 h7 h8 h9 h15 h16 h17 h18 h19 h20 h21 x1 h0f0 h0f1 h0f2 h0f3 h0f4 h0f5 h0f8 h0f9 h0f17 h0f18 h0f19 h0f24 h0f25 h0f30 h0f31) (v := 0) hQ hx hb hr hlocks hS (Nat.le_of_ble_eq_true rfl) (Nat.le_of_ble_eq_true rfl) dX11_faithful_105 (⟨y65, y66, y67, (by have := li_0; omega), (by have := li_0; omega), (by have := li_0; omega), (by have := li_0; omega), (hT.sub [1, 2, 3, 4, 5, 6, 7, 8, 9, 0] (by decide) rfl)⟩)
        · skip
          have c_70 := ni_ne c_70 rfl li_0
          refine lv_iconst (v := 1) hx hb dX11_faithful_100 (by decide) ?_
          refine lv_goto (tgt := 105) hx hb dX11_faithful_101 (by decide) ?_
          exact tz_retI (B := B_cX11_faithful_a3187 D k h0 h1 h4 h5 h6 h10 h11 h12 h13 h14 h2 h3 h7 h8 h9 h15 h16 h17 h18 h19 h20 h21 x1 h0f0 h0f1 h0f2 h0f3 h0f4 h0f5 h0f8 h0f9 h0f17 h0f18 h0f19 h0f24 h0f25 h0f30 h0f31) (v := 1) hQ hx hb hr hlocks hS (Nat.le_of_ble_eq_true rfl) (Nat.le_of_ble_eq_true rfl) dX11_faithful_105 (⟨y65, y66, y67, (by have := li_1; omega), (by have := li_1; omega), (by have := li_1; omega), (by have := li_1; omega), (hT.sub [1, 2, 3, 4, 5, 6, 7, 8, 9, 0] (by decide) rfl)⟩)
      · skip
        have c_69 := ni_nle c_69 rfl rfl
        refine lv_aload_n hx hb dX11_faithful_25 rfl (lv_at hl 0 rfl) ?_
        refine lv_iload_n hx hb dX11_faithful_26 rfl (lv_at hl 3 rfl) ?_
        refine lv_aload_n hx hb dX11_faithful_27 rfl (lv_at hl 0 rfl) ?_
        refine tz_get (ci := 8) (v := .ref h4) (C := RX11) (F := TX11) (N := 36) hx hb hU iX11 hown hK hT 1 rfl rfl 11 (by decide) w796 (fun _ h9 => h9) rfl dX11_faithful_28 ?_
        refine tcV (Tc := [(h0, ob 8 [.int h0f0, .int h0f1, .int h0f2, .int h0f3, .int h0f4, .int h0f5, .ref h1, .ref h2, .int h0f8, .int y65, .ref h3, .ref h4, .ref h5, .ref h6, .ref h7, .ref h8, .ref h9, .int h0f17, .int h0f18, .int h0f19, .ref h10, .ref h11, .ref h12, .ref h13, .int y66, .int y67, .ref h14, .ref h15, .ref h16, .ref h17, .int h0f30, .int h0f31, .ref h18, .ref h19, .ref h20, .ref h21]), (h4, aJ (k 1) 9 anJ), (h10, aJ (k 1) 900 (lsP (y65.toInt)))]) (Tr := [(h14, aI (k 0) 400 anI), (h1, aI (k 0) 36 anI), (h5, aJ (k 1) 9 anJ), (h6, aJ (k 1) 9 anJ), (h11, aI (k 0) 100 anI), (h12, aI (k 0) 100 anI), (h13, aI (k 0) 100 anI)]) (as := [h0, h4, h10]) (zcV (q0 := 1) (ci := 8) (As := [.int y63, .ref h4]) (rest := []) (Tc := [(h0, ob 8 [.int h0f0, .int h0f1, .int h0f2, .int h0f3, .int h0f4, .int h0f5, .ref h1, .ref h2, .int h0f8, .int y65, .ref h3, .ref h4, .ref h5, .ref h6, .ref h7, .ref h8, .ref h9, .int h0f17, .int h0f18, .int h0f19, .ref h10, .ref h11, .ref h12, .ref h13, .int y66, .int y67, .ref h14, .ref h15, .ref h16, .ref h17, .int h0f30, .int h0f31, .ref h18, .ref h19, .ref h20, .ref h21]), (h4, aJ (k 1) 9 anJ), (h10, aJ (k 1) 900 (lsP (y65.toInt)))]) hx hb hml hown hU hK hT rfl rfl [1, 3, 6] rfl (by decide) (cX11_takesElement_3b10e l D k _ h0 h4 h10 h1 h2 h3 h5 h6 h7 h8 h9 h11 h12 h13 h14 h15 h16 h17 h18 h19 h20 h21 y63 h0f0 h0f1 h0f2 h0f3 h0f4 h0f5 h0f8 y65 h0f17 h0f18 h0f19 y66 y67 h0f30 h0f31 (by omega) (by omega) (by omega) (by omega) (by omega) (by omega) (by omega) (by omega) (by omega) (by omega) (by omega) (by omega) (by omega) (by omega) (by omega) (by omega)) w1047 w1044 w1046 w49 w72 hdX11_takesElement ⟨rfl, rfl⟩ ⟨Nat.le_of_ble_eq_true rfl, Nat.le_of_ble_eq_true rfl⟩ rfl hl.1 (Nat.le_of_ble_eq_true rfl) dX11_faithful_31 ⟨Nat.le_of_ble_eq_true rfl, Nat.le_of_ble_eq_true rfl⟩) hT hS hA [1, 3, 6] [0, 2, 4, 5, 7, 8, 9] rfl rfl rfl (by decide) (by decide) (fun H locs hB J hS => ?_)
        have hT1 := hB
        have hT := J _ hT1
        have hT : TP D A [(h14, aI (k 0) 400 anI), (h1, aI (k 0) 36 anI), (h5, aJ (k 1) 9 anJ), (h6, aJ (k 1) 9 anJ), (h11, aI (k 0) 100 anI), (h12, aI (k 0) 100 anI), (h13, aI (k 0) 100 anI), (h0, ob 8 [.int h0f0, .int h0f1, .int h0f2, .int h0f3, .int h0f4, .int h0f5, .ref h1, .ref h2, .int h0f8, .int y65, .ref h3, .ref h4, .ref h5, .ref h6, .ref h7, .ref h8, .ref h9, .int h0f17, .int h0f18, .int h0f19, .ref h10, .ref h11, .ref h12, .ref h13, .int y66, .int y67, .ref h14, .ref h15, .ref h16, .ref h17, .int h0f30, .int h0f31, .ref h18, .ref h19, .ref h20, .ref h21]), (h4, aJ (k 1) 9 anJ), (h10, aJ (k 1) 900 (lsP (y65.toInt)))] _ := hT
        refine lv_aload_n hx hb dX11_faithful_34 rfl (lv_at hl 0 rfl) ?_
        refine tz_get (ci := 8) (v := .ref h14) (C := RX11) (F := TX11) (N := 36) hx hb hU iX11 hown hK hT 7 rfl rfl 26 (by decide) w811 (fun _ h9 => h9) rfl dX11_faithful_35 ?_
        refine lv_iload_n hx hb dX11_faithful_38 rfl (lv_at hl 3 rfl) ?_
        refine lv_aload_n hx hb dX11_faithful_39 rfl (lv_at hl 0 rfl) ?_
        refine lv_aload_n hx hb dX11_faithful_40 rfl (lv_at hl 0 rfl) ?_
        refine tz_get (ci := 8) (v := .ref h4) (C := RX11) (F := TX11) (N := 36) hx hb hU iX11 hown hK hT 7 rfl rfl 11 (by decide) w796 (fun _ h9 => h9) rfl dX11_faithful_41 ?_
        refine lv_iload_n hx hb dX11_faithful_44 rfl (lv_at hl 1 rfl) ?_
        refine tcI (Tc := [(h0, ob 8 [.int h0f0, .int h0f1, .int h0f2, .int h0f3, .int h0f4, .int h0f5, .ref h1, .ref h2, .int h0f8, .int y65, .ref h3, .ref h4, .ref h5, .ref h6, .ref h7, .ref h8, .ref h9, .int h0f17, .int h0f18, .int h0f19, .ref h10, .ref h11, .ref h12, .ref h13, .int y66, .int y67, .ref h14, .ref h15, .ref h16, .ref h17, .int h0f30, .int h0f31, .ref h18, .ref h19, .ref h20, .ref h21]), (h4, aJ (k 1) 9 anJ)]) (Tr := [(h14, aI (k 0) 400 anI), (h1, aI (k 0) 36 anI), (h5, aJ (k 1) 9 anJ), (h6, aJ (k 1) 9 anJ), (h11, aI (k 0) 100 anI), (h12, aI (k 0) 100 anI), (h13, aI (k 0) 100 anI), (h10, aJ (k 1) 900 (lsP (y65.toInt)))]) (as := [h0, h4]) (zcV (q0 := 7) (ci := 8) (As := [.ref h4, .int x1]) (rest := [.int y63, .ref h14]) (Tc := [(h0, ob 8 [.int h0f0, .int h0f1, .int h0f2, .int h0f3, .int h0f4, .int h0f5, .ref h1, .ref h2, .int h0f8, .int y65, .ref h3, .ref h4, .ref h5, .ref h6, .ref h7, .ref h8, .ref h9, .int h0f17, .int h0f18, .int h0f19, .ref h10, .ref h11, .ref h12, .ref h13, .int y66, .int y67, .ref h14, .ref h15, .ref h16, .ref h17, .int h0f30, .int h0f31, .ref h18, .ref h19, .ref h20, .ref h21]), (h4, aJ (k 1) 9 anJ)]) hx hb hml hown hU hK hT rfl rfl [7, 8] rfl (by decide) (cX11_told_6fc77 l D k _ h0 h4 h1 h2 h3 h5 h6 h7 h8 h9 h10 h11 h12 h13 h14 h15 h16 h17 h18 h19 h20 h21 x1 h0f0 h0f1 h0f2 h0f3 h0f4 h0f5 h0f8 y65 h0f17 h0f18 h0f19 y66 y67 h0f30 h0f31 (by omega) (by omega) (by omega) (by omega) (by omega) (by omega) (by omega) (by omega) (by omega) (by omega) (by omega) (by omega) (by omega) (by omega) (by omega) (by omega)) w1122 w1119 w1121 w55 w72 hdX11_told ⟨rfl, rfl⟩ ⟨Nat.le_of_ble_eq_true rfl, Nat.le_of_ble_eq_true rfl⟩ rfl hl.1 (Nat.le_of_ble_eq_true rfl) dX11_faithful_45 ⟨Nat.le_of_ble_eq_true rfl, Nat.le_of_ble_eq_true rfl⟩) hT hS hA [7, 8] [0, 1, 2, 3, 4, 5, 6, 9] rfl rfl rfl (by decide) (by decide) (fun r72 H locs hB J hS => ?_)
        have hT1 := hB
        have hT := J _ hT1
        have hT : TP D A [(h14, aI (k 0) 400 anI), (h1, aI (k 0) 36 anI), (h5, aJ (k 1) 9 anJ), (h6, aJ (k 1) 9 anJ), (h11, aI (k 0) 100 anI), (h12, aI (k 0) 100 anI), (h13, aI (k 0) 100 anI), (h10, aJ (k 1) 900 (lsP (y65.toInt))), (h0, ob 8 [.int h0f0, .int h0f1, .int h0f2, .int h0f3, .int h0f4, .int h0f5, .ref h1, .ref h2, .int h0f8, .int y65, .ref h3, .ref h4, .ref h5, .ref h6, .ref h7, .ref h8, .ref h9, .int h0f17, .int h0f18, .int h0f19, .ref h10, .ref h11, .ref h12, .ref h13, .int y66, .int y67, .ref h14, .ref h15, .ref h16, .ref h17, .int h0f30, .int h0f31, .ref h18, .ref h19, .ref h20, .ref h21]), (h4, aJ (k 1) 9 anJ)] _ := hT
        refine tz_iast hx hb hK hT hS 0 rfl (by omega) (fun _ _ => trivial) dX11_faithful_48 (fun H locs hT hS => ?_)
        refine lv_iconst (v := 0) hx hb dX11_faithful_49 (by decide) ?_
        refine lv_istore (lv' := [(4, .int 0), (0, .ref h0), (1, .int x1), (2, .int y64), (3, .int y63)]) hx hb dX11_faithful_50 hl (by decide) rfl (fun ls hl => ?_)
        have lp52_97 : ∀ (n : Nat) (y95 : Int32) (y96 : Int32) (H : Heap) (locs : List Loc) (ls : Array Slot), (0 ≤ y95.toInt ∧ y95.toInt ≤ 99) → (0 ≤ y96.toInt ∧ y96.toInt ≤ 1) → (y63.toInt + (-1) * y95.toInt + 1).toNat < n → TP D A [(h14, aI (k 0) 400 anI), (h1, aI (k 0) 36 anI), (h5, aJ (k 1) 9 anJ), (h6, aJ (k 1) 9 anJ), (h11, aI (k 0) 100 anI), (h12, aI (k 0) 100 anI), (h13, aI (k 0) 100 anI), (h10, aJ (k 1) 900 (lsP (y65.toInt))), (h0, ob 8 [.int h0f0, .int h0f1, .int h0f2, .int h0f3, .int h0f4, .int h0f5, .ref h1, .ref h2, .int h0f8, .int y65, .ref h3, .ref h4, .ref h5, .ref h6, .ref h7, .ref h8, .ref h9, .int h0f17, .int h0f18, .int h0f19, .ref h10, .ref h11, .ref h12, .ref h13, .int y66, .int y67, .ref h14, .ref h15, .ref h16, .ref h17, .int h0f30, .int h0f31, .ref h18, .ref h19, .ref h20, .ref h21]), (h4, aJ (k 1) 9 anJ)] H → va_S A s.heap H locs → lv_has ls 5 [(0, .ref h0), (1, .int x1), (2, .int y96), (3, .int y63), (4, .int y95)] → W p l e Rm_cX11_faithful_a3187 s m args below meth c H locs 0 0 Q (F0 m 52 ls []) := by
          intro n
          induction n with
          | zero => intro y95 y96 H locs ls b_y95 b_y96 hm hT hS hl; exact absurd hm (Nat.not_lt_zero _)
          | succ n ih =>
            intro y95 y96 H locs ls b_y95 b_y96 hm hT hS hl
            have ih52_97 := ih
            clear ih
            refine lv_iload hx hb dX11_faithful_52 (lv_at hl 4 rfl) ?_
            refine lv_iload_n hx hb dX11_faithful_54 rfl (lv_at hl 3 rfl) ?_
            refine lv_icmp_ge (tgt := 90) hx hb dX11_faithful_55 (by decide) (fun c_98 => ?_) (fun c_98 => ?_)
            · skip
              have c_98 := ni_le c_98 rfl rfl
              obtain ⟨v99, e_v99⟩ : ∃ x : Int32, x = y63 + Int32.ofInt 1 := ⟨_, rfl⟩
              have f_v99 := e_v99.symm
              have e_v99 : v99.toInt = y63.toInt + 1 := ai_add e_v99 rfl (show (Int32.ofInt 1).toInt = 1 from (by decide +kernel)) (by omega)
              refine lv_iinc (v := v99) (lv' := [(3, .int v99), (0, .ref h0), (1, .int x1), (2, .int y96), (4, .int y95)]) hx hb dX11_faithful_90 hl (k := 3) rfl f_v99 (by decide) rfl (fun ls hl => ?_)
              refine lv_goto (tgt := 17) hx hb dX11_faithful_93 (by decide) ?_
              exact ih17_68 v99 y96 y65 y66 y67 _ _ _ (by omega) (by omega) (by omega) (by omega) (by omega) (by omega)  (by omega) (hT.sub [0, 8, 1, 9, 2, 3, 7, 4, 5, 6] (by decide) rfl) hS (lv_sub hl [1, 2, 3, 0] rfl)
            · skip
              have c_98 := ni_nle c_98 rfl rfl
              refine lv_iload_n hx hb dX11_faithful_58 rfl (lv_at hl 2 rfl) ?_
              refine lv_if_eq (tgt := 82) hx hb dX11_faithful_59 (by decide) (fun c_100 => ?_) (fun c_100 => ?_)
              · skip
                have c_100 := ni_eq c_100 rfl li_0
                refine lv_iconst (v := 0) hx hb dX11_faithful_82 (by decide) ?_
                refine lv_istore_n (lv' := [(2, .int 0), (0, .ref h0), (1, .int x1), (3, .int y63), (4, .int y95)]) hx hb dX11_faithful_83 rfl hl (by decide) rfl (fun ls hl => ?_)
                obtain ⟨v101, e_v101⟩ : ∃ x : Int32, x = y95 + Int32.ofInt 1 := ⟨_, rfl⟩
                have f_v101 := e_v101.symm
                have e_v101 : v101.toInt = y95.toInt + 1 := ai_add e_v101 rfl (show (Int32.ofInt 1).toInt = 1 from (by decide +kernel)) (by omega)
                refine lv_iinc (v := v101) (lv' := [(4, .int v101), (2, .int 0), (0, .ref h0), (1, .int x1), (3, .int y63)]) hx hb dX11_faithful_84 hl (k := 4) rfl f_v101 (by decide) rfl (fun ls hl => ?_)
                refine lv_goto (tgt := 52) hx hb dX11_faithful_87 (by decide) ?_
                exact ih52_97 v101 (0) _ _ _ (by have := li_0; omega) (by have := li_0; omega)  (by have := li_0; omega) hT hS (lv_sub hl [2, 3, 1, 4, 0] rfl)
              · skip
                have c_100 := ni_ne c_100 rfl li_0
                refine lv_aload_n hx hb dX11_faithful_62 rfl (lv_at hl 0 rfl) ?_
                refine tz_get (ci := 8) (v := .ref h14) (C := RX11) (F := TX11) (N := 36) hx hb hU iX11 hown hK hT 8 rfl rfl 26 (by decide) w811 (fun _ h9 => h9) rfl dX11_faithful_63 ?_
                refine lv_iload hx hb dX11_faithful_66 (lv_at hl 4 rfl) ?_
                refine tz_iald hx hb hK hT 0 rfl (by omega) dX11_faithful_68 (fun v102 e_v102 => ?_)
                clear e_v102
                refine lv_aload_n hx hb dX11_faithful_69 rfl (lv_at hl 0 rfl) ?_
                refine tz_get (ci := 8) (v := .ref h14) (C := RX11) (F := TX11) (N := 36) hx hb hU iX11 hown hK hT 8 rfl rfl 26 (by decide) w811 (fun _ h9 => h9) rfl dX11_faithful_70 ?_
                refine lv_iload_n hx hb dX11_faithful_73 rfl (lv_at hl 3 rfl) ?_
                refine tz_iald hx hb hK hT 0 rfl (by omega) dX11_faithful_74 (fun v103 e_v103 => ?_)
                clear e_v103
                refine lv_icmp_eq (tgt := 82) hx hb dX11_faithful_75 (by decide) (fun c_104 => ?_) (fun c_104 => ?_)
                · skip
                  have c_104 := ni_eq c_104 rfl rfl
                  refine lv_iconst (v := 0) hx hb dX11_faithful_82 (by decide) ?_
                  refine lv_istore_n (lv' := [(2, .int 0), (0, .ref h0), (1, .int x1), (3, .int y63), (4, .int y95)]) hx hb dX11_faithful_83 rfl hl (by decide) rfl (fun ls hl => ?_)
                  obtain ⟨v105, e_v105⟩ : ∃ x : Int32, x = y95 + Int32.ofInt 1 := ⟨_, rfl⟩
                  have f_v105 := e_v105.symm
                  have e_v105 : v105.toInt = y95.toInt + 1 := ai_add e_v105 rfl (show (Int32.ofInt 1).toInt = 1 from (by decide +kernel)) (by omega)
                  refine lv_iinc (v := v105) (lv' := [(4, .int v105), (2, .int 0), (0, .ref h0), (1, .int x1), (3, .int y63)]) hx hb dX11_faithful_84 hl (k := 4) rfl f_v105 (by decide) rfl (fun ls hl => ?_)
                  refine lv_goto (tgt := 52) hx hb dX11_faithful_87 (by decide) ?_
                  exact ih52_97 v105 (0) _ _ _ (by have := li_0; omega) (by have := li_0; omega)  (by have := li_0; omega) hT hS (lv_sub hl [2, 3, 1, 4, 0] rfl)
                · skip
                  have c_104 := ni_ne c_104 rfl rfl
                  refine lv_iconst (v := 1) hx hb dX11_faithful_78 (by decide) ?_
                  refine lv_goto (tgt := 83) hx hb dX11_faithful_79 (by decide) ?_
                  refine lv_istore_n (lv' := [(2, .int 1), (0, .ref h0), (1, .int x1), (3, .int y63), (4, .int y95)]) hx hb dX11_faithful_83 rfl hl (by decide) rfl (fun ls hl => ?_)
                  obtain ⟨v106, e_v106⟩ : ∃ x : Int32, x = y95 + Int32.ofInt 1 := ⟨_, rfl⟩
                  have f_v106 := e_v106.symm
                  have e_v106 : v106.toInt = y95.toInt + 1 := ai_add e_v106 rfl (show (Int32.ofInt 1).toInt = 1 from (by decide +kernel)) (by omega)
                  refine lv_iinc (v := v106) (lv' := [(4, .int v106), (2, .int 1), (0, .ref h0), (1, .int x1), (3, .int y63)]) hx hb dX11_faithful_84 hl (k := 4) rfl f_v106 (by decide) rfl (fun ls hl => ?_)
                  refine lv_goto (tgt := 52) hx hb dX11_faithful_87 (by decide) ?_
                  exact ih52_97 v106 (1) _ _ _ (by have := li_1; omega) (by have := li_1; omega)  (by have := li_1; omega) hT hS (lv_sub hl [2, 3, 1, 4, 0] rfl)
        exact lp52_97 ((y63.toInt + (-1) * (0 : Int32).toInt + 1).toNat + 1) (0) y64 _ _ _ (by have := li_0; omega) (by have := li_0; omega)  (Nat.lt_succ_self _) hT hS (lv_sub hl [1, 2, 3, 4, 0] rfl)
  refine lv_iload_n hx hb dX11_faithful_0 rfl (lv_at hl 1 rfl) ?_
  refine tcI (Tc := []) (Tr := [(h0, ob 8 [.int h0f0, .int h0f1, .int h0f2, .int h0f3, .int h0f4, .int h0f5, .ref h1, .ref h2, .int h0f8, .int h0f9, .ref h3, .ref h4, .ref h5, .ref h6, .ref h7, .ref h8, .ref h9, .int h0f17, .int h0f18, .int h0f19, .ref h10, .ref h11, .ref h12, .ref h13, .int h0f24, .int h0f25, .ref h14, .ref h15, .ref h16, .ref h17, .int h0f30, .int h0f31, .ref h18, .ref h19, .ref h20, .ref h21]), (h1, aI (k 0) 36 anI), (h4, aJ (k 1) 9 anJ), (h5, aJ (k 1) 9 anJ), (h6, aJ (k 1) 9 anJ), (h10, aJ (k 1) 900 (lsP (h0f9.toInt))), (h11, aI (k 0) 100 anI), (h12, aI (k 0) 100 anI), (h13, aI (k 0) 100 anI), (h14, aI (k 0) 400 anI)]) (as := []) (zcS (As := [.int x1]) (rest := []) (Tc := []) hx hb hml hown hU hK hT [] rfl (by decide) (cX11_isPrime_f19f2 l D k _ x1) w1118 w1116 w1117 w72 hdX11_isPrime ⟨rfl, rfl⟩ ⟨Nat.le_of_ble_eq_true rfl, Nat.le_of_ble_eq_true rfl⟩ rfl hl.1 (Nat.le_of_ble_eq_true rfl) dX11_faithful_1 ⟨Nat.le_of_ble_eq_true rfl, Nat.le_of_ble_eq_true rfl⟩) hT hS hA [] [0, 1, 2, 3, 4, 5, 6, 7, 8, 9] rfl rfl rfl (by decide) (by decide) (fun r107 H locs hB J hS => ?_)
  rcases hB with ⟨c_108, rfl, hT1⟩ | ⟨c_109, c_110, rfl, hT1⟩ | ⟨c_111, c_112, c_113, rfl, hT1⟩ | ⟨rfl, hT1⟩ | ⟨c_114, c_115, c_116, c_117, rfl, hT1⟩
  · skip
    have hT := J _ hT1
    have hT : TP D A [(h0, ob 8 [.int h0f0, .int h0f1, .int h0f2, .int h0f3, .int h0f4, .int h0f5, .ref h1, .ref h2, .int h0f8, .int h0f9, .ref h3, .ref h4, .ref h5, .ref h6, .ref h7, .ref h8, .ref h9, .int h0f17, .int h0f18, .int h0f19, .ref h10, .ref h11, .ref h12, .ref h13, .int h0f24, .int h0f25, .ref h14, .ref h15, .ref h16, .ref h17, .int h0f30, .int h0f31, .ref h18, .ref h19, .ref h20, .ref h21]), (h1, aI (k 0) 36 anI), (h4, aJ (k 1) 9 anJ), (h5, aJ (k 1) 9 anJ), (h6, aJ (k 1) 9 anJ), (h10, aJ (k 1) 900 (lsP (h0f9.toInt))), (h11, aI (k 0) 100 anI), (h12, aI (k 0) 100 anI), (h13, aI (k 0) 100 anI), (h14, aI (k 0) 400 anI)] _ := hT
    refine lv_if_ne (tgt := 9) hx hb dX11_faithful_4 (by decide) (fun _ => ?_) (fun cc => absurd cc (by decide +kernel))
    refine lv_aload_n hx hb dX11_faithful_9 rfl (lv_at hl 0 rfl) ?_
    refine tcV (Tc := [(h0, ob 8 [.int h0f0, .int h0f1, .int h0f2, .int h0f3, .int h0f4, .int h0f5, .ref h1, .ref h2, .int h0f8, .int h0f9, .ref h3, .ref h4, .ref h5, .ref h6, .ref h7, .ref h8, .ref h9, .int h0f17, .int h0f18, .int h0f19, .ref h10, .ref h11, .ref h12, .ref h13, .int h0f24, .int h0f25, .ref h14, .ref h15, .ref h16, .ref h17, .int h0f30, .int h0f31, .ref h18, .ref h19, .ref h20, .ref h21]), (h1, aI (k 0) 36 anI), (h4, aJ (k 1) 9 anJ), (h5, aJ (k 1) 9 anJ), (h6, aJ (k 1) 9 anJ), (h10, aJ (k 1) 900 (lsP (h0f9.toInt))), (h11, aI (k 0) 100 anI), (h12, aI (k 0) 100 anI), (h13, aI (k 0) 100 anI)]) (Tr := [(h14, aI (k 0) 400 anI)]) (as := [h0, h1, h4, h5, h6, h10, h11, h12, h13]) (zcV (q0 := 0) (ci := 8) (As := []) (rest := []) (Tc := [(h0, ob 8 [.int h0f0, .int h0f1, .int h0f2, .int h0f3, .int h0f4, .int h0f5, .ref h1, .ref h2, .int h0f8, .int h0f9, .ref h3, .ref h4, .ref h5, .ref h6, .ref h7, .ref h8, .ref h9, .int h0f17, .int h0f18, .int h0f19, .ref h10, .ref h11, .ref h12, .ref h13, .int h0f24, .int h0f25, .ref h14, .ref h15, .ref h16, .ref h17, .int h0f30, .int h0f31, .ref h18, .ref h19, .ref h20, .ref h21]), (h1, aI (k 0) 36 anI), (h4, aJ (k 1) 9 anJ), (h5, aJ (k 1) 9 anJ), (h6, aJ (k 1) 9 anJ), (h10, aJ (k 1) 900 (lsP (h0f9.toInt))), (h11, aI (k 0) 100 anI), (h12, aI (k 0) 100 anI), (h13, aI (k 0) 100 anI)]) hx hb hml hown hU hK hT rfl rfl [0, 1, 2, 3, 4, 5, 6, 7, 8] rfl (by decide) (cX11_findList_9a1c7 l D k _ h0 h1 h4 h5 h6 h10 h11 h12 h13 h2 h3 h7 h8 h9 h14 h15 h16 h17 h18 h19 h20 h21 h0f0 h0f1 h0f2 h0f3 h0f4 h0f5 h0f8 h0f9 h0f17 h0f18 h0f19 h0f24 h0f25 h0f30 h0f31 (by omega) (by omega) (by omega) (by omega) (by omega) (by omega) (by omega) (by omega) (by omega) (by omega) (by omega) (by omega) (by omega) (by omega) (by omega)) w1039 w1036 w1038 w47 w72 hdX11_findList ⟨rfl, rfl⟩ ⟨Nat.le_of_ble_eq_true rfl, Nat.le_of_ble_eq_true rfl⟩ rfl hl.1 (Nat.le_of_ble_eq_true rfl) dX11_faithful_10 ⟨Nat.le_of_ble_eq_true rfl, Nat.le_of_ble_eq_true rfl⟩) hT hS hA [0, 1, 2, 3, 4, 5, 6, 7, 8] [9] rfl rfl rfl (by decide) (by decide) (fun H locs hB J hS => ?_)
    obtain ⟨v119, v120, v121, b_v119, b_v120, b_v121, hT1⟩ := hB
    have hT := J _ hT1
    have hT : TP D A [(h14, aI (k 0) 400 anI), (h0, ob 8 [.int h0f0, .int h0f1, .int h0f2, .int h0f3, .int h0f4, .int h0f5, .ref h1, .ref h2, .int h0f8, .int v119, .ref h3, .ref h4, .ref h5, .ref h6, .ref h7, .ref h8, .ref h9, .int h0f17, .int h0f18, .int h0f19, .ref h10, .ref h11, .ref h12, .ref h13, .int v120, .int v121, .ref h14, .ref h15, .ref h16, .ref h17, .int h0f30, .int h0f31, .ref h18, .ref h19, .ref h20, .ref h21]), (h1, aI (k 0) 36 anI), (h4, aJ (k 1) 9 anJ), (h5, aJ (k 1) 9 anJ), (h6, aJ (k 1) 9 anJ), (h10, aJ (k 1) 900 (lsP (v119.toInt))), (h11, aI (k 0) 100 anI), (h12, aI (k 0) 100 anI), (h13, aI (k 0) 100 anI)] _ := hT
    refine lv_iconst (v := 1) hx hb dX11_faithful_13 (by decide) ?_
    refine lv_istore_n (lv' := [(2, .int 1), (0, .ref h0), (1, .int x1)]) hx hb dX11_faithful_14 rfl hl (by decide) rfl (fun ls hl => ?_)
    refine lv_iconst (v := 0) hx hb dX11_faithful_15 (by decide) ?_
    refine lv_istore_n (lv' := [(3, .int 0), (2, .int 1), (0, .ref h0), (1, .int x1)]) hx hb dX11_faithful_16 rfl hl (by decide) rfl (fun ls hl => ?_)
    exact lp17_68 ((v120.toInt + (-1) * (0 : Int32).toInt + 1).toNat + 1) (0) (1) v119 v120 v121 _ _ _ (by have := li_0; have := li_1; omega) (by have := li_0; have := li_1; omega) (by have := li_0; have := li_1; omega) (by have := li_0; have := li_1; omega) (by have := li_0; have := li_1; omega) (by have := li_0; have := li_1; omega)  (Nat.lt_succ_self _) hT hS (lv_sub hl [2, 3, 1, 0] rfl)
  · skip
    have hT := J _ hT1
    have hT : TP D A [(h0, ob 8 [.int h0f0, .int h0f1, .int h0f2, .int h0f3, .int h0f4, .int h0f5, .ref h1, .ref h2, .int h0f8, .int h0f9, .ref h3, .ref h4, .ref h5, .ref h6, .ref h7, .ref h8, .ref h9, .int h0f17, .int h0f18, .int h0f19, .ref h10, .ref h11, .ref h12, .ref h13, .int h0f24, .int h0f25, .ref h14, .ref h15, .ref h16, .ref h17, .int h0f30, .int h0f31, .ref h18, .ref h19, .ref h20, .ref h21]), (h1, aI (k 0) 36 anI), (h4, aJ (k 1) 9 anJ), (h5, aJ (k 1) 9 anJ), (h6, aJ (k 1) 9 anJ), (h10, aJ (k 1) 900 (lsP (h0f9.toInt))), (h11, aI (k 0) 100 anI), (h12, aI (k 0) 100 anI), (h13, aI (k 0) 100 anI), (h14, aI (k 0) 400 anI)] _ := hT
    refine lv_if_ne (tgt := 9) hx hb dX11_faithful_4 (by decide) (fun _ => ?_) (fun cc => absurd cc (by decide +kernel))
    refine lv_aload_n hx hb dX11_faithful_9 rfl (lv_at hl 0 rfl) ?_
    refine tcV (Tc := [(h0, ob 8 [.int h0f0, .int h0f1, .int h0f2, .int h0f3, .int h0f4, .int h0f5, .ref h1, .ref h2, .int h0f8, .int h0f9, .ref h3, .ref h4, .ref h5, .ref h6, .ref h7, .ref h8, .ref h9, .int h0f17, .int h0f18, .int h0f19, .ref h10, .ref h11, .ref h12, .ref h13, .int h0f24, .int h0f25, .ref h14, .ref h15, .ref h16, .ref h17, .int h0f30, .int h0f31, .ref h18, .ref h19, .ref h20, .ref h21]), (h1, aI (k 0) 36 anI), (h4, aJ (k 1) 9 anJ), (h5, aJ (k 1) 9 anJ), (h6, aJ (k 1) 9 anJ), (h10, aJ (k 1) 900 (lsP (h0f9.toInt))), (h11, aI (k 0) 100 anI), (h12, aI (k 0) 100 anI), (h13, aI (k 0) 100 anI)]) (Tr := [(h14, aI (k 0) 400 anI)]) (as := [h0, h1, h4, h5, h6, h10, h11, h12, h13]) (zcV (q0 := 0) (ci := 8) (As := []) (rest := []) (Tc := [(h0, ob 8 [.int h0f0, .int h0f1, .int h0f2, .int h0f3, .int h0f4, .int h0f5, .ref h1, .ref h2, .int h0f8, .int h0f9, .ref h3, .ref h4, .ref h5, .ref h6, .ref h7, .ref h8, .ref h9, .int h0f17, .int h0f18, .int h0f19, .ref h10, .ref h11, .ref h12, .ref h13, .int h0f24, .int h0f25, .ref h14, .ref h15, .ref h16, .ref h17, .int h0f30, .int h0f31, .ref h18, .ref h19, .ref h20, .ref h21]), (h1, aI (k 0) 36 anI), (h4, aJ (k 1) 9 anJ), (h5, aJ (k 1) 9 anJ), (h6, aJ (k 1) 9 anJ), (h10, aJ (k 1) 900 (lsP (h0f9.toInt))), (h11, aI (k 0) 100 anI), (h12, aI (k 0) 100 anI), (h13, aI (k 0) 100 anI)]) hx hb hml hown hU hK hT rfl rfl [0, 1, 2, 3, 4, 5, 6, 7, 8] rfl (by decide) (cX11_findList_9a1c7 l D k _ h0 h1 h4 h5 h6 h10 h11 h12 h13 h2 h3 h7 h8 h9 h14 h15 h16 h17 h18 h19 h20 h21 h0f0 h0f1 h0f2 h0f3 h0f4 h0f5 h0f8 h0f9 h0f17 h0f18 h0f19 h0f24 h0f25 h0f30 h0f31 (by omega) (by omega) (by omega) (by omega) (by omega) (by omega) (by omega) (by omega) (by omega) (by omega) (by omega) (by omega) (by omega) (by omega) (by omega)) w1039 w1036 w1038 w47 w72 hdX11_findList ⟨rfl, rfl⟩ ⟨Nat.le_of_ble_eq_true rfl, Nat.le_of_ble_eq_true rfl⟩ rfl hl.1 (Nat.le_of_ble_eq_true rfl) dX11_faithful_10 ⟨Nat.le_of_ble_eq_true rfl, Nat.le_of_ble_eq_true rfl⟩) hT hS hA [0, 1, 2, 3, 4, 5, 6, 7, 8] [9] rfl rfl rfl (by decide) (by decide) (fun H locs hB J hS => ?_)
    obtain ⟨v123, v124, v125, b_v123, b_v124, b_v125, hT1⟩ := hB
    have hT := J _ hT1
    have hT : TP D A [(h14, aI (k 0) 400 anI), (h0, ob 8 [.int h0f0, .int h0f1, .int h0f2, .int h0f3, .int h0f4, .int h0f5, .ref h1, .ref h2, .int h0f8, .int v123, .ref h3, .ref h4, .ref h5, .ref h6, .ref h7, .ref h8, .ref h9, .int h0f17, .int h0f18, .int h0f19, .ref h10, .ref h11, .ref h12, .ref h13, .int v124, .int v125, .ref h14, .ref h15, .ref h16, .ref h17, .int h0f30, .int h0f31, .ref h18, .ref h19, .ref h20, .ref h21]), (h1, aI (k 0) 36 anI), (h4, aJ (k 1) 9 anJ), (h5, aJ (k 1) 9 anJ), (h6, aJ (k 1) 9 anJ), (h10, aJ (k 1) 900 (lsP (v123.toInt))), (h11, aI (k 0) 100 anI), (h12, aI (k 0) 100 anI), (h13, aI (k 0) 100 anI)] _ := hT
    refine lv_iconst (v := 1) hx hb dX11_faithful_13 (by decide) ?_
    refine lv_istore_n (lv' := [(2, .int 1), (0, .ref h0), (1, .int x1)]) hx hb dX11_faithful_14 rfl hl (by decide) rfl (fun ls hl => ?_)
    refine lv_iconst (v := 0) hx hb dX11_faithful_15 (by decide) ?_
    refine lv_istore_n (lv' := [(3, .int 0), (2, .int 1), (0, .ref h0), (1, .int x1)]) hx hb dX11_faithful_16 rfl hl (by decide) rfl (fun ls hl => ?_)
    exact lp17_68 ((v124.toInt + (-1) * (0 : Int32).toInt + 1).toNat + 1) (0) (1) v123 v124 v125 _ _ _ (by have := li_0; have := li_1; omega) (by have := li_0; have := li_1; omega) (by have := li_0; have := li_1; omega) (by have := li_0; have := li_1; omega) (by have := li_0; have := li_1; omega) (by have := li_0; have := li_1; omega)  (Nat.lt_succ_self _) hT hS (lv_sub hl [2, 3, 1, 0] rfl)
  · skip
    have hT := J _ hT1
    have hT : TP D A [(h0, ob 8 [.int h0f0, .int h0f1, .int h0f2, .int h0f3, .int h0f4, .int h0f5, .ref h1, .ref h2, .int h0f8, .int h0f9, .ref h3, .ref h4, .ref h5, .ref h6, .ref h7, .ref h8, .ref h9, .int h0f17, .int h0f18, .int h0f19, .ref h10, .ref h11, .ref h12, .ref h13, .int h0f24, .int h0f25, .ref h14, .ref h15, .ref h16, .ref h17, .int h0f30, .int h0f31, .ref h18, .ref h19, .ref h20, .ref h21]), (h1, aI (k 0) 36 anI), (h4, aJ (k 1) 9 anJ), (h5, aJ (k 1) 9 anJ), (h6, aJ (k 1) 9 anJ), (h10, aJ (k 1) 900 (lsP (h0f9.toInt))), (h11, aI (k 0) 100 anI), (h12, aI (k 0) 100 anI), (h13, aI (k 0) 100 anI), (h14, aI (k 0) 400 anI)] _ := hT
    refine lv_if_ne (tgt := 9) hx hb dX11_faithful_4 (by decide) (fun _ => ?_) (fun cc => absurd cc (by decide +kernel))
    refine lv_aload_n hx hb dX11_faithful_9 rfl (lv_at hl 0 rfl) ?_
    refine tcV (Tc := [(h0, ob 8 [.int h0f0, .int h0f1, .int h0f2, .int h0f3, .int h0f4, .int h0f5, .ref h1, .ref h2, .int h0f8, .int h0f9, .ref h3, .ref h4, .ref h5, .ref h6, .ref h7, .ref h8, .ref h9, .int h0f17, .int h0f18, .int h0f19, .ref h10, .ref h11, .ref h12, .ref h13, .int h0f24, .int h0f25, .ref h14, .ref h15, .ref h16, .ref h17, .int h0f30, .int h0f31, .ref h18, .ref h19, .ref h20, .ref h21]), (h1, aI (k 0) 36 anI), (h4, aJ (k 1) 9 anJ), (h5, aJ (k 1) 9 anJ), (h6, aJ (k 1) 9 anJ), (h10, aJ (k 1) 900 (lsP (h0f9.toInt))), (h11, aI (k 0) 100 anI), (h12, aI (k 0) 100 anI), (h13, aI (k 0) 100 anI)]) (Tr := [(h14, aI (k 0) 400 anI)]) (as := [h0, h1, h4, h5, h6, h10, h11, h12, h13]) (zcV (q0 := 0) (ci := 8) (As := []) (rest := []) (Tc := [(h0, ob 8 [.int h0f0, .int h0f1, .int h0f2, .int h0f3, .int h0f4, .int h0f5, .ref h1, .ref h2, .int h0f8, .int h0f9, .ref h3, .ref h4, .ref h5, .ref h6, .ref h7, .ref h8, .ref h9, .int h0f17, .int h0f18, .int h0f19, .ref h10, .ref h11, .ref h12, .ref h13, .int h0f24, .int h0f25, .ref h14, .ref h15, .ref h16, .ref h17, .int h0f30, .int h0f31, .ref h18, .ref h19, .ref h20, .ref h21]), (h1, aI (k 0) 36 anI), (h4, aJ (k 1) 9 anJ), (h5, aJ (k 1) 9 anJ), (h6, aJ (k 1) 9 anJ), (h10, aJ (k 1) 900 (lsP (h0f9.toInt))), (h11, aI (k 0) 100 anI), (h12, aI (k 0) 100 anI), (h13, aI (k 0) 100 anI)]) hx hb hml hown hU hK hT rfl rfl [0, 1, 2, 3, 4, 5, 6, 7, 8] rfl (by decide) (cX11_findList_9a1c7 l D k _ h0 h1 h4 h5 h6 h10 h11 h12 h13 h2 h3 h7 h8 h9 h14 h15 h16 h17 h18 h19 h20 h21 h0f0 h0f1 h0f2 h0f3 h0f4 h0f5 h0f8 h0f9 h0f17 h0f18 h0f19 h0f24 h0f25 h0f30 h0f31 (by omega) (by omega) (by omega) (by omega) (by omega) (by omega) (by omega) (by omega) (by omega) (by omega) (by omega) (by omega) (by omega) (by omega) (by omega)) w1039 w1036 w1038 w47 w72 hdX11_findList ⟨rfl, rfl⟩ ⟨Nat.le_of_ble_eq_true rfl, Nat.le_of_ble_eq_true rfl⟩ rfl hl.1 (Nat.le_of_ble_eq_true rfl) dX11_faithful_10 ⟨Nat.le_of_ble_eq_true rfl, Nat.le_of_ble_eq_true rfl⟩) hT hS hA [0, 1, 2, 3, 4, 5, 6, 7, 8] [9] rfl rfl rfl (by decide) (by decide) (fun H locs hB J hS => ?_)
    obtain ⟨v127, v128, v129, b_v127, b_v128, b_v129, hT1⟩ := hB
    have hT := J _ hT1
    have hT : TP D A [(h14, aI (k 0) 400 anI), (h0, ob 8 [.int h0f0, .int h0f1, .int h0f2, .int h0f3, .int h0f4, .int h0f5, .ref h1, .ref h2, .int h0f8, .int v127, .ref h3, .ref h4, .ref h5, .ref h6, .ref h7, .ref h8, .ref h9, .int h0f17, .int h0f18, .int h0f19, .ref h10, .ref h11, .ref h12, .ref h13, .int v128, .int v129, .ref h14, .ref h15, .ref h16, .ref h17, .int h0f30, .int h0f31, .ref h18, .ref h19, .ref h20, .ref h21]), (h1, aI (k 0) 36 anI), (h4, aJ (k 1) 9 anJ), (h5, aJ (k 1) 9 anJ), (h6, aJ (k 1) 9 anJ), (h10, aJ (k 1) 900 (lsP (v127.toInt))), (h11, aI (k 0) 100 anI), (h12, aI (k 0) 100 anI), (h13, aI (k 0) 100 anI)] _ := hT
    refine lv_iconst (v := 1) hx hb dX11_faithful_13 (by decide) ?_
    refine lv_istore_n (lv' := [(2, .int 1), (0, .ref h0), (1, .int x1)]) hx hb dX11_faithful_14 rfl hl (by decide) rfl (fun ls hl => ?_)
    refine lv_iconst (v := 0) hx hb dX11_faithful_15 (by decide) ?_
    refine lv_istore_n (lv' := [(3, .int 0), (2, .int 1), (0, .ref h0), (1, .int x1)]) hx hb dX11_faithful_16 rfl hl (by decide) rfl (fun ls hl => ?_)
    exact lp17_68 ((v128.toInt + (-1) * (0 : Int32).toInt + 1).toNat + 1) (0) (1) v127 v128 v129 _ _ _ (by have := li_0; have := li_1; omega) (by have := li_0; have := li_1; omega) (by have := li_0; have := li_1; omega) (by have := li_0; have := li_1; omega) (by have := li_0; have := li_1; omega) (by have := li_0; have := li_1; omega)  (Nat.lt_succ_self _) hT hS (lv_sub hl [2, 3, 1, 0] rfl)
  · skip
    have hT := J _ hT1
    have hT : TP D A [(h0, ob 8 [.int h0f0, .int h0f1, .int h0f2, .int h0f3, .int h0f4, .int h0f5, .ref h1, .ref h2, .int h0f8, .int h0f9, .ref h3, .ref h4, .ref h5, .ref h6, .ref h7, .ref h8, .ref h9, .int h0f17, .int h0f18, .int h0f19, .ref h10, .ref h11, .ref h12, .ref h13, .int h0f24, .int h0f25, .ref h14, .ref h15, .ref h16, .ref h17, .int h0f30, .int h0f31, .ref h18, .ref h19, .ref h20, .ref h21]), (h1, aI (k 0) 36 anI), (h4, aJ (k 1) 9 anJ), (h5, aJ (k 1) 9 anJ), (h6, aJ (k 1) 9 anJ), (h10, aJ (k 1) 900 (lsP (h0f9.toInt))), (h11, aI (k 0) 100 anI), (h12, aI (k 0) 100 anI), (h13, aI (k 0) 100 anI), (h14, aI (k 0) 400 anI)] _ := hT
    refine lv_if_ne (tgt := 9) hx hb dX11_faithful_4 (by decide) (fun cc => absurd (by decide +kernel) cc) (fun _ => ?_)
    refine lv_iconst (v := (-1)) hx hb dX11_faithful_7 (by decide) ?_
    exact tz_retI (B := B_cX11_faithful_a3187 D k h0 h1 h4 h5 h6 h10 h11 h12 h13 h14 h2 h3 h7 h8 h9 h15 h16 h17 h18 h19 h20 h21 x1 h0f0 h0f1 h0f2 h0f3 h0f4 h0f5 h0f8 h0f9 h0f17 h0f18 h0f19 h0f24 h0f25 h0f30 h0f31) (v := (-1)) hQ hx hb hr hlocks hS (Nat.le_of_ble_eq_true rfl) (Nat.le_of_ble_eq_true rfl) dX11_faithful_8 (⟨h0f9, h0f24, h0f25, (by have := li_m1; omega), (by have := li_m1; omega), (by have := li_m1; omega), (by have := li_m1; omega), hT⟩)
  · skip
    have hT := J _ hT1
    have hT : TP D A [(h0, ob 8 [.int h0f0, .int h0f1, .int h0f2, .int h0f3, .int h0f4, .int h0f5, .ref h1, .ref h2, .int h0f8, .int h0f9, .ref h3, .ref h4, .ref h5, .ref h6, .ref h7, .ref h8, .ref h9, .int h0f17, .int h0f18, .int h0f19, .ref h10, .ref h11, .ref h12, .ref h13, .int h0f24, .int h0f25, .ref h14, .ref h15, .ref h16, .ref h17, .int h0f30, .int h0f31, .ref h18, .ref h19, .ref h20, .ref h21]), (h1, aI (k 0) 36 anI), (h4, aJ (k 1) 9 anJ), (h5, aJ (k 1) 9 anJ), (h6, aJ (k 1) 9 anJ), (h10, aJ (k 1) 900 (lsP (h0f9.toInt))), (h11, aI (k 0) 100 anI), (h12, aI (k 0) 100 anI), (h13, aI (k 0) 100 anI), (h14, aI (k 0) 400 anI)] _ := hT
    refine lv_if_ne (tgt := 9) hx hb dX11_faithful_4 (by decide) (fun _ => ?_) (fun cc => absurd cc (by decide +kernel))
    refine lv_aload_n hx hb dX11_faithful_9 rfl (lv_at hl 0 rfl) ?_
    refine tcV (Tc := [(h0, ob 8 [.int h0f0, .int h0f1, .int h0f2, .int h0f3, .int h0f4, .int h0f5, .ref h1, .ref h2, .int h0f8, .int h0f9, .ref h3, .ref h4, .ref h5, .ref h6, .ref h7, .ref h8, .ref h9, .int h0f17, .int h0f18, .int h0f19, .ref h10, .ref h11, .ref h12, .ref h13, .int h0f24, .int h0f25, .ref h14, .ref h15, .ref h16, .ref h17, .int h0f30, .int h0f31, .ref h18, .ref h19, .ref h20, .ref h21]), (h1, aI (k 0) 36 anI), (h4, aJ (k 1) 9 anJ), (h5, aJ (k 1) 9 anJ), (h6, aJ (k 1) 9 anJ), (h10, aJ (k 1) 900 (lsP (h0f9.toInt))), (h11, aI (k 0) 100 anI), (h12, aI (k 0) 100 anI), (h13, aI (k 0) 100 anI)]) (Tr := [(h14, aI (k 0) 400 anI)]) (as := [h0, h1, h4, h5, h6, h10, h11, h12, h13]) (zcV (q0 := 0) (ci := 8) (As := []) (rest := []) (Tc := [(h0, ob 8 [.int h0f0, .int h0f1, .int h0f2, .int h0f3, .int h0f4, .int h0f5, .ref h1, .ref h2, .int h0f8, .int h0f9, .ref h3, .ref h4, .ref h5, .ref h6, .ref h7, .ref h8, .ref h9, .int h0f17, .int h0f18, .int h0f19, .ref h10, .ref h11, .ref h12, .ref h13, .int h0f24, .int h0f25, .ref h14, .ref h15, .ref h16, .ref h17, .int h0f30, .int h0f31, .ref h18, .ref h19, .ref h20, .ref h21]), (h1, aI (k 0) 36 anI), (h4, aJ (k 1) 9 anJ), (h5, aJ (k 1) 9 anJ), (h6, aJ (k 1) 9 anJ), (h10, aJ (k 1) 900 (lsP (h0f9.toInt))), (h11, aI (k 0) 100 anI), (h12, aI (k 0) 100 anI), (h13, aI (k 0) 100 anI)]) hx hb hml hown hU hK hT rfl rfl [0, 1, 2, 3, 4, 5, 6, 7, 8] rfl (by decide) (cX11_findList_9a1c7 l D k _ h0 h1 h4 h5 h6 h10 h11 h12 h13 h2 h3 h7 h8 h9 h14 h15 h16 h17 h18 h19 h20 h21 h0f0 h0f1 h0f2 h0f3 h0f4 h0f5 h0f8 h0f9 h0f17 h0f18 h0f19 h0f24 h0f25 h0f30 h0f31 (by omega) (by omega) (by omega) (by omega) (by omega) (by omega) (by omega) (by omega) (by omega) (by omega) (by omega) (by omega) (by omega) (by omega) (by omega)) w1039 w1036 w1038 w47 w72 hdX11_findList ⟨rfl, rfl⟩ ⟨Nat.le_of_ble_eq_true rfl, Nat.le_of_ble_eq_true rfl⟩ rfl hl.1 (Nat.le_of_ble_eq_true rfl) dX11_faithful_10 ⟨Nat.le_of_ble_eq_true rfl, Nat.le_of_ble_eq_true rfl⟩) hT hS hA [0, 1, 2, 3, 4, 5, 6, 7, 8] [9] rfl rfl rfl (by decide) (by decide) (fun H locs hB J hS => ?_)
    obtain ⟨v131, v132, v133, b_v131, b_v132, b_v133, hT1⟩ := hB
    have hT := J _ hT1
    have hT : TP D A [(h14, aI (k 0) 400 anI), (h0, ob 8 [.int h0f0, .int h0f1, .int h0f2, .int h0f3, .int h0f4, .int h0f5, .ref h1, .ref h2, .int h0f8, .int v131, .ref h3, .ref h4, .ref h5, .ref h6, .ref h7, .ref h8, .ref h9, .int h0f17, .int h0f18, .int h0f19, .ref h10, .ref h11, .ref h12, .ref h13, .int v132, .int v133, .ref h14, .ref h15, .ref h16, .ref h17, .int h0f30, .int h0f31, .ref h18, .ref h19, .ref h20, .ref h21]), (h1, aI (k 0) 36 anI), (h4, aJ (k 1) 9 anJ), (h5, aJ (k 1) 9 anJ), (h6, aJ (k 1) 9 anJ), (h10, aJ (k 1) 900 (lsP (v131.toInt))), (h11, aI (k 0) 100 anI), (h12, aI (k 0) 100 anI), (h13, aI (k 0) 100 anI)] _ := hT
    refine lv_iconst (v := 1) hx hb dX11_faithful_13 (by decide) ?_
    refine lv_istore_n (lv' := [(2, .int 1), (0, .ref h0), (1, .int x1)]) hx hb dX11_faithful_14 rfl hl (by decide) rfl (fun ls hl => ?_)
    refine lv_iconst (v := 0) hx hb dX11_faithful_15 (by decide) ?_
    refine lv_istore_n (lv' := [(3, .int 0), (2, .int 1), (0, .ref h0), (1, .int x1)]) hx hb dX11_faithful_16 rfl hl (by decide) rfl (fun ls hl => ?_)
    exact lp17_68 ((v132.toInt + (-1) * (0 : Int32).toInt + 1).toNat + 1) (0) (1) v131 v132 v133 _ _ _ (by have := li_0; have := li_1; omega) (by have := li_0; have := li_1; omega) (by have := li_0; have := li_1; omega) (by have := li_0; have := li_1; omega) (by have := li_0; have := li_1; omega) (by have := li_0; have := li_1; omega)  (Nat.lt_succ_self _) hT hS (lv_sub hl [2, 3, 1, 0] rfl)
abbrev Rm_cX10_isOfStart_9ed9b : Room := { frames := 0, cells := 0, slots := 0, locals := 0 }
abbrev B_cX10_isOfStart_9ed9b (D : va_G) (k : Nat → ClassId) (x0 : Int32) (A : Nat → Prop) (r : Int32) (H : Heap) : Prop := (0 ≤ r.toInt ∧ r.toInt ≤ 1) ∧ TP D A [] H
set_option maxHeartbeats 4000000 in
set_option maxRecDepth 100000 in
theorem cX10_isOfStart_9ed9b (l : Launch) (D : va_G) (k : Nat → ClassId) (sz : Nat) (x0 : Int32) : Met l yX10_isOfStart (Cond.code yX10_isOfStart cX10_isOfStart 1 (some .boolean) :: uw) Rm_cX10_isOfStart_9ed9b (pT D k sz [.int x0] []) (qI (B_cX10_isOfStart_9ed9b D k x0 (zA [] sz)) (zA [] sz)) 0 0 (zA [] sz) := by
  refine tz_begin (as := []) (Qc := fun A => qI (B_cX10_isOfStart_9ed9b D k x0 A) A) (by decide +kernel) rfl (Nat.le_of_ble_eq_true rfl) ?_
  intro p e s m args below meth c ls A Q hx hb hr hml hown hlocks hin hU hK hT hS hA hl hQ
  have hl : lv_has ls 1 [(0, .int x0)] := hl
  have hT : TP D A [] s.heap := hT
  refine lv_iload_n hx hb dX10_isOfStart_0 rfl (lv_at hl 0 rfl) ?_
  refine lv_sipush (v := (-1000)) hx hb dX10_isOfStart_1 (by decide) ?_
  refine lv_icmp_lt (tgt := 18) hx hb dX10_isOfStart_4 (by decide) (fun c_1 => ?_) (fun c_1 => ?_)
  · skip
    have c_1 := ni_lt c_1 rfl li_m1000
    refine lv_iconst (v := 0) hx hb dX10_isOfStart_18 (by decide) ?_
    exact tz_retZ (B := B_cX10_isOfStart_9ed9b D k x0) (v := 0) hQ hx hb hr hlocks hS (Nat.le_of_ble_eq_true rfl) (Nat.le_of_ble_eq_true rfl) dX10_isOfStart_19 (by have := li_0; omega) (⟨(by have := li_0; omega), hT⟩)
  · skip
    have c_1 := ni_nlt c_1 rfl li_m1000
    refine lv_iload_n hx hb dX10_isOfStart_7 rfl (lv_at hl 0 rfl) ?_
    refine lv_sipush (v := 1000) hx hb dX10_isOfStart_8 (by decide) ?_
    refine lv_icmp_gt (tgt := 18) hx hb dX10_isOfStart_11 (by decide) (fun c_2 => ?_) (fun c_2 => ?_)
    · skip
      have c_2 := ni_lt c_2 li_1000 rfl
      refine lv_iconst (v := 0) hx hb dX10_isOfStart_18 (by decide) ?_
      exact tz_retZ (B := B_cX10_isOfStart_9ed9b D k x0) (v := 0) hQ hx hb hr hlocks hS (Nat.le_of_ble_eq_true rfl) (Nat.le_of_ble_eq_true rfl) dX10_isOfStart_19 (by have := li_0; omega) (⟨(by have := li_0; omega), hT⟩)
    · skip
      have c_2 := ni_nlt c_2 li_1000 rfl
      refine lv_iconst (v := 1) hx hb dX10_isOfStart_14 (by decide) ?_
      refine lv_goto (tgt := 19) hx hb dX10_isOfStart_15 (by decide) ?_
      exact tz_retZ (B := B_cX10_isOfStart_9ed9b D k x0) (v := 1) hQ hx hb hr hlocks hS (Nat.le_of_ble_eq_true rfl) (Nat.le_of_ble_eq_true rfl) dX10_isOfStart_19 (by have := li_1; omega) (⟨(by have := li_1; omega), hT⟩)
abbrev Rm_cX10_isStart_c203d : Room := { frames := 1, cells := 0, slots := 0, locals := 20 }
abbrev B_cX10_isStart_c203d (D : va_G) (k : Nat → ClassId) (x0 : Int32) (x1 : Int32) (x2 : Int32) (A : Nat → Prop) (r : Int32) (H : Heap) : Prop := (0 ≤ r.toInt ∧ r.toInt ≤ 1) ∧ TP D A [] H
set_option maxHeartbeats 4000000 in
set_option maxRecDepth 100000 in
theorem cX10_isStart_c203d (l : Launch) (D : va_G) (k : Nat → ClassId) (sz : Nat) (x0 : Int32) (x1 : Int32) (x2 : Int32) : Met l yX10_isStart (Cond.code yX10_isStart cX10_isStart 3 (some .boolean) :: uw) Rm_cX10_isStart_c203d (pT D k sz [.int x0, .int x1, .int x2] []) (qI (B_cX10_isStart_c203d D k x0 x1 x2 (zA [] sz)) (zA [] sz)) 0 0 (zA [] sz) := by
  refine tz_begin (as := []) (Qc := fun A => qI (B_cX10_isStart_c203d D k x0 x1 x2 A) A) (by decide +kernel) rfl (Nat.le_of_ble_eq_true rfl) ?_
  intro p e s m args below meth c ls A Q hx hb hr hml hown hlocks hin hU hK hT hS hA hl hQ
  have hl : lv_has ls 3 [(0, .int x0), (1, .int x1), (2, .int x2)] := hl
  have hT : TP D A [] s.heap := hT
  refine lv_iload_n hx hb dX10_isStart_0 rfl (lv_at hl 0 rfl) ?_
  refine tcI (Tc := []) (Tr := []) (as := []) (zcS (As := [.int x0]) (rest := []) (Tc := []) hx hb hml hown hU hK hT [] rfl (by decide) (cX10_isOfStart_9ed9b l D k _ x0) w691 w689 w690 w63 hdX10_isOfStart ⟨rfl, rfl⟩ ⟨Nat.le_of_ble_eq_true rfl, Nat.le_of_ble_eq_true rfl⟩ rfl hl.1 (Nat.le_of_ble_eq_true rfl) dX10_isStart_1 ⟨Nat.le_of_ble_eq_true rfl, Nat.le_of_ble_eq_true rfl⟩) hT hS hA [] [] rfl rfl rfl (by decide) (by decide) (fun r1 H locs hB J hS => ?_)
  obtain ⟨b_r1, hT1⟩ := hB
  have hT := J _ hT1
  have hT : TP D A [] _ := hT
  refine lv_if_eq (tgt := 25) hx hb dX10_isStart_4 (by decide) (fun c_2 => ?_) (fun c_2 => ?_)
  · skip
    have c_2 := ni_eq c_2 rfl li_0
    refine lv_iconst (v := 0) hx hb dX10_isStart_25 (by decide) ?_
    exact tz_retZ (B := B_cX10_isStart_c203d D k x0 x1 x2) (v := 0) hQ hx hb hr hlocks hS (Nat.le_of_ble_eq_true rfl) (Nat.le_of_ble_eq_true rfl) dX10_isStart_26 (by have := li_0; omega) (⟨(by have := li_0; omega), hT⟩)
  · skip
    have c_2 := ni_ne c_2 rfl li_0
    refine lv_iload_n hx hb dX10_isStart_7 rfl (lv_at hl 1 rfl) ?_
    refine tcI (Tc := []) (Tr := []) (as := []) (zcS (As := [.int x1]) (rest := []) (Tc := []) hx hb hml hown hU hK hT [] rfl (by decide) (cX10_isOfStart_9ed9b l D k _ x1) w691 w689 w690 w63 hdX10_isOfStart ⟨rfl, rfl⟩ ⟨Nat.le_of_ble_eq_true rfl, Nat.le_of_ble_eq_true rfl⟩ rfl hl.1 (Nat.le_of_ble_eq_true rfl) dX10_isStart_8 ⟨Nat.le_of_ble_eq_true rfl, Nat.le_of_ble_eq_true rfl⟩) hT hS hA [] [] rfl rfl rfl (by decide) (by decide) (fun r3 H locs hB J hS => ?_)
    obtain ⟨b_r3, hT1⟩ := hB
    have hT := J _ hT1
    have hT : TP D A [] _ := hT
    refine lv_if_eq (tgt := 25) hx hb dX10_isStart_11 (by decide) (fun c_4 => ?_) (fun c_4 => ?_)
    · skip
      have c_4 := ni_eq c_4 rfl li_0
      refine lv_iconst (v := 0) hx hb dX10_isStart_25 (by decide) ?_
      exact tz_retZ (B := B_cX10_isStart_c203d D k x0 x1 x2) (v := 0) hQ hx hb hr hlocks hS (Nat.le_of_ble_eq_true rfl) (Nat.le_of_ble_eq_true rfl) dX10_isStart_26 (by have := li_0; omega) (⟨(by have := li_0; omega), hT⟩)
    · skip
      have c_4 := ni_ne c_4 rfl li_0
      refine lv_iload_n hx hb dX10_isStart_14 rfl (lv_at hl 2 rfl) ?_
      refine tcI (Tc := []) (Tr := []) (as := []) (zcS (As := [.int x2]) (rest := []) (Tc := []) hx hb hml hown hU hK hT [] rfl (by decide) (cX10_isOfStart_9ed9b l D k _ x2) w691 w689 w690 w63 hdX10_isOfStart ⟨rfl, rfl⟩ ⟨Nat.le_of_ble_eq_true rfl, Nat.le_of_ble_eq_true rfl⟩ rfl hl.1 (Nat.le_of_ble_eq_true rfl) dX10_isStart_15 ⟨Nat.le_of_ble_eq_true rfl, Nat.le_of_ble_eq_true rfl⟩) hT hS hA [] [] rfl rfl rfl (by decide) (by decide) (fun r5 H locs hB J hS => ?_)
      obtain ⟨b_r5, hT1⟩ := hB
      have hT := J _ hT1
      have hT : TP D A [] _ := hT
      refine lv_if_eq (tgt := 25) hx hb dX10_isStart_18 (by decide) (fun c_6 => ?_) (fun c_6 => ?_)
      · skip
        have c_6 := ni_eq c_6 rfl li_0
        refine lv_iconst (v := 0) hx hb dX10_isStart_25 (by decide) ?_
        exact tz_retZ (B := B_cX10_isStart_c203d D k x0 x1 x2) (v := 0) hQ hx hb hr hlocks hS (Nat.le_of_ble_eq_true rfl) (Nat.le_of_ble_eq_true rfl) dX10_isStart_26 (by have := li_0; omega) (⟨(by have := li_0; omega), hT⟩)
      · skip
        have c_6 := ni_ne c_6 rfl li_0
        refine lv_iconst (v := 1) hx hb dX10_isStart_21 (by decide) ?_
        refine lv_goto (tgt := 26) hx hb dX10_isStart_22 (by decide) ?_
        exact tz_retZ (B := B_cX10_isStart_c203d D k x0 x1 x2) (v := 1) hQ hx hb hr hlocks hS (Nat.le_of_ble_eq_true rfl) (Nat.le_of_ble_eq_true rfl) dX10_isStart_26 (by have := li_1; omega) (⟨(by have := li_1; omega), hT⟩)
abbrev Rm_cX10_setPoint_928ca : Room := { frames := 0, cells := 0, slots := 0, locals := 0 }
abbrev B_cX10_setPoint_928ca (D : va_G) (k : Nat → ClassId) (h0 h11 h1 h2 h3 h4 h5 h6 h7 h8 h9 h10 h12 : Nat) (x1 : Int32) (x2 : Int32) (x3 : Int32) (h0f2 : Int32) (h0f6 : Int32) (h0f8 : Int32) (h0f11 : Int32) (A : Nat → Prop) (H : Heap) : Prop := TP D A [(h0, ob 7 [.ref h1, .ref h2, .int h0f2, .ref h3, .ref h4, .ref h5, .int h0f6, .ref h6, .int h0f8, .null, .ref h7, .int h0f11, .ref h8, .ref h9, .ref h10, .ref h11, .ref h12]), (h11, aJ (k 1) 9 anJ)] H
set_option maxHeartbeats 4000000 in
set_option maxRecDepth 100000 in
theorem cX10_setPoint_928ca (l : Launch) (D : va_G) (k : Nat → ClassId) (sz : Nat) (h0 h11 h1 h2 h3 h4 h5 h6 h7 h8 h9 h10 h12 : Nat) (x1 : Int32) (x2 : Int32) (x3 : Int32) (h0f2 : Int32) (h0f6 : Int32) (h0f8 : Int32) (h0f11 : Int32) (b_h0f2 : 0 ≤ h0f2.toInt ∧ h0f2.toInt ≤ 1) (b_h0f6 : 0 ≤ h0f6.toInt ∧ h0f6.toInt ≤ 1) (b_h0f8 : 0 ≤ h0f8.toInt ∧ h0f8.toInt ≤ 1) (b_h0f11 : 0 ≤ h0f11.toInt ∧ h0f11.toInt ≤ 200) : Met l yX10_setPoint (Cond.code yX10_setPoint cX10_setPoint 4 none :: uw) Rm_cX10_setPoint_928ca (pT D k sz [.ref h0, .int x1, .int x2, .int x3] [(h0, ob 7 [.ref h1, .ref h2, .int h0f2, .ref h3, .ref h4, .ref h5, .int h0f6, .ref h6, .int h0f8, .null, .ref h7, .int h0f11, .ref h8, .ref h9, .ref h10, .ref h11, .ref h12]), (h11, aJ (k 1) 9 anJ)]) (qV (B_cX10_setPoint_928ca D k h0 h11 h1 h2 h3 h4 h5 h6 h7 h8 h9 h10 h12 x1 x2 x3 h0f2 h0f6 h0f8 h0f11 (zA [h0, h11] sz)) (zA [h0, h11] sz)) 0 0 (zA [h0, h11] sz) := by
  refine tz_begin (as := [h0, h11]) (Qc := fun A => qV (B_cX10_setPoint_928ca D k h0 h11 h1 h2 h3 h4 h5 h6 h7 h8 h9 h10 h12 x1 x2 x3 h0f2 h0f6 h0f8 h0f11 A) A) (by decide +kernel) rfl (Nat.le_of_ble_eq_true rfl) ?_
  intro p e s m args below meth c ls A Q hx hb hr hml hown hlocks hin hU hK hT hS hA hl hQ
  have hl : lv_has ls 4 [(0, .ref h0), (1, .int x1), (2, .int x2), (3, .int x3)] := hl
  have hT : TP D A [(h0, ob 7 [.ref h1, .ref h2, .int h0f2, .ref h3, .ref h4, .ref h5, .int h0f6, .ref h6, .int h0f8, .null, .ref h7, .int h0f11, .ref h8, .ref h9, .ref h10, .ref h11, .ref h12]), (h11, aJ (k 1) 9 anJ)] s.heap := hT
  refine lv_aload_n hx hb dX10_setPoint_0 rfl (lv_at hl 0 rfl) ?_
  refine tz_get (ci := 7) (v := .ref h11) (C := RX10) (F := TX10) (N := 17) hx hb hU iX10 hown hK hT 0 rfl rfl 15 (by decide) w264 (fun _ h9 => h9) rfl dX10_setPoint_1 ?_
  refine lv_iconst (v := 0) hx hb dX10_setPoint_4 (by decide) ?_
  refine lv_iload_n hx hb dX10_setPoint_5 rfl (lv_at hl 1 rfl) ?_
  have tb_x1 := i32b x1
  obtain ⟨v1, e_v1⟩ : ∃ x : Int64, x1.toInt64 = x := ⟨_, rfl⟩
  refine lv_i2l (v := v1) hx hb dX10_setPoint_6 e_v1 ?_
  have e_v1 := ai_i2l e_v1 rfl
  refine tz_last hx hb hK hT hS 1 rfl (by have := li_0; omega) (fun _ _ => trivial) dX10_setPoint_7 (fun H locs hT hS => ?_)
  refine lv_aload_n hx hb dX10_setPoint_8 rfl (lv_at hl 0 rfl) ?_
  refine tz_get (ci := 7) (v := .ref h11) (C := RX10) (F := TX10) (N := 17) hx hb hU iX10 hown hK hT 0 rfl rfl 15 (by decide) w264 (fun _ h9 => h9) rfl dX10_setPoint_9 ?_
  refine lv_iconst (v := 1) hx hb dX10_setPoint_12 (by decide) ?_
  refine lv_iload_n hx hb dX10_setPoint_13 rfl (lv_at hl 2 rfl) ?_
  have tb_x2 := i32b x2
  obtain ⟨v2, e_v2⟩ : ∃ x : Int64, x2.toInt64 = x := ⟨_, rfl⟩
  refine lv_i2l (v := v2) hx hb dX10_setPoint_14 e_v2 ?_
  have e_v2 := ai_i2l e_v2 rfl
  refine tz_last hx hb hK hT hS 1 rfl (by have := li_1; omega) (fun _ _ => trivial) dX10_setPoint_15 (fun H locs hT hS => ?_)
  refine lv_aload_n hx hb dX10_setPoint_16 rfl (lv_at hl 0 rfl) ?_
  refine tz_get (ci := 7) (v := .ref h11) (C := RX10) (F := TX10) (N := 17) hx hb hU iX10 hown hK hT 0 rfl rfl 15 (by decide) w264 (fun _ h9 => h9) rfl dX10_setPoint_17 ?_
  refine lv_iconst (v := 2) hx hb dX10_setPoint_20 (by decide) ?_
  refine lv_iload_n hx hb dX10_setPoint_21 rfl (lv_at hl 3 rfl) ?_
  have tb_x3 := i32b x3
  obtain ⟨v3, e_v3⟩ : ∃ x : Int64, x3.toInt64 = x := ⟨_, rfl⟩
  refine lv_i2l (v := v3) hx hb dX10_setPoint_22 e_v3 ?_
  have e_v3 := ai_i2l e_v3 rfl
  refine tz_last hx hb hK hT hS 1 rfl (by have := li_2; omega) (fun _ _ => trivial) dX10_setPoint_23 (fun H locs hT hS => ?_)
  exact tz_retV (B := B_cX10_setPoint_928ca D k h0 h11 h1 h2 h3 h4 h5 h6 h7 h8 h9 h10 h12 x1 x2 x3 h0f2 h0f6 h0f8 h0f11) hQ hx hb hr hlocks hS (Nat.le_of_ble_eq_true rfl) (Nat.le_of_ble_eq_true rfl) dX10_setPoint_24 (hT)
abbrev Rm_cJ7_fill_53178_46f4a : Room := { frames := 0, cells := 0, slots := 0, locals := 0 }
abbrev B_cJ7_fill_53178_46f4a (D : va_G) (k : Nat → ClassId) (h0 : Nat) (x1 : Int32) (A : Nat → Prop) (H : Heap) : Prop := TP D A [(h0, aI (k 0) 128 (rgI (-1) 59))] H
set_option maxHeartbeats 4000000 in
set_option maxRecDepth 100000 in
theorem cJ7_fill_53178_46f4a (l : Launch) (D : va_G) (k : Nat → ClassId) (sz : Nat) (h0 : Nat) (x1 : Int32) (b_x1 : (-1) ≤ x1.toInt ∧ x1.toInt ≤ (-1)) : Met l yJ7_fill_53178 (Cond.code yJ7_fill_53178 cJ7_fill_53178 4 none :: uw) Rm_cJ7_fill_53178_46f4a (pT D k sz [.ref h0, .int x1] [(h0, aI (k 0) 128 (rgI (-1) 59))]) (qV (B_cJ7_fill_53178_46f4a D k h0 x1 (zA [h0] sz)) (zA [h0] sz)) 0 0 (zA [h0] sz) := by
  refine tz_begin (as := [h0]) (Qc := fun A => qV (B_cJ7_fill_53178_46f4a D k h0 x1 A) A) (by decide +kernel) rfl (Nat.le_of_ble_eq_true rfl) ?_
  intro p e s m args below meth c ls A Q hx hb hr hml hown hlocks hin hU hK hT hS hA hl hQ
  have hl : lv_has ls 4 [(0, .ref h0), (1, .int x1)] := hl
  have hT : TP D A [(h0, aI (k 0) 128 (rgI (-1) 59))] s.heap := hT
  refine lv_iconst (v := 0) hx hb dJ7_fill_53178_0 (by decide) ?_
  refine lv_istore_n (lv' := [(2, .int 0), (0, .ref h0), (1, .int x1)]) hx hb dJ7_fill_53178_1 rfl hl (by decide) rfl (fun ls hl => ?_)
  refine lv_aload_n hx hb dJ7_fill_53178_2 rfl (lv_at hl 1 rfl) ?_
  refine tz_aleni (v := 128) hx hb hK hT 0 rfl (by decide +kernel) dJ7_fill_53178_3 ?_
  refine lv_istore_n (lv' := [(3, .int 128), (2, .int 0), (0, .ref h0), (1, .int x1)]) hx hb dJ7_fill_53178_4 rfl hl (by decide) rfl (fun ls hl => ?_)
  have lp5_17 : ∀ (n : Nat) (y16 : Int32) (H : Heap) (locs : List Loc) (ls : Array Slot), (0 ≤ y16.toInt ∧ y16.toInt ≤ 128) → ((-1) * y16.toInt + 128 + 1).toNat < n → TP D A [(h0, aI (k 0) 128 (rgI (-1) 59))] H → va_S A s.heap H locs → lv_has ls 4 [(0, .ref h0), (1, .int x1), (2, .int y16), (3, .int 128)] → W p l e Rm_cJ7_fill_53178_46f4a s m args below meth c H locs 0 0 Q (F0 m 5 ls []) := by
    intro n
    induction n with
    | zero => intro y16 H locs ls b_y16 hm hT hS hl; exact absurd hm (Nat.not_lt_zero _)
    | succ n ih =>
      intro y16 H locs ls b_y16 hm hT hS hl
      have ih5_17 := ih
      clear ih
      refine lv_iload_n hx hb dJ7_fill_53178_5 rfl (lv_at hl 2 rfl) ?_
      refine lv_iload_n hx hb dJ7_fill_53178_6 rfl (lv_at hl 3 rfl) ?_
      refine lv_icmp_ge (tgt := 20) hx hb dJ7_fill_53178_7 (by decide) (fun c_18 => ?_) (fun c_18 => ?_)
      · skip
        have c_18 := ni_le c_18 li_128 rfl
        exact tz_retV (B := B_cJ7_fill_53178_46f4a D k h0 x1) hQ hx hb hr hlocks hS (Nat.le_of_ble_eq_true rfl) (Nat.le_of_ble_eq_true rfl) dJ7_fill_53178_20 (hT)
      · skip
        have c_18 := ni_nle c_18 li_128 rfl
        refine lv_aload_n hx hb dJ7_fill_53178_10 rfl (lv_at hl 0 rfl) ?_
        refine lv_iload_n hx hb dJ7_fill_53178_11 rfl (lv_at hl 2 rfl) ?_
        refine lv_iload_n hx hb dJ7_fill_53178_12 rfl (lv_at hl 1 rfl) ?_
        refine tz_iast hx hb hK hT hS 0 rfl (by omega) (rg_put (by omega)) dJ7_fill_53178_13 (fun H locs hT hS => ?_)
        obtain ⟨v19, e_v19⟩ : ∃ x : Int32, x = y16 + Int32.ofInt 1 := ⟨_, rfl⟩
        have f_v19 := e_v19.symm
        have e_v19 : v19.toInt = y16.toInt + 1 := ai_add e_v19 rfl (show (Int32.ofInt 1).toInt = 1 from (by decide +kernel)) (by omega)
        refine lv_iinc (v := v19) (lv' := [(2, .int v19), (0, .ref h0), (1, .int x1), (3, .int 128)]) hx hb dJ7_fill_53178_14 hl (k := 2) rfl f_v19 (by decide) rfl (fun ls hl => ?_)
        refine lv_goto (tgt := 5) hx hb dJ7_fill_53178_17 (by decide) ?_
        exact ih5_17 v19 _ _ _ (by omega)  (by omega) hT hS (lv_sub hl [1, 2, 0, 3] rfl)
  exact lp5_17 (((-1) * (0 : Int32).toInt + 128 + 1).toNat + 1) (0) _ _ _ (by have := li_0; omega)  (Nat.lt_succ_self _) hT hS (lv_sub hl [2, 3, 1, 0] rfl)
abbrev Rm_cX4_clear_374d6 : Room := { frames := 1, cells := 0, slots := 0, locals := 23 }
abbrev B_cX4_clear_374d6 (D : va_G) (k : Nat → ClassId) (h0 h6 h1 h2 h3 h4 h5 h7 h8 : Nat) (x1 : Int32) (x2 : Int32) (h0f8 : Int32) (h0f9 : Int32) (h0f10 : Int32) (h0f11 : Int32) (A : Nat → Prop) (H : Heap) : Prop := TP D A [(h0, ob 3 [.ref h1, .ref h2, .ref h3, .ref h4, .ref h5, .ref h6, .ref h7, .ref h8, .int x1, .int x2, .int 0, .int 0]), (h6, aI (k 0) 128 (rgI (-1) 59))] H
set_option maxHeartbeats 4000000 in
set_option maxRecDepth 100000 in
theorem cX4_clear_374d6 (l : Launch) (D : va_G) (k : Nat → ClassId) (sz : Nat) (h0 h6 h1 h2 h3 h4 h5 h7 h8 : Nat) (x1 : Int32) (x2 : Int32) (h0f8 : Int32) (h0f9 : Int32) (h0f10 : Int32) (h0f11 : Int32) (b_x1 : 1 ≤ x1.toInt ∧ x1.toInt ≤ 3) (b_x2 : 60 ≤ x2.toInt ∧ x2.toInt ≤ 60) (b_h0f8 : 0 ≤ h0f8.toInt ∧ h0f8.toInt ≤ 3) (b_h0f9 : 0 ≤ h0f9.toInt ∧ h0f9.toInt ≤ 60) (b_h0f10 : 0 ≤ h0f10.toInt ∧ h0f10.toInt ≤ 60) (b_h0f11 : 0 ≤ h0f11.toInt ∧ h0f11.toInt ≤ 1) : Met l yX4_clear (Cond.code yX4_clear cX4_clear 3 none :: uw) Rm_cX4_clear_374d6 (pT D k sz [.ref h0, .int x1, .int x2] [(h0, ob 3 [.ref h1, .ref h2, .ref h3, .ref h4, .ref h5, .ref h6, .ref h7, .ref h8, .int h0f8, .int h0f9, .int h0f10, .int h0f11]), (h6, aI (k 0) 128 (rgI (-1) 59))]) (qV (B_cX4_clear_374d6 D k h0 h6 h1 h2 h3 h4 h5 h7 h8 x1 x2 h0f8 h0f9 h0f10 h0f11 (zA [h0, h6] sz)) (zA [h0, h6] sz)) 0 0 (zA [h0, h6] sz) := by
  refine tz_begin (as := [h0, h6]) (Qc := fun A => qV (B_cX4_clear_374d6 D k h0 h6 h1 h2 h3 h4 h5 h7 h8 x1 x2 h0f8 h0f9 h0f10 h0f11 A) A) (by decide +kernel) rfl (Nat.le_of_ble_eq_true rfl) ?_
  intro p e s m args below meth c ls A Q hx hb hr hml hown hlocks hin hU hK hT hS hA hl hQ
  have hl : lv_has ls 3 [(0, .ref h0), (1, .int x1), (2, .int x2)] := hl
  have hT : TP D A [(h0, ob 3 [.ref h1, .ref h2, .ref h3, .ref h4, .ref h5, .ref h6, .ref h7, .ref h8, .int h0f8, .int h0f9, .int h0f10, .int h0f11]), (h6, aI (k 0) 128 (rgI (-1) 59))] s.heap := hT
  refine lv_aload_n hx hb dX4_clear_0 rfl (lv_at hl 0 rfl) ?_
  refine lv_iload_n hx hb dX4_clear_1 rfl (lv_at hl 1 rfl) ?_
  refine tz_put (ci := 3) (v := .int x1) (ty := .int) (C := RX4) (F := TX4) (N := 12) hx hb hU iX4 tyX4 tyX4_ok nmX4 hown hK hT hS 0 rfl rfl 8 (by decide) w162 (fun _ h9 => h9) rfl (by decide +kernel) rfl rfl (Nat.le_of_ble_eq_true rfl) dX4_clear_2 (fun H locs hT hS => ?_)
  have hT : TP D A [(h0, ob 3 [.ref h1, .ref h2, .ref h3, .ref h4, .ref h5, .ref h6, .ref h7, .ref h8, .int x1, .int h0f9, .int h0f10, .int h0f11]), (h6, aI (k 0) 128 (rgI (-1) 59))] _ := hT
  refine lv_aload_n hx hb dX4_clear_5 rfl (lv_at hl 0 rfl) ?_
  refine lv_iload_n hx hb dX4_clear_6 rfl (lv_at hl 2 rfl) ?_
  refine tz_put (ci := 3) (v := .int x2) (ty := .int) (C := RX4) (F := TX4) (N := 12) hx hb hU iX4 tyX4 tyX4_ok nmX4 hown hK hT hS 0 rfl rfl 9 (by decide) w163 (fun _ h9 => h9) rfl (by decide +kernel) rfl rfl (Nat.le_of_ble_eq_true rfl) dX4_clear_7 (fun H locs hT hS => ?_)
  have hT : TP D A [(h0, ob 3 [.ref h1, .ref h2, .ref h3, .ref h4, .ref h5, .ref h6, .ref h7, .ref h8, .int x1, .int x2, .int h0f10, .int h0f11]), (h6, aI (k 0) 128 (rgI (-1) 59))] _ := hT
  refine lv_aload_n hx hb dX4_clear_10 rfl (lv_at hl 0 rfl) ?_
  refine lv_iconst (v := 0) hx hb dX4_clear_11 (by decide) ?_
  refine tz_put (ci := 3) (v := .int 0) (ty := .int) (C := RX4) (F := TX4) (N := 12) hx hb hU iX4 tyX4 tyX4_ok nmX4 hown hK hT hS 0 rfl rfl 10 (by decide) w164 (fun _ h9 => h9) rfl (by decide +kernel) rfl rfl (Nat.le_of_ble_eq_true rfl) dX4_clear_12 (fun H locs hT hS => ?_)
  have hT : TP D A [(h0, ob 3 [.ref h1, .ref h2, .ref h3, .ref h4, .ref h5, .ref h6, .ref h7, .ref h8, .int x1, .int x2, .int 0, .int h0f11]), (h6, aI (k 0) 128 (rgI (-1) 59))] _ := hT
  refine lv_aload_n hx hb dX4_clear_15 rfl (lv_at hl 0 rfl) ?_
  refine lv_iconst (v := 0) hx hb dX4_clear_16 (by decide) ?_
  refine tz_put (ci := 3) (v := .int 0) (ty := .boolean) (C := RX4) (F := TX4) (N := 12) hx hb hU iX4 tyX4 tyX4_ok nmX4 hown hK hT hS 0 rfl rfl 11 (by decide) w167 (fun _ h9 => h9) rfl (by decide +kernel) rfl rfl (Nat.le_of_ble_eq_true rfl) dX4_clear_17 (fun H locs hT hS => ?_)
  have hT : TP D A [(h0, ob 3 [.ref h1, .ref h2, .ref h3, .ref h4, .ref h5, .ref h6, .ref h7, .ref h8, .int x1, .int x2, .int 0, .int 0]), (h6, aI (k 0) 128 (rgI (-1) 59))] _ := hT
  refine lv_aload_n hx hb dX4_clear_20 rfl (lv_at hl 0 rfl) ?_
  refine tz_get (ci := 3) (v := .ref h6) (C := RX4) (F := TX4) (N := 12) hx hb hU iX4 hown hK hT 0 rfl rfl 5 (by decide) w159 (fun _ h9 => h9) rfl dX4_clear_21 ?_
  refine lv_iconst (v := (-1)) hx hb dX4_clear_24 (by decide) ?_
  have q_q2 := li_m1
  refine tcV (Tc := [(h6, aI (k 0) 128 (rgI (-1) 59))]) (Tr := [(h0, ob 3 [.ref h1, .ref h2, .ref h3, .ref h4, .ref h5, .ref h6, .ref h7, .ref h8, .int x1, .int x2, .int 0, .int 0])]) (as := [h6]) (zcS (As := [.ref h6, .int (-1)]) (rest := []) (Tc := [(h6, aI (k 0) 128 (rgI (-1) 59))]) hx hb hml hown hU hK hT [1] rfl (by decide) (cJ7_fill_53178_46f4a l D k _ h6 ((-1)) (by have := li_m1; omega)) w311 w497 w310 w73 hdJ7_fill_53178 ⟨rfl, rfl⟩ ⟨Nat.le_of_ble_eq_true rfl, Nat.le_of_ble_eq_true rfl⟩ rfl hl.1 (Nat.le_of_ble_eq_true rfl) dX4_clear_25 ⟨Nat.le_of_ble_eq_true rfl, Nat.le_of_ble_eq_true rfl⟩) hT hS hA [1] [0] rfl rfl rfl (by decide) (by decide) (fun H locs hB J hS => ?_)
  have hT1 := hB
  have hT := J _ hT1
  have hT : TP D A [(h0, ob 3 [.ref h1, .ref h2, .ref h3, .ref h4, .ref h5, .ref h6, .ref h7, .ref h8, .int x1, .int x2, .int 0, .int 0]), (h6, aI (k 0) 128 (rgI (-1) 59))] _ := hT
  exact tz_retV (B := B_cX4_clear_374d6 D k h0 h6 h1 h2 h3 h4 h5 h7 h8 x1 x2 h0f8 h0f9 h0f10 h0f11) hQ hx hb hr hlocks hS (Nat.le_of_ble_eq_true rfl) (Nat.le_of_ble_eq_true rfl) dX4_clear_28 (hT)
abbrev Rm_cX4_start_cf782 : Room := { frames := 0, cells := 0, slots := 0, locals := 0 }
abbrev B_cX4_start_cf782 (D : va_G) (k : Nat → ClassId) (h0 h1 h2 h3 h4 h5 h6 h7 h8 : Nat) (x1 : Int32) (h0f8 : Int32) (h0f9 : Int32) (h0f10 : Int32) (h0f11 : Int32) (A : Nat → Prop) (r : Int32) (H : Heap) : Prop := (0 ≤ r.toInt ∧ r.toInt ≤ 177) ∧ TP D A [(h0, ob 3 [.ref h1, .ref h2, .ref h3, .ref h4, .ref h5, .ref h6, .ref h7, .ref h8, .int h0f8, .int h0f9, .int h0f10, .int h0f11])] H
set_option maxHeartbeats 4000000 in
set_option maxRecDepth 100000 in
theorem cX4_start_cf782 (l : Launch) (D : va_G) (k : Nat → ClassId) (sz : Nat) (h0 h1 h2 h3 h4 h5 h6 h7 h8 : Nat) (x1 : Int32) (h0f8 : Int32) (h0f9 : Int32) (h0f10 : Int32) (h0f11 : Int32) (b_x1 : 0 ≤ x1.toInt ∧ x1.toInt ≤ 59) (b_h0f8 : 0 ≤ h0f8.toInt ∧ h0f8.toInt ≤ 3) (b_h0f9 : 0 ≤ h0f9.toInt ∧ h0f9.toInt ≤ 60) (b_h0f10 : 0 ≤ h0f10.toInt ∧ h0f10.toInt ≤ 60) (b_h0f11 : 0 ≤ h0f11.toInt ∧ h0f11.toInt ≤ 1) : Met l yX4_start (Cond.code yX4_start cX4_start 2 (some .int) :: uw) Rm_cX4_start_cf782 (pT D k sz [.ref h0, .int x1] [(h0, ob 3 [.ref h1, .ref h2, .ref h3, .ref h4, .ref h5, .ref h6, .ref h7, .ref h8, .int h0f8, .int h0f9, .int h0f10, .int h0f11])]) (qI (B_cX4_start_cf782 D k h0 h1 h2 h3 h4 h5 h6 h7 h8 x1 h0f8 h0f9 h0f10 h0f11 (zA [h0] sz)) (zA [h0] sz)) 0 0 (zA [h0] sz) := by
  refine tz_begin (as := [h0]) (Qc := fun A => qI (B_cX4_start_cf782 D k h0 h1 h2 h3 h4 h5 h6 h7 h8 x1 h0f8 h0f9 h0f10 h0f11 A) A) (by decide +kernel) rfl (Nat.le_of_ble_eq_true rfl) ?_
  intro p e s m args below meth c ls A Q hx hb hr hml hown hlocks hin hU hK hT hS hA hl hQ
  have hl : lv_has ls 2 [(0, .ref h0), (1, .int x1)] := hl
  have hT : TP D A [(h0, ob 3 [.ref h1, .ref h2, .ref h3, .ref h4, .ref h5, .ref h6, .ref h7, .ref h8, .int h0f8, .int h0f9, .int h0f10, .int h0f11])] s.heap := hT
  refine lv_iload_n hx hb dX4_start_0 rfl (lv_at hl 1 rfl) ?_
  refine lv_aload_n hx hb dX4_start_1 rfl (lv_at hl 0 rfl) ?_
  refine tz_get (ci := 3) (v := .int h0f8) (C := RX4) (F := TX4) (N := 12) hx hb hU iX4 hown hK hT 0 rfl rfl 8 (by decide) w162 (fun _ h9 => h9) rfl dX4_start_2 ?_
  refine lv_imul hx hb dX4_start_5 (lv_topi (fun v1 e_v1 => ?_))
  have e_v1 := ai_mm (la := 0) (ua := 59) (lb := 0) (ub := 3) e_v1 rfl rfl (by omega) (by decide)
  exact tz_retI (B := B_cX4_start_cf782 D k h0 h1 h2 h3 h4 h5 h6 h7 h8 x1 h0f8 h0f9 h0f10 h0f11) (v := v1) hQ hx hb hr hlocks hS (Nat.le_of_ble_eq_true rfl) (Nat.le_of_ble_eq_true rfl) dX4_start_6 (⟨(by omega), hT⟩)
abbrev Rm_cX4_has_e732f : Room := { frames := 0, cells := 0, slots := 0, locals := 0 }
abbrev B_cX4_has_e732f (D : va_G) (k : Nat → ClassId) (h0 h1 h2 h3 h4 h5 h6 h7 h8 : Nat) (x1 : Int32) (h0f8 : Int32) (h0f9 : Int32) (h0f10 : Int32) (h0f11 : Int32) (A : Nat → Prop) (r : Int32) (H : Heap) : Prop := (0 = r ∧ TP D A [(h0, ob 3 [.ref h1, .ref h2, .ref h3, .ref h4, .ref h5, .ref h6, .ref h7, .ref h8, .int h0f8, .int h0f9, .int h0f10, .int h0f11])] H) ∨ (0 ≤ x1.toInt ∧ x1.toInt < h0f10.toInt ∧ 1 = r ∧ TP D A [(h0, ob 3 [.ref h1, .ref h2, .ref h3, .ref h4, .ref h5, .ref h6, .ref h7, .ref h8, .int h0f8, .int h0f9, .int h0f10, .int h0f11])] H)
set_option maxHeartbeats 4000000 in
set_option maxRecDepth 100000 in
theorem cX4_has_e732f (l : Launch) (D : va_G) (k : Nat → ClassId) (sz : Nat) (h0 h1 h2 h3 h4 h5 h6 h7 h8 : Nat) (x1 : Int32) (h0f8 : Int32) (h0f9 : Int32) (h0f10 : Int32) (h0f11 : Int32) (b_h0f8 : 0 ≤ h0f8.toInt ∧ h0f8.toInt ≤ 3) (b_h0f9 : 0 ≤ h0f9.toInt ∧ h0f9.toInt ≤ 60) (b_h0f10 : 0 ≤ h0f10.toInt ∧ h0f10.toInt ≤ 60) (b_h0f11 : 0 ≤ h0f11.toInt ∧ h0f11.toInt ≤ 1) : Met l yX4_has (Cond.code yX4_has cX4_has 2 (some .boolean) :: uw) Rm_cX4_has_e732f (pT D k sz [.ref h0, .int x1] [(h0, ob 3 [.ref h1, .ref h2, .ref h3, .ref h4, .ref h5, .ref h6, .ref h7, .ref h8, .int h0f8, .int h0f9, .int h0f10, .int h0f11])]) (qI (B_cX4_has_e732f D k h0 h1 h2 h3 h4 h5 h6 h7 h8 x1 h0f8 h0f9 h0f10 h0f11 (zA [h0] sz)) (zA [h0] sz)) 0 0 (zA [h0] sz) := by
  refine tz_begin (as := [h0]) (Qc := fun A => qI (B_cX4_has_e732f D k h0 h1 h2 h3 h4 h5 h6 h7 h8 x1 h0f8 h0f9 h0f10 h0f11 A) A) (by decide +kernel) rfl (Nat.le_of_ble_eq_true rfl) ?_
  intro p e s m args below meth c ls A Q hx hb hr hml hown hlocks hin hU hK hT hS hA hl hQ
  have hl : lv_has ls 2 [(0, .ref h0), (1, .int x1)] := hl
  have hT : TP D A [(h0, ob 3 [.ref h1, .ref h2, .ref h3, .ref h4, .ref h5, .ref h6, .ref h7, .ref h8, .int h0f8, .int h0f9, .int h0f10, .int h0f11])] s.heap := hT
  refine lv_iload_n hx hb dX4_has_0 rfl (lv_at hl 1 rfl) ?_
  refine lv_if_lt (tgt := 16) hx hb dX4_has_1 (by decide) (fun c_1 => ?_) (fun c_1 => ?_)
  · skip
    have c_1 := ni_lt c_1 rfl li_0
    refine lv_iconst (v := 0) hx hb dX4_has_16 (by decide) ?_
    exact tz_retZ (B := B_cX4_has_e732f D k h0 h1 h2 h3 h4 h5 h6 h7 h8 x1 h0f8 h0f9 h0f10 h0f11) (v := 0) hQ hx hb hr hlocks hS (Nat.le_of_ble_eq_true rfl) (Nat.le_of_ble_eq_true rfl) dX4_has_17 (by have := li_0; omega) (Or.inl ⟨rfl, hT⟩)
  · skip
    have c_1 := ni_nlt c_1 rfl li_0
    refine lv_iload_n hx hb dX4_has_4 rfl (lv_at hl 1 rfl) ?_
    refine lv_aload_n hx hb dX4_has_5 rfl (lv_at hl 0 rfl) ?_
    refine tz_get (ci := 3) (v := .int h0f10) (C := RX4) (F := TX4) (N := 12) hx hb hU iX4 hown hK hT 0 rfl rfl 10 (by decide) w164 (fun _ h9 => h9) rfl dX4_has_6 ?_
    refine lv_icmp_ge (tgt := 16) hx hb dX4_has_9 (by decide) (fun c_2 => ?_) (fun c_2 => ?_)
    · skip
      have c_2 := ni_le c_2 rfl rfl
      refine lv_iconst (v := 0) hx hb dX4_has_16 (by decide) ?_
      exact tz_retZ (B := B_cX4_has_e732f D k h0 h1 h2 h3 h4 h5 h6 h7 h8 x1 h0f8 h0f9 h0f10 h0f11) (v := 0) hQ hx hb hr hlocks hS (Nat.le_of_ble_eq_true rfl) (Nat.le_of_ble_eq_true rfl) dX4_has_17 (by have := li_0; omega) (Or.inl ⟨rfl, hT⟩)
    · skip
      have c_2 := ni_nle c_2 rfl rfl
      refine lv_iconst (v := 1) hx hb dX4_has_12 (by decide) ?_
      refine lv_goto (tgt := 17) hx hb dX4_has_13 (by decide) ?_
      exact tz_retZ (B := B_cX4_has_e732f D k h0 h1 h2 h3 h4 h5 h6 h7 h8 x1 h0f8 h0f9 h0f10 h0f11) (v := 1) hQ hx hb hr hlocks hS (Nat.le_of_ble_eq_true rfl) (Nat.le_of_ble_eq_true rfl) dX4_has_17 (by have := li_1; omega) (Or.inr (⟨(by have := li_1; omega), (by have := li_1; omega), rfl, hT⟩))
abbrev Rm_cX4_slotOf_4f0ff : Room := { frames := 0, cells := 0, slots := 0, locals := 0 }
abbrev B_cX4_slotOf_4f0ff (D : va_G) (k : Nat → ClassId) (h0 h1 h7 h2 h3 h4 h5 h6 h8 h9 : Nat) (h0f8 : Int32) (h0f9 : Int32) (h0f10 : Int32) (h0f11 : Int32) (A : Nat → Prop) (r : Int32) (H : Heap) : Prop := (0 ≤ r.toInt ∧ r.toInt ≤ 127) ∧ TP D A [(h0, ob 3 [.ref h2, .ref h3, .ref h4, .ref h5, .ref h6, .ref h7, .ref h8, .ref h9, .int h0f8, .int h0f9, .int h0f10, .int h0f11]), (h1, aJ (k 1) 9 anJ), (h7, aI (k 0) 128 (rgI (-1) 59))] H
set_option maxHeartbeats 4000000 in
set_option maxRecDepth 100000 in
theorem cX4_slotOf_4f0ff (l : Launch) (D : va_G) (k : Nat → ClassId) (sz : Nat) (h0 h1 h7 h2 h3 h4 h5 h6 h8 h9 : Nat) (h0f8 : Int32) (h0f9 : Int32) (h0f10 : Int32) (h0f11 : Int32) (b_h0f8 : 1 ≤ h0f8.toInt ∧ h0f8.toInt ≤ 3) (b_h0f9 : 60 ≤ h0f9.toInt ∧ h0f9.toInt ≤ 60) (b_h0f10 : 0 ≤ h0f10.toInt ∧ h0f10.toInt ≤ 0) (b_h0f11 : 0 ≤ h0f11.toInt ∧ h0f11.toInt ≤ 0) : Met l yX4_slotOf (Cond.code yX4_slotOf cX4_slotOf 5 (some .int) :: uw) Rm_cX4_slotOf_4f0ff (pT D k sz [.ref h0, .ref h1] [(h0, ob 3 [.ref h2, .ref h3, .ref h4, .ref h5, .ref h6, .ref h7, .ref h8, .ref h9, .int h0f8, .int h0f9, .int h0f10, .int h0f11]), (h1, aJ (k 1) 9 anJ), (h7, aI (k 0) 128 (rgI (-1) 59))]) (qI (B_cX4_slotOf_4f0ff D k h0 h1 h7 h2 h3 h4 h5 h6 h8 h9 h0f8 h0f9 h0f10 h0f11 (zA [h0, h1, h7] sz)) (zA [h0, h1, h7] sz)) 0 0 (zA [h0, h1, h7] sz) := by
  refine tz_begin (as := [h0, h1, h7]) (Qc := fun A => qI (B_cX4_slotOf_4f0ff D k h0 h1 h7 h2 h3 h4 h5 h6 h8 h9 h0f8 h0f9 h0f10 h0f11 A) A) (by decide +kernel) rfl (Nat.le_of_ble_eq_true rfl) ?_
  intro p e s m args below meth c ls A Q hx hb hr hml hown hlocks hin hU hK hT hS hA hl hQ
  have hl : lv_has ls 5 [(0, .ref h0), (1, .ref h1)] := hl
  have hT : TP D A [(h0, ob 3 [.ref h2, .ref h3, .ref h4, .ref h5, .ref h6, .ref h7, .ref h8, .ref h9, .int h0f8, .int h0f9, .int h0f10, .int h0f11]), (h1, aJ (k 1) 9 anJ), (h7, aI (k 0) 128 (rgI (-1) 59))] s.heap := hT
  refine lv_lconst (v := 0) hx hb dX4_slotOf_0 (by decide) ?_
  refine lv_lstore_n (lv' := [(2, .long 0), (0, .ref h0), (1, .ref h1)]) hx hb dX4_slotOf_1 rfl hl (by decide) rfl (fun ls hl => ?_)
  refine lv_iconst (v := 0) hx hb dX4_slotOf_2 (by decide) ?_
  refine lv_istore (lv' := [(4, .int 0), (2, .long 0), (0, .ref h0), (1, .ref h1)]) hx hb dX4_slotOf_3 hl (by decide) rfl (fun ls hl => ?_)
  have lp5_7 : ∀ (n : Nat) (y5 : Int32) (y6 : Int64) (H : Heap) (locs : List Loc) (ls : Array Slot), (0 ≤ y5.toInt ∧ y5.toInt ≤ 3) → (h0f8.toInt + (-1) * y5.toInt + 1).toNat < n → TP D A [(h0, ob 3 [.ref h2, .ref h3, .ref h4, .ref h5, .ref h6, .ref h7, .ref h8, .ref h9, .int h0f8, .int h0f9, .int h0f10, .int h0f11]), (h1, aJ (k 1) 9 anJ), (h7, aI (k 0) 128 (rgI (-1) 59))] H → va_S A s.heap H locs → lv_has ls 5 [(0, .ref h0), (1, .ref h1), (2, .long y6), (4, .int y5)] → W p l e Rm_cX4_slotOf_4f0ff s m args below meth c H locs 0 0 Q (F0 m 5 ls []) := by
    intro n
    induction n with
    | zero => intro y5 y6 H locs ls b_y5 hm hT hS hl; exact absurd hm (Nat.not_lt_zero _)
    | succ n ih =>
      intro y5 y6 H locs ls b_y5 hm hT hS hl
      have ih5_7 := ih
      clear ih
      refine lv_iload hx hb dX4_slotOf_5 (lv_at hl 3 rfl) ?_
      refine lv_aload_n hx hb dX4_slotOf_7 rfl (lv_at hl 0 rfl) ?_
      refine tz_get (ci := 3) (v := .int h0f8) (C := RX4) (F := TX4) (N := 12) hx hb hU iX4 hown hK hT 0 rfl rfl 8 (by decide) w162 (fun _ h9 => h9) rfl dX4_slotOf_8 ?_
      refine lv_icmp_ge (tgt := 31) hx hb dX4_slotOf_11 (by decide) (fun c_8 => ?_) (fun c_8 => ?_)
      · skip
        have c_8 := ni_le c_8 rfl rfl
        refine lv_lload_n hx hb dX4_slotOf_31 rfl (lv_at hl 2 rfl) ?_
        refine lv_lload_n hx hb dX4_slotOf_32 rfl (lv_at hl 2 rfl) ?_
        refine lv_bipush (v := 32) hx hb dX4_slotOf_33 (by decide) ?_
        refine lv_lushr hx hb dX4_slotOf_35 rfl (lv_topl (fun v9 _ => ?_))
        refine lv_lxor hx hb dX4_slotOf_36 (lv_topl (fun v10 e_v10 => ?_))
        refine lv_lstore_n (lv' := [(2, .long v10), (0, .ref h0), (1, .ref h1), (4, .int y5)]) hx hb dX4_slotOf_37 rfl hl (by decide) rfl (fun ls hl => ?_)
        refine lv_lload_n hx hb dX4_slotOf_38 rfl (lv_at hl 0 rfl) ?_
        refine lv_lload_n hx hb dX4_slotOf_39 rfl (lv_at hl 0 rfl) ?_
        refine lv_bipush (v := 16) hx hb dX4_slotOf_40 (by decide) ?_
        refine lv_lushr hx hb dX4_slotOf_42 rfl (lv_topl (fun v11 _ => ?_))
        refine lv_lxor hx hb dX4_slotOf_43 (lv_topl (fun v12 e_v12 => ?_))
        refine lv_lstore_n (lv' := [(2, .long v12), (0, .ref h0), (1, .ref h1), (4, .int y5)]) hx hb dX4_slotOf_44 rfl hl (by decide) rfl (fun ls hl => ?_)
        refine lv_lload_n hx hb dX4_slotOf_45 rfl (lv_at hl 0 rfl) ?_
        refine lv_l2i hx hb dX4_slotOf_46 rfl (lv_topi (fun v13 _ => ?_))
        refine lv_aload_n hx hb dX4_slotOf_47 rfl (lv_at hl 1 rfl) ?_
        refine tz_get (ci := 3) (v := .ref h7) (C := RX4) (F := TX4) (N := 12) hx hb hU iX4 hown hK hT 0 rfl rfl 5 (by decide) w159 (fun _ h9 => h9) rfl dX4_slotOf_48 ?_
        refine tz_aleni (v := 128) hx hb hK hT 2 rfl (by decide +kernel) dX4_slotOf_51 ?_
        refine lv_iconst (v := 1) hx hb dX4_slotOf_52 (by decide) ?_
        refine lv_isub hx hb dX4_slotOf_53 (sv_i (v := 127) (by decide +kernel) ?_)
        refine lv_iand hx hb dX4_slotOf_54 (lv_topi (fun v14 e_v14 => ?_))
        have e_v14 := ai_and 7 e_v14 (by decide +kernel) (by decide)
        exact tz_retI (B := B_cX4_slotOf_4f0ff D k h0 h1 h7 h2 h3 h4 h5 h6 h8 h9 h0f8 h0f9 h0f10 h0f11) (v := v14) hQ hx hb hr hlocks hS (Nat.le_of_ble_eq_true rfl) (Nat.le_of_ble_eq_true rfl) dX4_slotOf_55 (⟨(by omega), hT⟩)
      · skip
        have c_8 := ni_nle c_8 rfl rfl
        refine lv_lload_n hx hb dX4_slotOf_14 rfl (lv_at hl 2 rfl) ?_
        refine lv_ldc2 hx hb hown (hU _ w515) dX4_slotOf_15 ?_
        refine lv_lmul hx hb dX4_slotOf_18 (lv_topl (fun v15 e_v15 => ?_))
        refine lv_aload_n hx hb dX4_slotOf_19 rfl (lv_at hl 1 rfl) ?_
        refine lv_iload hx hb dX4_slotOf_20 (lv_at hl 3 rfl) ?_
        refine tz_lald hx hb hK hT 1 rfl (by omega) dX4_slotOf_22 (fun v16 e_v16 => ?_)
        clear e_v16
        refine lv_ladd hx hb dX4_slotOf_23 (lv_topl (fun v17 e_v17 => ?_))
        refine lv_lstore_n (lv' := [(2, .long v17), (0, .ref h0), (1, .ref h1), (4, .int y5)]) hx hb dX4_slotOf_24 rfl hl (by decide) rfl (fun ls hl => ?_)
        obtain ⟨v18, e_v18⟩ : ∃ x : Int32, x = y5 + Int32.ofInt 1 := ⟨_, rfl⟩
        have f_v18 := e_v18.symm
        have e_v18 : v18.toInt = y5.toInt + 1 := ai_add e_v18 rfl (show (Int32.ofInt 1).toInt = 1 from (by decide +kernel)) (by omega)
        refine lv_iinc (v := v18) (lv' := [(4, .int v18), (2, .long v17), (0, .ref h0), (1, .ref h1)]) hx hb dX4_slotOf_25 hl (k := 3) rfl f_v18 (by decide) rfl (fun ls hl => ?_)
        refine lv_goto (tgt := 5) hx hb dX4_slotOf_28 (by decide) ?_
        exact ih5_7 v18 v17 _ _ _ (by omega)  (by omega) hT hS (lv_sub hl [2, 3, 1, 0] rfl)
  exact lp5_7 ((h0f8.toInt + (-1) * (0 : Int32).toInt + 1).toNat + 1) (0) (0) _ _ _ (by have := li_0; have := ll_0; omega)  (Nat.lt_succ_self _) hT hS (lv_sub hl [2, 3, 1, 0] rfl)
abbrev Rm_cX4_append_e5fbb : Room := { frames := 1, cells := 0, slots := 0, locals := 26 }
abbrev B_cX4_append_e5fbb (D : va_G) (k : Nat → ClassId) (h0 h1 h2 h3 h4 h5 h7 h8 h6 h9 : Nat) (x2 : Int32) (x3 : Int32) (h0f8 : Int32) (h0f9 : Int32) (h0f10 : Int32) (h0f11 : Int32) (A : Nat → Prop) (r : Int32) (H : Heap) : Prop := ∃ o0 : Int32, (1 ≤ o0.toInt ∧ o0.toInt ≤ 1) ∧ h0f10 = r ∧ TP D A [(h0, ob 3 [.ref h2, .ref h3, .ref h4, .ref h5, .ref h6, .ref h7, .ref h8, .ref h9, .int h0f8, .int h0f9, .int o0, .int h0f11]), (h1, aJ (k 1) 9 anJ), (h2, aJ (k 1) 180 anJ), (h3, aI (k 0) 60 anI), (h4, aI (k 0) 60 anI), (h5, aI (k 0) 60 anI), (h7, aI (k 0) 128 (rgI (-1) 59)), (h8, aI (k 0) 60 (rgI (-1) 59))] H
set_option maxHeartbeats 4000000 in
set_option maxRecDepth 100000 in
theorem cX4_append_e5fbb (l : Launch) (D : va_G) (k : Nat → ClassId) (sz : Nat) (h0 h1 h2 h3 h4 h5 h7 h8 h6 h9 : Nat) (x2 : Int32) (x3 : Int32) (h0f8 : Int32) (h0f9 : Int32) (h0f10 : Int32) (h0f11 : Int32) (b_x2 : (-3) ≤ x2.toInt ∧ x2.toInt ≤ (-3)) (b_x3 : (-3) ≤ x3.toInt ∧ x3.toInt ≤ (-3)) (b_h0f8 : 1 ≤ h0f8.toInt ∧ h0f8.toInt ≤ 3) (b_h0f9 : 60 ≤ h0f9.toInt ∧ h0f9.toInt ≤ 60) (b_h0f10 : 0 ≤ h0f10.toInt ∧ h0f10.toInt ≤ 0) (b_h0f11 : 0 ≤ h0f11.toInt ∧ h0f11.toInt ≤ 0) : Met l yX4_append (Cond.code yX4_append cX4_append 6 (some .int) :: uw) Rm_cX4_append_e5fbb (pT D k sz [.ref h0, .ref h1, .int x2, .int x3] [(h0, ob 3 [.ref h2, .ref h3, .ref h4, .ref h5, .ref h6, .ref h7, .ref h8, .ref h9, .int h0f8, .int h0f9, .int h0f10, .int h0f11]), (h1, aJ (k 1) 9 anJ), (h2, aJ (k 1) 180 anJ), (h3, aI (k 0) 60 anI), (h4, aI (k 0) 60 anI), (h5, aI (k 0) 60 anI), (h7, aI (k 0) 128 (rgI (-1) 59)), (h8, aI (k 0) 60 (rgI (-1) 59))]) (qI (B_cX4_append_e5fbb D k h0 h1 h2 h3 h4 h5 h7 h8 h6 h9 x2 x3 h0f8 h0f9 h0f10 h0f11 (zA [h0, h1, h2, h3, h4, h5, h7, h8] sz)) (zA [h0, h1, h2, h3, h4, h5, h7, h8] sz)) 0 0 (zA [h0, h1, h2, h3, h4, h5, h7, h8] sz) := by
  refine tz_begin (as := [h0, h1, h2, h3, h4, h5, h7, h8]) (Qc := fun A => qI (B_cX4_append_e5fbb D k h0 h1 h2 h3 h4 h5 h7 h8 h6 h9 x2 x3 h0f8 h0f9 h0f10 h0f11 A) A) (by decide +kernel) rfl (Nat.le_of_ble_eq_true rfl) ?_
  intro p e s m args below meth c ls A Q hx hb hr hml hown hlocks hin hU hK hT hS hA hl hQ
  have hl : lv_has ls 6 [(0, .ref h0), (1, .ref h1), (2, .int x2), (3, .int x3)] := hl
  have hT : TP D A [(h0, ob 3 [.ref h2, .ref h3, .ref h4, .ref h5, .ref h6, .ref h7, .ref h8, .ref h9, .int h0f8, .int h0f9, .int h0f10, .int h0f11]), (h1, aJ (k 1) 9 anJ), (h2, aJ (k 1) 180 anJ), (h3, aI (k 0) 60 anI), (h4, aI (k 0) 60 anI), (h5, aI (k 0) 60 anI), (h7, aI (k 0) 128 (rgI (-1) 59)), (h8, aI (k 0) 60 (rgI (-1) 59))] s.heap := hT
  refine lv_aload_n hx hb dX4_append_0 rfl (lv_at hl 0 rfl) ?_
  refine tz_get (ci := 3) (v := .int h0f10) (C := RX4) (F := TX4) (N := 12) hx hb hU iX4 hown hK hT 0 rfl rfl 10 (by decide) w164 (fun _ h9 => h9) rfl dX4_append_1 ?_
  refine lv_aload_n hx hb dX4_append_4 rfl (lv_at hl 0 rfl) ?_
  refine tz_get (ci := 3) (v := .int h0f9) (C := RX4) (F := TX4) (N := 12) hx hb hU iX4 hown hK hT 0 rfl rfl 9 (by decide) w163 (fun _ h9 => h9) rfl dX4_append_5 ?_
  refine lv_icmp_lt (tgt := 13) hx hb dX4_append_8 (by decide) (fun c_1 => ?_) (fun c_1 => ?_)
  · skip
    have c_1 := ni_lt c_1 rfl rfl
    refine lv_aload_n hx hb dX4_append_13 rfl (lv_at hl 0 rfl) ?_
    refine tz_get (ci := 3) (v := .int h0f10) (C := RX4) (F := TX4) (N := 12) hx hb hU iX4 hown hK hT 0 rfl rfl 10 (by decide) w164 (fun _ h9 => h9) rfl dX4_append_14 ?_
    refine lv_istore (lv' := [(4, .int h0f10), (0, .ref h0), (1, .ref h1), (2, .int x2), (3, .int x3)]) hx hb dX4_append_17 hl (by decide) rfl (fun ls hl => ?_)
    refine lv_aload_n hx hb dX4_append_19 rfl (lv_at hl 2 rfl) ?_
    refine lv_iconst (v := 0) hx hb dX4_append_20 (by decide) ?_
    refine lv_aload_n hx hb dX4_append_21 rfl (lv_at hl 1 rfl) ?_
    refine tz_get (ci := 3) (v := .ref h2) (C := RX4) (F := TX4) (N := 12) hx hb hU iX4 hown hK hT 0 rfl rfl 0 (by decide) w149 (fun _ h9 => h9) rfl dX4_append_22 ?_
    refine lv_aload_n hx hb dX4_append_25 rfl (lv_at hl 1 rfl) ?_
    refine lv_iload hx hb dX4_append_26 (lv_at hl 0 rfl) ?_
    refine tcI (Tc := [(h0, ob 3 [.ref h2, .ref h3, .ref h4, .ref h5, .ref h6, .ref h7, .ref h8, .ref h9, .int h0f8, .int h0f9, .int h0f10, .int h0f11])]) (Tr := [(h1, aJ (k 1) 9 anJ), (h2, aJ (k 1) 180 anJ), (h3, aI (k 0) 60 anI), (h4, aI (k 0) 60 anI), (h5, aI (k 0) 60 anI), (h7, aI (k 0) 128 (rgI (-1) 59)), (h8, aI (k 0) 60 (rgI (-1) 59))]) (as := [h0]) (zcV (q0 := 0) (ci := 3) (As := [.int h0f10]) (rest := [.ref h2, .int 0, .ref h1]) (Tc := [(h0, ob 3 [.ref h2, .ref h3, .ref h4, .ref h5, .ref h6, .ref h7, .ref h8, .ref h9, .int h0f8, .int h0f9, .int h0f10, .int h0f11])]) hx hb hml hown hU hK hT rfl rfl [0] rfl (by decide) (cX4_start_cf782 l D k _ h0 h2 h3 h4 h5 h6 h7 h8 h9 h0f10 h0f8 h0f9 h0f10 h0f11 (by omega) (by omega) (by omega) (by omega) (by omega)) w505 w502 w503 w504 w66 hdX4_start ⟨rfl, rfl⟩ ⟨Nat.le_of_ble_eq_true rfl, Nat.le_of_ble_eq_true rfl⟩ rfl hl.1 (Nat.le_of_ble_eq_true rfl) dX4_append_28 ⟨Nat.le_of_ble_eq_true rfl, Nat.le_of_ble_eq_true rfl⟩) hT hS hA [0] [1, 2, 3, 4, 5, 6, 7] rfl rfl rfl (by decide) (by decide) (fun r2 H locs hB J hS => ?_)
    obtain ⟨b_r2, hT1⟩ := hB
    have hT := J _ hT1
    have hT : TP D A [(h1, aJ (k 1) 9 anJ), (h2, aJ (k 1) 180 anJ), (h3, aI (k 0) 60 anI), (h4, aI (k 0) 60 anI), (h5, aI (k 0) 60 anI), (h7, aI (k 0) 128 (rgI (-1) 59)), (h8, aI (k 0) 60 (rgI (-1) 59)), (h0, ob 3 [.ref h2, .ref h3, .ref h4, .ref h5, .ref h6, .ref h7, .ref h8, .ref h9, .int h0f8, .int h0f9, .int h0f10, .int h0f11])] _ := hT
    refine lv_aload_n hx hb dX4_append_31 rfl (lv_at hl 1 rfl) ?_
    refine tz_get (ci := 3) (v := .int h0f8) (C := RX4) (F := TX4) (N := 12) hx hb hU iX4 hown hK hT 7 rfl rfl 8 (by decide) w162 (fun _ h9 => h9) rfl dX4_append_32 ?_
    refine tz_copyl hx hb (by rw [hml]; exact hl.1.symm) hown hU w506 w348 w347 w75 hK hT hS 0 1 rfl rfl (by have := li_0; omega) (fun _ _ _ _ => trivial) (Nat.le_of_ble_eq_true rfl) (Nat.le_of_ble_eq_true rfl) dX4_append_35 (fun H locs hT hS => ?_)
    refine lv_aload_n hx hb dX4_append_38 rfl (lv_at hl 1 rfl) ?_
    refine tz_get (ci := 3) (v := .ref h3) (C := RX4) (F := TX4) (N := 12) hx hb hU iX4 hown hK hT 7 rfl rfl 1 (by decide) w151 (fun _ h9 => h9) rfl dX4_append_39 ?_
    refine lv_iload hx hb dX4_append_42 (lv_at hl 0 rfl) ?_
    refine lv_iload_n hx hb dX4_append_44 rfl (lv_at hl 3 rfl) ?_
    refine tz_iast hx hb hK hT hS 2 rfl (by omega) (fun _ _ => trivial) dX4_append_45 (fun H locs hT hS => ?_)
    refine lv_aload_n hx hb dX4_append_46 rfl (lv_at hl 1 rfl) ?_
    refine tz_get (ci := 3) (v := .ref h4) (C := RX4) (F := TX4) (N := 12) hx hb hU iX4 hown hK hT 7 rfl rfl 2 (by decide) w153 (fun _ h9 => h9) rfl dX4_append_47 ?_
    refine lv_iload hx hb dX4_append_50 (lv_at hl 0 rfl) ?_
    refine lv_iload_n hx hb dX4_append_52 rfl (lv_at hl 4 rfl) ?_
    refine tz_iast hx hb hK hT hS 3 rfl (by omega) (fun _ _ => trivial) dX4_append_53 (fun H locs hT hS => ?_)
    refine lv_aload_n hx hb dX4_append_54 rfl (lv_at hl 1 rfl) ?_
    refine tz_get (ci := 3) (v := .ref h5) (C := RX4) (F := TX4) (N := 12) hx hb hU iX4 hown hK hT 7 rfl rfl 3 (by decide) w155 (fun _ h9 => h9) rfl dX4_append_55 ?_
    refine lv_iload hx hb dX4_append_58 (lv_at hl 0 rfl) ?_
    refine lv_aload_n hx hb dX4_append_60 rfl (lv_at hl 1 rfl) ?_
    refine lv_iload_n hx hb dX4_append_61 rfl (lv_at hl 3 rfl) ?_
    refine tcI (Tc := [(h0, ob 3 [.ref h2, .ref h3, .ref h4, .ref h5, .ref h6, .ref h7, .ref h8, .ref h9, .int h0f8, .int h0f9, .int h0f10, .int h0f11])]) (Tr := [(h1, aJ (k 1) 9 anJ), (h2, aJ (k 1) 180 anJ), (h3, aI (k 0) 60 anI), (h4, aI (k 0) 60 anI), (h5, aI (k 0) 60 anI), (h7, aI (k 0) 128 (rgI (-1) 59)), (h8, aI (k 0) 60 (rgI (-1) 59))]) (as := [h0]) (zcV (q0 := 7) (ci := 3) (As := [.int x2]) (rest := [.int h0f10, .ref h5]) (Tc := [(h0, ob 3 [.ref h2, .ref h3, .ref h4, .ref h5, .ref h6, .ref h7, .ref h8, .ref h9, .int h0f8, .int h0f9, .int h0f10, .int h0f11])]) hx hb hml hown hU hK hT rfl rfl [7] rfl (by decide) (cX4_has_e732f l D k _ h0 h2 h3 h4 h5 h6 h7 h8 h9 x2 h0f8 h0f9 h0f10 h0f11 (by omega) (by omega) (by omega) (by omega)) w510 w507 w508 w509 w66 hdX4_has ⟨rfl, rfl⟩ ⟨Nat.le_of_ble_eq_true rfl, Nat.le_of_ble_eq_true rfl⟩ rfl hl.1 (Nat.le_of_ble_eq_true rfl) dX4_append_62 ⟨Nat.le_of_ble_eq_true rfl, Nat.le_of_ble_eq_true rfl⟩) hT hS hA [7] [0, 1, 2, 3, 4, 5, 6] rfl rfl rfl (by decide) (by decide) (fun r3 H locs hB J hS => ?_)
    rcases hB with ⟨rfl, hT1⟩ | ⟨c_4, c_5, rfl, hT1⟩
    · skip
      have hT := J _ hT1
      have hT : TP D A [(h1, aJ (k 1) 9 anJ), (h2, aJ (k 1) 180 anJ), (h3, aI (k 0) 60 anI), (h4, aI (k 0) 60 anI), (h5, aI (k 0) 60 anI), (h7, aI (k 0) 128 (rgI (-1) 59)), (h8, aI (k 0) 60 (rgI (-1) 59)), (h0, ob 3 [.ref h2, .ref h3, .ref h4, .ref h5, .ref h6, .ref h7, .ref h8, .ref h9, .int h0f8, .int h0f9, .int h0f10, .int h0f11])] _ := hT
      refine lv_if_eq (tgt := 79) hx hb dX4_append_65 (by decide) (fun _ => ?_) (fun cc => absurd (by decide +kernel) cc)
      refine lv_iconst (v := 0) hx hb dX4_append_79 (by decide) ?_
      refine tz_iast hx hb hK hT hS 4 rfl (by omega) (fun _ _ => trivial) dX4_append_80 (fun H locs hT hS => ?_)
      refine lv_aload_n hx hb dX4_append_81 rfl (lv_at hl 1 rfl) ?_
      refine lv_aload_n hx hb dX4_append_82 rfl (lv_at hl 2 rfl) ?_
      refine tcI (Tc := [(h0, ob 3 [.ref h2, .ref h3, .ref h4, .ref h5, .ref h6, .ref h7, .ref h8, .ref h9, .int h0f8, .int h0f9, .int h0f10, .int h0f11]), (h1, aJ (k 1) 9 anJ), (h7, aI (k 0) 128 (rgI (-1) 59))]) (Tr := [(h2, aJ (k 1) 180 anJ), (h3, aI (k 0) 60 anI), (h4, aI (k 0) 60 anI), (h5, aI (k 0) 60 anI), (h8, aI (k 0) 60 (rgI (-1) 59))]) (as := [h0, h1, h7]) (zcV (q0 := 7) (ci := 3) (As := [.ref h1]) (rest := []) (Tc := [(h0, ob 3 [.ref h2, .ref h3, .ref h4, .ref h5, .ref h6, .ref h7, .ref h8, .ref h9, .int h0f8, .int h0f9, .int h0f10, .int h0f11]), (h1, aJ (k 1) 9 anJ), (h7, aI (k 0) 128 (rgI (-1) 59))]) hx hb hml hown hU hK hT rfl rfl [7, 0, 5] rfl (by decide) (cX4_slotOf_4f0ff l D k _ h0 h1 h7 h2 h3 h4 h5 h6 h8 h9 h0f8 h0f9 h0f10 h0f11 (by omega) (by omega) (by omega) (by omega)) w514 w511 w513 w11 w66 hdX4_slotOf ⟨rfl, rfl⟩ ⟨Nat.le_of_ble_eq_true rfl, Nat.le_of_ble_eq_true rfl⟩ rfl hl.1 (Nat.le_of_ble_eq_true rfl) dX4_append_83 ⟨Nat.le_of_ble_eq_true rfl, Nat.le_of_ble_eq_true rfl⟩) hT hS hA [7, 0, 5] [1, 2, 3, 4, 6] rfl rfl rfl (by decide) (by decide) (fun r6 H locs hB J hS => ?_)
      obtain ⟨b_r6, hT1⟩ := hB
      have hT := J _ hT1
      have hT : TP D A [(h2, aJ (k 1) 180 anJ), (h3, aI (k 0) 60 anI), (h4, aI (k 0) 60 anI), (h5, aI (k 0) 60 anI), (h8, aI (k 0) 60 (rgI (-1) 59)), (h0, ob 3 [.ref h2, .ref h3, .ref h4, .ref h5, .ref h6, .ref h7, .ref h8, .ref h9, .int h0f8, .int h0f9, .int h0f10, .int h0f11]), (h1, aJ (k 1) 9 anJ), (h7, aI (k 0) 128 (rgI (-1) 59))] _ := hT
      refine lv_istore (lv' := [(5, .int r6), (4, .int h0f10), (0, .ref h0), (1, .ref h1), (2, .int x2), (3, .int x3)]) hx hb dX4_append_86 hl (by decide) rfl (fun ls hl => ?_)
      refine lv_aload_n hx hb dX4_append_88 rfl (lv_at hl 2 rfl) ?_
      refine tz_get (ci := 3) (v := .ref h8) (C := RX4) (F := TX4) (N := 12) hx hb hU iX4 hown hK hT 5 rfl rfl 6 (by decide) w160 (fun _ h9 => h9) rfl dX4_append_89 ?_
      refine lv_iload hx hb dX4_append_92 (lv_at hl 1 rfl) ?_
      refine lv_aload_n hx hb dX4_append_94 rfl (lv_at hl 2 rfl) ?_
      refine tz_get (ci := 3) (v := .ref h7) (C := RX4) (F := TX4) (N := 12) hx hb hU iX4 hown hK hT 5 rfl rfl 5 (by decide) w159 (fun _ h9 => h9) rfl dX4_append_95 ?_
      refine lv_iload hx hb dX4_append_98 (lv_at hl 0 rfl) ?_
      refine tz_iald hx hb hK hT 7 rfl (by omega) dX4_append_100 (fun v7 e_v7 => ?_)
      have e_v7 := rg_get e_v7
      refine tz_iast hx hb hK hT hS 4 rfl (by omega) (rg_put (by omega)) dX4_append_101 (fun H locs hT hS => ?_)
      refine lv_aload_n hx hb dX4_append_102 rfl (lv_at hl 2 rfl) ?_
      refine tz_get (ci := 3) (v := .ref h7) (C := RX4) (F := TX4) (N := 12) hx hb hU iX4 hown hK hT 5 rfl rfl 5 (by decide) w159 (fun _ h9 => h9) rfl dX4_append_103 ?_
      refine lv_iload hx hb dX4_append_106 (lv_at hl 0 rfl) ?_
      refine lv_iload hx hb dX4_append_108 (lv_at hl 1 rfl) ?_
      refine tz_iast hx hb hK hT hS 7 rfl (by omega) (rg_put (by omega)) dX4_append_110 (fun H locs hT hS => ?_)
      refine lv_aload_n hx hb dX4_append_111 rfl (lv_at hl 2 rfl) ?_
      refine lv_dup hx hb dX4_append_112 rfl ?_
      refine tz_get (ci := 3) (v := .int h0f10) (C := RX4) (F := TX4) (N := 12) hx hb hU iX4 hown hK hT 5 rfl rfl 10 (by decide) w164 (fun _ h9 => h9) rfl dX4_append_113 ?_
      refine lv_iconst (v := 1) hx hb dX4_append_116 (by decide) ?_
      have hq8 : h0f10.toInt = 0 := by omega
      refine lv_iadd hx hb dX4_append_117 (lv_topi (fun v9 e_v9 => ?_))
      have e_v9 := ai_add e_v9 hq8 li_1 (by omega)
      refine tz_put (ci := 3) (v := .int v9) (ty := .int) (C := RX4) (F := TX4) (N := 12) hx hb hU iX4 tyX4 tyX4_ok nmX4 hown hK hT hS 5 rfl rfl 10 (by decide) w164 (fun _ h9 => h9) rfl (by decide +kernel) rfl rfl (Nat.le_of_ble_eq_true rfl) dX4_append_118 (fun H locs hT hS => ?_)
      have hT : TP D A [(h2, aJ (k 1) 180 anJ), (h3, aI (k 0) 60 anI), (h4, aI (k 0) 60 anI), (h5, aI (k 0) 60 anI), (h8, aI (k 0) 60 (rgI (-1) 59)), (h0, ob 3 [.ref h2, .ref h3, .ref h4, .ref h5, .ref h6, .ref h7, .ref h8, .ref h9, .int h0f8, .int h0f9, .int v9, .int h0f11]), (h1, aJ (k 1) 9 anJ), (h7, aI (k 0) 128 (rgI (-1) 59))] _ := hT
      refine lv_iload hx hb dX4_append_121 (lv_at hl 1 rfl) ?_
      exact tz_retI (B := B_cX4_append_e5fbb D k h0 h1 h2 h3 h4 h5 h7 h8 h6 h9 x2 x3 h0f8 h0f9 h0f10 h0f11) (v := h0f10) hQ hx hb hr hlocks hS (Nat.le_of_ble_eq_true rfl) (Nat.le_of_ble_eq_true rfl) dX4_append_123 (⟨v9, (by omega), rfl, (hT.sub [5, 6, 0, 1, 2, 3, 7, 4] (by decide) rfl)⟩)
    · skip
      have hT := J _ hT1
      have hT : TP D A [(h1, aJ (k 1) 9 anJ), (h2, aJ (k 1) 180 anJ), (h3, aI (k 0) 60 anI), (h4, aI (k 0) 60 anI), (h5, aI (k 0) 60 anI), (h7, aI (k 0) 128 (rgI (-1) 59)), (h8, aI (k 0) 60 (rgI (-1) 59)), (h0, ob 3 [.ref h2, .ref h3, .ref h4, .ref h5, .ref h6, .ref h7, .ref h8, .ref h9, .int h0f8, .int h0f9, .int h0f10, .int h0f11])] _ := hT
      exfalso; omega
  · skip
    have c_1 := ni_nlt c_1 rfl rfl
    exfalso; omega
abbrev Rm_cX7_addUp_6bbc7 : Room := { frames := 0, cells := 0, slots := 0, locals := 0 }
abbrev B_cX7_addUp_6bbc7 (D : va_G) (k : Nat → ClassId) (h0 h1 : Nat) (x1 : Int32) (x4 : Int32) (x6 : Int32) (A : Nat → Prop) (r : Int64) (H : Heap) : Prop := TP D A [(h0, aJ (k 1) 36 anJ), (h1, aJ (k 1) 180 anJ)] H
set_option maxHeartbeats 4000000 in
set_option maxRecDepth 100000 in
theorem cX7_addUp_6bbc7 (l : Launch) (D : va_G) (k : Nat → ClassId) (sz : Nat) (h0 h1 : Nat) (x1 : Int32) (x4 : Int32) (x6 : Int32) (b_x1 : 0 ≤ x1.toInt ∧ x1.toInt ≤ 33) (b_x4 : 0 ≤ x4.toInt ∧ x4.toInt ≤ 177) (b_x6 : 1 ≤ x6.toInt ∧ x6.toInt ≤ 3) : Met l yX7_addUp (Cond.code yX7_addUp cX7_addUp 10 (some .long) :: uw) Rm_cX7_addUp_6bbc7 (pT D k sz [.ref h0, .int x1, .int 1, .ref h1, .int x4, .int 1, .int x6] [(h0, aJ (k 1) 36 anJ), (h1, aJ (k 1) 180 anJ)]) (qL (B_cX7_addUp_6bbc7 D k h0 h1 x1 x4 x6 (zA [h0, h1] sz)) (zA [h0, h1] sz)) 0 0 (zA [h0, h1] sz) := by
  refine tz_begin (as := [h0, h1]) (Qc := fun A => qL (B_cX7_addUp_6bbc7 D k h0 h1 x1 x4 x6 A) A) (by decide +kernel) rfl (Nat.le_of_ble_eq_true rfl) ?_
  intro p e s m args below meth c ls A Q hx hb hr hml hown hlocks hin hU hK hT hS hA hl hQ
  have hl : lv_has ls 10 [(0, .ref h0), (1, .int x1), (2, .int 1), (3, .ref h1), (4, .int x4), (5, .int 1), (6, .int x6)] := hl
  have hT : TP D A [(h0, aJ (k 1) 36 anJ), (h1, aJ (k 1) 180 anJ)] s.heap := hT
  refine lv_lconst (v := 0) hx hb dX7_addUp_0 (by decide) ?_
  refine lv_lstore (lv' := [(7, .long 0), (0, .ref h0), (1, .int x1), (2, .int 1), (3, .ref h1), (4, .int x4), (5, .int 1), (6, .int x6)]) hx hb dX7_addUp_1 hl (by decide) rfl (fun ls hl => ?_)
  refine lv_iconst (v := 0) hx hb dX7_addUp_3 (by decide) ?_
  refine lv_istore (lv' := [(9, .int 0), (7, .long 0), (0, .ref h0), (1, .int x1), (2, .int 1), (3, .ref h1), (4, .int x4), (5, .int 1), (6, .int x6)]) hx hb dX7_addUp_4 hl (by decide) rfl (fun ls hl => ?_)
  have lp6_7 : ∀ (n : Nat) (y5 : Int32) (y6 : Int64) (H : Heap) (locs : List Loc) (ls : Array Slot), (0 ≤ y5.toInt ∧ y5.toInt ≤ 3) → (x6.toInt + (-1) * y5.toInt + 1).toNat < n → TP D A [(h0, aJ (k 1) 36 anJ), (h1, aJ (k 1) 180 anJ)] H → va_S A s.heap H locs → lv_has ls 10 [(0, .ref h0), (1, .int x1), (2, .int 1), (3, .ref h1), (4, .int x4), (5, .int 1), (6, .int x6), (7, .long y6), (9, .int y5)] → W p l e Rm_cX7_addUp_6bbc7 s m args below meth c H locs 0 0 Q (F0 m 6 ls []) := by
    intro n
    induction n with
    | zero => intro y5 y6 H locs ls b_y5 hm hT hS hl; exact absurd hm (Nat.not_lt_zero _)
    | succ n ih =>
      intro y5 y6 H locs ls b_y5 hm hT hS hl
      have ih6_7 := ih
      clear ih
      refine lv_iload hx hb dX7_addUp_6 (lv_at hl 8 rfl) ?_
      refine lv_iload hx hb dX7_addUp_8 (lv_at hl 6 rfl) ?_
      refine lv_icmp_ge (tgt := 43) hx hb dX7_addUp_10 (by decide) (fun c_8 => ?_) (fun c_8 => ?_)
      · skip
        have c_8 := ni_le c_8 rfl rfl
        refine lv_lload hx hb dX7_addUp_43 (lv_at hl 7 rfl) ?_
        exact tz_retL (B := B_cX7_addUp_6bbc7 D k h0 h1 x1 x4 x6) (v := y6) hQ hx hb hr hlocks hS (Nat.le_of_ble_eq_true rfl) (Nat.le_of_ble_eq_true rfl) dX7_addUp_45 (hT)
      · skip
        have c_8 := ni_nle c_8 rfl rfl
        refine lv_lload hx hb dX7_addUp_13 (lv_at hl 7 rfl) ?_
        refine lv_aload_n hx hb dX7_addUp_15 rfl (lv_at hl 0 rfl) ?_
        refine lv_iload_n hx hb dX7_addUp_16 rfl (lv_at hl 1 rfl) ?_
        refine lv_iload hx hb dX7_addUp_17 (lv_at hl 8 rfl) ?_
        refine lv_iload_n hx hb dX7_addUp_19 rfl (lv_at hl 2 rfl) ?_
        refine lv_imul hx hb dX7_addUp_20 (lv_topi (fun v9 e_v9 => ?_))
        have e_v9 := ai_mul e_v9 rfl li_1 (by omega)
        refine lv_iadd hx hb dX7_addUp_21 (lv_topi (fun v10 e_v10 => ?_))
        have e_v10 := ai_add e_v10 rfl rfl (by omega)
        refine tz_lald hx hb hK hT 0 rfl (by omega) dX7_addUp_22 (fun v11 e_v11 => ?_)
        clear e_v11
        refine lv_aload_n hx hb dX7_addUp_23 rfl (lv_at hl 3 rfl) ?_
        refine lv_iload hx hb dX7_addUp_24 (lv_at hl 4 rfl) ?_
        refine lv_iload hx hb dX7_addUp_26 (lv_at hl 8 rfl) ?_
        refine lv_iload hx hb dX7_addUp_28 (lv_at hl 5 rfl) ?_
        refine lv_imul hx hb dX7_addUp_30 (lv_topi (fun v12 e_v12 => ?_))
        have e_v12 := ai_mul e_v12 rfl li_1 (by omega)
        refine lv_iadd hx hb dX7_addUp_31 (lv_topi (fun v13 e_v13 => ?_))
        have e_v13 := ai_add e_v13 rfl rfl (by omega)
        refine tz_lald hx hb hK hT 1 rfl (by omega) dX7_addUp_32 (fun v14 e_v14 => ?_)
        clear e_v14
        refine lv_lmul hx hb dX7_addUp_33 (lv_topl (fun v15 e_v15 => ?_))
        refine lv_ladd hx hb dX7_addUp_34 (lv_topl (fun v16 e_v16 => ?_))
        refine lv_lstore (lv' := [(7, .long v16), (0, .ref h0), (1, .int x1), (2, .int 1), (3, .ref h1), (4, .int x4), (5, .int 1), (6, .int x6), (9, .int y5)]) hx hb dX7_addUp_35 hl (by decide) rfl (fun ls hl => ?_)
        obtain ⟨v17, e_v17⟩ : ∃ x : Int32, x = y5 + Int32.ofInt 1 := ⟨_, rfl⟩
        have f_v17 := e_v17.symm
        have e_v17 : v17.toInt = y5.toInt + 1 := ai_add e_v17 rfl (show (Int32.ofInt 1).toInt = 1 from (by decide +kernel)) (by omega)
        refine lv_iinc (v := v17) (lv' := [(9, .int v17), (7, .long v16), (0, .ref h0), (1, .int x1), (2, .int 1), (3, .ref h1), (4, .int x4), (5, .int 1), (6, .int x6)]) hx hb dX7_addUp_37 hl (k := 8) rfl f_v17 (by decide) rfl (fun ls hl => ?_)
        refine lv_goto (tgt := 6) hx hb dX7_addUp_40 (by decide) ?_
        exact ih6_7 v17 v16 _ _ _ (by omega)  (by omega) hT hS (lv_sub hl [2, 3, 4, 5, 6, 7, 8, 1, 0] rfl)
  exact lp6_7 ((x6.toInt + (-1) * (0 : Int32).toInt + 1).toNat + 1) (0) (0) _ _ _ (by have := li_0; have := ll_0; omega)  (Nat.lt_succ_self _) hT hS (lv_sub hl [2, 3, 4, 5, 6, 7, 8, 1, 0] rfl)
abbrev Rm_cX7_move_682b6 : Room := { frames := 1, cells := 0, slots := 0, locals := 29 }
abbrev B_cX7_move_682b6 (D : va_G) (k : Nat → ClassId) (h0 h1 h2 : Nat) (x1 : Int32) (x3 : Int32) (x5 : Int32) (A : Nat → Prop) (H : Heap) : Prop := TP D A [(h0, aJ (k 1) 36 anJ), (h1, aJ (k 1) 180 anJ), (h2, aJ (k 1) 60 anJ)] H
set_option maxHeartbeats 4000000 in
set_option maxRecDepth 100000 in
theorem cX7_move_682b6 (l : Launch) (D : va_G) (k : Nat → ClassId) (sz : Nat) (h0 h1 h2 : Nat) (x1 : Int32) (x3 : Int32) (x5 : Int32) (b_x1 : 0 ≤ x1.toInt ∧ x1.toInt ≤ 27) (b_x3 : 0 ≤ x3.toInt ∧ x3.toInt ≤ 177) (b_x5 : 1 ≤ x5.toInt ∧ x5.toInt ≤ 3) : Met l yX7_move (Cond.code yX7_move cX7_move 7 none :: uw) Rm_cX7_move_682b6 (pT D k sz [.ref h0, .int x1, .ref h1, .int x3, .ref h2, .int x5] [(h0, aJ (k 1) 36 anJ), (h1, aJ (k 1) 180 anJ), (h2, aJ (k 1) 60 anJ)]) (qV (B_cX7_move_682b6 D k h0 h1 h2 x1 x3 x5 (zA [h0, h1, h2] sz)) (zA [h0, h1, h2] sz)) 0 0 (zA [h0, h1, h2] sz) := by
  refine tz_begin (as := [h0, h1, h2]) (Qc := fun A => qV (B_cX7_move_682b6 D k h0 h1 h2 x1 x3 x5 A) A) (by decide +kernel) rfl (Nat.le_of_ble_eq_true rfl) ?_
  intro p e s m args below meth c ls A Q hx hb hr hml hown hlocks hin hU hK hT hS hA hl hQ
  have hl : lv_has ls 7 [(0, .ref h0), (1, .int x1), (2, .ref h1), (3, .int x3), (4, .ref h2), (5, .int x5)] := hl
  have hT : TP D A [(h0, aJ (k 1) 36 anJ), (h1, aJ (k 1) 180 anJ), (h2, aJ (k 1) 60 anJ)] s.heap := hT
  refine lv_iconst (v := 0) hx hb dX7_move_0 (by decide) ?_
  refine lv_istore (lv' := [(6, .int 0), (0, .ref h0), (1, .int x1), (2, .ref h1), (3, .int x3), (4, .ref h2), (5, .int x5)]) hx hb dX7_move_1 hl (by decide) rfl (fun ls hl => ?_)
  have lp3_4 : ∀ (n : Nat) (y3 : Int32) (H : Heap) (locs : List Loc) (ls : Array Slot), (0 ≤ y3.toInt ∧ y3.toInt ≤ 3) → (x5.toInt + (-1) * y3.toInt + 1).toNat < n → TP D A [(h0, aJ (k 1) 36 anJ), (h1, aJ (k 1) 180 anJ), (h2, aJ (k 1) 60 anJ)] H → va_S A s.heap H locs → lv_has ls 7 [(0, .ref h0), (1, .int x1), (2, .ref h1), (3, .int x3), (4, .ref h2), (5, .int x5), (6, .int y3)] → W p l e Rm_cX7_move_682b6 s m args below meth c H locs 0 0 Q (F0 m 3 ls []) := by
    intro n
    induction n with
    | zero => intro y3 H locs ls b_y3 hm hT hS hl; exact absurd hm (Nat.not_lt_zero _)
    | succ n ih =>
      intro y3 H locs ls b_y3 hm hT hS hl
      have ih3_4 := ih
      clear ih
      refine lv_iload hx hb dX7_move_3 (lv_at hl 6 rfl) ?_
      refine lv_iload hx hb dX7_move_5 (lv_at hl 5 rfl) ?_
      refine lv_icmp_ge (tgt := 38) hx hb dX7_move_7 (by decide) (fun c_5 => ?_) (fun c_5 => ?_)
      · skip
        have c_5 := ni_le c_5 rfl rfl
        exact tz_retV (B := B_cX7_move_682b6 D k h0 h1 h2 x1 x3 x5) hQ hx hb hr hlocks hS (Nat.le_of_ble_eq_true rfl) (Nat.le_of_ble_eq_true rfl) dX7_move_38 (hT)
      · skip
        have c_5 := ni_nle c_5 rfl rfl
        refine lv_aload hx hb dX7_move_10 (lv_at hl 4 rfl) ?_
        refine lv_iload hx hb dX7_move_12 (lv_at hl 6 rfl) ?_
        refine lv_aload_n hx hb dX7_move_14 rfl (lv_at hl 0 rfl) ?_
        refine lv_iload_n hx hb dX7_move_15 rfl (lv_at hl 1 rfl) ?_
        refine lv_iload hx hb dX7_move_16 (lv_at hl 6 rfl) ?_
        refine lv_iload hx hb dX7_move_18 (lv_at hl 5 rfl) ?_
        refine lv_imul hx hb dX7_move_20 (lv_topi (fun v6 e_v6 => ?_))
        have e_v6 := ai_mm (la := 0) (ua := 2) (lb := 1) (ub := 3) e_v6 rfl rfl (by omega) (by decide)
        refine lv_iadd hx hb dX7_move_21 (lv_topi (fun v7 e_v7 => ?_))
        have e_v7 := ai_add e_v7 rfl rfl (by omega)
        refine lv_iconst (v := 1) hx hb dX7_move_22 (by decide) ?_
        refine lv_aload_n hx hb dX7_move_23 rfl (lv_at hl 2 rfl) ?_
        refine lv_iload_n hx hb dX7_move_24 rfl (lv_at hl 3 rfl) ?_
        refine lv_iconst (v := 1) hx hb dX7_move_25 (by decide) ?_
        refine lv_iload hx hb dX7_move_26 (lv_at hl 5 rfl) ?_
        refine tcL (Tc := [(h0, aJ (k 1) 36 anJ), (h1, aJ (k 1) 180 anJ)]) (Tr := [(h2, aJ (k 1) 60 anJ)]) (as := [h0, h1]) (zcS (As := [.ref h0, .int v7, .int 1, .ref h1, .int x3, .int 1, .int x5]) (rest := [.int y3, .ref h2]) (Tc := [(h0, aJ (k 1) 36 anJ), (h1, aJ (k 1) 180 anJ)]) hx hb hml hown hU hK hT [0, 1] rfl (by decide) (cX7_addUp_6bbc7 l D k _ h0 h1 v7 x3 x5 (by omega) (by omega) (by omega)) w366 w364 w365 w74 hdX7_addUp ⟨rfl, rfl⟩ ⟨Nat.le_of_ble_eq_true rfl, Nat.le_of_ble_eq_true rfl⟩ rfl hl.1 (Nat.le_of_ble_eq_true rfl) dX7_move_28 ⟨Nat.le_of_ble_eq_true rfl, Nat.le_of_ble_eq_true rfl⟩) hT hS hA [0, 1] [2] rfl rfl rfl (by decide) (by decide) (fun r8 H locs hB J hS => ?_)
        have hT1 := hB
        have hT := J _ hT1
        have hT : TP D A [(h2, aJ (k 1) 60 anJ), (h0, aJ (k 1) 36 anJ), (h1, aJ (k 1) 180 anJ)] _ := hT
        refine tz_last hx hb hK hT hS 0 rfl (by omega) (fun _ _ => trivial) dX7_move_31 (fun H locs hT hS => ?_)
        obtain ⟨v9, e_v9⟩ : ∃ x : Int32, x = y3 + Int32.ofInt 1 := ⟨_, rfl⟩
        have f_v9 := e_v9.symm
        have e_v9 : v9.toInt = y3.toInt + 1 := ai_add e_v9 rfl (show (Int32.ofInt 1).toInt = 1 from (by decide +kernel)) (by omega)
        refine lv_iinc (v := v9) (lv' := [(6, .int v9), (0, .ref h0), (1, .int x1), (2, .ref h1), (3, .int x3), (4, .ref h2), (5, .int x5)]) hx hb dX7_move_32 hl (k := 6) rfl f_v9 (by decide) rfl (fun ls hl => ?_)
        refine lv_goto (tgt := 3) hx hb dX7_move_35 (by decide) ?_
        exact ih3_4 v9 _ _ _ (by omega)  (by omega) (hT.sub [1, 2, 0] (by decide) rfl) hS (lv_sub hl [1, 2, 3, 4, 5, 6, 0] rfl)
  exact lp3_4 ((x5.toInt + (-1) * (0 : Int32).toInt + 1).toNat + 1) (0) _ _ _ (by have := li_0; omega)  (Nat.lt_succ_self _) hT hS (lv_sub hl [1, 2, 3, 4, 5, 6, 0] rfl)
abbrev Rm_cX1_go_e8f5f : Room := { frames := 2, cells := 0, slots := 0, locals := 55 }
abbrev B_cX1_go_e8f5f (D : va_G) (k : Nat → ClassId) (h0 h1 h2 h3 h4 : Nat) (x2 : Int32) (x3 : Int32) (h3f0 : Int32) (h3f1 : Int32) (h3f2 : Int32) (A : Nat → Prop) (r : Int32) (H : Heap) : Prop := (0 ≤ r.toInt ∧ r.toInt ≤ 1) ∧ TP D A [(h0, ob 1 [.ref h3]), (h1, aJ (k 1) 180 anJ), (h2, aJ (k 1) 60 anJ), (h3, ob 4 [.int h3f0, .int h3f1, .int h3f2, .ref h4]), (h4, aJ (k 1) 36 anJ)] H
set_option maxHeartbeats 4000000 in
set_option maxRecDepth 100000 in
theorem cX1_go_e8f5f (l : Launch) (D : va_G) (k : Nat → ClassId) (sz : Nat) (h0 h1 h2 h3 h4 : Nat) (x2 : Int32) (x3 : Int32) (h3f0 : Int32) (h3f1 : Int32) (h3f2 : Int32) (b_x2 : 0 ≤ x2.toInt ∧ x2.toInt ≤ 177) (b_x3 : 0 ≤ x3.toInt ∧ x3.toInt ≤ 3) (b_h3f0 : 1 ≤ h3f0.toInt ∧ h3f0.toInt ≤ 3) (b_h3f1 : 0 ≤ h3f1.toInt ∧ h3f1.toInt ≤ 4) : Met l yX1_go (Cond.code yX1_go cX1_go 5 (some .boolean) :: uw) Rm_cX1_go_e8f5f (pT D k sz [.ref h0, .ref h1, .int x2, .int x3, .ref h2] [(h0, ob 1 [.ref h3]), (h1, aJ (k 1) 180 anJ), (h2, aJ (k 1) 60 anJ), (h3, ob 4 [.int h3f0, .int h3f1, .int h3f2, .ref h4]), (h4, aJ (k 1) 36 anJ)]) (qI (B_cX1_go_e8f5f D k h0 h1 h2 h3 h4 x2 x3 h3f0 h3f1 h3f2 (zA [h0, h1, h2, h3, h4] sz)) (zA [h0, h1, h2, h3, h4] sz)) 0 0 (zA [h0, h1, h2, h3, h4] sz) := by
  refine tz_begin (as := [h0, h1, h2, h3, h4]) (Qc := fun A => qI (B_cX1_go_e8f5f D k h0 h1 h2 h3 h4 x2 x3 h3f0 h3f1 h3f2 A) A) (by decide +kernel) rfl (Nat.le_of_ble_eq_true rfl) ?_
  intro p e s m args below meth c ls A Q hx hb hr hml hown hlocks hin hU hK hT hS hA hl hQ
  have hl : lv_has ls 5 [(0, .ref h0), (1, .ref h1), (2, .int x2), (3, .int x3), (4, .ref h2)] := hl
  have hT : TP D A [(h0, ob 1 [.ref h3]), (h1, aJ (k 1) 180 anJ), (h2, aJ (k 1) 60 anJ), (h3, ob 4 [.int h3f0, .int h3f1, .int h3f2, .ref h4]), (h4, aJ (k 1) 36 anJ)] s.heap := hT
  refine lv_aload_n hx hb dX1_go_0 rfl (lv_at hl 0 rfl) ?_
  refine tz_get (ci := 1) (v := .ref h3) (C := RX1) (F := TX1) (N := 1) hx hb hU iX1 hown hK hT 0 rfl rfl 0 (by decide) w218 (fun _ h9 => h9) rfl dX1_go_1 ?_
  refine tz_get (ci := 4) (v := .ref h4) (C := RX5) (F := TX5) (N := 4) hx hb hU iX5 hown hK hT 3 rfl rfl 3 (by decide) w101 (fun _ h9 => h9) rfl dX1_go_4 ?_
  refine lv_iload_n hx hb dX1_go_7 rfl (lv_at hl 3 rfl) ?_
  refine lv_bipush (v := 9) hx hb dX1_go_8 (by decide) ?_
  refine lv_imul hx hb dX1_go_10 (lv_topi (fun v1 e_v1 => ?_))
  have e_v1 := ai_mul e_v1 rfl li_9 (by omega)
  refine lv_aload_n hx hb dX1_go_11 rfl (lv_at hl 1 rfl) ?_
  refine lv_iload_n hx hb dX1_go_12 rfl (lv_at hl 2 rfl) ?_
  refine lv_aload hx hb dX1_go_13 (lv_at hl 4 rfl) ?_
  refine lv_aload_n hx hb dX1_go_15 rfl (lv_at hl 0 rfl) ?_
  refine tz_get (ci := 1) (v := .ref h3) (C := RX1) (F := TX1) (N := 1) hx hb hU iX1 hown hK hT 0 rfl rfl 0 (by decide) w218 (fun _ h9 => h9) rfl dX1_go_16 ?_
  refine tz_get (ci := 4) (v := .int h3f0) (C := RX5) (F := TX5) (N := 4) hx hb hU iX5 hown hK hT 3 rfl rfl 0 (by decide) w94 (fun _ h9 => h9) rfl dX1_go_19 ?_
  refine tcV (Tc := [(h4, aJ (k 1) 36 anJ), (h1, aJ (k 1) 180 anJ), (h2, aJ (k 1) 60 anJ)]) (Tr := [(h0, ob 1 [.ref h3]), (h3, ob 4 [.int h3f0, .int h3f1, .int h3f2, .ref h4])]) (as := [h4, h1, h2]) (zcS (As := [.ref h4, .int v1, .ref h1, .int x2, .ref h2, .int h3f0]) (rest := []) (Tc := [(h4, aJ (k 1) 36 anJ), (h1, aJ (k 1) 180 anJ), (h2, aJ (k 1) 60 anJ)]) hx hb hml hown hU hK hT [4, 1, 2] rfl (by decide) (cX7_move_682b6 l D k _ h4 h1 h2 v1 x2 h3f0 (by omega) (by omega) (by omega)) w536 w534 w535 w74 hdX7_move ⟨rfl, rfl⟩ ⟨Nat.le_of_ble_eq_true rfl, Nat.le_of_ble_eq_true rfl⟩ rfl hl.1 (Nat.le_of_ble_eq_true rfl) dX1_go_22 ⟨Nat.le_of_ble_eq_true rfl, Nat.le_of_ble_eq_true rfl⟩) hT hS hA [4, 1, 2] [0, 3] rfl rfl rfl (by decide) (by decide) (fun H locs hB J hS => ?_)
  have hT1 := hB
  have hT := J _ hT1
  have hT : TP D A [(h0, ob 1 [.ref h3]), (h3, ob 4 [.int h3f0, .int h3f1, .int h3f2, .ref h4]), (h4, aJ (k 1) 36 anJ), (h1, aJ (k 1) 180 anJ), (h2, aJ (k 1) 60 anJ)] _ := hT
  refine lv_aload hx hb dX1_go_25 (lv_at hl 4 rfl) ?_
  refine lv_aload_n hx hb dX1_go_27 rfl (lv_at hl 0 rfl) ?_
  refine tz_get (ci := 1) (v := .ref h3) (C := RX1) (F := TX1) (N := 1) hx hb hU iX1 hown hK hT 0 rfl rfl 0 (by decide) w218 (fun _ h9 => h9) rfl dX1_go_28 ?_
  refine tz_get (ci := 4) (v := .int h3f0) (C := RX5) (F := TX5) (N := 4) hx hb hU iX5 hown hK hT 1 rfl rfl 0 (by decide) w94 (fun _ h9 => h9) rfl dX1_go_31 ?_
  refine lv_ldc2 hx hb hown (hU _ w537) dX1_go_34 ?_
  have q_q4 := ll_1000000000
  refine tcI (Tc := [(h2, aJ (k 1) 60 anJ)]) (Tr := [(h0, ob 1 [.ref h3]), (h3, ob 4 [.int h3f0, .int h3f1, .int h3f2, .ref h4]), (h4, aJ (k 1) 36 anJ), (h1, aJ (k 1) 180 anJ)]) (as := [h2]) (zcS (As := [.ref h2, .int h3f0, .long 1000000000]) (rest := []) (Tc := [(h2, aJ (k 1) 60 anJ)]) hx hb hml hown hU hK hT [4] rfl (by decide) (cX7_isWithin_67f8a l D k _ h2 h3f0 (1000000000) (by omega) (by have := ll_1000000000; omega)) w389 w538 w388 w74 hdX7_isWithin ⟨rfl, rfl⟩ ⟨Nat.le_of_ble_eq_true rfl, Nat.le_of_ble_eq_true rfl⟩ rfl hl.1 (Nat.le_of_ble_eq_true rfl) dX1_go_37 ⟨Nat.le_of_ble_eq_true rfl, Nat.le_of_ble_eq_true rfl⟩) hT hS hA [4] [0, 1, 2, 3] rfl rfl rfl (by decide) (by decide) (fun r3 H locs hB J hS => ?_)
  obtain ⟨b_r3, hT1⟩ := hB
  have hT := J _ hT1
  have hT : TP D A [(h0, ob 1 [.ref h3]), (h3, ob 4 [.int h3f0, .int h3f1, .int h3f2, .ref h4]), (h4, aJ (k 1) 36 anJ), (h1, aJ (k 1) 180 anJ), (h2, aJ (k 1) 60 anJ)] _ := hT
  exact tz_retZ (B := B_cX1_go_e8f5f D k h0 h1 h2 h3 h4 x2 x3 h3f0 h3f1 h3f2) (v := r3) hQ hx hb hr hlocks hS (Nat.le_of_ble_eq_true rfl) (Nat.le_of_ble_eq_true rfl) dX1_go_40 (by omega) (⟨(by omega), (hT.sub [0, 3, 4, 1, 2] (by decide) rfl)⟩)
abbrev Rm_cX4_slotOf_11012 : Room := { frames := 0, cells := 0, slots := 0, locals := 0 }
abbrev B_cX4_slotOf_11012 (D : va_G) (k : Nat → ClassId) (h0 h1 h7 h2 h3 h4 h5 h6 h8 : Nat) (h0f8 : Int32) (h0f9 : Int32) (h0f10 : Int32) (h0f11 : Int32) (A : Nat → Prop) (r : Int32) (H : Heap) : Prop := (0 ≤ r.toInt ∧ r.toInt ≤ 127) ∧ TP D A [(h0, ob 3 [.ref h2, .ref h3, .ref h4, .ref h5, .ref h6, .ref h7, .ref h8, .ref h1, .int h0f8, .int h0f9, .int h0f10, .int h0f11]), (h1, aJ (k 1) 60 anJ), (h7, aI (k 0) 128 (rgI (-1) 59))] H
set_option maxHeartbeats 4000000 in
set_option maxRecDepth 100000 in
theorem cX4_slotOf_11012 (l : Launch) (D : va_G) (k : Nat → ClassId) (sz : Nat) (h0 h1 h7 h2 h3 h4 h5 h6 h8 : Nat) (h0f8 : Int32) (h0f9 : Int32) (h0f10 : Int32) (h0f11 : Int32) (b_h0f8 : 1 ≤ h0f8.toInt ∧ h0f8.toInt ≤ 3) (b_h0f9 : 60 ≤ h0f9.toInt ∧ h0f9.toInt ≤ 60) (b_h0f10 : 1 ≤ h0f10.toInt ∧ h0f10.toInt ≤ 60) (b_h0f11 : 0 ≤ h0f11.toInt ∧ h0f11.toInt ≤ 1) : Met l yX4_slotOf (Cond.code yX4_slotOf cX4_slotOf 5 (some .int) :: uw) Rm_cX4_slotOf_11012 (pT D k sz [.ref h0, .ref h1] [(h0, ob 3 [.ref h2, .ref h3, .ref h4, .ref h5, .ref h6, .ref h7, .ref h8, .ref h1, .int h0f8, .int h0f9, .int h0f10, .int h0f11]), (h1, aJ (k 1) 60 anJ), (h7, aI (k 0) 128 (rgI (-1) 59))]) (qI (B_cX4_slotOf_11012 D k h0 h1 h7 h2 h3 h4 h5 h6 h8 h0f8 h0f9 h0f10 h0f11 (zA [h0, h1, h7] sz)) (zA [h0, h1, h7] sz)) 0 0 (zA [h0, h1, h7] sz) := by
  refine tz_begin (as := [h0, h1, h7]) (Qc := fun A => qI (B_cX4_slotOf_11012 D k h0 h1 h7 h2 h3 h4 h5 h6 h8 h0f8 h0f9 h0f10 h0f11 A) A) (by decide +kernel) rfl (Nat.le_of_ble_eq_true rfl) ?_
  intro p e s m args below meth c ls A Q hx hb hr hml hown hlocks hin hU hK hT hS hA hl hQ
  have hl : lv_has ls 5 [(0, .ref h0), (1, .ref h1)] := hl
  have hT : TP D A [(h0, ob 3 [.ref h2, .ref h3, .ref h4, .ref h5, .ref h6, .ref h7, .ref h8, .ref h1, .int h0f8, .int h0f9, .int h0f10, .int h0f11]), (h1, aJ (k 1) 60 anJ), (h7, aI (k 0) 128 (rgI (-1) 59))] s.heap := hT
  refine lv_lconst (v := 0) hx hb dX4_slotOf_0 (by decide) ?_
  refine lv_lstore_n (lv' := [(2, .long 0), (0, .ref h0), (1, .ref h1)]) hx hb dX4_slotOf_1 rfl hl (by decide) rfl (fun ls hl => ?_)
  refine lv_iconst (v := 0) hx hb dX4_slotOf_2 (by decide) ?_
  refine lv_istore (lv' := [(4, .int 0), (2, .long 0), (0, .ref h0), (1, .ref h1)]) hx hb dX4_slotOf_3 hl (by decide) rfl (fun ls hl => ?_)
  have lp5_7 : ∀ (n : Nat) (y5 : Int32) (y6 : Int64) (H : Heap) (locs : List Loc) (ls : Array Slot), (0 ≤ y5.toInt ∧ y5.toInt ≤ 3) → (h0f8.toInt + (-1) * y5.toInt + 1).toNat < n → TP D A [(h0, ob 3 [.ref h2, .ref h3, .ref h4, .ref h5, .ref h6, .ref h7, .ref h8, .ref h1, .int h0f8, .int h0f9, .int h0f10, .int h0f11]), (h1, aJ (k 1) 60 anJ), (h7, aI (k 0) 128 (rgI (-1) 59))] H → va_S A s.heap H locs → lv_has ls 5 [(0, .ref h0), (1, .ref h1), (2, .long y6), (4, .int y5)] → W p l e Rm_cX4_slotOf_11012 s m args below meth c H locs 0 0 Q (F0 m 5 ls []) := by
    intro n
    induction n with
    | zero => intro y5 y6 H locs ls b_y5 hm hT hS hl; exact absurd hm (Nat.not_lt_zero _)
    | succ n ih =>
      intro y5 y6 H locs ls b_y5 hm hT hS hl
      have ih5_7 := ih
      clear ih
      refine lv_iload hx hb dX4_slotOf_5 (lv_at hl 3 rfl) ?_
      refine lv_aload_n hx hb dX4_slotOf_7 rfl (lv_at hl 0 rfl) ?_
      refine tz_get (ci := 3) (v := .int h0f8) (C := RX4) (F := TX4) (N := 12) hx hb hU iX4 hown hK hT 0 rfl rfl 8 (by decide) w162 (fun _ h9 => h9) rfl dX4_slotOf_8 ?_
      refine lv_icmp_ge (tgt := 31) hx hb dX4_slotOf_11 (by decide) (fun c_8 => ?_) (fun c_8 => ?_)
      · skip
        have c_8 := ni_le c_8 rfl rfl
        refine lv_lload_n hx hb dX4_slotOf_31 rfl (lv_at hl 2 rfl) ?_
        refine lv_lload_n hx hb dX4_slotOf_32 rfl (lv_at hl 2 rfl) ?_
        refine lv_bipush (v := 32) hx hb dX4_slotOf_33 (by decide) ?_
        refine lv_lushr hx hb dX4_slotOf_35 rfl (lv_topl (fun v9 _ => ?_))
        refine lv_lxor hx hb dX4_slotOf_36 (lv_topl (fun v10 e_v10 => ?_))
        refine lv_lstore_n (lv' := [(2, .long v10), (0, .ref h0), (1, .ref h1), (4, .int y5)]) hx hb dX4_slotOf_37 rfl hl (by decide) rfl (fun ls hl => ?_)
        refine lv_lload_n hx hb dX4_slotOf_38 rfl (lv_at hl 0 rfl) ?_
        refine lv_lload_n hx hb dX4_slotOf_39 rfl (lv_at hl 0 rfl) ?_
        refine lv_bipush (v := 16) hx hb dX4_slotOf_40 (by decide) ?_
        refine lv_lushr hx hb dX4_slotOf_42 rfl (lv_topl (fun v11 _ => ?_))
        refine lv_lxor hx hb dX4_slotOf_43 (lv_topl (fun v12 e_v12 => ?_))
        refine lv_lstore_n (lv' := [(2, .long v12), (0, .ref h0), (1, .ref h1), (4, .int y5)]) hx hb dX4_slotOf_44 rfl hl (by decide) rfl (fun ls hl => ?_)
        refine lv_lload_n hx hb dX4_slotOf_45 rfl (lv_at hl 0 rfl) ?_
        refine lv_l2i hx hb dX4_slotOf_46 rfl (lv_topi (fun v13 _ => ?_))
        refine lv_aload_n hx hb dX4_slotOf_47 rfl (lv_at hl 1 rfl) ?_
        refine tz_get (ci := 3) (v := .ref h7) (C := RX4) (F := TX4) (N := 12) hx hb hU iX4 hown hK hT 0 rfl rfl 5 (by decide) w159 (fun _ h9 => h9) rfl dX4_slotOf_48 ?_
        refine tz_aleni (v := 128) hx hb hK hT 2 rfl (by decide +kernel) dX4_slotOf_51 ?_
        refine lv_iconst (v := 1) hx hb dX4_slotOf_52 (by decide) ?_
        refine lv_isub hx hb dX4_slotOf_53 (sv_i (v := 127) (by decide +kernel) ?_)
        refine lv_iand hx hb dX4_slotOf_54 (lv_topi (fun v14 e_v14 => ?_))
        have e_v14 := ai_and 7 e_v14 (by decide +kernel) (by decide)
        exact tz_retI (B := B_cX4_slotOf_11012 D k h0 h1 h7 h2 h3 h4 h5 h6 h8 h0f8 h0f9 h0f10 h0f11) (v := v14) hQ hx hb hr hlocks hS (Nat.le_of_ble_eq_true rfl) (Nat.le_of_ble_eq_true rfl) dX4_slotOf_55 (⟨(by omega), hT⟩)
      · skip
        have c_8 := ni_nle c_8 rfl rfl
        refine lv_lload_n hx hb dX4_slotOf_14 rfl (lv_at hl 2 rfl) ?_
        refine lv_ldc2 hx hb hown (hU _ w515) dX4_slotOf_15 ?_
        refine lv_lmul hx hb dX4_slotOf_18 (lv_topl (fun v15 e_v15 => ?_))
        refine lv_aload_n hx hb dX4_slotOf_19 rfl (lv_at hl 1 rfl) ?_
        refine lv_iload hx hb dX4_slotOf_20 (lv_at hl 3 rfl) ?_
        refine tz_lald hx hb hK hT 1 rfl (by omega) dX4_slotOf_22 (fun v16 e_v16 => ?_)
        clear e_v16
        refine lv_ladd hx hb dX4_slotOf_23 (lv_topl (fun v17 e_v17 => ?_))
        refine lv_lstore_n (lv' := [(2, .long v17), (0, .ref h0), (1, .ref h1), (4, .int y5)]) hx hb dX4_slotOf_24 rfl hl (by decide) rfl (fun ls hl => ?_)
        obtain ⟨v18, e_v18⟩ : ∃ x : Int32, x = y5 + Int32.ofInt 1 := ⟨_, rfl⟩
        have f_v18 := e_v18.symm
        have e_v18 : v18.toInt = y5.toInt + 1 := ai_add e_v18 rfl (show (Int32.ofInt 1).toInt = 1 from (by decide +kernel)) (by omega)
        refine lv_iinc (v := v18) (lv' := [(4, .int v18), (2, .long v17), (0, .ref h0), (1, .ref h1)]) hx hb dX4_slotOf_25 hl (k := 3) rfl f_v18 (by decide) rfl (fun ls hl => ?_)
        refine lv_goto (tgt := 5) hx hb dX4_slotOf_28 (by decide) ?_
        exact ih5_7 v18 v17 _ _ _ (by omega)  (by omega) hT hS (lv_sub hl [2, 3, 1, 0] rfl)
  exact lp5_7 ((h0f8.toInt + (-1) * (0 : Int32).toInt + 1).toNat + 1) (0) (0) _ _ _ (by have := li_0; have := ll_0; omega)  (Nat.lt_succ_self _) hT hS (lv_sub hl [2, 3, 1, 0] rfl)
abbrev Rm_cX4_isRow_67fb4 : Room := { frames := 1, cells := 0, slots := 0, locals := 21 }
abbrev B_cX4_isRow_67fb4 (D : va_G) (k : Nat → ClassId) (h0 h1 h2 h3 h4 h5 h6 h7 h8 : Nat) (x1 : Int32) (h0f8 : Int32) (h0f9 : Int32) (h0f10 : Int32) (h0f11 : Int32) (A : Nat → Prop) (r : Int32) (H : Heap) : Prop := (0 ≤ r.toInt ∧ r.toInt ≤ 1) ∧ TP D A [(h0, ob 3 [.ref h2, .ref h3, .ref h4, .ref h5, .ref h6, .ref h7, .ref h8, .ref h1, .int h0f8, .int h0f9, .int h0f10, .int h0f11]), (h1, aJ (k 1) 60 anJ), (h2, aJ (k 1) 180 anJ)] H
set_option maxHeartbeats 4000000 in
set_option maxRecDepth 100000 in
theorem cX4_isRow_67fb4 (l : Launch) (D : va_G) (k : Nat → ClassId) (sz : Nat) (h0 h1 h2 h3 h4 h5 h6 h7 h8 : Nat) (x1 : Int32) (h0f8 : Int32) (h0f9 : Int32) (h0f10 : Int32) (h0f11 : Int32) (b_x1 : 0 ≤ x1.toInt ∧ x1.toInt ≤ 59) (b_h0f8 : 1 ≤ h0f8.toInt ∧ h0f8.toInt ≤ 3) (b_h0f9 : 60 ≤ h0f9.toInt ∧ h0f9.toInt ≤ 60) (b_h0f10 : 1 ≤ h0f10.toInt ∧ h0f10.toInt ≤ 60) (b_h0f11 : 0 ≤ h0f11.toInt ∧ h0f11.toInt ≤ 1) : Met l yX4_isRow (Cond.code yX4_isRow cX4_isRow 5 (some .boolean) :: uw) Rm_cX4_isRow_67fb4 (pT D k sz [.ref h0, .int x1, .ref h1] [(h0, ob 3 [.ref h2, .ref h3, .ref h4, .ref h5, .ref h6, .ref h7, .ref h8, .ref h1, .int h0f8, .int h0f9, .int h0f10, .int h0f11]), (h1, aJ (k 1) 60 anJ), (h2, aJ (k 1) 180 anJ)]) (qI (B_cX4_isRow_67fb4 D k h0 h1 h2 h3 h4 h5 h6 h7 h8 x1 h0f8 h0f9 h0f10 h0f11 (zA [h0, h1, h2] sz)) (zA [h0, h1, h2] sz)) 0 0 (zA [h0, h1, h2] sz) := by
  refine tz_begin (as := [h0, h1, h2]) (Qc := fun A => qI (B_cX4_isRow_67fb4 D k h0 h1 h2 h3 h4 h5 h6 h7 h8 x1 h0f8 h0f9 h0f10 h0f11 A) A) (by decide +kernel) rfl (Nat.le_of_ble_eq_true rfl) ?_
  intro p e s m args below meth c ls A Q hx hb hr hml hown hlocks hin hU hK hT hS hA hl hQ
  have hl : lv_has ls 5 [(0, .ref h0), (1, .int x1), (2, .ref h1)] := hl
  have hT : TP D A [(h0, ob 3 [.ref h2, .ref h3, .ref h4, .ref h5, .ref h6, .ref h7, .ref h8, .ref h1, .int h0f8, .int h0f9, .int h0f10, .int h0f11]), (h1, aJ (k 1) 60 anJ), (h2, aJ (k 1) 180 anJ)] s.heap := hT
  refine lv_aload_n hx hb dX4_isRow_0 rfl (lv_at hl 0 rfl) ?_
  refine lv_iload_n hx hb dX4_isRow_1 rfl (lv_at hl 1 rfl) ?_
  refine tcI (Tc := [(h0, ob 3 [.ref h2, .ref h3, .ref h4, .ref h5, .ref h6, .ref h7, .ref h8, .ref h1, .int h0f8, .int h0f9, .int h0f10, .int h0f11])]) (Tr := [(h1, aJ (k 1) 60 anJ), (h2, aJ (k 1) 180 anJ)]) (as := [h0]) (zcV (q0 := 0) (ci := 3) (As := [.int x1]) (rest := []) (Tc := [(h0, ob 3 [.ref h2, .ref h3, .ref h4, .ref h5, .ref h6, .ref h7, .ref h8, .ref h1, .int h0f8, .int h0f9, .int h0f10, .int h0f11])]) hx hb hml hown hU hK hT rfl rfl [0] rfl (by decide) (cX4_start_cf782 l D k _ h0 h2 h3 h4 h5 h6 h7 h8 h1 x1 h0f8 h0f9 h0f10 h0f11 (by omega) (by omega) (by omega) (by omega) (by omega)) w505 w502 w503 w504 w66 hdX4_start ⟨rfl, rfl⟩ ⟨Nat.le_of_ble_eq_true rfl, Nat.le_of_ble_eq_true rfl⟩ rfl hl.1 (Nat.le_of_ble_eq_true rfl) dX4_isRow_2 ⟨Nat.le_of_ble_eq_true rfl, Nat.le_of_ble_eq_true rfl⟩) hT hS hA [0] [1, 2] rfl rfl rfl (by decide) (by decide) (fun r1 H locs hB J hS => ?_)
  obtain ⟨b_r1, hT1⟩ := hB
  have hT := J _ hT1
  have hT : TP D A [(h1, aJ (k 1) 60 anJ), (h2, aJ (k 1) 180 anJ), (h0, ob 3 [.ref h2, .ref h3, .ref h4, .ref h5, .ref h6, .ref h7, .ref h8, .ref h1, .int h0f8, .int h0f9, .int h0f10, .int h0f11])] _ := hT
  refine lv_istore_n (lv' := [(3, .int r1), (0, .ref h0), (1, .int x1), (2, .ref h1)]) hx hb dX4_isRow_5 rfl hl (by decide) rfl (fun ls hl => ?_)
  refine lv_iconst (v := 0) hx hb dX4_isRow_6 (by decide) ?_
  refine lv_istore (lv' := [(4, .int 0), (3, .int r1), (0, .ref h0), (1, .int x1), (2, .ref h1)]) hx hb dX4_isRow_7 hl (by decide) rfl (fun ls hl => ?_)
  have lp9_5 : ∀ (n : Nat) (y4 : Int32) (H : Heap) (locs : List Loc) (ls : Array Slot), (0 ≤ y4.toInt ∧ y4.toInt ≤ 3) → (h0f8.toInt + (-1) * y4.toInt + 1).toNat < n → TP D A [(h1, aJ (k 1) 60 anJ), (h2, aJ (k 1) 180 anJ), (h0, ob 3 [.ref h2, .ref h3, .ref h4, .ref h5, .ref h6, .ref h7, .ref h8, .ref h1, .int h0f8, .int h0f9, .int h0f10, .int h0f11])] H → va_S A s.heap H locs → lv_has ls 5 [(0, .ref h0), (2, .ref h1), (3, .int r1), (4, .int y4)] → W p l e Rm_cX4_isRow_67fb4 s m args below meth c H locs 0 0 Q (F0 m 9 ls []) := by
    intro n
    induction n with
    | zero => intro y4 H locs ls b_y4 hm hT hS hl; exact absurd hm (Nat.not_lt_zero _)
    | succ n ih =>
      intro y4 H locs ls b_y4 hm hT hS hl
      have ih9_5 := ih
      clear ih
      refine lv_iload hx hb dX4_isRow_9 (lv_at hl 3 rfl) ?_
      refine lv_aload_n hx hb dX4_isRow_11 rfl (lv_at hl 0 rfl) ?_
      refine tz_get (ci := 3) (v := .int h0f8) (C := RX4) (F := TX4) (N := 12) hx hb hU iX4 hown hK hT 2 rfl rfl 8 (by decide) w162 (fun _ h9 => h9) rfl dX4_isRow_12 ?_
      refine lv_icmp_ge (tgt := 43) hx hb dX4_isRow_15 (by decide) (fun c_6 => ?_) (fun c_6 => ?_)
      · skip
        have c_6 := ni_le c_6 rfl rfl
        refine lv_iconst (v := 1) hx hb dX4_isRow_43 (by decide) ?_
        exact tz_retZ (B := B_cX4_isRow_67fb4 D k h0 h1 h2 h3 h4 h5 h6 h7 h8 x1 h0f8 h0f9 h0f10 h0f11) (v := 1) hQ hx hb hr hlocks hS (Nat.le_of_ble_eq_true rfl) (Nat.le_of_ble_eq_true rfl) dX4_isRow_44 (by have := li_1; omega) (⟨(by have := li_1; omega), (hT.sub [2, 0, 1] (by decide) rfl)⟩)
      · skip
        have c_6 := ni_nle c_6 rfl rfl
        refine lv_aload_n hx hb dX4_isRow_18 rfl (lv_at hl 0 rfl) ?_
        refine tz_get (ci := 3) (v := .ref h2) (C := RX4) (F := TX4) (N := 12) hx hb hU iX4 hown hK hT 2 rfl rfl 0 (by decide) w149 (fun _ h9 => h9) rfl dX4_isRow_19 ?_
        refine lv_iload_n hx hb dX4_isRow_22 rfl (lv_at hl 2 rfl) ?_
        refine lv_iload hx hb dX4_isRow_23 (lv_at hl 3 rfl) ?_
        refine lv_iadd hx hb dX4_isRow_25 (lv_topi (fun v7 e_v7 => ?_))
        have e_v7 := ai_add e_v7 rfl rfl (by omega)
        refine tz_lald hx hb hK hT 1 rfl (by omega) dX4_isRow_26 (fun v8 e_v8 => ?_)
        clear e_v8
        refine lv_aload_n hx hb dX4_isRow_27 rfl (lv_at hl 1 rfl) ?_
        refine lv_iload hx hb dX4_isRow_28 (lv_at hl 3 rfl) ?_
        refine tz_lald hx hb hK hT 0 rfl (by omega) dX4_isRow_30 (fun v9 e_v9 => ?_)
        clear e_v9
        refine W.lcmp hx hb dX4_isRow_31 ?_
        refine lv_if_eq (tgt := 37) hx hb dX4_isRow_32 (by decide) (fun c_10 => ?_) (fun c_10 => ?_)
        · skip
          have c_10 := nl_eq c_10 rfl rfl
          obtain ⟨v11, e_v11⟩ : ∃ x : Int32, x = y4 + Int32.ofInt 1 := ⟨_, rfl⟩
          have f_v11 := e_v11.symm
          have e_v11 : v11.toInt = y4.toInt + 1 := ai_add e_v11 rfl (show (Int32.ofInt 1).toInt = 1 from (by decide +kernel)) (by omega)
          refine lv_iinc (v := v11) (lv' := [(4, .int v11), (0, .ref h0), (2, .ref h1), (3, .int r1)]) hx hb dX4_isRow_37 hl (k := 3) rfl f_v11 (by decide) rfl (fun ls hl => ?_)
          refine lv_goto (tgt := 9) hx hb dX4_isRow_40 (by decide) ?_
          exact ih9_5 v11 _ _ _ (by omega)  (by omega) hT hS (lv_sub hl [1, 2, 3, 0] rfl)
        · skip
          have c_10 := nl_ne c_10 rfl rfl
          refine lv_iconst (v := 0) hx hb dX4_isRow_35 (by decide) ?_
          exact tz_retZ (B := B_cX4_isRow_67fb4 D k h0 h1 h2 h3 h4 h5 h6 h7 h8 x1 h0f8 h0f9 h0f10 h0f11) (v := 0) hQ hx hb hr hlocks hS (Nat.le_of_ble_eq_true rfl) (Nat.le_of_ble_eq_true rfl) dX4_isRow_36 (by have := li_0; omega) (⟨(by have := li_0; omega), (hT.sub [2, 0, 1] (by decide) rfl)⟩)
  exact lp9_5 ((h0f8.toInt + (-1) * (0 : Int32).toInt + 1).toNat + 1) (0) _ _ _ (by have := li_0; omega)  (Nat.lt_succ_self _) hT hS (lv_sub hl [2, 4, 1, 0] rfl)
abbrev Rm_cX4_search_9734a : Room := { frames := 2, cells := 0, slots := 0, locals := 45 }
abbrev B_cX4_search_9734a (D : va_G) (k : Nat → ClassId) (h0 h1 h2 h7 h8 h3 h4 h5 h6 : Nat) (h0f8 : Int32) (h0f9 : Int32) (h0f10 : Int32) (h0f11 : Int32) (A : Nat → Prop) (r : Int32) (H : Heap) : Prop := ((-1) ≤ r.toInt ∧ r.toInt ≤ 59) ∧ TP D A [(h0, ob 3 [.ref h2, .ref h3, .ref h4, .ref h5, .ref h6, .ref h7, .ref h8, .ref h1, .int h0f8, .int h0f9, .int h0f10, .int h0f11]), (h1, aJ (k 1) 60 anJ), (h2, aJ (k 1) 180 anJ), (h7, aI (k 0) 128 (rgI (-1) 59)), (h8, aI (k 0) 60 (rgI (-1) 59))] H
set_option maxHeartbeats 4000000 in
set_option maxRecDepth 100000 in
theorem cX4_search_9734a (l : Launch) (D : va_G) (k : Nat → ClassId) (sz : Nat) (h0 h1 h2 h7 h8 h3 h4 h5 h6 : Nat) (h0f8 : Int32) (h0f9 : Int32) (h0f10 : Int32) (h0f11 : Int32) (b_h0f8 : 1 ≤ h0f8.toInt ∧ h0f8.toInt ≤ 3) (b_h0f9 : 60 ≤ h0f9.toInt ∧ h0f9.toInt ≤ 60) (b_h0f10 : 1 ≤ h0f10.toInt ∧ h0f10.toInt ≤ 60) (b_h0f11 : 0 ≤ h0f11.toInt ∧ h0f11.toInt ≤ 1) : Met l yX4_search (Cond.code yX4_search cX4_search 4 (some .int) :: uw) Rm_cX4_search_9734a (pT D k sz [.ref h0, .ref h1] [(h0, ob 3 [.ref h2, .ref h3, .ref h4, .ref h5, .ref h6, .ref h7, .ref h8, .ref h1, .int h0f8, .int h0f9, .int h0f10, .int h0f11]), (h1, aJ (k 1) 60 anJ), (h2, aJ (k 1) 180 anJ), (h7, aI (k 0) 128 (rgI (-1) 59)), (h8, aI (k 0) 60 (rgI (-1) 59))]) (qI (B_cX4_search_9734a D k h0 h1 h2 h7 h8 h3 h4 h5 h6 h0f8 h0f9 h0f10 h0f11 (zA [h0, h1, h2, h7, h8] sz)) (zA [h0, h1, h2, h7, h8] sz)) 0 0 (zA [h0, h1, h2, h7, h8] sz) := by
  refine tz_begin (as := [h0, h1, h2, h7, h8]) (Qc := fun A => qI (B_cX4_search_9734a D k h0 h1 h2 h7 h8 h3 h4 h5 h6 h0f8 h0f9 h0f10 h0f11 A) A) (by decide +kernel) rfl (Nat.le_of_ble_eq_true rfl) ?_
  intro p e s m args below meth c ls A Q hx hb hr hml hown hlocks hin hU hK hT hS hA hl hQ
  have hl : lv_has ls 4 [(0, .ref h0), (1, .ref h1)] := hl
  have hT : TP D A [(h0, ob 3 [.ref h2, .ref h3, .ref h4, .ref h5, .ref h6, .ref h7, .ref h8, .ref h1, .int h0f8, .int h0f9, .int h0f10, .int h0f11]), (h1, aJ (k 1) 60 anJ), (h2, aJ (k 1) 180 anJ), (h7, aI (k 0) 128 (rgI (-1) 59)), (h8, aI (k 0) 60 (rgI (-1) 59))] s.heap := hT
  refine lv_aload_n hx hb dX4_search_0 rfl (lv_at hl 0 rfl) ?_
  refine tz_get (ci := 3) (v := .ref h7) (C := RX4) (F := TX4) (N := 12) hx hb hU iX4 hown hK hT 0 rfl rfl 5 (by decide) w159 (fun _ h9 => h9) rfl dX4_search_1 ?_
  refine lv_aload_n hx hb dX4_search_4 rfl (lv_at hl 0 rfl) ?_
  refine lv_aload_n hx hb dX4_search_5 rfl (lv_at hl 1 rfl) ?_
  refine tcI (Tc := [(h0, ob 3 [.ref h2, .ref h3, .ref h4, .ref h5, .ref h6, .ref h7, .ref h8, .ref h1, .int h0f8, .int h0f9, .int h0f10, .int h0f11]), (h1, aJ (k 1) 60 anJ), (h7, aI (k 0) 128 (rgI (-1) 59))]) (Tr := [(h2, aJ (k 1) 180 anJ), (h8, aI (k 0) 60 (rgI (-1) 59))]) (as := [h0, h1, h7]) (zcV (q0 := 0) (ci := 3) (As := [.ref h1]) (rest := [.ref h7]) (Tc := [(h0, ob 3 [.ref h2, .ref h3, .ref h4, .ref h5, .ref h6, .ref h7, .ref h8, .ref h1, .int h0f8, .int h0f9, .int h0f10, .int h0f11]), (h1, aJ (k 1) 60 anJ), (h7, aI (k 0) 128 (rgI (-1) 59))]) hx hb hml hown hU hK hT rfl rfl [0, 1, 3] rfl (by decide) (cX4_slotOf_11012 l D k _ h0 h1 h7 h2 h3 h4 h5 h6 h8 h0f8 h0f9 h0f10 h0f11 (by omega) (by omega) (by omega) (by omega)) w514 w511 w513 w11 w66 hdX4_slotOf ⟨rfl, rfl⟩ ⟨Nat.le_of_ble_eq_true rfl, Nat.le_of_ble_eq_true rfl⟩ rfl hl.1 (Nat.le_of_ble_eq_true rfl) dX4_search_6 ⟨Nat.le_of_ble_eq_true rfl, Nat.le_of_ble_eq_true rfl⟩) hT hS hA [0, 1, 3] [2, 4] rfl rfl rfl (by decide) (by decide) (fun r1 H locs hB J hS => ?_)
  obtain ⟨b_r1, hT1⟩ := hB
  have hT := J _ hT1
  have hT : TP D A [(h2, aJ (k 1) 180 anJ), (h8, aI (k 0) 60 (rgI (-1) 59)), (h0, ob 3 [.ref h2, .ref h3, .ref h4, .ref h5, .ref h6, .ref h7, .ref h8, .ref h1, .int h0f8, .int h0f9, .int h0f10, .int h0f11]), (h1, aJ (k 1) 60 anJ), (h7, aI (k 0) 128 (rgI (-1) 59))] _ := hT
  refine tz_iald hx hb hK hT 4 rfl (by omega) dX4_search_9 (fun v2 e_v2 => ?_)
  have e_v2 := rg_get e_v2
  refine lv_istore_n (lv' := [(2, .int v2), (0, .ref h0), (1, .ref h1)]) hx hb dX4_search_10 rfl hl (by decide) rfl (fun ls hl => ?_)
  refine lv_iconst (v := 0) hx hb dX4_search_11 (by decide) ?_
  refine lv_istore_n (lv' := [(3, .int 0), (2, .int v2), (0, .ref h0), (1, .ref h1)]) hx hb dX4_search_12 rfl hl (by decide) rfl (fun ls hl => ?_)
  have lp13_25 : ∀ (n : Nat) (y23 : Int32) (y24 : Int32) (H : Heap) (locs : List Loc) (ls : Array Slot), (0 ≤ y23.toInt ∧ y23.toInt ≤ 60) → ((-1) ≤ y24.toInt ∧ y24.toInt ≤ 59) → (h0f10.toInt + (-1) * y23.toInt + 1).toNat < n → TP D A [(h2, aJ (k 1) 180 anJ), (h8, aI (k 0) 60 (rgI (-1) 59)), (h0, ob 3 [.ref h2, .ref h3, .ref h4, .ref h5, .ref h6, .ref h7, .ref h8, .ref h1, .int h0f8, .int h0f9, .int h0f10, .int h0f11]), (h1, aJ (k 1) 60 anJ), (h7, aI (k 0) 128 (rgI (-1) 59))] H → va_S A s.heap H locs → lv_has ls 4 [(0, .ref h0), (1, .ref h1), (2, .int y24), (3, .int y23)] → W p l e Rm_cX4_search_9734a s m args below meth c H locs 0 0 Q (F0 m 13 ls []) := by
    intro n
    induction n with
    | zero => intro y23 y24 H locs ls b_y23 b_y24 hm hT hS hl; exact absurd hm (Nat.not_lt_zero _)
    | succ n ih =>
      intro y23 y24 H locs ls b_y23 b_y24 hm hT hS hl
      have ih13_25 := ih
      clear ih
      refine lv_iload_n hx hb dX4_search_13 rfl (lv_at hl 3 rfl) ?_
      refine lv_aload_n hx hb dX4_search_14 rfl (lv_at hl 0 rfl) ?_
      refine tz_get (ci := 3) (v := .int h0f10) (C := RX4) (F := TX4) (N := 12) hx hb hU iX4 hown hK hT 2 rfl rfl 10 (by decide) w164 (fun _ h9 => h9) rfl dX4_search_15 ?_
      refine lv_icmp_ge (tgt := 49) hx hb dX4_search_18 (by decide) (fun c_26 => ?_) (fun c_26 => ?_)
      · skip
        have c_26 := ni_le c_26 rfl rfl
        refine lv_iconst (v := (-1)) hx hb dX4_search_49 (by decide) ?_
        exact tz_retI (B := B_cX4_search_9734a D k h0 h1 h2 h7 h8 h3 h4 h5 h6 h0f8 h0f9 h0f10 h0f11) (v := (-1)) hQ hx hb hr hlocks hS (Nat.le_of_ble_eq_true rfl) (Nat.le_of_ble_eq_true rfl) dX4_search_50 (⟨(by have := li_m1; omega), (hT.sub [2, 3, 0, 4, 1] (by decide) rfl)⟩)
      · skip
        have c_26 := ni_nle c_26 rfl rfl
        refine lv_iload_n hx hb dX4_search_21 rfl (lv_at hl 2 rfl) ?_
        refine lv_if_lt (tgt := 49) hx hb dX4_search_22 (by decide) (fun c_27 => ?_) (fun c_27 => ?_)
        · skip
          have c_27 := ni_lt c_27 rfl li_0
          refine lv_iconst (v := (-1)) hx hb dX4_search_49 (by decide) ?_
          exact tz_retI (B := B_cX4_search_9734a D k h0 h1 h2 h7 h8 h3 h4 h5 h6 h0f8 h0f9 h0f10 h0f11) (v := (-1)) hQ hx hb hr hlocks hS (Nat.le_of_ble_eq_true rfl) (Nat.le_of_ble_eq_true rfl) dX4_search_50 (⟨(by have := li_m1; omega), (hT.sub [2, 3, 0, 4, 1] (by decide) rfl)⟩)
        · skip
          have c_27 := ni_nlt c_27 rfl li_0
          refine lv_aload_n hx hb dX4_search_25 rfl (lv_at hl 0 rfl) ?_
          refine lv_iload_n hx hb dX4_search_26 rfl (lv_at hl 2 rfl) ?_
          refine lv_aload_n hx hb dX4_search_27 rfl (lv_at hl 1 rfl) ?_
          refine tcI (Tc := [(h0, ob 3 [.ref h2, .ref h3, .ref h4, .ref h5, .ref h6, .ref h7, .ref h8, .ref h1, .int h0f8, .int h0f9, .int h0f10, .int h0f11]), (h1, aJ (k 1) 60 anJ), (h2, aJ (k 1) 180 anJ)]) (Tr := [(h8, aI (k 0) 60 (rgI (-1) 59)), (h7, aI (k 0) 128 (rgI (-1) 59))]) (as := [h0, h1, h2]) (zcV (q0 := 2) (ci := 3) (As := [.int y24, .ref h1]) (rest := []) (Tc := [(h0, ob 3 [.ref h2, .ref h3, .ref h4, .ref h5, .ref h6, .ref h7, .ref h8, .ref h1, .int h0f8, .int h0f9, .int h0f10, .int h0f11]), (h1, aJ (k 1) 60 anJ), (h2, aJ (k 1) 180 anJ)]) hx hb hml hown hU hK hT rfl rfl [2, 3, 0] rfl (by decide) (cX4_isRow_67fb4 l D k _ h0 h1 h2 h3 h4 h5 h6 h7 h8 y24 h0f8 h0f9 h0f10 h0f11 (by omega) (by omega) (by omega) (by omega) (by omega)) w559 w556 w558 w13 w66 hdX4_isRow ⟨rfl, rfl⟩ ⟨Nat.le_of_ble_eq_true rfl, Nat.le_of_ble_eq_true rfl⟩ rfl hl.1 (Nat.le_of_ble_eq_true rfl) dX4_search_28 ⟨Nat.le_of_ble_eq_true rfl, Nat.le_of_ble_eq_true rfl⟩) hT hS hA [2, 3, 0] [1, 4] rfl rfl rfl (by decide) (by decide) (fun r28 H locs hB J hS => ?_)
          obtain ⟨b_r28, hT1⟩ := hB
          have hT := J _ hT1
          have hT : TP D A [(h8, aI (k 0) 60 (rgI (-1) 59)), (h7, aI (k 0) 128 (rgI (-1) 59)), (h0, ob 3 [.ref h2, .ref h3, .ref h4, .ref h5, .ref h6, .ref h7, .ref h8, .ref h1, .int h0f8, .int h0f9, .int h0f10, .int h0f11]), (h1, aJ (k 1) 60 anJ), (h2, aJ (k 1) 180 anJ)] _ := hT
          refine lv_if_eq (tgt := 36) hx hb dX4_search_31 (by decide) (fun c_29 => ?_) (fun c_29 => ?_)
          · skip
            have c_29 := ni_eq c_29 rfl li_0
            refine lv_aload_n hx hb dX4_search_36 rfl (lv_at hl 0 rfl) ?_
            refine tz_get (ci := 3) (v := .ref h8) (C := RX4) (F := TX4) (N := 12) hx hb hU iX4 hown hK hT 2 rfl rfl 6 (by decide) w160 (fun _ h9 => h9) rfl dX4_search_37 ?_
            refine lv_iload_n hx hb dX4_search_40 rfl (lv_at hl 2 rfl) ?_
            refine tz_iald hx hb hK hT 0 rfl (by omega) dX4_search_41 (fun v30 e_v30 => ?_)
            have e_v30 := rg_get e_v30
            refine lv_istore_n (lv' := [(2, .int v30), (0, .ref h0), (1, .ref h1), (3, .int y23)]) hx hb dX4_search_42 rfl hl (by decide) rfl (fun ls hl => ?_)
            obtain ⟨v31, e_v31⟩ : ∃ x : Int32, x = y23 + Int32.ofInt 1 := ⟨_, rfl⟩
            have f_v31 := e_v31.symm
            have e_v31 : v31.toInt = y23.toInt + 1 := ai_add e_v31 rfl (show (Int32.ofInt 1).toInt = 1 from (by decide +kernel)) (by omega)
            refine lv_iinc (v := v31) (lv' := [(3, .int v31), (2, .int v30), (0, .ref h0), (1, .ref h1)]) hx hb dX4_search_43 hl (k := 3) rfl f_v31 (by decide) rfl (fun ls hl => ?_)
            refine lv_goto (tgt := 13) hx hb dX4_search_46 (by decide) ?_
            exact ih13_25 v31 v30 _ _ _ (by omega) (by omega)  (by omega) (hT.sub [4, 0, 2, 3, 1] (by decide) rfl) hS (lv_sub hl [2, 3, 1, 0] rfl)
          · skip
            have c_29 := ni_ne c_29 rfl li_0
            refine lv_iload_n hx hb dX4_search_34 rfl (lv_at hl 2 rfl) ?_
            exact tz_retI (B := B_cX4_search_9734a D k h0 h1 h2 h7 h8 h3 h4 h5 h6 h0f8 h0f9 h0f10 h0f11) (v := y24) hQ hx hb hr hlocks hS (Nat.le_of_ble_eq_true rfl) (Nat.le_of_ble_eq_true rfl) dX4_search_35 (⟨(by omega), (hT.sub [2, 3, 4, 1, 0] (by decide) rfl)⟩)
  exact lp13_25 ((h0f10.toInt + (-1) * (0 : Int32).toInt + 1).toNat + 1) (0) v2 _ _ _ (by have := li_0; omega) (by have := li_0; omega)  (Nat.lt_succ_self _) hT hS (lv_sub hl [2, 3, 1, 0] rfl)
abbrev Rm_cX4_append_27b4f : Room := { frames := 1, cells := 0, slots := 0, locals := 26 }
abbrev B_cX4_append_27b4f (D : va_G) (k : Nat → ClassId) (h0 h1 h2 h3 h4 h5 h7 h8 h6 : Nat) (x2 : Int32) (x3 : Int32) (h0f8 : Int32) (h0f9 : Int32) (h0f10 : Int32) (h0f11 : Int32) (A : Nat → Prop) (r : Int32) (H : Heap) : Prop := ∃ o0 : Int32, (2 ≤ o0.toInt ∧ o0.toInt ≤ 60) ∧ ((-1) ≤ r.toInt ∧ r.toInt ≤ 59) ∧ TP D A [(h0, ob 3 [.ref h2, .ref h3, .ref h4, .ref h5, .ref h6, .ref h7, .ref h8, .ref h1, .int h0f8, .int h0f9, .int o0, .int h0f11]), (h1, aJ (k 1) 60 anJ), (h2, aJ (k 1) 180 anJ), (h3, aI (k 0) 60 anI), (h4, aI (k 0) 60 anI), (h5, aI (k 0) 60 anI), (h7, aI (k 0) 128 (rgI (-1) 59)), (h8, aI (k 0) 60 (rgI (-1) 59))] H
set_option maxHeartbeats 4000000 in
set_option maxRecDepth 100000 in
theorem cX4_append_27b4f (l : Launch) (D : va_G) (k : Nat → ClassId) (sz : Nat) (h0 h1 h2 h3 h4 h5 h7 h8 h6 : Nat) (x2 : Int32) (x3 : Int32) (h0f8 : Int32) (h0f9 : Int32) (h0f10 : Int32) (h0f11 : Int32) (b_x2 : 0 ≤ x2.toInt ∧ x2.toInt ≤ 59) (b_x3 : 0 ≤ x3.toInt ∧ x3.toInt ≤ 3) (b_h0f8 : 1 ≤ h0f8.toInt ∧ h0f8.toInt ≤ 3) (b_h0f9 : 60 ≤ h0f9.toInt ∧ h0f9.toInt ≤ 60) (b_h0f10 : 1 ≤ h0f10.toInt ∧ h0f10.toInt ≤ 60) (b_h0f11 : 0 ≤ h0f11.toInt ∧ h0f11.toInt ≤ 1) : Met l yX4_append (Cond.code yX4_append cX4_append 6 (some .int) :: uw) Rm_cX4_append_27b4f (pT D k sz [.ref h0, .ref h1, .int x2, .int x3] [(h0, ob 3 [.ref h2, .ref h3, .ref h4, .ref h5, .ref h6, .ref h7, .ref h8, .ref h1, .int h0f8, .int h0f9, .int h0f10, .int h0f11]), (h1, aJ (k 1) 60 anJ), (h2, aJ (k 1) 180 anJ), (h3, aI (k 0) 60 anI), (h4, aI (k 0) 60 anI), (h5, aI (k 0) 60 anI), (h7, aI (k 0) 128 (rgI (-1) 59)), (h8, aI (k 0) 60 (rgI (-1) 59))]) (qI (B_cX4_append_27b4f D k h0 h1 h2 h3 h4 h5 h7 h8 h6 x2 x3 h0f8 h0f9 h0f10 h0f11 (zA [h0, h1, h2, h3, h4, h5, h7, h8] sz)) (zA [h0, h1, h2, h3, h4, h5, h7, h8] sz)) 0 0 (zA [h0, h1, h2, h3, h4, h5, h7, h8] sz) := by
  refine tz_begin (as := [h0, h1, h2, h3, h4, h5, h7, h8]) (Qc := fun A => qI (B_cX4_append_27b4f D k h0 h1 h2 h3 h4 h5 h7 h8 h6 x2 x3 h0f8 h0f9 h0f10 h0f11 A) A) (by decide +kernel) rfl (Nat.le_of_ble_eq_true rfl) ?_
  intro p e s m args below meth c ls A Q hx hb hr hml hown hlocks hin hU hK hT hS hA hl hQ
  have hl : lv_has ls 6 [(0, .ref h0), (1, .ref h1), (2, .int x2), (3, .int x3)] := hl
  have hT : TP D A [(h0, ob 3 [.ref h2, .ref h3, .ref h4, .ref h5, .ref h6, .ref h7, .ref h8, .ref h1, .int h0f8, .int h0f9, .int h0f10, .int h0f11]), (h1, aJ (k 1) 60 anJ), (h2, aJ (k 1) 180 anJ), (h3, aI (k 0) 60 anI), (h4, aI (k 0) 60 anI), (h5, aI (k 0) 60 anI), (h7, aI (k 0) 128 (rgI (-1) 59)), (h8, aI (k 0) 60 (rgI (-1) 59))] s.heap := hT
  refine lv_aload_n hx hb dX4_append_0 rfl (lv_at hl 0 rfl) ?_
  refine tz_get (ci := 3) (v := .int h0f10) (C := RX4) (F := TX4) (N := 12) hx hb hU iX4 hown hK hT 0 rfl rfl 10 (by decide) w164 (fun _ h9 => h9) rfl dX4_append_1 ?_
  refine lv_aload_n hx hb dX4_append_4 rfl (lv_at hl 0 rfl) ?_
  refine tz_get (ci := 3) (v := .int h0f9) (C := RX4) (F := TX4) (N := 12) hx hb hU iX4 hown hK hT 0 rfl rfl 9 (by decide) w163 (fun _ h9 => h9) rfl dX4_append_5 ?_
  refine lv_icmp_lt (tgt := 13) hx hb dX4_append_8 (by decide) (fun c_1 => ?_) (fun c_1 => ?_)
  · skip
    have c_1 := ni_lt c_1 rfl rfl
    refine lv_aload_n hx hb dX4_append_13 rfl (lv_at hl 0 rfl) ?_
    refine tz_get (ci := 3) (v := .int h0f10) (C := RX4) (F := TX4) (N := 12) hx hb hU iX4 hown hK hT 0 rfl rfl 10 (by decide) w164 (fun _ h9 => h9) rfl dX4_append_14 ?_
    refine lv_istore (lv' := [(4, .int h0f10), (0, .ref h0), (1, .ref h1), (2, .int x2), (3, .int x3)]) hx hb dX4_append_17 hl (by decide) rfl (fun ls hl => ?_)
    refine lv_aload_n hx hb dX4_append_19 rfl (lv_at hl 2 rfl) ?_
    refine lv_iconst (v := 0) hx hb dX4_append_20 (by decide) ?_
    refine lv_aload_n hx hb dX4_append_21 rfl (lv_at hl 1 rfl) ?_
    refine tz_get (ci := 3) (v := .ref h2) (C := RX4) (F := TX4) (N := 12) hx hb hU iX4 hown hK hT 0 rfl rfl 0 (by decide) w149 (fun _ h9 => h9) rfl dX4_append_22 ?_
    refine lv_aload_n hx hb dX4_append_25 rfl (lv_at hl 1 rfl) ?_
    refine lv_iload hx hb dX4_append_26 (lv_at hl 0 rfl) ?_
    refine tcI (Tc := [(h0, ob 3 [.ref h2, .ref h3, .ref h4, .ref h5, .ref h6, .ref h7, .ref h8, .ref h1, .int h0f8, .int h0f9, .int h0f10, .int h0f11])]) (Tr := [(h1, aJ (k 1) 60 anJ), (h2, aJ (k 1) 180 anJ), (h3, aI (k 0) 60 anI), (h4, aI (k 0) 60 anI), (h5, aI (k 0) 60 anI), (h7, aI (k 0) 128 (rgI (-1) 59)), (h8, aI (k 0) 60 (rgI (-1) 59))]) (as := [h0]) (zcV (q0 := 0) (ci := 3) (As := [.int h0f10]) (rest := [.ref h2, .int 0, .ref h1]) (Tc := [(h0, ob 3 [.ref h2, .ref h3, .ref h4, .ref h5, .ref h6, .ref h7, .ref h8, .ref h1, .int h0f8, .int h0f9, .int h0f10, .int h0f11])]) hx hb hml hown hU hK hT rfl rfl [0] rfl (by decide) (cX4_start_cf782 l D k _ h0 h2 h3 h4 h5 h6 h7 h8 h1 h0f10 h0f8 h0f9 h0f10 h0f11 (by omega) (by omega) (by omega) (by omega) (by omega)) w505 w502 w503 w504 w66 hdX4_start ⟨rfl, rfl⟩ ⟨Nat.le_of_ble_eq_true rfl, Nat.le_of_ble_eq_true rfl⟩ rfl hl.1 (Nat.le_of_ble_eq_true rfl) dX4_append_28 ⟨Nat.le_of_ble_eq_true rfl, Nat.le_of_ble_eq_true rfl⟩) hT hS hA [0] [1, 2, 3, 4, 5, 6, 7] rfl rfl rfl (by decide) (by decide) (fun r2 H locs hB J hS => ?_)
    obtain ⟨b_r2, hT1⟩ := hB
    have hT := J _ hT1
    have hT : TP D A [(h1, aJ (k 1) 60 anJ), (h2, aJ (k 1) 180 anJ), (h3, aI (k 0) 60 anI), (h4, aI (k 0) 60 anI), (h5, aI (k 0) 60 anI), (h7, aI (k 0) 128 (rgI (-1) 59)), (h8, aI (k 0) 60 (rgI (-1) 59)), (h0, ob 3 [.ref h2, .ref h3, .ref h4, .ref h5, .ref h6, .ref h7, .ref h8, .ref h1, .int h0f8, .int h0f9, .int h0f10, .int h0f11])] _ := hT
    refine lv_aload_n hx hb dX4_append_31 rfl (lv_at hl 1 rfl) ?_
    refine tz_get (ci := 3) (v := .int h0f8) (C := RX4) (F := TX4) (N := 12) hx hb hU iX4 hown hK hT 7 rfl rfl 8 (by decide) w162 (fun _ h9 => h9) rfl dX4_append_32 ?_
    refine tz_copyl hx hb (by rw [hml]; exact hl.1.symm) hown hU w506 w348 w347 w75 hK hT hS 0 1 rfl rfl (by have := li_0; omega) (fun _ _ _ _ => trivial) (Nat.le_of_ble_eq_true rfl) (Nat.le_of_ble_eq_true rfl) dX4_append_35 (fun H locs hT hS => ?_)
    refine lv_aload_n hx hb dX4_append_38 rfl (lv_at hl 1 rfl) ?_
    refine tz_get (ci := 3) (v := .ref h3) (C := RX4) (F := TX4) (N := 12) hx hb hU iX4 hown hK hT 7 rfl rfl 1 (by decide) w151 (fun _ h9 => h9) rfl dX4_append_39 ?_
    refine lv_iload hx hb dX4_append_42 (lv_at hl 0 rfl) ?_
    refine lv_iload_n hx hb dX4_append_44 rfl (lv_at hl 3 rfl) ?_
    refine tz_iast hx hb hK hT hS 2 rfl (by omega) (fun _ _ => trivial) dX4_append_45 (fun H locs hT hS => ?_)
    refine lv_aload_n hx hb dX4_append_46 rfl (lv_at hl 1 rfl) ?_
    refine tz_get (ci := 3) (v := .ref h4) (C := RX4) (F := TX4) (N := 12) hx hb hU iX4 hown hK hT 7 rfl rfl 2 (by decide) w153 (fun _ h9 => h9) rfl dX4_append_47 ?_
    refine lv_iload hx hb dX4_append_50 (lv_at hl 0 rfl) ?_
    refine lv_iload_n hx hb dX4_append_52 rfl (lv_at hl 4 rfl) ?_
    refine tz_iast hx hb hK hT hS 3 rfl (by omega) (fun _ _ => trivial) dX4_append_53 (fun H locs hT hS => ?_)
    refine lv_aload_n hx hb dX4_append_54 rfl (lv_at hl 1 rfl) ?_
    refine tz_get (ci := 3) (v := .ref h5) (C := RX4) (F := TX4) (N := 12) hx hb hU iX4 hown hK hT 7 rfl rfl 3 (by decide) w155 (fun _ h9 => h9) rfl dX4_append_55 ?_
    refine lv_iload hx hb dX4_append_58 (lv_at hl 0 rfl) ?_
    refine lv_aload_n hx hb dX4_append_60 rfl (lv_at hl 1 rfl) ?_
    refine lv_iload_n hx hb dX4_append_61 rfl (lv_at hl 3 rfl) ?_
    refine tcI (Tc := [(h0, ob 3 [.ref h2, .ref h3, .ref h4, .ref h5, .ref h6, .ref h7, .ref h8, .ref h1, .int h0f8, .int h0f9, .int h0f10, .int h0f11])]) (Tr := [(h1, aJ (k 1) 60 anJ), (h2, aJ (k 1) 180 anJ), (h3, aI (k 0) 60 anI), (h4, aI (k 0) 60 anI), (h5, aI (k 0) 60 anI), (h7, aI (k 0) 128 (rgI (-1) 59)), (h8, aI (k 0) 60 (rgI (-1) 59))]) (as := [h0]) (zcV (q0 := 7) (ci := 3) (As := [.int x2]) (rest := [.int h0f10, .ref h5]) (Tc := [(h0, ob 3 [.ref h2, .ref h3, .ref h4, .ref h5, .ref h6, .ref h7, .ref h8, .ref h1, .int h0f8, .int h0f9, .int h0f10, .int h0f11])]) hx hb hml hown hU hK hT rfl rfl [7] rfl (by decide) (cX4_has_e732f l D k _ h0 h2 h3 h4 h5 h6 h7 h8 h1 x2 h0f8 h0f9 h0f10 h0f11 (by omega) (by omega) (by omega) (by omega)) w510 w507 w508 w509 w66 hdX4_has ⟨rfl, rfl⟩ ⟨Nat.le_of_ble_eq_true rfl, Nat.le_of_ble_eq_true rfl⟩ rfl hl.1 (Nat.le_of_ble_eq_true rfl) dX4_append_62 ⟨Nat.le_of_ble_eq_true rfl, Nat.le_of_ble_eq_true rfl⟩) hT hS hA [7] [0, 1, 2, 3, 4, 5, 6] rfl rfl rfl (by decide) (by decide) (fun r3 H locs hB J hS => ?_)
    rcases hB with ⟨rfl, hT1⟩ | ⟨c_4, c_5, rfl, hT1⟩
    · skip
      have hT := J _ hT1
      have hT : TP D A [(h1, aJ (k 1) 60 anJ), (h2, aJ (k 1) 180 anJ), (h3, aI (k 0) 60 anI), (h4, aI (k 0) 60 anI), (h5, aI (k 0) 60 anI), (h7, aI (k 0) 128 (rgI (-1) 59)), (h8, aI (k 0) 60 (rgI (-1) 59)), (h0, ob 3 [.ref h2, .ref h3, .ref h4, .ref h5, .ref h6, .ref h7, .ref h8, .ref h1, .int h0f8, .int h0f9, .int h0f10, .int h0f11])] _ := hT
      refine lv_if_eq (tgt := 79) hx hb dX4_append_65 (by decide) (fun _ => ?_) (fun cc => absurd (by decide +kernel) cc)
      refine lv_iconst (v := 0) hx hb dX4_append_79 (by decide) ?_
      refine tz_iast hx hb hK hT hS 4 rfl (by omega) (fun _ _ => trivial) dX4_append_80 (fun H locs hT hS => ?_)
      refine lv_aload_n hx hb dX4_append_81 rfl (lv_at hl 1 rfl) ?_
      refine lv_aload_n hx hb dX4_append_82 rfl (lv_at hl 2 rfl) ?_
      refine tcI (Tc := [(h0, ob 3 [.ref h2, .ref h3, .ref h4, .ref h5, .ref h6, .ref h7, .ref h8, .ref h1, .int h0f8, .int h0f9, .int h0f10, .int h0f11]), (h1, aJ (k 1) 60 anJ), (h7, aI (k 0) 128 (rgI (-1) 59))]) (Tr := [(h2, aJ (k 1) 180 anJ), (h3, aI (k 0) 60 anI), (h4, aI (k 0) 60 anI), (h5, aI (k 0) 60 anI), (h8, aI (k 0) 60 (rgI (-1) 59))]) (as := [h0, h1, h7]) (zcV (q0 := 7) (ci := 3) (As := [.ref h1]) (rest := []) (Tc := [(h0, ob 3 [.ref h2, .ref h3, .ref h4, .ref h5, .ref h6, .ref h7, .ref h8, .ref h1, .int h0f8, .int h0f9, .int h0f10, .int h0f11]), (h1, aJ (k 1) 60 anJ), (h7, aI (k 0) 128 (rgI (-1) 59))]) hx hb hml hown hU hK hT rfl rfl [7, 0, 5] rfl (by decide) (cX4_slotOf_11012 l D k _ h0 h1 h7 h2 h3 h4 h5 h6 h8 h0f8 h0f9 h0f10 h0f11 (by omega) (by omega) (by omega) (by omega)) w514 w511 w513 w11 w66 hdX4_slotOf ⟨rfl, rfl⟩ ⟨Nat.le_of_ble_eq_true rfl, Nat.le_of_ble_eq_true rfl⟩ rfl hl.1 (Nat.le_of_ble_eq_true rfl) dX4_append_83 ⟨Nat.le_of_ble_eq_true rfl, Nat.le_of_ble_eq_true rfl⟩) hT hS hA [7, 0, 5] [1, 2, 3, 4, 6] rfl rfl rfl (by decide) (by decide) (fun r6 H locs hB J hS => ?_)
      obtain ⟨b_r6, hT1⟩ := hB
      have hT := J _ hT1
      have hT : TP D A [(h2, aJ (k 1) 180 anJ), (h3, aI (k 0) 60 anI), (h4, aI (k 0) 60 anI), (h5, aI (k 0) 60 anI), (h8, aI (k 0) 60 (rgI (-1) 59)), (h0, ob 3 [.ref h2, .ref h3, .ref h4, .ref h5, .ref h6, .ref h7, .ref h8, .ref h1, .int h0f8, .int h0f9, .int h0f10, .int h0f11]), (h1, aJ (k 1) 60 anJ), (h7, aI (k 0) 128 (rgI (-1) 59))] _ := hT
      refine lv_istore (lv' := [(5, .int r6), (4, .int h0f10), (0, .ref h0), (1, .ref h1), (2, .int x2), (3, .int x3)]) hx hb dX4_append_86 hl (by decide) rfl (fun ls hl => ?_)
      refine lv_aload_n hx hb dX4_append_88 rfl (lv_at hl 2 rfl) ?_
      refine tz_get (ci := 3) (v := .ref h8) (C := RX4) (F := TX4) (N := 12) hx hb hU iX4 hown hK hT 5 rfl rfl 6 (by decide) w160 (fun _ h9 => h9) rfl dX4_append_89 ?_
      refine lv_iload hx hb dX4_append_92 (lv_at hl 1 rfl) ?_
      refine lv_aload_n hx hb dX4_append_94 rfl (lv_at hl 2 rfl) ?_
      refine tz_get (ci := 3) (v := .ref h7) (C := RX4) (F := TX4) (N := 12) hx hb hU iX4 hown hK hT 5 rfl rfl 5 (by decide) w159 (fun _ h9 => h9) rfl dX4_append_95 ?_
      refine lv_iload hx hb dX4_append_98 (lv_at hl 0 rfl) ?_
      refine tz_iald hx hb hK hT 7 rfl (by omega) dX4_append_100 (fun v7 e_v7 => ?_)
      have e_v7 := rg_get e_v7
      refine tz_iast hx hb hK hT hS 4 rfl (by omega) (rg_put (by omega)) dX4_append_101 (fun H locs hT hS => ?_)
      refine lv_aload_n hx hb dX4_append_102 rfl (lv_at hl 2 rfl) ?_
      refine tz_get (ci := 3) (v := .ref h7) (C := RX4) (F := TX4) (N := 12) hx hb hU iX4 hown hK hT 5 rfl rfl 5 (by decide) w159 (fun _ h9 => h9) rfl dX4_append_103 ?_
      refine lv_iload hx hb dX4_append_106 (lv_at hl 0 rfl) ?_
      refine lv_iload hx hb dX4_append_108 (lv_at hl 1 rfl) ?_
      refine tz_iast hx hb hK hT hS 7 rfl (by omega) (rg_put (by omega)) dX4_append_110 (fun H locs hT hS => ?_)
      refine lv_aload_n hx hb dX4_append_111 rfl (lv_at hl 2 rfl) ?_
      refine lv_dup hx hb dX4_append_112 rfl ?_
      refine tz_get (ci := 3) (v := .int h0f10) (C := RX4) (F := TX4) (N := 12) hx hb hU iX4 hown hK hT 5 rfl rfl 10 (by decide) w164 (fun _ h9 => h9) rfl dX4_append_113 ?_
      refine lv_iconst (v := 1) hx hb dX4_append_116 (by decide) ?_
      refine lv_iadd hx hb dX4_append_117 (lv_topi (fun v8 e_v8 => ?_))
      have e_v8 := ai_add e_v8 rfl li_1 (by omega)
      refine tz_put (ci := 3) (v := .int v8) (ty := .int) (C := RX4) (F := TX4) (N := 12) hx hb hU iX4 tyX4 tyX4_ok nmX4 hown hK hT hS 5 rfl rfl 10 (by decide) w164 (fun _ h9 => h9) rfl (by decide +kernel) rfl rfl (Nat.le_of_ble_eq_true rfl) dX4_append_118 (fun H locs hT hS => ?_)
      have hT : TP D A [(h2, aJ (k 1) 180 anJ), (h3, aI (k 0) 60 anI), (h4, aI (k 0) 60 anI), (h5, aI (k 0) 60 anI), (h8, aI (k 0) 60 (rgI (-1) 59)), (h0, ob 3 [.ref h2, .ref h3, .ref h4, .ref h5, .ref h6, .ref h7, .ref h8, .ref h1, .int h0f8, .int h0f9, .int v8, .int h0f11]), (h1, aJ (k 1) 60 anJ), (h7, aI (k 0) 128 (rgI (-1) 59))] _ := hT
      refine lv_iload hx hb dX4_append_121 (lv_at hl 1 rfl) ?_
      exact tz_retI (B := B_cX4_append_27b4f D k h0 h1 h2 h3 h4 h5 h7 h8 h6 x2 x3 h0f8 h0f9 h0f10 h0f11) (v := h0f10) hQ hx hb hr hlocks hS (Nat.le_of_ble_eq_true rfl) (Nat.le_of_ble_eq_true rfl) dX4_append_123 (⟨v8, (by omega), (by omega), (hT.sub [5, 6, 0, 1, 2, 3, 7, 4] (by decide) rfl)⟩)
    · skip
      have hT := J _ hT1
      have hT : TP D A [(h1, aJ (k 1) 60 anJ), (h2, aJ (k 1) 180 anJ), (h3, aI (k 0) 60 anI), (h4, aI (k 0) 60 anI), (h5, aI (k 0) 60 anI), (h7, aI (k 0) 128 (rgI (-1) 59)), (h8, aI (k 0) 60 (rgI (-1) 59)), (h0, ob 3 [.ref h2, .ref h3, .ref h4, .ref h5, .ref h6, .ref h7, .ref h8, .ref h1, .int h0f8, .int h0f9, .int h0f10, .int h0f11])] _ := hT
      refine lv_if_eq (tgt := 79) hx hb dX4_append_65 (by decide) (fun cc => absurd cc (by decide +kernel)) (fun _ => ?_)
      refine lv_aload_n hx hb dX4_append_68 rfl (lv_at hl 1 rfl) ?_
      refine tz_get (ci := 3) (v := .ref h5) (C := RX4) (F := TX4) (N := 12) hx hb hU iX4 hown hK hT 7 rfl rfl 3 (by decide) w155 (fun _ h9 => h9) rfl dX4_append_69 ?_
      refine lv_iload_n hx hb dX4_append_72 rfl (lv_at hl 3 rfl) ?_
      refine tz_iald hx hb hK hT 4 rfl (by omega) dX4_append_73 (fun v9 e_v9 => ?_)
      clear e_v9
      refine lv_iconst (v := 1) hx hb dX4_append_74 (by decide) ?_
      refine lv_iadd hx hb dX4_append_75 (lv_topi (fun v10 e_v10 => ?_))
      refine lv_goto (tgt := 80) hx hb dX4_append_76 (by decide) ?_
      refine tz_iast hx hb hK hT hS 4 rfl (by omega) (fun _ _ => trivial) dX4_append_80 (fun H locs hT hS => ?_)
      refine lv_aload_n hx hb dX4_append_81 rfl (lv_at hl 1 rfl) ?_
      refine lv_aload_n hx hb dX4_append_82 rfl (lv_at hl 2 rfl) ?_
      refine tcI (Tc := [(h0, ob 3 [.ref h2, .ref h3, .ref h4, .ref h5, .ref h6, .ref h7, .ref h8, .ref h1, .int h0f8, .int h0f9, .int h0f10, .int h0f11]), (h1, aJ (k 1) 60 anJ), (h7, aI (k 0) 128 (rgI (-1) 59))]) (Tr := [(h2, aJ (k 1) 180 anJ), (h3, aI (k 0) 60 anI), (h4, aI (k 0) 60 anI), (h5, aI (k 0) 60 anI), (h8, aI (k 0) 60 (rgI (-1) 59))]) (as := [h0, h1, h7]) (zcV (q0 := 7) (ci := 3) (As := [.ref h1]) (rest := []) (Tc := [(h0, ob 3 [.ref h2, .ref h3, .ref h4, .ref h5, .ref h6, .ref h7, .ref h8, .ref h1, .int h0f8, .int h0f9, .int h0f10, .int h0f11]), (h1, aJ (k 1) 60 anJ), (h7, aI (k 0) 128 (rgI (-1) 59))]) hx hb hml hown hU hK hT rfl rfl [7, 0, 5] rfl (by decide) (cX4_slotOf_11012 l D k _ h0 h1 h7 h2 h3 h4 h5 h6 h8 h0f8 h0f9 h0f10 h0f11 (by omega) (by omega) (by omega) (by omega)) w514 w511 w513 w11 w66 hdX4_slotOf ⟨rfl, rfl⟩ ⟨Nat.le_of_ble_eq_true rfl, Nat.le_of_ble_eq_true rfl⟩ rfl hl.1 (Nat.le_of_ble_eq_true rfl) dX4_append_83 ⟨Nat.le_of_ble_eq_true rfl, Nat.le_of_ble_eq_true rfl⟩) hT hS hA [7, 0, 5] [1, 2, 3, 4, 6] rfl rfl rfl (by decide) (by decide) (fun r11 H locs hB J hS => ?_)
      obtain ⟨b_r11, hT1⟩ := hB
      have hT := J _ hT1
      have hT : TP D A [(h2, aJ (k 1) 180 anJ), (h3, aI (k 0) 60 anI), (h4, aI (k 0) 60 anI), (h5, aI (k 0) 60 anI), (h8, aI (k 0) 60 (rgI (-1) 59)), (h0, ob 3 [.ref h2, .ref h3, .ref h4, .ref h5, .ref h6, .ref h7, .ref h8, .ref h1, .int h0f8, .int h0f9, .int h0f10, .int h0f11]), (h1, aJ (k 1) 60 anJ), (h7, aI (k 0) 128 (rgI (-1) 59))] _ := hT
      refine lv_istore (lv' := [(5, .int r11), (4, .int h0f10), (0, .ref h0), (1, .ref h1), (2, .int x2), (3, .int x3)]) hx hb dX4_append_86 hl (by decide) rfl (fun ls hl => ?_)
      refine lv_aload_n hx hb dX4_append_88 rfl (lv_at hl 2 rfl) ?_
      refine tz_get (ci := 3) (v := .ref h8) (C := RX4) (F := TX4) (N := 12) hx hb hU iX4 hown hK hT 5 rfl rfl 6 (by decide) w160 (fun _ h9 => h9) rfl dX4_append_89 ?_
      refine lv_iload hx hb dX4_append_92 (lv_at hl 1 rfl) ?_
      refine lv_aload_n hx hb dX4_append_94 rfl (lv_at hl 2 rfl) ?_
      refine tz_get (ci := 3) (v := .ref h7) (C := RX4) (F := TX4) (N := 12) hx hb hU iX4 hown hK hT 5 rfl rfl 5 (by decide) w159 (fun _ h9 => h9) rfl dX4_append_95 ?_
      refine lv_iload hx hb dX4_append_98 (lv_at hl 0 rfl) ?_
      refine tz_iald hx hb hK hT 7 rfl (by omega) dX4_append_100 (fun v12 e_v12 => ?_)
      have e_v12 := rg_get e_v12
      refine tz_iast hx hb hK hT hS 4 rfl (by omega) (rg_put (by omega)) dX4_append_101 (fun H locs hT hS => ?_)
      refine lv_aload_n hx hb dX4_append_102 rfl (lv_at hl 2 rfl) ?_
      refine tz_get (ci := 3) (v := .ref h7) (C := RX4) (F := TX4) (N := 12) hx hb hU iX4 hown hK hT 5 rfl rfl 5 (by decide) w159 (fun _ h9 => h9) rfl dX4_append_103 ?_
      refine lv_iload hx hb dX4_append_106 (lv_at hl 0 rfl) ?_
      refine lv_iload hx hb dX4_append_108 (lv_at hl 1 rfl) ?_
      refine tz_iast hx hb hK hT hS 7 rfl (by omega) (rg_put (by omega)) dX4_append_110 (fun H locs hT hS => ?_)
      refine lv_aload_n hx hb dX4_append_111 rfl (lv_at hl 2 rfl) ?_
      refine lv_dup hx hb dX4_append_112 rfl ?_
      refine tz_get (ci := 3) (v := .int h0f10) (C := RX4) (F := TX4) (N := 12) hx hb hU iX4 hown hK hT 5 rfl rfl 10 (by decide) w164 (fun _ h9 => h9) rfl dX4_append_113 ?_
      refine lv_iconst (v := 1) hx hb dX4_append_116 (by decide) ?_
      refine lv_iadd hx hb dX4_append_117 (lv_topi (fun v13 e_v13 => ?_))
      have e_v13 := ai_add e_v13 rfl li_1 (by omega)
      refine tz_put (ci := 3) (v := .int v13) (ty := .int) (C := RX4) (F := TX4) (N := 12) hx hb hU iX4 tyX4 tyX4_ok nmX4 hown hK hT hS 5 rfl rfl 10 (by decide) w164 (fun _ h9 => h9) rfl (by decide +kernel) rfl rfl (Nat.le_of_ble_eq_true rfl) dX4_append_118 (fun H locs hT hS => ?_)
      have hT : TP D A [(h2, aJ (k 1) 180 anJ), (h3, aI (k 0) 60 anI), (h4, aI (k 0) 60 anI), (h5, aI (k 0) 60 anI), (h8, aI (k 0) 60 (rgI (-1) 59)), (h0, ob 3 [.ref h2, .ref h3, .ref h4, .ref h5, .ref h6, .ref h7, .ref h8, .ref h1, .int h0f8, .int h0f9, .int v13, .int h0f11]), (h1, aJ (k 1) 60 anJ), (h7, aI (k 0) 128 (rgI (-1) 59))] _ := hT
      refine lv_iload hx hb dX4_append_121 (lv_at hl 1 rfl) ?_
      exact tz_retI (B := B_cX4_append_27b4f D k h0 h1 h2 h3 h4 h5 h7 h8 h6 x2 x3 h0f8 h0f9 h0f10 h0f11) (v := h0f10) hQ hx hb hr hlocks hS (Nat.le_of_ble_eq_true rfl) (Nat.le_of_ble_eq_true rfl) dX4_append_123 (⟨v13, (by omega), (by omega), (hT.sub [5, 6, 0, 1, 2, 3, 7, 4] (by decide) rfl)⟩)
  · skip
    have c_1 := ni_nlt c_1 rfl rfl
    refine lv_iconst (v := (-1)) hx hb dX4_append_11 (by decide) ?_
    exact tz_retI (B := B_cX4_append_27b4f D k h0 h1 h2 h3 h4 h5 h7 h8 h6 x2 x3 h0f8 h0f9 h0f10 h0f11) (v := (-1)) hQ hx hb hr hlocks hS (Nat.le_of_ble_eq_true rfl) (Nat.le_of_ble_eq_true rfl) dX4_append_12 (⟨h0f10, (by have := li_m1; omega), (by have := li_m1; omega), hT⟩)
abbrev Rm_cX4_lead_20ea7 : Room := { frames := 3, cells := 0, slots := 0, locals := 79 }
abbrev B_cX4_lead_20ea7 (D : va_G) (k : Nat → ClassId) (h0 h1 h2 h3 h4 h5 h7 h8 h9 h10 h11 h6 : Nat) (x2 : Int32) (x3 : Int32) (h0f8 : Int32) (h0f9 : Int32) (h0f10 : Int32) (h0f11 : Int32) (h10f0 : Int32) (h10f1 : Int32) (h10f2 : Int32) (A : Nat → Prop) (r : Int32) (H : Heap) : Prop := ∃ o0 : Int32, (1 ≤ o0.toInt ∧ o0.toInt ≤ 60) ∧ ((-1) ≤ r.toInt ∧ r.toInt ≤ 59) ∧ TP D A [(h0, ob 3 [.ref h2, .ref h3, .ref h4, .ref h5, .ref h6, .ref h7, .ref h8, .ref h9, .int h0f8, .int h0f9, .int o0, .int h0f11]), (h1, ob 1 [.ref h10]), (h2, aJ (k 1) 180 anJ), (h3, aI (k 0) 60 anI), (h4, aI (k 0) 60 anI), (h5, aI (k 0) 60 anI), (h7, aI (k 0) 128 (rgI (-1) 59)), (h8, aI (k 0) 60 (rgI (-1) 59)), (h9, aJ (k 1) 60 anJ), (h10, ob 4 [.int h10f0, .int h10f1, .int h10f2, .ref h11]), (h11, aJ (k 1) 36 anJ)] H
set_option maxHeartbeats 4000000 in
set_option maxRecDepth 100000 in
theorem cX4_lead_20ea7 (l : Launch) (D : va_G) (k : Nat → ClassId) (sz : Nat) (h0 h1 h2 h3 h4 h5 h7 h8 h9 h10 h11 h6 : Nat) (x2 : Int32) (x3 : Int32) (h0f8 : Int32) (h0f9 : Int32) (h0f10 : Int32) (h0f11 : Int32) (h10f0 : Int32) (h10f1 : Int32) (h10f2 : Int32) (b_x2 : 0 ≤ x2.toInt ∧ x2.toInt ≤ 59) (b_x3 : 0 ≤ x3.toInt ∧ x3.toInt ≤ 3) (b_h0f8 : 1 ≤ h0f8.toInt ∧ h0f8.toInt ≤ 3) (b_h0f9 : 60 ≤ h0f9.toInt ∧ h0f9.toInt ≤ 60) (b_h0f10 : 1 ≤ h0f10.toInt ∧ h0f10.toInt ≤ 60) (b_h0f11 : 0 ≤ h0f11.toInt ∧ h0f11.toInt ≤ 1) (b_h10f0 : 1 ≤ h10f0.toInt ∧ h10f0.toInt ≤ 3) (b_h10f1 : 0 ≤ h10f1.toInt ∧ h10f1.toInt ≤ 4) : Met l yX4_lead (Cond.code yX4_lead cX4_lead 5 (some .int) :: uw) Rm_cX4_lead_20ea7 (pT D k sz [.ref h0, .ref h1, .int x2, .int x3] [(h0, ob 3 [.ref h2, .ref h3, .ref h4, .ref h5, .ref h6, .ref h7, .ref h8, .ref h9, .int h0f8, .int h0f9, .int h0f10, .int h0f11]), (h1, ob 1 [.ref h10]), (h2, aJ (k 1) 180 anJ), (h3, aI (k 0) 60 anI), (h4, aI (k 0) 60 anI), (h5, aI (k 0) 60 anI), (h7, aI (k 0) 128 (rgI (-1) 59)), (h8, aI (k 0) 60 (rgI (-1) 59)), (h9, aJ (k 1) 60 anJ), (h10, ob 4 [.int h10f0, .int h10f1, .int h10f2, .ref h11]), (h11, aJ (k 1) 36 anJ)]) (qI (B_cX4_lead_20ea7 D k h0 h1 h2 h3 h4 h5 h7 h8 h9 h10 h11 h6 x2 x3 h0f8 h0f9 h0f10 h0f11 h10f0 h10f1 h10f2 (zA [h0, h1, h2, h3, h4, h5, h7, h8, h9, h10, h11] sz)) (zA [h0, h1, h2, h3, h4, h5, h7, h8, h9, h10, h11] sz)) 0 0 (zA [h0, h1, h2, h3, h4, h5, h7, h8, h9, h10, h11] sz) := by
  refine tz_begin (as := [h0, h1, h2, h3, h4, h5, h7, h8, h9, h10, h11]) (Qc := fun A => qI (B_cX4_lead_20ea7 D k h0 h1 h2 h3 h4 h5 h7 h8 h9 h10 h11 h6 x2 x3 h0f8 h0f9 h0f10 h0f11 h10f0 h10f1 h10f2 A) A) (by decide +kernel) rfl (Nat.le_of_ble_eq_true rfl) ?_
  intro p e s m args below meth c ls A Q hx hb hr hml hown hlocks hin hU hK hT hS hA hl hQ
  have hl : lv_has ls 5 [(0, .ref h0), (1, .ref h1), (2, .int x2), (3, .int x3)] := hl
  have hT : TP D A [(h0, ob 3 [.ref h2, .ref h3, .ref h4, .ref h5, .ref h6, .ref h7, .ref h8, .ref h9, .int h0f8, .int h0f9, .int h0f10, .int h0f11]), (h1, ob 1 [.ref h10]), (h2, aJ (k 1) 180 anJ), (h3, aI (k 0) 60 anI), (h4, aI (k 0) 60 anI), (h5, aI (k 0) 60 anI), (h7, aI (k 0) 128 (rgI (-1) 59)), (h8, aI (k 0) 60 (rgI (-1) 59)), (h9, aJ (k 1) 60 anJ), (h10, ob 4 [.int h10f0, .int h10f1, .int h10f2, .ref h11]), (h11, aJ (k 1) 36 anJ)] s.heap := hT
  refine lv_aload_n hx hb dX4_lead_0 rfl (lv_at hl 1 rfl) ?_
  refine lv_aload_n hx hb dX4_lead_1 rfl (lv_at hl 0 rfl) ?_
  refine tz_get (ci := 3) (v := .ref h2) (C := RX4) (F := TX4) (N := 12) hx hb hU iX4 hown hK hT 0 rfl rfl 0 (by decide) w149 (fun _ h9 => h9) rfl dX4_lead_2 ?_
  refine lv_aload_n hx hb dX4_lead_5 rfl (lv_at hl 0 rfl) ?_
  refine lv_iload_n hx hb dX4_lead_6 rfl (lv_at hl 2 rfl) ?_
  refine tcI (Tc := [(h0, ob 3 [.ref h2, .ref h3, .ref h4, .ref h5, .ref h6, .ref h7, .ref h8, .ref h9, .int h0f8, .int h0f9, .int h0f10, .int h0f11])]) (Tr := [(h1, ob 1 [.ref h10]), (h2, aJ (k 1) 180 anJ), (h3, aI (k 0) 60 anI), (h4, aI (k 0) 60 anI), (h5, aI (k 0) 60 anI), (h7, aI (k 0) 128 (rgI (-1) 59)), (h8, aI (k 0) 60 (rgI (-1) 59)), (h9, aJ (k 1) 60 anJ), (h10, ob 4 [.int h10f0, .int h10f1, .int h10f2, .ref h11]), (h11, aJ (k 1) 36 anJ)]) (as := [h0]) (zcV (q0 := 0) (ci := 3) (As := [.int x2]) (rest := [.ref h2, .ref h1]) (Tc := [(h0, ob 3 [.ref h2, .ref h3, .ref h4, .ref h5, .ref h6, .ref h7, .ref h8, .ref h9, .int h0f8, .int h0f9, .int h0f10, .int h0f11])]) hx hb hml hown hU hK hT rfl rfl [0] rfl (by decide) (cX4_start_cf782 l D k _ h0 h2 h3 h4 h5 h6 h7 h8 h9 x2 h0f8 h0f9 h0f10 h0f11 (by omega) (by omega) (by omega) (by omega) (by omega)) w505 w502 w503 w504 w66 hdX4_start ⟨rfl, rfl⟩ ⟨Nat.le_of_ble_eq_true rfl, Nat.le_of_ble_eq_true rfl⟩ rfl hl.1 (Nat.le_of_ble_eq_true rfl) dX4_lead_7 ⟨Nat.le_of_ble_eq_true rfl, Nat.le_of_ble_eq_true rfl⟩) hT hS hA [0] [1, 2, 3, 4, 5, 6, 7, 8, 9, 10] rfl rfl rfl (by decide) (by decide) (fun r1 H locs hB J hS => ?_)
  obtain ⟨b_r1, hT1⟩ := hB
  have hT := J _ hT1
  have hT : TP D A [(h1, ob 1 [.ref h10]), (h2, aJ (k 1) 180 anJ), (h3, aI (k 0) 60 anI), (h4, aI (k 0) 60 anI), (h5, aI (k 0) 60 anI), (h7, aI (k 0) 128 (rgI (-1) 59)), (h8, aI (k 0) 60 (rgI (-1) 59)), (h9, aJ (k 1) 60 anJ), (h10, ob 4 [.int h10f0, .int h10f1, .int h10f2, .ref h11]), (h11, aJ (k 1) 36 anJ), (h0, ob 3 [.ref h2, .ref h3, .ref h4, .ref h5, .ref h6, .ref h7, .ref h8, .ref h9, .int h0f8, .int h0f9, .int h0f10, .int h0f11])] _ := hT
  refine lv_iload_n hx hb dX4_lead_10 rfl (lv_at hl 3 rfl) ?_
  refine lv_aload_n hx hb dX4_lead_11 rfl (lv_at hl 0 rfl) ?_
  refine tz_get (ci := 3) (v := .ref h9) (C := RX4) (F := TX4) (N := 12) hx hb hU iX4 hown hK hT 10 rfl rfl 7 (by decide) w161 (fun _ h9 => h9) rfl dX4_lead_12 ?_
  refine tcI (Tc := [(h1, ob 1 [.ref h10]), (h2, aJ (k 1) 180 anJ), (h9, aJ (k 1) 60 anJ), (h10, ob 4 [.int h10f0, .int h10f1, .int h10f2, .ref h11]), (h11, aJ (k 1) 36 anJ)]) (Tr := [(h3, aI (k 0) 60 anI), (h4, aI (k 0) 60 anI), (h5, aI (k 0) 60 anI), (h7, aI (k 0) 128 (rgI (-1) 59)), (h8, aI (k 0) 60 (rgI (-1) 59)), (h0, ob 3 [.ref h2, .ref h3, .ref h4, .ref h5, .ref h6, .ref h7, .ref h8, .ref h9, .int h0f8, .int h0f9, .int h0f10, .int h0f11])]) (as := [h1, h2, h9, h10, h11]) (zcA (q0 := 0) (ci := 1) (As := [.ref h2, .int r1, .int x3, .ref h9]) (rest := []) (Tc := [(h1, ob 1 [.ref h10]), (h2, aJ (k 1) 180 anJ), (h9, aJ (k 1) 60 anJ), (h10, ob 4 [.int h10f0, .int h10f1, .int h10f2, .ref h11]), (h11, aJ (k 1) 36 anJ)]) hx hb hml hown hU hK hT rfl rfl [0, 1, 7, 8, 9] rfl (by decide) (cX1_go_e8f5f l D k _ h1 h2 h9 h10 h11 r1 x3 h10f0 h10f1 h10f2 (by omega) (by omega) (by omega) (by omega)) w533 w524 wStepSame w531 w532 w69 hdX1_go ⟨rfl, rfl⟩ ⟨Nat.le_of_ble_eq_true rfl, Nat.le_of_ble_eq_true rfl⟩ rfl hl.1 (Nat.le_of_ble_eq_true rfl) dX4_lead_15 ⟨Nat.le_of_ble_eq_true rfl, Nat.le_of_ble_eq_true rfl⟩ rfl) hT hS hA [0, 1, 7, 8, 9] [2, 3, 4, 5, 6, 10] rfl rfl rfl (by decide) (by decide) (fun r2 H locs hB J hS => ?_)
  obtain ⟨b_r2, hT1⟩ := hB
  have hT := J _ hT1
  have hT : TP D A [(h3, aI (k 0) 60 anI), (h4, aI (k 0) 60 anI), (h5, aI (k 0) 60 anI), (h7, aI (k 0) 128 (rgI (-1) 59)), (h8, aI (k 0) 60 (rgI (-1) 59)), (h0, ob 3 [.ref h2, .ref h3, .ref h4, .ref h5, .ref h6, .ref h7, .ref h8, .ref h9, .int h0f8, .int h0f9, .int h0f10, .int h0f11]), (h1, ob 1 [.ref h10]), (h2, aJ (k 1) 180 anJ), (h9, aJ (k 1) 60 anJ), (h10, ob 4 [.int h10f0, .int h10f1, .int h10f2, .ref h11]), (h11, aJ (k 1) 36 anJ)] _ := hT
  refine lv_if_ne (tgt := 23) hx hb dX4_lead_18 (by decide) (fun c_3 => ?_) (fun c_3 => ?_)
  · skip
    have c_3 := ni_ne c_3 rfl li_0
    refine lv_aload_n hx hb dX4_lead_23 rfl (lv_at hl 0 rfl) ?_
    refine lv_aload_n hx hb dX4_lead_24 rfl (lv_at hl 0 rfl) ?_
    refine tz_get (ci := 3) (v := .ref h9) (C := RX4) (F := TX4) (N := 12) hx hb hU iX4 hown hK hT 5 rfl rfl 7 (by decide) w161 (fun _ h9 => h9) rfl dX4_lead_25 ?_
    refine tcI (Tc := [(h0, ob 3 [.ref h2, .ref h3, .ref h4, .ref h5, .ref h6, .ref h7, .ref h8, .ref h9, .int h0f8, .int h0f9, .int h0f10, .int h0f11]), (h9, aJ (k 1) 60 anJ), (h2, aJ (k 1) 180 anJ), (h7, aI (k 0) 128 (rgI (-1) 59)), (h8, aI (k 0) 60 (rgI (-1) 59))]) (Tr := [(h3, aI (k 0) 60 anI), (h4, aI (k 0) 60 anI), (h5, aI (k 0) 60 anI), (h1, ob 1 [.ref h10]), (h10, ob 4 [.int h10f0, .int h10f1, .int h10f2, .ref h11]), (h11, aJ (k 1) 36 anJ)]) (as := [h0, h9, h2, h7, h8]) (zcV (q0 := 5) (ci := 3) (As := [.ref h9]) (rest := []) (Tc := [(h0, ob 3 [.ref h2, .ref h3, .ref h4, .ref h5, .ref h6, .ref h7, .ref h8, .ref h9, .int h0f8, .int h0f9, .int h0f10, .int h0f11]), (h9, aJ (k 1) 60 anJ), (h2, aJ (k 1) 180 anJ), (h7, aI (k 0) 128 (rgI (-1) 59)), (h8, aI (k 0) 60 (rgI (-1) 59))]) hx hb hml hown hU hK hT rfl rfl [5, 8, 7, 3, 4] rfl (by decide) (cX4_search_9734a l D k _ h0 h9 h2 h7 h8 h3 h4 h5 h6 h0f8 h0f9 h0f10 h0f11 (by omega) (by omega) (by omega) (by omega)) w555 w552 w553 w554 w66 hdX4_search ⟨rfl, rfl⟩ ⟨Nat.le_of_ble_eq_true rfl, Nat.le_of_ble_eq_true rfl⟩ rfl hl.1 (Nat.le_of_ble_eq_true rfl) dX4_lead_28 ⟨Nat.le_of_ble_eq_true rfl, Nat.le_of_ble_eq_true rfl⟩) hT hS hA [5, 8, 7, 3, 4] [0, 1, 2, 6, 9, 10] rfl rfl rfl (by decide) (by decide) (fun r4 H locs hB J hS => ?_)
    obtain ⟨b_r4, hT1⟩ := hB
    have hT := J _ hT1
    have hT : TP D A [(h3, aI (k 0) 60 anI), (h4, aI (k 0) 60 anI), (h5, aI (k 0) 60 anI), (h1, ob 1 [.ref h10]), (h10, ob 4 [.int h10f0, .int h10f1, .int h10f2, .ref h11]), (h11, aJ (k 1) 36 anJ), (h0, ob 3 [.ref h2, .ref h3, .ref h4, .ref h5, .ref h6, .ref h7, .ref h8, .ref h9, .int h0f8, .int h0f9, .int h0f10, .int h0f11]), (h9, aJ (k 1) 60 anJ), (h2, aJ (k 1) 180 anJ), (h7, aI (k 0) 128 (rgI (-1) 59)), (h8, aI (k 0) 60 (rgI (-1) 59))] _ := hT
    refine lv_istore (lv' := [(4, .int r4), (0, .ref h0), (1, .ref h1), (2, .int x2), (3, .int x3)]) hx hb dX4_lead_31 hl (by decide) rfl (fun ls hl => ?_)
    refine lv_iload hx hb dX4_lead_33 (lv_at hl 0 rfl) ?_
    refine lv_if_lt (tgt := 43) hx hb dX4_lead_35 (by decide) (fun c_5 => ?_) (fun c_5 => ?_)
    · skip
      have c_5 := ni_lt c_5 rfl li_0
      refine lv_aload_n hx hb dX4_lead_43 rfl (lv_at hl 1 rfl) ?_
      refine lv_aload_n hx hb dX4_lead_44 rfl (lv_at hl 1 rfl) ?_
      refine tz_get (ci := 3) (v := .ref h9) (C := RX4) (F := TX4) (N := 12) hx hb hU iX4 hown hK hT 6 rfl rfl 7 (by decide) w161 (fun _ h9 => h9) rfl dX4_lead_45 ?_
      refine lv_iload_n hx hb dX4_lead_48 rfl (lv_at hl 3 rfl) ?_
      refine lv_iload_n hx hb dX4_lead_49 rfl (lv_at hl 4 rfl) ?_
      refine tcI (Tc := [(h0, ob 3 [.ref h2, .ref h3, .ref h4, .ref h5, .ref h6, .ref h7, .ref h8, .ref h9, .int h0f8, .int h0f9, .int h0f10, .int h0f11]), (h9, aJ (k 1) 60 anJ), (h2, aJ (k 1) 180 anJ), (h3, aI (k 0) 60 anI), (h4, aI (k 0) 60 anI), (h5, aI (k 0) 60 anI), (h7, aI (k 0) 128 (rgI (-1) 59)), (h8, aI (k 0) 60 (rgI (-1) 59))]) (Tr := [(h1, ob 1 [.ref h10]), (h10, ob 4 [.int h10f0, .int h10f1, .int h10f2, .ref h11]), (h11, aJ (k 1) 36 anJ)]) (as := [h0, h9, h2, h3, h4, h5, h7, h8]) (zcV (q0 := 6) (ci := 3) (As := [.ref h9, .int x2, .int x3]) (rest := []) (Tc := [(h0, ob 3 [.ref h2, .ref h3, .ref h4, .ref h5, .ref h6, .ref h7, .ref h8, .ref h9, .int h0f8, .int h0f9, .int h0f10, .int h0f11]), (h9, aJ (k 1) 60 anJ), (h2, aJ (k 1) 180 anJ), (h3, aI (k 0) 60 anI), (h4, aI (k 0) 60 anI), (h5, aI (k 0) 60 anI), (h7, aI (k 0) 128 (rgI (-1) 59)), (h8, aI (k 0) 60 (rgI (-1) 59))]) hx hb hml hown hU hK hT rfl rfl [6, 7, 8, 0, 1, 2, 9, 10] rfl (by decide) (cX4_append_27b4f l D k _ h0 h9 h2 h3 h4 h5 h7 h8 h6 x2 x3 h0f8 h0f9 h0f10 h0f11 (by omega) (by omega) (by omega) (by omega) (by omega) (by omega)) w501 w560 w499 w500 w66 hdX4_append ⟨rfl, rfl⟩ ⟨Nat.le_of_ble_eq_true rfl, Nat.le_of_ble_eq_true rfl⟩ rfl hl.1 (Nat.le_of_ble_eq_true rfl) dX4_lead_50 ⟨Nat.le_of_ble_eq_true rfl, Nat.le_of_ble_eq_true rfl⟩) hT hS hA [6, 7, 8, 0, 1, 2, 9, 10] [3, 4, 5] rfl rfl rfl (by decide) (by decide) (fun r6 H locs hB J hS => ?_)
      obtain ⟨v7, b_v7, b_r6, hT1⟩ := hB
      have hT := J _ hT1
      have hT : TP D A [(h1, ob 1 [.ref h10]), (h10, ob 4 [.int h10f0, .int h10f1, .int h10f2, .ref h11]), (h11, aJ (k 1) 36 anJ), (h0, ob 3 [.ref h2, .ref h3, .ref h4, .ref h5, .ref h6, .ref h7, .ref h8, .ref h9, .int h0f8, .int h0f9, .int v7, .int h0f11]), (h9, aJ (k 1) 60 anJ), (h2, aJ (k 1) 180 anJ), (h3, aI (k 0) 60 anI), (h4, aI (k 0) 60 anI), (h5, aI (k 0) 60 anI), (h7, aI (k 0) 128 (rgI (-1) 59)), (h8, aI (k 0) 60 (rgI (-1) 59))] _ := hT
      exact tz_retI (B := B_cX4_lead_20ea7 D k h0 h1 h2 h3 h4 h5 h7 h8 h9 h10 h11 h6 x2 x3 h0f8 h0f9 h0f10 h0f11 h10f0 h10f1 h10f2) (v := r6) hQ hx hb hr hlocks hS (Nat.le_of_ble_eq_true rfl) (Nat.le_of_ble_eq_true rfl) dX4_lead_53 (⟨v7, (by omega), (by omega), (hT.sub [3, 0, 5, 6, 7, 8, 9, 10, 4, 1, 2] (by decide) rfl)⟩)
    · skip
      have c_5 := ni_nlt c_5 rfl li_0
      refine lv_iload hx hb dX4_lead_38 (lv_at hl 0 rfl) ?_
      refine lv_goto (tgt := 53) hx hb dX4_lead_40 (by decide) ?_
      exact tz_retI (B := B_cX4_lead_20ea7 D k h0 h1 h2 h3 h4 h5 h7 h8 h9 h10 h11 h6 x2 x3 h0f8 h0f9 h0f10 h0f11 h10f0 h10f1 h10f2) (v := r4) hQ hx hb hr hlocks hS (Nat.le_of_ble_eq_true rfl) (Nat.le_of_ble_eq_true rfl) dX4_lead_53 (⟨h0f10, (by omega), (by omega), (hT.sub [6, 3, 8, 0, 1, 2, 9, 10, 7, 4, 5] (by decide) rfl)⟩)
  · skip
    have c_3 := ni_eq c_3 rfl li_0
    refine lv_iconst (v := (-1)) hx hb dX4_lead_21 (by decide) ?_
    exact tz_retI (B := B_cX4_lead_20ea7 D k h0 h1 h2 h3 h4 h5 h7 h8 h9 h10 h11 h6 x2 x3 h0f8 h0f9 h0f10 h0f11 h10f0 h10f1 h10f2) (v := (-1)) hQ hx hb hr hlocks hS (Nat.le_of_ble_eq_true rfl) (Nat.le_of_ble_eq_true rfl) dX4_lead_22 (⟨h0f10, (by have := li_m1; omega), (by have := li_m1; omega), (hT.sub [5, 6, 7, 0, 1, 2, 3, 4, 8, 9, 10] (by decide) rfl)⟩)
abbrev Rm_cX4_spread_6c665 : Room := { frames := 4, cells := 0, slots := 0, locals := 103 }
abbrev B_cX4_spread_6c665 (D : va_G) (k : Nat → ClassId) (h0 h1 h2 h3 h4 h5 h6 h7 h8 h9 h10 h11 : Nat) (x2 : Int32) (h0f8 : Int32) (h0f9 : Int32) (h0f10 : Int32) (h0f11 : Int32) (h10f0 : Int32) (h10f1 : Int32) (h10f2 : Int32) (A : Nat → Prop) (H : Heap) : Prop := ∃ o0 : Int32, ∃ o1 : Int32, (1 ≤ o0.toInt ∧ o0.toInt ≤ 60) ∧ (0 ≤ o1.toInt ∧ o1.toInt ≤ 1) ∧ TP D A [(h0, ob 3 [.ref h2, .ref h3, .ref h4, .ref h5, .ref h6, .ref h7, .ref h8, .ref h9, .int h0f8, .int h0f9, .int o0, .int o1]), (h1, ob 1 [.ref h10]), (h2, aJ (k 1) 180 anJ), (h3, aI (k 0) 60 anI), (h4, aI (k 0) 60 anI), (h5, aI (k 0) 60 anI), (h6, aI (k 0) 240 anI), (h7, aI (k 0) 128 (rgI (-1) 59)), (h8, aI (k 0) 60 (rgI (-1) 59)), (h9, aJ (k 1) 60 anJ), (h10, ob 4 [.int h10f0, .int h10f1, .int h10f2, .ref h11]), (h11, aJ (k 1) 36 anJ)] H
set_option maxHeartbeats 4000000 in
set_option maxRecDepth 100000 in
theorem cX4_spread_6c665 (l : Launch) (D : va_G) (k : Nat → ClassId) (sz : Nat) (h0 h1 h2 h3 h4 h5 h6 h7 h8 h9 h10 h11 : Nat) (x2 : Int32) (h0f8 : Int32) (h0f9 : Int32) (h0f10 : Int32) (h0f11 : Int32) (h10f0 : Int32) (h10f1 : Int32) (h10f2 : Int32) (b_x2 : 0 ≤ x2.toInt ∧ x2.toInt ≤ 4) (b_h0f8 : 1 ≤ h0f8.toInt ∧ h0f8.toInt ≤ 3) (b_h0f9 : 60 ≤ h0f9.toInt ∧ h0f9.toInt ≤ 60) (b_h0f10 : 1 ≤ h0f10.toInt ∧ h0f10.toInt ≤ 1) (b_h0f11 : 0 ≤ h0f11.toInt ∧ h0f11.toInt ≤ 0) (b_h10f0 : 1 ≤ h10f0.toInt ∧ h10f0.toInt ≤ 3) (b_h10f1 : 0 ≤ h10f1.toInt ∧ h10f1.toInt ≤ 4) : Met l yX4_spread (Cond.code yX4_spread cX4_spread 6 none :: uw) Rm_cX4_spread_6c665 (pT D k sz [.ref h0, .ref h1, .int x2] [(h0, ob 3 [.ref h2, .ref h3, .ref h4, .ref h5, .ref h6, .ref h7, .ref h8, .ref h9, .int h0f8, .int h0f9, .int h0f10, .int h0f11]), (h1, ob 1 [.ref h10]), (h2, aJ (k 1) 180 anJ), (h3, aI (k 0) 60 anI), (h4, aI (k 0) 60 anI), (h5, aI (k 0) 60 anI), (h6, aI (k 0) 240 anI), (h7, aI (k 0) 128 (rgI (-1) 59)), (h8, aI (k 0) 60 (rgI (-1) 59)), (h9, aJ (k 1) 60 anJ), (h10, ob 4 [.int h10f0, .int h10f1, .int h10f2, .ref h11]), (h11, aJ (k 1) 36 anJ)]) (qV (B_cX4_spread_6c665 D k h0 h1 h2 h3 h4 h5 h6 h7 h8 h9 h10 h11 x2 h0f8 h0f9 h0f10 h0f11 h10f0 h10f1 h10f2 (zA [h0, h1, h2, h3, h4, h5, h6, h7, h8, h9, h10, h11] sz)) (zA [h0, h1, h2, h3, h4, h5, h6, h7, h8, h9, h10, h11] sz)) 0 0 (zA [h0, h1, h2, h3, h4, h5, h6, h7, h8, h9, h10, h11] sz) := by
  refine tz_begin (as := [h0, h1, h2, h3, h4, h5, h6, h7, h8, h9, h10, h11]) (Qc := fun A => qV (B_cX4_spread_6c665 D k h0 h1 h2 h3 h4 h5 h6 h7 h8 h9 h10 h11 x2 h0f8 h0f9 h0f10 h0f11 h10f0 h10f1 h10f2 A) A) (by decide +kernel) rfl (Nat.le_of_ble_eq_true rfl) ?_
  intro p e s m args below meth c ls A Q hx hb hr hml hown hlocks hin hU hK hT hS hA hl hQ
  have hl : lv_has ls 6 [(0, .ref h0), (1, .ref h1), (2, .int x2)] := hl
  have hT : TP D A [(h0, ob 3 [.ref h2, .ref h3, .ref h4, .ref h5, .ref h6, .ref h7, .ref h8, .ref h9, .int h0f8, .int h0f9, .int h0f10, .int h0f11]), (h1, ob 1 [.ref h10]), (h2, aJ (k 1) 180 anJ), (h3, aI (k 0) 60 anI), (h4, aI (k 0) 60 anI), (h5, aI (k 0) 60 anI), (h6, aI (k 0) 240 anI), (h7, aI (k 0) 128 (rgI (-1) 59)), (h8, aI (k 0) 60 (rgI (-1) 59)), (h9, aJ (k 1) 60 anJ), (h10, ob 4 [.int h10f0, .int h10f1, .int h10f2, .ref h11]), (h11, aJ (k 1) 36 anJ)] s.heap := hT
  refine lv_aload_n hx hb dX4_spread_0 rfl (lv_at hl 0 rfl) ?_
  refine lv_iconst (v := 1) hx hb dX4_spread_1 (by decide) ?_
  refine tz_put (ci := 3) (v := .int 1) (ty := .boolean) (C := RX4) (F := TX4) (N := 12) hx hb hU iX4 tyX4 tyX4_ok nmX4 hown hK hT hS 0 rfl rfl 11 (by decide) w167 (fun _ h9 => h9) rfl (by decide +kernel) rfl rfl (Nat.le_of_ble_eq_true rfl) dX4_spread_2 (fun H locs hT hS => ?_)
  have hT : TP D A [(h0, ob 3 [.ref h2, .ref h3, .ref h4, .ref h5, .ref h6, .ref h7, .ref h8, .ref h9, .int h0f8, .int h0f9, .int h0f10, .int 1]), (h1, ob 1 [.ref h10]), (h2, aJ (k 1) 180 anJ), (h3, aI (k 0) 60 anI), (h4, aI (k 0) 60 anI), (h5, aI (k 0) 60 anI), (h6, aI (k 0) 240 anI), (h7, aI (k 0) 128 (rgI (-1) 59)), (h8, aI (k 0) 60 (rgI (-1) 59)), (h9, aJ (k 1) 60 anJ), (h10, ob 4 [.int h10f0, .int h10f1, .int h10f2, .ref h11]), (h11, aJ (k 1) 36 anJ)] _ := hT
  refine lv_iconst (v := 0) hx hb dX4_spread_5 (by decide) ?_
  refine lv_istore_n (lv' := [(3, .int 0), (0, .ref h0), (1, .ref h1), (2, .int x2)]) hx hb dX4_spread_6 rfl hl (by decide) rfl (fun ls hl => ?_)
  have lp7_37 : ∀ (n : Nat) (y34 : Int32) (y35 : Int32) (y36 : Int32) (H : Heap) (locs : List Loc) (ls : Array Slot), (0 ≤ y34.toInt ∧ y34.toInt ≤ 60) → (1 ≤ y35.toInt ∧ y35.toInt ≤ 60) → (0 ≤ y36.toInt ∧ y36.toInt ≤ 1) → (h0f9.toInt + (-1) * y34.toInt + 1).toNat < n → TP D A [(h0, ob 3 [.ref h2, .ref h3, .ref h4, .ref h5, .ref h6, .ref h7, .ref h8, .ref h9, .int h0f8, .int h0f9, .int y35, .int y36]), (h1, ob 1 [.ref h10]), (h2, aJ (k 1) 180 anJ), (h3, aI (k 0) 60 anI), (h4, aI (k 0) 60 anI), (h5, aI (k 0) 60 anI), (h6, aI (k 0) 240 anI), (h7, aI (k 0) 128 (rgI (-1) 59)), (h8, aI (k 0) 60 (rgI (-1) 59)), (h9, aJ (k 1) 60 anJ), (h10, ob 4 [.int h10f0, .int h10f1, .int h10f2, .ref h11]), (h11, aJ (k 1) 36 anJ)] H → va_S A s.heap H locs → lv_has ls 6 [(0, .ref h0), (1, .ref h1), (2, .int x2), (3, .int y34)] → W p l e Rm_cX4_spread_6c665 s m args below meth c H locs 0 0 Q (F0 m 7 ls []) := by
    intro n
    induction n with
    | zero => intro y34 y35 y36 H locs ls b_y34 b_y35 b_y36 hm hT hS hl; exact absurd hm (Nat.not_lt_zero _)
    | succ n ih =>
      intro y34 y35 y36 H locs ls b_y34 b_y35 b_y36 hm hT hS hl
      have ih7_37 := ih
      clear ih
      refine lv_iload_n hx hb dX4_spread_7 rfl (lv_at hl 3 rfl) ?_
      refine lv_aload_n hx hb dX4_spread_8 rfl (lv_at hl 0 rfl) ?_
      refine tz_get (ci := 3) (v := .int h0f9) (C := RX4) (F := TX4) (N := 12) hx hb hU iX4 hown hK hT 0 rfl rfl 9 (by decide) w163 (fun _ h9 => h9) rfl dX4_spread_9 ?_
      refine lv_icmp_ge (tgt := 96) hx hb dX4_spread_12 (by decide) (fun c_38 => ?_) (fun c_38 => ?_)
      · skip
        have c_38 := ni_le c_38 rfl rfl
        exact tz_retV (B := B_cX4_spread_6c665 D k h0 h1 h2 h3 h4 h5 h6 h7 h8 h9 h10 h11 x2 h0f8 h0f9 h0f10 h0f11 h10f0 h10f1 h10f2) hQ hx hb hr hlocks hS (Nat.le_of_ble_eq_true rfl) (Nat.le_of_ble_eq_true rfl) dX4_spread_96 (⟨y35, y36, (by omega), (by omega), hT⟩)
      · skip
        have c_38 := ni_nle c_38 rfl rfl
        refine lv_iload_n hx hb dX4_spread_15 rfl (lv_at hl 3 rfl) ?_
        refine lv_aload_n hx hb dX4_spread_16 rfl (lv_at hl 0 rfl) ?_
        refine tz_get (ci := 3) (v := .int y35) (C := RX4) (F := TX4) (N := 12) hx hb hU iX4 hown hK hT 0 rfl rfl 10 (by decide) w164 (fun _ h9 => h9) rfl dX4_spread_17 ?_
        refine lv_icmp_ge (tgt := 96) hx hb dX4_spread_20 (by decide) (fun c_39 => ?_) (fun c_39 => ?_)
        · skip
          have c_39 := ni_le c_39 rfl rfl
          exact tz_retV (B := B_cX4_spread_6c665 D k h0 h1 h2 h3 h4 h5 h6 h7 h8 h9 h10 h11 x2 h0f8 h0f9 h0f10 h0f11 h10f0 h10f1 h10f2) hQ hx hb hr hlocks hS (Nat.le_of_ble_eq_true rfl) (Nat.le_of_ble_eq_true rfl) dX4_spread_96 (⟨y35, y36, (by omega), (by omega), hT⟩)
        · skip
          have c_39 := ni_nle c_39 rfl rfl
          refine lv_iconst (v := 0) hx hb dX4_spread_23 (by decide) ?_
          refine lv_istore (lv' := [(4, .int 0), (0, .ref h0), (1, .ref h1), (2, .int x2), (3, .int y34)]) hx hb dX4_spread_24 hl (by decide) rfl (fun ls hl => ?_)
          have lp26_52 : ∀ (n : Nat) (y49 : Int32) (y50 : Int32) (y51 : Int32) (H : Heap) (locs : List Loc) (ls : Array Slot), (0 ≤ y49.toInt ∧ y49.toInt ≤ 4) → (1 ≤ y50.toInt ∧ y50.toInt ≤ 60) → (0 ≤ y51.toInt ∧ y51.toInt ≤ 1) → (x2.toInt + (-1) * y49.toInt + 1).toNat < n → TP D A [(h0, ob 3 [.ref h2, .ref h3, .ref h4, .ref h5, .ref h6, .ref h7, .ref h8, .ref h9, .int h0f8, .int h0f9, .int y50, .int y51]), (h1, ob 1 [.ref h10]), (h2, aJ (k 1) 180 anJ), (h3, aI (k 0) 60 anI), (h4, aI (k 0) 60 anI), (h5, aI (k 0) 60 anI), (h6, aI (k 0) 240 anI), (h7, aI (k 0) 128 (rgI (-1) 59)), (h8, aI (k 0) 60 (rgI (-1) 59)), (h9, aJ (k 1) 60 anJ), (h10, ob 4 [.int h10f0, .int h10f1, .int h10f2, .ref h11]), (h11, aJ (k 1) 36 anJ)] H → va_S A s.heap H locs → lv_has ls 6 [(0, .ref h0), (1, .ref h1), (2, .int x2), (3, .int y34), (4, .int y49)] → W p l e Rm_cX4_spread_6c665 s m args below meth c H locs 0 0 Q (F0 m 26 ls []) := by
            intro n
            induction n with
            | zero => intro y49 y50 y51 H locs ls b_y49 b_y50 b_y51 hm hT hS hl; exact absurd hm (Nat.not_lt_zero _)
            | succ n ih =>
              intro y49 y50 y51 H locs ls b_y49 b_y50 b_y51 hm hT hS hl
              have ih26_52 := ih
              clear ih
              refine lv_iload hx hb dX4_spread_26 (lv_at hl 4 rfl) ?_
              refine lv_iload_n hx hb dX4_spread_28 rfl (lv_at hl 2 rfl) ?_
              refine lv_icmp_ge (tgt := 71) hx hb dX4_spread_29 (by decide) (fun c_53 => ?_) (fun c_53 => ?_)
              · skip
                have c_53 := ni_le c_53 rfl rfl
                refine lv_aload_n hx hb dX4_spread_71 rfl (lv_at hl 0 rfl) ?_
                refine tz_get (ci := 3) (v := .int y51) (C := RX4) (F := TX4) (N := 12) hx hb hU iX4 hown hK hT 0 rfl rfl 11 (by decide) w167 (fun _ h9 => h9) rfl dX4_spread_72 ?_
                refine lv_if_ne (tgt := 90) hx hb dX4_spread_75 (by decide) (fun c_54 => ?_) (fun c_54 => ?_)
                · skip
                  have c_54 := ni_ne c_54 rfl li_0
                  obtain ⟨v55, e_v55⟩ : ∃ x : Int32, x = y34 + Int32.ofInt 1 := ⟨_, rfl⟩
                  have f_v55 := e_v55.symm
                  have e_v55 : v55.toInt = y34.toInt + 1 := ai_add e_v55 rfl (show (Int32.ofInt 1).toInt = 1 from (by decide +kernel)) (by omega)
                  refine lv_iinc (v := v55) (lv' := [(3, .int v55), (0, .ref h0), (1, .ref h1), (2, .int x2), (4, .int y49)]) hx hb dX4_spread_90 hl (k := 3) rfl f_v55 (by decide) rfl (fun ls hl => ?_)
                  refine lv_goto (tgt := 7) hx hb dX4_spread_93 (by decide) ?_
                  exact ih7_37 v55 y50 y51 _ _ _ (by omega) (by omega) (by omega)  (by omega) hT hS (lv_sub hl [1, 2, 3, 0] rfl)
                · skip
                  have c_54 := ni_eq c_54 rfl li_0
                  refine lv_aload_n hx hb dX4_spread_78 rfl (lv_at hl 0 rfl) ?_
                  refine tz_get (ci := 3) (v := .int y50) (C := RX4) (F := TX4) (N := 12) hx hb hU iX4 hown hK hT 0 rfl rfl 10 (by decide) w164 (fun _ h9 => h9) rfl dX4_spread_79 ?_
                  refine lv_aload_n hx hb dX4_spread_82 rfl (lv_at hl 0 rfl) ?_
                  refine tz_get (ci := 3) (v := .int h0f9) (C := RX4) (F := TX4) (N := 12) hx hb hU iX4 hown hK hT 0 rfl rfl 9 (by decide) w163 (fun _ h9 => h9) rfl dX4_spread_83 ?_
                  refine lv_icmp_ne (tgt := 90) hx hb dX4_spread_86 (by decide) (fun c_56 => ?_) (fun c_56 => ?_)
                  · skip
                    have c_56 := ni_ne c_56 rfl rfl
                    obtain ⟨v57, e_v57⟩ : ∃ x : Int32, x = y34 + Int32.ofInt 1 := ⟨_, rfl⟩
                    have f_v57 := e_v57.symm
                    have e_v57 : v57.toInt = y34.toInt + 1 := ai_add e_v57 rfl (show (Int32.ofInt 1).toInt = 1 from (by decide +kernel)) (by omega)
                    refine lv_iinc (v := v57) (lv' := [(3, .int v57), (0, .ref h0), (1, .ref h1), (2, .int x2), (4, .int y49)]) hx hb dX4_spread_90 hl (k := 3) rfl f_v57 (by decide) rfl (fun ls hl => ?_)
                    refine lv_goto (tgt := 7) hx hb dX4_spread_93 (by decide) ?_
                    exact ih7_37 v57 y50 y51 _ _ _ (by omega) (by omega) (by omega)  (by omega) hT hS (lv_sub hl [1, 2, 3, 0] rfl)
                  · skip
                    have c_56 := ni_eq c_56 rfl rfl
                    exact tz_retV (B := B_cX4_spread_6c665 D k h0 h1 h2 h3 h4 h5 h6 h7 h8 h9 h10 h11 x2 h0f8 h0f9 h0f10 h0f11 h10f0 h10f1 h10f2) hQ hx hb hr hlocks hS (Nat.le_of_ble_eq_true rfl) (Nat.le_of_ble_eq_true rfl) dX4_spread_89 (⟨y50, y51, (by omega), (by omega), hT⟩)
              · skip
                have c_53 := ni_nle c_53 rfl rfl
                refine lv_aload_n hx hb dX4_spread_32 rfl (lv_at hl 0 rfl) ?_
                refine lv_aload_n hx hb dX4_spread_33 rfl (lv_at hl 1 rfl) ?_
                refine lv_iload_n hx hb dX4_spread_34 rfl (lv_at hl 3 rfl) ?_
                refine lv_iload hx hb dX4_spread_35 (lv_at hl 4 rfl) ?_
                refine tcI (Tc := [(h0, ob 3 [.ref h2, .ref h3, .ref h4, .ref h5, .ref h6, .ref h7, .ref h8, .ref h9, .int h0f8, .int h0f9, .int y50, .int y51]), (h1, ob 1 [.ref h10]), (h2, aJ (k 1) 180 anJ), (h3, aI (k 0) 60 anI), (h4, aI (k 0) 60 anI), (h5, aI (k 0) 60 anI), (h7, aI (k 0) 128 (rgI (-1) 59)), (h8, aI (k 0) 60 (rgI (-1) 59)), (h9, aJ (k 1) 60 anJ), (h10, ob 4 [.int h10f0, .int h10f1, .int h10f2, .ref h11]), (h11, aJ (k 1) 36 anJ)]) (Tr := [(h6, aI (k 0) 240 anI)]) (as := [h0, h1, h2, h3, h4, h5, h7, h8, h9, h10, h11]) (zcV (q0 := 0) (ci := 3) (As := [.ref h1, .int y34, .int y49]) (rest := []) (Tc := [(h0, ob 3 [.ref h2, .ref h3, .ref h4, .ref h5, .ref h6, .ref h7, .ref h8, .ref h9, .int h0f8, .int h0f9, .int y50, .int y51]), (h1, ob 1 [.ref h10]), (h2, aJ (k 1) 180 anJ), (h3, aI (k 0) 60 anI), (h4, aI (k 0) 60 anI), (h5, aI (k 0) 60 anI), (h7, aI (k 0) 128 (rgI (-1) 59)), (h8, aI (k 0) 60 (rgI (-1) 59)), (h9, aJ (k 1) 60 anJ), (h10, ob 4 [.int h10f0, .int h10f1, .int h10f2, .ref h11]), (h11, aJ (k 1) 36 anJ)]) hx hb hml hown hU hK hT rfl rfl [0, 1, 2, 3, 4, 5, 7, 8, 9, 10, 11] rfl (by decide) (cX4_lead_20ea7 l D k _ h0 h1 h2 h3 h4 h5 h7 h8 h9 h10 h11 h6 y34 y49 h0f8 h0f9 y50 y51 h10f0 h10f1 h10f2 (by omega) (by omega) (by omega) (by omega) (by omega) (by omega) (by omega) (by omega)) w523 w520 w522 w12 w66 hdX4_lead ⟨rfl, rfl⟩ ⟨Nat.le_of_ble_eq_true rfl, Nat.le_of_ble_eq_true rfl⟩ rfl hl.1 (Nat.le_of_ble_eq_true rfl) dX4_spread_37 ⟨Nat.le_of_ble_eq_true rfl, Nat.le_of_ble_eq_true rfl⟩) hT hS hA [0, 1, 2, 3, 4, 5, 7, 8, 9, 10, 11] [6] rfl rfl rfl (by decide) (by decide) (fun r58 H locs hB J hS => ?_)
                obtain ⟨v59, b_v59, b_r58, hT1⟩ := hB
                have hT := J _ hT1
                have hT : TP D A [(h6, aI (k 0) 240 anI), (h0, ob 3 [.ref h2, .ref h3, .ref h4, .ref h5, .ref h6, .ref h7, .ref h8, .ref h9, .int h0f8, .int h0f9, .int v59, .int y51]), (h1, ob 1 [.ref h10]), (h2, aJ (k 1) 180 anJ), (h3, aI (k 0) 60 anI), (h4, aI (k 0) 60 anI), (h5, aI (k 0) 60 anI), (h7, aI (k 0) 128 (rgI (-1) 59)), (h8, aI (k 0) 60 (rgI (-1) 59)), (h9, aJ (k 1) 60 anJ), (h10, ob 4 [.int h10f0, .int h10f1, .int h10f2, .ref h11]), (h11, aJ (k 1) 36 anJ)] _ := hT
                refine lv_istore (lv' := [(5, .int r58), (0, .ref h0), (1, .ref h1), (2, .int x2), (3, .int y34), (4, .int y49)]) hx hb dX4_spread_40 hl (by decide) rfl (fun ls hl => ?_)
                refine lv_aload_n hx hb dX4_spread_42 rfl (lv_at hl 1 rfl) ?_
                refine tz_get (ci := 3) (v := .ref h6) (C := RX4) (F := TX4) (N := 12) hx hb hU iX4 hown hK hT 1 rfl rfl 4 (by decide) w157 (fun _ h9 => h9) rfl dX4_spread_43 ?_
                refine lv_iload_n hx hb dX4_spread_46 rfl (lv_at hl 4 rfl) ?_
                refine lv_iconst (v := 4) hx hb dX4_spread_47 (by decide) ?_
                refine lv_imul hx hb dX4_spread_48 (lv_topi (fun v60 e_v60 => ?_))
                have e_v60 := ai_mul e_v60 rfl li_4 (by omega)
                refine lv_iload hx hb dX4_spread_49 (lv_at hl 5 rfl) ?_
                refine lv_iadd hx hb dX4_spread_51 (lv_topi (fun v61 e_v61 => ?_))
                have e_v61 := ai_add e_v61 rfl rfl (by omega)
                refine lv_iload hx hb dX4_spread_52 (lv_at hl 0 rfl) ?_
                refine tz_iast hx hb hK hT hS 0 rfl (by omega) (fun _ _ => trivial) dX4_spread_54 (fun H locs hT hS => ?_)
                refine lv_iload hx hb dX4_spread_55 (lv_at hl 0 rfl) ?_
                refine lv_if_ge (tgt := 65) hx hb dX4_spread_57 (by decide) (fun c_62 => ?_) (fun c_62 => ?_)
                · skip
                  have c_62 := ni_le c_62 li_0 rfl
                  obtain ⟨v63, e_v63⟩ : ∃ x : Int32, x = y49 + Int32.ofInt 1 := ⟨_, rfl⟩
                  have f_v63 := e_v63.symm
                  have e_v63 : v63.toInt = y49.toInt + 1 := ai_add e_v63 rfl (show (Int32.ofInt 1).toInt = 1 from (by decide +kernel)) (by omega)
                  refine lv_iinc (v := v63) (lv' := [(4, .int v63), (5, .int r58), (0, .ref h0), (1, .ref h1), (2, .int x2), (3, .int y34)]) hx hb dX4_spread_65 hl (k := 5) rfl f_v63 (by decide) rfl (fun ls hl => ?_)
                  refine lv_goto (tgt := 26) hx hb dX4_spread_68 (by decide) ?_
                  exact ih26_52 v63 v59 y51 _ _ _ (by omega) (by omega) (by omega)  (by omega) (hT.sub [1, 2, 3, 4, 5, 6, 0, 7, 8, 9, 10, 11] (by decide) rfl) hS (lv_sub hl [2, 3, 4, 5, 0] rfl)
                · skip
                  have c_62 := ni_nle c_62 li_0 rfl
                  refine lv_aload_n hx hb dX4_spread_60 rfl (lv_at hl 1 rfl) ?_
                  refine lv_iconst (v := 0) hx hb dX4_spread_61 (by decide) ?_
                  refine tz_put (ci := 3) (v := .int 0) (ty := .boolean) (C := RX4) (F := TX4) (N := 12) hx hb hU iX4 tyX4 tyX4_ok nmX4 hown hK hT hS 1 rfl rfl 11 (by decide) w167 (fun _ h9 => h9) rfl (by decide +kernel) rfl rfl (Nat.le_of_ble_eq_true rfl) dX4_spread_62 (fun H locs hT hS => ?_)
                  have hT : TP D A [(h6, aI (k 0) 240 anI), (h0, ob 3 [.ref h2, .ref h3, .ref h4, .ref h5, .ref h6, .ref h7, .ref h8, .ref h9, .int h0f8, .int h0f9, .int v59, .int 0]), (h1, ob 1 [.ref h10]), (h2, aJ (k 1) 180 anJ), (h3, aI (k 0) 60 anI), (h4, aI (k 0) 60 anI), (h5, aI (k 0) 60 anI), (h7, aI (k 0) 128 (rgI (-1) 59)), (h8, aI (k 0) 60 (rgI (-1) 59)), (h9, aJ (k 1) 60 anJ), (h10, ob 4 [.int h10f0, .int h10f1, .int h10f2, .ref h11]), (h11, aJ (k 1) 36 anJ)] _ := hT
                  obtain ⟨v64, e_v64⟩ : ∃ x : Int32, x = y49 + Int32.ofInt 1 := ⟨_, rfl⟩
                  have f_v64 := e_v64.symm
                  have e_v64 : v64.toInt = y49.toInt + 1 := ai_add e_v64 rfl (show (Int32.ofInt 1).toInt = 1 from (by decide +kernel)) (by omega)
                  refine lv_iinc (v := v64) (lv' := [(4, .int v64), (5, .int r58), (0, .ref h0), (1, .ref h1), (2, .int x2), (3, .int y34)]) hx hb dX4_spread_65 hl (k := 5) rfl f_v64 (by decide) rfl (fun ls hl => ?_)
                  refine lv_goto (tgt := 26) hx hb dX4_spread_68 (by decide) ?_
                  exact ih26_52 v64 v59 (0) _ _ _ (by have := li_0; omega) (by have := li_0; omega) (by have := li_0; omega)  (by have := li_0; omega) (hT.sub [1, 2, 3, 4, 5, 6, 0, 7, 8, 9, 10, 11] (by decide) rfl) hS (lv_sub hl [2, 3, 4, 5, 0] rfl)
          exact lp26_52 ((x2.toInt + (-1) * (0 : Int32).toInt + 1).toNat + 1) (0) y35 y36 _ _ _ (by have := li_0; omega) (by have := li_0; omega) (by have := li_0; omega)  (Nat.lt_succ_self _) hT hS (lv_sub hl [1, 2, 3, 4, 0] rfl)
  exact lp7_37 ((h0f9.toInt + (-1) * (0 : Int32).toInt + 1).toNat + 1) (0) h0f10 (1) _ _ _ (by have := li_0; have := li_1; omega) (by have := li_0; have := li_1; omega) (by have := li_0; have := li_1; omega)  (Nat.lt_succ_self _) hT hS (lv_sub hl [1, 2, 3, 0] rfl)
abbrev Rm_cX10_orbit_fcf9f : Room := { frames := 5, cells := 0, slots := 0, locals := 128 }
abbrev B_cX10_orbit_fcf9f (D : va_G) (k : Nat → ClassId) (h0 h1 h6 h9 h11 h13 h29 h30 h31 h32 h33 h34 h35 h36 h2 h3 h4 h5 h7 h8 h10 h12 : Nat) (x1 : Int32) (x2 : Int32) (x3 : Int32) (h0f2 : Int32) (h0f6 : Int32) (h0f8 : Int32) (h0f11 : Int32) (h1f0 : Int32) (h1f1 : Int32) (h1f2 : Int32) (h6f8 : Int32) (h6f9 : Int32) (h6f10 : Int32) (h6f11 : Int32) (A : Nat → Prop) (r : Int32) (H : Heap) : Prop := ∃ o0 : Int32, ∃ o1 : Int32, ∃ o2 : Int32, ∃ o3 : Int32, ∃ o4 : Int32, ∃ o5 : Int32, (0 ≤ o0.toInt ∧ o0.toInt ≤ 1) ∧ (0 ≤ o1.toInt ∧ o1.toInt ≤ 200) ∧ (0 ≤ o2.toInt ∧ o2.toInt ≤ 3) ∧ (0 ≤ o3.toInt ∧ o3.toInt ≤ 60) ∧ (0 ≤ o4.toInt ∧ o4.toInt ≤ 60) ∧ (0 ≤ o5.toInt ∧ o5.toInt ≤ 1) ∧ ((-1) ≤ r.toInt ∧ r.toInt ≤ 60) ∧ TP D A [(h0, ob 7 [.ref h1, .ref h2, .int h0f2, .ref h3, .ref h4, .ref h5, .int h0f6, .ref h6, .int o0, .null, .ref h7, .int o1, .ref h8, .ref h9, .ref h10, .ref h11, .ref h12]), (h1, ob 4 [.int h1f0, .int h1f1, .int h1f2, .ref h13]), (h6, ob 3 [.ref h29, .ref h30, .ref h31, .ref h32, .ref h33, .ref h34, .ref h35, .ref h36, .int o2, .int o3, .int o4, .int o5]), (h9, ob 1 [.ref h1]), (h11, aJ (k 1) 9 anJ), (h13, aJ (k 1) 36 anJ), (h29, aJ (k 1) 180 anJ), (h30, aI (k 0) 60 anI), (h31, aI (k 0) 60 anI), (h32, aI (k 0) 60 anI), (h33, aI (k 0) 240 anI), (h34, aI (k 0) 128 (rgI (-1) 59)), (h35, aI (k 0) 60 (rgI (-1) 59)), (h36, aJ (k 1) 60 anJ)] H
set_option maxHeartbeats 4000000 in
set_option maxRecDepth 100000 in
theorem cX10_orbit_fcf9f (l : Launch) (D : va_G) (k : Nat → ClassId) (sz : Nat) (h0 h1 h6 h9 h11 h13 h29 h30 h31 h32 h33 h34 h35 h36 h2 h3 h4 h5 h7 h8 h10 h12 : Nat) (x1 : Int32) (x2 : Int32) (x3 : Int32) (h0f2 : Int32) (h0f6 : Int32) (h0f8 : Int32) (h0f11 : Int32) (h1f0 : Int32) (h1f1 : Int32) (h1f2 : Int32) (h6f8 : Int32) (h6f9 : Int32) (h6f10 : Int32) (h6f11 : Int32) (b_h0f2 : 0 ≤ h0f2.toInt ∧ h0f2.toInt ≤ 1) (b_h0f6 : 0 ≤ h0f6.toInt ∧ h0f6.toInt ≤ 1) (b_h0f8 : 0 ≤ h0f8.toInt ∧ h0f8.toInt ≤ 1) (b_h0f11 : 0 ≤ h0f11.toInt ∧ h0f11.toInt ≤ 200) (b_h1f0 : 1 ≤ h1f0.toInt ∧ h1f0.toInt ≤ 3) (b_h1f1 : 0 ≤ h1f1.toInt ∧ h1f1.toInt ≤ 4) (b_h6f8 : 0 ≤ h6f8.toInt ∧ h6f8.toInt ≤ 3) (b_h6f9 : 0 ≤ h6f9.toInt ∧ h6f9.toInt ≤ 60) (b_h6f10 : 0 ≤ h6f10.toInt ∧ h6f10.toInt ≤ 60) (b_h6f11 : 0 ≤ h6f11.toInt ∧ h6f11.toInt ≤ 1) : Met l yX10_orbit (Cond.code yX10_orbit cX10_orbit 4 (some .int) :: uw) Rm_cX10_orbit_fcf9f (pT D k sz [.ref h0, .int x1, .int x2, .int x3] [(h0, ob 7 [.ref h1, .ref h2, .int h0f2, .ref h3, .ref h4, .ref h5, .int h0f6, .ref h6, .int h0f8, .null, .ref h7, .int h0f11, .ref h8, .ref h9, .ref h10, .ref h11, .ref h12]), (h1, ob 4 [.int h1f0, .int h1f1, .int h1f2, .ref h13]), (h6, ob 3 [.ref h29, .ref h30, .ref h31, .ref h32, .ref h33, .ref h34, .ref h35, .ref h36, .int h6f8, .int h6f9, .int h6f10, .int h6f11]), (h9, ob 1 [.ref h1]), (h11, aJ (k 1) 9 anJ), (h13, aJ (k 1) 36 anJ), (h29, aJ (k 1) 180 anJ), (h30, aI (k 0) 60 anI), (h31, aI (k 0) 60 anI), (h32, aI (k 0) 60 anI), (h33, aI (k 0) 240 anI), (h34, aI (k 0) 128 (rgI (-1) 59)), (h35, aI (k 0) 60 (rgI (-1) 59)), (h36, aJ (k 1) 60 anJ)]) (qI (B_cX10_orbit_fcf9f D k h0 h1 h6 h9 h11 h13 h29 h30 h31 h32 h33 h34 h35 h36 h2 h3 h4 h5 h7 h8 h10 h12 x1 x2 x3 h0f2 h0f6 h0f8 h0f11 h1f0 h1f1 h1f2 h6f8 h6f9 h6f10 h6f11 (zA [h0, h1, h6, h9, h11, h13, h29, h30, h31, h32, h33, h34, h35, h36] sz)) (zA [h0, h1, h6, h9, h11, h13, h29, h30, h31, h32, h33, h34, h35, h36] sz)) 0 0 (zA [h0, h1, h6, h9, h11, h13, h29, h30, h31, h32, h33, h34, h35, h36] sz) := by
  refine tz_begin (as := [h0, h1, h6, h9, h11, h13, h29, h30, h31, h32, h33, h34, h35, h36]) (Qc := fun A => qI (B_cX10_orbit_fcf9f D k h0 h1 h6 h9 h11 h13 h29 h30 h31 h32 h33 h34 h35 h36 h2 h3 h4 h5 h7 h8 h10 h12 x1 x2 x3 h0f2 h0f6 h0f8 h0f11 h1f0 h1f1 h1f2 h6f8 h6f9 h6f10 h6f11 A) A) (by decide +kernel) rfl (Nat.le_of_ble_eq_true rfl) ?_
  intro p e s m args below meth c ls A Q hx hb hr hml hown hlocks hin hU hK hT hS hA hl hQ
  have hl : lv_has ls 4 [(0, .ref h0), (1, .int x1), (2, .int x2), (3, .int x3)] := hl
  have hT : TP D A [(h0, ob 7 [.ref h1, .ref h2, .int h0f2, .ref h3, .ref h4, .ref h5, .int h0f6, .ref h6, .int h0f8, .null, .ref h7, .int h0f11, .ref h8, .ref h9, .ref h10, .ref h11, .ref h12]), (h1, ob 4 [.int h1f0, .int h1f1, .int h1f2, .ref h13]), (h6, ob 3 [.ref h29, .ref h30, .ref h31, .ref h32, .ref h33, .ref h34, .ref h35, .ref h36, .int h6f8, .int h6f9, .int h6f10, .int h6f11]), (h9, ob 1 [.ref h1]), (h11, aJ (k 1) 9 anJ), (h13, aJ (k 1) 36 anJ), (h29, aJ (k 1) 180 anJ), (h30, aI (k 0) 60 anI), (h31, aI (k 0) 60 anI), (h32, aI (k 0) 60 anI), (h33, aI (k 0) 240 anI), (h34, aI (k 0) 128 (rgI (-1) 59)), (h35, aI (k 0) 60 (rgI (-1) 59)), (h36, aJ (k 1) 60 anJ)] s.heap := hT
  refine lv_iload_n hx hb dX10_orbit_0 rfl (lv_at hl 1 rfl) ?_
  refine lv_iload_n hx hb dX10_orbit_1 rfl (lv_at hl 2 rfl) ?_
  refine lv_iload_n hx hb dX10_orbit_2 rfl (lv_at hl 3 rfl) ?_
  refine tcI (Tc := []) (Tr := [(h0, ob 7 [.ref h1, .ref h2, .int h0f2, .ref h3, .ref h4, .ref h5, .int h0f6, .ref h6, .int h0f8, .null, .ref h7, .int h0f11, .ref h8, .ref h9, .ref h10, .ref h11, .ref h12]), (h1, ob 4 [.int h1f0, .int h1f1, .int h1f2, .ref h13]), (h6, ob 3 [.ref h29, .ref h30, .ref h31, .ref h32, .ref h33, .ref h34, .ref h35, .ref h36, .int h6f8, .int h6f9, .int h6f10, .int h6f11]), (h9, ob 1 [.ref h1]), (h11, aJ (k 1) 9 anJ), (h13, aJ (k 1) 36 anJ), (h29, aJ (k 1) 180 anJ), (h30, aI (k 0) 60 anI), (h31, aI (k 0) 60 anI), (h32, aI (k 0) 60 anI), (h33, aI (k 0) 240 anI), (h34, aI (k 0) 128 (rgI (-1) 59)), (h35, aI (k 0) 60 (rgI (-1) 59)), (h36, aJ (k 1) 60 anJ)]) (as := []) (zcS (As := [.int x1, .int x2, .int x3]) (rest := []) (Tc := []) hx hb hml hown hU hK hT [] rfl (by decide) (cX10_isStart_c203d l D k _ x1 x2 x3) w688 w686 w687 w63 hdX10_isStart ⟨rfl, rfl⟩ ⟨Nat.le_of_ble_eq_true rfl, Nat.le_of_ble_eq_true rfl⟩ rfl hl.1 (Nat.le_of_ble_eq_true rfl) dX10_orbit_3 ⟨Nat.le_of_ble_eq_true rfl, Nat.le_of_ble_eq_true rfl⟩) hT hS hA [] [0, 1, 2, 3, 4, 5, 6, 7, 8, 9, 10, 11, 12, 13] rfl rfl rfl (by decide) (by decide) (fun r1 H locs hB J hS => ?_)
  obtain ⟨b_r1, hT1⟩ := hB
  have hT := J _ hT1
  have hT : TP D A [(h0, ob 7 [.ref h1, .ref h2, .int h0f2, .ref h3, .ref h4, .ref h5, .int h0f6, .ref h6, .int h0f8, .null, .ref h7, .int h0f11, .ref h8, .ref h9, .ref h10, .ref h11, .ref h12]), (h1, ob 4 [.int h1f0, .int h1f1, .int h1f2, .ref h13]), (h6, ob 3 [.ref h29, .ref h30, .ref h31, .ref h32, .ref h33, .ref h34, .ref h35, .ref h36, .int h6f8, .int h6f9, .int h6f10, .int h6f11]), (h9, ob 1 [.ref h1]), (h11, aJ (k 1) 9 anJ), (h13, aJ (k 1) 36 anJ), (h29, aJ (k 1) 180 anJ), (h30, aI (k 0) 60 anI), (h31, aI (k 0) 60 anI), (h32, aI (k 0) 60 anI), (h33, aI (k 0) 240 anI), (h34, aI (k 0) 128 (rgI (-1) 59)), (h35, aI (k 0) 60 (rgI (-1) 59)), (h36, aJ (k 1) 60 anJ)] _ := hT
  refine lv_if_ne (tgt := 11) hx hb dX10_orbit_6 (by decide) (fun c_2 => ?_) (fun c_2 => ?_)
  · skip
    have c_2 := ni_ne c_2 rfl li_0
    refine lv_aload_n hx hb dX10_orbit_11 rfl (lv_at hl 0 rfl) ?_
    refine lv_iload_n hx hb dX10_orbit_12 rfl (lv_at hl 1 rfl) ?_
    refine lv_iload_n hx hb dX10_orbit_13 rfl (lv_at hl 2 rfl) ?_
    refine lv_iload_n hx hb dX10_orbit_14 rfl (lv_at hl 3 rfl) ?_
    refine tcV (Tc := [(h0, ob 7 [.ref h1, .ref h2, .int h0f2, .ref h3, .ref h4, .ref h5, .int h0f6, .ref h6, .int h0f8, .null, .ref h7, .int h0f11, .ref h8, .ref h9, .ref h10, .ref h11, .ref h12]), (h11, aJ (k 1) 9 anJ)]) (Tr := [(h1, ob 4 [.int h1f0, .int h1f1, .int h1f2, .ref h13]), (h6, ob 3 [.ref h29, .ref h30, .ref h31, .ref h32, .ref h33, .ref h34, .ref h35, .ref h36, .int h6f8, .int h6f9, .int h6f10, .int h6f11]), (h9, ob 1 [.ref h1]), (h13, aJ (k 1) 36 anJ), (h29, aJ (k 1) 180 anJ), (h30, aI (k 0) 60 anI), (h31, aI (k 0) 60 anI), (h32, aI (k 0) 60 anI), (h33, aI (k 0) 240 anI), (h34, aI (k 0) 128 (rgI (-1) 59)), (h35, aI (k 0) 60 (rgI (-1) 59)), (h36, aJ (k 1) 60 anJ)]) (as := [h0, h11]) (zcV (q0 := 0) (ci := 7) (As := [.int x1, .int x2, .int x3]) (rest := []) (Tc := [(h0, ob 7 [.ref h1, .ref h2, .int h0f2, .ref h3, .ref h4, .ref h5, .int h0f6, .ref h6, .int h0f8, .null, .ref h7, .int h0f11, .ref h8, .ref h9, .ref h10, .ref h11, .ref h12]), (h11, aJ (k 1) 9 anJ)]) hx hb hml hown hU hK hT rfl rfl [0, 4] rfl (by decide) (cX10_setPoint_928ca l D k _ h0 h11 h1 h2 h3 h4 h5 h6 h7 h8 h9 h10 h12 x1 x2 x3 h0f2 h0f6 h0f8 h0f11 (by omega) (by omega) (by omega) (by omega)) w695 w692 w694 w24 w63 hdX10_setPoint ⟨rfl, rfl⟩ ⟨Nat.le_of_ble_eq_true rfl, Nat.le_of_ble_eq_true rfl⟩ rfl hl.1 (Nat.le_of_ble_eq_true rfl) dX10_orbit_15 ⟨Nat.le_of_ble_eq_true rfl, Nat.le_of_ble_eq_true rfl⟩) hT hS hA [0, 4] [1, 2, 3, 5, 6, 7, 8, 9, 10, 11, 12, 13] rfl rfl rfl (by decide) (by decide) (fun H locs hB J hS => ?_)
    have hT1 := hB
    have hT := J _ hT1
    have hT : TP D A [(h1, ob 4 [.int h1f0, .int h1f1, .int h1f2, .ref h13]), (h6, ob 3 [.ref h29, .ref h30, .ref h31, .ref h32, .ref h33, .ref h34, .ref h35, .ref h36, .int h6f8, .int h6f9, .int h6f10, .int h6f11]), (h9, ob 1 [.ref h1]), (h13, aJ (k 1) 36 anJ), (h29, aJ (k 1) 180 anJ), (h30, aI (k 0) 60 anI), (h31, aI (k 0) 60 anI), (h32, aI (k 0) 60 anI), (h33, aI (k 0) 240 anI), (h34, aI (k 0) 128 (rgI (-1) 59)), (h35, aI (k 0) 60 (rgI (-1) 59)), (h36, aJ (k 1) 60 anJ), (h0, ob 7 [.ref h1, .ref h2, .int h0f2, .ref h3, .ref h4, .ref h5, .int h0f6, .ref h6, .int h0f8, .null, .ref h7, .int h0f11, .ref h8, .ref h9, .ref h10, .ref h11, .ref h12]), (h11, aJ (k 1) 9 anJ)] _ := hT
    refine lv_aload_n hx hb dX10_orbit_18 rfl (lv_at hl 0 rfl) ?_
    refine tz_get (ci := 7) (v := .ref h6) (C := RX10) (F := TX10) (N := 17) hx hb hU iX10 hown hK hT 12 rfl rfl 7 (by decide) w256 (fun _ h9 => h9) rfl dX10_orbit_19 ?_
    refine lv_aload_n hx hb dX10_orbit_22 rfl (lv_at hl 0 rfl) ?_
    refine tz_get (ci := 7) (v := .ref h1) (C := RX10) (F := TX10) (N := 17) hx hb hU iX10 hown hK hT 12 rfl rfl 0 (by decide) w249 (fun _ h9 => h9) rfl dX10_orbit_23 ?_
    refine tz_get (ci := 4) (v := .int h1f0) (C := RX5) (F := TX5) (N := 4) hx hb hU iX5 hown hK hT 0 rfl rfl 0 (by decide) w93 (fun _ h9 => h9) rfl dX10_orbit_26 ?_
    refine lv_bipush (v := 60) hx hb dX10_orbit_29 (by decide) ?_
    have q_q5 := li_60
    refine tcV (Tc := [(h6, ob 3 [.ref h29, .ref h30, .ref h31, .ref h32, .ref h33, .ref h34, .ref h35, .ref h36, .int h6f8, .int h6f9, .int h6f10, .int h6f11]), (h34, aI (k 0) 128 (rgI (-1) 59))]) (Tr := [(h1, ob 4 [.int h1f0, .int h1f1, .int h1f2, .ref h13]), (h9, ob 1 [.ref h1]), (h13, aJ (k 1) 36 anJ), (h29, aJ (k 1) 180 anJ), (h30, aI (k 0) 60 anI), (h31, aI (k 0) 60 anI), (h32, aI (k 0) 60 anI), (h33, aI (k 0) 240 anI), (h35, aI (k 0) 60 (rgI (-1) 59)), (h36, aJ (k 1) 60 anJ), (h0, ob 7 [.ref h1, .ref h2, .int h0f2, .ref h3, .ref h4, .ref h5, .int h0f6, .ref h6, .int h0f8, .null, .ref h7, .int h0f11, .ref h8, .ref h9, .ref h10, .ref h11, .ref h12]), (h11, aJ (k 1) 9 anJ)]) (as := [h6, h34]) (zcV (q0 := 1) (ci := 3) (As := [.int h1f0, .int 60]) (rest := []) (Tc := [(h6, ob 3 [.ref h29, .ref h30, .ref h31, .ref h32, .ref h33, .ref h34, .ref h35, .ref h36, .int h6f8, .int h6f9, .int h6f10, .int h6f11]), (h34, aI (k 0) 128 (rgI (-1) 59))]) hx hb hml hown hU hK hT rfl rfl [1, 9] rfl (by decide) (cX4_clear_374d6 l D k _ h6 h34 h29 h30 h31 h32 h33 h35 h36 h1f0 (60) h6f8 h6f9 h6f10 h6f11 (by omega) (by have := li_60; omega) (by omega) (by omega) (by omega) (by omega)) w496 w493 w494 w495 w66 hdX4_clear ⟨rfl, rfl⟩ ⟨Nat.le_of_ble_eq_true rfl, Nat.le_of_ble_eq_true rfl⟩ rfl hl.1 (Nat.le_of_ble_eq_true rfl) dX10_orbit_31 ⟨Nat.le_of_ble_eq_true rfl, Nat.le_of_ble_eq_true rfl⟩) hT hS hA [1, 9] [0, 2, 3, 4, 5, 6, 7, 8, 10, 11, 12, 13] rfl rfl rfl (by decide) (by decide) (fun H locs hB J hS => ?_)
    have hT1 := hB
    have hT := J _ hT1
    have hT : TP D A [(h1, ob 4 [.int h1f0, .int h1f1, .int h1f2, .ref h13]), (h9, ob 1 [.ref h1]), (h13, aJ (k 1) 36 anJ), (h29, aJ (k 1) 180 anJ), (h30, aI (k 0) 60 anI), (h31, aI (k 0) 60 anI), (h32, aI (k 0) 60 anI), (h33, aI (k 0) 240 anI), (h35, aI (k 0) 60 (rgI (-1) 59)), (h36, aJ (k 1) 60 anJ), (h0, ob 7 [.ref h1, .ref h2, .int h0f2, .ref h3, .ref h4, .ref h5, .int h0f6, .ref h6, .int h0f8, .null, .ref h7, .int h0f11, .ref h8, .ref h9, .ref h10, .ref h11, .ref h12]), (h11, aJ (k 1) 9 anJ), (h6, ob 3 [.ref h29, .ref h30, .ref h31, .ref h32, .ref h33, .ref h34, .ref h35, .ref h36, .int h1f0, .int 60, .int 0, .int 0]), (h34, aI (k 0) 128 (rgI (-1) 59))] _ := hT
    refine lv_aload_n hx hb dX10_orbit_34 rfl (lv_at hl 0 rfl) ?_
    refine tz_get (ci := 7) (v := .ref h6) (C := RX10) (F := TX10) (N := 17) hx hb hU iX10 hown hK hT 10 rfl rfl 7 (by decide) w256 (fun _ h9 => h9) rfl dX10_orbit_35 ?_
    refine lv_aload_n hx hb dX10_orbit_38 rfl (lv_at hl 0 rfl) ?_
    refine tz_get (ci := 7) (v := .ref h11) (C := RX10) (F := TX10) (N := 17) hx hb hU iX10 hown hK hT 10 rfl rfl 15 (by decide) w264 (fun _ h9 => h9) rfl dX10_orbit_39 ?_
    refine lv_bipush (v := (-3)) hx hb dX10_orbit_42 (by decide) ?_
    refine lv_bipush (v := (-3)) hx hb dX10_orbit_44 (by decide) ?_
    have q_q7 := li_m3
    have q_q8 := li_m3
    have q_q9 := li_60
    have q_q10 := li_0
    have q_q11 := li_0
    refine tcI (Tc := [(h6, ob 3 [.ref h29, .ref h30, .ref h31, .ref h32, .ref h33, .ref h34, .ref h35, .ref h36, .int h1f0, .int 60, .int 0, .int 0]), (h11, aJ (k 1) 9 anJ), (h29, aJ (k 1) 180 anJ), (h30, aI (k 0) 60 anI), (h31, aI (k 0) 60 anI), (h32, aI (k 0) 60 anI), (h34, aI (k 0) 128 (rgI (-1) 59)), (h35, aI (k 0) 60 (rgI (-1) 59))]) (Tr := [(h1, ob 4 [.int h1f0, .int h1f1, .int h1f2, .ref h13]), (h9, ob 1 [.ref h1]), (h13, aJ (k 1) 36 anJ), (h33, aI (k 0) 240 anI), (h36, aJ (k 1) 60 anJ), (h0, ob 7 [.ref h1, .ref h2, .int h0f2, .ref h3, .ref h4, .ref h5, .int h0f6, .ref h6, .int h0f8, .null, .ref h7, .int h0f11, .ref h8, .ref h9, .ref h10, .ref h11, .ref h12])]) (as := [h6, h11, h29, h30, h31, h32, h34, h35]) (zcV (q0 := 12) (ci := 3) (As := [.ref h11, .int (-3), .int (-3)]) (rest := []) (Tc := [(h6, ob 3 [.ref h29, .ref h30, .ref h31, .ref h32, .ref h33, .ref h34, .ref h35, .ref h36, .int h1f0, .int 60, .int 0, .int 0]), (h11, aJ (k 1) 9 anJ), (h29, aJ (k 1) 180 anJ), (h30, aI (k 0) 60 anI), (h31, aI (k 0) 60 anI), (h32, aI (k 0) 60 anI), (h34, aI (k 0) 128 (rgI (-1) 59)), (h35, aI (k 0) 60 (rgI (-1) 59))]) hx hb hml hown hU hK hT rfl rfl [12, 11, 3, 4, 5, 6, 13, 8] rfl (by decide) (cX4_append_e5fbb l D k _ h6 h11 h29 h30 h31 h32 h34 h35 h33 h36 ((-3)) ((-3)) h1f0 (60) (0) (0) (by have := li_m3; omega) (by have := li_m3; omega) (by omega) (by have := li_60; omega) (by have := li_0; omega) (by have := li_0; omega)) w501 w498 w499 w500 w66 hdX4_append ⟨rfl, rfl⟩ ⟨Nat.le_of_ble_eq_true rfl, Nat.le_of_ble_eq_true rfl⟩ rfl hl.1 (Nat.le_of_ble_eq_true rfl) dX10_orbit_46 ⟨Nat.le_of_ble_eq_true rfl, Nat.le_of_ble_eq_true rfl⟩) hT hS hA [12, 11, 3, 4, 5, 6, 13, 8] [0, 1, 2, 7, 9, 10] rfl rfl rfl (by decide) (by decide) (fun r6 H locs hB J hS => ?_)
    obtain ⟨v12, b_v12, rfl, hT1⟩ := hB
    have hT := J _ hT1
    have hT : TP D A [(h1, ob 4 [.int h1f0, .int h1f1, .int h1f2, .ref h13]), (h9, ob 1 [.ref h1]), (h13, aJ (k 1) 36 anJ), (h33, aI (k 0) 240 anI), (h36, aJ (k 1) 60 anJ), (h0, ob 7 [.ref h1, .ref h2, .int h0f2, .ref h3, .ref h4, .ref h5, .int h0f6, .ref h6, .int h0f8, .null, .ref h7, .int h0f11, .ref h8, .ref h9, .ref h10, .ref h11, .ref h12]), (h6, ob 3 [.ref h29, .ref h30, .ref h31, .ref h32, .ref h33, .ref h34, .ref h35, .ref h36, .int h1f0, .int 60, .int v12, .int 0]), (h11, aJ (k 1) 9 anJ), (h29, aJ (k 1) 180 anJ), (h30, aI (k 0) 60 anI), (h31, aI (k 0) 60 anI), (h32, aI (k 0) 60 anI), (h34, aI (k 0) 128 (rgI (-1) 59)), (h35, aI (k 0) 60 (rgI (-1) 59))] _ := hT
    refine lv_pop hx hb dX10_orbit_49 rfl ?_
    refine lv_aload_n hx hb dX10_orbit_50 rfl (lv_at hl 0 rfl) ?_
    refine tz_get (ci := 7) (v := .ref h6) (C := RX10) (F := TX10) (N := 17) hx hb hU iX10 hown hK hT 5 rfl rfl 7 (by decide) w256 (fun _ h9 => h9) rfl dX10_orbit_51 ?_
    refine lv_aload_n hx hb dX10_orbit_54 rfl (lv_at hl 0 rfl) ?_
    refine tz_get (ci := 7) (v := .ref h9) (C := RX10) (F := TX10) (N := 17) hx hb hU iX10 hown hK hT 5 rfl rfl 13 (by decide) w262 (fun _ h9 => h9) rfl dX10_orbit_55 ?_
    refine lv_aload_n hx hb dX10_orbit_58 rfl (lv_at hl 0 rfl) ?_
    refine tz_get (ci := 7) (v := .ref h1) (C := RX10) (F := TX10) (N := 17) hx hb hU iX10 hown hK hT 5 rfl rfl 0 (by decide) w249 (fun _ h9 => h9) rfl dX10_orbit_59 ?_
    refine tz_get (ci := 4) (v := .int h1f1) (C := RX5) (F := TX5) (N := 4) hx hb hU iX5 hown hK hT 0 rfl rfl 1 (by decide) w97 (fun _ h9 => h9) rfl dX10_orbit_62 ?_
    have q_q14 := li_60
    have q_q15 := li_0
    refine tcV (Tc := [(h6, ob 3 [.ref h29, .ref h30, .ref h31, .ref h32, .ref h33, .ref h34, .ref h35, .ref h36, .int h1f0, .int 60, .int v12, .int 0]), (h9, ob 1 [.ref h1]), (h29, aJ (k 1) 180 anJ), (h30, aI (k 0) 60 anI), (h31, aI (k 0) 60 anI), (h32, aI (k 0) 60 anI), (h33, aI (k 0) 240 anI), (h34, aI (k 0) 128 (rgI (-1) 59)), (h35, aI (k 0) 60 (rgI (-1) 59)), (h36, aJ (k 1) 60 anJ), (h1, ob 4 [.int h1f0, .int h1f1, .int h1f2, .ref h13]), (h13, aJ (k 1) 36 anJ)]) (Tr := [(h0, ob 7 [.ref h1, .ref h2, .int h0f2, .ref h3, .ref h4, .ref h5, .int h0f6, .ref h6, .int h0f8, .null, .ref h7, .int h0f11, .ref h8, .ref h9, .ref h10, .ref h11, .ref h12]), (h11, aJ (k 1) 9 anJ)]) (as := [h6, h9, h29, h30, h31, h32, h33, h34, h35, h36, h1, h13]) (zcV (q0 := 6) (ci := 3) (As := [.ref h9, .int h1f1]) (rest := []) (Tc := [(h6, ob 3 [.ref h29, .ref h30, .ref h31, .ref h32, .ref h33, .ref h34, .ref h35, .ref h36, .int h1f0, .int 60, .int v12, .int 0]), (h9, ob 1 [.ref h1]), (h29, aJ (k 1) 180 anJ), (h30, aI (k 0) 60 anI), (h31, aI (k 0) 60 anI), (h32, aI (k 0) 60 anI), (h33, aI (k 0) 240 anI), (h34, aI (k 0) 128 (rgI (-1) 59)), (h35, aI (k 0) 60 (rgI (-1) 59)), (h36, aJ (k 1) 60 anJ), (h1, ob 4 [.int h1f0, .int h1f1, .int h1f2, .ref h13]), (h13, aJ (k 1) 36 anJ)]) hx hb hml hown hU hK hT rfl rfl [6, 1, 8, 9, 10, 11, 3, 12, 13, 4, 0, 2] rfl (by decide) (cX4_spread_6c665 l D k _ h6 h9 h29 h30 h31 h32 h33 h34 h35 h36 h1 h13 h1f1 h1f0 (60) v12 (0) h1f0 h1f1 h1f2 (by omega) (by omega) (by have := li_60; omega) (by omega) (by have := li_0; omega) (by omega) (by omega)) w519 w516 w517 w518 w66 hdX4_spread ⟨rfl, rfl⟩ ⟨Nat.le_of_ble_eq_true rfl, Nat.le_of_ble_eq_true rfl⟩ rfl hl.1 (Nat.le_of_ble_eq_true rfl) dX10_orbit_65 ⟨Nat.le_of_ble_eq_true rfl, Nat.le_of_ble_eq_true rfl⟩) hT hS hA [6, 1, 8, 9, 10, 11, 3, 12, 13, 4, 0, 2] [5, 7] rfl rfl rfl (by decide) (by decide) (fun H locs hB J hS => ?_)
    obtain ⟨v16, v17, b_v16, b_v17, hT1⟩ := hB
    have hT := J _ hT1
    have hT : TP D A [(h0, ob 7 [.ref h1, .ref h2, .int h0f2, .ref h3, .ref h4, .ref h5, .int h0f6, .ref h6, .int h0f8, .null, .ref h7, .int h0f11, .ref h8, .ref h9, .ref h10, .ref h11, .ref h12]), (h11, aJ (k 1) 9 anJ), (h6, ob 3 [.ref h29, .ref h30, .ref h31, .ref h32, .ref h33, .ref h34, .ref h35, .ref h36, .int h1f0, .int 60, .int v16, .int v17]), (h9, ob 1 [.ref h1]), (h29, aJ (k 1) 180 anJ), (h30, aI (k 0) 60 anI), (h31, aI (k 0) 60 anI), (h32, aI (k 0) 60 anI), (h33, aI (k 0) 240 anI), (h34, aI (k 0) 128 (rgI (-1) 59)), (h35, aI (k 0) 60 (rgI (-1) 59)), (h36, aJ (k 1) 60 anJ), (h1, ob 4 [.int h1f0, .int h1f1, .int h1f2, .ref h13]), (h13, aJ (k 1) 36 anJ)] _ := hT
    refine lv_aload_n hx hb dX10_orbit_68 rfl (lv_at hl 0 rfl) ?_
    refine lv_iconst (v := 1) hx hb dX10_orbit_69 (by decide) ?_
    refine tz_put (ci := 7) (v := .int 1) (ty := .boolean) (C := RX10) (F := TX10) (N := 17) hx hb hU iX10 tyX10 tyX10_ok nmX10 hown hK hT hS 0 rfl rfl 8 (by decide) w257 (fun _ h9 => h9) rfl (by decide +kernel) rfl rfl (Nat.le_of_ble_eq_true rfl) dX10_orbit_70 (fun H locs hT hS => ?_)
    have hT : TP D A [(h0, ob 7 [.ref h1, .ref h2, .int h0f2, .ref h3, .ref h4, .ref h5, .int h0f6, .ref h6, .int 1, .null, .ref h7, .int h0f11, .ref h8, .ref h9, .ref h10, .ref h11, .ref h12]), (h11, aJ (k 1) 9 anJ), (h6, ob 3 [.ref h29, .ref h30, .ref h31, .ref h32, .ref h33, .ref h34, .ref h35, .ref h36, .int h1f0, .int 60, .int v16, .int v17]), (h9, ob 1 [.ref h1]), (h29, aJ (k 1) 180 anJ), (h30, aI (k 0) 60 anI), (h31, aI (k 0) 60 anI), (h32, aI (k 0) 60 anI), (h33, aI (k 0) 240 anI), (h34, aI (k 0) 128 (rgI (-1) 59)), (h35, aI (k 0) 60 (rgI (-1) 59)), (h36, aJ (k 1) 60 anJ), (h1, ob 4 [.int h1f0, .int h1f1, .int h1f2, .ref h13]), (h13, aJ (k 1) 36 anJ)] _ := hT
    refine lv_aload_n hx hb dX10_orbit_73 rfl (lv_at hl 0 rfl) ?_
    refine lv_iconst (v := 0) hx hb dX10_orbit_74 (by decide) ?_
    refine tz_put (ci := 7) (v := .int 0) (ty := .int) (C := RX10) (F := TX10) (N := 17) hx hb hU iX10 tyX10 tyX10_ok nmX10 hown hK hT hS 0 rfl rfl 11 (by decide) w260 (fun _ h9 => h9) rfl (by decide +kernel) rfl rfl (Nat.le_of_ble_eq_true rfl) dX10_orbit_75 (fun H locs hT hS => ?_)
    have hT : TP D A [(h0, ob 7 [.ref h1, .ref h2, .int h0f2, .ref h3, .ref h4, .ref h5, .int h0f6, .ref h6, .int 1, .null, .ref h7, .int 0, .ref h8, .ref h9, .ref h10, .ref h11, .ref h12]), (h11, aJ (k 1) 9 anJ), (h6, ob 3 [.ref h29, .ref h30, .ref h31, .ref h32, .ref h33, .ref h34, .ref h35, .ref h36, .int h1f0, .int 60, .int v16, .int v17]), (h9, ob 1 [.ref h1]), (h29, aJ (k 1) 180 anJ), (h30, aI (k 0) 60 anI), (h31, aI (k 0) 60 anI), (h32, aI (k 0) 60 anI), (h33, aI (k 0) 240 anI), (h34, aI (k 0) 128 (rgI (-1) 59)), (h35, aI (k 0) 60 (rgI (-1) 59)), (h36, aJ (k 1) 60 anJ), (h1, ob 4 [.int h1f0, .int h1f1, .int h1f2, .ref h13]), (h13, aJ (k 1) 36 anJ)] _ := hT
    refine lv_aload_n hx hb dX10_orbit_78 rfl (lv_at hl 0 rfl) ?_
    refine tz_get (ci := 7) (v := .ref h6) (C := RX10) (F := TX10) (N := 17) hx hb hU iX10 hown hK hT 0 rfl rfl 7 (by decide) w256 (fun _ h9 => h9) rfl dX10_orbit_79 ?_
    refine tz_get (ci := 3) (v := .int v16) (C := RX4) (F := TX4) (N := 12) hx hb hU iX4 hown hK hT 2 rfl rfl 10 (by decide) w166 (fun _ h9 => h9) rfl dX10_orbit_82 ?_
    exact tz_retI (B := B_cX10_orbit_fcf9f D k h0 h1 h6 h9 h11 h13 h29 h30 h31 h32 h33 h34 h35 h36 h2 h3 h4 h5 h7 h8 h10 h12 x1 x2 x3 h0f2 h0f6 h0f8 h0f11 h1f0 h1f1 h1f2 h6f8 h6f9 h6f10 h6f11) (v := v16) hQ hx hb hr hlocks hS (Nat.le_of_ble_eq_true rfl) (Nat.le_of_ble_eq_true rfl) dX10_orbit_85 (⟨1, 0, h1f0, 60, v16, v17, (by have := li_1; have := li_0; have := li_60; omega), (by have := li_1; have := li_0; have := li_60; omega), (by have := li_1; have := li_0; have := li_60; omega), (by have := li_1; have := li_0; have := li_60; omega), (by have := li_1; have := li_0; have := li_60; omega), (by have := li_1; have := li_0; have := li_60; omega), (by have := li_1; have := li_0; have := li_60; omega), (hT.sub [0, 12, 2, 3, 1, 13, 4, 5, 6, 7, 8, 9, 10, 11] (by decide) rfl)⟩)
  · skip
    have c_2 := ni_eq c_2 rfl li_0
    refine lv_iconst (v := (-1)) hx hb dX10_orbit_9 (by decide) ?_
    exact tz_retI (B := B_cX10_orbit_fcf9f D k h0 h1 h6 h9 h11 h13 h29 h30 h31 h32 h33 h34 h35 h36 h2 h3 h4 h5 h7 h8 h10 h12 x1 x2 x3 h0f2 h0f6 h0f8 h0f11 h1f0 h1f1 h1f2 h6f8 h6f9 h6f10 h6f11) (v := (-1)) hQ hx hb hr hlocks hS (Nat.le_of_ble_eq_true rfl) (Nat.le_of_ble_eq_true rfl) dX10_orbit_10 (⟨h0f8, h0f11, h6f8, h6f9, h6f10, h6f11, (by have := li_m1; omega), (by have := li_m1; omega), (by have := li_m1; omega), (by have := li_m1; omega), (by have := li_m1; omega), (by have := li_m1; omega), (by have := li_m1; omega), hT⟩)
abbrev Rm_cX10_setPoint_a6d89 : Room := { frames := 0, cells := 0, slots := 0, locals := 0 }
abbrev B_cX10_setPoint_a6d89 (D : va_G) (k : Nat → ClassId) (h0 h12 h1 h2 h3 h4 h5 h6 h7 h8 h9 h10 h11 h13 : Nat) (x1 : Int32) (x2 : Int32) (x3 : Int32) (h0f2 : Int32) (h0f6 : Int32) (h0f8 : Int32) (h0f11 : Int32) (A : Nat → Prop) (H : Heap) : Prop := TP D A [(h0, ob 7 [.ref h1, .ref h2, .int h0f2, .ref h3, .ref h4, .ref h5, .int h0f6, .ref h6, .int h0f8, .ref h7, .ref h8, .int h0f11, .ref h9, .ref h10, .ref h11, .ref h12, .ref h13]), (h12, aJ (k 1) 9 anJ)] H
set_option maxHeartbeats 4000000 in
set_option maxRecDepth 100000 in
theorem cX10_setPoint_a6d89 (l : Launch) (D : va_G) (k : Nat → ClassId) (sz : Nat) (h0 h12 h1 h2 h3 h4 h5 h6 h7 h8 h9 h10 h11 h13 : Nat) (x1 : Int32) (x2 : Int32) (x3 : Int32) (h0f2 : Int32) (h0f6 : Int32) (h0f8 : Int32) (h0f11 : Int32) (b_h0f2 : 0 ≤ h0f2.toInt ∧ h0f2.toInt ≤ 1) (b_h0f6 : 0 ≤ h0f6.toInt ∧ h0f6.toInt ≤ 1) (b_h0f8 : 0 ≤ h0f8.toInt ∧ h0f8.toInt ≤ 1) (b_h0f11 : 0 ≤ h0f11.toInt ∧ h0f11.toInt ≤ 200) : Met l yX10_setPoint (Cond.code yX10_setPoint cX10_setPoint 4 none :: uw) Rm_cX10_setPoint_a6d89 (pT D k sz [.ref h0, .int x1, .int x2, .int x3] [(h0, ob 7 [.ref h1, .ref h2, .int h0f2, .ref h3, .ref h4, .ref h5, .int h0f6, .ref h6, .int h0f8, .ref h7, .ref h8, .int h0f11, .ref h9, .ref h10, .ref h11, .ref h12, .ref h13]), (h12, aJ (k 1) 9 anJ)]) (qV (B_cX10_setPoint_a6d89 D k h0 h12 h1 h2 h3 h4 h5 h6 h7 h8 h9 h10 h11 h13 x1 x2 x3 h0f2 h0f6 h0f8 h0f11 (zA [h0, h12] sz)) (zA [h0, h12] sz)) 0 0 (zA [h0, h12] sz) := by
  refine tz_begin (as := [h0, h12]) (Qc := fun A => qV (B_cX10_setPoint_a6d89 D k h0 h12 h1 h2 h3 h4 h5 h6 h7 h8 h9 h10 h11 h13 x1 x2 x3 h0f2 h0f6 h0f8 h0f11 A) A) (by decide +kernel) rfl (Nat.le_of_ble_eq_true rfl) ?_
  intro p e s m args below meth c ls A Q hx hb hr hml hown hlocks hin hU hK hT hS hA hl hQ
  have hl : lv_has ls 4 [(0, .ref h0), (1, .int x1), (2, .int x2), (3, .int x3)] := hl
  have hT : TP D A [(h0, ob 7 [.ref h1, .ref h2, .int h0f2, .ref h3, .ref h4, .ref h5, .int h0f6, .ref h6, .int h0f8, .ref h7, .ref h8, .int h0f11, .ref h9, .ref h10, .ref h11, .ref h12, .ref h13]), (h12, aJ (k 1) 9 anJ)] s.heap := hT
  refine lv_aload_n hx hb dX10_setPoint_0 rfl (lv_at hl 0 rfl) ?_
  refine tz_get (ci := 7) (v := .ref h12) (C := RX10) (F := TX10) (N := 17) hx hb hU iX10 hown hK hT 0 rfl rfl 15 (by decide) w264 (fun _ h9 => h9) rfl dX10_setPoint_1 ?_
  refine lv_iconst (v := 0) hx hb dX10_setPoint_4 (by decide) ?_
  refine lv_iload_n hx hb dX10_setPoint_5 rfl (lv_at hl 1 rfl) ?_
  have tb_x1 := i32b x1
  obtain ⟨v1, e_v1⟩ : ∃ x : Int64, x1.toInt64 = x := ⟨_, rfl⟩
  refine lv_i2l (v := v1) hx hb dX10_setPoint_6 e_v1 ?_
  have e_v1 := ai_i2l e_v1 rfl
  refine tz_last hx hb hK hT hS 1 rfl (by have := li_0; omega) (fun _ _ => trivial) dX10_setPoint_7 (fun H locs hT hS => ?_)
  refine lv_aload_n hx hb dX10_setPoint_8 rfl (lv_at hl 0 rfl) ?_
  refine tz_get (ci := 7) (v := .ref h12) (C := RX10) (F := TX10) (N := 17) hx hb hU iX10 hown hK hT 0 rfl rfl 15 (by decide) w264 (fun _ h9 => h9) rfl dX10_setPoint_9 ?_
  refine lv_iconst (v := 1) hx hb dX10_setPoint_12 (by decide) ?_
  refine lv_iload_n hx hb dX10_setPoint_13 rfl (lv_at hl 2 rfl) ?_
  have tb_x2 := i32b x2
  obtain ⟨v2, e_v2⟩ : ∃ x : Int64, x2.toInt64 = x := ⟨_, rfl⟩
  refine lv_i2l (v := v2) hx hb dX10_setPoint_14 e_v2 ?_
  have e_v2 := ai_i2l e_v2 rfl
  refine tz_last hx hb hK hT hS 1 rfl (by have := li_1; omega) (fun _ _ => trivial) dX10_setPoint_15 (fun H locs hT hS => ?_)
  refine lv_aload_n hx hb dX10_setPoint_16 rfl (lv_at hl 0 rfl) ?_
  refine tz_get (ci := 7) (v := .ref h12) (C := RX10) (F := TX10) (N := 17) hx hb hU iX10 hown hK hT 0 rfl rfl 15 (by decide) w264 (fun _ h9 => h9) rfl dX10_setPoint_17 ?_
  refine lv_iconst (v := 2) hx hb dX10_setPoint_20 (by decide) ?_
  refine lv_iload_n hx hb dX10_setPoint_21 rfl (lv_at hl 3 rfl) ?_
  have tb_x3 := i32b x3
  obtain ⟨v3, e_v3⟩ : ∃ x : Int64, x3.toInt64 = x := ⟨_, rfl⟩
  refine lv_i2l (v := v3) hx hb dX10_setPoint_22 e_v3 ?_
  have e_v3 := ai_i2l e_v3 rfl
  refine tz_last hx hb hK hT hS 1 rfl (by have := li_2; omega) (fun _ _ => trivial) dX10_setPoint_23 (fun H locs hT hS => ?_)
  exact tz_retV (B := B_cX10_setPoint_a6d89 D k h0 h12 h1 h2 h3 h4 h5 h6 h7 h8 h9 h10 h11 h13 x1 x2 x3 h0f2 h0f6 h0f8 h0f11) hQ hx hb hr hlocks hS (Nat.le_of_ble_eq_true rfl) (Nat.le_of_ble_eq_true rfl) dX10_setPoint_24 (hT)
abbrev Rm_cX10_orbit_b5527 : Room := { frames := 5, cells := 0, slots := 0, locals := 128 }
abbrev B_cX10_orbit_b5527 (D : va_G) (k : Nat → ClassId) (h0 h1 h6 h10 h12 h14 h30 h31 h32 h33 h34 h35 h36 h37 h2 h3 h4 h5 h7 h8 h9 h11 h13 : Nat) (x1 : Int32) (x2 : Int32) (x3 : Int32) (h0f2 : Int32) (h0f6 : Int32) (h0f8 : Int32) (h0f11 : Int32) (h1f0 : Int32) (h1f1 : Int32) (h1f2 : Int32) (h6f8 : Int32) (h6f9 : Int32) (h6f10 : Int32) (h6f11 : Int32) (A : Nat → Prop) (r : Int32) (H : Heap) : Prop := ∃ o0 : Int32, ∃ o1 : Int32, ∃ o2 : Int32, ∃ o3 : Int32, ∃ o4 : Int32, ∃ o5 : Int32, (0 ≤ o0.toInt ∧ o0.toInt ≤ 1) ∧ (0 ≤ o1.toInt ∧ o1.toInt ≤ 200) ∧ (0 ≤ o2.toInt ∧ o2.toInt ≤ 3) ∧ (0 ≤ o3.toInt ∧ o3.toInt ≤ 60) ∧ (0 ≤ o4.toInt ∧ o4.toInt ≤ 60) ∧ (0 ≤ o5.toInt ∧ o5.toInt ≤ 1) ∧ ((-1) ≤ r.toInt ∧ r.toInt ≤ 60) ∧ TP D A [(h0, ob 7 [.ref h1, .ref h2, .int h0f2, .ref h3, .ref h4, .ref h5, .int h0f6, .ref h6, .int o0, .ref h7, .ref h8, .int o1, .ref h9, .ref h10, .ref h11, .ref h12, .ref h13]), (h1, ob 4 [.int h1f0, .int h1f1, .int h1f2, .ref h14]), (h6, ob 3 [.ref h30, .ref h31, .ref h32, .ref h33, .ref h34, .ref h35, .ref h36, .ref h37, .int o2, .int o3, .int o4, .int o5]), (h10, ob 1 [.ref h1]), (h12, aJ (k 1) 9 anJ), (h14, aJ (k 1) 36 anJ), (h30, aJ (k 1) 180 anJ), (h31, aI (k 0) 60 anI), (h32, aI (k 0) 60 anI), (h33, aI (k 0) 60 anI), (h34, aI (k 0) 240 anI), (h35, aI (k 0) 128 (rgI (-1) 59)), (h36, aI (k 0) 60 (rgI (-1) 59)), (h37, aJ (k 1) 60 anJ)] H
set_option maxHeartbeats 4000000 in
set_option maxRecDepth 100000 in
theorem cX10_orbit_b5527 (l : Launch) (D : va_G) (k : Nat → ClassId) (sz : Nat) (h0 h1 h6 h10 h12 h14 h30 h31 h32 h33 h34 h35 h36 h37 h2 h3 h4 h5 h7 h8 h9 h11 h13 : Nat) (x1 : Int32) (x2 : Int32) (x3 : Int32) (h0f2 : Int32) (h0f6 : Int32) (h0f8 : Int32) (h0f11 : Int32) (h1f0 : Int32) (h1f1 : Int32) (h1f2 : Int32) (h6f8 : Int32) (h6f9 : Int32) (h6f10 : Int32) (h6f11 : Int32) (b_h0f2 : 0 ≤ h0f2.toInt ∧ h0f2.toInt ≤ 1) (b_h0f6 : 0 ≤ h0f6.toInt ∧ h0f6.toInt ≤ 1) (b_h0f8 : 0 ≤ h0f8.toInt ∧ h0f8.toInt ≤ 1) (b_h0f11 : 0 ≤ h0f11.toInt ∧ h0f11.toInt ≤ 200) (b_h1f0 : 1 ≤ h1f0.toInt ∧ h1f0.toInt ≤ 3) (b_h1f1 : 0 ≤ h1f1.toInt ∧ h1f1.toInt ≤ 4) (b_h6f8 : 0 ≤ h6f8.toInt ∧ h6f8.toInt ≤ 3) (b_h6f9 : 0 ≤ h6f9.toInt ∧ h6f9.toInt ≤ 60) (b_h6f10 : 0 ≤ h6f10.toInt ∧ h6f10.toInt ≤ 60) (b_h6f11 : 0 ≤ h6f11.toInt ∧ h6f11.toInt ≤ 1) : Met l yX10_orbit (Cond.code yX10_orbit cX10_orbit 4 (some .int) :: uw) Rm_cX10_orbit_b5527 (pT D k sz [.ref h0, .int x1, .int x2, .int x3] [(h0, ob 7 [.ref h1, .ref h2, .int h0f2, .ref h3, .ref h4, .ref h5, .int h0f6, .ref h6, .int h0f8, .ref h7, .ref h8, .int h0f11, .ref h9, .ref h10, .ref h11, .ref h12, .ref h13]), (h1, ob 4 [.int h1f0, .int h1f1, .int h1f2, .ref h14]), (h6, ob 3 [.ref h30, .ref h31, .ref h32, .ref h33, .ref h34, .ref h35, .ref h36, .ref h37, .int h6f8, .int h6f9, .int h6f10, .int h6f11]), (h10, ob 1 [.ref h1]), (h12, aJ (k 1) 9 anJ), (h14, aJ (k 1) 36 anJ), (h30, aJ (k 1) 180 anJ), (h31, aI (k 0) 60 anI), (h32, aI (k 0) 60 anI), (h33, aI (k 0) 60 anI), (h34, aI (k 0) 240 anI), (h35, aI (k 0) 128 (rgI (-1) 59)), (h36, aI (k 0) 60 (rgI (-1) 59)), (h37, aJ (k 1) 60 anJ)]) (qI (B_cX10_orbit_b5527 D k h0 h1 h6 h10 h12 h14 h30 h31 h32 h33 h34 h35 h36 h37 h2 h3 h4 h5 h7 h8 h9 h11 h13 x1 x2 x3 h0f2 h0f6 h0f8 h0f11 h1f0 h1f1 h1f2 h6f8 h6f9 h6f10 h6f11 (zA [h0, h1, h6, h10, h12, h14, h30, h31, h32, h33, h34, h35, h36, h37] sz)) (zA [h0, h1, h6, h10, h12, h14, h30, h31, h32, h33, h34, h35, h36, h37] sz)) 0 0 (zA [h0, h1, h6, h10, h12, h14, h30, h31, h32, h33, h34, h35, h36, h37] sz) := by
  refine tz_begin (as := [h0, h1, h6, h10, h12, h14, h30, h31, h32, h33, h34, h35, h36, h37]) (Qc := fun A => qI (B_cX10_orbit_b5527 D k h0 h1 h6 h10 h12 h14 h30 h31 h32 h33 h34 h35 h36 h37 h2 h3 h4 h5 h7 h8 h9 h11 h13 x1 x2 x3 h0f2 h0f6 h0f8 h0f11 h1f0 h1f1 h1f2 h6f8 h6f9 h6f10 h6f11 A) A) (by decide +kernel) rfl (Nat.le_of_ble_eq_true rfl) ?_
  intro p e s m args below meth c ls A Q hx hb hr hml hown hlocks hin hU hK hT hS hA hl hQ
  have hl : lv_has ls 4 [(0, .ref h0), (1, .int x1), (2, .int x2), (3, .int x3)] := hl
  have hT : TP D A [(h0, ob 7 [.ref h1, .ref h2, .int h0f2, .ref h3, .ref h4, .ref h5, .int h0f6, .ref h6, .int h0f8, .ref h7, .ref h8, .int h0f11, .ref h9, .ref h10, .ref h11, .ref h12, .ref h13]), (h1, ob 4 [.int h1f0, .int h1f1, .int h1f2, .ref h14]), (h6, ob 3 [.ref h30, .ref h31, .ref h32, .ref h33, .ref h34, .ref h35, .ref h36, .ref h37, .int h6f8, .int h6f9, .int h6f10, .int h6f11]), (h10, ob 1 [.ref h1]), (h12, aJ (k 1) 9 anJ), (h14, aJ (k 1) 36 anJ), (h30, aJ (k 1) 180 anJ), (h31, aI (k 0) 60 anI), (h32, aI (k 0) 60 anI), (h33, aI (k 0) 60 anI), (h34, aI (k 0) 240 anI), (h35, aI (k 0) 128 (rgI (-1) 59)), (h36, aI (k 0) 60 (rgI (-1) 59)), (h37, aJ (k 1) 60 anJ)] s.heap := hT
  refine lv_iload_n hx hb dX10_orbit_0 rfl (lv_at hl 1 rfl) ?_
  refine lv_iload_n hx hb dX10_orbit_1 rfl (lv_at hl 2 rfl) ?_
  refine lv_iload_n hx hb dX10_orbit_2 rfl (lv_at hl 3 rfl) ?_
  refine tcI (Tc := []) (Tr := [(h0, ob 7 [.ref h1, .ref h2, .int h0f2, .ref h3, .ref h4, .ref h5, .int h0f6, .ref h6, .int h0f8, .ref h7, .ref h8, .int h0f11, .ref h9, .ref h10, .ref h11, .ref h12, .ref h13]), (h1, ob 4 [.int h1f0, .int h1f1, .int h1f2, .ref h14]), (h6, ob 3 [.ref h30, .ref h31, .ref h32, .ref h33, .ref h34, .ref h35, .ref h36, .ref h37, .int h6f8, .int h6f9, .int h6f10, .int h6f11]), (h10, ob 1 [.ref h1]), (h12, aJ (k 1) 9 anJ), (h14, aJ (k 1) 36 anJ), (h30, aJ (k 1) 180 anJ), (h31, aI (k 0) 60 anI), (h32, aI (k 0) 60 anI), (h33, aI (k 0) 60 anI), (h34, aI (k 0) 240 anI), (h35, aI (k 0) 128 (rgI (-1) 59)), (h36, aI (k 0) 60 (rgI (-1) 59)), (h37, aJ (k 1) 60 anJ)]) (as := []) (zcS (As := [.int x1, .int x2, .int x3]) (rest := []) (Tc := []) hx hb hml hown hU hK hT [] rfl (by decide) (cX10_isStart_c203d l D k _ x1 x2 x3) w688 w686 w687 w63 hdX10_isStart ⟨rfl, rfl⟩ ⟨Nat.le_of_ble_eq_true rfl, Nat.le_of_ble_eq_true rfl⟩ rfl hl.1 (Nat.le_of_ble_eq_true rfl) dX10_orbit_3 ⟨Nat.le_of_ble_eq_true rfl, Nat.le_of_ble_eq_true rfl⟩) hT hS hA [] [0, 1, 2, 3, 4, 5, 6, 7, 8, 9, 10, 11, 12, 13] rfl rfl rfl (by decide) (by decide) (fun r1 H locs hB J hS => ?_)
  obtain ⟨b_r1, hT1⟩ := hB
  have hT := J _ hT1
  have hT : TP D A [(h0, ob 7 [.ref h1, .ref h2, .int h0f2, .ref h3, .ref h4, .ref h5, .int h0f6, .ref h6, .int h0f8, .ref h7, .ref h8, .int h0f11, .ref h9, .ref h10, .ref h11, .ref h12, .ref h13]), (h1, ob 4 [.int h1f0, .int h1f1, .int h1f2, .ref h14]), (h6, ob 3 [.ref h30, .ref h31, .ref h32, .ref h33, .ref h34, .ref h35, .ref h36, .ref h37, .int h6f8, .int h6f9, .int h6f10, .int h6f11]), (h10, ob 1 [.ref h1]), (h12, aJ (k 1) 9 anJ), (h14, aJ (k 1) 36 anJ), (h30, aJ (k 1) 180 anJ), (h31, aI (k 0) 60 anI), (h32, aI (k 0) 60 anI), (h33, aI (k 0) 60 anI), (h34, aI (k 0) 240 anI), (h35, aI (k 0) 128 (rgI (-1) 59)), (h36, aI (k 0) 60 (rgI (-1) 59)), (h37, aJ (k 1) 60 anJ)] _ := hT
  refine lv_if_ne (tgt := 11) hx hb dX10_orbit_6 (by decide) (fun c_2 => ?_) (fun c_2 => ?_)
  · skip
    have c_2 := ni_ne c_2 rfl li_0
    refine lv_aload_n hx hb dX10_orbit_11 rfl (lv_at hl 0 rfl) ?_
    refine lv_iload_n hx hb dX10_orbit_12 rfl (lv_at hl 1 rfl) ?_
    refine lv_iload_n hx hb dX10_orbit_13 rfl (lv_at hl 2 rfl) ?_
    refine lv_iload_n hx hb dX10_orbit_14 rfl (lv_at hl 3 rfl) ?_
    refine tcV (Tc := [(h0, ob 7 [.ref h1, .ref h2, .int h0f2, .ref h3, .ref h4, .ref h5, .int h0f6, .ref h6, .int h0f8, .ref h7, .ref h8, .int h0f11, .ref h9, .ref h10, .ref h11, .ref h12, .ref h13]), (h12, aJ (k 1) 9 anJ)]) (Tr := [(h1, ob 4 [.int h1f0, .int h1f1, .int h1f2, .ref h14]), (h6, ob 3 [.ref h30, .ref h31, .ref h32, .ref h33, .ref h34, .ref h35, .ref h36, .ref h37, .int h6f8, .int h6f9, .int h6f10, .int h6f11]), (h10, ob 1 [.ref h1]), (h14, aJ (k 1) 36 anJ), (h30, aJ (k 1) 180 anJ), (h31, aI (k 0) 60 anI), (h32, aI (k 0) 60 anI), (h33, aI (k 0) 60 anI), (h34, aI (k 0) 240 anI), (h35, aI (k 0) 128 (rgI (-1) 59)), (h36, aI (k 0) 60 (rgI (-1) 59)), (h37, aJ (k 1) 60 anJ)]) (as := [h0, h12]) (zcV (q0 := 0) (ci := 7) (As := [.int x1, .int x2, .int x3]) (rest := []) (Tc := [(h0, ob 7 [.ref h1, .ref h2, .int h0f2, .ref h3, .ref h4, .ref h5, .int h0f6, .ref h6, .int h0f8, .ref h7, .ref h8, .int h0f11, .ref h9, .ref h10, .ref h11, .ref h12, .ref h13]), (h12, aJ (k 1) 9 anJ)]) hx hb hml hown hU hK hT rfl rfl [0, 4] rfl (by decide) (cX10_setPoint_a6d89 l D k _ h0 h12 h1 h2 h3 h4 h5 h6 h7 h8 h9 h10 h11 h13 x1 x2 x3 h0f2 h0f6 h0f8 h0f11 (by omega) (by omega) (by omega) (by omega)) w695 w692 w694 w24 w63 hdX10_setPoint ⟨rfl, rfl⟩ ⟨Nat.le_of_ble_eq_true rfl, Nat.le_of_ble_eq_true rfl⟩ rfl hl.1 (Nat.le_of_ble_eq_true rfl) dX10_orbit_15 ⟨Nat.le_of_ble_eq_true rfl, Nat.le_of_ble_eq_true rfl⟩) hT hS hA [0, 4] [1, 2, 3, 5, 6, 7, 8, 9, 10, 11, 12, 13] rfl rfl rfl (by decide) (by decide) (fun H locs hB J hS => ?_)
    have hT1 := hB
    have hT := J _ hT1
    have hT : TP D A [(h1, ob 4 [.int h1f0, .int h1f1, .int h1f2, .ref h14]), (h6, ob 3 [.ref h30, .ref h31, .ref h32, .ref h33, .ref h34, .ref h35, .ref h36, .ref h37, .int h6f8, .int h6f9, .int h6f10, .int h6f11]), (h10, ob 1 [.ref h1]), (h14, aJ (k 1) 36 anJ), (h30, aJ (k 1) 180 anJ), (h31, aI (k 0) 60 anI), (h32, aI (k 0) 60 anI), (h33, aI (k 0) 60 anI), (h34, aI (k 0) 240 anI), (h35, aI (k 0) 128 (rgI (-1) 59)), (h36, aI (k 0) 60 (rgI (-1) 59)), (h37, aJ (k 1) 60 anJ), (h0, ob 7 [.ref h1, .ref h2, .int h0f2, .ref h3, .ref h4, .ref h5, .int h0f6, .ref h6, .int h0f8, .ref h7, .ref h8, .int h0f11, .ref h9, .ref h10, .ref h11, .ref h12, .ref h13]), (h12, aJ (k 1) 9 anJ)] _ := hT
    refine lv_aload_n hx hb dX10_orbit_18 rfl (lv_at hl 0 rfl) ?_
    refine tz_get (ci := 7) (v := .ref h6) (C := RX10) (F := TX10) (N := 17) hx hb hU iX10 hown hK hT 12 rfl rfl 7 (by decide) w256 (fun _ h9 => h9) rfl dX10_orbit_19 ?_
    refine lv_aload_n hx hb dX10_orbit_22 rfl (lv_at hl 0 rfl) ?_
    refine tz_get (ci := 7) (v := .ref h1) (C := RX10) (F := TX10) (N := 17) hx hb hU iX10 hown hK hT 12 rfl rfl 0 (by decide) w249 (fun _ h9 => h9) rfl dX10_orbit_23 ?_
    refine tz_get (ci := 4) (v := .int h1f0) (C := RX5) (F := TX5) (N := 4) hx hb hU iX5 hown hK hT 0 rfl rfl 0 (by decide) w93 (fun _ h9 => h9) rfl dX10_orbit_26 ?_
    refine lv_bipush (v := 60) hx hb dX10_orbit_29 (by decide) ?_
    have q_q5 := li_60
    refine tcV (Tc := [(h6, ob 3 [.ref h30, .ref h31, .ref h32, .ref h33, .ref h34, .ref h35, .ref h36, .ref h37, .int h6f8, .int h6f9, .int h6f10, .int h6f11]), (h35, aI (k 0) 128 (rgI (-1) 59))]) (Tr := [(h1, ob 4 [.int h1f0, .int h1f1, .int h1f2, .ref h14]), (h10, ob 1 [.ref h1]), (h14, aJ (k 1) 36 anJ), (h30, aJ (k 1) 180 anJ), (h31, aI (k 0) 60 anI), (h32, aI (k 0) 60 anI), (h33, aI (k 0) 60 anI), (h34, aI (k 0) 240 anI), (h36, aI (k 0) 60 (rgI (-1) 59)), (h37, aJ (k 1) 60 anJ), (h0, ob 7 [.ref h1, .ref h2, .int h0f2, .ref h3, .ref h4, .ref h5, .int h0f6, .ref h6, .int h0f8, .ref h7, .ref h8, .int h0f11, .ref h9, .ref h10, .ref h11, .ref h12, .ref h13]), (h12, aJ (k 1) 9 anJ)]) (as := [h6, h35]) (zcV (q0 := 1) (ci := 3) (As := [.int h1f0, .int 60]) (rest := []) (Tc := [(h6, ob 3 [.ref h30, .ref h31, .ref h32, .ref h33, .ref h34, .ref h35, .ref h36, .ref h37, .int h6f8, .int h6f9, .int h6f10, .int h6f11]), (h35, aI (k 0) 128 (rgI (-1) 59))]) hx hb hml hown hU hK hT rfl rfl [1, 9] rfl (by decide) (cX4_clear_374d6 l D k _ h6 h35 h30 h31 h32 h33 h34 h36 h37 h1f0 (60) h6f8 h6f9 h6f10 h6f11 (by omega) (by have := li_60; omega) (by omega) (by omega) (by omega) (by omega)) w496 w493 w494 w495 w66 hdX4_clear ⟨rfl, rfl⟩ ⟨Nat.le_of_ble_eq_true rfl, Nat.le_of_ble_eq_true rfl⟩ rfl hl.1 (Nat.le_of_ble_eq_true rfl) dX10_orbit_31 ⟨Nat.le_of_ble_eq_true rfl, Nat.le_of_ble_eq_true rfl⟩) hT hS hA [1, 9] [0, 2, 3, 4, 5, 6, 7, 8, 10, 11, 12, 13] rfl rfl rfl (by decide) (by decide) (fun H locs hB J hS => ?_)
    have hT1 := hB
    have hT := J _ hT1
    have hT : TP D A [(h1, ob 4 [.int h1f0, .int h1f1, .int h1f2, .ref h14]), (h10, ob 1 [.ref h1]), (h14, aJ (k 1) 36 anJ), (h30, aJ (k 1) 180 anJ), (h31, aI (k 0) 60 anI), (h32, aI (k 0) 60 anI), (h33, aI (k 0) 60 anI), (h34, aI (k 0) 240 anI), (h36, aI (k 0) 60 (rgI (-1) 59)), (h37, aJ (k 1) 60 anJ), (h0, ob 7 [.ref h1, .ref h2, .int h0f2, .ref h3, .ref h4, .ref h5, .int h0f6, .ref h6, .int h0f8, .ref h7, .ref h8, .int h0f11, .ref h9, .ref h10, .ref h11, .ref h12, .ref h13]), (h12, aJ (k 1) 9 anJ), (h6, ob 3 [.ref h30, .ref h31, .ref h32, .ref h33, .ref h34, .ref h35, .ref h36, .ref h37, .int h1f0, .int 60, .int 0, .int 0]), (h35, aI (k 0) 128 (rgI (-1) 59))] _ := hT
    refine lv_aload_n hx hb dX10_orbit_34 rfl (lv_at hl 0 rfl) ?_
    refine tz_get (ci := 7) (v := .ref h6) (C := RX10) (F := TX10) (N := 17) hx hb hU iX10 hown hK hT 10 rfl rfl 7 (by decide) w256 (fun _ h9 => h9) rfl dX10_orbit_35 ?_
    refine lv_aload_n hx hb dX10_orbit_38 rfl (lv_at hl 0 rfl) ?_
    refine tz_get (ci := 7) (v := .ref h12) (C := RX10) (F := TX10) (N := 17) hx hb hU iX10 hown hK hT 10 rfl rfl 15 (by decide) w264 (fun _ h9 => h9) rfl dX10_orbit_39 ?_
    refine lv_bipush (v := (-3)) hx hb dX10_orbit_42 (by decide) ?_
    refine lv_bipush (v := (-3)) hx hb dX10_orbit_44 (by decide) ?_
    have q_q7 := li_m3
    have q_q8 := li_m3
    have q_q9 := li_60
    have q_q10 := li_0
    have q_q11 := li_0
    refine tcI (Tc := [(h6, ob 3 [.ref h30, .ref h31, .ref h32, .ref h33, .ref h34, .ref h35, .ref h36, .ref h37, .int h1f0, .int 60, .int 0, .int 0]), (h12, aJ (k 1) 9 anJ), (h30, aJ (k 1) 180 anJ), (h31, aI (k 0) 60 anI), (h32, aI (k 0) 60 anI), (h33, aI (k 0) 60 anI), (h35, aI (k 0) 128 (rgI (-1) 59)), (h36, aI (k 0) 60 (rgI (-1) 59))]) (Tr := [(h1, ob 4 [.int h1f0, .int h1f1, .int h1f2, .ref h14]), (h10, ob 1 [.ref h1]), (h14, aJ (k 1) 36 anJ), (h34, aI (k 0) 240 anI), (h37, aJ (k 1) 60 anJ), (h0, ob 7 [.ref h1, .ref h2, .int h0f2, .ref h3, .ref h4, .ref h5, .int h0f6, .ref h6, .int h0f8, .ref h7, .ref h8, .int h0f11, .ref h9, .ref h10, .ref h11, .ref h12, .ref h13])]) (as := [h6, h12, h30, h31, h32, h33, h35, h36]) (zcV (q0 := 12) (ci := 3) (As := [.ref h12, .int (-3), .int (-3)]) (rest := []) (Tc := [(h6, ob 3 [.ref h30, .ref h31, .ref h32, .ref h33, .ref h34, .ref h35, .ref h36, .ref h37, .int h1f0, .int 60, .int 0, .int 0]), (h12, aJ (k 1) 9 anJ), (h30, aJ (k 1) 180 anJ), (h31, aI (k 0) 60 anI), (h32, aI (k 0) 60 anI), (h33, aI (k 0) 60 anI), (h35, aI (k 0) 128 (rgI (-1) 59)), (h36, aI (k 0) 60 (rgI (-1) 59))]) hx hb hml hown hU hK hT rfl rfl [12, 11, 3, 4, 5, 6, 13, 8] rfl (by decide) (cX4_append_e5fbb l D k _ h6 h12 h30 h31 h32 h33 h35 h36 h34 h37 ((-3)) ((-3)) h1f0 (60) (0) (0) (by have := li_m3; omega) (by have := li_m3; omega) (by omega) (by have := li_60; omega) (by have := li_0; omega) (by have := li_0; omega)) w501 w498 w499 w500 w66 hdX4_append ⟨rfl, rfl⟩ ⟨Nat.le_of_ble_eq_true rfl, Nat.le_of_ble_eq_true rfl⟩ rfl hl.1 (Nat.le_of_ble_eq_true rfl) dX10_orbit_46 ⟨Nat.le_of_ble_eq_true rfl, Nat.le_of_ble_eq_true rfl⟩) hT hS hA [12, 11, 3, 4, 5, 6, 13, 8] [0, 1, 2, 7, 9, 10] rfl rfl rfl (by decide) (by decide) (fun r6 H locs hB J hS => ?_)
    obtain ⟨v12, b_v12, rfl, hT1⟩ := hB
    have hT := J _ hT1
    have hT : TP D A [(h1, ob 4 [.int h1f0, .int h1f1, .int h1f2, .ref h14]), (h10, ob 1 [.ref h1]), (h14, aJ (k 1) 36 anJ), (h34, aI (k 0) 240 anI), (h37, aJ (k 1) 60 anJ), (h0, ob 7 [.ref h1, .ref h2, .int h0f2, .ref h3, .ref h4, .ref h5, .int h0f6, .ref h6, .int h0f8, .ref h7, .ref h8, .int h0f11, .ref h9, .ref h10, .ref h11, .ref h12, .ref h13]), (h6, ob 3 [.ref h30, .ref h31, .ref h32, .ref h33, .ref h34, .ref h35, .ref h36, .ref h37, .int h1f0, .int 60, .int v12, .int 0]), (h12, aJ (k 1) 9 anJ), (h30, aJ (k 1) 180 anJ), (h31, aI (k 0) 60 anI), (h32, aI (k 0) 60 anI), (h33, aI (k 0) 60 anI), (h35, aI (k 0) 128 (rgI (-1) 59)), (h36, aI (k 0) 60 (rgI (-1) 59))] _ := hT
    refine lv_pop hx hb dX10_orbit_49 rfl ?_
    refine lv_aload_n hx hb dX10_orbit_50 rfl (lv_at hl 0 rfl) ?_
    refine tz_get (ci := 7) (v := .ref h6) (C := RX10) (F := TX10) (N := 17) hx hb hU iX10 hown hK hT 5 rfl rfl 7 (by decide) w256 (fun _ h9 => h9) rfl dX10_orbit_51 ?_
    refine lv_aload_n hx hb dX10_orbit_54 rfl (lv_at hl 0 rfl) ?_
    refine tz_get (ci := 7) (v := .ref h10) (C := RX10) (F := TX10) (N := 17) hx hb hU iX10 hown hK hT 5 rfl rfl 13 (by decide) w262 (fun _ h9 => h9) rfl dX10_orbit_55 ?_
    refine lv_aload_n hx hb dX10_orbit_58 rfl (lv_at hl 0 rfl) ?_
    refine tz_get (ci := 7) (v := .ref h1) (C := RX10) (F := TX10) (N := 17) hx hb hU iX10 hown hK hT 5 rfl rfl 0 (by decide) w249 (fun _ h9 => h9) rfl dX10_orbit_59 ?_
    refine tz_get (ci := 4) (v := .int h1f1) (C := RX5) (F := TX5) (N := 4) hx hb hU iX5 hown hK hT 0 rfl rfl 1 (by decide) w97 (fun _ h9 => h9) rfl dX10_orbit_62 ?_
    have q_q14 := li_60
    have q_q15 := li_0
    refine tcV (Tc := [(h6, ob 3 [.ref h30, .ref h31, .ref h32, .ref h33, .ref h34, .ref h35, .ref h36, .ref h37, .int h1f0, .int 60, .int v12, .int 0]), (h10, ob 1 [.ref h1]), (h30, aJ (k 1) 180 anJ), (h31, aI (k 0) 60 anI), (h32, aI (k 0) 60 anI), (h33, aI (k 0) 60 anI), (h34, aI (k 0) 240 anI), (h35, aI (k 0) 128 (rgI (-1) 59)), (h36, aI (k 0) 60 (rgI (-1) 59)), (h37, aJ (k 1) 60 anJ), (h1, ob 4 [.int h1f0, .int h1f1, .int h1f2, .ref h14]), (h14, aJ (k 1) 36 anJ)]) (Tr := [(h0, ob 7 [.ref h1, .ref h2, .int h0f2, .ref h3, .ref h4, .ref h5, .int h0f6, .ref h6, .int h0f8, .ref h7, .ref h8, .int h0f11, .ref h9, .ref h10, .ref h11, .ref h12, .ref h13]), (h12, aJ (k 1) 9 anJ)]) (as := [h6, h10, h30, h31, h32, h33, h34, h35, h36, h37, h1, h14]) (zcV (q0 := 6) (ci := 3) (As := [.ref h10, .int h1f1]) (rest := []) (Tc := [(h6, ob 3 [.ref h30, .ref h31, .ref h32, .ref h33, .ref h34, .ref h35, .ref h36, .ref h37, .int h1f0, .int 60, .int v12, .int 0]), (h10, ob 1 [.ref h1]), (h30, aJ (k 1) 180 anJ), (h31, aI (k 0) 60 anI), (h32, aI (k 0) 60 anI), (h33, aI (k 0) 60 anI), (h34, aI (k 0) 240 anI), (h35, aI (k 0) 128 (rgI (-1) 59)), (h36, aI (k 0) 60 (rgI (-1) 59)), (h37, aJ (k 1) 60 anJ), (h1, ob 4 [.int h1f0, .int h1f1, .int h1f2, .ref h14]), (h14, aJ (k 1) 36 anJ)]) hx hb hml hown hU hK hT rfl rfl [6, 1, 8, 9, 10, 11, 3, 12, 13, 4, 0, 2] rfl (by decide) (cX4_spread_6c665 l D k _ h6 h10 h30 h31 h32 h33 h34 h35 h36 h37 h1 h14 h1f1 h1f0 (60) v12 (0) h1f0 h1f1 h1f2 (by omega) (by omega) (by have := li_60; omega) (by omega) (by have := li_0; omega) (by omega) (by omega)) w519 w516 w517 w518 w66 hdX4_spread ⟨rfl, rfl⟩ ⟨Nat.le_of_ble_eq_true rfl, Nat.le_of_ble_eq_true rfl⟩ rfl hl.1 (Nat.le_of_ble_eq_true rfl) dX10_orbit_65 ⟨Nat.le_of_ble_eq_true rfl, Nat.le_of_ble_eq_true rfl⟩) hT hS hA [6, 1, 8, 9, 10, 11, 3, 12, 13, 4, 0, 2] [5, 7] rfl rfl rfl (by decide) (by decide) (fun H locs hB J hS => ?_)
    obtain ⟨v16, v17, b_v16, b_v17, hT1⟩ := hB
    have hT := J _ hT1
    have hT : TP D A [(h0, ob 7 [.ref h1, .ref h2, .int h0f2, .ref h3, .ref h4, .ref h5, .int h0f6, .ref h6, .int h0f8, .ref h7, .ref h8, .int h0f11, .ref h9, .ref h10, .ref h11, .ref h12, .ref h13]), (h12, aJ (k 1) 9 anJ), (h6, ob 3 [.ref h30, .ref h31, .ref h32, .ref h33, .ref h34, .ref h35, .ref h36, .ref h37, .int h1f0, .int 60, .int v16, .int v17]), (h10, ob 1 [.ref h1]), (h30, aJ (k 1) 180 anJ), (h31, aI (k 0) 60 anI), (h32, aI (k 0) 60 anI), (h33, aI (k 0) 60 anI), (h34, aI (k 0) 240 anI), (h35, aI (k 0) 128 (rgI (-1) 59)), (h36, aI (k 0) 60 (rgI (-1) 59)), (h37, aJ (k 1) 60 anJ), (h1, ob 4 [.int h1f0, .int h1f1, .int h1f2, .ref h14]), (h14, aJ (k 1) 36 anJ)] _ := hT
    refine lv_aload_n hx hb dX10_orbit_68 rfl (lv_at hl 0 rfl) ?_
    refine lv_iconst (v := 1) hx hb dX10_orbit_69 (by decide) ?_
    refine tz_put (ci := 7) (v := .int 1) (ty := .boolean) (C := RX10) (F := TX10) (N := 17) hx hb hU iX10 tyX10 tyX10_ok nmX10 hown hK hT hS 0 rfl rfl 8 (by decide) w257 (fun _ h9 => h9) rfl (by decide +kernel) rfl rfl (Nat.le_of_ble_eq_true rfl) dX10_orbit_70 (fun H locs hT hS => ?_)
    have hT : TP D A [(h0, ob 7 [.ref h1, .ref h2, .int h0f2, .ref h3, .ref h4, .ref h5, .int h0f6, .ref h6, .int 1, .ref h7, .ref h8, .int h0f11, .ref h9, .ref h10, .ref h11, .ref h12, .ref h13]), (h12, aJ (k 1) 9 anJ), (h6, ob 3 [.ref h30, .ref h31, .ref h32, .ref h33, .ref h34, .ref h35, .ref h36, .ref h37, .int h1f0, .int 60, .int v16, .int v17]), (h10, ob 1 [.ref h1]), (h30, aJ (k 1) 180 anJ), (h31, aI (k 0) 60 anI), (h32, aI (k 0) 60 anI), (h33, aI (k 0) 60 anI), (h34, aI (k 0) 240 anI), (h35, aI (k 0) 128 (rgI (-1) 59)), (h36, aI (k 0) 60 (rgI (-1) 59)), (h37, aJ (k 1) 60 anJ), (h1, ob 4 [.int h1f0, .int h1f1, .int h1f2, .ref h14]), (h14, aJ (k 1) 36 anJ)] _ := hT
    refine lv_aload_n hx hb dX10_orbit_73 rfl (lv_at hl 0 rfl) ?_
    refine lv_iconst (v := 0) hx hb dX10_orbit_74 (by decide) ?_
    refine tz_put (ci := 7) (v := .int 0) (ty := .int) (C := RX10) (F := TX10) (N := 17) hx hb hU iX10 tyX10 tyX10_ok nmX10 hown hK hT hS 0 rfl rfl 11 (by decide) w260 (fun _ h9 => h9) rfl (by decide +kernel) rfl rfl (Nat.le_of_ble_eq_true rfl) dX10_orbit_75 (fun H locs hT hS => ?_)
    have hT : TP D A [(h0, ob 7 [.ref h1, .ref h2, .int h0f2, .ref h3, .ref h4, .ref h5, .int h0f6, .ref h6, .int 1, .ref h7, .ref h8, .int 0, .ref h9, .ref h10, .ref h11, .ref h12, .ref h13]), (h12, aJ (k 1) 9 anJ), (h6, ob 3 [.ref h30, .ref h31, .ref h32, .ref h33, .ref h34, .ref h35, .ref h36, .ref h37, .int h1f0, .int 60, .int v16, .int v17]), (h10, ob 1 [.ref h1]), (h30, aJ (k 1) 180 anJ), (h31, aI (k 0) 60 anI), (h32, aI (k 0) 60 anI), (h33, aI (k 0) 60 anI), (h34, aI (k 0) 240 anI), (h35, aI (k 0) 128 (rgI (-1) 59)), (h36, aI (k 0) 60 (rgI (-1) 59)), (h37, aJ (k 1) 60 anJ), (h1, ob 4 [.int h1f0, .int h1f1, .int h1f2, .ref h14]), (h14, aJ (k 1) 36 anJ)] _ := hT
    refine lv_aload_n hx hb dX10_orbit_78 rfl (lv_at hl 0 rfl) ?_
    refine tz_get (ci := 7) (v := .ref h6) (C := RX10) (F := TX10) (N := 17) hx hb hU iX10 hown hK hT 0 rfl rfl 7 (by decide) w256 (fun _ h9 => h9) rfl dX10_orbit_79 ?_
    refine tz_get (ci := 3) (v := .int v16) (C := RX4) (F := TX4) (N := 12) hx hb hU iX4 hown hK hT 2 rfl rfl 10 (by decide) w166 (fun _ h9 => h9) rfl dX10_orbit_82 ?_
    exact tz_retI (B := B_cX10_orbit_b5527 D k h0 h1 h6 h10 h12 h14 h30 h31 h32 h33 h34 h35 h36 h37 h2 h3 h4 h5 h7 h8 h9 h11 h13 x1 x2 x3 h0f2 h0f6 h0f8 h0f11 h1f0 h1f1 h1f2 h6f8 h6f9 h6f10 h6f11) (v := v16) hQ hx hb hr hlocks hS (Nat.le_of_ble_eq_true rfl) (Nat.le_of_ble_eq_true rfl) dX10_orbit_85 (⟨1, 0, h1f0, 60, v16, v17, (by have := li_1; have := li_0; have := li_60; omega), (by have := li_1; have := li_0; have := li_60; omega), (by have := li_1; have := li_0; have := li_60; omega), (by have := li_1; have := li_0; have := li_60; omega), (by have := li_1; have := li_0; have := li_60; omega), (by have := li_1; have := li_0; have := li_60; omega), (by have := li_1; have := li_0; have := li_60; omega), (hT.sub [0, 12, 2, 3, 1, 13, 4, 5, 6, 7, 8, 9, 10, 11] (by decide) rfl)⟩)
  · skip
    have c_2 := ni_eq c_2 rfl li_0
    refine lv_iconst (v := (-1)) hx hb dX10_orbit_9 (by decide) ?_
    exact tz_retI (B := B_cX10_orbit_b5527 D k h0 h1 h6 h10 h12 h14 h30 h31 h32 h33 h34 h35 h36 h37 h2 h3 h4 h5 h7 h8 h9 h11 h13 x1 x2 x3 h0f2 h0f6 h0f8 h0f11 h1f0 h1f1 h1f2 h6f8 h6f9 h6f10 h6f11) (v := (-1)) hQ hx hb hr hlocks hS (Nat.le_of_ble_eq_true rfl) (Nat.le_of_ble_eq_true rfl) dX10_orbit_10 (⟨h0f8, h0f11, h6f8, h6f9, h6f10, h6f11, (by have := li_m1; omega), (by have := li_m1; omega), (by have := li_m1; omega), (by have := li_m1; omega), (by have := li_m1; omega), (by have := li_m1; omega), (by have := li_m1; omega), hT⟩)
abbrev Rm_cX11_takes_745fc : Room := { frames := 0, cells := 0, slots := 0, locals := 0 }
abbrev B_cX11_takes_745fc (D : va_G) (k : Nat → ClassId) (h0 h1 h2 h3 h4 h5 h6 h7 h8 h9 h10 h11 h12 h13 h14 h15 h16 h17 h18 h19 h20 h21 : Nat) (x1 : Int32) (h0f0 : Int32) (h0f1 : Int32) (h0f2 : Int32) (h0f3 : Int32) (h0f4 : Int32) (h0f5 : Int32) (h0f8 : Int32) (h0f9 : Int32) (h0f17 : Int32) (h0f18 : Int32) (h0f19 : Int32) (h0f24 : Int32) (h0f25 : Int32) (h0f30 : Int32) (h0f31 : Int32) (A : Nat → Prop) (H : Heap) : Prop := TP D A [(h0, ob 8 [.int h0f0, .int h0f1, .int h0f2, .int h0f3, .int h0f4, .int h0f5, .ref h2, .ref h3, .int h0f8, .int h0f9, .ref h4, .ref h5, .ref h1, .ref h6, .ref h7, .ref h8, .ref h9, .int h0f17, .int h0f18, .int h0f19, .ref h10, .ref h11, .ref h12, .ref h13, .int h0f24, .int h0f25, .ref h14, .ref h15, .ref h16, .ref h17, .int h0f30, .int h0f31, .ref h18, .ref h19, .ref h20, .ref h21]), (h1, aJ (k 1) 9 anJ), (h2, aI (k 0) 36 anI)] H
set_option maxHeartbeats 4000000 in
set_option maxRecDepth 100000 in
theorem cX11_takes_745fc (l : Launch) (D : va_G) (k : Nat → ClassId) (sz : Nat) (h0 h1 h2 h3 h4 h5 h6 h7 h8 h9 h10 h11 h12 h13 h14 h15 h16 h17 h18 h19 h20 h21 : Nat) (x1 : Int32) (h0f0 : Int32) (h0f1 : Int32) (h0f2 : Int32) (h0f3 : Int32) (h0f4 : Int32) (h0f5 : Int32) (h0f8 : Int32) (h0f9 : Int32) (h0f17 : Int32) (h0f18 : Int32) (h0f19 : Int32) (h0f24 : Int32) (h0f25 : Int32) (h0f30 : Int32) (h0f31 : Int32) (b_x1 : 0 ≤ x1.toInt ∧ x1.toInt ≤ 3) (b_h0f0 : 1 ≤ h0f0.toInt ∧ h0f0.toInt ≤ 3) (b_h0f1 : 1 ≤ h0f1.toInt ∧ h0f1.toInt ≤ 4) (b_h0f3 : 0 ≤ h0f3.toInt ∧ h0f3.toInt ≤ 3) (b_h0f4 : 0 ≤ h0f4.toInt ∧ h0f4.toInt ≤ 4) (b_h0f8 : 0 ≤ h0f8.toInt ∧ h0f8.toInt ≤ 1) (b_h0f9 : 0 ≤ h0f9.toInt ∧ h0f9.toInt ≤ 1) (b_h0f17 : 0 ≤ h0f17.toInt ∧ h0f17.toInt ≤ 120) (b_h0f18 : 0 ≤ h0f18.toInt ∧ h0f18.toInt ≤ 120) (b_h0f19 : 0 ≤ h0f19.toInt ∧ h0f19.toInt ≤ 4) (b_h0f24 : 0 ≤ h0f24.toInt ∧ h0f24.toInt ≤ 100) (b_h0f25 : 0 ≤ h0f25.toInt ∧ h0f25.toInt ≤ 1) (b_h0f30 : 1 ≤ h0f30.toInt ∧ h0f30.toInt ≤ 60) (b_h0f31 : 0 ≤ h0f31.toInt ∧ h0f31.toInt ≤ 1) (i_0 : h0f8.toInt ≤ h0f3.toInt) (i_1 : h0f9.toInt ≤ h0f24.toInt) : Met l yX11_takes (Cond.code yX11_takes cX11_takes 4 none :: uw) Rm_cX11_takes_745fc (pT D k sz [.ref h0, .int x1, .ref h1] [(h0, ob 8 [.int h0f0, .int h0f1, .int h0f2, .int h0f3, .int h0f4, .int h0f5, .ref h2, .ref h3, .int h0f8, .int h0f9, .ref h4, .ref h5, .ref h1, .ref h6, .ref h7, .ref h8, .ref h9, .int h0f17, .int h0f18, .int h0f19, .ref h10, .ref h11, .ref h12, .ref h13, .int h0f24, .int h0f25, .ref h14, .ref h15, .ref h16, .ref h17, .int h0f30, .int h0f31, .ref h18, .ref h19, .ref h20, .ref h21]), (h1, aJ (k 1) 9 anJ), (h2, aI (k 0) 36 anI)]) (qV (B_cX11_takes_745fc D k h0 h1 h2 h3 h4 h5 h6 h7 h8 h9 h10 h11 h12 h13 h14 h15 h16 h17 h18 h19 h20 h21 x1 h0f0 h0f1 h0f2 h0f3 h0f4 h0f5 h0f8 h0f9 h0f17 h0f18 h0f19 h0f24 h0f25 h0f30 h0f31 (zA [h0, h1, h2] sz)) (zA [h0, h1, h2] sz)) 0 0 (zA [h0, h1, h2] sz) := by
  refine tz_begin (as := [h0, h1, h2]) (Qc := fun A => qV (B_cX11_takes_745fc D k h0 h1 h2 h3 h4 h5 h6 h7 h8 h9 h10 h11 h12 h13 h14 h15 h16 h17 h18 h19 h20 h21 x1 h0f0 h0f1 h0f2 h0f3 h0f4 h0f5 h0f8 h0f9 h0f17 h0f18 h0f19 h0f24 h0f25 h0f30 h0f31 A) A) (by decide +kernel) rfl (Nat.le_of_ble_eq_true rfl) ?_
  intro p e s m args below meth c ls A Q hx hb hr hml hown hlocks hin hU hK hT hS hA hl hQ
  have hl : lv_has ls 4 [(0, .ref h0), (1, .int x1), (2, .ref h1)] := hl
  have hT : TP D A [(h0, ob 8 [.int h0f0, .int h0f1, .int h0f2, .int h0f3, .int h0f4, .int h0f5, .ref h2, .ref h3, .int h0f8, .int h0f9, .ref h4, .ref h5, .ref h1, .ref h6, .ref h7, .ref h8, .ref h9, .int h0f17, .int h0f18, .int h0f19, .ref h10, .ref h11, .ref h12, .ref h13, .int h0f24, .int h0f25, .ref h14, .ref h15, .ref h16, .ref h17, .int h0f30, .int h0f31, .ref h18, .ref h19, .ref h20, .ref h21]), (h1, aJ (k 1) 9 anJ), (h2, aI (k 0) 36 anI)] s.heap := hT
  refine lv_iconst (v := 0) hx hb dX11_takes_0 (by decide) ?_
  refine lv_istore_n (lv' := [(3, .int 0), (0, .ref h0), (1, .int x1), (2, .ref h1)]) hx hb dX11_takes_1 rfl hl (by decide) rfl (fun ls hl => ?_)
  have lp2_8 : ∀ (n : Nat) (y7 : Int32) (H : Heap) (locs : List Loc) (ls : Array Slot), (0 ≤ y7.toInt ∧ y7.toInt ≤ 9) → ((-1) * y7.toInt + 9 + 1).toNat < n → TP D A [(h0, ob 8 [.int h0f0, .int h0f1, .int h0f2, .int h0f3, .int h0f4, .int h0f5, .ref h2, .ref h3, .int h0f8, .int h0f9, .ref h4, .ref h5, .ref h1, .ref h6, .ref h7, .ref h8, .ref h9, .int h0f17, .int h0f18, .int h0f19, .ref h10, .ref h11, .ref h12, .ref h13, .int h0f24, .int h0f25, .ref h14, .ref h15, .ref h16, .ref h17, .int h0f30, .int h0f31, .ref h18, .ref h19, .ref h20, .ref h21]), (h1, aJ (k 1) 9 anJ), (h2, aI (k 0) 36 anI)] H → va_S A s.heap H locs → lv_has ls 4 [(0, .ref h0), (1, .int x1), (2, .ref h1), (3, .int y7)] → W p l e Rm_cX11_takes_745fc s m args below meth c H locs 0 0 Q (F0 m 2 ls []) := by
    intro n
    induction n with
    | zero => intro y7 H locs ls b_y7 hm hT hS hl; exact absurd hm (Nat.not_lt_zero _)
    | succ n ih =>
      intro y7 H locs ls b_y7 hm hT hS hl
      have ih2_8 := ih
      clear ih
      refine lv_iload_n hx hb dX11_takes_2 rfl (lv_at hl 3 rfl) ?_
      refine lv_bipush (v := 9) hx hb dX11_takes_3 (by decide) ?_
      refine lv_icmp_ge (tgt := 29) hx hb dX11_takes_5 (by decide) (fun c_9 => ?_) (fun c_9 => ?_)
      · skip
        have c_9 := ni_le c_9 li_9 rfl
        exact tz_retV (B := B_cX11_takes_745fc D k h0 h1 h2 h3 h4 h5 h6 h7 h8 h9 h10 h11 h12 h13 h14 h15 h16 h17 h18 h19 h20 h21 x1 h0f0 h0f1 h0f2 h0f3 h0f4 h0f5 h0f8 h0f9 h0f17 h0f18 h0f19 h0f24 h0f25 h0f30 h0f31) hQ hx hb hr hlocks hS (Nat.le_of_ble_eq_true rfl) (Nat.le_of_ble_eq_true rfl) dX11_takes_29 (hT)
      · skip
        have c_9 := ni_nle c_9 li_9 rfl
        refine lv_aload_n hx hb dX11_takes_8 rfl (lv_at hl 2 rfl) ?_
        refine lv_iload_n hx hb dX11_takes_9 rfl (lv_at hl 3 rfl) ?_
        refine lv_aload_n hx hb dX11_takes_10 rfl (lv_at hl 0 rfl) ?_
        refine tz_get (ci := 8) (v := .ref h2) (C := RX11) (F := TX11) (N := 36) hx hb hU iX11 hown hK hT 0 rfl rfl 6 (by decide) w791 (fun _ h9 => h9) rfl dX11_takes_11 ?_
        refine lv_bipush (v := 9) hx hb dX11_takes_14 (by decide) ?_
        refine lv_iload_n hx hb dX11_takes_16 rfl (lv_at hl 1 rfl) ?_
        refine lv_imul hx hb dX11_takes_17 (lv_topi (fun v10 e_v10 => ?_))
        have e_v10 := ai_mul e_v10 li_9 rfl (by omega)
        refine lv_iload_n hx hb dX11_takes_18 rfl (lv_at hl 3 rfl) ?_
        refine lv_iadd hx hb dX11_takes_19 (lv_topi (fun v11 e_v11 => ?_))
        have e_v11 := ai_add e_v11 rfl rfl (by omega)
        refine tz_iald hx hb hK hT 2 rfl (by omega) dX11_takes_20 (fun v12 e_v12 => ?_)
        clear e_v12
        have tb_v12 := i32b v12
        obtain ⟨v13, e_v13⟩ : ∃ x : Int64, v12.toInt64 = x := ⟨_, rfl⟩
        refine lv_i2l (v := v13) hx hb dX11_takes_21 e_v13 ?_
        have e_v13 := ai_i2l e_v13 rfl
        refine tz_last hx hb hK hT hS 1 rfl (by omega) (fun _ _ => trivial) dX11_takes_22 (fun H locs hT hS => ?_)
        obtain ⟨v14, e_v14⟩ : ∃ x : Int32, x = y7 + Int32.ofInt 1 := ⟨_, rfl⟩
        have f_v14 := e_v14.symm
        have e_v14 : v14.toInt = y7.toInt + 1 := ai_add e_v14 rfl (show (Int32.ofInt 1).toInt = 1 from (by decide +kernel)) (by omega)
        refine lv_iinc (v := v14) (lv' := [(3, .int v14), (0, .ref h0), (1, .int x1), (2, .ref h1)]) hx hb dX11_takes_23 hl (k := 3) rfl f_v14 (by decide) rfl (fun ls hl => ?_)
        refine lv_goto (tgt := 2) hx hb dX11_takes_26 (by decide) ?_
        exact ih2_8 v14 _ _ _ (by omega)  (by omega) hT hS (lv_sub hl [1, 2, 3, 0] rfl)
  exact lp2_8 (((-1) * (0 : Int32).toInt + 9 + 1).toNat + 1) (0) _ _ _ (by have := li_0; omega)  (Nat.lt_succ_self _) hT hS (lv_sub hl [1, 2, 3, 0] rfl)
abbrev Rm_cX11_goes_98b99 : Room := { frames := 1, cells := 0, slots := 0, locals := 23 }
abbrev B_cX11_goes_98b99 (D : va_G) (k : Nat → ClassId) (h0 h1 h4 h5 h15 h2 h3 h6 h7 h8 h9 h10 h11 h12 h13 h14 h16 h17 h18 h19 h20 h21 : Nat) (x1 : Int32) (x2 : Int32) (h0f0 : Int32) (h0f1 : Int32) (h0f2 : Int32) (h0f3 : Int32) (h0f4 : Int32) (h0f5 : Int32) (h0f8 : Int32) (h0f9 : Int32) (h0f17 : Int32) (h0f18 : Int32) (h0f19 : Int32) (h0f24 : Int32) (h0f25 : Int32) (h0f30 : Int32) (h0f31 : Int32) (A : Nat → Prop) (H : Heap) : Prop := TP D A [(h0, ob 8 [.int h0f0, .int h0f1, .int h0f2, .int h0f3, .int h0f4, .int h0f5, .ref h1, .ref h2, .int h0f8, .int h0f9, .ref h3, .ref h4, .ref h5, .ref h6, .ref h7, .ref h8, .ref h9, .int h0f17, .int h0f18, .int h0f19, .ref h10, .ref h11, .ref h12, .ref h13, .int h0f24, .int h0f25, .ref h14, .ref h15, .ref h16, .ref h17, .int h0f30, .int h0f31, .ref h18, .ref h19, .ref h20, .ref h21]), (h1, aI (k 0) 36 anI), (h4, aJ (k 1) 9 anJ), (h5, aJ (k 1) 9 anJ), (h15, aJ (k 1) 180 anJ)] H
set_option maxHeartbeats 4000000 in
set_option maxRecDepth 100000 in
theorem cX11_goes_98b99 (l : Launch) (D : va_G) (k : Nat → ClassId) (sz : Nat) (h0 h1 h4 h5 h15 h2 h3 h6 h7 h8 h9 h10 h11 h12 h13 h14 h16 h17 h18 h19 h20 h21 : Nat) (x1 : Int32) (x2 : Int32) (h0f0 : Int32) (h0f1 : Int32) (h0f2 : Int32) (h0f3 : Int32) (h0f4 : Int32) (h0f5 : Int32) (h0f8 : Int32) (h0f9 : Int32) (h0f17 : Int32) (h0f18 : Int32) (h0f19 : Int32) (h0f24 : Int32) (h0f25 : Int32) (h0f30 : Int32) (h0f31 : Int32) (b_x1 : 0 ≤ x1.toInt ∧ x1.toInt ≤ 3) (b_x2 : 0 ≤ x2.toInt ∧ x2.toInt ≤ 59) (b_h0f0 : 1 ≤ h0f0.toInt ∧ h0f0.toInt ≤ 3) (b_h0f1 : 1 ≤ h0f1.toInt ∧ h0f1.toInt ≤ 4) (b_h0f3 : 0 ≤ h0f3.toInt ∧ h0f3.toInt ≤ 3) (b_h0f4 : 0 ≤ h0f4.toInt ∧ h0f4.toInt ≤ 4) (b_h0f8 : 0 ≤ h0f8.toInt ∧ h0f8.toInt ≤ 1) (b_h0f9 : 0 ≤ h0f9.toInt ∧ h0f9.toInt ≤ 1) (b_h0f17 : 0 ≤ h0f17.toInt ∧ h0f17.toInt ≤ 120) (b_h0f18 : 0 ≤ h0f18.toInt ∧ h0f18.toInt ≤ 120) (b_h0f19 : 0 ≤ h0f19.toInt ∧ h0f19.toInt ≤ 4) (b_h0f24 : 0 ≤ h0f24.toInt ∧ h0f24.toInt ≤ 100) (b_h0f25 : 0 ≤ h0f25.toInt ∧ h0f25.toInt ≤ 1) (b_h0f30 : 1 ≤ h0f30.toInt ∧ h0f30.toInt ≤ 60) (b_h0f31 : 0 ≤ h0f31.toInt ∧ h0f31.toInt ≤ 1) (i_0 : h0f8.toInt ≤ h0f3.toInt) (i_1 : h0f9.toInt ≤ h0f24.toInt) : Met l yX11_goes (Cond.code yX11_goes cX11_goes 5 none :: uw) Rm_cX11_goes_98b99 (pT D k sz [.ref h0, .int x1, .int x2] [(h0, ob 8 [.int h0f0, .int h0f1, .int h0f2, .int h0f3, .int h0f4, .int h0f5, .ref h1, .ref h2, .int h0f8, .int h0f9, .ref h3, .ref h4, .ref h5, .ref h6, .ref h7, .ref h8, .ref h9, .int h0f17, .int h0f18, .int h0f19, .ref h10, .ref h11, .ref h12, .ref h13, .int h0f24, .int h0f25, .ref h14, .ref h15, .ref h16, .ref h17, .int h0f30, .int h0f31, .ref h18, .ref h19, .ref h20, .ref h21]), (h1, aI (k 0) 36 anI), (h4, aJ (k 1) 9 anJ), (h5, aJ (k 1) 9 anJ), (h15, aJ (k 1) 180 anJ)]) (qV (B_cX11_goes_98b99 D k h0 h1 h4 h5 h15 h2 h3 h6 h7 h8 h9 h10 h11 h12 h13 h14 h16 h17 h18 h19 h20 h21 x1 x2 h0f0 h0f1 h0f2 h0f3 h0f4 h0f5 h0f8 h0f9 h0f17 h0f18 h0f19 h0f24 h0f25 h0f30 h0f31 (zA [h0, h1, h4, h5, h15] sz)) (zA [h0, h1, h4, h5, h15] sz)) 0 0 (zA [h0, h1, h4, h5, h15] sz) := by
  refine tz_begin (as := [h0, h1, h4, h5, h15]) (Qc := fun A => qV (B_cX11_goes_98b99 D k h0 h1 h4 h5 h15 h2 h3 h6 h7 h8 h9 h10 h11 h12 h13 h14 h16 h17 h18 h19 h20 h21 x1 x2 h0f0 h0f1 h0f2 h0f3 h0f4 h0f5 h0f8 h0f9 h0f17 h0f18 h0f19 h0f24 h0f25 h0f30 h0f31 A) A) (by decide +kernel) rfl (Nat.le_of_ble_eq_true rfl) ?_
  intro p e s m args below meth c ls A Q hx hb hr hml hown hlocks hin hU hK hT hS hA hl hQ
  have hl : lv_has ls 5 [(0, .ref h0), (1, .int x1), (2, .int x2)] := hl
  have hT : TP D A [(h0, ob 8 [.int h0f0, .int h0f1, .int h0f2, .int h0f3, .int h0f4, .int h0f5, .ref h1, .ref h2, .int h0f8, .int h0f9, .ref h3, .ref h4, .ref h5, .ref h6, .ref h7, .ref h8, .ref h9, .int h0f17, .int h0f18, .int h0f19, .ref h10, .ref h11, .ref h12, .ref h13, .int h0f24, .int h0f25, .ref h14, .ref h15, .ref h16, .ref h17, .int h0f30, .int h0f31, .ref h18, .ref h19, .ref h20, .ref h21]), (h1, aI (k 0) 36 anI), (h4, aJ (k 1) 9 anJ), (h5, aJ (k 1) 9 anJ), (h15, aJ (k 1) 180 anJ)] s.heap := hT
  refine lv_aload_n hx hb dX11_goes_0 rfl (lv_at hl 0 rfl) ?_
  refine lv_iload_n hx hb dX11_goes_1 rfl (lv_at hl 1 rfl) ?_
  refine lv_aload_n hx hb dX11_goes_2 rfl (lv_at hl 0 rfl) ?_
  refine tz_get (ci := 8) (v := .ref h5) (C := RX11) (F := TX11) (N := 36) hx hb hU iX11 hown hK hT 0 rfl rfl 12 (by decide) w797 (fun _ h9 => h9) rfl dX11_goes_3 ?_
  refine tcV (Tc := [(h0, ob 8 [.int h0f0, .int h0f1, .int h0f2, .int h0f3, .int h0f4, .int h0f5, .ref h1, .ref h2, .int h0f8, .int h0f9, .ref h3, .ref h4, .ref h5, .ref h6, .ref h7, .ref h8, .ref h9, .int h0f17, .int h0f18, .int h0f19, .ref h10, .ref h11, .ref h12, .ref h13, .int h0f24, .int h0f25, .ref h14, .ref h15, .ref h16, .ref h17, .int h0f30, .int h0f31, .ref h18, .ref h19, .ref h20, .ref h21]), (h5, aJ (k 1) 9 anJ), (h1, aI (k 0) 36 anI)]) (Tr := [(h4, aJ (k 1) 9 anJ), (h15, aJ (k 1) 180 anJ)]) (as := [h0, h5, h1]) (zcV (q0 := 0) (ci := 8) (As := [.int x1, .ref h5]) (rest := []) (Tc := [(h0, ob 8 [.int h0f0, .int h0f1, .int h0f2, .int h0f3, .int h0f4, .int h0f5, .ref h1, .ref h2, .int h0f8, .int h0f9, .ref h3, .ref h4, .ref h5, .ref h6, .ref h7, .ref h8, .ref h9, .int h0f17, .int h0f18, .int h0f19, .ref h10, .ref h11, .ref h12, .ref h13, .int h0f24, .int h0f25, .ref h14, .ref h15, .ref h16, .ref h17, .int h0f30, .int h0f31, .ref h18, .ref h19, .ref h20, .ref h21]), (h5, aJ (k 1) 9 anJ), (h1, aI (k 0) 36 anI)]) hx hb hml hown hU hK hT rfl rfl [0, 3, 1] rfl (by decide) (cX11_takes_745fc l D k _ h0 h5 h1 h2 h3 h4 h6 h7 h8 h9 h10 h11 h12 h13 h14 h15 h16 h17 h18 h19 h20 h21 x1 h0f0 h0f1 h0f2 h0f3 h0f4 h0f5 h0f8 h0f9 h0f17 h0f18 h0f19 h0f24 h0f25 h0f30 h0f31 (by omega) (by omega) (by omega) (by omega) (by omega) (by omega) (by omega) (by omega) (by omega) (by omega) (by omega) (by omega) (by omega) (by omega) (by omega) (by omega)) w939 w936 w938 w32 w72 hdX11_takes ⟨rfl, rfl⟩ ⟨Nat.le_of_ble_eq_true rfl, Nat.le_of_ble_eq_true rfl⟩ rfl hl.1 (Nat.le_of_ble_eq_true rfl) dX11_goes_6 ⟨Nat.le_of_ble_eq_true rfl, Nat.le_of_ble_eq_true rfl⟩) hT hS hA [0, 3, 1] [2, 4] rfl rfl rfl (by decide) (by decide) (fun H locs hB J hS => ?_)
  have hT1 := hB
  have hT := J _ hT1
  have hT : TP D A [(h4, aJ (k 1) 9 anJ), (h15, aJ (k 1) 180 anJ), (h0, ob 8 [.int h0f0, .int h0f1, .int h0f2, .int h0f3, .int h0f4, .int h0f5, .ref h1, .ref h2, .int h0f8, .int h0f9, .ref h3, .ref h4, .ref h5, .ref h6, .ref h7, .ref h8, .ref h9, .int h0f17, .int h0f18, .int h0f19, .ref h10, .ref h11, .ref h12, .ref h13, .int h0f24, .int h0f25, .ref h14, .ref h15, .ref h16, .ref h17, .int h0f30, .int h0f31, .ref h18, .ref h19, .ref h20, .ref h21]), (h5, aJ (k 1) 9 anJ), (h1, aI (k 0) 36 anI)] _ := hT
  refine lv_iconst (v := 0) hx hb dX11_goes_9 (by decide) ?_
  refine lv_istore_n (lv' := [(3, .int 0), (0, .ref h0), (1, .int x1), (2, .int x2)]) hx hb dX11_goes_10 rfl hl (by decide) rfl (fun ls hl => ?_)
  have lp11_5 : ∀ (n : Nat) (y4 : Int32) (H : Heap) (locs : List Loc) (ls : Array Slot), (0 ≤ y4.toInt ∧ y4.toInt ≤ 3) → ((-1) * y4.toInt + 3 + 1).toNat < n → TP D A [(h4, aJ (k 1) 9 anJ), (h15, aJ (k 1) 180 anJ), (h0, ob 8 [.int h0f0, .int h0f1, .int h0f2, .int h0f3, .int h0f4, .int h0f5, .ref h1, .ref h2, .int h0f8, .int h0f9, .ref h3, .ref h4, .ref h5, .ref h6, .ref h7, .ref h8, .ref h9, .int h0f17, .int h0f18, .int h0f19, .ref h10, .ref h11, .ref h12, .ref h13, .int h0f24, .int h0f25, .ref h14, .ref h15, .ref h16, .ref h17, .int h0f30, .int h0f31, .ref h18, .ref h19, .ref h20, .ref h21]), (h5, aJ (k 1) 9 anJ), (h1, aI (k 0) 36 anI)] H → va_S A s.heap H locs → lv_has ls 5 [(0, .ref h0), (2, .int x2), (3, .int y4)] → W p l e Rm_cX11_goes_98b99 s m args below meth c H locs 0 0 Q (F0 m 11 ls []) := by
    intro n
    induction n with
    | zero => intro y4 H locs ls b_y4 hm hT hS hl; exact absurd hm (Nat.not_lt_zero _)
    | succ n ih =>
      intro y4 H locs ls b_y4 hm hT hS hl
      have ih11_5 := ih
      clear ih
      refine lv_iload_n hx hb dX11_goes_11 rfl (lv_at hl 2 rfl) ?_
      refine lv_iconst (v := 3) hx hb dX11_goes_12 (by decide) ?_
      refine lv_icmp_ge (tgt := 79) hx hb dX11_goes_13 (by decide) (fun c_6 => ?_) (fun c_6 => ?_)
      · skip
        have c_6 := ni_le c_6 li_3 rfl
        exact tz_retV (B := B_cX11_goes_98b99 D k h0 h1 h4 h5 h15 h2 h3 h6 h7 h8 h9 h10 h11 h12 h13 h14 h16 h17 h18 h19 h20 h21 x1 x2 h0f0 h0f1 h0f2 h0f3 h0f4 h0f5 h0f8 h0f9 h0f17 h0f18 h0f19 h0f24 h0f25 h0f30 h0f31) hQ hx hb hr hlocks hS (Nat.le_of_ble_eq_true rfl) (Nat.le_of_ble_eq_true rfl) dX11_goes_79 ((hT.sub [2, 4, 0, 3, 1] (by decide) rfl))
      · skip
        have c_6 := ni_nle c_6 li_3 rfl
        refine lv_aload_n hx hb dX11_goes_16 rfl (lv_at hl 0 rfl) ?_
        refine tz_get (ci := 8) (v := .ref h4) (C := RX11) (F := TX11) (N := 36) hx hb hU iX11 hown hK hT 2 rfl rfl 11 (by decide) w796 (fun _ h9 => h9) rfl dX11_goes_17 ?_
        refine lv_iload_n hx hb dX11_goes_20 rfl (lv_at hl 2 rfl) ?_
        refine lv_lconst (v := 0) hx hb dX11_goes_21 (by decide) ?_
        refine tz_last hx hb hK hT hS 0 rfl (by omega) (fun _ _ => trivial) dX11_goes_22 (fun H locs hT hS => ?_)
        refine lv_iconst (v := 0) hx hb dX11_goes_23 (by decide) ?_
        refine lv_istore (lv' := [(4, .int 0), (0, .ref h0), (2, .int x2), (3, .int y4)]) hx hb dX11_goes_24 hl (by decide) rfl (fun ls hl => ?_)
        have lp26_10 : ∀ (n : Nat) (y9 : Int32) (H : Heap) (locs : List Loc) (ls : Array Slot), (0 ≤ y9.toInt ∧ y9.toInt ≤ 3) → (h0f0.toInt + (-1) * y9.toInt + 1).toNat < n → TP D A [(h4, aJ (k 1) 9 anJ), (h15, aJ (k 1) 180 anJ), (h0, ob 8 [.int h0f0, .int h0f1, .int h0f2, .int h0f3, .int h0f4, .int h0f5, .ref h1, .ref h2, .int h0f8, .int h0f9, .ref h3, .ref h4, .ref h5, .ref h6, .ref h7, .ref h8, .ref h9, .int h0f17, .int h0f18, .int h0f19, .ref h10, .ref h11, .ref h12, .ref h13, .int h0f24, .int h0f25, .ref h14, .ref h15, .ref h16, .ref h17, .int h0f30, .int h0f31, .ref h18, .ref h19, .ref h20, .ref h21]), (h5, aJ (k 1) 9 anJ), (h1, aI (k 0) 36 anI)] H → va_S A s.heap H locs → lv_has ls 5 [(0, .ref h0), (2, .int x2), (3, .int y4), (4, .int y9)] → W p l e Rm_cX11_goes_98b99 s m args below meth c H locs 0 0 Q (F0 m 26 ls []) := by
          intro n
          induction n with
          | zero => intro y9 H locs ls b_y9 hm hT hS hl; exact absurd hm (Nat.not_lt_zero _)
          | succ n ih =>
            intro y9 H locs ls b_y9 hm hT hS hl
            have ih26_10 := ih
            clear ih
            refine lv_iload hx hb dX11_goes_26 (lv_at hl 3 rfl) ?_
            refine lv_aload_n hx hb dX11_goes_28 rfl (lv_at hl 0 rfl) ?_
            refine tz_get (ci := 8) (v := .int h0f0) (C := RX11) (F := TX11) (N := 36) hx hb hU iX11 hown hK hT 2 rfl rfl 0 (by decide) w785 (fun _ h9 => h9) rfl dX11_goes_29 ?_
            refine lv_icmp_ge (tgt := 73) hx hb dX11_goes_32 (by decide) (fun c_11 => ?_) (fun c_11 => ?_)
            · skip
              have c_11 := ni_le c_11 rfl rfl
              obtain ⟨v12, e_v12⟩ : ∃ x : Int32, x = y4 + Int32.ofInt 1 := ⟨_, rfl⟩
              have f_v12 := e_v12.symm
              have e_v12 : v12.toInt = y4.toInt + 1 := ai_add e_v12 rfl (show (Int32.ofInt 1).toInt = 1 from (by decide +kernel)) (by omega)
              refine lv_iinc (v := v12) (lv' := [(3, .int v12), (0, .ref h0), (2, .int x2), (4, .int y9)]) hx hb dX11_goes_73 hl (k := 2) rfl f_v12 (by decide) rfl (fun ls hl => ?_)
              refine lv_goto (tgt := 11) hx hb dX11_goes_76 (by decide) ?_
              exact ih11_5 v12 _ _ _ (by omega)  (by omega) hT hS (lv_sub hl [1, 2, 0] rfl)
            · skip
              have c_11 := ni_nle c_11 rfl rfl
              refine lv_aload_n hx hb dX11_goes_35 rfl (lv_at hl 0 rfl) ?_
              refine tz_get (ci := 8) (v := .ref h4) (C := RX11) (F := TX11) (N := 36) hx hb hU iX11 hown hK hT 2 rfl rfl 11 (by decide) w796 (fun _ h9 => h9) rfl dX11_goes_36 ?_
              refine lv_iload_n hx hb dX11_goes_39 rfl (lv_at hl 2 rfl) ?_
              refine lv_dup2_11 hx hb dX11_goes_40 rfl rfl ?_
              refine tz_lald hx hb hK hT 0 rfl (by omega) dX11_goes_41 (fun v13 e_v13 => ?_)
              clear e_v13
              refine lv_aload_n hx hb dX11_goes_42 rfl (lv_at hl 0 rfl) ?_
              refine tz_get (ci := 8) (v := .ref h5) (C := RX11) (F := TX11) (N := 36) hx hb hU iX11 hown hK hT 2 rfl rfl 12 (by decide) w797 (fun _ h9 => h9) rfl dX11_goes_43 ?_
              refine lv_iconst (v := 3) hx hb dX11_goes_46 (by decide) ?_
              refine lv_iload_n hx hb dX11_goes_47 rfl (lv_at hl 2 rfl) ?_
              refine lv_imul hx hb dX11_goes_48 (lv_topi (fun v14 e_v14 => ?_))
              have e_v14 := ai_mul e_v14 li_3 rfl (by omega)
              refine lv_iload hx hb dX11_goes_49 (lv_at hl 3 rfl) ?_
              refine lv_iadd hx hb dX11_goes_51 (lv_topi (fun v15 e_v15 => ?_))
              have e_v15 := ai_add e_v15 rfl rfl (by omega)
              refine tz_lald hx hb hK hT 3 rfl (by omega) dX11_goes_52 (fun v16 e_v16 => ?_)
              clear e_v16
              refine lv_aload_n hx hb dX11_goes_53 rfl (lv_at hl 0 rfl) ?_
              refine tz_get (ci := 8) (v := .ref h15) (C := RX11) (F := TX11) (N := 36) hx hb hU iX11 hown hK hT 2 rfl rfl 27 (by decide) w812 (fun _ h9 => h9) rfl dX11_goes_54 ?_
              refine lv_iconst (v := 3) hx hb dX11_goes_57 (by decide) ?_
              refine lv_iload_n hx hb dX11_goes_58 rfl (lv_at hl 1 rfl) ?_
              refine lv_imul hx hb dX11_goes_59 (lv_topi (fun v17 e_v17 => ?_))
              have e_v17 := ai_mul e_v17 li_3 rfl (by omega)
              refine lv_iload hx hb dX11_goes_60 (lv_at hl 3 rfl) ?_
              refine lv_iadd hx hb dX11_goes_62 (lv_topi (fun v18 e_v18 => ?_))
              have e_v18 := ai_add e_v18 rfl rfl (by omega)
              refine tz_lald hx hb hK hT 1 rfl (by omega) dX11_goes_63 (fun v19 e_v19 => ?_)
              clear e_v19
              refine lv_lmul hx hb dX11_goes_64 (lv_topl (fun v20 e_v20 => ?_))
              refine lv_ladd hx hb dX11_goes_65 (lv_topl (fun v21 e_v21 => ?_))
              refine tz_last hx hb hK hT hS 0 rfl (by omega) (fun _ _ => trivial) dX11_goes_66 (fun H locs hT hS => ?_)
              obtain ⟨v22, e_v22⟩ : ∃ x : Int32, x = y9 + Int32.ofInt 1 := ⟨_, rfl⟩
              have f_v22 := e_v22.symm
              have e_v22 : v22.toInt = y9.toInt + 1 := ai_add e_v22 rfl (show (Int32.ofInt 1).toInt = 1 from (by decide +kernel)) (by omega)
              refine lv_iinc (v := v22) (lv' := [(4, .int v22), (0, .ref h0), (2, .int x2), (3, .int y4)]) hx hb dX11_goes_67 hl (k := 3) rfl f_v22 (by decide) rfl (fun ls hl => ?_)
              refine lv_goto (tgt := 26) hx hb dX11_goes_70 (by decide) ?_
              exact ih26_10 v22 _ _ _ (by omega)  (by omega) hT hS (lv_sub hl [1, 2, 3, 0] rfl)
        exact lp26_10 ((h0f0.toInt + (-1) * (0 : Int32).toInt + 1).toNat + 1) (0) _ _ _ (by have := li_0; omega)  (Nat.lt_succ_self _) hT hS (lv_sub hl [1, 2, 3, 0] rfl)
  exact lp11_5 (((-1) * (0 : Int32).toInt + 3 + 1).toNat + 1) (0) _ _ _ (by have := li_0; omega)  (Nat.lt_succ_self _) hT hS (lv_sub hl [1, 3, 0] rfl)
abbrev Rm_cX11_placeIn_5f14c : Room := { frames := 0, cells := 0, slots := 0, locals := 0 }
abbrev B_cX11_placeIn_5f14c (D : va_G) (k : Nat → ClassId) (h0 h15 h1 h2 h3 h4 h5 h6 h7 h8 h9 h10 h11 h12 h13 h14 h16 h17 h18 h19 h20 h21 : Nat) (x1 : Int64) (x2 : Int64) (x3 : Int64) (h0f0 : Int32) (h0f1 : Int32) (h0f2 : Int32) (h0f3 : Int32) (h0f4 : Int32) (h0f5 : Int32) (h0f8 : Int32) (h0f9 : Int32) (h0f17 : Int32) (h0f18 : Int32) (h0f19 : Int32) (h0f24 : Int32) (h0f25 : Int32) (h0f30 : Int32) (h0f31 : Int32) (A : Nat → Prop) (r : Int32) (H : Heap) : Prop := ((-1) = r ∧ TP D A [(h0, ob 8 [.int h0f0, .int h0f1, .int h0f2, .int h0f3, .int h0f4, .int h0f5, .ref h1, .ref h2, .int h0f8, .int h0f9, .ref h3, .ref h4, .ref h5, .ref h6, .ref h7, .ref h8, .ref h9, .int h0f17, .int h0f18, .int h0f19, .ref h10, .ref h11, .ref h12, .ref h13, .int h0f24, .int h0f25, .ref h14, .ref h15, .ref h16, .ref h17, .int h0f30, .int h0f31, .ref h18, .ref h19, .ref h20, .ref h21]), (h15, aJ (k 1) 180 anJ)] H) ∨ (∃ o0 : Int32, ∃ o1 : Int64, ∃ o2 : Int64, ∃ o3 : Int64, (0 ≤ o0.toInt ∧ o0.toInt ≤ 59) ∧ h0f8.toInt ≤ h0f3.toInt ∧ h0f9.toInt ≤ h0f24.toInt ∧ o0.toInt < h0f30.toInt ∧ o1.toInt = x1.toInt ∧ o2.toInt = x2.toInt ∧ o3.toInt = x3.toInt ∧ o0 = r ∧ TP D A [(h0, ob 8 [.int h0f0, .int h0f1, .int h0f2, .int h0f3, .int h0f4, .int h0f5, .ref h1, .ref h2, .int h0f8, .int h0f9, .ref h3, .ref h4, .ref h5, .ref h6, .ref h7, .ref h8, .ref h9, .int h0f17, .int h0f18, .int h0f19, .ref h10, .ref h11, .ref h12, .ref h13, .int h0f24, .int h0f25, .ref h14, .ref h15, .ref h16, .ref h17, .int h0f30, .int h0f31, .ref h18, .ref h19, .ref h20, .ref h21]), (h15, aJ (k 1) 180 anJ)] H)
set_option maxHeartbeats 4000000 in
set_option maxRecDepth 100000 in
theorem cX11_placeIn_5f14c (l : Launch) (D : va_G) (k : Nat → ClassId) (sz : Nat) (h0 h15 h1 h2 h3 h4 h5 h6 h7 h8 h9 h10 h11 h12 h13 h14 h16 h17 h18 h19 h20 h21 : Nat) (x1 : Int64) (x2 : Int64) (x3 : Int64) (h0f0 : Int32) (h0f1 : Int32) (h0f2 : Int32) (h0f3 : Int32) (h0f4 : Int32) (h0f5 : Int32) (h0f8 : Int32) (h0f9 : Int32) (h0f17 : Int32) (h0f18 : Int32) (h0f19 : Int32) (h0f24 : Int32) (h0f25 : Int32) (h0f30 : Int32) (h0f31 : Int32) (b_h0f0 : 1 ≤ h0f0.toInt ∧ h0f0.toInt ≤ 3) (b_h0f1 : 1 ≤ h0f1.toInt ∧ h0f1.toInt ≤ 4) (b_h0f3 : 0 ≤ h0f3.toInt ∧ h0f3.toInt ≤ 3) (b_h0f4 : 0 ≤ h0f4.toInt ∧ h0f4.toInt ≤ 4) (b_h0f8 : 0 ≤ h0f8.toInt ∧ h0f8.toInt ≤ 1) (b_h0f9 : 0 ≤ h0f9.toInt ∧ h0f9.toInt ≤ 1) (b_h0f17 : 0 ≤ h0f17.toInt ∧ h0f17.toInt ≤ 120) (b_h0f18 : 0 ≤ h0f18.toInt ∧ h0f18.toInt ≤ 120) (b_h0f19 : 0 ≤ h0f19.toInt ∧ h0f19.toInt ≤ 4) (b_h0f24 : 0 ≤ h0f24.toInt ∧ h0f24.toInt ≤ 100) (b_h0f25 : 0 ≤ h0f25.toInt ∧ h0f25.toInt ≤ 1) (b_h0f30 : 1 ≤ h0f30.toInt ∧ h0f30.toInt ≤ 60) (b_h0f31 : 0 ≤ h0f31.toInt ∧ h0f31.toInt ≤ 1) (i_0 : h0f8.toInt ≤ h0f3.toInt) (i_1 : h0f9.toInt ≤ h0f24.toInt) : Met l yX11_placeIn (Cond.code yX11_placeIn cX11_placeIn 8 (some .int) :: uw) Rm_cX11_placeIn_5f14c (pT D k sz [.ref h0, .long x1, .long x2, .long x3] [(h0, ob 8 [.int h0f0, .int h0f1, .int h0f2, .int h0f3, .int h0f4, .int h0f5, .ref h1, .ref h2, .int h0f8, .int h0f9, .ref h3, .ref h4, .ref h5, .ref h6, .ref h7, .ref h8, .ref h9, .int h0f17, .int h0f18, .int h0f19, .ref h10, .ref h11, .ref h12, .ref h13, .int h0f24, .int h0f25, .ref h14, .ref h15, .ref h16, .ref h17, .int h0f30, .int h0f31, .ref h18, .ref h19, .ref h20, .ref h21]), (h15, aJ (k 1) 180 anJ)]) (qI (B_cX11_placeIn_5f14c D k h0 h15 h1 h2 h3 h4 h5 h6 h7 h8 h9 h10 h11 h12 h13 h14 h16 h17 h18 h19 h20 h21 x1 x2 x3 h0f0 h0f1 h0f2 h0f3 h0f4 h0f5 h0f8 h0f9 h0f17 h0f18 h0f19 h0f24 h0f25 h0f30 h0f31 (zA [h0, h15] sz)) (zA [h0, h15] sz)) 0 0 (zA [h0, h15] sz) := by
  refine tz_begin (as := [h0, h15]) (Qc := fun A => qI (B_cX11_placeIn_5f14c D k h0 h15 h1 h2 h3 h4 h5 h6 h7 h8 h9 h10 h11 h12 h13 h14 h16 h17 h18 h19 h20 h21 x1 x2 x3 h0f0 h0f1 h0f2 h0f3 h0f4 h0f5 h0f8 h0f9 h0f17 h0f18 h0f19 h0f24 h0f25 h0f30 h0f31 A) A) (by decide +kernel) rfl (Nat.le_of_ble_eq_true rfl) ?_
  intro p e s m args below meth c ls A Q hx hb hr hml hown hlocks hin hU hK hT hS hA hl hQ
  have hl : lv_has ls 8 [(0, .ref h0), (1, .long x1), (3, .long x2), (5, .long x3)] := hl
  have hT : TP D A [(h0, ob 8 [.int h0f0, .int h0f1, .int h0f2, .int h0f3, .int h0f4, .int h0f5, .ref h1, .ref h2, .int h0f8, .int h0f9, .ref h3, .ref h4, .ref h5, .ref h6, .ref h7, .ref h8, .ref h9, .int h0f17, .int h0f18, .int h0f19, .ref h10, .ref h11, .ref h12, .ref h13, .int h0f24, .int h0f25, .ref h14, .ref h15, .ref h16, .ref h17, .int h0f30, .int h0f31, .ref h18, .ref h19, .ref h20, .ref h21]), (h15, aJ (k 1) 180 anJ)] s.heap := hT
  refine lv_iconst (v := 0) hx hb dX11_placeIn_0 (by decide) ?_
  refine lv_istore (lv' := [(7, .int 0), (0, .ref h0), (1, .long x1), (3, .long x2), (5, .long x3)]) hx hb dX11_placeIn_1 hl (by decide) rfl (fun ls hl => ?_)
  have lp3_12 : ∀ (n : Nat) (y11 : Int32) (H : Heap) (locs : List Loc) (ls : Array Slot), (0 ≤ y11.toInt ∧ y11.toInt ≤ 60) → (h0f30.toInt + (-1) * y11.toInt + 1).toNat < n → TP D A [(h0, ob 8 [.int h0f0, .int h0f1, .int h0f2, .int h0f3, .int h0f4, .int h0f5, .ref h1, .ref h2, .int h0f8, .int h0f9, .ref h3, .ref h4, .ref h5, .ref h6, .ref h7, .ref h8, .ref h9, .int h0f17, .int h0f18, .int h0f19, .ref h10, .ref h11, .ref h12, .ref h13, .int h0f24, .int h0f25, .ref h14, .ref h15, .ref h16, .ref h17, .int h0f30, .int h0f31, .ref h18, .ref h19, .ref h20, .ref h21]), (h15, aJ (k 1) 180 anJ)] H → va_S A s.heap H locs → lv_has ls 8 [(0, .ref h0), (1, .long x1), (3, .long x2), (5, .long x3), (7, .int y11)] → W p l e Rm_cX11_placeIn_5f14c s m args below meth c H locs 0 0 Q (F0 m 3 ls []) := by
    intro n
    induction n with
    | zero => intro y11 H locs ls b_y11 hm hT hS hl; exact absurd hm (Nat.not_lt_zero _)
    | succ n ih =>
      intro y11 H locs ls b_y11 hm hT hS hl
      have ih3_12 := ih
      clear ih
      refine lv_iload hx hb dX11_placeIn_3 (lv_at hl 4 rfl) ?_
      refine lv_aload_n hx hb dX11_placeIn_5 rfl (lv_at hl 0 rfl) ?_
      refine tz_get (ci := 8) (v := .int h0f30) (C := RX11) (F := TX11) (N := 36) hx hb hU iX11 hown hK hT 0 rfl rfl 30 (by decide) w815 (fun _ h9 => h9) rfl dX11_placeIn_6 ?_
      refine lv_icmp_ge (tgt := 68) hx hb dX11_placeIn_9 (by decide) (fun c_13 => ?_) (fun c_13 => ?_)
      · skip
        have c_13 := ni_le c_13 rfl rfl
        refine lv_iconst (v := (-1)) hx hb dX11_placeIn_68 (by decide) ?_
        exact tz_retI (B := B_cX11_placeIn_5f14c D k h0 h15 h1 h2 h3 h4 h5 h6 h7 h8 h9 h10 h11 h12 h13 h14 h16 h17 h18 h19 h20 h21 x1 x2 x3 h0f0 h0f1 h0f2 h0f3 h0f4 h0f5 h0f8 h0f9 h0f17 h0f18 h0f19 h0f24 h0f25 h0f30 h0f31) (v := (-1)) hQ hx hb hr hlocks hS (Nat.le_of_ble_eq_true rfl) (Nat.le_of_ble_eq_true rfl) dX11_placeIn_69 (Or.inl ⟨rfl, hT⟩)
      · skip
        have c_13 := ni_nle c_13 rfl rfl
        refine lv_aload_n hx hb dX11_placeIn_12 rfl (lv_at hl 0 rfl) ?_
        refine tz_get (ci := 8) (v := .ref h15) (C := RX11) (F := TX11) (N := 36) hx hb hU iX11 hown hK hT 0 rfl rfl 27 (by decide) w812 (fun _ h9 => h9) rfl dX11_placeIn_13 ?_
        refine lv_iconst (v := 3) hx hb dX11_placeIn_16 (by decide) ?_
        refine lv_iload hx hb dX11_placeIn_17 (lv_at hl 4 rfl) ?_
        refine lv_imul hx hb dX11_placeIn_19 (lv_topi (fun v14 e_v14 => ?_))
        have e_v14 := ai_mul e_v14 li_3 rfl (by omega)
        refine tz_lald hx hb hK hT 1 rfl (by omega) dX11_placeIn_20 (fun v15 e_v15 => ?_)
        clear e_v15
        refine lv_lload_n hx hb dX11_placeIn_21 rfl (lv_at hl 1 rfl) ?_
        refine W.lcmp hx hb dX11_placeIn_22 ?_
        refine lv_if_ne (tgt := 62) hx hb dX11_placeIn_23 (by decide) (fun c_16 => ?_) (fun c_16 => ?_)
        · skip
          have c_16 := nl_ne c_16 rfl rfl
          obtain ⟨v17, e_v17⟩ : ∃ x : Int32, x = y11 + Int32.ofInt 1 := ⟨_, rfl⟩
          have f_v17 := e_v17.symm
          have e_v17 : v17.toInt = y11.toInt + 1 := ai_add e_v17 rfl (show (Int32.ofInt 1).toInt = 1 from (by decide +kernel)) (by omega)
          refine lv_iinc (v := v17) (lv' := [(7, .int v17), (0, .ref h0), (1, .long x1), (3, .long x2), (5, .long x3)]) hx hb dX11_placeIn_62 hl (k := 4) rfl f_v17 (by decide) rfl (fun ls hl => ?_)
          refine lv_goto (tgt := 3) hx hb dX11_placeIn_65 (by decide) ?_
          exact ih3_12 v17 _ _ _ (by omega)  (by omega) hT hS (lv_sub hl [1, 2, 3, 4, 0] rfl)
        · skip
          have c_16 := nl_eq c_16 rfl rfl
          refine lv_aload_n hx hb dX11_placeIn_26 rfl (lv_at hl 0 rfl) ?_
          refine tz_get (ci := 8) (v := .ref h15) (C := RX11) (F := TX11) (N := 36) hx hb hU iX11 hown hK hT 0 rfl rfl 27 (by decide) w812 (fun _ h9 => h9) rfl dX11_placeIn_27 ?_
          refine lv_iconst (v := 3) hx hb dX11_placeIn_30 (by decide) ?_
          refine lv_iload hx hb dX11_placeIn_31 (lv_at hl 4 rfl) ?_
          refine lv_imul hx hb dX11_placeIn_33 (lv_topi (fun v18 e_v18 => ?_))
          have e_v18 := ai_mul e_v18 li_3 rfl (by omega)
          refine lv_iconst (v := 1) hx hb dX11_placeIn_34 (by decide) ?_
          refine lv_iadd hx hb dX11_placeIn_35 (lv_topi (fun v19 e_v19 => ?_))
          have e_v19 := ai_add e_v19 rfl li_1 (by omega)
          refine tz_lald hx hb hK hT 1 rfl (by omega) dX11_placeIn_36 (fun v20 e_v20 => ?_)
          clear e_v20
          refine lv_lload_n hx hb dX11_placeIn_37 rfl (lv_at hl 2 rfl) ?_
          refine W.lcmp hx hb dX11_placeIn_38 ?_
          refine lv_if_ne (tgt := 62) hx hb dX11_placeIn_39 (by decide) (fun c_21 => ?_) (fun c_21 => ?_)
          · skip
            have c_21 := nl_ne c_21 rfl rfl
            obtain ⟨v22, e_v22⟩ : ∃ x : Int32, x = y11 + Int32.ofInt 1 := ⟨_, rfl⟩
            have f_v22 := e_v22.symm
            have e_v22 : v22.toInt = y11.toInt + 1 := ai_add e_v22 rfl (show (Int32.ofInt 1).toInt = 1 from (by decide +kernel)) (by omega)
            refine lv_iinc (v := v22) (lv' := [(7, .int v22), (0, .ref h0), (1, .long x1), (3, .long x2), (5, .long x3)]) hx hb dX11_placeIn_62 hl (k := 4) rfl f_v22 (by decide) rfl (fun ls hl => ?_)
            refine lv_goto (tgt := 3) hx hb dX11_placeIn_65 (by decide) ?_
            exact ih3_12 v22 _ _ _ (by omega)  (by omega) hT hS (lv_sub hl [1, 2, 3, 4, 0] rfl)
          · skip
            have c_21 := nl_eq c_21 rfl rfl
            refine lv_aload_n hx hb dX11_placeIn_42 rfl (lv_at hl 0 rfl) ?_
            refine tz_get (ci := 8) (v := .ref h15) (C := RX11) (F := TX11) (N := 36) hx hb hU iX11 hown hK hT 0 rfl rfl 27 (by decide) w812 (fun _ h9 => h9) rfl dX11_placeIn_43 ?_
            refine lv_iconst (v := 3) hx hb dX11_placeIn_46 (by decide) ?_
            refine lv_iload hx hb dX11_placeIn_47 (lv_at hl 4 rfl) ?_
            refine lv_imul hx hb dX11_placeIn_49 (lv_topi (fun v23 e_v23 => ?_))
            have e_v23 := ai_mul e_v23 li_3 rfl (by omega)
            refine lv_iconst (v := 2) hx hb dX11_placeIn_50 (by decide) ?_
            refine lv_iadd hx hb dX11_placeIn_51 (lv_topi (fun v24 e_v24 => ?_))
            have e_v24 := ai_add e_v24 rfl li_2 (by omega)
            refine tz_lald hx hb hK hT 1 rfl (by omega) dX11_placeIn_52 (fun v25 e_v25 => ?_)
            clear e_v25
            refine lv_lload hx hb dX11_placeIn_53 (lv_at hl 3 rfl) ?_
            refine W.lcmp hx hb dX11_placeIn_55 ?_
            refine lv_if_ne (tgt := 62) hx hb dX11_placeIn_56 (by decide) (fun c_26 => ?_) (fun c_26 => ?_)
            · skip
              have c_26 := nl_ne c_26 rfl rfl
              obtain ⟨v27, e_v27⟩ : ∃ x : Int32, x = y11 + Int32.ofInt 1 := ⟨_, rfl⟩
              have f_v27 := e_v27.symm
              have e_v27 : v27.toInt = y11.toInt + 1 := ai_add e_v27 rfl (show (Int32.ofInt 1).toInt = 1 from (by decide +kernel)) (by omega)
              refine lv_iinc (v := v27) (lv' := [(7, .int v27), (0, .ref h0), (1, .long x1), (3, .long x2), (5, .long x3)]) hx hb dX11_placeIn_62 hl (k := 4) rfl f_v27 (by decide) rfl (fun ls hl => ?_)
              refine lv_goto (tgt := 3) hx hb dX11_placeIn_65 (by decide) ?_
              exact ih3_12 v27 _ _ _ (by omega)  (by omega) hT hS (lv_sub hl [1, 2, 3, 4, 0] rfl)
            · skip
              have c_26 := nl_eq c_26 rfl rfl
              refine lv_iload hx hb dX11_placeIn_59 (lv_at hl 4 rfl) ?_
              exact tz_retI (B := B_cX11_placeIn_5f14c D k h0 h15 h1 h2 h3 h4 h5 h6 h7 h8 h9 h10 h11 h12 h13 h14 h16 h17 h18 h19 h20 h21 x1 x2 x3 h0f0 h0f1 h0f2 h0f3 h0f4 h0f5 h0f8 h0f9 h0f17 h0f18 h0f19 h0f24 h0f25 h0f30 h0f31) (v := y11) hQ hx hb hr hlocks hS (Nat.le_of_ble_eq_true rfl) (Nat.le_of_ble_eq_true rfl) dX11_placeIn_61 (Or.inr (⟨y11, v15, v20, v25, (by omega), (by omega), (by omega), (by omega), (by omega), (by omega), (by omega), rfl, hT⟩))
  exact lp3_12 ((h0f30.toInt + (-1) * (0 : Int32).toInt + 1).toNat + 1) (0) _ _ _ (by have := li_0; omega)  (Nat.lt_succ_self _) hT hS (lv_sub hl [1, 2, 3, 4, 0] rfl)
abbrev Rm_cX11_goes_2c708 : Room := { frames := 1, cells := 0, slots := 0, locals := 23 }
abbrev B_cX11_goes_2c708 (D : va_G) (k : Nat → ClassId) (h0 h1 h4 h5 h15 h2 h3 h6 h7 h8 h9 h10 h11 h12 h13 h14 h16 h17 h18 h19 h20 h21 : Nat) (x1 : Int32) (x2 : Int32) (h0f0 : Int32) (h0f1 : Int32) (h0f2 : Int32) (h0f3 : Int32) (h0f4 : Int32) (h0f5 : Int32) (h0f8 : Int32) (h0f9 : Int32) (h0f17 : Int32) (h0f18 : Int32) (h0f19 : Int32) (h0f24 : Int32) (h0f25 : Int32) (h0f30 : Int32) (h0f31 : Int32) (A : Nat → Prop) (H : Heap) : Prop := TP D A [(h0, ob 8 [.int h0f0, .int h0f1, .int h0f2, .int h0f3, .int h0f4, .int h0f5, .ref h1, .ref h2, .int h0f8, .int h0f9, .ref h3, .ref h4, .ref h5, .ref h6, .ref h7, .ref h8, .ref h9, .int h0f17, .int h0f18, .int h0f19, .ref h10, .ref h11, .ref h12, .ref h13, .int h0f24, .int h0f25, .ref h14, .ref h15, .ref h16, .ref h17, .int h0f30, .int h0f31, .ref h18, .ref h19, .ref h20, .ref h21]), (h1, aI (k 0) 36 anI), (h4, aJ (k 1) 9 anJ), (h5, aJ (k 1) 9 anJ), (h15, aJ (k 1) 180 anJ)] H
set_option maxHeartbeats 4000000 in
set_option maxRecDepth 100000 in
theorem cX11_goes_2c708 (l : Launch) (D : va_G) (k : Nat → ClassId) (sz : Nat) (h0 h1 h4 h5 h15 h2 h3 h6 h7 h8 h9 h10 h11 h12 h13 h14 h16 h17 h18 h19 h20 h21 : Nat) (x1 : Int32) (x2 : Int32) (h0f0 : Int32) (h0f1 : Int32) (h0f2 : Int32) (h0f3 : Int32) (h0f4 : Int32) (h0f5 : Int32) (h0f8 : Int32) (h0f9 : Int32) (h0f17 : Int32) (h0f18 : Int32) (h0f19 : Int32) (h0f24 : Int32) (h0f25 : Int32) (h0f30 : Int32) (h0f31 : Int32) (b_x1 : 0 ≤ x1.toInt ∧ x1.toInt ≤ 3) (b_x2 : 0 ≤ x2.toInt ∧ x2.toInt ≤ 59) (b_h0f0 : 1 ≤ h0f0.toInt ∧ h0f0.toInt ≤ 3) (b_h0f1 : 1 ≤ h0f1.toInt ∧ h0f1.toInt ≤ 4) (b_h0f3 : 0 ≤ h0f3.toInt ∧ h0f3.toInt ≤ 3) (b_h0f4 : 0 ≤ h0f4.toInt ∧ h0f4.toInt ≤ 4) (b_h0f8 : 0 ≤ h0f8.toInt ∧ h0f8.toInt ≤ 1) (b_h0f9 : 0 ≤ h0f9.toInt ∧ h0f9.toInt ≤ 1) (b_h0f17 : 0 ≤ h0f17.toInt ∧ h0f17.toInt ≤ 120) (b_h0f18 : 0 ≤ h0f18.toInt ∧ h0f18.toInt ≤ 120) (b_h0f19 : 0 ≤ h0f19.toInt ∧ h0f19.toInt ≤ 4) (b_h0f24 : 0 ≤ h0f24.toInt ∧ h0f24.toInt ≤ 100) (b_h0f25 : 0 ≤ h0f25.toInt ∧ h0f25.toInt ≤ 1) (b_h0f30 : 1 ≤ h0f30.toInt ∧ h0f30.toInt ≤ 59) (b_h0f31 : 0 ≤ h0f31.toInt ∧ h0f31.toInt ≤ 1) (i_0 : h0f8.toInt ≤ h0f3.toInt) (i_1 : h0f9.toInt ≤ h0f24.toInt) : Met l yX11_goes (Cond.code yX11_goes cX11_goes 5 none :: uw) Rm_cX11_goes_2c708 (pT D k sz [.ref h0, .int x1, .int x2] [(h0, ob 8 [.int h0f0, .int h0f1, .int h0f2, .int h0f3, .int h0f4, .int h0f5, .ref h1, .ref h2, .int h0f8, .int h0f9, .ref h3, .ref h4, .ref h5, .ref h6, .ref h7, .ref h8, .ref h9, .int h0f17, .int h0f18, .int h0f19, .ref h10, .ref h11, .ref h12, .ref h13, .int h0f24, .int h0f25, .ref h14, .ref h15, .ref h16, .ref h17, .int h0f30, .int h0f31, .ref h18, .ref h19, .ref h20, .ref h21]), (h1, aI (k 0) 36 anI), (h4, aJ (k 1) 9 anJ), (h5, aJ (k 1) 9 anJ), (h15, aJ (k 1) 180 anJ)]) (qV (B_cX11_goes_2c708 D k h0 h1 h4 h5 h15 h2 h3 h6 h7 h8 h9 h10 h11 h12 h13 h14 h16 h17 h18 h19 h20 h21 x1 x2 h0f0 h0f1 h0f2 h0f3 h0f4 h0f5 h0f8 h0f9 h0f17 h0f18 h0f19 h0f24 h0f25 h0f30 h0f31 (zA [h0, h1, h4, h5, h15] sz)) (zA [h0, h1, h4, h5, h15] sz)) 0 0 (zA [h0, h1, h4, h5, h15] sz) := by
  refine tz_begin (as := [h0, h1, h4, h5, h15]) (Qc := fun A => qV (B_cX11_goes_2c708 D k h0 h1 h4 h5 h15 h2 h3 h6 h7 h8 h9 h10 h11 h12 h13 h14 h16 h17 h18 h19 h20 h21 x1 x2 h0f0 h0f1 h0f2 h0f3 h0f4 h0f5 h0f8 h0f9 h0f17 h0f18 h0f19 h0f24 h0f25 h0f30 h0f31 A) A) (by decide +kernel) rfl (Nat.le_of_ble_eq_true rfl) ?_
  intro p e s m args below meth c ls A Q hx hb hr hml hown hlocks hin hU hK hT hS hA hl hQ
  have hl : lv_has ls 5 [(0, .ref h0), (1, .int x1), (2, .int x2)] := hl
  have hT : TP D A [(h0, ob 8 [.int h0f0, .int h0f1, .int h0f2, .int h0f3, .int h0f4, .int h0f5, .ref h1, .ref h2, .int h0f8, .int h0f9, .ref h3, .ref h4, .ref h5, .ref h6, .ref h7, .ref h8, .ref h9, .int h0f17, .int h0f18, .int h0f19, .ref h10, .ref h11, .ref h12, .ref h13, .int h0f24, .int h0f25, .ref h14, .ref h15, .ref h16, .ref h17, .int h0f30, .int h0f31, .ref h18, .ref h19, .ref h20, .ref h21]), (h1, aI (k 0) 36 anI), (h4, aJ (k 1) 9 anJ), (h5, aJ (k 1) 9 anJ), (h15, aJ (k 1) 180 anJ)] s.heap := hT
  refine lv_aload_n hx hb dX11_goes_0 rfl (lv_at hl 0 rfl) ?_
  refine lv_iload_n hx hb dX11_goes_1 rfl (lv_at hl 1 rfl) ?_
  refine lv_aload_n hx hb dX11_goes_2 rfl (lv_at hl 0 rfl) ?_
  refine tz_get (ci := 8) (v := .ref h5) (C := RX11) (F := TX11) (N := 36) hx hb hU iX11 hown hK hT 0 rfl rfl 12 (by decide) w797 (fun _ h9 => h9) rfl dX11_goes_3 ?_
  refine tcV (Tc := [(h0, ob 8 [.int h0f0, .int h0f1, .int h0f2, .int h0f3, .int h0f4, .int h0f5, .ref h1, .ref h2, .int h0f8, .int h0f9, .ref h3, .ref h4, .ref h5, .ref h6, .ref h7, .ref h8, .ref h9, .int h0f17, .int h0f18, .int h0f19, .ref h10, .ref h11, .ref h12, .ref h13, .int h0f24, .int h0f25, .ref h14, .ref h15, .ref h16, .ref h17, .int h0f30, .int h0f31, .ref h18, .ref h19, .ref h20, .ref h21]), (h5, aJ (k 1) 9 anJ), (h1, aI (k 0) 36 anI)]) (Tr := [(h4, aJ (k 1) 9 anJ), (h15, aJ (k 1) 180 anJ)]) (as := [h0, h5, h1]) (zcV (q0 := 0) (ci := 8) (As := [.int x1, .ref h5]) (rest := []) (Tc := [(h0, ob 8 [.int h0f0, .int h0f1, .int h0f2, .int h0f3, .int h0f4, .int h0f5, .ref h1, .ref h2, .int h0f8, .int h0f9, .ref h3, .ref h4, .ref h5, .ref h6, .ref h7, .ref h8, .ref h9, .int h0f17, .int h0f18, .int h0f19, .ref h10, .ref h11, .ref h12, .ref h13, .int h0f24, .int h0f25, .ref h14, .ref h15, .ref h16, .ref h17, .int h0f30, .int h0f31, .ref h18, .ref h19, .ref h20, .ref h21]), (h5, aJ (k 1) 9 anJ), (h1, aI (k 0) 36 anI)]) hx hb hml hown hU hK hT rfl rfl [0, 3, 1] rfl (by decide) (cX11_takes_479bd l D k _ h0 h5 h1 h2 h3 h4 h6 h7 h8 h9 h10 h11 h12 h13 h14 h15 h16 h17 h18 h19 h20 h21 x1 h0f0 h0f1 h0f2 h0f3 h0f4 h0f5 h0f8 h0f9 h0f17 h0f18 h0f19 h0f24 h0f25 h0f30 h0f31 (by omega) (by omega) (by omega) (by omega) (by omega) (by omega) (by omega) (by omega) (by omega) (by omega) (by omega) (by omega) (by omega) (by omega) (by omega) (by omega)) w939 w936 w938 w32 w72 hdX11_takes ⟨rfl, rfl⟩ ⟨Nat.le_of_ble_eq_true rfl, Nat.le_of_ble_eq_true rfl⟩ rfl hl.1 (Nat.le_of_ble_eq_true rfl) dX11_goes_6 ⟨Nat.le_of_ble_eq_true rfl, Nat.le_of_ble_eq_true rfl⟩) hT hS hA [0, 3, 1] [2, 4] rfl rfl rfl (by decide) (by decide) (fun H locs hB J hS => ?_)
  have hT1 := hB
  have hT := J _ hT1
  have hT : TP D A [(h4, aJ (k 1) 9 anJ), (h15, aJ (k 1) 180 anJ), (h0, ob 8 [.int h0f0, .int h0f1, .int h0f2, .int h0f3, .int h0f4, .int h0f5, .ref h1, .ref h2, .int h0f8, .int h0f9, .ref h3, .ref h4, .ref h5, .ref h6, .ref h7, .ref h8, .ref h9, .int h0f17, .int h0f18, .int h0f19, .ref h10, .ref h11, .ref h12, .ref h13, .int h0f24, .int h0f25, .ref h14, .ref h15, .ref h16, .ref h17, .int h0f30, .int h0f31, .ref h18, .ref h19, .ref h20, .ref h21]), (h5, aJ (k 1) 9 anJ), (h1, aI (k 0) 36 anI)] _ := hT
  refine lv_iconst (v := 0) hx hb dX11_goes_9 (by decide) ?_
  refine lv_istore_n (lv' := [(3, .int 0), (0, .ref h0), (1, .int x1), (2, .int x2)]) hx hb dX11_goes_10 rfl hl (by decide) rfl (fun ls hl => ?_)
  have lp11_5 : ∀ (n : Nat) (y4 : Int32) (H : Heap) (locs : List Loc) (ls : Array Slot), (0 ≤ y4.toInt ∧ y4.toInt ≤ 3) → ((-1) * y4.toInt + 3 + 1).toNat < n → TP D A [(h4, aJ (k 1) 9 anJ), (h15, aJ (k 1) 180 anJ), (h0, ob 8 [.int h0f0, .int h0f1, .int h0f2, .int h0f3, .int h0f4, .int h0f5, .ref h1, .ref h2, .int h0f8, .int h0f9, .ref h3, .ref h4, .ref h5, .ref h6, .ref h7, .ref h8, .ref h9, .int h0f17, .int h0f18, .int h0f19, .ref h10, .ref h11, .ref h12, .ref h13, .int h0f24, .int h0f25, .ref h14, .ref h15, .ref h16, .ref h17, .int h0f30, .int h0f31, .ref h18, .ref h19, .ref h20, .ref h21]), (h5, aJ (k 1) 9 anJ), (h1, aI (k 0) 36 anI)] H → va_S A s.heap H locs → lv_has ls 5 [(0, .ref h0), (2, .int x2), (3, .int y4)] → W p l e Rm_cX11_goes_2c708 s m args below meth c H locs 0 0 Q (F0 m 11 ls []) := by
    intro n
    induction n with
    | zero => intro y4 H locs ls b_y4 hm hT hS hl; exact absurd hm (Nat.not_lt_zero _)
    | succ n ih =>
      intro y4 H locs ls b_y4 hm hT hS hl
      have ih11_5 := ih
      clear ih
      refine lv_iload_n hx hb dX11_goes_11 rfl (lv_at hl 2 rfl) ?_
      refine lv_iconst (v := 3) hx hb dX11_goes_12 (by decide) ?_
      refine lv_icmp_ge (tgt := 79) hx hb dX11_goes_13 (by decide) (fun c_6 => ?_) (fun c_6 => ?_)
      · skip
        have c_6 := ni_le c_6 li_3 rfl
        exact tz_retV (B := B_cX11_goes_2c708 D k h0 h1 h4 h5 h15 h2 h3 h6 h7 h8 h9 h10 h11 h12 h13 h14 h16 h17 h18 h19 h20 h21 x1 x2 h0f0 h0f1 h0f2 h0f3 h0f4 h0f5 h0f8 h0f9 h0f17 h0f18 h0f19 h0f24 h0f25 h0f30 h0f31) hQ hx hb hr hlocks hS (Nat.le_of_ble_eq_true rfl) (Nat.le_of_ble_eq_true rfl) dX11_goes_79 ((hT.sub [2, 4, 0, 3, 1] (by decide) rfl))
      · skip
        have c_6 := ni_nle c_6 li_3 rfl
        refine lv_aload_n hx hb dX11_goes_16 rfl (lv_at hl 0 rfl) ?_
        refine tz_get (ci := 8) (v := .ref h4) (C := RX11) (F := TX11) (N := 36) hx hb hU iX11 hown hK hT 2 rfl rfl 11 (by decide) w796 (fun _ h9 => h9) rfl dX11_goes_17 ?_
        refine lv_iload_n hx hb dX11_goes_20 rfl (lv_at hl 2 rfl) ?_
        refine lv_lconst (v := 0) hx hb dX11_goes_21 (by decide) ?_
        refine tz_last hx hb hK hT hS 0 rfl (by omega) (fun _ _ => trivial) dX11_goes_22 (fun H locs hT hS => ?_)
        refine lv_iconst (v := 0) hx hb dX11_goes_23 (by decide) ?_
        refine lv_istore (lv' := [(4, .int 0), (0, .ref h0), (2, .int x2), (3, .int y4)]) hx hb dX11_goes_24 hl (by decide) rfl (fun ls hl => ?_)
        have lp26_10 : ∀ (n : Nat) (y9 : Int32) (H : Heap) (locs : List Loc) (ls : Array Slot), (0 ≤ y9.toInt ∧ y9.toInt ≤ 3) → (h0f0.toInt + (-1) * y9.toInt + 1).toNat < n → TP D A [(h4, aJ (k 1) 9 anJ), (h15, aJ (k 1) 180 anJ), (h0, ob 8 [.int h0f0, .int h0f1, .int h0f2, .int h0f3, .int h0f4, .int h0f5, .ref h1, .ref h2, .int h0f8, .int h0f9, .ref h3, .ref h4, .ref h5, .ref h6, .ref h7, .ref h8, .ref h9, .int h0f17, .int h0f18, .int h0f19, .ref h10, .ref h11, .ref h12, .ref h13, .int h0f24, .int h0f25, .ref h14, .ref h15, .ref h16, .ref h17, .int h0f30, .int h0f31, .ref h18, .ref h19, .ref h20, .ref h21]), (h5, aJ (k 1) 9 anJ), (h1, aI (k 0) 36 anI)] H → va_S A s.heap H locs → lv_has ls 5 [(0, .ref h0), (2, .int x2), (3, .int y4), (4, .int y9)] → W p l e Rm_cX11_goes_2c708 s m args below meth c H locs 0 0 Q (F0 m 26 ls []) := by
          intro n
          induction n with
          | zero => intro y9 H locs ls b_y9 hm hT hS hl; exact absurd hm (Nat.not_lt_zero _)
          | succ n ih =>
            intro y9 H locs ls b_y9 hm hT hS hl
            have ih26_10 := ih
            clear ih
            refine lv_iload hx hb dX11_goes_26 (lv_at hl 3 rfl) ?_
            refine lv_aload_n hx hb dX11_goes_28 rfl (lv_at hl 0 rfl) ?_
            refine tz_get (ci := 8) (v := .int h0f0) (C := RX11) (F := TX11) (N := 36) hx hb hU iX11 hown hK hT 2 rfl rfl 0 (by decide) w785 (fun _ h9 => h9) rfl dX11_goes_29 ?_
            refine lv_icmp_ge (tgt := 73) hx hb dX11_goes_32 (by decide) (fun c_11 => ?_) (fun c_11 => ?_)
            · skip
              have c_11 := ni_le c_11 rfl rfl
              obtain ⟨v12, e_v12⟩ : ∃ x : Int32, x = y4 + Int32.ofInt 1 := ⟨_, rfl⟩
              have f_v12 := e_v12.symm
              have e_v12 : v12.toInt = y4.toInt + 1 := ai_add e_v12 rfl (show (Int32.ofInt 1).toInt = 1 from (by decide +kernel)) (by omega)
              refine lv_iinc (v := v12) (lv' := [(3, .int v12), (0, .ref h0), (2, .int x2), (4, .int y9)]) hx hb dX11_goes_73 hl (k := 2) rfl f_v12 (by decide) rfl (fun ls hl => ?_)
              refine lv_goto (tgt := 11) hx hb dX11_goes_76 (by decide) ?_
              exact ih11_5 v12 _ _ _ (by omega)  (by omega) hT hS (lv_sub hl [1, 2, 0] rfl)
            · skip
              have c_11 := ni_nle c_11 rfl rfl
              refine lv_aload_n hx hb dX11_goes_35 rfl (lv_at hl 0 rfl) ?_
              refine tz_get (ci := 8) (v := .ref h4) (C := RX11) (F := TX11) (N := 36) hx hb hU iX11 hown hK hT 2 rfl rfl 11 (by decide) w796 (fun _ h9 => h9) rfl dX11_goes_36 ?_
              refine lv_iload_n hx hb dX11_goes_39 rfl (lv_at hl 2 rfl) ?_
              refine lv_dup2_11 hx hb dX11_goes_40 rfl rfl ?_
              refine tz_lald hx hb hK hT 0 rfl (by omega) dX11_goes_41 (fun v13 e_v13 => ?_)
              clear e_v13
              refine lv_aload_n hx hb dX11_goes_42 rfl (lv_at hl 0 rfl) ?_
              refine tz_get (ci := 8) (v := .ref h5) (C := RX11) (F := TX11) (N := 36) hx hb hU iX11 hown hK hT 2 rfl rfl 12 (by decide) w797 (fun _ h9 => h9) rfl dX11_goes_43 ?_
              refine lv_iconst (v := 3) hx hb dX11_goes_46 (by decide) ?_
              refine lv_iload_n hx hb dX11_goes_47 rfl (lv_at hl 2 rfl) ?_
              refine lv_imul hx hb dX11_goes_48 (lv_topi (fun v14 e_v14 => ?_))
              have e_v14 := ai_mul e_v14 li_3 rfl (by omega)
              refine lv_iload hx hb dX11_goes_49 (lv_at hl 3 rfl) ?_
              refine lv_iadd hx hb dX11_goes_51 (lv_topi (fun v15 e_v15 => ?_))
              have e_v15 := ai_add e_v15 rfl rfl (by omega)
              refine tz_lald hx hb hK hT 3 rfl (by omega) dX11_goes_52 (fun v16 e_v16 => ?_)
              clear e_v16
              refine lv_aload_n hx hb dX11_goes_53 rfl (lv_at hl 0 rfl) ?_
              refine tz_get (ci := 8) (v := .ref h15) (C := RX11) (F := TX11) (N := 36) hx hb hU iX11 hown hK hT 2 rfl rfl 27 (by decide) w812 (fun _ h9 => h9) rfl dX11_goes_54 ?_
              refine lv_iconst (v := 3) hx hb dX11_goes_57 (by decide) ?_
              refine lv_iload_n hx hb dX11_goes_58 rfl (lv_at hl 1 rfl) ?_
              refine lv_imul hx hb dX11_goes_59 (lv_topi (fun v17 e_v17 => ?_))
              have e_v17 := ai_mul e_v17 li_3 rfl (by omega)
              refine lv_iload hx hb dX11_goes_60 (lv_at hl 3 rfl) ?_
              refine lv_iadd hx hb dX11_goes_62 (lv_topi (fun v18 e_v18 => ?_))
              have e_v18 := ai_add e_v18 rfl rfl (by omega)
              refine tz_lald hx hb hK hT 1 rfl (by omega) dX11_goes_63 (fun v19 e_v19 => ?_)
              clear e_v19
              refine lv_lmul hx hb dX11_goes_64 (lv_topl (fun v20 e_v20 => ?_))
              refine lv_ladd hx hb dX11_goes_65 (lv_topl (fun v21 e_v21 => ?_))
              refine tz_last hx hb hK hT hS 0 rfl (by omega) (fun _ _ => trivial) dX11_goes_66 (fun H locs hT hS => ?_)
              obtain ⟨v22, e_v22⟩ : ∃ x : Int32, x = y9 + Int32.ofInt 1 := ⟨_, rfl⟩
              have f_v22 := e_v22.symm
              have e_v22 : v22.toInt = y9.toInt + 1 := ai_add e_v22 rfl (show (Int32.ofInt 1).toInt = 1 from (by decide +kernel)) (by omega)
              refine lv_iinc (v := v22) (lv' := [(4, .int v22), (0, .ref h0), (2, .int x2), (3, .int y4)]) hx hb dX11_goes_67 hl (k := 3) rfl f_v22 (by decide) rfl (fun ls hl => ?_)
              refine lv_goto (tgt := 26) hx hb dX11_goes_70 (by decide) ?_
              exact ih26_10 v22 _ _ _ (by omega)  (by omega) hT hS (lv_sub hl [1, 2, 3, 0] rfl)
        exact lp26_10 ((h0f0.toInt + (-1) * (0 : Int32).toInt + 1).toNat + 1) (0) _ _ _ (by have := li_0; omega)  (Nat.lt_succ_self _) hT hS (lv_sub hl [1, 2, 3, 0] rfl)
  exact lp11_5 (((-1) * (0 : Int32).toInt + 3 + 1).toNat + 1) (0) _ _ _ (by have := li_0; omega)  (Nat.lt_succ_self _) hT hS (lv_sub hl [1, 3, 0] rfl)
abbrev Rm_cX11_placeIn_fbfd9 : Room := { frames := 0, cells := 0, slots := 0, locals := 0 }
abbrev B_cX11_placeIn_fbfd9 (D : va_G) (k : Nat → ClassId) (h0 h15 h1 h2 h3 h4 h5 h6 h7 h8 h9 h10 h11 h12 h13 h14 h16 h17 h18 h19 h20 h21 : Nat) (x1 : Int64) (x2 : Int64) (x3 : Int64) (h0f0 : Int32) (h0f1 : Int32) (h0f2 : Int32) (h0f3 : Int32) (h0f4 : Int32) (h0f5 : Int32) (h0f8 : Int32) (h0f9 : Int32) (h0f17 : Int32) (h0f18 : Int32) (h0f19 : Int32) (h0f24 : Int32) (h0f25 : Int32) (h0f30 : Int32) (h0f31 : Int32) (A : Nat → Prop) (r : Int32) (H : Heap) : Prop := ((-1) = r ∧ TP D A [(h0, ob 8 [.int h0f0, .int h0f1, .int h0f2, .int h0f3, .int h0f4, .int h0f5, .ref h1, .ref h2, .int h0f8, .int h0f9, .ref h3, .ref h4, .ref h5, .ref h6, .ref h7, .ref h8, .ref h9, .int h0f17, .int h0f18, .int h0f19, .ref h10, .ref h11, .ref h12, .ref h13, .int h0f24, .int h0f25, .ref h14, .ref h15, .ref h16, .ref h17, .int h0f30, .int h0f31, .ref h18, .ref h19, .ref h20, .ref h21]), (h15, aJ (k 1) 180 anJ)] H) ∨ (∃ o0 : Int32, ∃ o1 : Int64, ∃ o2 : Int64, ∃ o3 : Int64, (0 ≤ o0.toInt ∧ o0.toInt ≤ 58) ∧ h0f8.toInt ≤ h0f3.toInt ∧ h0f9.toInt ≤ h0f24.toInt ∧ o0.toInt < h0f30.toInt ∧ o1.toInt = x1.toInt ∧ o2.toInt = x2.toInt ∧ o3.toInt = x3.toInt ∧ o0 = r ∧ TP D A [(h0, ob 8 [.int h0f0, .int h0f1, .int h0f2, .int h0f3, .int h0f4, .int h0f5, .ref h1, .ref h2, .int h0f8, .int h0f9, .ref h3, .ref h4, .ref h5, .ref h6, .ref h7, .ref h8, .ref h9, .int h0f17, .int h0f18, .int h0f19, .ref h10, .ref h11, .ref h12, .ref h13, .int h0f24, .int h0f25, .ref h14, .ref h15, .ref h16, .ref h17, .int h0f30, .int h0f31, .ref h18, .ref h19, .ref h20, .ref h21]), (h15, aJ (k 1) 180 anJ)] H)
set_option maxHeartbeats 4000000 in
set_option maxRecDepth 100000 in
theorem cX11_placeIn_fbfd9 (l : Launch) (D : va_G) (k : Nat → ClassId) (sz : Nat) (h0 h15 h1 h2 h3 h4 h5 h6 h7 h8 h9 h10 h11 h12 h13 h14 h16 h17 h18 h19 h20 h21 : Nat) (x1 : Int64) (x2 : Int64) (x3 : Int64) (h0f0 : Int32) (h0f1 : Int32) (h0f2 : Int32) (h0f3 : Int32) (h0f4 : Int32) (h0f5 : Int32) (h0f8 : Int32) (h0f9 : Int32) (h0f17 : Int32) (h0f18 : Int32) (h0f19 : Int32) (h0f24 : Int32) (h0f25 : Int32) (h0f30 : Int32) (h0f31 : Int32) (b_h0f0 : 1 ≤ h0f0.toInt ∧ h0f0.toInt ≤ 3) (b_h0f1 : 1 ≤ h0f1.toInt ∧ h0f1.toInt ≤ 4) (b_h0f3 : 0 ≤ h0f3.toInt ∧ h0f3.toInt ≤ 3) (b_h0f4 : 0 ≤ h0f4.toInt ∧ h0f4.toInt ≤ 4) (b_h0f8 : 0 ≤ h0f8.toInt ∧ h0f8.toInt ≤ 1) (b_h0f9 : 0 ≤ h0f9.toInt ∧ h0f9.toInt ≤ 1) (b_h0f17 : 0 ≤ h0f17.toInt ∧ h0f17.toInt ≤ 120) (b_h0f18 : 0 ≤ h0f18.toInt ∧ h0f18.toInt ≤ 120) (b_h0f19 : 0 ≤ h0f19.toInt ∧ h0f19.toInt ≤ 4) (b_h0f24 : 0 ≤ h0f24.toInt ∧ h0f24.toInt ≤ 100) (b_h0f25 : 0 ≤ h0f25.toInt ∧ h0f25.toInt ≤ 1) (b_h0f30 : 1 ≤ h0f30.toInt ∧ h0f30.toInt ≤ 59) (b_h0f31 : 0 ≤ h0f31.toInt ∧ h0f31.toInt ≤ 1) (i_0 : h0f8.toInt ≤ h0f3.toInt) (i_1 : h0f9.toInt ≤ h0f24.toInt) : Met l yX11_placeIn (Cond.code yX11_placeIn cX11_placeIn 8 (some .int) :: uw) Rm_cX11_placeIn_fbfd9 (pT D k sz [.ref h0, .long x1, .long x2, .long x3] [(h0, ob 8 [.int h0f0, .int h0f1, .int h0f2, .int h0f3, .int h0f4, .int h0f5, .ref h1, .ref h2, .int h0f8, .int h0f9, .ref h3, .ref h4, .ref h5, .ref h6, .ref h7, .ref h8, .ref h9, .int h0f17, .int h0f18, .int h0f19, .ref h10, .ref h11, .ref h12, .ref h13, .int h0f24, .int h0f25, .ref h14, .ref h15, .ref h16, .ref h17, .int h0f30, .int h0f31, .ref h18, .ref h19, .ref h20, .ref h21]), (h15, aJ (k 1) 180 anJ)]) (qI (B_cX11_placeIn_fbfd9 D k h0 h15 h1 h2 h3 h4 h5 h6 h7 h8 h9 h10 h11 h12 h13 h14 h16 h17 h18 h19 h20 h21 x1 x2 x3 h0f0 h0f1 h0f2 h0f3 h0f4 h0f5 h0f8 h0f9 h0f17 h0f18 h0f19 h0f24 h0f25 h0f30 h0f31 (zA [h0, h15] sz)) (zA [h0, h15] sz)) 0 0 (zA [h0, h15] sz) := by
  refine tz_begin (as := [h0, h15]) (Qc := fun A => qI (B_cX11_placeIn_fbfd9 D k h0 h15 h1 h2 h3 h4 h5 h6 h7 h8 h9 h10 h11 h12 h13 h14 h16 h17 h18 h19 h20 h21 x1 x2 x3 h0f0 h0f1 h0f2 h0f3 h0f4 h0f5 h0f8 h0f9 h0f17 h0f18 h0f19 h0f24 h0f25 h0f30 h0f31 A) A) (by decide +kernel) rfl (Nat.le_of_ble_eq_true rfl) ?_
  intro p e s m args below meth c ls A Q hx hb hr hml hown hlocks hin hU hK hT hS hA hl hQ
  have hl : lv_has ls 8 [(0, .ref h0), (1, .long x1), (3, .long x2), (5, .long x3)] := hl
  have hT : TP D A [(h0, ob 8 [.int h0f0, .int h0f1, .int h0f2, .int h0f3, .int h0f4, .int h0f5, .ref h1, .ref h2, .int h0f8, .int h0f9, .ref h3, .ref h4, .ref h5, .ref h6, .ref h7, .ref h8, .ref h9, .int h0f17, .int h0f18, .int h0f19, .ref h10, .ref h11, .ref h12, .ref h13, .int h0f24, .int h0f25, .ref h14, .ref h15, .ref h16, .ref h17, .int h0f30, .int h0f31, .ref h18, .ref h19, .ref h20, .ref h21]), (h15, aJ (k 1) 180 anJ)] s.heap := hT
  refine lv_iconst (v := 0) hx hb dX11_placeIn_0 (by decide) ?_
  refine lv_istore (lv' := [(7, .int 0), (0, .ref h0), (1, .long x1), (3, .long x2), (5, .long x3)]) hx hb dX11_placeIn_1 hl (by decide) rfl (fun ls hl => ?_)
  have lp3_11 : ∀ (n : Nat) (y10 : Int32) (H : Heap) (locs : List Loc) (ls : Array Slot), (0 ≤ y10.toInt ∧ y10.toInt ≤ 59) → (h0f30.toInt + (-1) * y10.toInt + 1).toNat < n → TP D A [(h0, ob 8 [.int h0f0, .int h0f1, .int h0f2, .int h0f3, .int h0f4, .int h0f5, .ref h1, .ref h2, .int h0f8, .int h0f9, .ref h3, .ref h4, .ref h5, .ref h6, .ref h7, .ref h8, .ref h9, .int h0f17, .int h0f18, .int h0f19, .ref h10, .ref h11, .ref h12, .ref h13, .int h0f24, .int h0f25, .ref h14, .ref h15, .ref h16, .ref h17, .int h0f30, .int h0f31, .ref h18, .ref h19, .ref h20, .ref h21]), (h15, aJ (k 1) 180 anJ)] H → va_S A s.heap H locs → lv_has ls 8 [(0, .ref h0), (1, .long x1), (3, .long x2), (5, .long x3), (7, .int y10)] → W p l e Rm_cX11_placeIn_fbfd9 s m args below meth c H locs 0 0 Q (F0 m 3 ls []) := by
    intro n
    induction n with
    | zero => intro y10 H locs ls b_y10 hm hT hS hl; exact absurd hm (Nat.not_lt_zero _)
    | succ n ih =>
      intro y10 H locs ls b_y10 hm hT hS hl
      have ih3_11 := ih
      clear ih
      refine lv_iload hx hb dX11_placeIn_3 (lv_at hl 4 rfl) ?_
      refine lv_aload_n hx hb dX11_placeIn_5 rfl (lv_at hl 0 rfl) ?_
      refine tz_get (ci := 8) (v := .int h0f30) (C := RX11) (F := TX11) (N := 36) hx hb hU iX11 hown hK hT 0 rfl rfl 30 (by decide) w815 (fun _ h9 => h9) rfl dX11_placeIn_6 ?_
      refine lv_icmp_ge (tgt := 68) hx hb dX11_placeIn_9 (by decide) (fun c_12 => ?_) (fun c_12 => ?_)
      · skip
        have c_12 := ni_le c_12 rfl rfl
        refine lv_iconst (v := (-1)) hx hb dX11_placeIn_68 (by decide) ?_
        exact tz_retI (B := B_cX11_placeIn_fbfd9 D k h0 h15 h1 h2 h3 h4 h5 h6 h7 h8 h9 h10 h11 h12 h13 h14 h16 h17 h18 h19 h20 h21 x1 x2 x3 h0f0 h0f1 h0f2 h0f3 h0f4 h0f5 h0f8 h0f9 h0f17 h0f18 h0f19 h0f24 h0f25 h0f30 h0f31) (v := (-1)) hQ hx hb hr hlocks hS (Nat.le_of_ble_eq_true rfl) (Nat.le_of_ble_eq_true rfl) dX11_placeIn_69 (Or.inl ⟨rfl, hT⟩)
      · skip
        have c_12 := ni_nle c_12 rfl rfl
        refine lv_aload_n hx hb dX11_placeIn_12 rfl (lv_at hl 0 rfl) ?_
        refine tz_get (ci := 8) (v := .ref h15) (C := RX11) (F := TX11) (N := 36) hx hb hU iX11 hown hK hT 0 rfl rfl 27 (by decide) w812 (fun _ h9 => h9) rfl dX11_placeIn_13 ?_
        refine lv_iconst (v := 3) hx hb dX11_placeIn_16 (by decide) ?_
        refine lv_iload hx hb dX11_placeIn_17 (lv_at hl 4 rfl) ?_
        refine lv_imul hx hb dX11_placeIn_19 (lv_topi (fun v13 e_v13 => ?_))
        have e_v13 := ai_mul e_v13 li_3 rfl (by omega)
        refine tz_lald hx hb hK hT 1 rfl (by omega) dX11_placeIn_20 (fun v14 e_v14 => ?_)
        clear e_v14
        refine lv_lload_n hx hb dX11_placeIn_21 rfl (lv_at hl 1 rfl) ?_
        refine W.lcmp hx hb dX11_placeIn_22 ?_
        refine lv_if_ne (tgt := 62) hx hb dX11_placeIn_23 (by decide) (fun c_15 => ?_) (fun c_15 => ?_)
        · skip
          have c_15 := nl_ne c_15 rfl rfl
          obtain ⟨v16, e_v16⟩ : ∃ x : Int32, x = y10 + Int32.ofInt 1 := ⟨_, rfl⟩
          have f_v16 := e_v16.symm
          have e_v16 : v16.toInt = y10.toInt + 1 := ai_add e_v16 rfl (show (Int32.ofInt 1).toInt = 1 from (by decide +kernel)) (by omega)
          refine lv_iinc (v := v16) (lv' := [(7, .int v16), (0, .ref h0), (1, .long x1), (3, .long x2), (5, .long x3)]) hx hb dX11_placeIn_62 hl (k := 4) rfl f_v16 (by decide) rfl (fun ls hl => ?_)
          refine lv_goto (tgt := 3) hx hb dX11_placeIn_65 (by decide) ?_
          exact ih3_11 v16 _ _ _ (by omega)  (by omega) hT hS (lv_sub hl [1, 2, 3, 4, 0] rfl)
        · skip
          have c_15 := nl_eq c_15 rfl rfl
          refine lv_aload_n hx hb dX11_placeIn_26 rfl (lv_at hl 0 rfl) ?_
          refine tz_get (ci := 8) (v := .ref h15) (C := RX11) (F := TX11) (N := 36) hx hb hU iX11 hown hK hT 0 rfl rfl 27 (by decide) w812 (fun _ h9 => h9) rfl dX11_placeIn_27 ?_
          refine lv_iconst (v := 3) hx hb dX11_placeIn_30 (by decide) ?_
          refine lv_iload hx hb dX11_placeIn_31 (lv_at hl 4 rfl) ?_
          refine lv_imul hx hb dX11_placeIn_33 (lv_topi (fun v17 e_v17 => ?_))
          have e_v17 := ai_mul e_v17 li_3 rfl (by omega)
          refine lv_iconst (v := 1) hx hb dX11_placeIn_34 (by decide) ?_
          refine lv_iadd hx hb dX11_placeIn_35 (lv_topi (fun v18 e_v18 => ?_))
          have e_v18 := ai_add e_v18 rfl li_1 (by omega)
          refine tz_lald hx hb hK hT 1 rfl (by omega) dX11_placeIn_36 (fun v19 e_v19 => ?_)
          clear e_v19
          refine lv_lload_n hx hb dX11_placeIn_37 rfl (lv_at hl 2 rfl) ?_
          refine W.lcmp hx hb dX11_placeIn_38 ?_
          refine lv_if_ne (tgt := 62) hx hb dX11_placeIn_39 (by decide) (fun c_20 => ?_) (fun c_20 => ?_)
          · skip
            have c_20 := nl_ne c_20 rfl rfl
            obtain ⟨v21, e_v21⟩ : ∃ x : Int32, x = y10 + Int32.ofInt 1 := ⟨_, rfl⟩
            have f_v21 := e_v21.symm
            have e_v21 : v21.toInt = y10.toInt + 1 := ai_add e_v21 rfl (show (Int32.ofInt 1).toInt = 1 from (by decide +kernel)) (by omega)
            refine lv_iinc (v := v21) (lv' := [(7, .int v21), (0, .ref h0), (1, .long x1), (3, .long x2), (5, .long x3)]) hx hb dX11_placeIn_62 hl (k := 4) rfl f_v21 (by decide) rfl (fun ls hl => ?_)
            refine lv_goto (tgt := 3) hx hb dX11_placeIn_65 (by decide) ?_
            exact ih3_11 v21 _ _ _ (by omega)  (by omega) hT hS (lv_sub hl [1, 2, 3, 4, 0] rfl)
          · skip
            have c_20 := nl_eq c_20 rfl rfl
            refine lv_aload_n hx hb dX11_placeIn_42 rfl (lv_at hl 0 rfl) ?_
            refine tz_get (ci := 8) (v := .ref h15) (C := RX11) (F := TX11) (N := 36) hx hb hU iX11 hown hK hT 0 rfl rfl 27 (by decide) w812 (fun _ h9 => h9) rfl dX11_placeIn_43 ?_
            refine lv_iconst (v := 3) hx hb dX11_placeIn_46 (by decide) ?_
            refine lv_iload hx hb dX11_placeIn_47 (lv_at hl 4 rfl) ?_
            refine lv_imul hx hb dX11_placeIn_49 (lv_topi (fun v22 e_v22 => ?_))
            have e_v22 := ai_mul e_v22 li_3 rfl (by omega)
            refine lv_iconst (v := 2) hx hb dX11_placeIn_50 (by decide) ?_
            refine lv_iadd hx hb dX11_placeIn_51 (lv_topi (fun v23 e_v23 => ?_))
            have e_v23 := ai_add e_v23 rfl li_2 (by omega)
            refine tz_lald hx hb hK hT 1 rfl (by omega) dX11_placeIn_52 (fun v24 e_v24 => ?_)
            clear e_v24
            refine lv_lload hx hb dX11_placeIn_53 (lv_at hl 3 rfl) ?_
            refine W.lcmp hx hb dX11_placeIn_55 ?_
            refine lv_if_ne (tgt := 62) hx hb dX11_placeIn_56 (by decide) (fun c_25 => ?_) (fun c_25 => ?_)
            · skip
              have c_25 := nl_ne c_25 rfl rfl
              obtain ⟨v26, e_v26⟩ : ∃ x : Int32, x = y10 + Int32.ofInt 1 := ⟨_, rfl⟩
              have f_v26 := e_v26.symm
              have e_v26 : v26.toInt = y10.toInt + 1 := ai_add e_v26 rfl (show (Int32.ofInt 1).toInt = 1 from (by decide +kernel)) (by omega)
              refine lv_iinc (v := v26) (lv' := [(7, .int v26), (0, .ref h0), (1, .long x1), (3, .long x2), (5, .long x3)]) hx hb dX11_placeIn_62 hl (k := 4) rfl f_v26 (by decide) rfl (fun ls hl => ?_)
              refine lv_goto (tgt := 3) hx hb dX11_placeIn_65 (by decide) ?_
              exact ih3_11 v26 _ _ _ (by omega)  (by omega) hT hS (lv_sub hl [1, 2, 3, 4, 0] rfl)
            · skip
              have c_25 := nl_eq c_25 rfl rfl
              refine lv_iload hx hb dX11_placeIn_59 (lv_at hl 4 rfl) ?_
              exact tz_retI (B := B_cX11_placeIn_fbfd9 D k h0 h15 h1 h2 h3 h4 h5 h6 h7 h8 h9 h10 h11 h12 h13 h14 h16 h17 h18 h19 h20 h21 x1 x2 x3 h0f0 h0f1 h0f2 h0f3 h0f4 h0f5 h0f8 h0f9 h0f17 h0f18 h0f19 h0f24 h0f25 h0f30 h0f31) (v := y10) hQ hx hb hr hlocks hS (Nat.le_of_ble_eq_true rfl) (Nat.le_of_ble_eq_true rfl) dX11_placeIn_61 (Or.inr (⟨y10, v14, v19, v24, (by omega), (by omega), (by omega), (by omega), (by omega), (by omega), (by omega), rfl, hT⟩))
  exact lp3_11 ((h0f30.toInt + (-1) * (0 : Int32).toInt + 1).toNat + 1) (0) _ _ _ (by have := li_0; omega)  (Nat.lt_succ_self _) hT hS (lv_sub hl [1, 2, 3, 4, 0] rfl)
abbrev Rm_cX11_isAsked_874da : Room := { frames := 1, cells := 0, slots := 0, locals := 25 }
abbrev B_cX11_isAsked_874da (D : va_G) (k : Nat → ClassId) (x0 : Int32) (x1 : Int32) (x2 : Int32) (A : Nat → Prop) (r : Int32) (H : Heap) : Prop := (0 ≤ r.toInt ∧ r.toInt ≤ 1) ∧ TP D A [] H
set_option maxHeartbeats 4000000 in
set_option maxRecDepth 100000 in
theorem cX11_isAsked_874da (l : Launch) (D : va_G) (k : Nat → ClassId) (sz : Nat) (x0 : Int32) (x1 : Int32) (x2 : Int32) : Met l yX11_isAsked (Cond.code yX11_isAsked cX11_isAsked 3 (some .boolean) :: uw) Rm_cX11_isAsked_874da (pT D k sz [.int x0, .int x1, .int x2] []) (qI (B_cX11_isAsked_874da D k x0 x1 x2 (zA [] sz)) (zA [] sz)) 0 0 (zA [] sz) := by
  refine tz_begin (as := []) (Qc := fun A => qI (B_cX11_isAsked_874da D k x0 x1 x2 A) A) (by decide +kernel) rfl (Nat.le_of_ble_eq_true rfl) ?_
  intro p e s m args below meth c ls A Q hx hb hr hml hown hlocks hin hU hK hT hS hA hl hQ
  have hl : lv_has ls 3 [(0, .int x0), (1, .int x1), (2, .int x2)] := hl
  have hT : TP D A [] s.heap := hT
  refine lv_iload_n hx hb dX11_isAsked_0 rfl (lv_at hl 0 rfl) ?_
  have tb_x0 := i32b x0
  obtain ⟨v1, e_v1⟩ : ∃ x : Int64, x0.toInt64 = x := ⟨_, rfl⟩
  refine lv_i2l (v := v1) hx hb dX11_isAsked_1 e_v1 ?_
  have e_v1 := ai_i2l e_v1 rfl
  refine lv_ldc2 hx hb hown (hU _ w1138) dX11_isAsked_2 ?_
  refine lv_ldc2 hx hb hown (hU _ w1139) dX11_isAsked_5 ?_
  have q_q3 := ll_m1000
  have q_q4 := ll_1000
  refine tcI (Tc := []) (Tr := []) (as := []) (zcS (As := [.long v1, .long (-1000), .long 1000]) (rest := []) (Tc := []) hx hb hml hown hU hK hT [] rfl (by decide) (cX11_in_ca3b9 l D k _ v1 ((-1000)) (1000) (by have := ll_m1000; omega) (by have := ll_1000; omega)) w901 w899 w900 w72 hdX11_in ⟨rfl, rfl⟩ ⟨Nat.le_of_ble_eq_true rfl, Nat.le_of_ble_eq_true rfl⟩ rfl hl.1 (Nat.le_of_ble_eq_true rfl) dX11_isAsked_8 ⟨Nat.le_of_ble_eq_true rfl, Nat.le_of_ble_eq_true rfl⟩) hT hS hA [] [] rfl rfl rfl (by decide) (by decide) (fun r2 H locs hB J hS => ?_)
  rcases hB with ⟨rfl, hT1⟩ | ⟨c_5, c_6, rfl, hT1⟩
  · skip
    have hT := J _ hT1
    have hT : TP D A [] _ := hT
    refine lv_if_eq (tgt := 46) hx hb dX11_isAsked_11 (by decide) (fun _ => ?_) (fun cc => absurd (by decide +kernel) cc)
    refine lv_iconst (v := 0) hx hb dX11_isAsked_46 (by decide) ?_
    exact tz_retZ (B := B_cX11_isAsked_874da D k x0 x1 x2) (v := 0) hQ hx hb hr hlocks hS (Nat.le_of_ble_eq_true rfl) (Nat.le_of_ble_eq_true rfl) dX11_isAsked_47 (by have := li_0; omega) (⟨(by have := li_0; omega), hT⟩)
  · skip
    have hT := J _ hT1
    have hT : TP D A [] _ := hT
    refine lv_if_eq (tgt := 46) hx hb dX11_isAsked_11 (by decide) (fun cc => absurd cc (by decide +kernel)) (fun _ => ?_)
    refine lv_iload_n hx hb dX11_isAsked_14 rfl (lv_at hl 1 rfl) ?_
    have tb_x1 := i32b x1
    obtain ⟨v7, e_v7⟩ : ∃ x : Int64, x1.toInt64 = x := ⟨_, rfl⟩
    refine lv_i2l (v := v7) hx hb dX11_isAsked_15 e_v7 ?_
    have e_v7 := ai_i2l e_v7 rfl
    refine lv_ldc2 hx hb hown (hU _ w1138) dX11_isAsked_16 ?_
    refine lv_ldc2 hx hb hown (hU _ w1139) dX11_isAsked_19 ?_
    have q_q9 := ll_m1000
    have q_q10 := ll_1000
    refine tcI (Tc := []) (Tr := []) (as := []) (zcS (As := [.long v7, .long (-1000), .long 1000]) (rest := []) (Tc := []) hx hb hml hown hU hK hT [] rfl (by decide) (cX11_in_ca3b9 l D k _ v7 ((-1000)) (1000) (by have := ll_m1000; omega) (by have := ll_1000; omega)) w901 w899 w900 w72 hdX11_in ⟨rfl, rfl⟩ ⟨Nat.le_of_ble_eq_true rfl, Nat.le_of_ble_eq_true rfl⟩ rfl hl.1 (Nat.le_of_ble_eq_true rfl) dX11_isAsked_22 ⟨Nat.le_of_ble_eq_true rfl, Nat.le_of_ble_eq_true rfl⟩) hT hS hA [] [] rfl rfl rfl (by decide) (by decide) (fun r8 H locs hB J hS => ?_)
    rcases hB with ⟨rfl, hT1⟩ | ⟨c_11, c_12, rfl, hT1⟩
    · skip
      have hT := J _ hT1
      have hT : TP D A [] _ := hT
      refine lv_if_eq (tgt := 46) hx hb dX11_isAsked_25 (by decide) (fun _ => ?_) (fun cc => absurd (by decide +kernel) cc)
      refine lv_iconst (v := 0) hx hb dX11_isAsked_46 (by decide) ?_
      exact tz_retZ (B := B_cX11_isAsked_874da D k x0 x1 x2) (v := 0) hQ hx hb hr hlocks hS (Nat.le_of_ble_eq_true rfl) (Nat.le_of_ble_eq_true rfl) dX11_isAsked_47 (by have := li_0; omega) (⟨(by have := li_0; omega), hT⟩)
    · skip
      have hT := J _ hT1
      have hT : TP D A [] _ := hT
      refine lv_if_eq (tgt := 46) hx hb dX11_isAsked_25 (by decide) (fun cc => absurd cc (by decide +kernel)) (fun _ => ?_)
      refine lv_iload_n hx hb dX11_isAsked_28 rfl (lv_at hl 2 rfl) ?_
      have tb_x2 := i32b x2
      obtain ⟨v13, e_v13⟩ : ∃ x : Int64, x2.toInt64 = x := ⟨_, rfl⟩
      refine lv_i2l (v := v13) hx hb dX11_isAsked_29 e_v13 ?_
      have e_v13 := ai_i2l e_v13 rfl
      refine lv_ldc2 hx hb hown (hU _ w1138) dX11_isAsked_30 ?_
      refine lv_ldc2 hx hb hown (hU _ w1139) dX11_isAsked_33 ?_
      have q_q15 := ll_m1000
      have q_q16 := ll_1000
      refine tcI (Tc := []) (Tr := []) (as := []) (zcS (As := [.long v13, .long (-1000), .long 1000]) (rest := []) (Tc := []) hx hb hml hown hU hK hT [] rfl (by decide) (cX11_in_ca3b9 l D k _ v13 ((-1000)) (1000) (by have := ll_m1000; omega) (by have := ll_1000; omega)) w901 w899 w900 w72 hdX11_in ⟨rfl, rfl⟩ ⟨Nat.le_of_ble_eq_true rfl, Nat.le_of_ble_eq_true rfl⟩ rfl hl.1 (Nat.le_of_ble_eq_true rfl) dX11_isAsked_36 ⟨Nat.le_of_ble_eq_true rfl, Nat.le_of_ble_eq_true rfl⟩) hT hS hA [] [] rfl rfl rfl (by decide) (by decide) (fun r14 H locs hB J hS => ?_)
      rcases hB with ⟨rfl, hT1⟩ | ⟨c_17, c_18, rfl, hT1⟩
      · skip
        have hT := J _ hT1
        have hT : TP D A [] _ := hT
        refine lv_if_eq (tgt := 46) hx hb dX11_isAsked_39 (by decide) (fun _ => ?_) (fun cc => absurd (by decide +kernel) cc)
        refine lv_iconst (v := 0) hx hb dX11_isAsked_46 (by decide) ?_
        exact tz_retZ (B := B_cX11_isAsked_874da D k x0 x1 x2) (v := 0) hQ hx hb hr hlocks hS (Nat.le_of_ble_eq_true rfl) (Nat.le_of_ble_eq_true rfl) dX11_isAsked_47 (by have := li_0; omega) (⟨(by have := li_0; omega), hT⟩)
      · skip
        have hT := J _ hT1
        have hT : TP D A [] _ := hT
        refine lv_if_eq (tgt := 46) hx hb dX11_isAsked_39 (by decide) (fun cc => absurd cc (by decide +kernel)) (fun _ => ?_)
        refine lv_iconst (v := 1) hx hb dX11_isAsked_42 (by decide) ?_
        refine lv_goto (tgt := 47) hx hb dX11_isAsked_43 (by decide) ?_
        exact tz_retZ (B := B_cX11_isAsked_874da D k x0 x1 x2) (v := 1) hQ hx hb hr hlocks hS (Nat.le_of_ble_eq_true rfl) (Nat.le_of_ble_eq_true rfl) dX11_isAsked_47 (by have := li_1; omega) (⟨(by have := li_1; omega), hT⟩)
abbrev Rm_cX11_orbit_a376b : Room := { frames := 2, cells := 0, slots := 0, locals := 47 }
abbrev B_cX11_orbit_a376b (D : va_G) (k : Nat → ClassId) (h0 h1 h4 h5 h15 h16 h2 h3 h6 h7 h8 h9 h10 h11 h12 h13 h14 h17 h18 h19 h20 h21 : Nat) (x1 : Int32) (x2 : Int32) (x3 : Int32) (h0f0 : Int32) (h0f1 : Int32) (h0f2 : Int32) (h0f3 : Int32) (h0f4 : Int32) (h0f5 : Int32) (h0f8 : Int32) (h0f9 : Int32) (h0f17 : Int32) (h0f18 : Int32) (h0f19 : Int32) (h0f24 : Int32) (h0f25 : Int32) (h0f30 : Int32) (h0f31 : Int32) (A : Nat → Prop) (r : Int32) (H : Heap) : Prop := ∃ o0 : Int32, ∃ o1 : Int32, (0 ≤ o0.toInt ∧ o0.toInt ≤ 60) ∧ (0 ≤ o1.toInt ∧ o1.toInt ≤ 1) ∧ ((-1) ≤ r.toInt ∧ r.toInt ≤ 60) ∧ TP D A [(h0, ob 8 [.int h0f0, .int h0f1, .int h0f2, .int h0f3, .int h0f4, .int h0f5, .ref h1, .ref h2, .int h0f8, .int h0f9, .ref h3, .ref h4, .ref h5, .ref h6, .ref h7, .ref h8, .ref h9, .int h0f17, .int h0f18, .int h0f19, .ref h10, .ref h11, .ref h12, .ref h13, .int h0f24, .int h0f25, .ref h14, .ref h15, .ref h16, .ref h17, .int o0, .int o1, .ref h18, .ref h19, .ref h20, .ref h21]), (h1, aI (k 0) 36 anI), (h4, aJ (k 1) 9 anJ), (h5, aJ (k 1) 9 anJ), (h15, aJ (k 1) 180 anJ), (h16, aI (k 0) 240 (gtP (o0.toInt) (h0f1.toInt) (o1.toInt)))] H
set_option maxHeartbeats 4000000 in
set_option maxRecDepth 100000 in
theorem cX11_orbit_a376b (l : Launch) (D : va_G) (k : Nat → ClassId) (sz : Nat) (h0 h1 h4 h5 h15 h16 h2 h3 h6 h7 h8 h9 h10 h11 h12 h13 h14 h17 h18 h19 h20 h21 : Nat) (x1 : Int32) (x2 : Int32) (x3 : Int32) (h0f0 : Int32) (h0f1 : Int32) (h0f2 : Int32) (h0f3 : Int32) (h0f4 : Int32) (h0f5 : Int32) (h0f8 : Int32) (h0f9 : Int32) (h0f17 : Int32) (h0f18 : Int32) (h0f19 : Int32) (h0f24 : Int32) (h0f25 : Int32) (h0f30 : Int32) (h0f31 : Int32) (b_h0f0 : 1 ≤ h0f0.toInt ∧ h0f0.toInt ≤ 3) (b_h0f1 : 0 ≤ h0f1.toInt ∧ h0f1.toInt ≤ 4) (b_h0f3 : 0 ≤ h0f3.toInt ∧ h0f3.toInt ≤ 3) (b_h0f4 : 0 ≤ h0f4.toInt ∧ h0f4.toInt ≤ 4) (b_h0f8 : 0 ≤ h0f8.toInt ∧ h0f8.toInt ≤ 1) (b_h0f9 : 0 ≤ h0f9.toInt ∧ h0f9.toInt ≤ 1) (b_h0f17 : 0 ≤ h0f17.toInt ∧ h0f17.toInt ≤ 120) (b_h0f18 : 0 ≤ h0f18.toInt ∧ h0f18.toInt ≤ 120) (b_h0f19 : 0 ≤ h0f19.toInt ∧ h0f19.toInt ≤ 4) (b_h0f24 : 0 ≤ h0f24.toInt ∧ h0f24.toInt ≤ 100) (b_h0f25 : 0 ≤ h0f25.toInt ∧ h0f25.toInt ≤ 1) (b_h0f30 : 0 ≤ h0f30.toInt ∧ h0f30.toInt ≤ 60) (b_h0f31 : 0 ≤ h0f31.toInt ∧ h0f31.toInt ≤ 1) (i_0 : h0f8.toInt ≤ h0f3.toInt) (i_1 : h0f9.toInt ≤ h0f24.toInt) : Met l yX11_orbit (Cond.code yX11_orbit cX11_orbit 7 (some .int) :: uw) Rm_cX11_orbit_a376b (pT D k sz [.ref h0, .int x1, .int x2, .int x3] [(h0, ob 8 [.int h0f0, .int h0f1, .int h0f2, .int h0f3, .int h0f4, .int h0f5, .ref h1, .ref h2, .int h0f8, .int h0f9, .ref h3, .ref h4, .ref h5, .ref h6, .ref h7, .ref h8, .ref h9, .int h0f17, .int h0f18, .int h0f19, .ref h10, .ref h11, .ref h12, .ref h13, .int h0f24, .int h0f25, .ref h14, .ref h15, .ref h16, .ref h17, .int h0f30, .int h0f31, .ref h18, .ref h19, .ref h20, .ref h21]), (h1, aI (k 0) 36 anI), (h4, aJ (k 1) 9 anJ), (h5, aJ (k 1) 9 anJ), (h15, aJ (k 1) 180 anJ), (h16, aI (k 0) 240 (gtP (h0f30.toInt) (h0f1.toInt) (h0f31.toInt)))]) (qI (B_cX11_orbit_a376b D k h0 h1 h4 h5 h15 h16 h2 h3 h6 h7 h8 h9 h10 h11 h12 h13 h14 h17 h18 h19 h20 h21 x1 x2 x3 h0f0 h0f1 h0f2 h0f3 h0f4 h0f5 h0f8 h0f9 h0f17 h0f18 h0f19 h0f24 h0f25 h0f30 h0f31 (zA [h0, h1, h4, h5, h15, h16] sz)) (zA [h0, h1, h4, h5, h15, h16] sz)) 0 0 (zA [h0, h1, h4, h5, h15, h16] sz) := by
  refine tz_begin (as := [h0, h1, h4, h5, h15, h16]) (Qc := fun A => qI (B_cX11_orbit_a376b D k h0 h1 h4 h5 h15 h16 h2 h3 h6 h7 h8 h9 h10 h11 h12 h13 h14 h17 h18 h19 h20 h21 x1 x2 x3 h0f0 h0f1 h0f2 h0f3 h0f4 h0f5 h0f8 h0f9 h0f17 h0f18 h0f19 h0f24 h0f25 h0f30 h0f31 A) A) (by decide +kernel) rfl (Nat.le_of_ble_eq_true rfl) ?_
  intro p e s m args below meth c ls A Q hx hb hr hml hown hlocks hin hU hK hT hS hA hl hQ
  have hl : lv_has ls 7 [(0, .ref h0), (1, .int x1), (2, .int x2), (3, .int x3)] := hl
  have hT : TP D A [(h0, ob 8 [.int h0f0, .int h0f1, .int h0f2, .int h0f3, .int h0f4, .int h0f5, .ref h1, .ref h2, .int h0f8, .int h0f9, .ref h3, .ref h4, .ref h5, .ref h6, .ref h7, .ref h8, .ref h9, .int h0f17, .int h0f18, .int h0f19, .ref h10, .ref h11, .ref h12, .ref h13, .int h0f24, .int h0f25, .ref h14, .ref h15, .ref h16, .ref h17, .int h0f30, .int h0f31, .ref h18, .ref h19, .ref h20, .ref h21]), (h1, aI (k 0) 36 anI), (h4, aJ (k 1) 9 anJ), (h5, aJ (k 1) 9 anJ), (h15, aJ (k 1) 180 anJ), (h16, aI (k 0) 240 (gtP (h0f30.toInt) (h0f1.toInt) (h0f31.toInt)))] s.heap := hT
  have lp67_23 : ∀ (n : Nat) (y21 : Int32) (y22 : Int32) (H : Heap) (locs : List Loc) (ls : Array Slot), (0 ≤ y21.toInt ∧ y21.toInt ≤ 60) → (1 ≤ y22.toInt ∧ y22.toInt ≤ 60) → (60 - y21.toInt).toNat < n → TP D A [(h0, ob 8 [.int h0f0, .int h0f1, .int h0f2, .int h0f3, .int h0f4, .int h0f5, .ref h1, .ref h2, .int h0f8, .int h0f9, .ref h3, .ref h4, .ref h5, .ref h6, .ref h7, .ref h8, .ref h9, .int h0f17, .int h0f18, .int h0f19, .ref h10, .ref h11, .ref h12, .ref h13, .int h0f24, .int h0f25, .ref h14, .ref h15, .ref h16, .ref h17, .int y22, .int h0f31, .ref h18, .ref h19, .ref h20, .ref h21]), (h1, aI (k 0) 36 anI), (h4, aJ (k 1) 9 anJ), (h5, aJ (k 1) 9 anJ), (h15, aJ (k 1) 180 anJ), (h16, aI (k 0) 240 (gtP (h0f30.toInt) (h0f1.toInt) (h0f31.toInt)))] H → va_S A s.heap H locs → lv_has ls 7 [(0, .ref h0), (4, .int y21)] → W p l e Rm_cX11_orbit_a376b s m args below meth c H locs 0 0 Q (F0 m 67 ls []) := by
    intro n
    induction n with
    | zero => intro y21 y22 H locs ls b_y21 b_y22 hm hT hS hl; exact absurd hm (Nat.not_lt_zero _)
    | succ n ih =>
      intro y21 y22 H locs ls b_y21 b_y22 hm hT hS hl
      have ih67_23 := ih
      clear ih
      refine lv_iload hx hb dX11_orbit_67 (lv_at hl 1 rfl) ?_
      refine lv_aload_n hx hb dX11_orbit_69 rfl (lv_at hl 0 rfl) ?_
      refine tz_get (ci := 8) (v := .int y22) (C := RX11) (F := TX11) (N := 36) hx hb hU iX11 hown hK hT 0 rfl rfl 30 (by decide) w815 (fun _ h9 => h9) rfl dX11_orbit_70 ?_
      refine lv_icmp_ge (tgt := 273) hx hb dX11_orbit_73 (by decide) (fun c_24 => ?_) (fun c_24 => ?_)
      · skip
        have c_24 := ni_le c_24 rfl rfl
        refine lv_aload_n hx hb dX11_orbit_273 rfl (lv_at hl 0 rfl) ?_
        refine lv_iconst (v := 1) hx hb dX11_orbit_274 (by decide) ?_
        refine tz_put (ci := 8) (v := .int 1) (ty := .boolean) (C := RX11) (F := TX11) (N := 36) hx hb hU iX11 tyX11 tyX11_ok nmX11 hown hK hT hS 0 rfl rfl 31 (by decide) w816 (fun _ h9 => h9) rfl (by decide +kernel) rfl rfl (Nat.le_of_ble_eq_true rfl) dX11_orbit_275 (fun H locs hT hS => ?_)
        have hT : TP D A [(h0, ob 8 [.int h0f0, .int h0f1, .int h0f2, .int h0f3, .int h0f4, .int h0f5, .ref h1, .ref h2, .int h0f8, .int h0f9, .ref h3, .ref h4, .ref h5, .ref h6, .ref h7, .ref h8, .ref h9, .int h0f17, .int h0f18, .int h0f19, .ref h10, .ref h11, .ref h12, .ref h13, .int h0f24, .int h0f25, .ref h14, .ref h15, .ref h16, .ref h17, .int y22, .int 1, .ref h18, .ref h19, .ref h20, .ref h21]), (h1, aI (k 0) 36 anI), (h4, aJ (k 1) 9 anJ), (h5, aJ (k 1) 9 anJ), (h15, aJ (k 1) 180 anJ), (h16, aI (k 0) 240 (gtP (h0f30.toInt) (h0f1.toInt) (h0f31.toInt)))] _ := hT
        refine lv_iconst (v := 0) hx hb dX11_orbit_278 (by decide) ?_
        refine lv_istore (lv' := [(4, .int 0), (0, .ref h0)]) hx hb dX11_orbit_279 hl (by decide) rfl (fun ls hl => ?_)
        have hT := hT.wk (q := 5) (P' := aI (k 0) 240 (gqP (y22.toInt) (h0f1.toInt) ((1 : Int32).toInt) ((0 : Int32).toInt) ((0 : Int32).toInt))) rfl (gq_0 (by have := li_1; have := li_0; omega))
        have hT : TP D A [(h0, ob 8 [.int h0f0, .int h0f1, .int h0f2, .int h0f3, .int h0f4, .int h0f5, .ref h1, .ref h2, .int h0f8, .int h0f9, .ref h3, .ref h4, .ref h5, .ref h6, .ref h7, .ref h8, .ref h9, .int h0f17, .int h0f18, .int h0f19, .ref h10, .ref h11, .ref h12, .ref h13, .int h0f24, .int h0f25, .ref h14, .ref h15, .ref h16, .ref h17, .int y22, .int 1, .ref h18, .ref h19, .ref h20, .ref h21]), (h1, aI (k 0) 36 anI), (h4, aJ (k 1) 9 anJ), (h5, aJ (k 1) 9 anJ), (h15, aJ (k 1) 180 anJ), (h16, aI (k 0) 240 (gqP (y22.toInt) (h0f1.toInt) ((1 : Int32).toInt) ((0 : Int32).toInt) ((0 : Int32).toInt)))] _ := hT
        have lp281_47 : ∀ (n : Nat) (y45 : Int32) (y46 : Int32) (H : Heap) (locs : List Loc) (ls : Array Slot), (0 ≤ y45.toInt ∧ y45.toInt ≤ 60) → (0 ≤ y46.toInt ∧ y46.toInt ≤ 1) → (y22.toInt + (-1) * y45.toInt + 1).toNat < n → TP D A [(h0, ob 8 [.int h0f0, .int h0f1, .int h0f2, .int h0f3, .int h0f4, .int h0f5, .ref h1, .ref h2, .int h0f8, .int h0f9, .ref h3, .ref h4, .ref h5, .ref h6, .ref h7, .ref h8, .ref h9, .int h0f17, .int h0f18, .int h0f19, .ref h10, .ref h11, .ref h12, .ref h13, .int h0f24, .int h0f25, .ref h14, .ref h15, .ref h16, .ref h17, .int y22, .int y46, .ref h18, .ref h19, .ref h20, .ref h21]), (h1, aI (k 0) 36 anI), (h4, aJ (k 1) 9 anJ), (h5, aJ (k 1) 9 anJ), (h15, aJ (k 1) 180 anJ), (h16, aI (k 0) 240 (gqP (y22.toInt) (h0f1.toInt) (y46.toInt) (y45.toInt) ((0 : Int32).toInt)))] H → va_S A s.heap H locs → lv_has ls 7 [(0, .ref h0), (4, .int y45)] → W p l e Rm_cX11_orbit_a376b s m args below meth c H locs 0 0 Q (F0 m 281 ls []) := by
          intro n
          induction n with
          | zero => intro y45 y46 H locs ls b_y45 b_y46 hm hT hS hl; exact absurd hm (Nat.not_lt_zero _)
          | succ n ih =>
            intro y45 y46 H locs ls b_y45 b_y46 hm hT hS hl
            have ih281_47 := ih
            clear ih
            refine lv_iload hx hb dX11_orbit_281 (lv_at hl 1 rfl) ?_
            refine lv_aload_n hx hb dX11_orbit_283 rfl (lv_at hl 0 rfl) ?_
            refine tz_get (ci := 8) (v := .int y22) (C := RX11) (F := TX11) (N := 36) hx hb hU iX11 hown hK hT 0 rfl rfl 30 (by decide) w815 (fun _ h9 => h9) rfl dX11_orbit_284 ?_
            refine lv_icmp_ge (tgt := 382) hx hb dX11_orbit_287 (by decide) (fun c_48 => ?_) (fun c_48 => ?_)
            · skip
              have c_48 := ni_le c_48 rfl rfl
              refine lv_aload_n hx hb dX11_orbit_382 rfl (lv_at hl 0 rfl) ?_
              refine tz_get (ci := 8) (v := .int y22) (C := RX11) (F := TX11) (N := 36) hx hb hU iX11 hown hK hT 0 rfl rfl 30 (by decide) w815 (fun _ h9 => h9) rfl dX11_orbit_383 ?_
              have hT := hT.wk (q := 5) (P' := aI (k 0) 240 (gtP (y22.toInt) (h0f1.toInt) (y46.toInt))) rfl (gq_end (by have := li_0; omega))
              have hT : TP D A [(h0, ob 8 [.int h0f0, .int h0f1, .int h0f2, .int h0f3, .int h0f4, .int h0f5, .ref h1, .ref h2, .int h0f8, .int h0f9, .ref h3, .ref h4, .ref h5, .ref h6, .ref h7, .ref h8, .ref h9, .int h0f17, .int h0f18, .int h0f19, .ref h10, .ref h11, .ref h12, .ref h13, .int h0f24, .int h0f25, .ref h14, .ref h15, .ref h16, .ref h17, .int y22, .int y46, .ref h18, .ref h19, .ref h20, .ref h21]), (h1, aI (k 0) 36 anI), (h4, aJ (k 1) 9 anJ), (h5, aJ (k 1) 9 anJ), (h15, aJ (k 1) 180 anJ), (h16, aI (k 0) 240 (gtP (y22.toInt) (h0f1.toInt) (y46.toInt)))] _ := hT
              exact tz_retI (B := B_cX11_orbit_a376b D k h0 h1 h4 h5 h15 h16 h2 h3 h6 h7 h8 h9 h10 h11 h12 h13 h14 h17 h18 h19 h20 h21 x1 x2 x3 h0f0 h0f1 h0f2 h0f3 h0f4 h0f5 h0f8 h0f9 h0f17 h0f18 h0f19 h0f24 h0f25 h0f30 h0f31) (v := y22) hQ hx hb hr hlocks hS (Nat.le_of_ble_eq_true rfl) (Nat.le_of_ble_eq_true rfl) dX11_orbit_386 (⟨y22, y46, (by omega), (by omega), (by omega), hT⟩)
            · skip
              have c_48 := ni_nle c_48 rfl rfl
              refine lv_iconst (v := 0) hx hb dX11_orbit_290 (by decide) ?_
              refine lv_istore (lv' := [(5, .int 0), (0, .ref h0), (4, .int y45)]) hx hb dX11_orbit_291 hl (by decide) rfl (fun ls hl => ?_)
              have lp293_57 : ∀ (n : Nat) (y55 : Int32) (y56 : Int32) (H : Heap) (locs : List Loc) (ls : Array Slot), (0 ≤ y55.toInt ∧ y55.toInt ≤ 4) → (0 ≤ y56.toInt ∧ y56.toInt ≤ 1) → (h0f1.toInt + (-1) * y55.toInt + 1).toNat < n → TP D A [(h0, ob 8 [.int h0f0, .int h0f1, .int h0f2, .int h0f3, .int h0f4, .int h0f5, .ref h1, .ref h2, .int h0f8, .int h0f9, .ref h3, .ref h4, .ref h5, .ref h6, .ref h7, .ref h8, .ref h9, .int h0f17, .int h0f18, .int h0f19, .ref h10, .ref h11, .ref h12, .ref h13, .int h0f24, .int h0f25, .ref h14, .ref h15, .ref h16, .ref h17, .int y22, .int y56, .ref h18, .ref h19, .ref h20, .ref h21]), (h1, aI (k 0) 36 anI), (h4, aJ (k 1) 9 anJ), (h5, aJ (k 1) 9 anJ), (h15, aJ (k 1) 180 anJ), (h16, aI (k 0) 240 (gqP (y22.toInt) (h0f1.toInt) (y56.toInt) (y45.toInt) (y55.toInt)))] H → va_S A s.heap H locs → lv_has ls 7 [(0, .ref h0), (4, .int y45), (5, .int y55)] → W p l e Rm_cX11_orbit_a376b s m args below meth c H locs 0 0 Q (F0 m 293 ls []) := by
                intro n
                induction n with
                | zero => intro y55 y56 H locs ls b_y55 b_y56 hm hT hS hl; exact absurd hm (Nat.not_lt_zero _)
                | succ n ih =>
                  intro y55 y56 H locs ls b_y55 b_y56 hm hT hS hl
                  have ih293_57 := ih
                  clear ih
                  refine lv_iload hx hb dX11_orbit_293 (lv_at hl 2 rfl) ?_
                  refine lv_aload_n hx hb dX11_orbit_295 rfl (lv_at hl 0 rfl) ?_
                  refine tz_get (ci := 8) (v := .int h0f1) (C := RX11) (F := TX11) (N := 36) hx hb hU iX11 hown hK hT 0 rfl rfl 1 (by decide) w786 (fun _ h9 => h9) rfl dX11_orbit_296 ?_
                  refine lv_icmp_ge (tgt := 376) hx hb dX11_orbit_299 (by decide) (fun c_58 => ?_) (fun c_58 => ?_)
                  · skip
                    have c_58 := ni_le c_58 rfl rfl
                    obtain ⟨v59, e_v59⟩ : ∃ x : Int32, x = y45 + Int32.ofInt 1 := ⟨_, rfl⟩
                    have f_v59 := e_v59.symm
                    have e_v59 : v59.toInt = y45.toInt + 1 := ai_add e_v59 rfl (show (Int32.ofInt 1).toInt = 1 from (by decide +kernel)) (by omega)
                    refine lv_iinc (v := v59) (lv' := [(4, .int v59), (0, .ref h0), (5, .int y55)]) hx hb dX11_orbit_376 hl (k := 1) rfl f_v59 (by decide) rfl (fun ls hl => ?_)
                    refine lv_goto (tgt := 281) hx hb dX11_orbit_379 (by decide) ?_
                    have hT := hT.wk (q := 5) (P' := aI (k 0) 240 (gqP (y22.toInt) (h0f1.toInt) (y56.toInt) (v59.toInt) ((0 : Int32).toInt))) rfl (gq_next (by have := li_0; omega))
                    have hT : TP D A [(h0, ob 8 [.int h0f0, .int h0f1, .int h0f2, .int h0f3, .int h0f4, .int h0f5, .ref h1, .ref h2, .int h0f8, .int h0f9, .ref h3, .ref h4, .ref h5, .ref h6, .ref h7, .ref h8, .ref h9, .int h0f17, .int h0f18, .int h0f19, .ref h10, .ref h11, .ref h12, .ref h13, .int h0f24, .int h0f25, .ref h14, .ref h15, .ref h16, .ref h17, .int y22, .int y56, .ref h18, .ref h19, .ref h20, .ref h21]), (h1, aI (k 0) 36 anI), (h4, aJ (k 1) 9 anJ), (h5, aJ (k 1) 9 anJ), (h15, aJ (k 1) 180 anJ), (h16, aI (k 0) 240 (gqP (y22.toInt) (h0f1.toInt) (y56.toInt) (v59.toInt) ((0 : Int32).toInt)))] _ := hT
                    exact ih281_47 v59 y56 _ _ _ (by omega) (by omega)  (by omega) hT hS (lv_sub hl [1, 0] rfl)
                  · skip
                    have c_58 := ni_nle c_58 rfl rfl
                    refine lv_aload_n hx hb dX11_orbit_302 rfl (lv_at hl 0 rfl) ?_
                    refine lv_iload hx hb dX11_orbit_303 (lv_at hl 2 rfl) ?_
                    refine lv_iload hx hb dX11_orbit_305 (lv_at hl 1 rfl) ?_
                    refine tcV (Tc := [(h0, ob 8 [.int h0f0, .int h0f1, .int h0f2, .int h0f3, .int h0f4, .int h0f5, .ref h1, .ref h2, .int h0f8, .int h0f9, .ref h3, .ref h4, .ref h5, .ref h6, .ref h7, .ref h8, .ref h9, .int h0f17, .int h0f18, .int h0f19, .ref h10, .ref h11, .ref h12, .ref h13, .int h0f24, .int h0f25, .ref h14, .ref h15, .ref h16, .ref h17, .int y22, .int y56, .ref h18, .ref h19, .ref h20, .ref h21]), (h1, aI (k 0) 36 anI), (h4, aJ (k 1) 9 anJ), (h5, aJ (k 1) 9 anJ), (h15, aJ (k 1) 180 anJ)]) (Tr := [(h16, aI (k 0) 240 (gqP (y22.toInt) (h0f1.toInt) (y56.toInt) (y45.toInt) (y55.toInt)))]) (as := [h0, h1, h4, h5, h15]) (zcV (q0 := 0) (ci := 8) (As := [.int y55, .int y45]) (rest := []) (Tc := [(h0, ob 8 [.int h0f0, .int h0f1, .int h0f2, .int h0f3, .int h0f4, .int h0f5, .ref h1, .ref h2, .int h0f8, .int h0f9, .ref h3, .ref h4, .ref h5, .ref h6, .ref h7, .ref h8, .ref h9, .int h0f17, .int h0f18, .int h0f19, .ref h10, .ref h11, .ref h12, .ref h13, .int h0f24, .int h0f25, .ref h14, .ref h15, .ref h16, .ref h17, .int y22, .int y56, .ref h18, .ref h19, .ref h20, .ref h21]), (h1, aI (k 0) 36 anI), (h4, aJ (k 1) 9 anJ), (h5, aJ (k 1) 9 anJ), (h15, aJ (k 1) 180 anJ)]) hx hb hml hown hU hK hT rfl rfl [0, 1, 2, 3, 4] rfl (by decide) (cX11_goes_98b99 l D k _ h0 h1 h4 h5 h15 h2 h3 h6 h7 h8 h9 h10 h11 h12 h13 h14 h16 h17 h18 h19 h20 h21 y55 y45 h0f0 h0f1 h0f2 h0f3 h0f4 h0f5 h0f8 h0f9 h0f17 h0f18 h0f19 h0f24 h0f25 y22 y56 (by omega) (by omega) (by omega) (by omega) (by omega) (by omega) (by omega) (by omega) (by omega) (by omega) (by omega) (by omega) (by omega) (by omega) (by omega) (by omega) (by omega)) w1143 w1140 w1142 w57 w72 hdX11_goes ⟨rfl, rfl⟩ ⟨Nat.le_of_ble_eq_true rfl, Nat.le_of_ble_eq_true rfl⟩ rfl hl.1 (Nat.le_of_ble_eq_true rfl) dX11_orbit_307 ⟨Nat.le_of_ble_eq_true rfl, Nat.le_of_ble_eq_true rfl⟩) hT hS hA [0, 1, 2, 3, 4] [5] rfl rfl rfl (by decide) (by decide) (fun H locs hB J hS => ?_)
                    have hT1 := hB
                    have hT := J _ hT1
                    have hT : TP D A [(h16, aI (k 0) 240 (gqP (y22.toInt) (h0f1.toInt) (y56.toInt) (y45.toInt) (y55.toInt))), (h0, ob 8 [.int h0f0, .int h0f1, .int h0f2, .int h0f3, .int h0f4, .int h0f5, .ref h1, .ref h2, .int h0f8, .int h0f9, .ref h3, .ref h4, .ref h5, .ref h6, .ref h7, .ref h8, .ref h9, .int h0f17, .int h0f18, .int h0f19, .ref h10, .ref h11, .ref h12, .ref h13, .int h0f24, .int h0f25, .ref h14, .ref h15, .ref h16, .ref h17, .int y22, .int y56, .ref h18, .ref h19, .ref h20, .ref h21]), (h1, aI (k 0) 36 anI), (h4, aJ (k 1) 9 anJ), (h5, aJ (k 1) 9 anJ), (h15, aJ (k 1) 180 anJ)] _ := hT
                    refine lv_aload_n hx hb dX11_orbit_310 rfl (lv_at hl 0 rfl) ?_
                    refine lv_aload_n hx hb dX11_orbit_311 rfl (lv_at hl 0 rfl) ?_
                    refine tz_get (ci := 8) (v := .ref h4) (C := RX11) (F := TX11) (N := 36) hx hb hU iX11 hown hK hT 1 rfl rfl 11 (by decide) w796 (fun _ h9 => h9) rfl dX11_orbit_312 ?_
                    refine lv_iconst (v := 0) hx hb dX11_orbit_315 (by decide) ?_
                    refine tz_lald hx hb hK hT 3 rfl (by have := li_0; omega) dX11_orbit_316 (fun v61 e_v61 => ?_)
                    clear e_v61
                    refine lv_aload_n hx hb dX11_orbit_317 rfl (lv_at hl 0 rfl) ?_
                    refine tz_get (ci := 8) (v := .ref h4) (C := RX11) (F := TX11) (N := 36) hx hb hU iX11 hown hK hT 1 rfl rfl 11 (by decide) w796 (fun _ h9 => h9) rfl dX11_orbit_318 ?_
                    refine lv_iconst (v := 1) hx hb dX11_orbit_321 (by decide) ?_
                    refine tz_lald hx hb hK hT 3 rfl (by have := li_1; omega) dX11_orbit_322 (fun v62 e_v62 => ?_)
                    clear e_v62
                    refine lv_aload_n hx hb dX11_orbit_323 rfl (lv_at hl 0 rfl) ?_
                    refine tz_get (ci := 8) (v := .ref h4) (C := RX11) (F := TX11) (N := 36) hx hb hU iX11 hown hK hT 1 rfl rfl 11 (by decide) w796 (fun _ h9 => h9) rfl dX11_orbit_324 ?_
                    refine lv_iconst (v := 2) hx hb dX11_orbit_327 (by decide) ?_
                    refine tz_lald hx hb hK hT 3 rfl (by have := li_2; omega) dX11_orbit_328 (fun v63 e_v63 => ?_)
                    clear e_v63
                    refine tcI (Tc := [(h0, ob 8 [.int h0f0, .int h0f1, .int h0f2, .int h0f3, .int h0f4, .int h0f5, .ref h1, .ref h2, .int h0f8, .int h0f9, .ref h3, .ref h4, .ref h5, .ref h6, .ref h7, .ref h8, .ref h9, .int h0f17, .int h0f18, .int h0f19, .ref h10, .ref h11, .ref h12, .ref h13, .int h0f24, .int h0f25, .ref h14, .ref h15, .ref h16, .ref h17, .int y22, .int y56, .ref h18, .ref h19, .ref h20, .ref h21]), (h15, aJ (k 1) 180 anJ)]) (Tr := [(h16, aI (k 0) 240 (gqP (y22.toInt) (h0f1.toInt) (y56.toInt) (y45.toInt) (y55.toInt))), (h1, aI (k 0) 36 anI), (h4, aJ (k 1) 9 anJ), (h5, aJ (k 1) 9 anJ)]) (as := [h0, h15]) (zcV (q0 := 1) (ci := 8) (As := [.long v61, .long v62, .long v63]) (rest := []) (Tc := [(h0, ob 8 [.int h0f0, .int h0f1, .int h0f2, .int h0f3, .int h0f4, .int h0f5, .ref h1, .ref h2, .int h0f8, .int h0f9, .ref h3, .ref h4, .ref h5, .ref h6, .ref h7, .ref h8, .ref h9, .int h0f17, .int h0f18, .int h0f19, .ref h10, .ref h11, .ref h12, .ref h13, .int h0f24, .int h0f25, .ref h14, .ref h15, .ref h16, .ref h17, .int y22, .int y56, .ref h18, .ref h19, .ref h20, .ref h21]), (h15, aJ (k 1) 180 anJ)]) hx hb hml hown hU hK hT rfl rfl [1, 5] rfl (by decide) (cX11_placeIn_5f14c l D k _ h0 h15 h1 h2 h3 h4 h5 h6 h7 h8 h9 h10 h11 h12 h13 h14 h16 h17 h18 h19 h20 h21 v61 v62 v63 h0f0 h0f1 h0f2 h0f3 h0f4 h0f5 h0f8 h0f9 h0f17 h0f18 h0f19 h0f24 h0f25 y22 y56 (by omega) (by omega) (by omega) (by omega) (by omega) (by omega) (by omega) (by omega) (by omega) (by omega) (by omega) (by omega) (by omega) (by omega) (by omega)) w1147 w1144 w1146 w58 w72 hdX11_placeIn ⟨rfl, rfl⟩ ⟨Nat.le_of_ble_eq_true rfl, Nat.le_of_ble_eq_true rfl⟩ rfl hl.1 (Nat.le_of_ble_eq_true rfl) dX11_orbit_329 ⟨Nat.le_of_ble_eq_true rfl, Nat.le_of_ble_eq_true rfl⟩) hT hS hA [1, 5] [0, 2, 3, 4] rfl rfl rfl (by decide) (by decide) (fun r64 H locs hB J hS => ?_)
                    rcases hB with ⟨rfl, hT1⟩ | ⟨v65, v66, v67, v68, b_v65, c_69, c_70, c_71, c_72, c_73, c_74, rfl, hT1⟩
                    · skip
                      have hT := J _ hT1
                      have hT : TP D A [(h16, aI (k 0) 240 (gqP (y22.toInt) (h0f1.toInt) (y56.toInt) (y45.toInt) (y55.toInt))), (h1, aI (k 0) 36 anI), (h4, aJ (k 1) 9 anJ), (h5, aJ (k 1) 9 anJ), (h0, ob 8 [.int h0f0, .int h0f1, .int h0f2, .int h0f3, .int h0f4, .int h0f5, .ref h1, .ref h2, .int h0f8, .int h0f9, .ref h3, .ref h4, .ref h5, .ref h6, .ref h7, .ref h8, .ref h9, .int h0f17, .int h0f18, .int h0f19, .ref h10, .ref h11, .ref h12, .ref h13, .int h0f24, .int h0f25, .ref h14, .ref h15, .ref h16, .ref h17, .int y22, .int y56, .ref h18, .ref h19, .ref h20, .ref h21]), (h15, aJ (k 1) 180 anJ)] _ := hT
                      refine lv_istore (lv' := [(6, .int (-1)), (0, .ref h0), (4, .int y45), (5, .int y55)]) hx hb dX11_orbit_332 hl (by decide) rfl (fun ls hl => ?_)
                      refine lv_aload_n hx hb dX11_orbit_334 rfl (lv_at hl 1 rfl) ?_
                      refine tz_get (ci := 8) (v := .ref h16) (C := RX11) (F := TX11) (N := 36) hx hb hU iX11 hown hK hT 4 rfl rfl 28 (by decide) w813 (fun _ h9 => h9) rfl dX11_orbit_335 ?_
                      refine lv_bipush (v := 60) hx hb dX11_orbit_338 (by decide) ?_
                      refine lv_iload hx hb dX11_orbit_340 (lv_at hl 3 rfl) ?_
                      refine lv_imul hx hb dX11_orbit_342 (lv_topi (fun v75 e_v75 => ?_))
                      have e_v75 := ai_mul e_v75 li_60 rfl (by omega)
                      refine lv_iload hx hb dX11_orbit_343 (lv_at hl 2 rfl) ?_
                      refine lv_iadd hx hb dX11_orbit_345 (lv_topi (fun v76 e_v76 => ?_))
                      have e_v76 := ai_add e_v76 rfl rfl (by omega)
                      refine lv_iload hx hb dX11_orbit_346 (lv_at hl 0 rfl) ?_
                      refine tz_iastP hx hb hK hT hS 0 (gqT (y22.toInt) (h0f1.toInt) (y56.toInt) (y45.toInt) (y55.toInt) (((-1) : Int32).toInt)) rfl (by omega) (gq_put (by omega)) dX11_orbit_348 (fun H locs hT hS => ?_)
                      have hT : TP D A [(h16, aI (k 0) 240 (gqT (y22.toInt) (h0f1.toInt) (y56.toInt) (y45.toInt) (y55.toInt) (((-1) : Int32).toInt))), (h1, aI (k 0) 36 anI), (h4, aJ (k 1) 9 anJ), (h5, aJ (k 1) 9 anJ), (h0, ob 8 [.int h0f0, .int h0f1, .int h0f2, .int h0f3, .int h0f4, .int h0f5, .ref h1, .ref h2, .int h0f8, .int h0f9, .ref h3, .ref h4, .ref h5, .ref h6, .ref h7, .ref h8, .ref h9, .int h0f17, .int h0f18, .int h0f19, .ref h10, .ref h11, .ref h12, .ref h13, .int h0f24, .int h0f25, .ref h14, .ref h15, .ref h16, .ref h17, .int y22, .int y56, .ref h18, .ref h19, .ref h20, .ref h21]), (h15, aJ (k 1) 180 anJ)] _ := hT
                      refine lv_aload_n hx hb dX11_orbit_349 rfl (lv_at hl 1 rfl) ?_
                      refine lv_aload_n hx hb dX11_orbit_350 rfl (lv_at hl 1 rfl) ?_
                      refine tz_get (ci := 8) (v := .int y56) (C := RX11) (F := TX11) (N := 36) hx hb hU iX11 hown hK hT 4 rfl rfl 31 (by decide) w816 (fun _ h9 => h9) rfl dX11_orbit_351 ?_
                      refine lv_if_eq (tgt := 366) hx hb dX11_orbit_354 (by decide) (fun c_77 => ?_) (fun c_77 => ?_)
                      · skip
                        have c_77 := ni_eq c_77 rfl li_0
                        refine lv_iconst (v := 0) hx hb dX11_orbit_366 (by decide) ?_
                        refine tz_put (ci := 8) (v := .int 0) (ty := .boolean) (C := RX11) (F := TX11) (N := 36) hx hb hU iX11 tyX11 tyX11_ok nmX11 hown hK hT hS 4 rfl rfl 31 (by decide) w816 (fun _ h9 => h9) rfl (by decide +kernel) rfl rfl (Nat.le_of_ble_eq_true rfl) dX11_orbit_367 (fun H locs hT hS => ?_)
                        have hT : TP D A [(h16, aI (k 0) 240 (gqT (y22.toInt) (h0f1.toInt) (y56.toInt) (y45.toInt) (y55.toInt) (((-1) : Int32).toInt))), (h1, aI (k 0) 36 anI), (h4, aJ (k 1) 9 anJ), (h5, aJ (k 1) 9 anJ), (h0, ob 8 [.int h0f0, .int h0f1, .int h0f2, .int h0f3, .int h0f4, .int h0f5, .ref h1, .ref h2, .int h0f8, .int h0f9, .ref h3, .ref h4, .ref h5, .ref h6, .ref h7, .ref h8, .ref h9, .int h0f17, .int h0f18, .int h0f19, .ref h10, .ref h11, .ref h12, .ref h13, .int h0f24, .int h0f25, .ref h14, .ref h15, .ref h16, .ref h17, .int y22, .int 0, .ref h18, .ref h19, .ref h20, .ref h21]), (h15, aJ (k 1) 180 anJ)] _ := hT
                        obtain ⟨v78, e_v78⟩ : ∃ x : Int32, x = y55 + Int32.ofInt 1 := ⟨_, rfl⟩
                        have f_v78 := e_v78.symm
                        have e_v78 : v78.toInt = y55.toInt + 1 := ai_add e_v78 rfl (show (Int32.ofInt 1).toInt = 1 from (by decide +kernel)) (by omega)
                        refine lv_iinc (v := v78) (lv' := [(5, .int v78), (6, .int (-1)), (0, .ref h0), (4, .int y45)]) hx hb dX11_orbit_370 hl (k := 3) rfl f_v78 (by decide) rfl (fun ls hl => ?_)
                        refine lv_goto (tgt := 293) hx hb dX11_orbit_373 (by decide) ?_
                        have hT := hT.wk (q := 0) (P' := aI (k 0) 240 (gqP (y22.toInt) (h0f1.toInt) ((0 : Int32).toInt) (y45.toInt) (v78.toInt))) rfl (gq_step (by have := li_m1; have := li_0; omega))
                        have hT : TP D A [(h16, aI (k 0) 240 (gqP (y22.toInt) (h0f1.toInt) ((0 : Int32).toInt) (y45.toInt) (v78.toInt))), (h1, aI (k 0) 36 anI), (h4, aJ (k 1) 9 anJ), (h5, aJ (k 1) 9 anJ), (h0, ob 8 [.int h0f0, .int h0f1, .int h0f2, .int h0f3, .int h0f4, .int h0f5, .ref h1, .ref h2, .int h0f8, .int h0f9, .ref h3, .ref h4, .ref h5, .ref h6, .ref h7, .ref h8, .ref h9, .int h0f17, .int h0f18, .int h0f19, .ref h10, .ref h11, .ref h12, .ref h13, .int h0f24, .int h0f25, .ref h14, .ref h15, .ref h16, .ref h17, .int y22, .int 0, .ref h18, .ref h19, .ref h20, .ref h21]), (h15, aJ (k 1) 180 anJ)] _ := hT
                        exact ih293_57 v78 (0) _ _ _ (by have := li_0; omega) (by have := li_0; omega)  (by have := li_0; omega) (hT.sub [4, 1, 2, 3, 5, 0] (by decide) rfl) hS (lv_sub hl [2, 3, 0] rfl)
                      · skip
                        have c_77 := ni_ne c_77 rfl li_0
                        refine lv_iload hx hb dX11_orbit_357 (lv_at hl 0 rfl) ?_
                        refine lv_if_lt (tgt := 366) hx hb dX11_orbit_359 (by decide) (fun _ => ?_) (fun cc => absurd (by decide +kernel) cc)
                        refine lv_iconst (v := 0) hx hb dX11_orbit_366 (by decide) ?_
                        refine tz_put (ci := 8) (v := .int 0) (ty := .boolean) (C := RX11) (F := TX11) (N := 36) hx hb hU iX11 tyX11 tyX11_ok nmX11 hown hK hT hS 4 rfl rfl 31 (by decide) w816 (fun _ h9 => h9) rfl (by decide +kernel) rfl rfl (Nat.le_of_ble_eq_true rfl) dX11_orbit_367 (fun H locs hT hS => ?_)
                        have hT : TP D A [(h16, aI (k 0) 240 (gqT (y22.toInt) (h0f1.toInt) (y56.toInt) (y45.toInt) (y55.toInt) (((-1) : Int32).toInt))), (h1, aI (k 0) 36 anI), (h4, aJ (k 1) 9 anJ), (h5, aJ (k 1) 9 anJ), (h0, ob 8 [.int h0f0, .int h0f1, .int h0f2, .int h0f3, .int h0f4, .int h0f5, .ref h1, .ref h2, .int h0f8, .int h0f9, .ref h3, .ref h4, .ref h5, .ref h6, .ref h7, .ref h8, .ref h9, .int h0f17, .int h0f18, .int h0f19, .ref h10, .ref h11, .ref h12, .ref h13, .int h0f24, .int h0f25, .ref h14, .ref h15, .ref h16, .ref h17, .int y22, .int 0, .ref h18, .ref h19, .ref h20, .ref h21]), (h15, aJ (k 1) 180 anJ)] _ := hT
                        obtain ⟨v79, e_v79⟩ : ∃ x : Int32, x = y55 + Int32.ofInt 1 := ⟨_, rfl⟩
                        have f_v79 := e_v79.symm
                        have e_v79 : v79.toInt = y55.toInt + 1 := ai_add e_v79 rfl (show (Int32.ofInt 1).toInt = 1 from (by decide +kernel)) (by omega)
                        refine lv_iinc (v := v79) (lv' := [(5, .int v79), (6, .int (-1)), (0, .ref h0), (4, .int y45)]) hx hb dX11_orbit_370 hl (k := 3) rfl f_v79 (by decide) rfl (fun ls hl => ?_)
                        refine lv_goto (tgt := 293) hx hb dX11_orbit_373 (by decide) ?_
                        have hT := hT.wk (q := 0) (P' := aI (k 0) 240 (gqP (y22.toInt) (h0f1.toInt) ((0 : Int32).toInt) (y45.toInt) (v79.toInt))) rfl (gq_step (by have := li_m1; have := li_0; omega))
                        have hT : TP D A [(h16, aI (k 0) 240 (gqP (y22.toInt) (h0f1.toInt) ((0 : Int32).toInt) (y45.toInt) (v79.toInt))), (h1, aI (k 0) 36 anI), (h4, aJ (k 1) 9 anJ), (h5, aJ (k 1) 9 anJ), (h0, ob 8 [.int h0f0, .int h0f1, .int h0f2, .int h0f3, .int h0f4, .int h0f5, .ref h1, .ref h2, .int h0f8, .int h0f9, .ref h3, .ref h4, .ref h5, .ref h6, .ref h7, .ref h8, .ref h9, .int h0f17, .int h0f18, .int h0f19, .ref h10, .ref h11, .ref h12, .ref h13, .int h0f24, .int h0f25, .ref h14, .ref h15, .ref h16, .ref h17, .int y22, .int 0, .ref h18, .ref h19, .ref h20, .ref h21]), (h15, aJ (k 1) 180 anJ)] _ := hT
                        exact ih293_57 v79 (0) _ _ _ (by have := li_0; omega) (by have := li_0; omega)  (by have := li_0; omega) (hT.sub [4, 1, 2, 3, 5, 0] (by decide) rfl) hS (lv_sub hl [2, 3, 0] rfl)
                    · skip
                      have hT := J _ hT1
                      have hT : TP D A [(h16, aI (k 0) 240 (gqP (y22.toInt) (h0f1.toInt) (y56.toInt) (y45.toInt) (y55.toInt))), (h1, aI (k 0) 36 anI), (h4, aJ (k 1) 9 anJ), (h5, aJ (k 1) 9 anJ), (h0, ob 8 [.int h0f0, .int h0f1, .int h0f2, .int h0f3, .int h0f4, .int h0f5, .ref h1, .ref h2, .int h0f8, .int h0f9, .ref h3, .ref h4, .ref h5, .ref h6, .ref h7, .ref h8, .ref h9, .int h0f17, .int h0f18, .int h0f19, .ref h10, .ref h11, .ref h12, .ref h13, .int h0f24, .int h0f25, .ref h14, .ref h15, .ref h16, .ref h17, .int y22, .int y56, .ref h18, .ref h19, .ref h20, .ref h21]), (h15, aJ (k 1) 180 anJ)] _ := hT
                      refine lv_istore (lv' := [(6, .int v65), (0, .ref h0), (4, .int y45), (5, .int y55)]) hx hb dX11_orbit_332 hl (by decide) rfl (fun ls hl => ?_)
                      refine lv_aload_n hx hb dX11_orbit_334 rfl (lv_at hl 1 rfl) ?_
                      refine tz_get (ci := 8) (v := .ref h16) (C := RX11) (F := TX11) (N := 36) hx hb hU iX11 hown hK hT 4 rfl rfl 28 (by decide) w813 (fun _ h9 => h9) rfl dX11_orbit_335 ?_
                      refine lv_bipush (v := 60) hx hb dX11_orbit_338 (by decide) ?_
                      refine lv_iload hx hb dX11_orbit_340 (lv_at hl 3 rfl) ?_
                      refine lv_imul hx hb dX11_orbit_342 (lv_topi (fun v80 e_v80 => ?_))
                      have e_v80 := ai_mul e_v80 li_60 rfl (by omega)
                      refine lv_iload hx hb dX11_orbit_343 (lv_at hl 2 rfl) ?_
                      refine lv_iadd hx hb dX11_orbit_345 (lv_topi (fun v81 e_v81 => ?_))
                      have e_v81 := ai_add e_v81 rfl rfl (by omega)
                      refine lv_iload hx hb dX11_orbit_346 (lv_at hl 0 rfl) ?_
                      refine tz_iastP hx hb hK hT hS 0 (gqT (y22.toInt) (h0f1.toInt) (y56.toInt) (y45.toInt) (y55.toInt) (v65.toInt)) rfl (by omega) (gq_put (by omega)) dX11_orbit_348 (fun H locs hT hS => ?_)
                      have hT : TP D A [(h16, aI (k 0) 240 (gqT (y22.toInt) (h0f1.toInt) (y56.toInt) (y45.toInt) (y55.toInt) (v65.toInt))), (h1, aI (k 0) 36 anI), (h4, aJ (k 1) 9 anJ), (h5, aJ (k 1) 9 anJ), (h0, ob 8 [.int h0f0, .int h0f1, .int h0f2, .int h0f3, .int h0f4, .int h0f5, .ref h1, .ref h2, .int h0f8, .int h0f9, .ref h3, .ref h4, .ref h5, .ref h6, .ref h7, .ref h8, .ref h9, .int h0f17, .int h0f18, .int h0f19, .ref h10, .ref h11, .ref h12, .ref h13, .int h0f24, .int h0f25, .ref h14, .ref h15, .ref h16, .ref h17, .int y22, .int y56, .ref h18, .ref h19, .ref h20, .ref h21]), (h15, aJ (k 1) 180 anJ)] _ := hT
                      refine lv_aload_n hx hb dX11_orbit_349 rfl (lv_at hl 1 rfl) ?_
                      refine lv_aload_n hx hb dX11_orbit_350 rfl (lv_at hl 1 rfl) ?_
                      refine tz_get (ci := 8) (v := .int y56) (C := RX11) (F := TX11) (N := 36) hx hb hU iX11 hown hK hT 4 rfl rfl 31 (by decide) w816 (fun _ h9 => h9) rfl dX11_orbit_351 ?_
                      refine lv_if_eq (tgt := 366) hx hb dX11_orbit_354 (by decide) (fun c_82 => ?_) (fun c_82 => ?_)
                      · skip
                        have c_82 := ni_eq c_82 rfl li_0
                        refine lv_iconst (v := 0) hx hb dX11_orbit_366 (by decide) ?_
                        refine tz_put (ci := 8) (v := .int 0) (ty := .boolean) (C := RX11) (F := TX11) (N := 36) hx hb hU iX11 tyX11 tyX11_ok nmX11 hown hK hT hS 4 rfl rfl 31 (by decide) w816 (fun _ h9 => h9) rfl (by decide +kernel) rfl rfl (Nat.le_of_ble_eq_true rfl) dX11_orbit_367 (fun H locs hT hS => ?_)
                        have hT : TP D A [(h16, aI (k 0) 240 (gqT (y22.toInt) (h0f1.toInt) (y56.toInt) (y45.toInt) (y55.toInt) (v65.toInt))), (h1, aI (k 0) 36 anI), (h4, aJ (k 1) 9 anJ), (h5, aJ (k 1) 9 anJ), (h0, ob 8 [.int h0f0, .int h0f1, .int h0f2, .int h0f3, .int h0f4, .int h0f5, .ref h1, .ref h2, .int h0f8, .int h0f9, .ref h3, .ref h4, .ref h5, .ref h6, .ref h7, .ref h8, .ref h9, .int h0f17, .int h0f18, .int h0f19, .ref h10, .ref h11, .ref h12, .ref h13, .int h0f24, .int h0f25, .ref h14, .ref h15, .ref h16, .ref h17, .int y22, .int 0, .ref h18, .ref h19, .ref h20, .ref h21]), (h15, aJ (k 1) 180 anJ)] _ := hT
                        obtain ⟨v83, e_v83⟩ : ∃ x : Int32, x = y55 + Int32.ofInt 1 := ⟨_, rfl⟩
                        have f_v83 := e_v83.symm
                        have e_v83 : v83.toInt = y55.toInt + 1 := ai_add e_v83 rfl (show (Int32.ofInt 1).toInt = 1 from (by decide +kernel)) (by omega)
                        refine lv_iinc (v := v83) (lv' := [(5, .int v83), (6, .int v65), (0, .ref h0), (4, .int y45)]) hx hb dX11_orbit_370 hl (k := 3) rfl f_v83 (by decide) rfl (fun ls hl => ?_)
                        refine lv_goto (tgt := 293) hx hb dX11_orbit_373 (by decide) ?_
                        have hT := hT.wk (q := 0) (P' := aI (k 0) 240 (gqP (y22.toInt) (h0f1.toInt) ((0 : Int32).toInt) (y45.toInt) (v83.toInt))) rfl (gq_step (by have := li_0; omega))
                        have hT : TP D A [(h16, aI (k 0) 240 (gqP (y22.toInt) (h0f1.toInt) ((0 : Int32).toInt) (y45.toInt) (v83.toInt))), (h1, aI (k 0) 36 anI), (h4, aJ (k 1) 9 anJ), (h5, aJ (k 1) 9 anJ), (h0, ob 8 [.int h0f0, .int h0f1, .int h0f2, .int h0f3, .int h0f4, .int h0f5, .ref h1, .ref h2, .int h0f8, .int h0f9, .ref h3, .ref h4, .ref h5, .ref h6, .ref h7, .ref h8, .ref h9, .int h0f17, .int h0f18, .int h0f19, .ref h10, .ref h11, .ref h12, .ref h13, .int h0f24, .int h0f25, .ref h14, .ref h15, .ref h16, .ref h17, .int y22, .int 0, .ref h18, .ref h19, .ref h20, .ref h21]), (h15, aJ (k 1) 180 anJ)] _ := hT
                        exact ih293_57 v83 (0) _ _ _ (by have := li_0; omega) (by have := li_0; omega)  (by have := li_0; omega) (hT.sub [4, 1, 2, 3, 5, 0] (by decide) rfl) hS (lv_sub hl [2, 3, 0] rfl)
                      · skip
                        have c_82 := ni_ne c_82 rfl li_0
                        refine lv_iload hx hb dX11_orbit_357 (lv_at hl 0 rfl) ?_
                        refine lv_if_lt (tgt := 366) hx hb dX11_orbit_359 (by decide) (fun c_84 => ?_) (fun c_84 => ?_)
                        · skip
                          have c_84 := ni_lt c_84 rfl li_0
                          exfalso; omega
                        · skip
                          have c_84 := ni_nlt c_84 rfl li_0
                          refine lv_iconst (v := 1) hx hb dX11_orbit_362 (by decide) ?_
                          refine lv_goto (tgt := 367) hx hb dX11_orbit_363 (by decide) ?_
                          refine tz_put (ci := 8) (v := .int 1) (ty := .boolean) (C := RX11) (F := TX11) (N := 36) hx hb hU iX11 tyX11 tyX11_ok nmX11 hown hK hT hS 4 rfl rfl 31 (by decide) w816 (fun _ h9 => h9) rfl (by decide +kernel) rfl rfl (Nat.le_of_ble_eq_true rfl) dX11_orbit_367 (fun H locs hT hS => ?_)
                          have hT : TP D A [(h16, aI (k 0) 240 (gqT (y22.toInt) (h0f1.toInt) (y56.toInt) (y45.toInt) (y55.toInt) (v65.toInt))), (h1, aI (k 0) 36 anI), (h4, aJ (k 1) 9 anJ), (h5, aJ (k 1) 9 anJ), (h0, ob 8 [.int h0f0, .int h0f1, .int h0f2, .int h0f3, .int h0f4, .int h0f5, .ref h1, .ref h2, .int h0f8, .int h0f9, .ref h3, .ref h4, .ref h5, .ref h6, .ref h7, .ref h8, .ref h9, .int h0f17, .int h0f18, .int h0f19, .ref h10, .ref h11, .ref h12, .ref h13, .int h0f24, .int h0f25, .ref h14, .ref h15, .ref h16, .ref h17, .int y22, .int 1, .ref h18, .ref h19, .ref h20, .ref h21]), (h15, aJ (k 1) 180 anJ)] _ := hT
                          obtain ⟨v85, e_v85⟩ : ∃ x : Int32, x = y55 + Int32.ofInt 1 := ⟨_, rfl⟩
                          have f_v85 := e_v85.symm
                          have e_v85 : v85.toInt = y55.toInt + 1 := ai_add e_v85 rfl (show (Int32.ofInt 1).toInt = 1 from (by decide +kernel)) (by omega)
                          refine lv_iinc (v := v85) (lv' := [(5, .int v85), (6, .int v65), (0, .ref h0), (4, .int y45)]) hx hb dX11_orbit_370 hl (k := 3) rfl f_v85 (by decide) rfl (fun ls hl => ?_)
                          refine lv_goto (tgt := 293) hx hb dX11_orbit_373 (by decide) ?_
                          have hT := hT.wk (q := 0) (P' := aI (k 0) 240 (gqP (y22.toInt) (h0f1.toInt) ((1 : Int32).toInt) (y45.toInt) (v85.toInt))) rfl (gq_step (by have := li_1; omega))
                          have hT : TP D A [(h16, aI (k 0) 240 (gqP (y22.toInt) (h0f1.toInt) ((1 : Int32).toInt) (y45.toInt) (v85.toInt))), (h1, aI (k 0) 36 anI), (h4, aJ (k 1) 9 anJ), (h5, aJ (k 1) 9 anJ), (h0, ob 8 [.int h0f0, .int h0f1, .int h0f2, .int h0f3, .int h0f4, .int h0f5, .ref h1, .ref h2, .int h0f8, .int h0f9, .ref h3, .ref h4, .ref h5, .ref h6, .ref h7, .ref h8, .ref h9, .int h0f17, .int h0f18, .int h0f19, .ref h10, .ref h11, .ref h12, .ref h13, .int h0f24, .int h0f25, .ref h14, .ref h15, .ref h16, .ref h17, .int y22, .int 1, .ref h18, .ref h19, .ref h20, .ref h21]), (h15, aJ (k 1) 180 anJ)] _ := hT
                          exact ih293_57 v85 (1) _ _ _ (by have := li_1; omega) (by have := li_1; omega)  (by have := li_1; omega) (hT.sub [4, 1, 2, 3, 5, 0] (by decide) rfl) hS (lv_sub hl [2, 3, 0] rfl)
              exact lp293_57 ((h0f1.toInt + (-1) * (0 : Int32).toInt + 1).toNat + 1) (0) y46 _ _ _ (by have := li_0; omega) (by have := li_0; omega)  (Nat.lt_succ_self _) hT hS (lv_sub hl [1, 2, 0] rfl)
        exact lp281_47 ((y22.toInt + (-1) * (0 : Int32).toInt + 1).toNat + 1) (0) (1) _ _ _ (by have := li_0; have := li_1; omega) (by have := li_0; have := li_1; omega)  (Nat.lt_succ_self _) hT hS (lv_sub hl [1, 0] rfl)
      · skip
        have c_24 := ni_nle c_24 rfl rfl
        refine lv_iconst (v := 0) hx hb dX11_orbit_76 (by decide) ?_
        refine lv_istore (lv' := [(5, .int 0), (0, .ref h0), (4, .int y21)]) hx hb dX11_orbit_77 hl (by decide) rfl (fun ls hl => ?_)
        have lp79_94 : ∀ (n : Nat) (y92 : Int32) (y93 : Int32) (H : Heap) (locs : List Loc) (ls : Array Slot), (0 ≤ y92.toInt ∧ y92.toInt ≤ 4) → (1 ≤ y93.toInt ∧ y93.toInt ≤ 60) → (h0f1.toInt + (-1) * y92.toInt + 1).toNat < n → TP D A [(h0, ob 8 [.int h0f0, .int h0f1, .int h0f2, .int h0f3, .int h0f4, .int h0f5, .ref h1, .ref h2, .int h0f8, .int h0f9, .ref h3, .ref h4, .ref h5, .ref h6, .ref h7, .ref h8, .ref h9, .int h0f17, .int h0f18, .int h0f19, .ref h10, .ref h11, .ref h12, .ref h13, .int h0f24, .int h0f25, .ref h14, .ref h15, .ref h16, .ref h17, .int y93, .int h0f31, .ref h18, .ref h19, .ref h20, .ref h21]), (h1, aI (k 0) 36 anI), (h4, aJ (k 1) 9 anJ), (h5, aJ (k 1) 9 anJ), (h15, aJ (k 1) 180 anJ), (h16, aI (k 0) 240 (gtP (h0f30.toInt) (h0f1.toInt) (h0f31.toInt)))] H → va_S A s.heap H locs → lv_has ls 7 [(0, .ref h0), (4, .int y21), (5, .int y92)] → W p l e Rm_cX11_orbit_a376b s m args below meth c H locs 0 0 Q (F0 m 79 ls []) := by
          intro n
          induction n with
          | zero => intro y92 y93 H locs ls b_y92 b_y93 hm hT hS hl; exact absurd hm (Nat.not_lt_zero _)
          | succ n ih =>
            intro y92 y93 H locs ls b_y92 b_y93 hm hT hS hl
            have ih79_94 := ih
            clear ih
            refine lv_iload hx hb dX11_orbit_79 (lv_at hl 2 rfl) ?_
            refine lv_aload_n hx hb dX11_orbit_81 rfl (lv_at hl 0 rfl) ?_
            refine tz_get (ci := 8) (v := .int h0f1) (C := RX11) (F := TX11) (N := 36) hx hb hU iX11 hown hK hT 0 rfl rfl 1 (by decide) w786 (fun _ h9 => h9) rfl dX11_orbit_82 ?_
            refine lv_icmp_ge (tgt := 267) hx hb dX11_orbit_85 (by decide) (fun c_95 => ?_) (fun c_95 => ?_)
            · skip
              have c_95 := ni_le c_95 rfl rfl
              obtain ⟨v96, e_v96⟩ : ∃ x : Int32, x = y21 + Int32.ofInt 1 := ⟨_, rfl⟩
              have f_v96 := e_v96.symm
              have e_v96 : v96.toInt = y21.toInt + 1 := ai_add e_v96 rfl (show (Int32.ofInt 1).toInt = 1 from (by decide +kernel)) (by omega)
              refine lv_iinc (v := v96) (lv' := [(4, .int v96), (0, .ref h0), (5, .int y92)]) hx hb dX11_orbit_267 hl (k := 1) rfl f_v96 (by decide) rfl (fun ls hl => ?_)
              refine lv_goto (tgt := 67) hx hb dX11_orbit_270 (by decide) ?_
              exact ih67_23 v96 y93 _ _ _ (by omega) (by omega)  (by omega) hT hS (lv_sub hl [1, 0] rfl)
            · skip
              have c_95 := ni_nle c_95 rfl rfl
              refine lv_aload_n hx hb dX11_orbit_88 rfl (lv_at hl 0 rfl) ?_
              refine tz_get (ci := 8) (v := .int y93) (C := RX11) (F := TX11) (N := 36) hx hb hU iX11 hown hK hT 0 rfl rfl 30 (by decide) w815 (fun _ h9 => h9) rfl dX11_orbit_89 ?_
              refine lv_bipush (v := 60) hx hb dX11_orbit_92 (by decide) ?_
              refine lv_icmp_ge (tgt := 267) hx hb dX11_orbit_94 (by decide) (fun c_97 => ?_) (fun c_97 => ?_)
              · skip
                have c_97 := ni_le c_97 li_60 rfl
                obtain ⟨v98, e_v98⟩ : ∃ x : Int32, x = y21 + Int32.ofInt 1 := ⟨_, rfl⟩
                have f_v98 := e_v98.symm
                have e_v98 : v98.toInt = y21.toInt + 1 := ai_add e_v98 rfl (show (Int32.ofInt 1).toInt = 1 from (by decide +kernel)) (by omega)
                refine lv_iinc (v := v98) (lv' := [(4, .int v98), (0, .ref h0), (5, .int y92)]) hx hb dX11_orbit_267 hl (k := 1) rfl f_v98 (by decide) rfl (fun ls hl => ?_)
                refine lv_goto (tgt := 67) hx hb dX11_orbit_270 (by decide) ?_
                exact ih67_23 v98 y93 _ _ _ (by omega) (by omega)  (by omega) hT hS (lv_sub hl [1, 0] rfl)
              · skip
                have c_97 := ni_nle c_97 li_60 rfl
                refine lv_aload_n hx hb dX11_orbit_97 rfl (lv_at hl 0 rfl) ?_
                refine lv_iload hx hb dX11_orbit_98 (lv_at hl 2 rfl) ?_
                refine lv_iload hx hb dX11_orbit_100 (lv_at hl 1 rfl) ?_
                refine tcV (Tc := [(h0, ob 8 [.int h0f0, .int h0f1, .int h0f2, .int h0f3, .int h0f4, .int h0f5, .ref h1, .ref h2, .int h0f8, .int h0f9, .ref h3, .ref h4, .ref h5, .ref h6, .ref h7, .ref h8, .ref h9, .int h0f17, .int h0f18, .int h0f19, .ref h10, .ref h11, .ref h12, .ref h13, .int h0f24, .int h0f25, .ref h14, .ref h15, .ref h16, .ref h17, .int y93, .int h0f31, .ref h18, .ref h19, .ref h20, .ref h21]), (h1, aI (k 0) 36 anI), (h4, aJ (k 1) 9 anJ), (h5, aJ (k 1) 9 anJ), (h15, aJ (k 1) 180 anJ)]) (Tr := [(h16, aI (k 0) 240 (gtP (h0f30.toInt) (h0f1.toInt) (h0f31.toInt)))]) (as := [h0, h1, h4, h5, h15]) (zcV (q0 := 0) (ci := 8) (As := [.int y92, .int y21]) (rest := []) (Tc := [(h0, ob 8 [.int h0f0, .int h0f1, .int h0f2, .int h0f3, .int h0f4, .int h0f5, .ref h1, .ref h2, .int h0f8, .int h0f9, .ref h3, .ref h4, .ref h5, .ref h6, .ref h7, .ref h8, .ref h9, .int h0f17, .int h0f18, .int h0f19, .ref h10, .ref h11, .ref h12, .ref h13, .int h0f24, .int h0f25, .ref h14, .ref h15, .ref h16, .ref h17, .int y93, .int h0f31, .ref h18, .ref h19, .ref h20, .ref h21]), (h1, aI (k 0) 36 anI), (h4, aJ (k 1) 9 anJ), (h5, aJ (k 1) 9 anJ), (h15, aJ (k 1) 180 anJ)]) hx hb hml hown hU hK hT rfl rfl [0, 1, 2, 3, 4] rfl (by decide) (cX11_goes_2c708 l D k _ h0 h1 h4 h5 h15 h2 h3 h6 h7 h8 h9 h10 h11 h12 h13 h14 h16 h17 h18 h19 h20 h21 y92 y21 h0f0 h0f1 h0f2 h0f3 h0f4 h0f5 h0f8 h0f9 h0f17 h0f18 h0f19 h0f24 h0f25 y93 h0f31 (by omega) (by omega) (by omega) (by omega) (by omega) (by omega) (by omega) (by omega) (by omega) (by omega) (by omega) (by omega) (by omega) (by omega) (by omega) (by omega) (by omega)) w1143 w1140 w1142 w57 w72 hdX11_goes ⟨rfl, rfl⟩ ⟨Nat.le_of_ble_eq_true rfl, Nat.le_of_ble_eq_true rfl⟩ rfl hl.1 (Nat.le_of_ble_eq_true rfl) dX11_orbit_102 ⟨Nat.le_of_ble_eq_true rfl, Nat.le_of_ble_eq_true rfl⟩) hT hS hA [0, 1, 2, 3, 4] [5] rfl rfl rfl (by decide) (by decide) (fun H locs hB J hS => ?_)
                have hT1 := hB
                have hT := J _ hT1
                have hT : TP D A [(h16, aI (k 0) 240 (gtP (h0f30.toInt) (h0f1.toInt) (h0f31.toInt))), (h0, ob 8 [.int h0f0, .int h0f1, .int h0f2, .int h0f3, .int h0f4, .int h0f5, .ref h1, .ref h2, .int h0f8, .int h0f9, .ref h3, .ref h4, .ref h5, .ref h6, .ref h7, .ref h8, .ref h9, .int h0f17, .int h0f18, .int h0f19, .ref h10, .ref h11, .ref h12, .ref h13, .int h0f24, .int h0f25, .ref h14, .ref h15, .ref h16, .ref h17, .int y93, .int h0f31, .ref h18, .ref h19, .ref h20, .ref h21]), (h1, aI (k 0) 36 anI), (h4, aJ (k 1) 9 anJ), (h5, aJ (k 1) 9 anJ), (h15, aJ (k 1) 180 anJ)] _ := hT
                refine lv_aload_n hx hb dX11_orbit_105 rfl (lv_at hl 0 rfl) ?_
                refine tz_get (ci := 8) (v := .ref h4) (C := RX11) (F := TX11) (N := 36) hx hb hU iX11 hown hK hT 1 rfl rfl 11 (by decide) w796 (fun _ h9 => h9) rfl dX11_orbit_106 ?_
                refine lv_iconst (v := 0) hx hb dX11_orbit_109 (by decide) ?_
                refine tz_lald hx hb hK hT 3 rfl (by have := li_0; omega) dX11_orbit_110 (fun v100 e_v100 => ?_)
                clear e_v100
                refine lv_ldc2 hx hb hown (hU _ w981) dX11_orbit_111 ?_
                refine lv_ldc2 hx hb hown (hU _ w982) dX11_orbit_114 ?_
                have q_q102 := ll_m1000000000
                have q_q103 := ll_1000000000
                refine tcI (Tc := []) (Tr := [(h16, aI (k 0) 240 (gtP (h0f30.toInt) (h0f1.toInt) (h0f31.toInt))), (h0, ob 8 [.int h0f0, .int h0f1, .int h0f2, .int h0f3, .int h0f4, .int h0f5, .ref h1, .ref h2, .int h0f8, .int h0f9, .ref h3, .ref h4, .ref h5, .ref h6, .ref h7, .ref h8, .ref h9, .int h0f17, .int h0f18, .int h0f19, .ref h10, .ref h11, .ref h12, .ref h13, .int h0f24, .int h0f25, .ref h14, .ref h15, .ref h16, .ref h17, .int y93, .int h0f31, .ref h18, .ref h19, .ref h20, .ref h21]), (h1, aI (k 0) 36 anI), (h4, aJ (k 1) 9 anJ), (h5, aJ (k 1) 9 anJ), (h15, aJ (k 1) 180 anJ)]) (as := []) (zcS (As := [.long v100, .long (-1000000000), .long 1000000000]) (rest := []) (Tc := []) hx hb hml hown hU hK hT [] rfl (by decide) (cX11_in_ca3b9 l D k _ v100 ((-1000000000)) (1000000000) (by have := ll_m1000000000; omega) (by have := ll_1000000000; omega)) w901 w899 w900 w72 hdX11_in ⟨rfl, rfl⟩ ⟨Nat.le_of_ble_eq_true rfl, Nat.le_of_ble_eq_true rfl⟩ rfl hl.1 (Nat.le_of_ble_eq_true rfl) dX11_orbit_117 ⟨Nat.le_of_ble_eq_true rfl, Nat.le_of_ble_eq_true rfl⟩) hT hS hA [] [0, 1, 2, 3, 4, 5] rfl rfl rfl (by decide) (by decide) (fun r101 H locs hB J hS => ?_)
                rcases hB with ⟨rfl, hT1⟩ | ⟨c_104, c_105, rfl, hT1⟩
                · skip
                  have hT := J _ hT1
                  have hT : TP D A [(h16, aI (k 0) 240 (gtP (h0f30.toInt) (h0f1.toInt) (h0f31.toInt))), (h0, ob 8 [.int h0f0, .int h0f1, .int h0f2, .int h0f3, .int h0f4, .int h0f5, .ref h1, .ref h2, .int h0f8, .int h0f9, .ref h3, .ref h4, .ref h5, .ref h6, .ref h7, .ref h8, .ref h9, .int h0f17, .int h0f18, .int h0f19, .ref h10, .ref h11, .ref h12, .ref h13, .int h0f24, .int h0f25, .ref h14, .ref h15, .ref h16, .ref h17, .int y93, .int h0f31, .ref h18, .ref h19, .ref h20, .ref h21]), (h1, aI (k 0) 36 anI), (h4, aJ (k 1) 9 anJ), (h5, aJ (k 1) 9 anJ), (h15, aJ (k 1) 180 anJ)] _ := hT
                  refine lv_if_eq (tgt := 163) hx hb dX11_orbit_120 (by decide) (fun _ => ?_) (fun cc => absurd (by decide +kernel) cc)
                  refine lv_iconst (v := 0) hx hb dX11_orbit_163 (by decide) ?_
                  refine lv_istore (lv' := [(6, .int 0), (0, .ref h0), (4, .int y21), (5, .int y92)]) hx hb dX11_orbit_164 hl (by decide) rfl (fun ls hl => ?_)
                  refine lv_iload hx hb dX11_orbit_166 (lv_at hl 0 rfl) ?_
                  refine lv_if_eq (tgt := 261) hx hb dX11_orbit_168 (by decide) (fun _ => ?_) (fun cc => absurd (by decide +kernel) cc)
                  obtain ⟨v106, e_v106⟩ : ∃ x : Int32, x = y92 + Int32.ofInt 1 := ⟨_, rfl⟩
                  have f_v106 := e_v106.symm
                  have e_v106 : v106.toInt = y92.toInt + 1 := ai_add e_v106 rfl (show (Int32.ofInt 1).toInt = 1 from (by decide +kernel)) (by omega)
                  refine lv_iinc (v := v106) (lv' := [(5, .int v106), (6, .int 0), (0, .ref h0), (4, .int y21)]) hx hb dX11_orbit_261 hl (k := 3) rfl f_v106 (by decide) rfl (fun ls hl => ?_)
                  refine lv_goto (tgt := 79) hx hb dX11_orbit_264 (by decide) ?_
                  exact ih79_94 v106 y93 _ _ _ (by omega) (by omega)  (by omega) (hT.sub [1, 2, 3, 4, 5, 0] (by decide) rfl) hS (lv_sub hl [2, 3, 0] rfl)
                · skip
                  have hT := J _ hT1
                  have hT : TP D A [(h16, aI (k 0) 240 (gtP (h0f30.toInt) (h0f1.toInt) (h0f31.toInt))), (h0, ob 8 [.int h0f0, .int h0f1, .int h0f2, .int h0f3, .int h0f4, .int h0f5, .ref h1, .ref h2, .int h0f8, .int h0f9, .ref h3, .ref h4, .ref h5, .ref h6, .ref h7, .ref h8, .ref h9, .int h0f17, .int h0f18, .int h0f19, .ref h10, .ref h11, .ref h12, .ref h13, .int h0f24, .int h0f25, .ref h14, .ref h15, .ref h16, .ref h17, .int y93, .int h0f31, .ref h18, .ref h19, .ref h20, .ref h21]), (h1, aI (k 0) 36 anI), (h4, aJ (k 1) 9 anJ), (h5, aJ (k 1) 9 anJ), (h15, aJ (k 1) 180 anJ)] _ := hT
                  refine lv_if_eq (tgt := 163) hx hb dX11_orbit_120 (by decide) (fun cc => absurd cc (by decide +kernel)) (fun _ => ?_)
                  refine lv_aload_n hx hb dX11_orbit_123 rfl (lv_at hl 0 rfl) ?_
                  refine tz_get (ci := 8) (v := .ref h4) (C := RX11) (F := TX11) (N := 36) hx hb hU iX11 hown hK hT 1 rfl rfl 11 (by decide) w796 (fun _ h9 => h9) rfl dX11_orbit_124 ?_
                  refine lv_iconst (v := 1) hx hb dX11_orbit_127 (by decide) ?_
                  refine tz_lald hx hb hK hT 3 rfl (by have := li_1; omega) dX11_orbit_128 (fun v107 e_v107 => ?_)
                  clear e_v107
                  refine lv_ldc2 hx hb hown (hU _ w981) dX11_orbit_129 ?_
                  refine lv_ldc2 hx hb hown (hU _ w982) dX11_orbit_132 ?_
                  have q_q109 := ll_m1000000000
                  have q_q110 := ll_1000000000
                  refine tcI (Tc := []) (Tr := [(h16, aI (k 0) 240 (gtP (h0f30.toInt) (h0f1.toInt) (h0f31.toInt))), (h0, ob 8 [.int h0f0, .int h0f1, .int h0f2, .int h0f3, .int h0f4, .int h0f5, .ref h1, .ref h2, .int h0f8, .int h0f9, .ref h3, .ref h4, .ref h5, .ref h6, .ref h7, .ref h8, .ref h9, .int h0f17, .int h0f18, .int h0f19, .ref h10, .ref h11, .ref h12, .ref h13, .int h0f24, .int h0f25, .ref h14, .ref h15, .ref h16, .ref h17, .int y93, .int h0f31, .ref h18, .ref h19, .ref h20, .ref h21]), (h1, aI (k 0) 36 anI), (h4, aJ (k 1) 9 anJ), (h5, aJ (k 1) 9 anJ), (h15, aJ (k 1) 180 anJ)]) (as := []) (zcS (As := [.long v107, .long (-1000000000), .long 1000000000]) (rest := []) (Tc := []) hx hb hml hown hU hK hT [] rfl (by decide) (cX11_in_ca3b9 l D k _ v107 ((-1000000000)) (1000000000) (by have := ll_m1000000000; omega) (by have := ll_1000000000; omega)) w901 w899 w900 w72 hdX11_in ⟨rfl, rfl⟩ ⟨Nat.le_of_ble_eq_true rfl, Nat.le_of_ble_eq_true rfl⟩ rfl hl.1 (Nat.le_of_ble_eq_true rfl) dX11_orbit_135 ⟨Nat.le_of_ble_eq_true rfl, Nat.le_of_ble_eq_true rfl⟩) hT hS hA [] [0, 1, 2, 3, 4, 5] rfl rfl rfl (by decide) (by decide) (fun r108 H locs hB J hS => ?_)
                  rcases hB with ⟨rfl, hT1⟩ | ⟨c_111, c_112, rfl, hT1⟩
                  · skip
                    have hT := J _ hT1
                    have hT : TP D A [(h16, aI (k 0) 240 (gtP (h0f30.toInt) (h0f1.toInt) (h0f31.toInt))), (h0, ob 8 [.int h0f0, .int h0f1, .int h0f2, .int h0f3, .int h0f4, .int h0f5, .ref h1, .ref h2, .int h0f8, .int h0f9, .ref h3, .ref h4, .ref h5, .ref h6, .ref h7, .ref h8, .ref h9, .int h0f17, .int h0f18, .int h0f19, .ref h10, .ref h11, .ref h12, .ref h13, .int h0f24, .int h0f25, .ref h14, .ref h15, .ref h16, .ref h17, .int y93, .int h0f31, .ref h18, .ref h19, .ref h20, .ref h21]), (h1, aI (k 0) 36 anI), (h4, aJ (k 1) 9 anJ), (h5, aJ (k 1) 9 anJ), (h15, aJ (k 1) 180 anJ)] _ := hT
                    refine lv_if_eq (tgt := 163) hx hb dX11_orbit_138 (by decide) (fun _ => ?_) (fun cc => absurd (by decide +kernel) cc)
                    refine lv_iconst (v := 0) hx hb dX11_orbit_163 (by decide) ?_
                    refine lv_istore (lv' := [(6, .int 0), (0, .ref h0), (4, .int y21), (5, .int y92)]) hx hb dX11_orbit_164 hl (by decide) rfl (fun ls hl => ?_)
                    refine lv_iload hx hb dX11_orbit_166 (lv_at hl 0 rfl) ?_
                    refine lv_if_eq (tgt := 261) hx hb dX11_orbit_168 (by decide) (fun _ => ?_) (fun cc => absurd (by decide +kernel) cc)
                    obtain ⟨v113, e_v113⟩ : ∃ x : Int32, x = y92 + Int32.ofInt 1 := ⟨_, rfl⟩
                    have f_v113 := e_v113.symm
                    have e_v113 : v113.toInt = y92.toInt + 1 := ai_add e_v113 rfl (show (Int32.ofInt 1).toInt = 1 from (by decide +kernel)) (by omega)
                    refine lv_iinc (v := v113) (lv' := [(5, .int v113), (6, .int 0), (0, .ref h0), (4, .int y21)]) hx hb dX11_orbit_261 hl (k := 3) rfl f_v113 (by decide) rfl (fun ls hl => ?_)
                    refine lv_goto (tgt := 79) hx hb dX11_orbit_264 (by decide) ?_
                    exact ih79_94 v113 y93 _ _ _ (by omega) (by omega)  (by omega) (hT.sub [1, 2, 3, 4, 5, 0] (by decide) rfl) hS (lv_sub hl [2, 3, 0] rfl)
                  · skip
                    have hT := J _ hT1
                    have hT : TP D A [(h16, aI (k 0) 240 (gtP (h0f30.toInt) (h0f1.toInt) (h0f31.toInt))), (h0, ob 8 [.int h0f0, .int h0f1, .int h0f2, .int h0f3, .int h0f4, .int h0f5, .ref h1, .ref h2, .int h0f8, .int h0f9, .ref h3, .ref h4, .ref h5, .ref h6, .ref h7, .ref h8, .ref h9, .int h0f17, .int h0f18, .int h0f19, .ref h10, .ref h11, .ref h12, .ref h13, .int h0f24, .int h0f25, .ref h14, .ref h15, .ref h16, .ref h17, .int y93, .int h0f31, .ref h18, .ref h19, .ref h20, .ref h21]), (h1, aI (k 0) 36 anI), (h4, aJ (k 1) 9 anJ), (h5, aJ (k 1) 9 anJ), (h15, aJ (k 1) 180 anJ)] _ := hT
                    refine lv_if_eq (tgt := 163) hx hb dX11_orbit_138 (by decide) (fun cc => absurd cc (by decide +kernel)) (fun _ => ?_)
                    refine lv_aload_n hx hb dX11_orbit_141 rfl (lv_at hl 0 rfl) ?_
                    refine tz_get (ci := 8) (v := .ref h4) (C := RX11) (F := TX11) (N := 36) hx hb hU iX11 hown hK hT 1 rfl rfl 11 (by decide) w796 (fun _ h9 => h9) rfl dX11_orbit_142 ?_
                    refine lv_iconst (v := 2) hx hb dX11_orbit_145 (by decide) ?_
                    refine tz_lald hx hb hK hT 3 rfl (by have := li_2; omega) dX11_orbit_146 (fun v114 e_v114 => ?_)
                    clear e_v114
                    refine lv_ldc2 hx hb hown (hU _ w981) dX11_orbit_147 ?_
                    refine lv_ldc2 hx hb hown (hU _ w982) dX11_orbit_150 ?_
                    have q_q116 := ll_m1000000000
                    have q_q117 := ll_1000000000
                    refine tcI (Tc := []) (Tr := [(h16, aI (k 0) 240 (gtP (h0f30.toInt) (h0f1.toInt) (h0f31.toInt))), (h0, ob 8 [.int h0f0, .int h0f1, .int h0f2, .int h0f3, .int h0f4, .int h0f5, .ref h1, .ref h2, .int h0f8, .int h0f9, .ref h3, .ref h4, .ref h5, .ref h6, .ref h7, .ref h8, .ref h9, .int h0f17, .int h0f18, .int h0f19, .ref h10, .ref h11, .ref h12, .ref h13, .int h0f24, .int h0f25, .ref h14, .ref h15, .ref h16, .ref h17, .int y93, .int h0f31, .ref h18, .ref h19, .ref h20, .ref h21]), (h1, aI (k 0) 36 anI), (h4, aJ (k 1) 9 anJ), (h5, aJ (k 1) 9 anJ), (h15, aJ (k 1) 180 anJ)]) (as := []) (zcS (As := [.long v114, .long (-1000000000), .long 1000000000]) (rest := []) (Tc := []) hx hb hml hown hU hK hT [] rfl (by decide) (cX11_in_ca3b9 l D k _ v114 ((-1000000000)) (1000000000) (by have := ll_m1000000000; omega) (by have := ll_1000000000; omega)) w901 w899 w900 w72 hdX11_in ⟨rfl, rfl⟩ ⟨Nat.le_of_ble_eq_true rfl, Nat.le_of_ble_eq_true rfl⟩ rfl hl.1 (Nat.le_of_ble_eq_true rfl) dX11_orbit_153 ⟨Nat.le_of_ble_eq_true rfl, Nat.le_of_ble_eq_true rfl⟩) hT hS hA [] [0, 1, 2, 3, 4, 5] rfl rfl rfl (by decide) (by decide) (fun r115 H locs hB J hS => ?_)
                    rcases hB with ⟨rfl, hT1⟩ | ⟨c_118, c_119, rfl, hT1⟩
                    · skip
                      have hT := J _ hT1
                      have hT : TP D A [(h16, aI (k 0) 240 (gtP (h0f30.toInt) (h0f1.toInt) (h0f31.toInt))), (h0, ob 8 [.int h0f0, .int h0f1, .int h0f2, .int h0f3, .int h0f4, .int h0f5, .ref h1, .ref h2, .int h0f8, .int h0f9, .ref h3, .ref h4, .ref h5, .ref h6, .ref h7, .ref h8, .ref h9, .int h0f17, .int h0f18, .int h0f19, .ref h10, .ref h11, .ref h12, .ref h13, .int h0f24, .int h0f25, .ref h14, .ref h15, .ref h16, .ref h17, .int y93, .int h0f31, .ref h18, .ref h19, .ref h20, .ref h21]), (h1, aI (k 0) 36 anI), (h4, aJ (k 1) 9 anJ), (h5, aJ (k 1) 9 anJ), (h15, aJ (k 1) 180 anJ)] _ := hT
                      refine lv_if_eq (tgt := 163) hx hb dX11_orbit_156 (by decide) (fun _ => ?_) (fun cc => absurd (by decide +kernel) cc)
                      refine lv_iconst (v := 0) hx hb dX11_orbit_163 (by decide) ?_
                      refine lv_istore (lv' := [(6, .int 0), (0, .ref h0), (4, .int y21), (5, .int y92)]) hx hb dX11_orbit_164 hl (by decide) rfl (fun ls hl => ?_)
                      refine lv_iload hx hb dX11_orbit_166 (lv_at hl 0 rfl) ?_
                      refine lv_if_eq (tgt := 261) hx hb dX11_orbit_168 (by decide) (fun _ => ?_) (fun cc => absurd (by decide +kernel) cc)
                      obtain ⟨v120, e_v120⟩ : ∃ x : Int32, x = y92 + Int32.ofInt 1 := ⟨_, rfl⟩
                      have f_v120 := e_v120.symm
                      have e_v120 : v120.toInt = y92.toInt + 1 := ai_add e_v120 rfl (show (Int32.ofInt 1).toInt = 1 from (by decide +kernel)) (by omega)
                      refine lv_iinc (v := v120) (lv' := [(5, .int v120), (6, .int 0), (0, .ref h0), (4, .int y21)]) hx hb dX11_orbit_261 hl (k := 3) rfl f_v120 (by decide) rfl (fun ls hl => ?_)
                      refine lv_goto (tgt := 79) hx hb dX11_orbit_264 (by decide) ?_
                      exact ih79_94 v120 y93 _ _ _ (by omega) (by omega)  (by omega) (hT.sub [1, 2, 3, 4, 5, 0] (by decide) rfl) hS (lv_sub hl [2, 3, 0] rfl)
                    · skip
                      have hT := J _ hT1
                      have hT : TP D A [(h16, aI (k 0) 240 (gtP (h0f30.toInt) (h0f1.toInt) (h0f31.toInt))), (h0, ob 8 [.int h0f0, .int h0f1, .int h0f2, .int h0f3, .int h0f4, .int h0f5, .ref h1, .ref h2, .int h0f8, .int h0f9, .ref h3, .ref h4, .ref h5, .ref h6, .ref h7, .ref h8, .ref h9, .int h0f17, .int h0f18, .int h0f19, .ref h10, .ref h11, .ref h12, .ref h13, .int h0f24, .int h0f25, .ref h14, .ref h15, .ref h16, .ref h17, .int y93, .int h0f31, .ref h18, .ref h19, .ref h20, .ref h21]), (h1, aI (k 0) 36 anI), (h4, aJ (k 1) 9 anJ), (h5, aJ (k 1) 9 anJ), (h15, aJ (k 1) 180 anJ)] _ := hT
                      refine lv_if_eq (tgt := 163) hx hb dX11_orbit_156 (by decide) (fun cc => absurd cc (by decide +kernel)) (fun _ => ?_)
                      refine lv_iconst (v := 1) hx hb dX11_orbit_159 (by decide) ?_
                      refine lv_goto (tgt := 164) hx hb dX11_orbit_160 (by decide) ?_
                      refine lv_istore (lv' := [(6, .int 1), (0, .ref h0), (4, .int y21), (5, .int y92)]) hx hb dX11_orbit_164 hl (by decide) rfl (fun ls hl => ?_)
                      refine lv_iload hx hb dX11_orbit_166 (lv_at hl 0 rfl) ?_
                      refine lv_if_eq (tgt := 261) hx hb dX11_orbit_168 (by decide) (fun cc => absurd cc (by decide +kernel)) (fun _ => ?_)
                      refine lv_aload_n hx hb dX11_orbit_171 rfl (lv_at hl 1 rfl) ?_
                      refine lv_aload_n hx hb dX11_orbit_172 rfl (lv_at hl 1 rfl) ?_
                      refine tz_get (ci := 8) (v := .ref h4) (C := RX11) (F := TX11) (N := 36) hx hb hU iX11 hown hK hT 1 rfl rfl 11 (by decide) w796 (fun _ h9 => h9) rfl dX11_orbit_173 ?_
                      refine lv_iconst (v := 0) hx hb dX11_orbit_176 (by decide) ?_
                      refine tz_lald hx hb hK hT 3 rfl (by have := li_0; omega) dX11_orbit_177 (fun v121 e_v121 => ?_)
                      clear e_v121
                      refine lv_aload_n hx hb dX11_orbit_178 rfl (lv_at hl 1 rfl) ?_
                      refine tz_get (ci := 8) (v := .ref h4) (C := RX11) (F := TX11) (N := 36) hx hb hU iX11 hown hK hT 1 rfl rfl 11 (by decide) w796 (fun _ h9 => h9) rfl dX11_orbit_179 ?_
                      refine lv_iconst (v := 1) hx hb dX11_orbit_182 (by decide) ?_
                      refine tz_lald hx hb hK hT 3 rfl (by have := li_1; omega) dX11_orbit_183 (fun v122 e_v122 => ?_)
                      clear e_v122
                      refine lv_aload_n hx hb dX11_orbit_184 rfl (lv_at hl 1 rfl) ?_
                      refine tz_get (ci := 8) (v := .ref h4) (C := RX11) (F := TX11) (N := 36) hx hb hU iX11 hown hK hT 1 rfl rfl 11 (by decide) w796 (fun _ h9 => h9) rfl dX11_orbit_185 ?_
                      refine lv_iconst (v := 2) hx hb dX11_orbit_188 (by decide) ?_
                      refine tz_lald hx hb hK hT 3 rfl (by have := li_2; omega) dX11_orbit_189 (fun v123 e_v123 => ?_)
                      clear e_v123
                      refine tcI (Tc := [(h0, ob 8 [.int h0f0, .int h0f1, .int h0f2, .int h0f3, .int h0f4, .int h0f5, .ref h1, .ref h2, .int h0f8, .int h0f9, .ref h3, .ref h4, .ref h5, .ref h6, .ref h7, .ref h8, .ref h9, .int h0f17, .int h0f18, .int h0f19, .ref h10, .ref h11, .ref h12, .ref h13, .int h0f24, .int h0f25, .ref h14, .ref h15, .ref h16, .ref h17, .int y93, .int h0f31, .ref h18, .ref h19, .ref h20, .ref h21]), (h15, aJ (k 1) 180 anJ)]) (Tr := [(h16, aI (k 0) 240 (gtP (h0f30.toInt) (h0f1.toInt) (h0f31.toInt))), (h1, aI (k 0) 36 anI), (h4, aJ (k 1) 9 anJ), (h5, aJ (k 1) 9 anJ)]) (as := [h0, h15]) (zcV (q0 := 1) (ci := 8) (As := [.long v121, .long v122, .long v123]) (rest := []) (Tc := [(h0, ob 8 [.int h0f0, .int h0f1, .int h0f2, .int h0f3, .int h0f4, .int h0f5, .ref h1, .ref h2, .int h0f8, .int h0f9, .ref h3, .ref h4, .ref h5, .ref h6, .ref h7, .ref h8, .ref h9, .int h0f17, .int h0f18, .int h0f19, .ref h10, .ref h11, .ref h12, .ref h13, .int h0f24, .int h0f25, .ref h14, .ref h15, .ref h16, .ref h17, .int y93, .int h0f31, .ref h18, .ref h19, .ref h20, .ref h21]), (h15, aJ (k 1) 180 anJ)]) hx hb hml hown hU hK hT rfl rfl [1, 5] rfl (by decide) (cX11_placeIn_fbfd9 l D k _ h0 h15 h1 h2 h3 h4 h5 h6 h7 h8 h9 h10 h11 h12 h13 h14 h16 h17 h18 h19 h20 h21 v121 v122 v123 h0f0 h0f1 h0f2 h0f3 h0f4 h0f5 h0f8 h0f9 h0f17 h0f18 h0f19 h0f24 h0f25 y93 h0f31 (by omega) (by omega) (by omega) (by omega) (by omega) (by omega) (by omega) (by omega) (by omega) (by omega) (by omega) (by omega) (by omega) (by omega) (by omega)) w1147 w1144 w1146 w58 w72 hdX11_placeIn ⟨rfl, rfl⟩ ⟨Nat.le_of_ble_eq_true rfl, Nat.le_of_ble_eq_true rfl⟩ rfl hl.1 (Nat.le_of_ble_eq_true rfl) dX11_orbit_190 ⟨Nat.le_of_ble_eq_true rfl, Nat.le_of_ble_eq_true rfl⟩) hT hS hA [1, 5] [0, 2, 3, 4] rfl rfl rfl (by decide) (by decide) (fun r124 H locs hB J hS => ?_)
                      rcases hB with ⟨rfl, hT1⟩ | ⟨v125, v126, v127, v128, b_v125, c_129, c_130, c_131, c_132, c_133, c_134, rfl, hT1⟩
                      · skip
                        have hT := J _ hT1
                        have hT : TP D A [(h16, aI (k 0) 240 (gtP (h0f30.toInt) (h0f1.toInt) (h0f31.toInt))), (h1, aI (k 0) 36 anI), (h4, aJ (k 1) 9 anJ), (h5, aJ (k 1) 9 anJ), (h0, ob 8 [.int h0f0, .int h0f1, .int h0f2, .int h0f3, .int h0f4, .int h0f5, .ref h1, .ref h2, .int h0f8, .int h0f9, .ref h3, .ref h4, .ref h5, .ref h6, .ref h7, .ref h8, .ref h9, .int h0f17, .int h0f18, .int h0f19, .ref h10, .ref h11, .ref h12, .ref h13, .int h0f24, .int h0f25, .ref h14, .ref h15, .ref h16, .ref h17, .int y93, .int h0f31, .ref h18, .ref h19, .ref h20, .ref h21]), (h15, aJ (k 1) 180 anJ)] _ := hT
                        refine lv_if_ge (tgt := 261) hx hb dX11_orbit_193 (by decide) (fun cc => absurd cc (by decide +kernel)) (fun _ => ?_)
                        refine lv_aload_n hx hb dX11_orbit_196 rfl (lv_at hl 1 rfl) ?_
                        refine tz_get (ci := 8) (v := .ref h15) (C := RX11) (F := TX11) (N := 36) hx hb hU iX11 hown hK hT 4 rfl rfl 27 (by decide) w812 (fun _ h9 => h9) rfl dX11_orbit_197 ?_
                        refine lv_iconst (v := 3) hx hb dX11_orbit_200 (by decide) ?_
                        refine lv_aload_n hx hb dX11_orbit_201 rfl (lv_at hl 1 rfl) ?_
                        refine tz_get (ci := 8) (v := .int y93) (C := RX11) (F := TX11) (N := 36) hx hb hU iX11 hown hK hT 4 rfl rfl 30 (by decide) w815 (fun _ h9 => h9) rfl dX11_orbit_202 ?_
                        refine lv_imul hx hb dX11_orbit_205 (lv_topi (fun v135 e_v135 => ?_))
                        have e_v135 := ai_mul e_v135 li_3 rfl (by omega)
                        refine lv_aload_n hx hb dX11_orbit_206 rfl (lv_at hl 1 rfl) ?_
                        refine tz_get (ci := 8) (v := .ref h4) (C := RX11) (F := TX11) (N := 36) hx hb hU iX11 hown hK hT 4 rfl rfl 11 (by decide) w796 (fun _ h9 => h9) rfl dX11_orbit_207 ?_
                        refine lv_iconst (v := 0) hx hb dX11_orbit_210 (by decide) ?_
                        refine tz_lald hx hb hK hT 2 rfl (by have := li_0; omega) dX11_orbit_211 (fun v136 e_v136 => ?_)
                        clear e_v136
                        refine tz_last hx hb hK hT hS 5 rfl (by omega) (fun _ _ => trivial) dX11_orbit_212 (fun H locs hT hS => ?_)
                        refine lv_aload_n hx hb dX11_orbit_213 rfl (lv_at hl 1 rfl) ?_
                        refine tz_get (ci := 8) (v := .ref h15) (C := RX11) (F := TX11) (N := 36) hx hb hU iX11 hown hK hT 4 rfl rfl 27 (by decide) w812 (fun _ h9 => h9) rfl dX11_orbit_214 ?_
                        refine lv_iconst (v := 3) hx hb dX11_orbit_217 (by decide) ?_
                        refine lv_aload_n hx hb dX11_orbit_218 rfl (lv_at hl 1 rfl) ?_
                        refine tz_get (ci := 8) (v := .int y93) (C := RX11) (F := TX11) (N := 36) hx hb hU iX11 hown hK hT 4 rfl rfl 30 (by decide) w815 (fun _ h9 => h9) rfl dX11_orbit_219 ?_
                        refine lv_imul hx hb dX11_orbit_222 (lv_topi (fun v137 e_v137 => ?_))
                        have e_v137 := ai_mul e_v137 li_3 rfl (by omega)
                        refine lv_iconst (v := 1) hx hb dX11_orbit_223 (by decide) ?_
                        refine lv_iadd hx hb dX11_orbit_224 (lv_topi (fun v138 e_v138 => ?_))
                        have e_v138 := ai_add e_v138 rfl li_1 (by omega)
                        refine lv_aload_n hx hb dX11_orbit_225 rfl (lv_at hl 1 rfl) ?_
                        refine tz_get (ci := 8) (v := .ref h4) (C := RX11) (F := TX11) (N := 36) hx hb hU iX11 hown hK hT 4 rfl rfl 11 (by decide) w796 (fun _ h9 => h9) rfl dX11_orbit_226 ?_
                        refine lv_iconst (v := 1) hx hb dX11_orbit_229 (by decide) ?_
                        refine tz_lald hx hb hK hT 2 rfl (by have := li_1; omega) dX11_orbit_230 (fun v139 e_v139 => ?_)
                        clear e_v139
                        refine tz_last hx hb hK hT hS 5 rfl (by omega) (fun _ _ => trivial) dX11_orbit_231 (fun H locs hT hS => ?_)
                        refine lv_aload_n hx hb dX11_orbit_232 rfl (lv_at hl 1 rfl) ?_
                        refine tz_get (ci := 8) (v := .ref h15) (C := RX11) (F := TX11) (N := 36) hx hb hU iX11 hown hK hT 4 rfl rfl 27 (by decide) w812 (fun _ h9 => h9) rfl dX11_orbit_233 ?_
                        refine lv_iconst (v := 3) hx hb dX11_orbit_236 (by decide) ?_
                        refine lv_aload_n hx hb dX11_orbit_237 rfl (lv_at hl 1 rfl) ?_
                        refine tz_get (ci := 8) (v := .int y93) (C := RX11) (F := TX11) (N := 36) hx hb hU iX11 hown hK hT 4 rfl rfl 30 (by decide) w815 (fun _ h9 => h9) rfl dX11_orbit_238 ?_
                        refine lv_imul hx hb dX11_orbit_241 (lv_topi (fun v140 e_v140 => ?_))
                        have e_v140 := ai_mul e_v140 li_3 rfl (by omega)
                        refine lv_iconst (v := 2) hx hb dX11_orbit_242 (by decide) ?_
                        refine lv_iadd hx hb dX11_orbit_243 (lv_topi (fun v141 e_v141 => ?_))
                        have e_v141 := ai_add e_v141 rfl li_2 (by omega)
                        refine lv_aload_n hx hb dX11_orbit_244 rfl (lv_at hl 1 rfl) ?_
                        refine tz_get (ci := 8) (v := .ref h4) (C := RX11) (F := TX11) (N := 36) hx hb hU iX11 hown hK hT 4 rfl rfl 11 (by decide) w796 (fun _ h9 => h9) rfl dX11_orbit_245 ?_
                        refine lv_iconst (v := 2) hx hb dX11_orbit_248 (by decide) ?_
                        refine tz_lald hx hb hK hT 2 rfl (by have := li_2; omega) dX11_orbit_249 (fun v142 e_v142 => ?_)
                        clear e_v142
                        refine tz_last hx hb hK hT hS 5 rfl (by omega) (fun _ _ => trivial) dX11_orbit_250 (fun H locs hT hS => ?_)
                        refine lv_aload_n hx hb dX11_orbit_251 rfl (lv_at hl 1 rfl) ?_
                        refine lv_dup hx hb dX11_orbit_252 rfl ?_
                        refine tz_get (ci := 8) (v := .int y93) (C := RX11) (F := TX11) (N := 36) hx hb hU iX11 hown hK hT 4 rfl rfl 30 (by decide) w815 (fun _ h9 => h9) rfl dX11_orbit_253 ?_
                        refine lv_iconst (v := 1) hx hb dX11_orbit_256 (by decide) ?_
                        refine lv_iadd hx hb dX11_orbit_257 (lv_topi (fun v143 e_v143 => ?_))
                        have e_v143 := ai_add e_v143 rfl li_1 (by omega)
                        refine tz_put (ci := 8) (v := .int v143) (ty := .int) (C := RX11) (F := TX11) (N := 36) hx hb hU iX11 tyX11 tyX11_ok nmX11 hown hK hT hS 4 rfl rfl 30 (by decide) w815 (fun _ h9 => h9) rfl (by decide +kernel) rfl rfl (Nat.le_of_ble_eq_true rfl) dX11_orbit_258 (fun H locs hT hS => ?_)
                        have hT : TP D A [(h16, aI (k 0) 240 (gtP (h0f30.toInt) (h0f1.toInt) (h0f31.toInt))), (h1, aI (k 0) 36 anI), (h4, aJ (k 1) 9 anJ), (h5, aJ (k 1) 9 anJ), (h0, ob 8 [.int h0f0, .int h0f1, .int h0f2, .int h0f3, .int h0f4, .int h0f5, .ref h1, .ref h2, .int h0f8, .int h0f9, .ref h3, .ref h4, .ref h5, .ref h6, .ref h7, .ref h8, .ref h9, .int h0f17, .int h0f18, .int h0f19, .ref h10, .ref h11, .ref h12, .ref h13, .int h0f24, .int h0f25, .ref h14, .ref h15, .ref h16, .ref h17, .int v143, .int h0f31, .ref h18, .ref h19, .ref h20, .ref h21]), (h15, aJ (k 1) 180 anJ)] _ := hT
                        obtain ⟨v144, e_v144⟩ : ∃ x : Int32, x = y92 + Int32.ofInt 1 := ⟨_, rfl⟩
                        have f_v144 := e_v144.symm
                        have e_v144 : v144.toInt = y92.toInt + 1 := ai_add e_v144 rfl (show (Int32.ofInt 1).toInt = 1 from (by decide +kernel)) (by omega)
                        refine lv_iinc (v := v144) (lv' := [(5, .int v144), (6, .int 1), (0, .ref h0), (4, .int y21)]) hx hb dX11_orbit_261 hl (k := 3) rfl f_v144 (by decide) rfl (fun ls hl => ?_)
                        refine lv_goto (tgt := 79) hx hb dX11_orbit_264 (by decide) ?_
                        exact ih79_94 v144 v143 _ _ _ (by omega) (by omega)  (by omega) (hT.sub [4, 1, 2, 3, 5, 0] (by decide) rfl) hS (lv_sub hl [2, 3, 0] rfl)
                      · skip
                        have hT := J _ hT1
                        have hT : TP D A [(h16, aI (k 0) 240 (gtP (h0f30.toInt) (h0f1.toInt) (h0f31.toInt))), (h1, aI (k 0) 36 anI), (h4, aJ (k 1) 9 anJ), (h5, aJ (k 1) 9 anJ), (h0, ob 8 [.int h0f0, .int h0f1, .int h0f2, .int h0f3, .int h0f4, .int h0f5, .ref h1, .ref h2, .int h0f8, .int h0f9, .ref h3, .ref h4, .ref h5, .ref h6, .ref h7, .ref h8, .ref h9, .int h0f17, .int h0f18, .int h0f19, .ref h10, .ref h11, .ref h12, .ref h13, .int h0f24, .int h0f25, .ref h14, .ref h15, .ref h16, .ref h17, .int y93, .int h0f31, .ref h18, .ref h19, .ref h20, .ref h21]), (h15, aJ (k 1) 180 anJ)] _ := hT
                        refine lv_if_ge (tgt := 261) hx hb dX11_orbit_193 (by decide) (fun c_145 => ?_) (fun c_145 => ?_)
                        · skip
                          have c_145 := ni_le c_145 li_0 rfl
                          obtain ⟨v146, e_v146⟩ : ∃ x : Int32, x = y92 + Int32.ofInt 1 := ⟨_, rfl⟩
                          have f_v146 := e_v146.symm
                          have e_v146 : v146.toInt = y92.toInt + 1 := ai_add e_v146 rfl (show (Int32.ofInt 1).toInt = 1 from (by decide +kernel)) (by omega)
                          refine lv_iinc (v := v146) (lv' := [(5, .int v146), (6, .int 1), (0, .ref h0), (4, .int y21)]) hx hb dX11_orbit_261 hl (k := 3) rfl f_v146 (by decide) rfl (fun ls hl => ?_)
                          refine lv_goto (tgt := 79) hx hb dX11_orbit_264 (by decide) ?_
                          exact ih79_94 v146 y93 _ _ _ (by omega) (by omega)  (by omega) (hT.sub [4, 1, 2, 3, 5, 0] (by decide) rfl) hS (lv_sub hl [2, 3, 0] rfl)
                        · skip
                          have c_145 := ni_nle c_145 li_0 rfl
                          exfalso; omega
        exact lp79_94 ((h0f1.toInt + (-1) * (0 : Int32).toInt + 1).toNat + 1) (0) y22 _ _ _ (by have := li_0; omega) (by have := li_0; omega)  (Nat.lt_succ_self _) hT hS (lv_sub hl [1, 2, 0] rfl)
  refine lv_iload_n hx hb dX11_orbit_0 rfl (lv_at hl 1 rfl) ?_
  refine lv_iload_n hx hb dX11_orbit_1 rfl (lv_at hl 2 rfl) ?_
  refine lv_iload_n hx hb dX11_orbit_2 rfl (lv_at hl 3 rfl) ?_
  refine tcI (Tc := []) (Tr := [(h0, ob 8 [.int h0f0, .int h0f1, .int h0f2, .int h0f3, .int h0f4, .int h0f5, .ref h1, .ref h2, .int h0f8, .int h0f9, .ref h3, .ref h4, .ref h5, .ref h6, .ref h7, .ref h8, .ref h9, .int h0f17, .int h0f18, .int h0f19, .ref h10, .ref h11, .ref h12, .ref h13, .int h0f24, .int h0f25, .ref h14, .ref h15, .ref h16, .ref h17, .int h0f30, .int h0f31, .ref h18, .ref h19, .ref h20, .ref h21]), (h1, aI (k 0) 36 anI), (h4, aJ (k 1) 9 anJ), (h5, aJ (k 1) 9 anJ), (h15, aJ (k 1) 180 anJ), (h16, aI (k 0) 240 (gtP (h0f30.toInt) (h0f1.toInt) (h0f31.toInt)))]) (as := []) (zcS (As := [.int x1, .int x2, .int x3]) (rest := []) (Tc := []) hx hb hml hown hU hK hT [] rfl (by decide) (cX11_isAsked_874da l D k _ x1 x2 x3) w1137 w1135 w1136 w72 hdX11_isAsked ⟨rfl, rfl⟩ ⟨Nat.le_of_ble_eq_true rfl, Nat.le_of_ble_eq_true rfl⟩ rfl hl.1 (Nat.le_of_ble_eq_true rfl) dX11_orbit_3 ⟨Nat.le_of_ble_eq_true rfl, Nat.le_of_ble_eq_true rfl⟩) hT hS hA [] [0, 1, 2, 3, 4, 5] rfl rfl rfl (by decide) (by decide) (fun r147 H locs hB J hS => ?_)
  obtain ⟨b_r147, hT1⟩ := hB
  have hT := J _ hT1
  have hT : TP D A [(h0, ob 8 [.int h0f0, .int h0f1, .int h0f2, .int h0f3, .int h0f4, .int h0f5, .ref h1, .ref h2, .int h0f8, .int h0f9, .ref h3, .ref h4, .ref h5, .ref h6, .ref h7, .ref h8, .ref h9, .int h0f17, .int h0f18, .int h0f19, .ref h10, .ref h11, .ref h12, .ref h13, .int h0f24, .int h0f25, .ref h14, .ref h15, .ref h16, .ref h17, .int h0f30, .int h0f31, .ref h18, .ref h19, .ref h20, .ref h21]), (h1, aI (k 0) 36 anI), (h4, aJ (k 1) 9 anJ), (h5, aJ (k 1) 9 anJ), (h15, aJ (k 1) 180 anJ), (h16, aI (k 0) 240 (gtP (h0f30.toInt) (h0f1.toInt) (h0f31.toInt)))] _ := hT
  refine lv_if_ne (tgt := 11) hx hb dX11_orbit_6 (by decide) (fun c_148 => ?_) (fun c_148 => ?_)
  · skip
    have c_148 := ni_ne c_148 rfl li_0
    refine lv_aload_n hx hb dX11_orbit_11 rfl (lv_at hl 0 rfl) ?_
    refine tz_get (ci := 8) (v := .ref h15) (C := RX11) (F := TX11) (N := 36) hx hb hU iX11 hown hK hT 0 rfl rfl 27 (by decide) w812 (fun _ h9 => h9) rfl dX11_orbit_12 ?_
    refine lv_iconst (v := 0) hx hb dX11_orbit_15 (by decide) ?_
    refine lv_iload_n hx hb dX11_orbit_16 rfl (lv_at hl 1 rfl) ?_
    have tb_x1 := i32b x1
    obtain ⟨v149, e_v149⟩ : ∃ x : Int64, x1.toInt64 = x := ⟨_, rfl⟩
    refine lv_i2l (v := v149) hx hb dX11_orbit_17 e_v149 ?_
    have e_v149 := ai_i2l e_v149 rfl
    refine tz_last hx hb hK hT hS 4 rfl (by have := li_0; omega) (fun _ _ => trivial) dX11_orbit_18 (fun H locs hT hS => ?_)
    refine lv_aload_n hx hb dX11_orbit_19 rfl (lv_at hl 0 rfl) ?_
    refine tz_get (ci := 8) (v := .ref h15) (C := RX11) (F := TX11) (N := 36) hx hb hU iX11 hown hK hT 0 rfl rfl 27 (by decide) w812 (fun _ h9 => h9) rfl dX11_orbit_20 ?_
    refine lv_iconst (v := 1) hx hb dX11_orbit_23 (by decide) ?_
    refine lv_aload_n hx hb dX11_orbit_24 rfl (lv_at hl 0 rfl) ?_
    refine tz_get (ci := 8) (v := .int h0f0) (C := RX11) (F := TX11) (N := 36) hx hb hU iX11 hown hK hT 0 rfl rfl 0 (by decide) w785 (fun _ h9 => h9) rfl dX11_orbit_25 ?_
    refine lv_iconst (v := 1) hx hb dX11_orbit_28 (by decide) ?_
    refine lv_icmp_le (tgt := 37) hx hb dX11_orbit_29 (by decide) (fun c_150 => ?_) (fun c_150 => ?_)
    · skip
      have c_150 := ni_le c_150 rfl li_1
      refine lv_lconst (v := 0) hx hb dX11_orbit_37 (by decide) ?_
      refine tz_last hx hb hK hT hS 4 rfl (by have := li_1; omega) (fun _ _ => trivial) dX11_orbit_38 (fun H locs hT hS => ?_)
      refine lv_aload_n hx hb dX11_orbit_39 rfl (lv_at hl 0 rfl) ?_
      refine tz_get (ci := 8) (v := .ref h15) (C := RX11) (F := TX11) (N := 36) hx hb hU iX11 hown hK hT 0 rfl rfl 27 (by decide) w812 (fun _ h9 => h9) rfl dX11_orbit_40 ?_
      refine lv_iconst (v := 2) hx hb dX11_orbit_43 (by decide) ?_
      refine lv_aload_n hx hb dX11_orbit_44 rfl (lv_at hl 0 rfl) ?_
      refine tz_get (ci := 8) (v := .int h0f0) (C := RX11) (F := TX11) (N := 36) hx hb hU iX11 hown hK hT 0 rfl rfl 0 (by decide) w785 (fun _ h9 => h9) rfl dX11_orbit_45 ?_
      refine lv_iconst (v := 2) hx hb dX11_orbit_48 (by decide) ?_
      refine lv_icmp_le (tgt := 57) hx hb dX11_orbit_49 (by decide) (fun c_151 => ?_) (fun c_151 => ?_)
      · skip
        have c_151 := ni_le c_151 rfl li_2
        refine lv_lconst (v := 0) hx hb dX11_orbit_57 (by decide) ?_
        refine tz_last hx hb hK hT hS 4 rfl (by have := li_2; omega) (fun _ _ => trivial) dX11_orbit_58 (fun H locs hT hS => ?_)
        refine lv_aload_n hx hb dX11_orbit_59 rfl (lv_at hl 0 rfl) ?_
        refine lv_iconst (v := 1) hx hb dX11_orbit_60 (by decide) ?_
        refine tz_put (ci := 8) (v := .int 1) (ty := .int) (C := RX11) (F := TX11) (N := 36) hx hb hU iX11 tyX11 tyX11_ok nmX11 hown hK hT hS 0 rfl rfl 30 (by decide) w815 (fun _ h9 => h9) rfl (by decide +kernel) rfl rfl (Nat.le_of_ble_eq_true rfl) dX11_orbit_61 (fun H locs hT hS => ?_)
        have hT : TP D A [(h0, ob 8 [.int h0f0, .int h0f1, .int h0f2, .int h0f3, .int h0f4, .int h0f5, .ref h1, .ref h2, .int h0f8, .int h0f9, .ref h3, .ref h4, .ref h5, .ref h6, .ref h7, .ref h8, .ref h9, .int h0f17, .int h0f18, .int h0f19, .ref h10, .ref h11, .ref h12, .ref h13, .int h0f24, .int h0f25, .ref h14, .ref h15, .ref h16, .ref h17, .int 1, .int h0f31, .ref h18, .ref h19, .ref h20, .ref h21]), (h1, aI (k 0) 36 anI), (h4, aJ (k 1) 9 anJ), (h5, aJ (k 1) 9 anJ), (h15, aJ (k 1) 180 anJ), (h16, aI (k 0) 240 (gtP (h0f30.toInt) (h0f1.toInt) (h0f31.toInt)))] _ := hT
        refine lv_iconst (v := 0) hx hb dX11_orbit_64 (by decide) ?_
        refine lv_istore (lv' := [(4, .int 0), (0, .ref h0), (1, .int x1), (2, .int x2), (3, .int x3)]) hx hb dX11_orbit_65 hl (by decide) rfl (fun ls hl => ?_)
        exact lp67_23 ((60 - (0 : Int32).toInt).toNat + 1) (0) (1) _ _ _ (by have := li_0; have := li_1; omega) (by have := li_0; have := li_1; omega)  (Nat.lt_succ_self _) hT hS (lv_sub hl [1, 0] rfl)
      · skip
        have c_151 := ni_nle c_151 rfl li_2
        exfalso; omega
    · skip
      have c_150 := ni_nle c_150 rfl li_1
      refine lv_iload_n hx hb dX11_orbit_32 rfl (lv_at hl 2 rfl) ?_
      have tb_x2 := i32b x2
      obtain ⟨v152, e_v152⟩ : ∃ x : Int64, x2.toInt64 = x := ⟨_, rfl⟩
      refine lv_i2l (v := v152) hx hb dX11_orbit_33 e_v152 ?_
      have e_v152 := ai_i2l e_v152 rfl
      refine lv_goto (tgt := 38) hx hb dX11_orbit_34 (by decide) ?_
      refine tz_last hx hb hK hT hS 4 rfl (by have := li_1; omega) (fun _ _ => trivial) dX11_orbit_38 (fun H locs hT hS => ?_)
      refine lv_aload_n hx hb dX11_orbit_39 rfl (lv_at hl 0 rfl) ?_
      refine tz_get (ci := 8) (v := .ref h15) (C := RX11) (F := TX11) (N := 36) hx hb hU iX11 hown hK hT 0 rfl rfl 27 (by decide) w812 (fun _ h9 => h9) rfl dX11_orbit_40 ?_
      refine lv_iconst (v := 2) hx hb dX11_orbit_43 (by decide) ?_
      refine lv_aload_n hx hb dX11_orbit_44 rfl (lv_at hl 0 rfl) ?_
      refine tz_get (ci := 8) (v := .int h0f0) (C := RX11) (F := TX11) (N := 36) hx hb hU iX11 hown hK hT 0 rfl rfl 0 (by decide) w785 (fun _ h9 => h9) rfl dX11_orbit_45 ?_
      refine lv_iconst (v := 2) hx hb dX11_orbit_48 (by decide) ?_
      refine lv_icmp_le (tgt := 57) hx hb dX11_orbit_49 (by decide) (fun c_153 => ?_) (fun c_153 => ?_)
      · skip
        have c_153 := ni_le c_153 rfl li_2
        refine lv_lconst (v := 0) hx hb dX11_orbit_57 (by decide) ?_
        refine tz_last hx hb hK hT hS 4 rfl (by have := li_2; omega) (fun _ _ => trivial) dX11_orbit_58 (fun H locs hT hS => ?_)
        refine lv_aload_n hx hb dX11_orbit_59 rfl (lv_at hl 0 rfl) ?_
        refine lv_iconst (v := 1) hx hb dX11_orbit_60 (by decide) ?_
        refine tz_put (ci := 8) (v := .int 1) (ty := .int) (C := RX11) (F := TX11) (N := 36) hx hb hU iX11 tyX11 tyX11_ok nmX11 hown hK hT hS 0 rfl rfl 30 (by decide) w815 (fun _ h9 => h9) rfl (by decide +kernel) rfl rfl (Nat.le_of_ble_eq_true rfl) dX11_orbit_61 (fun H locs hT hS => ?_)
        have hT : TP D A [(h0, ob 8 [.int h0f0, .int h0f1, .int h0f2, .int h0f3, .int h0f4, .int h0f5, .ref h1, .ref h2, .int h0f8, .int h0f9, .ref h3, .ref h4, .ref h5, .ref h6, .ref h7, .ref h8, .ref h9, .int h0f17, .int h0f18, .int h0f19, .ref h10, .ref h11, .ref h12, .ref h13, .int h0f24, .int h0f25, .ref h14, .ref h15, .ref h16, .ref h17, .int 1, .int h0f31, .ref h18, .ref h19, .ref h20, .ref h21]), (h1, aI (k 0) 36 anI), (h4, aJ (k 1) 9 anJ), (h5, aJ (k 1) 9 anJ), (h15, aJ (k 1) 180 anJ), (h16, aI (k 0) 240 (gtP (h0f30.toInt) (h0f1.toInt) (h0f31.toInt)))] _ := hT
        refine lv_iconst (v := 0) hx hb dX11_orbit_64 (by decide) ?_
        refine lv_istore (lv' := [(4, .int 0), (0, .ref h0), (1, .int x1), (2, .int x2), (3, .int x3)]) hx hb dX11_orbit_65 hl (by decide) rfl (fun ls hl => ?_)
        exact lp67_23 ((60 - (0 : Int32).toInt).toNat + 1) (0) (1) _ _ _ (by have := li_0; have := li_1; omega) (by have := li_0; have := li_1; omega)  (Nat.lt_succ_self _) hT hS (lv_sub hl [1, 0] rfl)
      · skip
        have c_153 := ni_nle c_153 rfl li_2
        refine lv_iload_n hx hb dX11_orbit_52 rfl (lv_at hl 3 rfl) ?_
        have tb_x3 := i32b x3
        obtain ⟨v154, e_v154⟩ : ∃ x : Int64, x3.toInt64 = x := ⟨_, rfl⟩
        refine lv_i2l (v := v154) hx hb dX11_orbit_53 e_v154 ?_
        have e_v154 := ai_i2l e_v154 rfl
        refine lv_goto (tgt := 58) hx hb dX11_orbit_54 (by decide) ?_
        refine tz_last hx hb hK hT hS 4 rfl (by have := li_2; omega) (fun _ _ => trivial) dX11_orbit_58 (fun H locs hT hS => ?_)
        refine lv_aload_n hx hb dX11_orbit_59 rfl (lv_at hl 0 rfl) ?_
        refine lv_iconst (v := 1) hx hb dX11_orbit_60 (by decide) ?_
        refine tz_put (ci := 8) (v := .int 1) (ty := .int) (C := RX11) (F := TX11) (N := 36) hx hb hU iX11 tyX11 tyX11_ok nmX11 hown hK hT hS 0 rfl rfl 30 (by decide) w815 (fun _ h9 => h9) rfl (by decide +kernel) rfl rfl (Nat.le_of_ble_eq_true rfl) dX11_orbit_61 (fun H locs hT hS => ?_)
        have hT : TP D A [(h0, ob 8 [.int h0f0, .int h0f1, .int h0f2, .int h0f3, .int h0f4, .int h0f5, .ref h1, .ref h2, .int h0f8, .int h0f9, .ref h3, .ref h4, .ref h5, .ref h6, .ref h7, .ref h8, .ref h9, .int h0f17, .int h0f18, .int h0f19, .ref h10, .ref h11, .ref h12, .ref h13, .int h0f24, .int h0f25, .ref h14, .ref h15, .ref h16, .ref h17, .int 1, .int h0f31, .ref h18, .ref h19, .ref h20, .ref h21]), (h1, aI (k 0) 36 anI), (h4, aJ (k 1) 9 anJ), (h5, aJ (k 1) 9 anJ), (h15, aJ (k 1) 180 anJ), (h16, aI (k 0) 240 (gtP (h0f30.toInt) (h0f1.toInt) (h0f31.toInt)))] _ := hT
        refine lv_iconst (v := 0) hx hb dX11_orbit_64 (by decide) ?_
        refine lv_istore (lv' := [(4, .int 0), (0, .ref h0), (1, .int x1), (2, .int x2), (3, .int x3)]) hx hb dX11_orbit_65 hl (by decide) rfl (fun ls hl => ?_)
        exact lp67_23 ((60 - (0 : Int32).toInt).toNat + 1) (0) (1) _ _ _ (by have := li_0; have := li_1; omega) (by have := li_0; have := li_1; omega)  (Nat.lt_succ_self _) hT hS (lv_sub hl [1, 0] rfl)
  · skip
    have c_148 := ni_eq c_148 rfl li_0
    refine lv_iconst (v := (-1)) hx hb dX11_orbit_9 (by decide) ?_
    exact tz_retI (B := B_cX11_orbit_a376b D k h0 h1 h4 h5 h15 h16 h2 h3 h6 h7 h8 h9 h10 h11 h12 h13 h14 h17 h18 h19 h20 h21 x1 x2 x3 h0f0 h0f1 h0f2 h0f3 h0f4 h0f5 h0f8 h0f9 h0f17 h0f18 h0f19 h0f24 h0f25 h0f30 h0f31) (v := (-1)) hQ hx hb hr hlocks hS (Nat.le_of_ble_eq_true rfl) (Nat.le_of_ble_eq_true rfl) dX11_orbit_10 (⟨h0f30, h0f31, (by have := li_m1; omega), (by have := li_m1; omega), (by have := li_m1; omega), hT⟩)
