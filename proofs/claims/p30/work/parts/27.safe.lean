abbrev Rm_cX10_middle_65988 : Room := { frames := 6, cells := 0, slots := 0, locals := 149 }
abbrev B_cX10_middle_65988 (D : va_G) (k : Nat → ClassId) (h0 h1 h5 h8 h11 h12 h13 h21 h22 h23 h24 h25 h26 h27 h28 h2 h3 h4 h6 h7 h9 h10 : Nat) (h0f2 : Int32) (h0f6 : Int32) (h0f8 : Int32) (h0f11 : Int32) (h1f0 : Int32) (h1f1 : Int32) (h1f2 : Int32) (h5f8 : Int32) (h5f9 : Int32) (h5f10 : Int32) (h5f11 : Int32) (h8f1 : Int32) (A : Nat → Prop) (r : Int32) (H : Heap) : Prop := ∃ o0 : Int32, ∃ o1 : Int32, ∃ o2 : Int32, ∃ o3 : Int32, ∃ o4 : Int32, ∃ o5 : Int32, (1 ≤ o0.toInt ∧ o0.toInt ≤ 1) ∧ (0 ≤ o1.toInt ∧ o1.toInt ≤ 9) ∧ (0 ≤ o2.toInt ∧ o2.toInt ≤ 100) ∧ (0 ≤ o3.toInt ∧ o3.toInt ≤ 100) ∧ (0 ≤ o4.toInt ∧ o4.toInt ≤ 1) ∧ (0 ≤ o5.toInt ∧ o5.toInt ≤ 7) ∧ TP D A [(h0, ob 7 [.ref h1, .ref h2, .int h0f2, .ref h3, .ref h4, .ref h5, .int o0, .ref h6, .int h0f8, .null, .ref h7, .int h0f11, .ref h8, .ref h9, .ref h10, .ref h11, .ref h12]), (h1, ob 4 [.int h1f0, .int h1f1, .int h1f2, .ref h13]), (h5, ob 3 [.ref h21, .ref h22, .ref h23, .ref h24, .ref h25, .ref h26, .ref h27, .ref h28, .int o1, .int o2, .int o3, .int o4]), (h8, ob 2 [.ref h1, .int o5]), (h11, aJ (k 1) 9 anJ), (h12, aJ (k 1) 9 anJ), (h13, aJ (k 1) 36 anJ), (h21, aJ (k 1) 900 anJ), (h22, aI (k 0) 100 anI), (h23, aI (k 0) 100 anI), (h24, aI (k 0) 100 anI), (h25, aI (k 0) 400 anI), (h26, aI (k 0) 256 (rgI (-1) 99)), (h27, aI (k 0) 100 (rgI (-1) 99)), (h28, aJ (k 1) 60 anJ)] H
set_option maxHeartbeats 4000000 in
set_option maxRecDepth 100000 in
theorem cX10_middle_65988 (l : Launch) (D : va_G) (k : Nat → ClassId) (sz : Nat) (h0 h1 h5 h8 h11 h12 h13 h21 h22 h23 h24 h25 h26 h27 h28 h2 h3 h4 h6 h7 h9 h10 : Nat) (h0f2 : Int32) (h0f6 : Int32) (h0f8 : Int32) (h0f11 : Int32) (h1f0 : Int32) (h1f1 : Int32) (h1f2 : Int32) (h5f8 : Int32) (h5f9 : Int32) (h5f10 : Int32) (h5f11 : Int32) (h8f1 : Int32) (b_h0f2 : 0 ≤ h0f2.toInt ∧ h0f2.toInt ≤ 1) (b_h0f6 : 0 ≤ h0f6.toInt ∧ h0f6.toInt ≤ 1) (b_h0f8 : 0 ≤ h0f8.toInt ∧ h0f8.toInt ≤ 1) (b_h0f11 : 0 ≤ h0f11.toInt ∧ h0f11.toInt ≤ 200) (b_h1f0 : 1 ≤ h1f0.toInt ∧ h1f0.toInt ≤ 3) (b_h1f1 : 0 ≤ h1f1.toInt ∧ h1f1.toInt ≤ 4) (b_h5f8 : 0 ≤ h5f8.toInt ∧ h5f8.toInt ≤ 9) (b_h5f9 : 0 ≤ h5f9.toInt ∧ h5f9.toInt ≤ 100) (b_h5f10 : 0 ≤ h5f10.toInt ∧ h5f10.toInt ≤ 100) (b_h5f11 : 0 ≤ h5f11.toInt ∧ h5f11.toInt ≤ 1) (b_h8f1 : 0 ≤ h8f1.toInt ∧ h8f1.toInt ≤ 7) : Met l yX10_middle (Cond.code yX10_middle cX10_middle 3 (some .int) :: uw) Rm_cX10_middle_65988 (pT D k sz [.ref h0] [(h0, ob 7 [.ref h1, .ref h2, .int h0f2, .ref h3, .ref h4, .ref h5, .int h0f6, .ref h6, .int h0f8, .null, .ref h7, .int h0f11, .ref h8, .ref h9, .ref h10, .ref h11, .ref h12]), (h1, ob 4 [.int h1f0, .int h1f1, .int h1f2, .ref h13]), (h5, ob 3 [.ref h21, .ref h22, .ref h23, .ref h24, .ref h25, .ref h26, .ref h27, .ref h28, .int h5f8, .int h5f9, .int h5f10, .int h5f11]), (h8, ob 2 [.ref h1, .int h8f1]), (h11, aJ (k 1) 9 anJ), (h12, aJ (k 1) 9 anJ), (h13, aJ (k 1) 36 anJ), (h21, aJ (k 1) 900 anJ), (h22, aI (k 0) 100 anI), (h23, aI (k 0) 100 anI), (h24, aI (k 0) 100 anI), (h25, aI (k 0) 400 anI), (h26, aI (k 0) 256 (rgI (-1) 99)), (h27, aI (k 0) 100 (rgI (-1) 99)), (h28, aJ (k 1) 60 anJ)]) (qI (B_cX10_middle_65988 D k h0 h1 h5 h8 h11 h12 h13 h21 h22 h23 h24 h25 h26 h27 h28 h2 h3 h4 h6 h7 h9 h10 h0f2 h0f6 h0f8 h0f11 h1f0 h1f1 h1f2 h5f8 h5f9 h5f10 h5f11 h8f1 (zA [h0, h1, h5, h8, h11, h12, h13, h21, h22, h23, h24, h25, h26, h27, h28] sz)) (zA [h0, h1, h5, h8, h11, h12, h13, h21, h22, h23, h24, h25, h26, h27, h28] sz)) 0 0 (zA [h0, h1, h5, h8, h11, h12, h13, h21, h22, h23, h24, h25, h26, h27, h28] sz) := by
  refine tz_begin (as := [h0, h1, h5, h8, h11, h12, h13, h21, h22, h23, h24, h25, h26, h27, h28]) (Qc := fun A => qI (B_cX10_middle_65988 D k h0 h1 h5 h8 h11 h12 h13 h21 h22 h23 h24 h25 h26 h27 h28 h2 h3 h4 h6 h7 h9 h10 h0f2 h0f6 h0f8 h0f11 h1f0 h1f1 h1f2 h5f8 h5f9 h5f10 h5f11 h8f1 A) A) (by decide +kernel) rfl (Nat.le_of_ble_eq_true rfl) ?_
  intro p e s m args below meth c ls A Q hx hb hr hml hown hlocks hin hU hK hT hS hA hl hQ
  have hl : lv_has ls 3 [(0, .ref h0)] := hl
  have hT : TP D A [(h0, ob 7 [.ref h1, .ref h2, .int h0f2, .ref h3, .ref h4, .ref h5, .int h0f6, .ref h6, .int h0f8, .null, .ref h7, .int h0f11, .ref h8, .ref h9, .ref h10, .ref h11, .ref h12]), (h1, ob 4 [.int h1f0, .int h1f1, .int h1f2, .ref h13]), (h5, ob 3 [.ref h21, .ref h22, .ref h23, .ref h24, .ref h25, .ref h26, .ref h27, .ref h28, .int h5f8, .int h5f9, .int h5f10, .int h5f11]), (h8, ob 2 [.ref h1, .int h8f1]), (h11, aJ (k 1) 9 anJ), (h12, aJ (k 1) 9 anJ), (h13, aJ (k 1) 36 anJ), (h21, aJ (k 1) 900 anJ), (h22, aI (k 0) 100 anI), (h23, aI (k 0) 100 anI), (h24, aI (k 0) 100 anI), (h25, aI (k 0) 400 anI), (h26, aI (k 0) 256 (rgI (-1) 99)), (h27, aI (k 0) 100 (rgI (-1) 99)), (h28, aJ (k 1) 60 anJ)] s.heap := hT
  refine lv_aload_n hx hb dX10_middle_0 rfl (lv_at hl 0 rfl) ?_
  refine tcV (Tc := [(h0, ob 7 [.ref h1, .ref h2, .int h0f2, .ref h3, .ref h4, .ref h5, .int h0f6, .ref h6, .int h0f8, .null, .ref h7, .int h0f11, .ref h8, .ref h9, .ref h10, .ref h11, .ref h12]), (h1, ob 4 [.int h1f0, .int h1f1, .int h1f2, .ref h13]), (h5, ob 3 [.ref h21, .ref h22, .ref h23, .ref h24, .ref h25, .ref h26, .ref h27, .ref h28, .int h5f8, .int h5f9, .int h5f10, .int h5f11]), (h8, ob 2 [.ref h1, .int h8f1]), (h11, aJ (k 1) 9 anJ), (h13, aJ (k 1) 36 anJ), (h21, aJ (k 1) 900 anJ), (h22, aI (k 0) 100 anI), (h23, aI (k 0) 100 anI), (h24, aI (k 0) 100 anI), (h25, aI (k 0) 400 anI), (h26, aI (k 0) 256 (rgI (-1) 99)), (h27, aI (k 0) 100 (rgI (-1) 99)), (h28, aJ (k 1) 60 anJ)]) (Tr := [(h12, aJ (k 1) 9 anJ)]) (as := [h0, h1, h5, h8, h11, h13, h21, h22, h23, h24, h25, h26, h27, h28]) (zcV (q0 := 0) (ci := 7) (As := []) (rest := []) (Tc := [(h0, ob 7 [.ref h1, .ref h2, .int h0f2, .ref h3, .ref h4, .ref h5, .int h0f6, .ref h6, .int h0f8, .null, .ref h7, .int h0f11, .ref h8, .ref h9, .ref h10, .ref h11, .ref h12]), (h1, ob 4 [.int h1f0, .int h1f1, .int h1f2, .ref h13]), (h5, ob 3 [.ref h21, .ref h22, .ref h23, .ref h24, .ref h25, .ref h26, .ref h27, .ref h28, .int h5f8, .int h5f9, .int h5f10, .int h5f11]), (h8, ob 2 [.ref h1, .int h8f1]), (h11, aJ (k 1) 9 anJ), (h13, aJ (k 1) 36 anJ), (h21, aJ (k 1) 900 anJ), (h22, aI (k 0) 100 anI), (h23, aI (k 0) 100 anI), (h24, aI (k 0) 100 anI), (h25, aI (k 0) 400 anI), (h26, aI (k 0) 256 (rgI (-1) 99)), (h27, aI (k 0) 100 (rgI (-1) 99)), (h28, aJ (k 1) 60 anJ)]) hx hb hml hown hU hK hT rfl rfl [0, 1, 2, 3, 4, 6, 7, 8, 9, 10, 11, 12, 13, 14] rfl (by decide) (cX10_listAll_fe300 l D k _ h0 h1 h5 h8 h11 h13 h21 h22 h23 h24 h25 h26 h27 h28 h2 h3 h4 h6 h7 h9 h10 h12 h0f2 h0f6 h0f8 h0f11 h1f0 h1f1 h1f2 h5f8 h5f9 h5f10 h5f11 h8f1 (by omega) (by omega) (by omega) (by omega) (by omega) (by omega) (by omega) (by omega) (by omega) (by omega) (by omega)) w492 w489 w491 w10 w63 hdX10_listAll ⟨rfl, rfl⟩ ⟨Nat.le_of_ble_eq_true rfl, Nat.le_of_ble_eq_true rfl⟩ rfl hl.1 (Nat.le_of_ble_eq_true rfl) dX10_middle_1 ⟨Nat.le_of_ble_eq_true rfl, Nat.le_of_ble_eq_true rfl⟩) hT hS hA [0, 1, 2, 3, 4, 6, 7, 8, 9, 10, 11, 12, 13, 14] [5] rfl rfl rfl (by decide) (by decide) (fun H locs hB J hS => ?_)
  obtain ⟨v2, v3, v4, v5, v6, v7, b_v2, b_v3, b_v4, b_v5, b_v6, b_v7, hT1⟩ := hB
  have hT := J _ hT1
  have hT : TP D A [(h12, aJ (k 1) 9 anJ), (h0, ob 7 [.ref h1, .ref h2, .int h0f2, .ref h3, .ref h4, .ref h5, .int v2, .ref h6, .int h0f8, .null, .ref h7, .int h0f11, .ref h8, .ref h9, .ref h10, .ref h11, .ref h12]), (h1, ob 4 [.int h1f0, .int h1f1, .int h1f2, .ref h13]), (h5, ob 3 [.ref h21, .ref h22, .ref h23, .ref h24, .ref h25, .ref h26, .ref h27, .ref h28, .int v3, .int v4, .int v5, .int v6]), (h8, ob 2 [.ref h1, .int v7]), (h11, aJ (k 1) 9 anJ), (h13, aJ (k 1) 36 anJ), (h21, aJ (k 1) 900 anJ), (h22, aI (k 0) 100 anI), (h23, aI (k 0) 100 anI), (h24, aI (k 0) 100 anI), (h25, aI (k 0) 400 anI), (h26, aI (k 0) 256 (rgI (-1) 99)), (h27, aI (k 0) 100 (rgI (-1) 99)), (h28, aJ (k 1) 60 anJ)] _ := hT
  refine lv_iconst (v := 0) hx hb dX10_middle_4 (by decide) ?_
  refine lv_istore_n (lv' := [(1, .int 0), (0, .ref h0)]) hx hb dX10_middle_5 rfl hl (by decide) rfl (fun ls hl => ?_)
  refine lv_iconst (v := 0) hx hb dX10_middle_6 (by decide) ?_
  refine lv_istore_n (lv' := [(2, .int 0), (1, .int 0), (0, .ref h0)]) hx hb dX10_middle_7 rfl hl (by decide) rfl (fun ls hl => ?_)
  have lp8_66 : ∀ (n : Nat) (y64 : Int32) (y65 : Int32) (H : Heap) (locs : List Loc) (ls : Array Slot), (0 ≤ y64.toInt ∧ y64.toInt ≤ 100) → (v5.toInt + (-1) * y64.toInt + 1).toNat < n → TP D A [(h12, aJ (k 1) 9 anJ), (h0, ob 7 [.ref h1, .ref h2, .int h0f2, .ref h3, .ref h4, .ref h5, .int v2, .ref h6, .int h0f8, .null, .ref h7, .int h0f11, .ref h8, .ref h9, .ref h10, .ref h11, .ref h12]), (h1, ob 4 [.int h1f0, .int h1f1, .int h1f2, .ref h13]), (h5, ob 3 [.ref h21, .ref h22, .ref h23, .ref h24, .ref h25, .ref h26, .ref h27, .ref h28, .int v3, .int v4, .int v5, .int v6]), (h8, ob 2 [.ref h1, .int v7]), (h11, aJ (k 1) 9 anJ), (h13, aJ (k 1) 36 anJ), (h21, aJ (k 1) 900 anJ), (h22, aI (k 0) 100 anI), (h23, aI (k 0) 100 anI), (h24, aI (k 0) 100 anI), (h25, aI (k 0) 400 anI), (h26, aI (k 0) 256 (rgI (-1) 99)), (h27, aI (k 0) 100 (rgI (-1) 99)), (h28, aJ (k 1) 60 anJ)] H → va_S A s.heap H locs → lv_has ls 3 [(0, .ref h0), (1, .int y65), (2, .int y64)] → W p l e Rm_cX10_middle_65988 s m args below meth c H locs 0 0 Q (F0 m 8 ls []) := by
    intro n
    induction n with
    | zero => intro y64 y65 H locs ls b_y64 hm hT hS hl; exact absurd hm (Nat.not_lt_zero _)
    | succ n ih =>
      intro y64 y65 H locs ls b_y64 hm hT hS hl
      have ih8_66 := ih
      clear ih
      refine lv_iload_n hx hb dX10_middle_8 rfl (lv_at hl 2 rfl) ?_
      refine lv_aload_n hx hb dX10_middle_9 rfl (lv_at hl 0 rfl) ?_
      refine tz_get (ci := 7) (v := .ref h5) (C := RX10) (F := TX10) (N := 17) hx hb hU iX10 hown hK hT 1 rfl rfl 5 (by decide) w254 (fun _ h9 => h9) rfl dX10_middle_10 ?_
      refine tz_get (ci := 3) (v := .int v5) (C := RX4) (F := TX4) (N := 12) hx hb hU iX4 hown hK hT 3 rfl rfl 10 (by decide) w166 (fun _ h9 => h9) rfl dX10_middle_13 ?_
      refine lv_icmp_ge (tgt := 36) hx hb dX10_middle_16 (by decide) (fun c_67 => ?_) (fun c_67 => ?_)
      · skip
        have c_67 := ni_le c_67 rfl rfl
        refine lv_iload_n hx hb dX10_middle_36 rfl (lv_at hl 1 rfl) ?_
        exact tz_retI (B := B_cX10_middle_65988 D k h0 h1 h5 h8 h11 h12 h13 h21 h22 h23 h24 h25 h26 h27 h28 h2 h3 h4 h6 h7 h9 h10 h0f2 h0f6 h0f8 h0f11 h1f0 h1f1 h1f2 h5f8 h5f9 h5f10 h5f11 h8f1) (v := y65) hQ hx hb hr hlocks hS (Nat.le_of_ble_eq_true rfl) (Nat.le_of_ble_eq_true rfl) dX10_middle_37 (⟨v2, v3, v4, v5, v6, v7, (by omega), (by omega), (by omega), (by omega), (by omega), (by omega), (hT.sub [1, 2, 3, 4, 5, 0, 6, 7, 8, 9, 10, 11, 12, 13, 14] (by decide) rfl)⟩)
      · skip
        have c_67 := ni_nle c_67 rfl rfl
        refine lv_aload_n hx hb dX10_middle_19 rfl (lv_at hl 0 rfl) ?_
        refine lv_iload_n hx hb dX10_middle_20 rfl (lv_at hl 2 rfl) ?_
        refine tcI (Tc := [(h0, ob 7 [.ref h1, .ref h2, .int h0f2, .ref h3, .ref h4, .ref h5, .int v2, .ref h6, .int h0f8, .null, .ref h7, .int h0f11, .ref h8, .ref h9, .ref h10, .ref h11, .ref h12]), (h1, ob 4 [.int h1f0, .int h1f1, .int h1f2, .ref h13]), (h5, ob 3 [.ref h21, .ref h22, .ref h23, .ref h24, .ref h25, .ref h26, .ref h27, .ref h28, .int v3, .int v4, .int v5, .int v6]), (h11, aJ (k 1) 9 anJ), (h12, aJ (k 1) 9 anJ), (h13, aJ (k 1) 36 anJ), (h21, aJ (k 1) 900 anJ)]) (Tr := [(h8, ob 2 [.ref h1, .int v7]), (h22, aI (k 0) 100 anI), (h23, aI (k 0) 100 anI), (h24, aI (k 0) 100 anI), (h25, aI (k 0) 400 anI), (h26, aI (k 0) 256 (rgI (-1) 99)), (h27, aI (k 0) 100 (rgI (-1) 99)), (h28, aJ (k 1) 60 anJ)]) (as := [h0, h1, h5, h11, h12, h13, h21]) (zcV (q0 := 1) (ci := 7) (As := [.int y64]) (rest := []) (Tc := [(h0, ob 7 [.ref h1, .ref h2, .int h0f2, .ref h3, .ref h4, .ref h5, .int v2, .ref h6, .int h0f8, .null, .ref h7, .int h0f11, .ref h8, .ref h9, .ref h10, .ref h11, .ref h12]), (h1, ob 4 [.int h1f0, .int h1f1, .int h1f2, .ref h13]), (h5, ob 3 [.ref h21, .ref h22, .ref h23, .ref h24, .ref h25, .ref h26, .ref h27, .ref h28, .int v3, .int v4, .int v5, .int v6]), (h11, aJ (k 1) 9 anJ), (h12, aJ (k 1) 9 anJ), (h13, aJ (k 1) 36 anJ), (h21, aJ (k 1) 900 anJ)]) hx hb hml hown hU hK hT rfl rfl [1, 2, 3, 5, 0, 6, 7] rfl (by decide) (cX10_isInMiddle_0b500 l D k _ h0 h1 h5 h11 h12 h13 h21 h2 h3 h4 h6 h7 h8 h9 h10 h22 h23 h24 h25 h26 h27 h28 y64 h0f2 v2 h0f8 h0f11 h1f0 h1f1 h1f2 v3 v4 v5 v6 (by omega) (by omega) (by omega) (by omega) (by omega) (by omega) (by omega) (by omega) (by omega) (by omega) (by omega)) w605 w602 w604 w16 w63 hdX10_isInMiddle ⟨rfl, rfl⟩ ⟨Nat.le_of_ble_eq_true rfl, Nat.le_of_ble_eq_true rfl⟩ rfl hl.1 (Nat.le_of_ble_eq_true rfl) dX10_middle_21 ⟨Nat.le_of_ble_eq_true rfl, Nat.le_of_ble_eq_true rfl⟩) hT hS hA [1, 2, 3, 5, 0, 6, 7] [4, 8, 9, 10, 11, 12, 13, 14] rfl rfl rfl (by decide) (by decide) (fun r68 H locs hB J hS => ?_)
        obtain ⟨b_r68, hT1⟩ := hB
        have hT := J _ hT1
        have hT : TP D A [(h8, ob 2 [.ref h1, .int v7]), (h22, aI (k 0) 100 anI), (h23, aI (k 0) 100 anI), (h24, aI (k 0) 100 anI), (h25, aI (k 0) 400 anI), (h26, aI (k 0) 256 (rgI (-1) 99)), (h27, aI (k 0) 100 (rgI (-1) 99)), (h28, aJ (k 1) 60 anJ), (h0, ob 7 [.ref h1, .ref h2, .int h0f2, .ref h3, .ref h4, .ref h5, .int v2, .ref h6, .int h0f8, .null, .ref h7, .int h0f11, .ref h8, .ref h9, .ref h10, .ref h11, .ref h12]), (h1, ob 4 [.int h1f0, .int h1f1, .int h1f2, .ref h13]), (h5, ob 3 [.ref h21, .ref h22, .ref h23, .ref h24, .ref h25, .ref h26, .ref h27, .ref h28, .int v3, .int v4, .int v5, .int v6]), (h11, aJ (k 1) 9 anJ), (h12, aJ (k 1) 9 anJ), (h13, aJ (k 1) 36 anJ), (h21, aJ (k 1) 900 anJ)] _ := hT
        refine lv_if_eq (tgt := 30) hx hb dX10_middle_24 (by decide) (fun c_69 => ?_) (fun c_69 => ?_)
        · skip
          have c_69 := ni_eq c_69 rfl li_0
          obtain ⟨v70, e_v70⟩ : ∃ x : Int32, x = y64 + Int32.ofInt 1 := ⟨_, rfl⟩
          have f_v70 := e_v70.symm
          have e_v70 : v70.toInt = y64.toInt + 1 := ai_add e_v70 rfl (show (Int32.ofInt 1).toInt = 1 from (by decide +kernel)) (by omega)
          refine lv_iinc (v := v70) (lv' := [(2, .int v70), (0, .ref h0), (1, .int y65)]) hx hb dX10_middle_30 hl (k := 2) rfl f_v70 (by decide) rfl (fun ls hl => ?_)
          refine lv_goto (tgt := 8) hx hb dX10_middle_33 (by decide) ?_
          exact ih8_66 v70 y65 _ _ _ (by omega)  (by omega) (hT.sub [12, 8, 9, 10, 0, 11, 13, 14, 1, 2, 3, 4, 5, 6, 7] (by decide) rfl) hS (lv_sub hl [1, 2, 0] rfl)
        · skip
          have c_69 := ni_ne c_69 rfl li_0
          obtain ⟨v71, e_v71⟩ : ∃ x : Int32, x = y65 + Int32.ofInt 1 := ⟨_, rfl⟩
          have f_v71 := e_v71.symm
          refine lv_iinc (v := v71) (lv' := [(1, .int v71), (0, .ref h0), (2, .int y64)]) hx hb dX10_middle_27 hl (k := 1) rfl f_v71 (by decide) rfl (fun ls hl => ?_)
          obtain ⟨v72, e_v72⟩ : ∃ x : Int32, x = y64 + Int32.ofInt 1 := ⟨_, rfl⟩
          have f_v72 := e_v72.symm
          have e_v72 : v72.toInt = y64.toInt + 1 := ai_add e_v72 rfl (show (Int32.ofInt 1).toInt = 1 from (by decide +kernel)) (by omega)
          refine lv_iinc (v := v72) (lv' := [(2, .int v72), (1, .int v71), (0, .ref h0)]) hx hb dX10_middle_30 hl (k := 2) rfl f_v72 (by decide) rfl (fun ls hl => ?_)
          refine lv_goto (tgt := 8) hx hb dX10_middle_33 (by decide) ?_
          exact ih8_66 v72 v71 _ _ _ (by omega)  (by omega) (hT.sub [12, 8, 9, 10, 0, 11, 13, 14, 1, 2, 3, 4, 5, 6, 7] (by decide) rfl) hS (lv_sub hl [2, 1, 0] rfl)
  exact lp8_66 ((v5.toInt + (-1) * (0 : Int32).toInt + 1).toNat + 1) (0) (0) _ _ _ (by have := li_0; omega)  (Nat.lt_succ_self _) hT hS (lv_sub hl [2, 1, 0] rfl)
abbrev Rm_cX10_isInMiddle_0a01b : Room := { frames := 2, cells := 0, slots := 0, locals := 56 }
abbrev B_cX10_isInMiddle_0a01b (D : va_G) (k : Nat → ClassId) (h0 h1 h5 h12 h13 h14 h22 h2 h3 h4 h6 h7 h8 h9 h10 h11 h23 h24 h25 h26 h27 h28 h29 : Nat) (x1 : Int32) (h0f2 : Int32) (h0f6 : Int32) (h0f8 : Int32) (h0f11 : Int32) (h1f0 : Int32) (h1f1 : Int32) (h1f2 : Int32) (h5f8 : Int32) (h5f9 : Int32) (h5f10 : Int32) (h5f11 : Int32) (A : Nat → Prop) (r : Int32) (H : Heap) : Prop := (0 ≤ r.toInt ∧ r.toInt ≤ 1) ∧ TP D A [(h0, ob 7 [.ref h1, .ref h2, .int h0f2, .ref h3, .ref h4, .ref h5, .int h0f6, .ref h6, .int h0f8, .ref h7, .ref h8, .int h0f11, .ref h9, .ref h10, .ref h11, .ref h12, .ref h13]), (h1, ob 4 [.int h1f0, .int h1f1, .int h1f2, .ref h14]), (h5, ob 3 [.ref h22, .ref h23, .ref h24, .ref h25, .ref h26, .ref h27, .ref h28, .ref h29, .int h5f8, .int h5f9, .int h5f10, .int h5f11]), (h12, aJ (k 1) 9 anJ), (h13, aJ (k 1) 9 anJ), (h14, aJ (k 1) 36 anJ), (h22, aJ (k 1) 900 anJ)] H
set_option maxHeartbeats 4000000 in
set_option maxRecDepth 100000 in
theorem cX10_isInMiddle_0a01b (l : Launch) (D : va_G) (k : Nat → ClassId) (sz : Nat) (h0 h1 h5 h12 h13 h14 h22 h2 h3 h4 h6 h7 h8 h9 h10 h11 h23 h24 h25 h26 h27 h28 h29 : Nat) (x1 : Int32) (h0f2 : Int32) (h0f6 : Int32) (h0f8 : Int32) (h0f11 : Int32) (h1f0 : Int32) (h1f1 : Int32) (h1f2 : Int32) (h5f8 : Int32) (h5f9 : Int32) (h5f10 : Int32) (h5f11 : Int32) (b_x1 : 0 ≤ x1.toInt ∧ x1.toInt ≤ 99) (b_h0f2 : 0 ≤ h0f2.toInt ∧ h0f2.toInt ≤ 1) (b_h0f6 : 1 ≤ h0f6.toInt ∧ h0f6.toInt ≤ 1) (b_h0f8 : 0 ≤ h0f8.toInt ∧ h0f8.toInt ≤ 1) (b_h0f11 : 0 ≤ h0f11.toInt ∧ h0f11.toInt ≤ 200) (b_h1f0 : 1 ≤ h1f0.toInt ∧ h1f0.toInt ≤ 3) (b_h1f1 : 0 ≤ h1f1.toInt ∧ h1f1.toInt ≤ 4) (b_h5f8 : 0 ≤ h5f8.toInt ∧ h5f8.toInt ≤ 9) (b_h5f9 : 0 ≤ h5f9.toInt ∧ h5f9.toInt ≤ 100) (b_h5f10 : 1 ≤ h5f10.toInt ∧ h5f10.toInt ≤ 100) (b_h5f11 : 0 ≤ h5f11.toInt ∧ h5f11.toInt ≤ 1) : Met l yX10_isInMiddle (Cond.code yX10_isInMiddle cX10_isInMiddle 4 (some .boolean) :: uw) Rm_cX10_isInMiddle_0a01b (pT D k sz [.ref h0, .int x1] [(h0, ob 7 [.ref h1, .ref h2, .int h0f2, .ref h3, .ref h4, .ref h5, .int h0f6, .ref h6, .int h0f8, .ref h7, .ref h8, .int h0f11, .ref h9, .ref h10, .ref h11, .ref h12, .ref h13]), (h1, ob 4 [.int h1f0, .int h1f1, .int h1f2, .ref h14]), (h5, ob 3 [.ref h22, .ref h23, .ref h24, .ref h25, .ref h26, .ref h27, .ref h28, .ref h29, .int h5f8, .int h5f9, .int h5f10, .int h5f11]), (h12, aJ (k 1) 9 anJ), (h13, aJ (k 1) 9 anJ), (h14, aJ (k 1) 36 anJ), (h22, aJ (k 1) 900 anJ)]) (qI (B_cX10_isInMiddle_0a01b D k h0 h1 h5 h12 h13 h14 h22 h2 h3 h4 h6 h7 h8 h9 h10 h11 h23 h24 h25 h26 h27 h28 h29 x1 h0f2 h0f6 h0f8 h0f11 h1f0 h1f1 h1f2 h5f8 h5f9 h5f10 h5f11 (zA [h0, h1, h5, h12, h13, h14, h22] sz)) (zA [h0, h1, h5, h12, h13, h14, h22] sz)) 0 0 (zA [h0, h1, h5, h12, h13, h14, h22] sz) := by
  refine tz_begin (as := [h0, h1, h5, h12, h13, h14, h22]) (Qc := fun A => qI (B_cX10_isInMiddle_0a01b D k h0 h1 h5 h12 h13 h14 h22 h2 h3 h4 h6 h7 h8 h9 h10 h11 h23 h24 h25 h26 h27 h28 h29 x1 h0f2 h0f6 h0f8 h0f11 h1f0 h1f1 h1f2 h5f8 h5f9 h5f10 h5f11 A) A) (by decide +kernel) rfl (Nat.le_of_ble_eq_true rfl) ?_
  intro p e s m args below meth c ls A Q hx hb hr hml hown hlocks hin hU hK hT hS hA hl hQ
  have hl : lv_has ls 4 [(0, .ref h0), (1, .int x1)] := hl
  have hT : TP D A [(h0, ob 7 [.ref h1, .ref h2, .int h0f2, .ref h3, .ref h4, .ref h5, .int h0f6, .ref h6, .int h0f8, .ref h7, .ref h8, .int h0f11, .ref h9, .ref h10, .ref h11, .ref h12, .ref h13]), (h1, ob 4 [.int h1f0, .int h1f1, .int h1f2, .ref h14]), (h5, ob 3 [.ref h22, .ref h23, .ref h24, .ref h25, .ref h26, .ref h27, .ref h28, .ref h29, .int h5f8, .int h5f9, .int h5f10, .int h5f11]), (h12, aJ (k 1) 9 anJ), (h13, aJ (k 1) 9 anJ), (h14, aJ (k 1) 36 anJ), (h22, aJ (k 1) 900 anJ)] s.heap := hT
  refine lv_aload_n hx hb dX10_isInMiddle_0 rfl (lv_at hl 0 rfl) ?_
  refine tz_get (ci := 7) (v := .ref h5) (C := RX10) (F := TX10) (N := 17) hx hb hU iX10 hown hK hT 0 rfl rfl 5 (by decide) w254 (fun _ h9 => h9) rfl dX10_isInMiddle_1 ?_
  refine lv_iload_n hx hb dX10_isInMiddle_4 rfl (lv_at hl 1 rfl) ?_
  refine tcI (Tc := [(h5, ob 3 [.ref h22, .ref h23, .ref h24, .ref h25, .ref h26, .ref h27, .ref h28, .ref h29, .int h5f8, .int h5f9, .int h5f10, .int h5f11])]) (Tr := [(h0, ob 7 [.ref h1, .ref h2, .int h0f2, .ref h3, .ref h4, .ref h5, .int h0f6, .ref h6, .int h0f8, .ref h7, .ref h8, .int h0f11, .ref h9, .ref h10, .ref h11, .ref h12, .ref h13]), (h1, ob 4 [.int h1f0, .int h1f1, .int h1f2, .ref h14]), (h12, aJ (k 1) 9 anJ), (h13, aJ (k 1) 9 anJ), (h14, aJ (k 1) 36 anJ), (h22, aJ (k 1) 900 anJ)]) (as := [h5]) (zcV (q0 := 2) (ci := 3) (As := [.int x1]) (rest := []) (Tc := [(h5, ob 3 [.ref h22, .ref h23, .ref h24, .ref h25, .ref h26, .ref h27, .ref h28, .ref h29, .int h5f8, .int h5f9, .int h5f10, .int h5f11])]) hx hb hml hown hU hK hT rfl rfl [2] rfl (by decide) (cX4_start_d01b0 l D k _ h5 h22 h23 h24 h25 h26 h27 h28 h29 x1 h5f8 h5f9 h5f10 h5f11 (by omega) (by omega) (by omega) (by omega) (by omega)) w505 w574 w503 w504 w66 hdX4_start ⟨rfl, rfl⟩ ⟨Nat.le_of_ble_eq_true rfl, Nat.le_of_ble_eq_true rfl⟩ rfl hl.1 (Nat.le_of_ble_eq_true rfl) dX10_isInMiddle_5 ⟨Nat.le_of_ble_eq_true rfl, Nat.le_of_ble_eq_true rfl⟩) hT hS hA [2] [0, 1, 3, 4, 5, 6] rfl rfl rfl (by decide) (by decide) (fun r1 H locs hB J hS => ?_)
  obtain ⟨b_r1, hT1⟩ := hB
  have hT := J _ hT1
  have hT : TP D A [(h0, ob 7 [.ref h1, .ref h2, .int h0f2, .ref h3, .ref h4, .ref h5, .int h0f6, .ref h6, .int h0f8, .ref h7, .ref h8, .int h0f11, .ref h9, .ref h10, .ref h11, .ref h12, .ref h13]), (h1, ob 4 [.int h1f0, .int h1f1, .int h1f2, .ref h14]), (h12, aJ (k 1) 9 anJ), (h13, aJ (k 1) 9 anJ), (h14, aJ (k 1) 36 anJ), (h22, aJ (k 1) 900 anJ), (h5, ob 3 [.ref h22, .ref h23, .ref h24, .ref h25, .ref h26, .ref h27, .ref h28, .ref h29, .int h5f8, .int h5f9, .int h5f10, .int h5f11])] _ := hT
  refine lv_istore_n (lv' := [(2, .int r1), (0, .ref h0), (1, .int x1)]) hx hb dX10_isInMiddle_8 rfl hl (by decide) rfl (fun ls hl => ?_)
  refine lv_iconst (v := 0) hx hb dX10_isInMiddle_9 (by decide) ?_
  refine lv_istore_n (lv' := [(3, .int 0), (2, .int r1), (0, .ref h0), (1, .int x1)]) hx hb dX10_isInMiddle_10 rfl hl (by decide) rfl (fun ls hl => ?_)
  have lp11_6 : ∀ (n : Nat) (y5 : Int32) (H : Heap) (locs : List Loc) (ls : Array Slot), (0 ≤ y5.toInt ∧ y5.toInt ≤ 4) → (h1f1.toInt + (-1) * y5.toInt + 1).toNat < n → TP D A [(h0, ob 7 [.ref h1, .ref h2, .int h0f2, .ref h3, .ref h4, .ref h5, .int h0f6, .ref h6, .int h0f8, .ref h7, .ref h8, .int h0f11, .ref h9, .ref h10, .ref h11, .ref h12, .ref h13]), (h1, ob 4 [.int h1f0, .int h1f1, .int h1f2, .ref h14]), (h12, aJ (k 1) 9 anJ), (h13, aJ (k 1) 9 anJ), (h14, aJ (k 1) 36 anJ), (h22, aJ (k 1) 900 anJ), (h5, ob 3 [.ref h22, .ref h23, .ref h24, .ref h25, .ref h26, .ref h27, .ref h28, .ref h29, .int h5f8, .int h5f9, .int h5f10, .int h5f11])] H → va_S A s.heap H locs → lv_has ls 4 [(0, .ref h0), (2, .int r1), (3, .int y5)] → W p l e Rm_cX10_isInMiddle_0a01b s m args below meth c H locs 0 0 Q (F0 m 11 ls []) := by
    intro n
    induction n with
    | zero => intro y5 H locs ls b_y5 hm hT hS hl; exact absurd hm (Nat.not_lt_zero _)
    | succ n ih =>
      intro y5 H locs ls b_y5 hm hT hS hl
      have ih11_6 := ih
      clear ih
      refine lv_iload_n hx hb dX10_isInMiddle_11 rfl (lv_at hl 2 rfl) ?_
      refine lv_aload_n hx hb dX10_isInMiddle_12 rfl (lv_at hl 0 rfl) ?_
      refine tz_get (ci := 7) (v := .ref h1) (C := RX10) (F := TX10) (N := 17) hx hb hU iX10 hown hK hT 0 rfl rfl 0 (by decide) w249 (fun _ h9 => h9) rfl dX10_isInMiddle_13 ?_
      refine tz_get (ci := 4) (v := .int h1f1) (C := RX5) (F := TX5) (N := 4) hx hb hU iX5 hown hK hT 1 rfl rfl 1 (by decide) w97 (fun _ h9 => h9) rfl dX10_isInMiddle_16 ?_
      refine lv_icmp_ge (tgt := 117) hx hb dX10_isInMiddle_19 (by decide) (fun c_7 => ?_) (fun c_7 => ?_)
      · skip
        have c_7 := ni_le c_7 rfl rfl
        refine lv_iconst (v := 1) hx hb dX10_isInMiddle_117 (by decide) ?_
        exact tz_retZ (B := B_cX10_isInMiddle_0a01b D k h0 h1 h5 h12 h13 h14 h22 h2 h3 h4 h6 h7 h8 h9 h10 h11 h23 h24 h25 h26 h27 h28 h29 x1 h0f2 h0f6 h0f8 h0f11 h1f0 h1f1 h1f2 h5f8 h5f9 h5f10 h5f11) (v := 1) hQ hx hb hr hlocks hS (Nat.le_of_ble_eq_true rfl) (Nat.le_of_ble_eq_true rfl) dX10_isInMiddle_118 (by have := li_1; omega) (⟨(by have := li_1; omega), (hT.sub [0, 1, 6, 2, 3, 4, 5] (by decide) rfl)⟩)
      · skip
        have c_7 := ni_nle c_7 rfl rfl
        refine lv_aload_n hx hb dX10_isInMiddle_22 rfl (lv_at hl 0 rfl) ?_
        refine tz_get (ci := 7) (v := .ref h5) (C := RX10) (F := TX10) (N := 17) hx hb hU iX10 hown hK hT 0 rfl rfl 5 (by decide) w254 (fun _ h9 => h9) rfl dX10_isInMiddle_23 ?_
        refine tz_get (ci := 3) (v := .ref h22) (C := RX4) (F := TX4) (N := 12) hx hb hU iX4 hown hK hT 6 rfl rfl 0 (by decide) w150 (fun _ h9 => h9) rfl dX10_isInMiddle_26 ?_
        refine lv_iload_n hx hb dX10_isInMiddle_29 rfl (lv_at hl 1 rfl) ?_
        refine lv_aload_n hx hb dX10_isInMiddle_30 rfl (lv_at hl 0 rfl) ?_
        refine tz_get (ci := 7) (v := .ref h1) (C := RX10) (F := TX10) (N := 17) hx hb hU iX10 hown hK hT 0 rfl rfl 0 (by decide) w249 (fun _ h9 => h9) rfl dX10_isInMiddle_31 ?_
        refine tz_get (ci := 4) (v := .ref h14) (C := RX5) (F := TX5) (N := 4) hx hb hU iX5 hown hK hT 1 rfl rfl 3 (by decide) w103 (fun _ h9 => h9) rfl dX10_isInMiddle_34 ?_
        refine lv_iload_n hx hb dX10_isInMiddle_37 rfl (lv_at hl 2 rfl) ?_
        refine lv_bipush (v := 9) hx hb dX10_isInMiddle_38 (by decide) ?_
        refine lv_imul hx hb dX10_isInMiddle_40 (lv_topi (fun v8 e_v8 => ?_))
        have e_v8 := ai_mul e_v8 rfl li_9 (by omega)
        refine lv_aload_n hx hb dX10_isInMiddle_41 rfl (lv_at hl 0 rfl) ?_
        refine tz_get (ci := 7) (v := .ref h12) (C := RX10) (F := TX10) (N := 17) hx hb hU iX10 hown hK hT 0 rfl rfl 15 (by decide) w264 (fun _ h9 => h9) rfl dX10_isInMiddle_42 ?_
        refine lv_aload_n hx hb dX10_isInMiddle_45 rfl (lv_at hl 0 rfl) ?_
        refine tz_get (ci := 7) (v := .ref h1) (C := RX10) (F := TX10) (N := 17) hx hb hU iX10 hown hK hT 0 rfl rfl 0 (by decide) w249 (fun _ h9 => h9) rfl dX10_isInMiddle_46 ?_
        refine tz_get (ci := 4) (v := .int h1f0) (C := RX5) (F := TX5) (N := 4) hx hb hU iX5 hown hK hT 1 rfl rfl 0 (by decide) w93 (fun _ h9 => h9) rfl dX10_isInMiddle_49 ?_
        refine tcV (Tc := [(h22, aJ (k 1) 900 anJ), (h14, aJ (k 1) 36 anJ), (h12, aJ (k 1) 9 anJ)]) (Tr := [(h0, ob 7 [.ref h1, .ref h2, .int h0f2, .ref h3, .ref h4, .ref h5, .int h0f6, .ref h6, .int h0f8, .ref h7, .ref h8, .int h0f11, .ref h9, .ref h10, .ref h11, .ref h12, .ref h13]), (h1, ob 4 [.int h1f0, .int h1f1, .int h1f2, .ref h14]), (h13, aJ (k 1) 9 anJ), (h5, ob 3 [.ref h22, .ref h23, .ref h24, .ref h25, .ref h26, .ref h27, .ref h28, .ref h29, .int h5f8, .int h5f9, .int h5f10, .int h5f11])]) (as := [h22, h14, h12]) (zcS (As := [.ref h22, .int r1, .ref h14, .int v8, .ref h12, .int h1f0]) (rest := []) (Tc := [(h22, aJ (k 1) 900 anJ), (h14, aJ (k 1) 36 anJ), (h12, aJ (k 1) 9 anJ)]) hx hb hml hown hU hK hT [5, 4, 2] rfl (by decide) (cX7_multiply_25255 l D k _ h22 h14 h12 r1 v8 h1f0 (by omega) (by omega) (by omega)) w363 w361 w362 w74 hdX7_multiply ⟨rfl, rfl⟩ ⟨Nat.le_of_ble_eq_true rfl, Nat.le_of_ble_eq_true rfl⟩ rfl hl.1 (Nat.le_of_ble_eq_true rfl) dX10_isInMiddle_52 ⟨Nat.le_of_ble_eq_true rfl, Nat.le_of_ble_eq_true rfl⟩) hT hS hA [5, 4, 2] [0, 1, 3, 6] rfl rfl rfl (by decide) (by decide) (fun H locs hB J hS => ?_)
        have hT1 := hB
        have hT := J _ hT1
        have hT : TP D A [(h0, ob 7 [.ref h1, .ref h2, .int h0f2, .ref h3, .ref h4, .ref h5, .int h0f6, .ref h6, .int h0f8, .ref h7, .ref h8, .int h0f11, .ref h9, .ref h10, .ref h11, .ref h12, .ref h13]), (h1, ob 4 [.int h1f0, .int h1f1, .int h1f2, .ref h14]), (h13, aJ (k 1) 9 anJ), (h5, ob 3 [.ref h22, .ref h23, .ref h24, .ref h25, .ref h26, .ref h27, .ref h28, .ref h29, .int h5f8, .int h5f9, .int h5f10, .int h5f11]), (h22, aJ (k 1) 900 anJ), (h14, aJ (k 1) 36 anJ), (h12, aJ (k 1) 9 anJ)] _ := hT
        refine lv_aload_n hx hb dX10_isInMiddle_55 rfl (lv_at hl 0 rfl) ?_
        refine tz_get (ci := 7) (v := .ref h1) (C := RX10) (F := TX10) (N := 17) hx hb hU iX10 hown hK hT 0 rfl rfl 0 (by decide) w249 (fun _ h9 => h9) rfl dX10_isInMiddle_56 ?_
        refine tz_get (ci := 4) (v := .ref h14) (C := RX5) (F := TX5) (N := 4) hx hb hU iX5 hown hK hT 1 rfl rfl 3 (by decide) w103 (fun _ h9 => h9) rfl dX10_isInMiddle_59 ?_
        refine lv_iload_n hx hb dX10_isInMiddle_62 rfl (lv_at hl 2 rfl) ?_
        refine lv_bipush (v := 9) hx hb dX10_isInMiddle_63 (by decide) ?_
        refine lv_imul hx hb dX10_isInMiddle_65 (lv_topi (fun v10 e_v10 => ?_))
        have e_v10 := ai_mul e_v10 rfl li_9 (by omega)
        refine lv_aload_n hx hb dX10_isInMiddle_66 rfl (lv_at hl 0 rfl) ?_
        refine tz_get (ci := 7) (v := .ref h5) (C := RX10) (F := TX10) (N := 17) hx hb hU iX10 hown hK hT 0 rfl rfl 5 (by decide) w254 (fun _ h9 => h9) rfl dX10_isInMiddle_67 ?_
        refine tz_get (ci := 3) (v := .ref h22) (C := RX4) (F := TX4) (N := 12) hx hb hU iX4 hown hK hT 3 rfl rfl 0 (by decide) w150 (fun _ h9 => h9) rfl dX10_isInMiddle_70 ?_
        refine lv_iload_n hx hb dX10_isInMiddle_73 rfl (lv_at hl 1 rfl) ?_
        refine lv_aload_n hx hb dX10_isInMiddle_74 rfl (lv_at hl 0 rfl) ?_
        refine tz_get (ci := 7) (v := .ref h13) (C := RX10) (F := TX10) (N := 17) hx hb hU iX10 hown hK hT 0 rfl rfl 16 (by decide) w265 (fun _ h9 => h9) rfl dX10_isInMiddle_75 ?_
        refine lv_aload_n hx hb dX10_isInMiddle_78 rfl (lv_at hl 0 rfl) ?_
        refine tz_get (ci := 7) (v := .ref h1) (C := RX10) (F := TX10) (N := 17) hx hb hU iX10 hown hK hT 0 rfl rfl 0 (by decide) w249 (fun _ h9 => h9) rfl dX10_isInMiddle_79 ?_
        refine tz_get (ci := 4) (v := .int h1f0) (C := RX5) (F := TX5) (N := 4) hx hb hU iX5 hown hK hT 1 rfl rfl 0 (by decide) w93 (fun _ h9 => h9) rfl dX10_isInMiddle_82 ?_
        refine tcV (Tc := [(h14, aJ (k 1) 36 anJ), (h22, aJ (k 1) 900 anJ), (h13, aJ (k 1) 9 anJ)]) (Tr := [(h0, ob 7 [.ref h1, .ref h2, .int h0f2, .ref h3, .ref h4, .ref h5, .int h0f6, .ref h6, .int h0f8, .ref h7, .ref h8, .int h0f11, .ref h9, .ref h10, .ref h11, .ref h12, .ref h13]), (h1, ob 4 [.int h1f0, .int h1f1, .int h1f2, .ref h14]), (h5, ob 3 [.ref h22, .ref h23, .ref h24, .ref h25, .ref h26, .ref h27, .ref h28, .ref h29, .int h5f8, .int h5f9, .int h5f10, .int h5f11]), (h12, aJ (k 1) 9 anJ)]) (as := [h14, h22, h13]) (zcS (As := [.ref h14, .int v10, .ref h22, .int r1, .ref h13, .int h1f0]) (rest := []) (Tc := [(h14, aJ (k 1) 36 anJ), (h22, aJ (k 1) 900 anJ), (h13, aJ (k 1) 9 anJ)]) hx hb hml hown hU hK hT [5, 4, 2] rfl (by decide) (cX7_multiply_e140e l D k _ h14 h22 h13 v10 r1 h1f0 (by omega) (by omega) (by omega)) w363 w361 w362 w74 hdX7_multiply ⟨rfl, rfl⟩ ⟨Nat.le_of_ble_eq_true rfl, Nat.le_of_ble_eq_true rfl⟩ rfl hl.1 (Nat.le_of_ble_eq_true rfl) dX10_isInMiddle_85 ⟨Nat.le_of_ble_eq_true rfl, Nat.le_of_ble_eq_true rfl⟩) hT hS hA [5, 4, 2] [0, 1, 3, 6] rfl rfl rfl (by decide) (by decide) (fun H locs hB J hS => ?_)
        have hT1 := hB
        have hT := J _ hT1
        have hT : TP D A [(h0, ob 7 [.ref h1, .ref h2, .int h0f2, .ref h3, .ref h4, .ref h5, .int h0f6, .ref h6, .int h0f8, .ref h7, .ref h8, .int h0f11, .ref h9, .ref h10, .ref h11, .ref h12, .ref h13]), (h1, ob 4 [.int h1f0, .int h1f1, .int h1f2, .ref h14]), (h5, ob 3 [.ref h22, .ref h23, .ref h24, .ref h25, .ref h26, .ref h27, .ref h28, .ref h29, .int h5f8, .int h5f9, .int h5f10, .int h5f11]), (h12, aJ (k 1) 9 anJ), (h14, aJ (k 1) 36 anJ), (h22, aJ (k 1) 900 anJ), (h13, aJ (k 1) 9 anJ)] _ := hT
        refine lv_aload_n hx hb dX10_isInMiddle_88 rfl (lv_at hl 0 rfl) ?_
        refine tz_get (ci := 7) (v := .ref h12) (C := RX10) (F := TX10) (N := 17) hx hb hU iX10 hown hK hT 0 rfl rfl 15 (by decide) w264 (fun _ h9 => h9) rfl dX10_isInMiddle_89 ?_
        refine lv_aload_n hx hb dX10_isInMiddle_92 rfl (lv_at hl 0 rfl) ?_
        refine tz_get (ci := 7) (v := .ref h13) (C := RX10) (F := TX10) (N := 17) hx hb hU iX10 hown hK hT 0 rfl rfl 16 (by decide) w265 (fun _ h9 => h9) rfl dX10_isInMiddle_93 ?_
        refine lv_aload_n hx hb dX10_isInMiddle_96 rfl (lv_at hl 0 rfl) ?_
        refine tz_get (ci := 7) (v := .ref h1) (C := RX10) (F := TX10) (N := 17) hx hb hU iX10 hown hK hT 0 rfl rfl 0 (by decide) w249 (fun _ h9 => h9) rfl dX10_isInMiddle_97 ?_
        refine tcI (Tc := [(h1, ob 4 [.int h1f0, .int h1f1, .int h1f2, .ref h14])]) (Tr := [(h0, ob 7 [.ref h1, .ref h2, .int h0f2, .ref h3, .ref h4, .ref h5, .int h0f6, .ref h6, .int h0f8, .ref h7, .ref h8, .int h0f11, .ref h9, .ref h10, .ref h11, .ref h12, .ref h13]), (h5, ob 3 [.ref h22, .ref h23, .ref h24, .ref h25, .ref h26, .ref h27, .ref h28, .ref h29, .int h5f8, .int h5f9, .int h5f10, .int h5f11]), (h12, aJ (k 1) 9 anJ), (h14, aJ (k 1) 36 anJ), (h22, aJ (k 1) 900 anJ), (h13, aJ (k 1) 9 anJ)]) (as := [h1]) (zcV (q0 := 1) (ci := 4) (As := []) (rest := [.ref h13, .ref h12]) (Tc := [(h1, ob 4 [.int h1f0, .int h1f1, .int h1f2, .ref h14])]) hx hb hml hown hU hK hT rfl rfl [1] rfl (by decide) (cX5_cellCount_642c9 l D k _ h1 h14 h1f0 h1f1 h1f2 (by omega) (by omega)) w385 w382 w383 w384 w64 hdX5_cellCount ⟨rfl, rfl⟩ ⟨Nat.le_of_ble_eq_true rfl, Nat.le_of_ble_eq_true rfl⟩ rfl hl.1 (Nat.le_of_ble_eq_true rfl) dX10_isInMiddle_100 ⟨Nat.le_of_ble_eq_true rfl, Nat.le_of_ble_eq_true rfl⟩) hT hS hA [1] [0, 2, 3, 4, 5, 6] rfl rfl rfl (by decide) (by decide) (fun r12 H locs hB J hS => ?_)
        obtain ⟨b_r12, hT1⟩ := hB
        have hT := J _ hT1
        have hT : TP D A [(h0, ob 7 [.ref h1, .ref h2, .int h0f2, .ref h3, .ref h4, .ref h5, .int h0f6, .ref h6, .int h0f8, .ref h7, .ref h8, .int h0f11, .ref h9, .ref h10, .ref h11, .ref h12, .ref h13]), (h5, ob 3 [.ref h22, .ref h23, .ref h24, .ref h25, .ref h26, .ref h27, .ref h28, .ref h29, .int h5f8, .int h5f9, .int h5f10, .int h5f11]), (h12, aJ (k 1) 9 anJ), (h14, aJ (k 1) 36 anJ), (h22, aJ (k 1) 900 anJ), (h13, aJ (k 1) 9 anJ), (h1, ob 4 [.int h1f0, .int h1f1, .int h1f2, .ref h14])] _ := hT
        refine tcI (Tc := [(h12, aJ (k 1) 9 anJ), (h13, aJ (k 1) 9 anJ)]) (Tr := [(h0, ob 7 [.ref h1, .ref h2, .int h0f2, .ref h3, .ref h4, .ref h5, .int h0f6, .ref h6, .int h0f8, .ref h7, .ref h8, .int h0f11, .ref h9, .ref h10, .ref h11, .ref h12, .ref h13]), (h5, ob 3 [.ref h22, .ref h23, .ref h24, .ref h25, .ref h26, .ref h27, .ref h28, .ref h29, .int h5f8, .int h5f9, .int h5f10, .int h5f11]), (h14, aJ (k 1) 36 anJ), (h22, aJ (k 1) 900 anJ), (h1, ob 4 [.int h1f0, .int h1f1, .int h1f2, .ref h14])]) (as := [h12, h13]) (zcS (As := [.ref h12, .ref h13, .int r12]) (rest := []) (Tc := [(h12, aJ (k 1) 9 anJ), (h13, aJ (k 1) 9 anJ)]) hx hb hml hown hU hK hT [2, 5] rfl (by decide) (cX7_areAlike_339bc l D k _ h12 h13 r12 (by omega)) w608 w606 w607 w74 hdX7_areAlike ⟨rfl, rfl⟩ ⟨Nat.le_of_ble_eq_true rfl, Nat.le_of_ble_eq_true rfl⟩ rfl hl.1 (Nat.le_of_ble_eq_true rfl) dX10_isInMiddle_103 ⟨Nat.le_of_ble_eq_true rfl, Nat.le_of_ble_eq_true rfl⟩) hT hS hA [2, 5] [0, 1, 3, 4, 6] rfl rfl rfl (by decide) (by decide) (fun r13 H locs hB J hS => ?_)
        obtain ⟨b_r13, hT1⟩ := hB
        have hT := J _ hT1
        have hT : TP D A [(h0, ob 7 [.ref h1, .ref h2, .int h0f2, .ref h3, .ref h4, .ref h5, .int h0f6, .ref h6, .int h0f8, .ref h7, .ref h8, .int h0f11, .ref h9, .ref h10, .ref h11, .ref h12, .ref h13]), (h5, ob 3 [.ref h22, .ref h23, .ref h24, .ref h25, .ref h26, .ref h27, .ref h28, .ref h29, .int h5f8, .int h5f9, .int h5f10, .int h5f11]), (h14, aJ (k 1) 36 anJ), (h22, aJ (k 1) 900 anJ), (h1, ob 4 [.int h1f0, .int h1f1, .int h1f2, .ref h14]), (h12, aJ (k 1) 9 anJ), (h13, aJ (k 1) 9 anJ)] _ := hT
        refine lv_if_ne (tgt := 111) hx hb dX10_isInMiddle_106 (by decide) (fun c_14 => ?_) (fun c_14 => ?_)
        · skip
          have c_14 := ni_ne c_14 rfl li_0
          obtain ⟨v15, e_v15⟩ : ∃ x : Int32, x = y5 + Int32.ofInt 1 := ⟨_, rfl⟩
          have f_v15 := e_v15.symm
          have e_v15 : v15.toInt = y5.toInt + 1 := ai_add e_v15 rfl (show (Int32.ofInt 1).toInt = 1 from (by decide +kernel)) (by omega)
          refine lv_iinc (v := v15) (lv' := [(3, .int v15), (0, .ref h0), (2, .int r1)]) hx hb dX10_isInMiddle_111 hl (k := 2) rfl f_v15 (by decide) rfl (fun ls hl => ?_)
          refine lv_goto (tgt := 11) hx hb dX10_isInMiddle_114 (by decide) ?_
          exact ih11_6 v15 _ _ _ (by omega)  (by omega) (hT.sub [0, 4, 5, 6, 2, 3, 1] (by decide) rfl) hS (lv_sub hl [1, 2, 0] rfl)
        · skip
          have c_14 := ni_eq c_14 rfl li_0
          refine lv_iconst (v := 0) hx hb dX10_isInMiddle_109 (by decide) ?_
          exact tz_retZ (B := B_cX10_isInMiddle_0a01b D k h0 h1 h5 h12 h13 h14 h22 h2 h3 h4 h6 h7 h8 h9 h10 h11 h23 h24 h25 h26 h27 h28 h29 x1 h0f2 h0f6 h0f8 h0f11 h1f0 h1f1 h1f2 h5f8 h5f9 h5f10 h5f11) (v := 0) hQ hx hb hr hlocks hS (Nat.le_of_ble_eq_true rfl) (Nat.le_of_ble_eq_true rfl) dX10_isInMiddle_110 (by have := li_0; omega) (⟨(by have := li_0; omega), (hT.sub [0, 4, 1, 5, 6, 2, 3] (by decide) rfl)⟩)
  exact lp11_6 ((h1f1.toInt + (-1) * (0 : Int32).toInt + 1).toNat + 1) (0) _ _ _ (by have := li_0; omega)  (Nat.lt_succ_self _) hT hS (lv_sub hl [2, 1, 0] rfl)
abbrev Rm_cX10_middle_b6855 : Room := { frames := 6, cells := 0, slots := 0, locals := 149 }
abbrev B_cX10_middle_b6855 (D : va_G) (k : Nat → ClassId) (h0 h1 h5 h9 h12 h13 h14 h22 h23 h24 h25 h26 h27 h28 h29 h2 h3 h4 h6 h7 h8 h10 h11 : Nat) (h0f2 : Int32) (h0f6 : Int32) (h0f8 : Int32) (h0f11 : Int32) (h1f0 : Int32) (h1f1 : Int32) (h1f2 : Int32) (h5f8 : Int32) (h5f9 : Int32) (h5f10 : Int32) (h5f11 : Int32) (h9f1 : Int32) (A : Nat → Prop) (r : Int32) (H : Heap) : Prop := ∃ o0 : Int32, ∃ o1 : Int32, ∃ o2 : Int32, ∃ o3 : Int32, ∃ o4 : Int32, ∃ o5 : Int32, (1 ≤ o0.toInt ∧ o0.toInt ≤ 1) ∧ (0 ≤ o1.toInt ∧ o1.toInt ≤ 9) ∧ (0 ≤ o2.toInt ∧ o2.toInt ≤ 100) ∧ (0 ≤ o3.toInt ∧ o3.toInt ≤ 100) ∧ (0 ≤ o4.toInt ∧ o4.toInt ≤ 1) ∧ (0 ≤ o5.toInt ∧ o5.toInt ≤ 7) ∧ TP D A [(h0, ob 7 [.ref h1, .ref h2, .int h0f2, .ref h3, .ref h4, .ref h5, .int o0, .ref h6, .int h0f8, .ref h7, .ref h8, .int h0f11, .ref h9, .ref h10, .ref h11, .ref h12, .ref h13]), (h1, ob 4 [.int h1f0, .int h1f1, .int h1f2, .ref h14]), (h5, ob 3 [.ref h22, .ref h23, .ref h24, .ref h25, .ref h26, .ref h27, .ref h28, .ref h29, .int o1, .int o2, .int o3, .int o4]), (h9, ob 2 [.ref h1, .int o5]), (h12, aJ (k 1) 9 anJ), (h13, aJ (k 1) 9 anJ), (h14, aJ (k 1) 36 anJ), (h22, aJ (k 1) 900 anJ), (h23, aI (k 0) 100 anI), (h24, aI (k 0) 100 anI), (h25, aI (k 0) 100 anI), (h26, aI (k 0) 400 anI), (h27, aI (k 0) 256 (rgI (-1) 99)), (h28, aI (k 0) 100 (rgI (-1) 99)), (h29, aJ (k 1) 60 anJ)] H
set_option maxHeartbeats 4000000 in
set_option maxRecDepth 100000 in
theorem cX10_middle_b6855 (l : Launch) (D : va_G) (k : Nat → ClassId) (sz : Nat) (h0 h1 h5 h9 h12 h13 h14 h22 h23 h24 h25 h26 h27 h28 h29 h2 h3 h4 h6 h7 h8 h10 h11 : Nat) (h0f2 : Int32) (h0f6 : Int32) (h0f8 : Int32) (h0f11 : Int32) (h1f0 : Int32) (h1f1 : Int32) (h1f2 : Int32) (h5f8 : Int32) (h5f9 : Int32) (h5f10 : Int32) (h5f11 : Int32) (h9f1 : Int32) (b_h0f2 : 0 ≤ h0f2.toInt ∧ h0f2.toInt ≤ 1) (b_h0f6 : 0 ≤ h0f6.toInt ∧ h0f6.toInt ≤ 1) (b_h0f8 : 0 ≤ h0f8.toInt ∧ h0f8.toInt ≤ 1) (b_h0f11 : 0 ≤ h0f11.toInt ∧ h0f11.toInt ≤ 200) (b_h1f0 : 1 ≤ h1f0.toInt ∧ h1f0.toInt ≤ 3) (b_h1f1 : 0 ≤ h1f1.toInt ∧ h1f1.toInt ≤ 4) (b_h5f8 : 0 ≤ h5f8.toInt ∧ h5f8.toInt ≤ 9) (b_h5f9 : 0 ≤ h5f9.toInt ∧ h5f9.toInt ≤ 100) (b_h5f10 : 0 ≤ h5f10.toInt ∧ h5f10.toInt ≤ 100) (b_h5f11 : 0 ≤ h5f11.toInt ∧ h5f11.toInt ≤ 1) (b_h9f1 : 0 ≤ h9f1.toInt ∧ h9f1.toInt ≤ 7) : Met l yX10_middle (Cond.code yX10_middle cX10_middle 3 (some .int) :: uw) Rm_cX10_middle_b6855 (pT D k sz [.ref h0] [(h0, ob 7 [.ref h1, .ref h2, .int h0f2, .ref h3, .ref h4, .ref h5, .int h0f6, .ref h6, .int h0f8, .ref h7, .ref h8, .int h0f11, .ref h9, .ref h10, .ref h11, .ref h12, .ref h13]), (h1, ob 4 [.int h1f0, .int h1f1, .int h1f2, .ref h14]), (h5, ob 3 [.ref h22, .ref h23, .ref h24, .ref h25, .ref h26, .ref h27, .ref h28, .ref h29, .int h5f8, .int h5f9, .int h5f10, .int h5f11]), (h9, ob 2 [.ref h1, .int h9f1]), (h12, aJ (k 1) 9 anJ), (h13, aJ (k 1) 9 anJ), (h14, aJ (k 1) 36 anJ), (h22, aJ (k 1) 900 anJ), (h23, aI (k 0) 100 anI), (h24, aI (k 0) 100 anI), (h25, aI (k 0) 100 anI), (h26, aI (k 0) 400 anI), (h27, aI (k 0) 256 (rgI (-1) 99)), (h28, aI (k 0) 100 (rgI (-1) 99)), (h29, aJ (k 1) 60 anJ)]) (qI (B_cX10_middle_b6855 D k h0 h1 h5 h9 h12 h13 h14 h22 h23 h24 h25 h26 h27 h28 h29 h2 h3 h4 h6 h7 h8 h10 h11 h0f2 h0f6 h0f8 h0f11 h1f0 h1f1 h1f2 h5f8 h5f9 h5f10 h5f11 h9f1 (zA [h0, h1, h5, h9, h12, h13, h14, h22, h23, h24, h25, h26, h27, h28, h29] sz)) (zA [h0, h1, h5, h9, h12, h13, h14, h22, h23, h24, h25, h26, h27, h28, h29] sz)) 0 0 (zA [h0, h1, h5, h9, h12, h13, h14, h22, h23, h24, h25, h26, h27, h28, h29] sz) := by
  refine tz_begin (as := [h0, h1, h5, h9, h12, h13, h14, h22, h23, h24, h25, h26, h27, h28, h29]) (Qc := fun A => qI (B_cX10_middle_b6855 D k h0 h1 h5 h9 h12 h13 h14 h22 h23 h24 h25 h26 h27 h28 h29 h2 h3 h4 h6 h7 h8 h10 h11 h0f2 h0f6 h0f8 h0f11 h1f0 h1f1 h1f2 h5f8 h5f9 h5f10 h5f11 h9f1 A) A) (by decide +kernel) rfl (Nat.le_of_ble_eq_true rfl) ?_
  intro p e s m args below meth c ls A Q hx hb hr hml hown hlocks hin hU hK hT hS hA hl hQ
  have hl : lv_has ls 3 [(0, .ref h0)] := hl
  have hT : TP D A [(h0, ob 7 [.ref h1, .ref h2, .int h0f2, .ref h3, .ref h4, .ref h5, .int h0f6, .ref h6, .int h0f8, .ref h7, .ref h8, .int h0f11, .ref h9, .ref h10, .ref h11, .ref h12, .ref h13]), (h1, ob 4 [.int h1f0, .int h1f1, .int h1f2, .ref h14]), (h5, ob 3 [.ref h22, .ref h23, .ref h24, .ref h25, .ref h26, .ref h27, .ref h28, .ref h29, .int h5f8, .int h5f9, .int h5f10, .int h5f11]), (h9, ob 2 [.ref h1, .int h9f1]), (h12, aJ (k 1) 9 anJ), (h13, aJ (k 1) 9 anJ), (h14, aJ (k 1) 36 anJ), (h22, aJ (k 1) 900 anJ), (h23, aI (k 0) 100 anI), (h24, aI (k 0) 100 anI), (h25, aI (k 0) 100 anI), (h26, aI (k 0) 400 anI), (h27, aI (k 0) 256 (rgI (-1) 99)), (h28, aI (k 0) 100 (rgI (-1) 99)), (h29, aJ (k 1) 60 anJ)] s.heap := hT
  refine lv_aload_n hx hb dX10_middle_0 rfl (lv_at hl 0 rfl) ?_
  refine tcV (Tc := [(h0, ob 7 [.ref h1, .ref h2, .int h0f2, .ref h3, .ref h4, .ref h5, .int h0f6, .ref h6, .int h0f8, .ref h7, .ref h8, .int h0f11, .ref h9, .ref h10, .ref h11, .ref h12, .ref h13]), (h1, ob 4 [.int h1f0, .int h1f1, .int h1f2, .ref h14]), (h5, ob 3 [.ref h22, .ref h23, .ref h24, .ref h25, .ref h26, .ref h27, .ref h28, .ref h29, .int h5f8, .int h5f9, .int h5f10, .int h5f11]), (h9, ob 2 [.ref h1, .int h9f1]), (h12, aJ (k 1) 9 anJ), (h14, aJ (k 1) 36 anJ), (h22, aJ (k 1) 900 anJ), (h23, aI (k 0) 100 anI), (h24, aI (k 0) 100 anI), (h25, aI (k 0) 100 anI), (h26, aI (k 0) 400 anI), (h27, aI (k 0) 256 (rgI (-1) 99)), (h28, aI (k 0) 100 (rgI (-1) 99)), (h29, aJ (k 1) 60 anJ)]) (Tr := [(h13, aJ (k 1) 9 anJ)]) (as := [h0, h1, h5, h9, h12, h14, h22, h23, h24, h25, h26, h27, h28, h29]) (zcV (q0 := 0) (ci := 7) (As := []) (rest := []) (Tc := [(h0, ob 7 [.ref h1, .ref h2, .int h0f2, .ref h3, .ref h4, .ref h5, .int h0f6, .ref h6, .int h0f8, .ref h7, .ref h8, .int h0f11, .ref h9, .ref h10, .ref h11, .ref h12, .ref h13]), (h1, ob 4 [.int h1f0, .int h1f1, .int h1f2, .ref h14]), (h5, ob 3 [.ref h22, .ref h23, .ref h24, .ref h25, .ref h26, .ref h27, .ref h28, .ref h29, .int h5f8, .int h5f9, .int h5f10, .int h5f11]), (h9, ob 2 [.ref h1, .int h9f1]), (h12, aJ (k 1) 9 anJ), (h14, aJ (k 1) 36 anJ), (h22, aJ (k 1) 900 anJ), (h23, aI (k 0) 100 anI), (h24, aI (k 0) 100 anI), (h25, aI (k 0) 100 anI), (h26, aI (k 0) 400 anI), (h27, aI (k 0) 256 (rgI (-1) 99)), (h28, aI (k 0) 100 (rgI (-1) 99)), (h29, aJ (k 1) 60 anJ)]) hx hb hml hown hU hK hT rfl rfl [0, 1, 2, 3, 4, 6, 7, 8, 9, 10, 11, 12, 13, 14] rfl (by decide) (cX10_listAll_d24ec l D k _ h0 h1 h5 h9 h12 h14 h22 h23 h24 h25 h26 h27 h28 h29 h2 h3 h4 h6 h7 h8 h10 h11 h13 h0f2 h0f6 h0f8 h0f11 h1f0 h1f1 h1f2 h5f8 h5f9 h5f10 h5f11 h9f1 (by omega) (by omega) (by omega) (by omega) (by omega) (by omega) (by omega) (by omega) (by omega) (by omega) (by omega)) w492 w489 w491 w10 w63 hdX10_listAll ⟨rfl, rfl⟩ ⟨Nat.le_of_ble_eq_true rfl, Nat.le_of_ble_eq_true rfl⟩ rfl hl.1 (Nat.le_of_ble_eq_true rfl) dX10_middle_1 ⟨Nat.le_of_ble_eq_true rfl, Nat.le_of_ble_eq_true rfl⟩) hT hS hA [0, 1, 2, 3, 4, 6, 7, 8, 9, 10, 11, 12, 13, 14] [5] rfl rfl rfl (by decide) (by decide) (fun H locs hB J hS => ?_)
  obtain ⟨v2, v3, v4, v5, v6, v7, b_v2, b_v3, b_v4, b_v5, b_v6, b_v7, hT1⟩ := hB
  have hT := J _ hT1
  have hT : TP D A [(h13, aJ (k 1) 9 anJ), (h0, ob 7 [.ref h1, .ref h2, .int h0f2, .ref h3, .ref h4, .ref h5, .int v2, .ref h6, .int h0f8, .ref h7, .ref h8, .int h0f11, .ref h9, .ref h10, .ref h11, .ref h12, .ref h13]), (h1, ob 4 [.int h1f0, .int h1f1, .int h1f2, .ref h14]), (h5, ob 3 [.ref h22, .ref h23, .ref h24, .ref h25, .ref h26, .ref h27, .ref h28, .ref h29, .int v3, .int v4, .int v5, .int v6]), (h9, ob 2 [.ref h1, .int v7]), (h12, aJ (k 1) 9 anJ), (h14, aJ (k 1) 36 anJ), (h22, aJ (k 1) 900 anJ), (h23, aI (k 0) 100 anI), (h24, aI (k 0) 100 anI), (h25, aI (k 0) 100 anI), (h26, aI (k 0) 400 anI), (h27, aI (k 0) 256 (rgI (-1) 99)), (h28, aI (k 0) 100 (rgI (-1) 99)), (h29, aJ (k 1) 60 anJ)] _ := hT
  refine lv_iconst (v := 0) hx hb dX10_middle_4 (by decide) ?_
  refine lv_istore_n (lv' := [(1, .int 0), (0, .ref h0)]) hx hb dX10_middle_5 rfl hl (by decide) rfl (fun ls hl => ?_)
  refine lv_iconst (v := 0) hx hb dX10_middle_6 (by decide) ?_
  refine lv_istore_n (lv' := [(2, .int 0), (1, .int 0), (0, .ref h0)]) hx hb dX10_middle_7 rfl hl (by decide) rfl (fun ls hl => ?_)
  have lp8_66 : ∀ (n : Nat) (y64 : Int32) (y65 : Int32) (H : Heap) (locs : List Loc) (ls : Array Slot), (0 ≤ y64.toInt ∧ y64.toInt ≤ 100) → (v5.toInt + (-1) * y64.toInt + 1).toNat < n → TP D A [(h13, aJ (k 1) 9 anJ), (h0, ob 7 [.ref h1, .ref h2, .int h0f2, .ref h3, .ref h4, .ref h5, .int v2, .ref h6, .int h0f8, .ref h7, .ref h8, .int h0f11, .ref h9, .ref h10, .ref h11, .ref h12, .ref h13]), (h1, ob 4 [.int h1f0, .int h1f1, .int h1f2, .ref h14]), (h5, ob 3 [.ref h22, .ref h23, .ref h24, .ref h25, .ref h26, .ref h27, .ref h28, .ref h29, .int v3, .int v4, .int v5, .int v6]), (h9, ob 2 [.ref h1, .int v7]), (h12, aJ (k 1) 9 anJ), (h14, aJ (k 1) 36 anJ), (h22, aJ (k 1) 900 anJ), (h23, aI (k 0) 100 anI), (h24, aI (k 0) 100 anI), (h25, aI (k 0) 100 anI), (h26, aI (k 0) 400 anI), (h27, aI (k 0) 256 (rgI (-1) 99)), (h28, aI (k 0) 100 (rgI (-1) 99)), (h29, aJ (k 1) 60 anJ)] H → va_S A s.heap H locs → lv_has ls 3 [(0, .ref h0), (1, .int y65), (2, .int y64)] → W p l e Rm_cX10_middle_b6855 s m args below meth c H locs 0 0 Q (F0 m 8 ls []) := by
    intro n
    induction n with
    | zero => intro y64 y65 H locs ls b_y64 hm hT hS hl; exact absurd hm (Nat.not_lt_zero _)
    | succ n ih =>
      intro y64 y65 H locs ls b_y64 hm hT hS hl
      have ih8_66 := ih
      clear ih
      refine lv_iload_n hx hb dX10_middle_8 rfl (lv_at hl 2 rfl) ?_
      refine lv_aload_n hx hb dX10_middle_9 rfl (lv_at hl 0 rfl) ?_
      refine tz_get (ci := 7) (v := .ref h5) (C := RX10) (F := TX10) (N := 17) hx hb hU iX10 hown hK hT 1 rfl rfl 5 (by decide) w254 (fun _ h9 => h9) rfl dX10_middle_10 ?_
      refine tz_get (ci := 3) (v := .int v5) (C := RX4) (F := TX4) (N := 12) hx hb hU iX4 hown hK hT 3 rfl rfl 10 (by decide) w166 (fun _ h9 => h9) rfl dX10_middle_13 ?_
      refine lv_icmp_ge (tgt := 36) hx hb dX10_middle_16 (by decide) (fun c_67 => ?_) (fun c_67 => ?_)
      · skip
        have c_67 := ni_le c_67 rfl rfl
        refine lv_iload_n hx hb dX10_middle_36 rfl (lv_at hl 1 rfl) ?_
        exact tz_retI (B := B_cX10_middle_b6855 D k h0 h1 h5 h9 h12 h13 h14 h22 h23 h24 h25 h26 h27 h28 h29 h2 h3 h4 h6 h7 h8 h10 h11 h0f2 h0f6 h0f8 h0f11 h1f0 h1f1 h1f2 h5f8 h5f9 h5f10 h5f11 h9f1) (v := y65) hQ hx hb hr hlocks hS (Nat.le_of_ble_eq_true rfl) (Nat.le_of_ble_eq_true rfl) dX10_middle_37 (⟨v2, v3, v4, v5, v6, v7, (by omega), (by omega), (by omega), (by omega), (by omega), (by omega), (hT.sub [1, 2, 3, 4, 5, 0, 6, 7, 8, 9, 10, 11, 12, 13, 14] (by decide) rfl)⟩)
      · skip
        have c_67 := ni_nle c_67 rfl rfl
        refine lv_aload_n hx hb dX10_middle_19 rfl (lv_at hl 0 rfl) ?_
        refine lv_iload_n hx hb dX10_middle_20 rfl (lv_at hl 2 rfl) ?_
        refine tcI (Tc := [(h0, ob 7 [.ref h1, .ref h2, .int h0f2, .ref h3, .ref h4, .ref h5, .int v2, .ref h6, .int h0f8, .ref h7, .ref h8, .int h0f11, .ref h9, .ref h10, .ref h11, .ref h12, .ref h13]), (h1, ob 4 [.int h1f0, .int h1f1, .int h1f2, .ref h14]), (h5, ob 3 [.ref h22, .ref h23, .ref h24, .ref h25, .ref h26, .ref h27, .ref h28, .ref h29, .int v3, .int v4, .int v5, .int v6]), (h12, aJ (k 1) 9 anJ), (h13, aJ (k 1) 9 anJ), (h14, aJ (k 1) 36 anJ), (h22, aJ (k 1) 900 anJ)]) (Tr := [(h9, ob 2 [.ref h1, .int v7]), (h23, aI (k 0) 100 anI), (h24, aI (k 0) 100 anI), (h25, aI (k 0) 100 anI), (h26, aI (k 0) 400 anI), (h27, aI (k 0) 256 (rgI (-1) 99)), (h28, aI (k 0) 100 (rgI (-1) 99)), (h29, aJ (k 1) 60 anJ)]) (as := [h0, h1, h5, h12, h13, h14, h22]) (zcV (q0 := 1) (ci := 7) (As := [.int y64]) (rest := []) (Tc := [(h0, ob 7 [.ref h1, .ref h2, .int h0f2, .ref h3, .ref h4, .ref h5, .int v2, .ref h6, .int h0f8, .ref h7, .ref h8, .int h0f11, .ref h9, .ref h10, .ref h11, .ref h12, .ref h13]), (h1, ob 4 [.int h1f0, .int h1f1, .int h1f2, .ref h14]), (h5, ob 3 [.ref h22, .ref h23, .ref h24, .ref h25, .ref h26, .ref h27, .ref h28, .ref h29, .int v3, .int v4, .int v5, .int v6]), (h12, aJ (k 1) 9 anJ), (h13, aJ (k 1) 9 anJ), (h14, aJ (k 1) 36 anJ), (h22, aJ (k 1) 900 anJ)]) hx hb hml hown hU hK hT rfl rfl [1, 2, 3, 5, 0, 6, 7] rfl (by decide) (cX10_isInMiddle_0a01b l D k _ h0 h1 h5 h12 h13 h14 h22 h2 h3 h4 h6 h7 h8 h9 h10 h11 h23 h24 h25 h26 h27 h28 h29 y64 h0f2 v2 h0f8 h0f11 h1f0 h1f1 h1f2 v3 v4 v5 v6 (by omega) (by omega) (by omega) (by omega) (by omega) (by omega) (by omega) (by omega) (by omega) (by omega) (by omega)) w605 w602 w604 w16 w63 hdX10_isInMiddle ⟨rfl, rfl⟩ ⟨Nat.le_of_ble_eq_true rfl, Nat.le_of_ble_eq_true rfl⟩ rfl hl.1 (Nat.le_of_ble_eq_true rfl) dX10_middle_21 ⟨Nat.le_of_ble_eq_true rfl, Nat.le_of_ble_eq_true rfl⟩) hT hS hA [1, 2, 3, 5, 0, 6, 7] [4, 8, 9, 10, 11, 12, 13, 14] rfl rfl rfl (by decide) (by decide) (fun r68 H locs hB J hS => ?_)
        obtain ⟨b_r68, hT1⟩ := hB
        have hT := J _ hT1
        have hT : TP D A [(h9, ob 2 [.ref h1, .int v7]), (h23, aI (k 0) 100 anI), (h24, aI (k 0) 100 anI), (h25, aI (k 0) 100 anI), (h26, aI (k 0) 400 anI), (h27, aI (k 0) 256 (rgI (-1) 99)), (h28, aI (k 0) 100 (rgI (-1) 99)), (h29, aJ (k 1) 60 anJ), (h0, ob 7 [.ref h1, .ref h2, .int h0f2, .ref h3, .ref h4, .ref h5, .int v2, .ref h6, .int h0f8, .ref h7, .ref h8, .int h0f11, .ref h9, .ref h10, .ref h11, .ref h12, .ref h13]), (h1, ob 4 [.int h1f0, .int h1f1, .int h1f2, .ref h14]), (h5, ob 3 [.ref h22, .ref h23, .ref h24, .ref h25, .ref h26, .ref h27, .ref h28, .ref h29, .int v3, .int v4, .int v5, .int v6]), (h12, aJ (k 1) 9 anJ), (h13, aJ (k 1) 9 anJ), (h14, aJ (k 1) 36 anJ), (h22, aJ (k 1) 900 anJ)] _ := hT
        refine lv_if_eq (tgt := 30) hx hb dX10_middle_24 (by decide) (fun c_69 => ?_) (fun c_69 => ?_)
        · skip
          have c_69 := ni_eq c_69 rfl li_0
          obtain ⟨v70, e_v70⟩ : ∃ x : Int32, x = y64 + Int32.ofInt 1 := ⟨_, rfl⟩
          have f_v70 := e_v70.symm
          have e_v70 : v70.toInt = y64.toInt + 1 := ai_add e_v70 rfl (show (Int32.ofInt 1).toInt = 1 from (by decide +kernel)) (by omega)
          refine lv_iinc (v := v70) (lv' := [(2, .int v70), (0, .ref h0), (1, .int y65)]) hx hb dX10_middle_30 hl (k := 2) rfl f_v70 (by decide) rfl (fun ls hl => ?_)
          refine lv_goto (tgt := 8) hx hb dX10_middle_33 (by decide) ?_
          exact ih8_66 v70 y65 _ _ _ (by omega)  (by omega) (hT.sub [12, 8, 9, 10, 0, 11, 13, 14, 1, 2, 3, 4, 5, 6, 7] (by decide) rfl) hS (lv_sub hl [1, 2, 0] rfl)
        · skip
          have c_69 := ni_ne c_69 rfl li_0
          obtain ⟨v71, e_v71⟩ : ∃ x : Int32, x = y65 + Int32.ofInt 1 := ⟨_, rfl⟩
          have f_v71 := e_v71.symm
          refine lv_iinc (v := v71) (lv' := [(1, .int v71), (0, .ref h0), (2, .int y64)]) hx hb dX10_middle_27 hl (k := 1) rfl f_v71 (by decide) rfl (fun ls hl => ?_)
          obtain ⟨v72, e_v72⟩ : ∃ x : Int32, x = y64 + Int32.ofInt 1 := ⟨_, rfl⟩
          have f_v72 := e_v72.symm
          have e_v72 : v72.toInt = y64.toInt + 1 := ai_add e_v72 rfl (show (Int32.ofInt 1).toInt = 1 from (by decide +kernel)) (by omega)
          refine lv_iinc (v := v72) (lv' := [(2, .int v72), (1, .int v71), (0, .ref h0)]) hx hb dX10_middle_30 hl (k := 2) rfl f_v72 (by decide) rfl (fun ls hl => ?_)
          refine lv_goto (tgt := 8) hx hb dX10_middle_33 (by decide) ?_
          exact ih8_66 v72 v71 _ _ _ (by omega)  (by omega) (hT.sub [12, 8, 9, 10, 0, 11, 13, 14, 1, 2, 3, 4, 5, 6, 7] (by decide) rfl) hS (lv_sub hl [2, 1, 0] rfl)
  exact lp8_66 ((v5.toInt + (-1) * (0 : Int32).toInt + 1).toNat + 1) (0) (0) _ _ _ (by have := li_0; omega)  (Nat.lt_succ_self _) hT hS (lv_sub hl [2, 1, 0] rfl)
abbrev Rm_cX11_middle_6ca08 : Room := { frames := 3, cells := 0, slots := 0, locals := 70 }
abbrev B_cX11_middle_6ca08 (D : va_G) (k : Nat → ClassId) (h0 h1 h3 h4 h5 h6 h10 h11 h12 h13 h2 h7 h8 h9 h14 h15 h16 h17 h18 h19 h20 h21 : Nat) (h0f0 : Int32) (h0f1 : Int32) (h0f2 : Int32) (h0f3 : Int32) (h0f4 : Int32) (h0f5 : Int32) (h0f8 : Int32) (h0f9 : Int32) (h0f17 : Int32) (h0f18 : Int32) (h0f19 : Int32) (h0f24 : Int32) (h0f25 : Int32) (h0f30 : Int32) (h0f31 : Int32) (A : Nat → Prop) (r : Int32) (H : Heap) : Prop := ∃ o0 : Int32, ∃ o1 : Int32, ∃ o2 : Int32, (1 ≤ o0.toInt ∧ o0.toInt ≤ 1) ∧ (1 ≤ o1.toInt ∧ o1.toInt ≤ 100) ∧ (0 ≤ o2.toInt ∧ o2.toInt ≤ 1) ∧ TP D A [(h0, ob 8 [.int h0f0, .int h0f1, .int h0f2, .int h0f3, .int h0f4, .int h0f5, .ref h1, .ref h2, .int h0f8, .int o0, .ref h3, .ref h4, .ref h5, .ref h6, .ref h7, .ref h8, .ref h9, .int h0f17, .int h0f18, .int h0f19, .ref h10, .ref h11, .ref h12, .ref h13, .int o1, .int o2, .ref h14, .ref h15, .ref h16, .ref h17, .int h0f30, .int h0f31, .ref h18, .ref h19, .ref h20, .ref h21]), (h1, aI (k 0) 36 anI), (h3, aJ (k 1) 9 anJ), (h4, aJ (k 1) 9 anJ), (h5, aJ (k 1) 9 anJ), (h6, aJ (k 1) 9 anJ), (h10, aJ (k 1) 900 (lsP (o0.toInt))), (h11, aI (k 0) 100 anI), (h12, aI (k 0) 100 anI), (h13, aI (k 0) 100 anI)] H
set_option maxHeartbeats 4000000 in
set_option maxRecDepth 100000 in
theorem cX11_middle_6ca08 (l : Launch) (D : va_G) (k : Nat → ClassId) (sz : Nat) (h0 h1 h3 h4 h5 h6 h10 h11 h12 h13 h2 h7 h8 h9 h14 h15 h16 h17 h18 h19 h20 h21 : Nat) (h0f0 : Int32) (h0f1 : Int32) (h0f2 : Int32) (h0f3 : Int32) (h0f4 : Int32) (h0f5 : Int32) (h0f8 : Int32) (h0f9 : Int32) (h0f17 : Int32) (h0f18 : Int32) (h0f19 : Int32) (h0f24 : Int32) (h0f25 : Int32) (h0f30 : Int32) (h0f31 : Int32) (b_h0f0 : 1 ≤ h0f0.toInt ∧ h0f0.toInt ≤ 3) (b_h0f1 : 0 ≤ h0f1.toInt ∧ h0f1.toInt ≤ 4) (b_h0f3 : 0 ≤ h0f3.toInt ∧ h0f3.toInt ≤ 3) (b_h0f4 : 0 ≤ h0f4.toInt ∧ h0f4.toInt ≤ 4) (b_h0f8 : 0 ≤ h0f8.toInt ∧ h0f8.toInt ≤ 1) (b_h0f9 : 0 ≤ h0f9.toInt ∧ h0f9.toInt ≤ 1) (b_h0f17 : 0 ≤ h0f17.toInt ∧ h0f17.toInt ≤ 120) (b_h0f18 : 0 ≤ h0f18.toInt ∧ h0f18.toInt ≤ 120) (b_h0f19 : 0 ≤ h0f19.toInt ∧ h0f19.toInt ≤ 4) (b_h0f24 : 0 ≤ h0f24.toInt ∧ h0f24.toInt ≤ 100) (b_h0f25 : 0 ≤ h0f25.toInt ∧ h0f25.toInt ≤ 1) (b_h0f30 : 0 ≤ h0f30.toInt ∧ h0f30.toInt ≤ 60) (b_h0f31 : 0 ≤ h0f31.toInt ∧ h0f31.toInt ≤ 1) (i_0 : h0f8.toInt ≤ h0f3.toInt) (i_1 : h0f9.toInt ≤ h0f24.toInt) : Met l yX11_middle (Cond.code yX11_middle cX11_middle 6 (some .int) :: uw) Rm_cX11_middle_6ca08 (pT D k sz [.ref h0] [(h0, ob 8 [.int h0f0, .int h0f1, .int h0f2, .int h0f3, .int h0f4, .int h0f5, .ref h1, .ref h2, .int h0f8, .int h0f9, .ref h3, .ref h4, .ref h5, .ref h6, .ref h7, .ref h8, .ref h9, .int h0f17, .int h0f18, .int h0f19, .ref h10, .ref h11, .ref h12, .ref h13, .int h0f24, .int h0f25, .ref h14, .ref h15, .ref h16, .ref h17, .int h0f30, .int h0f31, .ref h18, .ref h19, .ref h20, .ref h21]), (h1, aI (k 0) 36 anI), (h3, aJ (k 1) 9 anJ), (h4, aJ (k 1) 9 anJ), (h5, aJ (k 1) 9 anJ), (h6, aJ (k 1) 9 anJ), (h10, aJ (k 1) 900 (lsP (h0f9.toInt))), (h11, aI (k 0) 100 anI), (h12, aI (k 0) 100 anI), (h13, aI (k 0) 100 anI)]) (qI (B_cX11_middle_6ca08 D k h0 h1 h3 h4 h5 h6 h10 h11 h12 h13 h2 h7 h8 h9 h14 h15 h16 h17 h18 h19 h20 h21 h0f0 h0f1 h0f2 h0f3 h0f4 h0f5 h0f8 h0f9 h0f17 h0f18 h0f19 h0f24 h0f25 h0f30 h0f31 (zA [h0, h1, h3, h4, h5, h6, h10, h11, h12, h13] sz)) (zA [h0, h1, h3, h4, h5, h6, h10, h11, h12, h13] sz)) 0 0 (zA [h0, h1, h3, h4, h5, h6, h10, h11, h12, h13] sz) := by
  refine tz_begin (as := [h0, h1, h3, h4, h5, h6, h10, h11, h12, h13]) (Qc := fun A => qI (B_cX11_middle_6ca08 D k h0 h1 h3 h4 h5 h6 h10 h11 h12 h13 h2 h7 h8 h9 h14 h15 h16 h17 h18 h19 h20 h21 h0f0 h0f1 h0f2 h0f3 h0f4 h0f5 h0f8 h0f9 h0f17 h0f18 h0f19 h0f24 h0f25 h0f30 h0f31 A) A) (by decide +kernel) rfl (Nat.le_of_ble_eq_true rfl) ?_
  intro p e s m args below meth c ls A Q hx hb hr hml hown hlocks hin hU hK hT hS hA hl hQ
  have hl : lv_has ls 6 [(0, .ref h0)] := hl
  have hT : TP D A [(h0, ob 8 [.int h0f0, .int h0f1, .int h0f2, .int h0f3, .int h0f4, .int h0f5, .ref h1, .ref h2, .int h0f8, .int h0f9, .ref h3, .ref h4, .ref h5, .ref h6, .ref h7, .ref h8, .ref h9, .int h0f17, .int h0f18, .int h0f19, .ref h10, .ref h11, .ref h12, .ref h13, .int h0f24, .int h0f25, .ref h14, .ref h15, .ref h16, .ref h17, .int h0f30, .int h0f31, .ref h18, .ref h19, .ref h20, .ref h21]), (h1, aI (k 0) 36 anI), (h3, aJ (k 1) 9 anJ), (h4, aJ (k 1) 9 anJ), (h5, aJ (k 1) 9 anJ), (h6, aJ (k 1) 9 anJ), (h10, aJ (k 1) 900 (lsP (h0f9.toInt))), (h11, aI (k 0) 100 anI), (h12, aI (k 0) 100 anI), (h13, aI (k 0) 100 anI)] s.heap := hT
  refine lv_aload_n hx hb dX11_middle_0 rfl (lv_at hl 0 rfl) ?_
  refine tcV (Tc := [(h0, ob 8 [.int h0f0, .int h0f1, .int h0f2, .int h0f3, .int h0f4, .int h0f5, .ref h1, .ref h2, .int h0f8, .int h0f9, .ref h3, .ref h4, .ref h5, .ref h6, .ref h7, .ref h8, .ref h9, .int h0f17, .int h0f18, .int h0f19, .ref h10, .ref h11, .ref h12, .ref h13, .int h0f24, .int h0f25, .ref h14, .ref h15, .ref h16, .ref h17, .int h0f30, .int h0f31, .ref h18, .ref h19, .ref h20, .ref h21]), (h1, aI (k 0) 36 anI), (h4, aJ (k 1) 9 anJ), (h5, aJ (k 1) 9 anJ), (h6, aJ (k 1) 9 anJ), (h10, aJ (k 1) 900 (lsP (h0f9.toInt))), (h11, aI (k 0) 100 anI), (h12, aI (k 0) 100 anI), (h13, aI (k 0) 100 anI)]) (Tr := [(h3, aJ (k 1) 9 anJ)]) (as := [h0, h1, h4, h5, h6, h10, h11, h12, h13]) (zcV (q0 := 0) (ci := 8) (As := []) (rest := []) (Tc := [(h0, ob 8 [.int h0f0, .int h0f1, .int h0f2, .int h0f3, .int h0f4, .int h0f5, .ref h1, .ref h2, .int h0f8, .int h0f9, .ref h3, .ref h4, .ref h5, .ref h6, .ref h7, .ref h8, .ref h9, .int h0f17, .int h0f18, .int h0f19, .ref h10, .ref h11, .ref h12, .ref h13, .int h0f24, .int h0f25, .ref h14, .ref h15, .ref h16, .ref h17, .int h0f30, .int h0f31, .ref h18, .ref h19, .ref h20, .ref h21]), (h1, aI (k 0) 36 anI), (h4, aJ (k 1) 9 anJ), (h5, aJ (k 1) 9 anJ), (h6, aJ (k 1) 9 anJ), (h10, aJ (k 1) 900 (lsP (h0f9.toInt))), (h11, aI (k 0) 100 anI), (h12, aI (k 0) 100 anI), (h13, aI (k 0) 100 anI)]) hx hb hml hown hU hK hT rfl rfl [0, 1, 3, 4, 5, 6, 7, 8, 9] rfl (by decide) (cX11_findList_9a1c7 l D k _ h0 h1 h4 h5 h6 h10 h11 h12 h13 h2 h3 h7 h8 h9 h14 h15 h16 h17 h18 h19 h20 h21 h0f0 h0f1 h0f2 h0f3 h0f4 h0f5 h0f8 h0f9 h0f17 h0f18 h0f19 h0f24 h0f25 h0f30 h0f31 (by omega) (by omega) (by omega) (by omega) (by omega) (by omega) (by omega) (by omega) (by omega) (by omega) (by omega) (by omega) (by omega) (by omega) (by omega)) w1039 w1036 w1038 w47 w72 hdX11_findList ⟨rfl, rfl⟩ ⟨Nat.le_of_ble_eq_true rfl, Nat.le_of_ble_eq_true rfl⟩ rfl hl.1 (Nat.le_of_ble_eq_true rfl) dX11_middle_1 ⟨Nat.le_of_ble_eq_true rfl, Nat.le_of_ble_eq_true rfl⟩) hT hS hA [0, 1, 3, 4, 5, 6, 7, 8, 9] [2] rfl rfl rfl (by decide) (by decide) (fun H locs hB J hS => ?_)
  obtain ⟨v2, v3, v4, b_v2, b_v3, b_v4, hT1⟩ := hB
  have hT := J _ hT1
  have hT : TP D A [(h3, aJ (k 1) 9 anJ), (h0, ob 8 [.int h0f0, .int h0f1, .int h0f2, .int h0f3, .int h0f4, .int h0f5, .ref h1, .ref h2, .int h0f8, .int v2, .ref h3, .ref h4, .ref h5, .ref h6, .ref h7, .ref h8, .ref h9, .int h0f17, .int h0f18, .int h0f19, .ref h10, .ref h11, .ref h12, .ref h13, .int v3, .int v4, .ref h14, .ref h15, .ref h16, .ref h17, .int h0f30, .int h0f31, .ref h18, .ref h19, .ref h20, .ref h21]), (h1, aI (k 0) 36 anI), (h4, aJ (k 1) 9 anJ), (h5, aJ (k 1) 9 anJ), (h6, aJ (k 1) 9 anJ), (h10, aJ (k 1) 900 (lsP (v2.toInt))), (h11, aI (k 0) 100 anI), (h12, aI (k 0) 100 anI), (h13, aI (k 0) 100 anI)] _ := hT
  refine lv_iconst (v := 0) hx hb dX11_middle_4 (by decide) ?_
  refine lv_istore_n (lv' := [(1, .int 0), (0, .ref h0)]) hx hb dX11_middle_5 rfl hl (by decide) rfl (fun ls hl => ?_)
  refine lv_iconst (v := 0) hx hb dX11_middle_6 (by decide) ?_
  refine lv_istore_n (lv' := [(2, .int 0), (1, .int 0), (0, .ref h0)]) hx hb dX11_middle_7 rfl hl (by decide) rfl (fun ls hl => ?_)
  have lp8_65 : ∀ (n : Nat) (y63 : Int32) (y64 : Int32) (H : Heap) (locs : List Loc) (ls : Array Slot), (0 ≤ y63.toInt ∧ y63.toInt ≤ 100) → (v3.toInt + (-1) * y63.toInt + 1).toNat < n → TP D A [(h3, aJ (k 1) 9 anJ), (h0, ob 8 [.int h0f0, .int h0f1, .int h0f2, .int h0f3, .int h0f4, .int h0f5, .ref h1, .ref h2, .int h0f8, .int v2, .ref h3, .ref h4, .ref h5, .ref h6, .ref h7, .ref h8, .ref h9, .int h0f17, .int h0f18, .int h0f19, .ref h10, .ref h11, .ref h12, .ref h13, .int v3, .int v4, .ref h14, .ref h15, .ref h16, .ref h17, .int h0f30, .int h0f31, .ref h18, .ref h19, .ref h20, .ref h21]), (h1, aI (k 0) 36 anI), (h4, aJ (k 1) 9 anJ), (h5, aJ (k 1) 9 anJ), (h6, aJ (k 1) 9 anJ), (h10, aJ (k 1) 900 (lsP (v2.toInt))), (h11, aI (k 0) 100 anI), (h12, aI (k 0) 100 anI), (h13, aI (k 0) 100 anI)] H → va_S A s.heap H locs → lv_has ls 6 [(0, .ref h0), (1, .int y64), (2, .int y63)] → W p l e Rm_cX11_middle_6ca08 s m args below meth c H locs 0 0 Q (F0 m 8 ls []) := by
    intro n
    induction n with
    | zero => intro y63 y64 H locs ls b_y63 hm hT hS hl; exact absurd hm (Nat.not_lt_zero _)
    | succ n ih =>
      intro y63 y64 H locs ls b_y63 hm hT hS hl
      have ih8_65 := ih
      clear ih
      refine lv_iload_n hx hb dX11_middle_8 rfl (lv_at hl 2 rfl) ?_
      refine lv_aload_n hx hb dX11_middle_9 rfl (lv_at hl 0 rfl) ?_
      refine tz_get (ci := 8) (v := .int v3) (C := RX11) (F := TX11) (N := 36) hx hb hU iX11 hown hK hT 1 rfl rfl 24 (by decide) w809 (fun _ h9 => h9) rfl dX11_middle_10 ?_
      refine lv_icmp_ge (tgt := 149) hx hb dX11_middle_13 (by decide) (fun c_66 => ?_) (fun c_66 => ?_)
      · skip
        have c_66 := ni_le c_66 rfl rfl
        refine lv_iload_n hx hb dX11_middle_149 rfl (lv_at hl 1 rfl) ?_
        exact tz_retI (B := B_cX11_middle_6ca08 D k h0 h1 h3 h4 h5 h6 h10 h11 h12 h13 h2 h7 h8 h9 h14 h15 h16 h17 h18 h19 h20 h21 h0f0 h0f1 h0f2 h0f3 h0f4 h0f5 h0f8 h0f9 h0f17 h0f18 h0f19 h0f24 h0f25 h0f30 h0f31) (v := y64) hQ hx hb hr hlocks hS (Nat.le_of_ble_eq_true rfl) (Nat.le_of_ble_eq_true rfl) dX11_middle_150 (⟨v2, v3, v4, (by omega), (by omega), (by omega), (hT.sub [1, 2, 0, 3, 4, 5, 6, 7, 8, 9] (by decide) rfl)⟩)
      · skip
        have c_66 := ni_nle c_66 rfl rfl
        refine lv_iconst (v := 1) hx hb dX11_middle_16 (by decide) ?_
        refine lv_istore_n (lv' := [(3, .int 1), (0, .ref h0), (1, .int y64), (2, .int y63)]) hx hb dX11_middle_17 rfl hl (by decide) rfl (fun ls hl => ?_)
        refine lv_iconst (v := 0) hx hb dX11_middle_18 (by decide) ?_
        refine lv_istore (lv' := [(4, .int 0), (3, .int 1), (0, .ref h0), (1, .int y64), (2, .int y63)]) hx hb dX11_middle_19 hl (by decide) rfl (fun ls hl => ?_)
        have lp21_75 : ∀ (n : Nat) (y73 : Int32) (y74 : Int32) (H : Heap) (locs : List Loc) (ls : Array Slot), (0 ≤ y73.toInt ∧ y73.toInt ≤ 4) → (0 ≤ y74.toInt ∧ y74.toInt ≤ 1) → (h0f1.toInt + (-1) * y73.toInt + 1).toNat < n → TP D A [(h3, aJ (k 1) 9 anJ), (h0, ob 8 [.int h0f0, .int h0f1, .int h0f2, .int h0f3, .int h0f4, .int h0f5, .ref h1, .ref h2, .int h0f8, .int v2, .ref h3, .ref h4, .ref h5, .ref h6, .ref h7, .ref h8, .ref h9, .int h0f17, .int h0f18, .int h0f19, .ref h10, .ref h11, .ref h12, .ref h13, .int v3, .int v4, .ref h14, .ref h15, .ref h16, .ref h17, .int h0f30, .int h0f31, .ref h18, .ref h19, .ref h20, .ref h21]), (h1, aI (k 0) 36 anI), (h4, aJ (k 1) 9 anJ), (h5, aJ (k 1) 9 anJ), (h6, aJ (k 1) 9 anJ), (h10, aJ (k 1) 900 (lsP (v2.toInt))), (h11, aI (k 0) 100 anI), (h12, aI (k 0) 100 anI), (h13, aI (k 0) 100 anI)] H → va_S A s.heap H locs → lv_has ls 6 [(0, .ref h0), (1, .int y64), (2, .int y63), (3, .int y74), (4, .int y73)] → W p l e Rm_cX11_middle_6ca08 s m args below meth c H locs 0 0 Q (F0 m 21 ls []) := by
          intro n
          induction n with
          | zero => intro y73 y74 H locs ls b_y73 b_y74 hm hT hS hl; exact absurd hm (Nat.not_lt_zero _)
          | succ n ih =>
            intro y73 y74 H locs ls b_y73 b_y74 hm hT hS hl
            have ih21_75 := ih
            clear ih
            refine lv_iload hx hb dX11_middle_21 (lv_at hl 4 rfl) ?_
            refine lv_aload_n hx hb dX11_middle_23 rfl (lv_at hl 0 rfl) ?_
            refine tz_get (ci := 8) (v := .int h0f1) (C := RX11) (F := TX11) (N := 36) hx hb hU iX11 hown hK hT 1 rfl rfl 1 (by decide) w786 (fun _ h9 => h9) rfl dX11_middle_24 ?_
            refine lv_icmp_ge (tgt := 131) hx hb dX11_middle_27 (by decide) (fun c_76 => ?_) (fun c_76 => ?_)
            · skip
              have c_76 := ni_le c_76 rfl rfl
              refine lv_iload_n hx hb dX11_middle_131 rfl (lv_at hl 1 rfl) ?_
              refine lv_iload_n hx hb dX11_middle_132 rfl (lv_at hl 3 rfl) ?_
              refine lv_if_eq (tgt := 140) hx hb dX11_middle_133 (by decide) (fun c_77 => ?_) (fun c_77 => ?_)
              · skip
                have c_77 := ni_eq c_77 rfl li_0
                refine lv_iconst (v := 0) hx hb dX11_middle_140 (by decide) ?_
                refine lv_iadd hx hb dX11_middle_141 (lv_topi (fun v78 e_v78 => ?_))
                refine lv_istore_n (lv' := [(1, .int v78), (0, .ref h0), (2, .int y63), (3, .int y74), (4, .int y73)]) hx hb dX11_middle_142 rfl hl (by decide) rfl (fun ls hl => ?_)
                obtain ⟨v79, e_v79⟩ : ∃ x : Int32, x = y63 + Int32.ofInt 1 := ⟨_, rfl⟩
                have f_v79 := e_v79.symm
                have e_v79 : v79.toInt = y63.toInt + 1 := ai_add e_v79 rfl (show (Int32.ofInt 1).toInt = 1 from (by decide +kernel)) (by omega)
                refine lv_iinc (v := v79) (lv' := [(2, .int v79), (1, .int v78), (0, .ref h0), (3, .int y74), (4, .int y73)]) hx hb dX11_middle_143 hl (k := 2) rfl f_v79 (by decide) rfl (fun ls hl => ?_)
                refine lv_goto (tgt := 8) hx hb dX11_middle_146 (by decide) ?_
                exact ih8_65 v79 v78 _ _ _ (by omega)  (by omega) hT hS (lv_sub hl [2, 1, 0] rfl)
              · skip
                have c_77 := ni_ne c_77 rfl li_0
                refine lv_iconst (v := 1) hx hb dX11_middle_136 (by decide) ?_
                refine lv_goto (tgt := 141) hx hb dX11_middle_137 (by decide) ?_
                refine lv_iadd hx hb dX11_middle_141 (lv_topi (fun v80 e_v80 => ?_))
                refine lv_istore_n (lv' := [(1, .int v80), (0, .ref h0), (2, .int y63), (3, .int y74), (4, .int y73)]) hx hb dX11_middle_142 rfl hl (by decide) rfl (fun ls hl => ?_)
                obtain ⟨v81, e_v81⟩ : ∃ x : Int32, x = y63 + Int32.ofInt 1 := ⟨_, rfl⟩
                have f_v81 := e_v81.symm
                have e_v81 : v81.toInt = y63.toInt + 1 := ai_add e_v81 rfl (show (Int32.ofInt 1).toInt = 1 from (by decide +kernel)) (by omega)
                refine lv_iinc (v := v81) (lv' := [(2, .int v81), (1, .int v80), (0, .ref h0), (3, .int y74), (4, .int y73)]) hx hb dX11_middle_143 hl (k := 2) rfl f_v81 (by decide) rfl (fun ls hl => ?_)
                refine lv_goto (tgt := 8) hx hb dX11_middle_146 (by decide) ?_
                exact ih8_65 v81 v80 _ _ _ (by omega)  (by omega) hT hS (lv_sub hl [2, 1, 0] rfl)
            · skip
              have c_76 := ni_nle c_76 rfl rfl
              refine lv_aload_n hx hb dX11_middle_30 rfl (lv_at hl 0 rfl) ?_
              refine lv_iload_n hx hb dX11_middle_31 rfl (lv_at hl 2 rfl) ?_
              refine lv_aload_n hx hb dX11_middle_32 rfl (lv_at hl 0 rfl) ?_
              refine tz_get (ci := 8) (v := .ref h4) (C := RX11) (F := TX11) (N := 36) hx hb hU iX11 hown hK hT 1 rfl rfl 11 (by decide) w796 (fun _ h9 => h9) rfl dX11_middle_33 ?_
              refine tcV (Tc := [(h0, ob 8 [.int h0f0, .int h0f1, .int h0f2, .int h0f3, .int h0f4, .int h0f5, .ref h1, .ref h2, .int h0f8, .int v2, .ref h3, .ref h4, .ref h5, .ref h6, .ref h7, .ref h8, .ref h9, .int h0f17, .int h0f18, .int h0f19, .ref h10, .ref h11, .ref h12, .ref h13, .int v3, .int v4, .ref h14, .ref h15, .ref h16, .ref h17, .int h0f30, .int h0f31, .ref h18, .ref h19, .ref h20, .ref h21]), (h4, aJ (k 1) 9 anJ), (h10, aJ (k 1) 900 (lsP (v2.toInt)))]) (Tr := [(h3, aJ (k 1) 9 anJ), (h1, aI (k 0) 36 anI), (h5, aJ (k 1) 9 anJ), (h6, aJ (k 1) 9 anJ), (h11, aI (k 0) 100 anI), (h12, aI (k 0) 100 anI), (h13, aI (k 0) 100 anI)]) (as := [h0, h4, h10]) (zcV (q0 := 1) (ci := 8) (As := [.int y63, .ref h4]) (rest := []) (Tc := [(h0, ob 8 [.int h0f0, .int h0f1, .int h0f2, .int h0f3, .int h0f4, .int h0f5, .ref h1, .ref h2, .int h0f8, .int v2, .ref h3, .ref h4, .ref h5, .ref h6, .ref h7, .ref h8, .ref h9, .int h0f17, .int h0f18, .int h0f19, .ref h10, .ref h11, .ref h12, .ref h13, .int v3, .int v4, .ref h14, .ref h15, .ref h16, .ref h17, .int h0f30, .int h0f31, .ref h18, .ref h19, .ref h20, .ref h21]), (h4, aJ (k 1) 9 anJ), (h10, aJ (k 1) 900 (lsP (v2.toInt)))]) hx hb hml hown hU hK hT rfl rfl [1, 3, 6] rfl (by decide) (cX11_takesElement_3b10e l D k _ h0 h4 h10 h1 h2 h3 h5 h6 h7 h8 h9 h11 h12 h13 h14 h15 h16 h17 h18 h19 h20 h21 y63 h0f0 h0f1 h0f2 h0f3 h0f4 h0f5 h0f8 v2 h0f17 h0f18 h0f19 v3 v4 h0f30 h0f31 (by omega) (by omega) (by omega) (by omega) (by omega) (by omega) (by omega) (by omega) (by omega) (by omega) (by omega) (by omega) (by omega) (by omega) (by omega) (by omega)) w1047 w1044 w1046 w49 w72 hdX11_takesElement ⟨rfl, rfl⟩ ⟨Nat.le_of_ble_eq_true rfl, Nat.le_of_ble_eq_true rfl⟩ rfl hl.1 (Nat.le_of_ble_eq_true rfl) dX11_middle_36 ⟨Nat.le_of_ble_eq_true rfl, Nat.le_of_ble_eq_true rfl⟩) hT hS hA [1, 3, 6] [0, 2, 4, 5, 7, 8, 9] rfl rfl rfl (by decide) (by decide) (fun H locs hB J hS => ?_)
              have hT1 := hB
              have hT := J _ hT1
              have hT : TP D A [(h3, aJ (k 1) 9 anJ), (h1, aI (k 0) 36 anI), (h5, aJ (k 1) 9 anJ), (h6, aJ (k 1) 9 anJ), (h11, aI (k 0) 100 anI), (h12, aI (k 0) 100 anI), (h13, aI (k 0) 100 anI), (h0, ob 8 [.int h0f0, .int h0f1, .int h0f2, .int h0f3, .int h0f4, .int h0f5, .ref h1, .ref h2, .int h0f8, .int v2, .ref h3, .ref h4, .ref h5, .ref h6, .ref h7, .ref h8, .ref h9, .int h0f17, .int h0f18, .int h0f19, .ref h10, .ref h11, .ref h12, .ref h13, .int v3, .int v4, .ref h14, .ref h15, .ref h16, .ref h17, .int h0f30, .int h0f31, .ref h18, .ref h19, .ref h20, .ref h21]), (h4, aJ (k 1) 9 anJ), (h10, aJ (k 1) 900 (lsP (v2.toInt)))] _ := hT
              refine lv_aload_n hx hb dX11_middle_39 rfl (lv_at hl 0 rfl) ?_
              refine lv_iload hx hb dX11_middle_40 (lv_at hl 4 rfl) ?_
              refine lv_aload_n hx hb dX11_middle_42 rfl (lv_at hl 0 rfl) ?_
              refine tz_get (ci := 8) (v := .ref h5) (C := RX11) (F := TX11) (N := 36) hx hb hU iX11 hown hK hT 7 rfl rfl 12 (by decide) w797 (fun _ h9 => h9) rfl dX11_middle_43 ?_
              refine tcV (Tc := [(h0, ob 8 [.int h0f0, .int h0f1, .int h0f2, .int h0f3, .int h0f4, .int h0f5, .ref h1, .ref h2, .int h0f8, .int v2, .ref h3, .ref h4, .ref h5, .ref h6, .ref h7, .ref h8, .ref h9, .int h0f17, .int h0f18, .int h0f19, .ref h10, .ref h11, .ref h12, .ref h13, .int v3, .int v4, .ref h14, .ref h15, .ref h16, .ref h17, .int h0f30, .int h0f31, .ref h18, .ref h19, .ref h20, .ref h21]), (h5, aJ (k 1) 9 anJ), (h1, aI (k 0) 36 anI)]) (Tr := [(h3, aJ (k 1) 9 anJ), (h6, aJ (k 1) 9 anJ), (h11, aI (k 0) 100 anI), (h12, aI (k 0) 100 anI), (h13, aI (k 0) 100 anI), (h4, aJ (k 1) 9 anJ), (h10, aJ (k 1) 900 (lsP (v2.toInt)))]) (as := [h0, h5, h1]) (zcV (q0 := 7) (ci := 8) (As := [.int y73, .ref h5]) (rest := []) (Tc := [(h0, ob 8 [.int h0f0, .int h0f1, .int h0f2, .int h0f3, .int h0f4, .int h0f5, .ref h1, .ref h2, .int h0f8, .int v2, .ref h3, .ref h4, .ref h5, .ref h6, .ref h7, .ref h8, .ref h9, .int h0f17, .int h0f18, .int h0f19, .ref h10, .ref h11, .ref h12, .ref h13, .int v3, .int v4, .ref h14, .ref h15, .ref h16, .ref h17, .int h0f30, .int h0f31, .ref h18, .ref h19, .ref h20, .ref h21]), (h5, aJ (k 1) 9 anJ), (h1, aI (k 0) 36 anI)]) hx hb hml hown hU hK hT rfl rfl [7, 2, 1] rfl (by decide) (cX11_takes_479bd l D k _ h0 h5 h1 h2 h3 h4 h6 h7 h8 h9 h10 h11 h12 h13 h14 h15 h16 h17 h18 h19 h20 h21 y73 h0f0 h0f1 h0f2 h0f3 h0f4 h0f5 h0f8 v2 h0f17 h0f18 h0f19 v3 v4 h0f30 h0f31 (by omega) (by omega) (by omega) (by omega) (by omega) (by omega) (by omega) (by omega) (by omega) (by omega) (by omega) (by omega) (by omega) (by omega) (by omega) (by omega)) w939 w936 w938 w32 w72 hdX11_takes ⟨rfl, rfl⟩ ⟨Nat.le_of_ble_eq_true rfl, Nat.le_of_ble_eq_true rfl⟩ rfl hl.1 (Nat.le_of_ble_eq_true rfl) dX11_middle_46 ⟨Nat.le_of_ble_eq_true rfl, Nat.le_of_ble_eq_true rfl⟩) hT hS hA [7, 2, 1] [0, 3, 4, 5, 6, 8, 9] rfl rfl rfl (by decide) (by decide) (fun H locs hB J hS => ?_)
              have hT1 := hB
              have hT := J _ hT1
              have hT : TP D A [(h3, aJ (k 1) 9 anJ), (h6, aJ (k 1) 9 anJ), (h11, aI (k 0) 100 anI), (h12, aI (k 0) 100 anI), (h13, aI (k 0) 100 anI), (h4, aJ (k 1) 9 anJ), (h10, aJ (k 1) 900 (lsP (v2.toInt))), (h0, ob 8 [.int h0f0, .int h0f1, .int h0f2, .int h0f3, .int h0f4, .int h0f5, .ref h1, .ref h2, .int h0f8, .int v2, .ref h3, .ref h4, .ref h5, .ref h6, .ref h7, .ref h8, .ref h9, .int h0f17, .int h0f18, .int h0f19, .ref h10, .ref h11, .ref h12, .ref h13, .int v3, .int v4, .ref h14, .ref h15, .ref h16, .ref h17, .int h0f30, .int h0f31, .ref h18, .ref h19, .ref h20, .ref h21]), (h5, aJ (k 1) 9 anJ), (h1, aI (k 0) 36 anI)] _ := hT
              refine lv_aload_n hx hb dX11_middle_49 rfl (lv_at hl 0 rfl) ?_
              refine lv_aload_n hx hb dX11_middle_50 rfl (lv_at hl 0 rfl) ?_
              refine tz_get (ci := 8) (v := .ref h4) (C := RX11) (F := TX11) (N := 36) hx hb hU iX11 hown hK hT 7 rfl rfl 11 (by decide) w796 (fun _ h9 => h9) rfl dX11_middle_51 ?_
              refine lv_aload_n hx hb dX11_middle_54 rfl (lv_at hl 0 rfl) ?_
              refine tz_get (ci := 8) (v := .ref h5) (C := RX11) (F := TX11) (N := 36) hx hb hU iX11 hown hK hT 7 rfl rfl 12 (by decide) w797 (fun _ h9 => h9) rfl dX11_middle_55 ?_
              refine lv_aload_n hx hb dX11_middle_58 rfl (lv_at hl 0 rfl) ?_
              refine tz_get (ci := 8) (v := .ref h6) (C := RX11) (F := TX11) (N := 36) hx hb hU iX11 hown hK hT 7 rfl rfl 13 (by decide) w798 (fun _ h9 => h9) rfl dX11_middle_59 ?_
              refine tcV (Tc := [(h0, ob 8 [.int h0f0, .int h0f1, .int h0f2, .int h0f3, .int h0f4, .int h0f5, .ref h1, .ref h2, .int h0f8, .int v2, .ref h3, .ref h4, .ref h5, .ref h6, .ref h7, .ref h8, .ref h9, .int h0f17, .int h0f18, .int h0f19, .ref h10, .ref h11, .ref h12, .ref h13, .int v3, .int v4, .ref h14, .ref h15, .ref h16, .ref h17, .int h0f30, .int h0f31, .ref h18, .ref h19, .ref h20, .ref h21]), (h4, aJ (k 1) 9 anJ), (h5, aJ (k 1) 9 anJ), (h6, aJ (k 1) 9 anJ)]) (Tr := [(h3, aJ (k 1) 9 anJ), (h11, aI (k 0) 100 anI), (h12, aI (k 0) 100 anI), (h13, aI (k 0) 100 anI), (h10, aJ (k 1) 900 (lsP (v2.toInt))), (h1, aI (k 0) 36 anI)]) (as := [h0, h4, h5, h6]) (zcV (q0 := 7) (ci := 8) (As := [.ref h4, .ref h5, .ref h6]) (rest := []) (Tc := [(h0, ob 8 [.int h0f0, .int h0f1, .int h0f2, .int h0f3, .int h0f4, .int h0f5, .ref h1, .ref h2, .int h0f8, .int v2, .ref h3, .ref h4, .ref h5, .ref h6, .ref h7, .ref h8, .ref h9, .int h0f17, .int h0f18, .int h0f19, .ref h10, .ref h11, .ref h12, .ref h13, .int v3, .int v4, .ref h14, .ref h15, .ref h16, .ref h17, .int h0f30, .int h0f31, .ref h18, .ref h19, .ref h20, .ref h21]), (h4, aJ (k 1) 9 anJ), (h5, aJ (k 1) 9 anJ), (h6, aJ (k 1) 9 anJ)]) hx hb hml hown hU hK hT rfl rfl [7, 5, 8, 1] rfl (by decide) (cX11_times_48221 l D k _ h0 h4 h5 h6 h1 h2 h3 h7 h8 h9 h10 h11 h12 h13 h14 h15 h16 h17 h18 h19 h20 h21 h0f0 h0f1 h0f2 h0f3 h0f4 h0f5 h0f8 v2 h0f17 h0f18 h0f19 v3 v4 h0f30 h0f31 (by omega) (by omega) (by omega) (by omega) (by omega) (by omega) (by omega) (by omega) (by omega) (by omega) (by omega) (by omega) (by omega) (by omega) (by omega)) w943 w940 w942 w33 w72 hdX11_times ⟨rfl, rfl⟩ ⟨Nat.le_of_ble_eq_true rfl, Nat.le_of_ble_eq_true rfl⟩ rfl hl.1 (Nat.le_of_ble_eq_true rfl) dX11_middle_62 ⟨Nat.le_of_ble_eq_true rfl, Nat.le_of_ble_eq_true rfl⟩) hT hS hA [7, 5, 8, 1] [0, 2, 3, 4, 6, 9] rfl rfl rfl (by decide) (by decide) (fun H locs hB J hS => ?_)
              have hT1 := hB
              have hT := J _ hT1
              have hT : TP D A [(h3, aJ (k 1) 9 anJ), (h11, aI (k 0) 100 anI), (h12, aI (k 0) 100 anI), (h13, aI (k 0) 100 anI), (h10, aJ (k 1) 900 (lsP (v2.toInt))), (h1, aI (k 0) 36 anI), (h0, ob 8 [.int h0f0, .int h0f1, .int h0f2, .int h0f3, .int h0f4, .int h0f5, .ref h1, .ref h2, .int h0f8, .int v2, .ref h3, .ref h4, .ref h5, .ref h6, .ref h7, .ref h8, .ref h9, .int h0f17, .int h0f18, .int h0f19, .ref h10, .ref h11, .ref h12, .ref h13, .int v3, .int v4, .ref h14, .ref h15, .ref h16, .ref h17, .int h0f30, .int h0f31, .ref h18, .ref h19, .ref h20, .ref h21]), (h4, aJ (k 1) 9 anJ), (h5, aJ (k 1) 9 anJ), (h6, aJ (k 1) 9 anJ)] _ := hT
              refine lv_aload_n hx hb dX11_middle_65 rfl (lv_at hl 0 rfl) ?_
              refine lv_aload_n hx hb dX11_middle_66 rfl (lv_at hl 0 rfl) ?_
              refine tz_get (ci := 8) (v := .ref h5) (C := RX11) (F := TX11) (N := 36) hx hb hU iX11 hown hK hT 6 rfl rfl 12 (by decide) w797 (fun _ h9 => h9) rfl dX11_middle_67 ?_
              refine lv_aload_n hx hb dX11_middle_70 rfl (lv_at hl 0 rfl) ?_
              refine tz_get (ci := 8) (v := .ref h4) (C := RX11) (F := TX11) (N := 36) hx hb hU iX11 hown hK hT 6 rfl rfl 11 (by decide) w796 (fun _ h9 => h9) rfl dX11_middle_71 ?_
              refine lv_aload_n hx hb dX11_middle_74 rfl (lv_at hl 0 rfl) ?_
              refine tz_get (ci := 8) (v := .ref h3) (C := RX11) (F := TX11) (N := 36) hx hb hU iX11 hown hK hT 6 rfl rfl 10 (by decide) w795 (fun _ h9 => h9) rfl dX11_middle_75 ?_
              refine tcV (Tc := [(h0, ob 8 [.int h0f0, .int h0f1, .int h0f2, .int h0f3, .int h0f4, .int h0f5, .ref h1, .ref h2, .int h0f8, .int v2, .ref h3, .ref h4, .ref h5, .ref h6, .ref h7, .ref h8, .ref h9, .int h0f17, .int h0f18, .int h0f19, .ref h10, .ref h11, .ref h12, .ref h13, .int v3, .int v4, .ref h14, .ref h15, .ref h16, .ref h17, .int h0f30, .int h0f31, .ref h18, .ref h19, .ref h20, .ref h21]), (h5, aJ (k 1) 9 anJ), (h4, aJ (k 1) 9 anJ), (h3, aJ (k 1) 9 anJ)]) (Tr := [(h11, aI (k 0) 100 anI), (h12, aI (k 0) 100 anI), (h13, aI (k 0) 100 anI), (h10, aJ (k 1) 900 (lsP (v2.toInt))), (h1, aI (k 0) 36 anI), (h6, aJ (k 1) 9 anJ)]) (as := [h0, h5, h4, h3]) (zcV (q0 := 6) (ci := 8) (As := [.ref h5, .ref h4, .ref h3]) (rest := []) (Tc := [(h0, ob 8 [.int h0f0, .int h0f1, .int h0f2, .int h0f3, .int h0f4, .int h0f5, .ref h1, .ref h2, .int h0f8, .int v2, .ref h3, .ref h4, .ref h5, .ref h6, .ref h7, .ref h8, .ref h9, .int h0f17, .int h0f18, .int h0f19, .ref h10, .ref h11, .ref h12, .ref h13, .int v3, .int v4, .ref h14, .ref h15, .ref h16, .ref h17, .int h0f30, .int h0f31, .ref h18, .ref h19, .ref h20, .ref h21]), (h5, aJ (k 1) 9 anJ), (h4, aJ (k 1) 9 anJ), (h3, aJ (k 1) 9 anJ)]) hx hb hml hown hU hK hT rfl rfl [6, 8, 7, 0] rfl (by decide) (cX11_times_2393c l D k _ h0 h5 h4 h3 h1 h2 h6 h7 h8 h9 h10 h11 h12 h13 h14 h15 h16 h17 h18 h19 h20 h21 h0f0 h0f1 h0f2 h0f3 h0f4 h0f5 h0f8 v2 h0f17 h0f18 h0f19 v3 v4 h0f30 h0f31 (by omega) (by omega) (by omega) (by omega) (by omega) (by omega) (by omega) (by omega) (by omega) (by omega) (by omega) (by omega) (by omega) (by omega) (by omega)) w943 w940 w942 w33 w72 hdX11_times ⟨rfl, rfl⟩ ⟨Nat.le_of_ble_eq_true rfl, Nat.le_of_ble_eq_true rfl⟩ rfl hl.1 (Nat.le_of_ble_eq_true rfl) dX11_middle_78 ⟨Nat.le_of_ble_eq_true rfl, Nat.le_of_ble_eq_true rfl⟩) hT hS hA [6, 8, 7, 0] [1, 2, 3, 4, 5, 9] rfl rfl rfl (by decide) (by decide) (fun H locs hB J hS => ?_)
              have hT1 := hB
              have hT := J _ hT1
              have hT : TP D A [(h11, aI (k 0) 100 anI), (h12, aI (k 0) 100 anI), (h13, aI (k 0) 100 anI), (h10, aJ (k 1) 900 (lsP (v2.toInt))), (h1, aI (k 0) 36 anI), (h6, aJ (k 1) 9 anJ), (h0, ob 8 [.int h0f0, .int h0f1, .int h0f2, .int h0f3, .int h0f4, .int h0f5, .ref h1, .ref h2, .int h0f8, .int v2, .ref h3, .ref h4, .ref h5, .ref h6, .ref h7, .ref h8, .ref h9, .int h0f17, .int h0f18, .int h0f19, .ref h10, .ref h11, .ref h12, .ref h13, .int v3, .int v4, .ref h14, .ref h15, .ref h16, .ref h17, .int h0f30, .int h0f31, .ref h18, .ref h19, .ref h20, .ref h21]), (h5, aJ (k 1) 9 anJ), (h4, aJ (k 1) 9 anJ), (h3, aJ (k 1) 9 anJ)] _ := hT
              refine lv_iconst (v := 0) hx hb dX11_middle_81 (by decide) ?_
              refine lv_istore (lv' := [(5, .int 0), (0, .ref h0), (1, .int y64), (2, .int y63), (3, .int y74), (4, .int y73)]) hx hb dX11_middle_82 hl (by decide) rfl (fun ls hl => ?_)
              have lp84_100 : ∀ (n : Nat) (y98 : Int32) (y99 : Int32) (H : Heap) (locs : List Loc) (ls : Array Slot), (0 ≤ y98.toInt ∧ y98.toInt ≤ 9) → (0 ≤ y99.toInt ∧ y99.toInt ≤ 1) → ((-1) * y98.toInt + 9 + 1).toNat < n → TP D A [(h11, aI (k 0) 100 anI), (h12, aI (k 0) 100 anI), (h13, aI (k 0) 100 anI), (h10, aJ (k 1) 900 (lsP (v2.toInt))), (h1, aI (k 0) 36 anI), (h6, aJ (k 1) 9 anJ), (h0, ob 8 [.int h0f0, .int h0f1, .int h0f2, .int h0f3, .int h0f4, .int h0f5, .ref h1, .ref h2, .int h0f8, .int v2, .ref h3, .ref h4, .ref h5, .ref h6, .ref h7, .ref h8, .ref h9, .int h0f17, .int h0f18, .int h0f19, .ref h10, .ref h11, .ref h12, .ref h13, .int v3, .int v4, .ref h14, .ref h15, .ref h16, .ref h17, .int h0f30, .int h0f31, .ref h18, .ref h19, .ref h20, .ref h21]), (h5, aJ (k 1) 9 anJ), (h4, aJ (k 1) 9 anJ), (h3, aJ (k 1) 9 anJ)] H → va_S A s.heap H locs → lv_has ls 6 [(0, .ref h0), (1, .int y64), (2, .int y63), (3, .int y99), (4, .int y73), (5, .int y98)] → W p l e Rm_cX11_middle_6ca08 s m args below meth c H locs 0 0 Q (F0 m 84 ls []) := by
                intro n
                induction n with
                | zero => intro y98 y99 H locs ls b_y98 b_y99 hm hT hS hl; exact absurd hm (Nat.not_lt_zero _)
                | succ n ih =>
                  intro y98 y99 H locs ls b_y98 b_y99 hm hT hS hl
                  have ih84_100 := ih
                  clear ih
                  refine lv_iload hx hb dX11_middle_84 (lv_at hl 5 rfl) ?_
                  refine lv_bipush (v := 9) hx hb dX11_middle_86 (by decide) ?_
                  refine lv_icmp_ge (tgt := 125) hx hb dX11_middle_88 (by decide) (fun c_101 => ?_) (fun c_101 => ?_)
                  · skip
                    have c_101 := ni_le c_101 li_9 rfl
                    obtain ⟨v102, e_v102⟩ : ∃ x : Int32, x = y73 + Int32.ofInt 1 := ⟨_, rfl⟩
                    have f_v102 := e_v102.symm
                    have e_v102 : v102.toInt = y73.toInt + 1 := ai_add e_v102 rfl (show (Int32.ofInt 1).toInt = 1 from (by decide +kernel)) (by omega)
                    refine lv_iinc (v := v102) (lv' := [(4, .int v102), (0, .ref h0), (1, .int y64), (2, .int y63), (3, .int y99), (5, .int y98)]) hx hb dX11_middle_125 hl (k := 4) rfl f_v102 (by decide) rfl (fun ls hl => ?_)
                    refine lv_goto (tgt := 21) hx hb dX11_middle_128 (by decide) ?_
                    exact ih21_75 v102 y99 _ _ _ (by omega) (by omega)  (by omega) (hT.sub [9, 6, 4, 8, 7, 5, 3, 0, 1, 2] (by decide) rfl) hS (lv_sub hl [1, 2, 3, 4, 0] rfl)
                  · skip
                    have c_101 := ni_nle c_101 li_9 rfl
                    refine lv_iload_n hx hb dX11_middle_91 rfl (lv_at hl 3 rfl) ?_
                    refine lv_if_eq (tgt := 117) hx hb dX11_middle_92 (by decide) (fun c_103 => ?_) (fun c_103 => ?_)
                    · skip
                      have c_103 := ni_eq c_103 rfl li_0
                      refine lv_iconst (v := 0) hx hb dX11_middle_117 (by decide) ?_
                      refine lv_istore_n (lv' := [(3, .int 0), (0, .ref h0), (1, .int y64), (2, .int y63), (4, .int y73), (5, .int y98)]) hx hb dX11_middle_118 rfl hl (by decide) rfl (fun ls hl => ?_)
                      obtain ⟨v104, e_v104⟩ : ∃ x : Int32, x = y98 + Int32.ofInt 1 := ⟨_, rfl⟩
                      have f_v104 := e_v104.symm
                      have e_v104 : v104.toInt = y98.toInt + 1 := ai_add e_v104 rfl (show (Int32.ofInt 1).toInt = 1 from (by decide +kernel)) (by omega)
                      refine lv_iinc (v := v104) (lv' := [(5, .int v104), (3, .int 0), (0, .ref h0), (1, .int y64), (2, .int y63), (4, .int y73)]) hx hb dX11_middle_119 hl (k := 5) rfl f_v104 (by decide) rfl (fun ls hl => ?_)
                      refine lv_goto (tgt := 84) hx hb dX11_middle_122 (by decide) ?_
                      exact ih84_100 v104 (0) _ _ _ (by have := li_0; omega) (by have := li_0; omega)  (by have := li_0; omega) hT hS (lv_sub hl [2, 3, 4, 1, 5, 0] rfl)
                    · skip
                      have c_103 := ni_ne c_103 rfl li_0
                      refine lv_aload_n hx hb dX11_middle_95 rfl (lv_at hl 0 rfl) ?_
                      refine tz_get (ci := 8) (v := .ref h6) (C := RX11) (F := TX11) (N := 36) hx hb hU iX11 hown hK hT 6 rfl rfl 13 (by decide) w798 (fun _ h9 => h9) rfl dX11_middle_96 ?_
                      refine lv_iload hx hb dX11_middle_99 (lv_at hl 5 rfl) ?_
                      refine tz_lald hx hb hK hT 5 rfl (by omega) dX11_middle_101 (fun v105 e_v105 => ?_)
                      clear e_v105
                      refine lv_aload_n hx hb dX11_middle_102 rfl (lv_at hl 0 rfl) ?_
                      refine tz_get (ci := 8) (v := .ref h3) (C := RX11) (F := TX11) (N := 36) hx hb hU iX11 hown hK hT 6 rfl rfl 10 (by decide) w795 (fun _ h9 => h9) rfl dX11_middle_103 ?_
                      refine lv_iload hx hb dX11_middle_106 (lv_at hl 5 rfl) ?_
                      refine tz_lald hx hb hK hT 9 rfl (by omega) dX11_middle_108 (fun v106 e_v106 => ?_)
                      clear e_v106
                      refine W.lcmp hx hb dX11_middle_109 ?_
                      refine lv_if_ne (tgt := 117) hx hb dX11_middle_110 (by decide) (fun c_107 => ?_) (fun c_107 => ?_)
                      · skip
                        have c_107 := nl_ne c_107 rfl rfl
                        refine lv_iconst (v := 0) hx hb dX11_middle_117 (by decide) ?_
                        refine lv_istore_n (lv' := [(3, .int 0), (0, .ref h0), (1, .int y64), (2, .int y63), (4, .int y73), (5, .int y98)]) hx hb dX11_middle_118 rfl hl (by decide) rfl (fun ls hl => ?_)
                        obtain ⟨v108, e_v108⟩ : ∃ x : Int32, x = y98 + Int32.ofInt 1 := ⟨_, rfl⟩
                        have f_v108 := e_v108.symm
                        have e_v108 : v108.toInt = y98.toInt + 1 := ai_add e_v108 rfl (show (Int32.ofInt 1).toInt = 1 from (by decide +kernel)) (by omega)
                        refine lv_iinc (v := v108) (lv' := [(5, .int v108), (3, .int 0), (0, .ref h0), (1, .int y64), (2, .int y63), (4, .int y73)]) hx hb dX11_middle_119 hl (k := 5) rfl f_v108 (by decide) rfl (fun ls hl => ?_)
                        refine lv_goto (tgt := 84) hx hb dX11_middle_122 (by decide) ?_
                        exact ih84_100 v108 (0) _ _ _ (by have := li_0; omega) (by have := li_0; omega)  (by have := li_0; omega) hT hS (lv_sub hl [2, 3, 4, 1, 5, 0] rfl)
                      · skip
                        have c_107 := nl_eq c_107 rfl rfl
                        refine lv_iconst (v := 1) hx hb dX11_middle_113 (by decide) ?_
                        refine lv_goto (tgt := 118) hx hb dX11_middle_114 (by decide) ?_
                        refine lv_istore_n (lv' := [(3, .int 1), (0, .ref h0), (1, .int y64), (2, .int y63), (4, .int y73), (5, .int y98)]) hx hb dX11_middle_118 rfl hl (by decide) rfl (fun ls hl => ?_)
                        obtain ⟨v109, e_v109⟩ : ∃ x : Int32, x = y98 + Int32.ofInt 1 := ⟨_, rfl⟩
                        have f_v109 := e_v109.symm
                        have e_v109 : v109.toInt = y98.toInt + 1 := ai_add e_v109 rfl (show (Int32.ofInt 1).toInt = 1 from (by decide +kernel)) (by omega)
                        refine lv_iinc (v := v109) (lv' := [(5, .int v109), (3, .int 1), (0, .ref h0), (1, .int y64), (2, .int y63), (4, .int y73)]) hx hb dX11_middle_119 hl (k := 5) rfl f_v109 (by decide) rfl (fun ls hl => ?_)
                        refine lv_goto (tgt := 84) hx hb dX11_middle_122 (by decide) ?_
                        exact ih84_100 v109 (1) _ _ _ (by have := li_1; omega) (by have := li_1; omega)  (by have := li_1; omega) hT hS (lv_sub hl [2, 3, 4, 1, 5, 0] rfl)
              exact lp84_100 (((-1) * (0 : Int32).toInt + 9 + 1).toNat + 1) (0) y74 _ _ _ (by have := li_0; omega) (by have := li_0; omega)  (Nat.lt_succ_self _) hT hS (lv_sub hl [1, 2, 3, 4, 5, 0] rfl)
        exact lp21_75 ((h0f1.toInt + (-1) * (0 : Int32).toInt + 1).toNat + 1) (0) (1) _ _ _ (by have := li_0; have := li_1; omega) (by have := li_0; have := li_1; omega)  (Nat.lt_succ_self _) hT hS (lv_sub hl [2, 3, 4, 1, 0] rfl)
  exact lp8_65 ((v3.toInt + (-1) * (0 : Int32).toInt + 1).toNat + 1) (0) (0) _ _ _ (by have := li_0; omega)  (Nat.lt_succ_self _) hT hS (lv_sub hl [2, 1, 0] rfl)
abbrev Rm_cX7_addUp_32ffe : Room := { frames := 0, cells := 0, slots := 0, locals := 0 }
abbrev B_cX7_addUp_32ffe (D : va_G) (k : Nat → ClassId) (h0 : Nat) (x1 : Int32) (x2 : Int32) (x4 : Int32) (x5 : Int32) (x6 : Int32) (A : Nat → Prop) (r : Int64) (H : Heap) : Prop := TP D A [(h0, aJ (k 1) 900 anJ)] H
set_option maxHeartbeats 4000000 in
set_option maxRecDepth 100000 in
theorem cX7_addUp_32ffe (l : Launch) (D : va_G) (k : Nat → ClassId) (sz : Nat) (h0 : Nat) (x1 : Int32) (x2 : Int32) (x4 : Int32) (x5 : Int32) (x6 : Int32) (b_x1 : 0 ≤ x1.toInt ∧ x1.toInt ≤ 893) (b_x2 : 1 ≤ x2.toInt ∧ x2.toInt ≤ 3) (b_x4 : 0 ≤ x4.toInt ∧ x4.toInt ≤ 893) (b_x5 : 1 ≤ x5.toInt ∧ x5.toInt ≤ 3) (b_x6 : 1 ≤ x6.toInt ∧ x6.toInt ≤ 3) : Met l yX7_addUp (Cond.code yX7_addUp cX7_addUp 10 (some .long) :: uw) Rm_cX7_addUp_32ffe (pT D k sz [.ref h0, .int x1, .int x2, .ref h0, .int x4, .int x5, .int x6] [(h0, aJ (k 1) 900 anJ)]) (qL (B_cX7_addUp_32ffe D k h0 x1 x2 x4 x5 x6 (zA [h0] sz)) (zA [h0] sz)) 0 0 (zA [h0] sz) := by
  refine tz_begin (as := [h0]) (Qc := fun A => qL (B_cX7_addUp_32ffe D k h0 x1 x2 x4 x5 x6 A) A) (by decide +kernel) rfl (Nat.le_of_ble_eq_true rfl) ?_
  intro p e s m args below meth c ls A Q hx hb hr hml hown hlocks hin hU hK hT hS hA hl hQ
  have hl : lv_has ls 10 [(0, .ref h0), (1, .int x1), (2, .int x2), (3, .ref h0), (4, .int x4), (5, .int x5), (6, .int x6)] := hl
  have hT : TP D A [(h0, aJ (k 1) 900 anJ)] s.heap := hT
  refine lv_lconst (v := 0) hx hb dX7_addUp_0 (by decide) ?_
  refine lv_lstore (lv' := [(7, .long 0), (0, .ref h0), (1, .int x1), (2, .int x2), (3, .ref h0), (4, .int x4), (5, .int x5), (6, .int x6)]) hx hb dX7_addUp_1 hl (by decide) rfl (fun ls hl => ?_)
  refine lv_iconst (v := 0) hx hb dX7_addUp_3 (by decide) ?_
  refine lv_istore (lv' := [(9, .int 0), (7, .long 0), (0, .ref h0), (1, .int x1), (2, .int x2), (3, .ref h0), (4, .int x4), (5, .int x5), (6, .int x6)]) hx hb dX7_addUp_4 hl (by decide) rfl (fun ls hl => ?_)
  have lp6_7 : ∀ (n : Nat) (y5 : Int32) (y6 : Int64) (H : Heap) (locs : List Loc) (ls : Array Slot), (0 ≤ y5.toInt ∧ y5.toInt ≤ 3) → (x6.toInt + (-1) * y5.toInt + 1).toNat < n → TP D A [(h0, aJ (k 1) 900 anJ)] H → va_S A s.heap H locs → lv_has ls 10 [(0, .ref h0), (1, .int x1), (2, .int x2), (3, .ref h0), (4, .int x4), (5, .int x5), (6, .int x6), (7, .long y6), (9, .int y5)] → W p l e Rm_cX7_addUp_32ffe s m args below meth c H locs 0 0 Q (F0 m 6 ls []) := by
    intro n
    induction n with
    | zero => intro y5 y6 H locs ls b_y5 hm hT hS hl; exact absurd hm (Nat.not_lt_zero _)
    | succ n ih =>
      intro y5 y6 H locs ls b_y5 hm hT hS hl
      have ih6_7 := ih
      clear ih
      refine lv_iload hx hb dX7_addUp_6 (lv_at hl 8 rfl) ?_
      refine lv_iload hx hb dX7_addUp_8 (lv_at hl 6 rfl) ?_
      refine lv_icmp_ge (tgt := 43) hx hb dX7_addUp_10 (by decide) (fun c_8 => ?_) (fun c_8 => ?_)
      · skip
        have c_8 := ni_le c_8 rfl rfl
        refine lv_lload hx hb dX7_addUp_43 (lv_at hl 7 rfl) ?_
        exact tz_retL (B := B_cX7_addUp_32ffe D k h0 x1 x2 x4 x5 x6) (v := y6) hQ hx hb hr hlocks hS (Nat.le_of_ble_eq_true rfl) (Nat.le_of_ble_eq_true rfl) dX7_addUp_45 (hT)
      · skip
        have c_8 := ni_nle c_8 rfl rfl
        refine lv_lload hx hb dX7_addUp_13 (lv_at hl 7 rfl) ?_
        refine lv_aload_n hx hb dX7_addUp_15 rfl (lv_at hl 0 rfl) ?_
        refine lv_iload_n hx hb dX7_addUp_16 rfl (lv_at hl 1 rfl) ?_
        refine lv_iload hx hb dX7_addUp_17 (lv_at hl 8 rfl) ?_
        refine lv_iload_n hx hb dX7_addUp_19 rfl (lv_at hl 2 rfl) ?_
        refine lv_imul hx hb dX7_addUp_20 (lv_topi (fun v9 e_v9 => ?_))
        have e_v9 := ai_mm (la := 0) (ua := 2) (lb := 1) (ub := 3) e_v9 rfl rfl (by omega) (by decide)
        refine lv_iadd hx hb dX7_addUp_21 (lv_topi (fun v10 e_v10 => ?_))
        have e_v10 := ai_add e_v10 rfl rfl (by omega)
        refine tz_lald hx hb hK hT 0 rfl (by omega) dX7_addUp_22 (fun v11 e_v11 => ?_)
        clear e_v11
        refine lv_aload_n hx hb dX7_addUp_23 rfl (lv_at hl 3 rfl) ?_
        refine lv_iload hx hb dX7_addUp_24 (lv_at hl 4 rfl) ?_
        refine lv_iload hx hb dX7_addUp_26 (lv_at hl 8 rfl) ?_
        refine lv_iload hx hb dX7_addUp_28 (lv_at hl 5 rfl) ?_
        refine lv_imul hx hb dX7_addUp_30 (lv_topi (fun v12 e_v12 => ?_))
        have e_v12 := ai_mm (la := 0) (ua := 2) (lb := 1) (ub := 3) e_v12 rfl rfl (by omega) (by decide)
        refine lv_iadd hx hb dX7_addUp_31 (lv_topi (fun v13 e_v13 => ?_))
        have e_v13 := ai_add e_v13 rfl rfl (by omega)
        refine tz_lald hx hb hK hT 0 rfl (by omega) dX7_addUp_32 (fun v14 e_v14 => ?_)
        clear e_v14
        refine lv_lmul hx hb dX7_addUp_33 (lv_topl (fun v15 e_v15 => ?_))
        refine lv_ladd hx hb dX7_addUp_34 (lv_topl (fun v16 e_v16 => ?_))
        refine lv_lstore (lv' := [(7, .long v16), (0, .ref h0), (1, .int x1), (2, .int x2), (3, .ref h0), (4, .int x4), (5, .int x5), (6, .int x6), (9, .int y5)]) hx hb dX7_addUp_35 hl (by decide) rfl (fun ls hl => ?_)
        obtain ⟨v17, e_v17⟩ : ∃ x : Int32, x = y5 + Int32.ofInt 1 := ⟨_, rfl⟩
        have f_v17 := e_v17.symm
        have e_v17 : v17.toInt = y5.toInt + 1 := ai_add e_v17 rfl (show (Int32.ofInt 1).toInt = 1 from (by decide +kernel)) (by omega)
        refine lv_iinc (v := v17) (lv' := [(9, .int v17), (7, .long v16), (0, .ref h0), (1, .int x1), (2, .int x2), (3, .ref h0), (4, .int x4), (5, .int x5), (6, .int x6)]) hx hb dX7_addUp_37 hl (k := 8) rfl f_v17 (by decide) rfl (fun ls hl => ?_)
        refine lv_goto (tgt := 6) hx hb dX7_addUp_40 (by decide) ?_
        exact ih6_7 v17 v16 _ _ _ (by omega)  (by omega) hT hS (lv_sub hl [2, 3, 4, 5, 6, 7, 8, 1, 0] rfl)
  exact lp6_7 ((x6.toInt + (-1) * (0 : Int32).toInt + 1).toNat + 1) (0) (0) _ _ _ (by have := li_0; have := ll_0; omega)  (Nat.lt_succ_self _) hT hS (lv_sub hl [2, 3, 4, 5, 6, 7, 8, 1, 0] rfl)
abbrev Rm_cX7_multiplyTurned_0e5b8 : Room := { frames := 1, cells := 0, slots := 0, locals := 29 }
abbrev B_cX7_multiplyTurned_0e5b8 (D : va_G) (k : Nat → ClassId) (h0 h1 : Nat) (x1 : Int32) (x3 : Int32) (x5 : Int32) (A : Nat → Prop) (H : Heap) : Prop := TP D A [(h0, aJ (k 1) 900 anJ), (h1, aJ (k 1) 9 anJ)] H
set_option maxHeartbeats 4000000 in
set_option maxRecDepth 100000 in
theorem cX7_multiplyTurned_0e5b8 (l : Launch) (D : va_G) (k : Nat → ClassId) (sz : Nat) (h0 h1 : Nat) (x1 : Int32) (x3 : Int32) (x5 : Int32) (b_x1 : 0 ≤ x1.toInt ∧ x1.toInt ≤ 891) (b_x3 : 0 ≤ x3.toInt ∧ x3.toInt ≤ 891) (b_x5 : 1 ≤ x5.toInt ∧ x5.toInt ≤ 3) : Met l yX7_multiplyTurned (Cond.code yX7_multiplyTurned cX7_multiplyTurned 8 none :: uw) Rm_cX7_multiplyTurned_0e5b8 (pT D k sz [.ref h0, .int x1, .ref h0, .int x3, .ref h1, .int x5] [(h0, aJ (k 1) 900 anJ), (h1, aJ (k 1) 9 anJ)]) (qV (B_cX7_multiplyTurned_0e5b8 D k h0 h1 x1 x3 x5 (zA [h0, h1] sz)) (zA [h0, h1] sz)) 0 0 (zA [h0, h1] sz) := by
  refine tz_begin (as := [h0, h1]) (Qc := fun A => qV (B_cX7_multiplyTurned_0e5b8 D k h0 h1 x1 x3 x5 A) A) (by decide +kernel) rfl (Nat.le_of_ble_eq_true rfl) ?_
  intro p e s m args below meth c ls A Q hx hb hr hml hown hlocks hin hU hK hT hS hA hl hQ
  have hl : lv_has ls 8 [(0, .ref h0), (1, .int x1), (2, .ref h0), (3, .int x3), (4, .ref h1), (5, .int x5)] := hl
  have hT : TP D A [(h0, aJ (k 1) 900 anJ), (h1, aJ (k 1) 9 anJ)] s.heap := hT
  refine lv_iconst (v := 0) hx hb dX7_multiplyTurned_0 (by decide) ?_
  refine lv_istore (lv' := [(6, .int 0), (0, .ref h0), (1, .int x1), (2, .ref h0), (3, .int x3), (4, .ref h1), (5, .int x5)]) hx hb dX7_multiplyTurned_1 hl (by decide) rfl (fun ls hl => ?_)
  have lp3_4 : ∀ (n : Nat) (y3 : Int32) (H : Heap) (locs : List Loc) (ls : Array Slot), (0 ≤ y3.toInt ∧ y3.toInt ≤ 3) → (x5.toInt + (-1) * y3.toInt + 1).toNat < n → TP D A [(h0, aJ (k 1) 900 anJ), (h1, aJ (k 1) 9 anJ)] H → va_S A s.heap H locs → lv_has ls 8 [(0, .ref h0), (1, .int x1), (2, .ref h0), (3, .int x3), (4, .ref h1), (5, .int x5), (6, .int y3)] → W p l e Rm_cX7_multiplyTurned_0e5b8 s m args below meth c H locs 0 0 Q (F0 m 3 ls []) := by
    intro n
    induction n with
    | zero => intro y3 H locs ls b_y3 hm hT hS hl; exact absurd hm (Nat.not_lt_zero _)
    | succ n ih =>
      intro y3 H locs ls b_y3 hm hT hS hl
      have ih3_4 := ih
      clear ih
      refine lv_iload hx hb dX7_multiplyTurned_3 (lv_at hl 6 rfl) ?_
      refine lv_iload hx hb dX7_multiplyTurned_5 (lv_at hl 5 rfl) ?_
      refine lv_icmp_ge (tgt := 62) hx hb dX7_multiplyTurned_7 (by decide) (fun c_5 => ?_) (fun c_5 => ?_)
      · skip
        have c_5 := ni_le c_5 rfl rfl
        exact tz_retV (B := B_cX7_multiplyTurned_0e5b8 D k h0 h1 x1 x3 x5) hQ hx hb hr hlocks hS (Nat.le_of_ble_eq_true rfl) (Nat.le_of_ble_eq_true rfl) dX7_multiplyTurned_62 (hT)
      · skip
        have c_5 := ni_nle c_5 rfl rfl
        refine lv_iconst (v := 0) hx hb dX7_multiplyTurned_10 (by decide) ?_
        refine lv_istore (lv' := [(7, .int 0), (0, .ref h0), (1, .int x1), (2, .ref h0), (3, .int x3), (4, .ref h1), (5, .int x5), (6, .int y3)]) hx hb dX7_multiplyTurned_11 hl (by decide) rfl (fun ls hl => ?_)
        have lp13_9 : ∀ (n : Nat) (y8 : Int32) (H : Heap) (locs : List Loc) (ls : Array Slot), (0 ≤ y8.toInt ∧ y8.toInt ≤ 3) → (x5.toInt + (-1) * y8.toInt + 1).toNat < n → TP D A [(h0, aJ (k 1) 900 anJ), (h1, aJ (k 1) 9 anJ)] H → va_S A s.heap H locs → lv_has ls 8 [(0, .ref h0), (1, .int x1), (2, .ref h0), (3, .int x3), (4, .ref h1), (5, .int x5), (6, .int y3), (7, .int y8)] → W p l e Rm_cX7_multiplyTurned_0e5b8 s m args below meth c H locs 0 0 Q (F0 m 13 ls []) := by
          intro n
          induction n with
          | zero => intro y8 H locs ls b_y8 hm hT hS hl; exact absurd hm (Nat.not_lt_zero _)
          | succ n ih =>
            intro y8 H locs ls b_y8 hm hT hS hl
            have ih13_9 := ih
            clear ih
            refine lv_iload hx hb dX7_multiplyTurned_13 (lv_at hl 7 rfl) ?_
            refine lv_iload hx hb dX7_multiplyTurned_15 (lv_at hl 5 rfl) ?_
            refine lv_icmp_ge (tgt := 56) hx hb dX7_multiplyTurned_17 (by decide) (fun c_10 => ?_) (fun c_10 => ?_)
            · skip
              have c_10 := ni_le c_10 rfl rfl
              obtain ⟨v11, e_v11⟩ : ∃ x : Int32, x = y3 + Int32.ofInt 1 := ⟨_, rfl⟩
              have f_v11 := e_v11.symm
              have e_v11 : v11.toInt = y3.toInt + 1 := ai_add e_v11 rfl (show (Int32.ofInt 1).toInt = 1 from (by decide +kernel)) (by omega)
              refine lv_iinc (v := v11) (lv' := [(6, .int v11), (0, .ref h0), (1, .int x1), (2, .ref h0), (3, .int x3), (4, .ref h1), (5, .int x5), (7, .int y8)]) hx hb dX7_multiplyTurned_56 hl (k := 6) rfl f_v11 (by decide) rfl (fun ls hl => ?_)
              refine lv_goto (tgt := 3) hx hb dX7_multiplyTurned_59 (by decide) ?_
              exact ih3_4 v11 _ _ _ (by omega)  (by omega) hT hS (lv_sub hl [1, 2, 3, 4, 5, 6, 0] rfl)
            · skip
              have c_10 := ni_nle c_10 rfl rfl
              refine lv_aload hx hb dX7_multiplyTurned_20 (lv_at hl 4 rfl) ?_
              refine lv_iload hx hb dX7_multiplyTurned_22 (lv_at hl 6 rfl) ?_
              refine lv_iload hx hb dX7_multiplyTurned_24 (lv_at hl 5 rfl) ?_
              refine lv_imul hx hb dX7_multiplyTurned_26 (lv_topi (fun v12 e_v12 => ?_))
              have e_v12 := ai_mm (la := 0) (ua := 2) (lb := 1) (ub := 3) e_v12 rfl rfl (by omega) (by decide)
              refine lv_iload hx hb dX7_multiplyTurned_27 (lv_at hl 7 rfl) ?_
              refine lv_iadd hx hb dX7_multiplyTurned_29 (lv_topi (fun v13 e_v13 => ?_))
              have e_v13 := ai_add e_v13 rfl rfl (by omega)
              refine lv_aload_n hx hb dX7_multiplyTurned_30 rfl (lv_at hl 0 rfl) ?_
              refine lv_iload_n hx hb dX7_multiplyTurned_31 rfl (lv_at hl 1 rfl) ?_
              refine lv_iload hx hb dX7_multiplyTurned_32 (lv_at hl 6 rfl) ?_
              refine lv_iadd hx hb dX7_multiplyTurned_34 (lv_topi (fun v14 e_v14 => ?_))
              have e_v14 := ai_add e_v14 rfl rfl (by omega)
              refine lv_iload hx hb dX7_multiplyTurned_35 (lv_at hl 5 rfl) ?_
              refine lv_aload_n hx hb dX7_multiplyTurned_37 rfl (lv_at hl 2 rfl) ?_
              refine lv_iload_n hx hb dX7_multiplyTurned_38 rfl (lv_at hl 3 rfl) ?_
              refine lv_iload hx hb dX7_multiplyTurned_39 (lv_at hl 7 rfl) ?_
              refine lv_iadd hx hb dX7_multiplyTurned_41 (lv_topi (fun v15 e_v15 => ?_))
              have e_v15 := ai_add e_v15 rfl rfl (by omega)
              refine lv_iload hx hb dX7_multiplyTurned_42 (lv_at hl 5 rfl) ?_
              refine lv_iload hx hb dX7_multiplyTurned_44 (lv_at hl 5 rfl) ?_
              refine tcL (Tc := [(h0, aJ (k 1) 900 anJ)]) (Tr := [(h1, aJ (k 1) 9 anJ)]) (as := [h0]) (zcS (As := [.ref h0, .int v14, .int x5, .ref h0, .int v15, .int x5, .int x5]) (rest := [.int v13, .ref h1]) (Tc := [(h0, aJ (k 1) 900 anJ)]) hx hb hml hown hU hK hT [0] rfl (by decide) (cX7_addUp_32ffe l D k _ h0 v14 x5 v15 x5 x5 (by omega) (by omega) (by omega) (by omega) (by omega)) w366 w364 w365 w74 hdX7_addUp ⟨rfl, rfl⟩ ⟨Nat.le_of_ble_eq_true rfl, Nat.le_of_ble_eq_true rfl⟩ rfl hl.1 (Nat.le_of_ble_eq_true rfl) dX7_multiplyTurned_46 ⟨Nat.le_of_ble_eq_true rfl, Nat.le_of_ble_eq_true rfl⟩) hT hS hA [0] [1] rfl rfl rfl (by decide) (by decide) (fun r16 H locs hB J hS => ?_)
              have hT1 := hB
              have hT := J _ hT1
              have hT : TP D A [(h1, aJ (k 1) 9 anJ), (h0, aJ (k 1) 900 anJ)] _ := hT
              refine tz_last hx hb hK hT hS 0 rfl (by omega) (fun _ _ => trivial) dX7_multiplyTurned_49 (fun H locs hT hS => ?_)
              obtain ⟨v17, e_v17⟩ : ∃ x : Int32, x = y8 + Int32.ofInt 1 := ⟨_, rfl⟩
              have f_v17 := e_v17.symm
              have e_v17 : v17.toInt = y8.toInt + 1 := ai_add e_v17 rfl (show (Int32.ofInt 1).toInt = 1 from (by decide +kernel)) (by omega)
              refine lv_iinc (v := v17) (lv' := [(7, .int v17), (0, .ref h0), (1, .int x1), (2, .ref h0), (3, .int x3), (4, .ref h1), (5, .int x5), (6, .int y3)]) hx hb dX7_multiplyTurned_50 hl (k := 7) rfl f_v17 (by decide) rfl (fun ls hl => ?_)
              refine lv_goto (tgt := 13) hx hb dX7_multiplyTurned_53 (by decide) ?_
              exact ih13_9 v17 _ _ _ (by omega)  (by omega) (hT.sub [1, 0] (by decide) rfl) hS (lv_sub hl [1, 2, 3, 4, 5, 6, 7, 0] rfl)
        exact lp13_9 ((x5.toInt + (-1) * (0 : Int32).toInt + 1).toNat + 1) (0) _ _ _ (by have := li_0; omega)  (Nat.lt_succ_self _) hT hS (lv_sub hl [1, 2, 3, 4, 5, 6, 7, 0] rfl)
  exact lp3_4 ((x5.toInt + (-1) * (0 : Int32).toInt + 1).toNat + 1) (0) _ _ _ (by have := li_0; omega)  (Nat.lt_succ_self _) hT hS (lv_sub hl [1, 2, 3, 4, 5, 6, 0] rfl)
abbrev Rm_cX10_addUpForm_d1202 : Room := { frames := 2, cells := 0, slots := 0, locals := 56 }
abbrev B_cX10_addUpForm_d1202 (D : va_G) (k : Nat → ClassId) (h0 h1 h5 h11 h12 h21 h2 h3 h4 h6 h7 h8 h9 h10 h13 h22 h23 h24 h25 h26 h27 h28 : Nat) (h0f2 : Int32) (h0f6 : Int32) (h0f8 : Int32) (h0f11 : Int32) (h1f0 : Int32) (h1f1 : Int32) (h1f2 : Int32) (h5f8 : Int32) (h5f9 : Int32) (h5f10 : Int32) (h5f11 : Int32) (A : Nat → Prop) (r : Int32) (H : Heap) : Prop := (0 ≤ r.toInt ∧ r.toInt ≤ 1) ∧ TP D A [(h0, ob 7 [.ref h1, .ref h2, .int h0f2, .ref h3, .ref h4, .ref h5, .int h0f6, .ref h6, .int h0f8, .null, .ref h7, .int h0f11, .ref h8, .ref h9, .ref h10, .ref h11, .ref h12]), (h1, ob 4 [.int h1f0, .int h1f1, .int h1f2, .ref h13]), (h5, ob 3 [.ref h21, .ref h22, .ref h23, .ref h24, .ref h25, .ref h26, .ref h27, .ref h28, .int h5f8, .int h5f9, .int h5f10, .int h5f11]), (h11, aJ (k 1) 9 anJ), (h12, aJ (k 1) 9 anJ), (h21, aJ (k 1) 900 anJ)] H
set_option maxHeartbeats 4000000 in
set_option maxRecDepth 100000 in
theorem cX10_addUpForm_d1202 (l : Launch) (D : va_G) (k : Nat → ClassId) (sz : Nat) (h0 h1 h5 h11 h12 h21 h2 h3 h4 h6 h7 h8 h9 h10 h13 h22 h23 h24 h25 h26 h27 h28 : Nat) (h0f2 : Int32) (h0f6 : Int32) (h0f8 : Int32) (h0f11 : Int32) (h1f0 : Int32) (h1f1 : Int32) (h1f2 : Int32) (h5f8 : Int32) (h5f9 : Int32) (h5f10 : Int32) (h5f11 : Int32) (b_h0f2 : 0 ≤ h0f2.toInt ∧ h0f2.toInt ≤ 1) (b_h0f6 : 1 ≤ h0f6.toInt ∧ h0f6.toInt ≤ 1) (b_h0f8 : 0 ≤ h0f8.toInt ∧ h0f8.toInt ≤ 1) (b_h0f11 : 0 ≤ h0f11.toInt ∧ h0f11.toInt ≤ 200) (b_h1f0 : 1 ≤ h1f0.toInt ∧ h1f0.toInt ≤ 3) (b_h1f1 : 0 ≤ h1f1.toInt ∧ h1f1.toInt ≤ 4) (b_h5f8 : 0 ≤ h5f8.toInt ∧ h5f8.toInt ≤ 9) (b_h5f9 : 0 ≤ h5f9.toInt ∧ h5f9.toInt ≤ 100) (b_h5f10 : 0 ≤ h5f10.toInt ∧ h5f10.toInt ≤ 100) (b_h5f11 : 1 ≤ h5f11.toInt ∧ h5f11.toInt ≤ 1) : Met l yX10_addUpForm (Cond.code yX10_addUpForm cX10_addUpForm 6 (some .boolean) :: uw) Rm_cX10_addUpForm_d1202 (pT D k sz [.ref h0] [(h0, ob 7 [.ref h1, .ref h2, .int h0f2, .ref h3, .ref h4, .ref h5, .int h0f6, .ref h6, .int h0f8, .null, .ref h7, .int h0f11, .ref h8, .ref h9, .ref h10, .ref h11, .ref h12]), (h1, ob 4 [.int h1f0, .int h1f1, .int h1f2, .ref h13]), (h5, ob 3 [.ref h21, .ref h22, .ref h23, .ref h24, .ref h25, .ref h26, .ref h27, .ref h28, .int h5f8, .int h5f9, .int h5f10, .int h5f11]), (h11, aJ (k 1) 9 anJ), (h12, aJ (k 1) 9 anJ), (h21, aJ (k 1) 900 anJ)]) (qI (B_cX10_addUpForm_d1202 D k h0 h1 h5 h11 h12 h21 h2 h3 h4 h6 h7 h8 h9 h10 h13 h22 h23 h24 h25 h26 h27 h28 h0f2 h0f6 h0f8 h0f11 h1f0 h1f1 h1f2 h5f8 h5f9 h5f10 h5f11 (zA [h0, h1, h5, h11, h12, h21] sz)) (zA [h0, h1, h5, h11, h12, h21] sz)) 0 0 (zA [h0, h1, h5, h11, h12, h21] sz) := by
  refine tz_begin (as := [h0, h1, h5, h11, h12, h21]) (Qc := fun A => qI (B_cX10_addUpForm_d1202 D k h0 h1 h5 h11 h12 h21 h2 h3 h4 h6 h7 h8 h9 h10 h13 h22 h23 h24 h25 h26 h27 h28 h0f2 h0f6 h0f8 h0f11 h1f0 h1f1 h1f2 h5f8 h5f9 h5f10 h5f11 A) A) (by decide +kernel) rfl (Nat.le_of_ble_eq_true rfl) ?_
  intro p e s m args below meth c ls A Q hx hb hr hml hown hlocks hin hU hK hT hS hA hl hQ
  have hl : lv_has ls 6 [(0, .ref h0)] := hl
  have hT : TP D A [(h0, ob 7 [.ref h1, .ref h2, .int h0f2, .ref h3, .ref h4, .ref h5, .int h0f6, .ref h6, .int h0f8, .null, .ref h7, .int h0f11, .ref h8, .ref h9, .ref h10, .ref h11, .ref h12]), (h1, ob 4 [.int h1f0, .int h1f1, .int h1f2, .ref h13]), (h5, ob 3 [.ref h21, .ref h22, .ref h23, .ref h24, .ref h25, .ref h26, .ref h27, .ref h28, .int h5f8, .int h5f9, .int h5f10, .int h5f11]), (h11, aJ (k 1) 9 anJ), (h12, aJ (k 1) 9 anJ), (h21, aJ (k 1) 900 anJ)] s.heap := hT
  refine lv_aload_n hx hb dX10_addUpForm_0 rfl (lv_at hl 0 rfl) ?_
  refine tz_get (ci := 7) (v := .ref h1) (C := RX10) (F := TX10) (N := 17) hx hb hU iX10 hown hK hT 0 rfl rfl 0 (by decide) w249 (fun _ h9 => h9) rfl dX10_addUpForm_1 ?_
  refine tcI (Tc := [(h1, ob 4 [.int h1f0, .int h1f1, .int h1f2, .ref h13])]) (Tr := [(h0, ob 7 [.ref h1, .ref h2, .int h0f2, .ref h3, .ref h4, .ref h5, .int h0f6, .ref h6, .int h0f8, .null, .ref h7, .int h0f11, .ref h8, .ref h9, .ref h10, .ref h11, .ref h12]), (h5, ob 3 [.ref h21, .ref h22, .ref h23, .ref h24, .ref h25, .ref h26, .ref h27, .ref h28, .int h5f8, .int h5f9, .int h5f10, .int h5f11]), (h11, aJ (k 1) 9 anJ), (h12, aJ (k 1) 9 anJ), (h21, aJ (k 1) 900 anJ)]) (as := [h1]) (zcV (q0 := 1) (ci := 4) (As := []) (rest := []) (Tc := [(h1, ob 4 [.int h1f0, .int h1f1, .int h1f2, .ref h13])]) hx hb hml hown hU hK hT rfl rfl [1] rfl (by decide) (cX5_cellCount_642c9 l D k _ h1 h13 h1f0 h1f1 h1f2 (by omega) (by omega)) w385 w382 w383 w384 w64 hdX5_cellCount ⟨rfl, rfl⟩ ⟨Nat.le_of_ble_eq_true rfl, Nat.le_of_ble_eq_true rfl⟩ rfl hl.1 (Nat.le_of_ble_eq_true rfl) dX10_addUpForm_4 ⟨Nat.le_of_ble_eq_true rfl, Nat.le_of_ble_eq_true rfl⟩) hT hS hA [1] [0, 2, 3, 4, 5] rfl rfl rfl (by decide) (by decide) (fun r1 H locs hB J hS => ?_)
  obtain ⟨b_r1, hT1⟩ := hB
  have hT := J _ hT1
  have hT : TP D A [(h0, ob 7 [.ref h1, .ref h2, .int h0f2, .ref h3, .ref h4, .ref h5, .int h0f6, .ref h6, .int h0f8, .null, .ref h7, .int h0f11, .ref h8, .ref h9, .ref h10, .ref h11, .ref h12]), (h5, ob 3 [.ref h21, .ref h22, .ref h23, .ref h24, .ref h25, .ref h26, .ref h27, .ref h28, .int h5f8, .int h5f9, .int h5f10, .int h5f11]), (h11, aJ (k 1) 9 anJ), (h12, aJ (k 1) 9 anJ), (h21, aJ (k 1) 900 anJ), (h1, ob 4 [.int h1f0, .int h1f1, .int h1f2, .ref h13])] _ := hT
  refine lv_istore_n (lv' := [(1, .int r1), (0, .ref h0)]) hx hb dX10_addUpForm_7 rfl hl (by decide) rfl (fun ls hl => ?_)
  refine lv_aload_n hx hb dX10_addUpForm_8 rfl (lv_at hl 1 rfl) ?_
  refine tz_get (ci := 7) (v := .ref h11) (C := RX10) (F := TX10) (N := 17) hx hb hU iX10 hown hK hT 0 rfl rfl 15 (by decide) w264 (fun _ h9 => h9) rfl dX10_addUpForm_9 ?_
  refine lv_lconst (v := 0) hx hb dX10_addUpForm_12 (by decide) ?_
  have q_q3 := ll_0
  refine tcV (Tc := [(h11, aJ (k 1) 9 anJ)]) (Tr := [(h0, ob 7 [.ref h1, .ref h2, .int h0f2, .ref h3, .ref h4, .ref h5, .int h0f6, .ref h6, .int h0f8, .null, .ref h7, .int h0f11, .ref h8, .ref h9, .ref h10, .ref h11, .ref h12]), (h5, ob 3 [.ref h21, .ref h22, .ref h23, .ref h24, .ref h25, .ref h26, .ref h27, .ref h28, .int h5f8, .int h5f9, .int h5f10, .int h5f11]), (h12, aJ (k 1) 9 anJ), (h21, aJ (k 1) 900 anJ), (h1, ob 4 [.int h1f0, .int h1f1, .int h1f2, .ref h13])]) (as := [h11]) (zcS (As := [.ref h11, .long 0]) (rest := []) (Tc := [(h11, aJ (k 1) 9 anJ)]) hx hb hml hown hU hK hT [2] rfl (by decide) (cJ7_fill_d0a16_660e4 l D k _ h11 (0) (by have := ll_0; omega)) w336 w617 w335 w73 hdJ7_fill_d0a16 ⟨rfl, rfl⟩ ⟨Nat.le_of_ble_eq_true rfl, Nat.le_of_ble_eq_true rfl⟩ rfl hl.1 (Nat.le_of_ble_eq_true rfl) dX10_addUpForm_13 ⟨Nat.le_of_ble_eq_true rfl, Nat.le_of_ble_eq_true rfl⟩) hT hS hA [2] [0, 1, 3, 4, 5] rfl rfl rfl (by decide) (by decide) (fun H locs hB J hS => ?_)
  have hT1 := hB
  have hT := J _ hT1
  have hT : TP D A [(h0, ob 7 [.ref h1, .ref h2, .int h0f2, .ref h3, .ref h4, .ref h5, .int h0f6, .ref h6, .int h0f8, .null, .ref h7, .int h0f11, .ref h8, .ref h9, .ref h10, .ref h11, .ref h12]), (h5, ob 3 [.ref h21, .ref h22, .ref h23, .ref h24, .ref h25, .ref h26, .ref h27, .ref h28, .int h5f8, .int h5f9, .int h5f10, .int h5f11]), (h12, aJ (k 1) 9 anJ), (h21, aJ (k 1) 900 anJ), (h1, ob 4 [.int h1f0, .int h1f1, .int h1f2, .ref h13]), (h11, aJ (k 1) 9 anJ)] _ := hT
  refine lv_iconst (v := 0) hx hb dX10_addUpForm_16 (by decide) ?_
  refine lv_istore_n (lv' := [(2, .int 0), (1, .int r1), (0, .ref h0)]) hx hb dX10_addUpForm_17 rfl hl (by decide) rfl (fun ls hl => ?_)
  have lp18_17 : ∀ (n : Nat) (y16 : Int32) (H : Heap) (locs : List Loc) (ls : Array Slot), (0 ≤ y16.toInt ∧ y16.toInt ≤ 100) → (h5f10.toInt + (-1) * y16.toInt + 1).toNat < n → TP D A [(h0, ob 7 [.ref h1, .ref h2, .int h0f2, .ref h3, .ref h4, .ref h5, .int h0f6, .ref h6, .int h0f8, .null, .ref h7, .int h0f11, .ref h8, .ref h9, .ref h10, .ref h11, .ref h12]), (h5, ob 3 [.ref h21, .ref h22, .ref h23, .ref h24, .ref h25, .ref h26, .ref h27, .ref h28, .int h5f8, .int h5f9, .int h5f10, .int h5f11]), (h12, aJ (k 1) 9 anJ), (h21, aJ (k 1) 900 anJ), (h1, ob 4 [.int h1f0, .int h1f1, .int h1f2, .ref h13]), (h11, aJ (k 1) 9 anJ)] H → va_S A s.heap H locs → lv_has ls 6 [(0, .ref h0), (1, .int r1), (2, .int y16)] → W p l e Rm_cX10_addUpForm_d1202 s m args below meth c H locs 0 0 Q (F0 m 18 ls []) := by
    intro n
    induction n with
    | zero => intro y16 H locs ls b_y16 hm hT hS hl; exact absurd hm (Nat.not_lt_zero _)
    | succ n ih =>
      intro y16 H locs ls b_y16 hm hT hS hl
      have ih18_17 := ih
      clear ih
      refine lv_iload_n hx hb dX10_addUpForm_18 rfl (lv_at hl 2 rfl) ?_
      refine lv_aload_n hx hb dX10_addUpForm_19 rfl (lv_at hl 0 rfl) ?_
      refine tz_get (ci := 7) (v := .ref h5) (C := RX10) (F := TX10) (N := 17) hx hb hU iX10 hown hK hT 0 rfl rfl 5 (by decide) w254 (fun _ h9 => h9) rfl dX10_addUpForm_20 ?_
      refine tz_get (ci := 3) (v := .int h5f10) (C := RX4) (F := TX4) (N := 12) hx hb hU iX4 hown hK hT 1 rfl rfl 10 (by decide) w166 (fun _ h9 => h9) rfl dX10_addUpForm_23 ?_
      refine lv_icmp_ge (tgt := 141) hx hb dX10_addUpForm_26 (by decide) (fun c_18 => ?_) (fun c_18 => ?_)
      · skip
        have c_18 := ni_le c_18 rfl rfl
        refine lv_iconst (v := 1) hx hb dX10_addUpForm_141 (by decide) ?_
        exact tz_retZ (B := B_cX10_addUpForm_d1202 D k h0 h1 h5 h11 h12 h21 h2 h3 h4 h6 h7 h8 h9 h10 h13 h22 h23 h24 h25 h26 h27 h28 h0f2 h0f6 h0f8 h0f11 h1f0 h1f1 h1f2 h5f8 h5f9 h5f10 h5f11) (v := 1) hQ hx hb hr hlocks hS (Nat.le_of_ble_eq_true rfl) (Nat.le_of_ble_eq_true rfl) dX10_addUpForm_142 (by have := li_1; omega) (⟨(by have := li_1; omega), (hT.sub [0, 4, 1, 5, 2, 3] (by decide) rfl)⟩)
      · skip
        have c_18 := ni_nle c_18 rfl rfl
        refine lv_aload_n hx hb dX10_addUpForm_29 rfl (lv_at hl 0 rfl) ?_
        refine tz_get (ci := 7) (v := .ref h5) (C := RX10) (F := TX10) (N := 17) hx hb hU iX10 hown hK hT 0 rfl rfl 5 (by decide) w254 (fun _ h9 => h9) rfl dX10_addUpForm_30 ?_
        refine tz_get (ci := 3) (v := .ref h21) (C := RX4) (F := TX4) (N := 12) hx hb hU iX4 hown hK hT 1 rfl rfl 0 (by decide) w150 (fun _ h9 => h9) rfl dX10_addUpForm_33 ?_
        refine lv_aload_n hx hb dX10_addUpForm_36 rfl (lv_at hl 0 rfl) ?_
        refine tz_get (ci := 7) (v := .ref h5) (C := RX10) (F := TX10) (N := 17) hx hb hU iX10 hown hK hT 0 rfl rfl 5 (by decide) w254 (fun _ h9 => h9) rfl dX10_addUpForm_37 ?_
        refine lv_iload_n hx hb dX10_addUpForm_40 rfl (lv_at hl 2 rfl) ?_
        refine tcI (Tc := [(h5, ob 3 [.ref h21, .ref h22, .ref h23, .ref h24, .ref h25, .ref h26, .ref h27, .ref h28, .int h5f8, .int h5f9, .int h5f10, .int h5f11])]) (Tr := [(h0, ob 7 [.ref h1, .ref h2, .int h0f2, .ref h3, .ref h4, .ref h5, .int h0f6, .ref h6, .int h0f8, .null, .ref h7, .int h0f11, .ref h8, .ref h9, .ref h10, .ref h11, .ref h12]), (h12, aJ (k 1) 9 anJ), (h21, aJ (k 1) 900 anJ), (h1, ob 4 [.int h1f0, .int h1f1, .int h1f2, .ref h13]), (h11, aJ (k 1) 9 anJ)]) (as := [h5]) (zcV (q0 := 1) (ci := 3) (As := [.int y16]) (rest := [.ref h21]) (Tc := [(h5, ob 3 [.ref h21, .ref h22, .ref h23, .ref h24, .ref h25, .ref h26, .ref h27, .ref h28, .int h5f8, .int h5f9, .int h5f10, .int h5f11])]) hx hb hml hown hU hK hT rfl rfl [1] rfl (by decide) (cX4_start_d01b0 l D k _ h5 h21 h22 h23 h24 h25 h26 h27 h28 y16 h5f8 h5f9 h5f10 h5f11 (by omega) (by omega) (by omega) (by omega) (by omega)) w505 w574 w503 w504 w66 hdX4_start ⟨rfl, rfl⟩ ⟨Nat.le_of_ble_eq_true rfl, Nat.le_of_ble_eq_true rfl⟩ rfl hl.1 (Nat.le_of_ble_eq_true rfl) dX10_addUpForm_41 ⟨Nat.le_of_ble_eq_true rfl, Nat.le_of_ble_eq_true rfl⟩) hT hS hA [1] [0, 2, 3, 4, 5] rfl rfl rfl (by decide) (by decide) (fun r19 H locs hB J hS => ?_)
        obtain ⟨b_r19, hT1⟩ := hB
        have hT := J _ hT1
        have hT : TP D A [(h0, ob 7 [.ref h1, .ref h2, .int h0f2, .ref h3, .ref h4, .ref h5, .int h0f6, .ref h6, .int h0f8, .null, .ref h7, .int h0f11, .ref h8, .ref h9, .ref h10, .ref h11, .ref h12]), (h12, aJ (k 1) 9 anJ), (h21, aJ (k 1) 900 anJ), (h1, ob 4 [.int h1f0, .int h1f1, .int h1f2, .ref h13]), (h11, aJ (k 1) 9 anJ), (h5, ob 3 [.ref h21, .ref h22, .ref h23, .ref h24, .ref h25, .ref h26, .ref h27, .ref h28, .int h5f8, .int h5f9, .int h5f10, .int h5f11])] _ := hT
        refine lv_aload_n hx hb dX10_addUpForm_44 rfl (lv_at hl 0 rfl) ?_
        refine tz_get (ci := 7) (v := .ref h5) (C := RX10) (F := TX10) (N := 17) hx hb hU iX10 hown hK hT 0 rfl rfl 5 (by decide) w254 (fun _ h9 => h9) rfl dX10_addUpForm_45 ?_
        refine tz_get (ci := 3) (v := .ref h21) (C := RX4) (F := TX4) (N := 12) hx hb hU iX4 hown hK hT 5 rfl rfl 0 (by decide) w150 (fun _ h9 => h9) rfl dX10_addUpForm_48 ?_
        refine lv_aload_n hx hb dX10_addUpForm_51 rfl (lv_at hl 0 rfl) ?_
        refine tz_get (ci := 7) (v := .ref h5) (C := RX10) (F := TX10) (N := 17) hx hb hU iX10 hown hK hT 0 rfl rfl 5 (by decide) w254 (fun _ h9 => h9) rfl dX10_addUpForm_52 ?_
        refine lv_iload_n hx hb dX10_addUpForm_55 rfl (lv_at hl 2 rfl) ?_
        refine tcI (Tc := [(h5, ob 3 [.ref h21, .ref h22, .ref h23, .ref h24, .ref h25, .ref h26, .ref h27, .ref h28, .int h5f8, .int h5f9, .int h5f10, .int h5f11])]) (Tr := [(h0, ob 7 [.ref h1, .ref h2, .int h0f2, .ref h3, .ref h4, .ref h5, .int h0f6, .ref h6, .int h0f8, .null, .ref h7, .int h0f11, .ref h8, .ref h9, .ref h10, .ref h11, .ref h12]), (h12, aJ (k 1) 9 anJ), (h21, aJ (k 1) 900 anJ), (h1, ob 4 [.int h1f0, .int h1f1, .int h1f2, .ref h13]), (h11, aJ (k 1) 9 anJ)]) (as := [h5]) (zcV (q0 := 5) (ci := 3) (As := [.int y16]) (rest := [.ref h21, .int r19, .ref h21]) (Tc := [(h5, ob 3 [.ref h21, .ref h22, .ref h23, .ref h24, .ref h25, .ref h26, .ref h27, .ref h28, .int h5f8, .int h5f9, .int h5f10, .int h5f11])]) hx hb hml hown hU hK hT rfl rfl [5] rfl (by decide) (cX4_start_d01b0 l D k _ h5 h21 h22 h23 h24 h25 h26 h27 h28 y16 h5f8 h5f9 h5f10 h5f11 (by omega) (by omega) (by omega) (by omega) (by omega)) w505 w574 w503 w504 w66 hdX4_start ⟨rfl, rfl⟩ ⟨Nat.le_of_ble_eq_true rfl, Nat.le_of_ble_eq_true rfl⟩ rfl hl.1 (Nat.le_of_ble_eq_true rfl) dX10_addUpForm_56 ⟨Nat.le_of_ble_eq_true rfl, Nat.le_of_ble_eq_true rfl⟩) hT hS hA [5] [0, 1, 2, 3, 4] rfl rfl rfl (by decide) (by decide) (fun r20 H locs hB J hS => ?_)
        obtain ⟨b_r20, hT1⟩ := hB
        have hT := J _ hT1
        have hT : TP D A [(h0, ob 7 [.ref h1, .ref h2, .int h0f2, .ref h3, .ref h4, .ref h5, .int h0f6, .ref h6, .int h0f8, .null, .ref h7, .int h0f11, .ref h8, .ref h9, .ref h10, .ref h11, .ref h12]), (h12, aJ (k 1) 9 anJ), (h21, aJ (k 1) 900 anJ), (h1, ob 4 [.int h1f0, .int h1f1, .int h1f2, .ref h13]), (h11, aJ (k 1) 9 anJ), (h5, ob 3 [.ref h21, .ref h22, .ref h23, .ref h24, .ref h25, .ref h26, .ref h27, .ref h28, .int h5f8, .int h5f9, .int h5f10, .int h5f11])] _ := hT
        refine lv_aload_n hx hb dX10_addUpForm_59 rfl (lv_at hl 0 rfl) ?_
        refine tz_get (ci := 7) (v := .ref h12) (C := RX10) (F := TX10) (N := 17) hx hb hU iX10 hown hK hT 0 rfl rfl 16 (by decide) w265 (fun _ h9 => h9) rfl dX10_addUpForm_60 ?_
        refine lv_aload_n hx hb dX10_addUpForm_63 rfl (lv_at hl 0 rfl) ?_
        refine tz_get (ci := 7) (v := .ref h1) (C := RX10) (F := TX10) (N := 17) hx hb hU iX10 hown hK hT 0 rfl rfl 0 (by decide) w249 (fun _ h9 => h9) rfl dX10_addUpForm_64 ?_
        refine tz_get (ci := 4) (v := .int h1f0) (C := RX5) (F := TX5) (N := 4) hx hb hU iX5 hown hK hT 3 rfl rfl 0 (by decide) w93 (fun _ h9 => h9) rfl dX10_addUpForm_67 ?_
        refine tcV (Tc := [(h21, aJ (k 1) 900 anJ), (h12, aJ (k 1) 9 anJ)]) (Tr := [(h0, ob 7 [.ref h1, .ref h2, .int h0f2, .ref h3, .ref h4, .ref h5, .int h0f6, .ref h6, .int h0f8, .null, .ref h7, .int h0f11, .ref h8, .ref h9, .ref h10, .ref h11, .ref h12]), (h1, ob 4 [.int h1f0, .int h1f1, .int h1f2, .ref h13]), (h11, aJ (k 1) 9 anJ), (h5, ob 3 [.ref h21, .ref h22, .ref h23, .ref h24, .ref h25, .ref h26, .ref h27, .ref h28, .int h5f8, .int h5f9, .int h5f10, .int h5f11])]) (as := [h21, h12]) (zcS (As := [.ref h21, .int r19, .ref h21, .int r20, .ref h12, .int h1f0]) (rest := []) (Tc := [(h21, aJ (k 1) 900 anJ), (h12, aJ (k 1) 9 anJ)]) hx hb hml hown hU hK hT [2, 1] rfl (by decide) (cX7_multiplyTurned_0e5b8 l D k _ h21 h12 r19 r20 h1f0 (by omega) (by omega) (by omega)) w620 w618 w619 w74 hdX7_multiplyTurned ⟨rfl, rfl⟩ ⟨Nat.le_of_ble_eq_true rfl, Nat.le_of_ble_eq_true rfl⟩ rfl hl.1 (Nat.le_of_ble_eq_true rfl) dX10_addUpForm_70 ⟨Nat.le_of_ble_eq_true rfl, Nat.le_of_ble_eq_true rfl⟩) hT hS hA [2, 1] [0, 3, 4, 5] rfl rfl rfl (by decide) (by decide) (fun H locs hB J hS => ?_)
        have hT1 := hB
        have hT := J _ hT1
        have hT : TP D A [(h0, ob 7 [.ref h1, .ref h2, .int h0f2, .ref h3, .ref h4, .ref h5, .int h0f6, .ref h6, .int h0f8, .null, .ref h7, .int h0f11, .ref h8, .ref h9, .ref h10, .ref h11, .ref h12]), (h1, ob 4 [.int h1f0, .int h1f1, .int h1f2, .ref h13]), (h11, aJ (k 1) 9 anJ), (h5, ob 3 [.ref h21, .ref h22, .ref h23, .ref h24, .ref h25, .ref h26, .ref h27, .ref h28, .int h5f8, .int h5f9, .int h5f10, .int h5f11]), (h21, aJ (k 1) 900 anJ), (h12, aJ (k 1) 9 anJ)] _ := hT
        refine lv_iconst (v := 0) hx hb dX10_addUpForm_73 (by decide) ?_
        refine lv_istore_n (lv' := [(3, .int 0), (0, .ref h0), (1, .int r1), (2, .int y16)]) hx hb dX10_addUpForm_74 rfl hl (by decide) rfl (fun ls hl => ?_)
        have lp75_29 : ∀ (n : Nat) (y28 : Int32) (H : Heap) (locs : List Loc) (ls : Array Slot), (0 ≤ y28.toInt ∧ y28.toInt ≤ 9) → (r1.toInt + (-1) * y28.toInt + 1).toNat < n → TP D A [(h0, ob 7 [.ref h1, .ref h2, .int h0f2, .ref h3, .ref h4, .ref h5, .int h0f6, .ref h6, .int h0f8, .null, .ref h7, .int h0f11, .ref h8, .ref h9, .ref h10, .ref h11, .ref h12]), (h1, ob 4 [.int h1f0, .int h1f1, .int h1f2, .ref h13]), (h11, aJ (k 1) 9 anJ), (h5, ob 3 [.ref h21, .ref h22, .ref h23, .ref h24, .ref h25, .ref h26, .ref h27, .ref h28, .int h5f8, .int h5f9, .int h5f10, .int h5f11]), (h21, aJ (k 1) 900 anJ), (h12, aJ (k 1) 9 anJ)] H → va_S A s.heap H locs → lv_has ls 6 [(0, .ref h0), (1, .int r1), (2, .int y16), (3, .int y28)] → W p l e Rm_cX10_addUpForm_d1202 s m args below meth c H locs 0 0 Q (F0 m 75 ls []) := by
          intro n
          induction n with
          | zero => intro y28 H locs ls b_y28 hm hT hS hl; exact absurd hm (Nat.not_lt_zero _)
          | succ n ih =>
            intro y28 H locs ls b_y28 hm hT hS hl
            have ih75_29 := ih
            clear ih
            refine lv_iload_n hx hb dX10_addUpForm_75 rfl (lv_at hl 3 rfl) ?_
            refine lv_iload_n hx hb dX10_addUpForm_76 rfl (lv_at hl 1 rfl) ?_
            refine lv_icmp_ge (tgt := 135) hx hb dX10_addUpForm_77 (by decide) (fun c_30 => ?_) (fun c_30 => ?_)
            · skip
              have c_30 := ni_le c_30 rfl rfl
              obtain ⟨v31, e_v31⟩ : ∃ x : Int32, x = y16 + Int32.ofInt 1 := ⟨_, rfl⟩
              have f_v31 := e_v31.symm
              have e_v31 : v31.toInt = y16.toInt + 1 := ai_add e_v31 rfl (show (Int32.ofInt 1).toInt = 1 from (by decide +kernel)) (by omega)
              refine lv_iinc (v := v31) (lv' := [(2, .int v31), (0, .ref h0), (1, .int r1), (3, .int y28)]) hx hb dX10_addUpForm_135 hl (k := 2) rfl f_v31 (by decide) rfl (fun ls hl => ?_)
              refine lv_goto (tgt := 18) hx hb dX10_addUpForm_138 (by decide) ?_
              exact ih18_17 v31 _ _ _ (by omega)  (by omega) (hT.sub [0, 3, 5, 4, 1, 2] (by decide) rfl) hS (lv_sub hl [1, 2, 0] rfl)
            · skip
              have c_30 := ni_nle c_30 rfl rfl
              refine lv_aload_n hx hb dX10_addUpForm_80 rfl (lv_at hl 0 rfl) ?_
              refine tz_get (ci := 7) (v := .ref h11) (C := RX10) (F := TX10) (N := 17) hx hb hU iX10 hown hK hT 0 rfl rfl 15 (by decide) w264 (fun _ h9 => h9) rfl dX10_addUpForm_81 ?_
              refine lv_iload_n hx hb dX10_addUpForm_84 rfl (lv_at hl 3 rfl) ?_
              refine tz_lald hx hb hK hT 2 rfl (by omega) dX10_addUpForm_85 (fun v32 e_v32 => ?_)
              clear e_v32
              refine lv_aload_n hx hb dX10_addUpForm_86 rfl (lv_at hl 0 rfl) ?_
              refine tz_get (ci := 7) (v := .ref h12) (C := RX10) (F := TX10) (N := 17) hx hb hU iX10 hown hK hT 0 rfl rfl 16 (by decide) w265 (fun _ h9 => h9) rfl dX10_addUpForm_87 ?_
              refine lv_iload_n hx hb dX10_addUpForm_90 rfl (lv_at hl 3 rfl) ?_
              refine tz_lald hx hb hK hT 5 rfl (by omega) dX10_addUpForm_91 (fun v33 e_v33 => ?_)
              clear e_v33
              refine lv_ladd hx hb dX10_addUpForm_92 (lv_topl (fun v34 e_v34 => ?_))
              refine lv_lstore (lv' := [(4, .long v34), (0, .ref h0), (1, .int r1), (2, .int y16), (3, .int y28)]) hx hb dX10_addUpForm_93 hl (by decide) rfl (fun ls hl => ?_)
              refine lv_aload_n hx hb dX10_addUpForm_95 rfl (lv_at hl 1 rfl) ?_
              refine tz_get (ci := 7) (v := .ref h11) (C := RX10) (F := TX10) (N := 17) hx hb hU iX10 hown hK hT 0 rfl rfl 15 (by decide) w264 (fun _ h9 => h9) rfl dX10_addUpForm_96 ?_
              refine lv_iload_n hx hb dX10_addUpForm_99 rfl (lv_at hl 4 rfl) ?_
              refine tz_lald hx hb hK hT 2 rfl (by omega) dX10_addUpForm_100 (fun v35 e_v35 => ?_)
              clear e_v35
              refine lv_lload hx hb dX10_addUpForm_101 (lv_at hl 0 rfl) ?_
              refine lv_lxor hx hb dX10_addUpForm_103 (lv_topl (fun v36 e_v36 => ?_))
              refine lv_aload_n hx hb dX10_addUpForm_104 rfl (lv_at hl 1 rfl) ?_
              refine tz_get (ci := 7) (v := .ref h12) (C := RX10) (F := TX10) (N := 17) hx hb hU iX10 hown hK hT 0 rfl rfl 16 (by decide) w265 (fun _ h9 => h9) rfl dX10_addUpForm_105 ?_
              refine lv_iload_n hx hb dX10_addUpForm_108 rfl (lv_at hl 4 rfl) ?_
              refine tz_lald hx hb hK hT 5 rfl (by omega) dX10_addUpForm_109 (fun v37 e_v37 => ?_)
              clear e_v37
              refine lv_lload hx hb dX10_addUpForm_110 (lv_at hl 0 rfl) ?_
              refine lv_lxor hx hb dX10_addUpForm_112 (lv_topl (fun v38 e_v38 => ?_))
              refine lv_land hx hb dX10_addUpForm_113 (lv_topl (fun v39 e_v39 => ?_))
              refine lv_lconst (v := 0) hx hb dX10_addUpForm_114 (by decide) ?_
              refine W.lcmp hx hb dX10_addUpForm_115 ?_
              refine lv_if_ge (tgt := 121) hx hb dX10_addUpForm_116 (by decide) (fun c_40 => ?_) (fun c_40 => ?_)
              · skip
                have c_40 := nl_ge c_40 rfl ll_0
                refine lv_aload_n hx hb dX10_addUpForm_121 rfl (lv_at hl 1 rfl) ?_
                refine tz_get (ci := 7) (v := .ref h11) (C := RX10) (F := TX10) (N := 17) hx hb hU iX10 hown hK hT 0 rfl rfl 15 (by decide) w264 (fun _ h9 => h9) rfl dX10_addUpForm_122 ?_
                refine lv_iload_n hx hb dX10_addUpForm_125 rfl (lv_at hl 4 rfl) ?_
                refine lv_lload hx hb dX10_addUpForm_126 (lv_at hl 0 rfl) ?_
                refine tz_last hx hb hK hT hS 2 rfl (by omega) (fun _ _ => trivial) dX10_addUpForm_128 (fun H locs hT hS => ?_)
                obtain ⟨v41, e_v41⟩ : ∃ x : Int32, x = y28 + Int32.ofInt 1 := ⟨_, rfl⟩
                have f_v41 := e_v41.symm
                have e_v41 : v41.toInt = y28.toInt + 1 := ai_add e_v41 rfl (show (Int32.ofInt 1).toInt = 1 from (by decide +kernel)) (by omega)
                refine lv_iinc (v := v41) (lv' := [(3, .int v41), (4, .long v34), (0, .ref h0), (1, .int r1), (2, .int y16)]) hx hb dX10_addUpForm_129 hl (k := 4) rfl f_v41 (by decide) rfl (fun ls hl => ?_)
                refine lv_goto (tgt := 75) hx hb dX10_addUpForm_132 (by decide) ?_
                exact ih75_29 v41 _ _ _ (by omega)  (by omega) hT hS (lv_sub hl [2, 3, 4, 0] rfl)
              · skip
                have c_40 := nl_nge c_40 rfl ll_0
                refine lv_iconst (v := 0) hx hb dX10_addUpForm_119 (by decide) ?_
                exact tz_retZ (B := B_cX10_addUpForm_d1202 D k h0 h1 h5 h11 h12 h21 h2 h3 h4 h6 h7 h8 h9 h10 h13 h22 h23 h24 h25 h26 h27 h28 h0f2 h0f6 h0f8 h0f11 h1f0 h1f1 h1f2 h5f8 h5f9 h5f10 h5f11) (v := 0) hQ hx hb hr hlocks hS (Nat.le_of_ble_eq_true rfl) (Nat.le_of_ble_eq_true rfl) dX10_addUpForm_120 (by have := li_0; omega) (⟨(by have := li_0; omega), (hT.sub [0, 1, 3, 2, 5, 4] (by decide) rfl)⟩)
        exact lp75_29 ((r1.toInt + (-1) * (0 : Int32).toInt + 1).toNat + 1) (0) _ _ _ (by have := li_0; omega)  (Nat.lt_succ_self _) hT hS (lv_sub hl [1, 2, 3, 0] rfl)
  exact lp18_17 ((h5f10.toInt + (-1) * (0 : Int32).toInt + 1).toNat + 1) (0) _ _ _ (by have := li_0; omega)  (Nat.lt_succ_self _) hT hS (lv_sub hl [2, 1, 0] rfl)
abbrev Rm_cJ9_abs_067f4_c4792 : Room := { frames := 0, cells := 0, slots := 0, locals := 0 }
abbrev B_cJ9_abs_067f4_c4792 (D : va_G) (k : Nat → ClassId) (x0 : Int64) (A : Nat → Prop) (r : Int64) (H : Heap) : Prop := TP D A [] H
set_option maxHeartbeats 4000000 in
set_option maxRecDepth 100000 in
theorem cJ9_abs_067f4_c4792 (l : Launch) (D : va_G) (k : Nat → ClassId) (sz : Nat) (x0 : Int64) : Met l yJ9_abs_067f4 (Cond.code yJ9_abs_067f4 cJ9_abs_067f4 2 (some .long) :: uw) Rm_cJ9_abs_067f4_c4792 (pT D k sz [.long x0] []) (qL (B_cJ9_abs_067f4_c4792 D k x0 (zA [] sz)) (zA [] sz)) 0 0 (zA [] sz) := by
  refine tz_beginF (as := []) (Qc := fun A => qL (B_cJ9_abs_067f4_c4792 D k x0 A) A) (by decide +kernel) rfl (Nat.le_of_ble_eq_true rfl) ?_
  intro p e s m args below meth c ls A Q hx hb hr hml hown hlocks hin hU hK hT hS hA hl hQ
  have hl : lv_has ls 2 [(0, .long x0)] := hl
  have hT : TP D A [] s.heap := hT
  refine lv_lload_n hx hb dJ9_abs_067f4_0 rfl (lv_at hl 0 rfl) ?_
  refine lv_lconst (v := 0) hx hb dJ9_abs_067f4_1 (by decide) ?_
  refine W.lcmp hx hb dJ9_abs_067f4_2 ?_
  refine lv_if_ge (tgt := 11) hx hb dJ9_abs_067f4_3 (by decide) (fun c_1 => ?_) (fun c_1 => ?_)
  · skip
    have c_1 := nl_ge c_1 rfl ll_0
    refine lv_lload_n hx hb dJ9_abs_067f4_11 rfl (lv_at hl 0 rfl) ?_
    exact tz_retL (B := B_cJ9_abs_067f4_c4792 D k x0) (v := x0) hQ hx hb hr hlocks hS (Nat.le_of_ble_eq_true rfl) (Nat.le_of_ble_eq_true rfl) dJ9_abs_067f4_12 (hT)
  · skip
    have c_1 := nl_nge c_1 rfl ll_0
    refine lv_lload_n hx hb dJ9_abs_067f4_6 rfl (lv_at hl 0 rfl) ?_
    refine lv_lneg hx hb dJ9_abs_067f4_7 (lv_topl (fun v2 e_v2 => ?_))
    have e_v2 := al_negz e_v2
    refine lv_goto (tgt := 12) hx hb dJ9_abs_067f4_8 (by decide) ?_
    exact tz_retL (B := B_cJ9_abs_067f4_c4792 D k x0) (v := v2) hQ hx hb hr hlocks hS (Nat.le_of_ble_eq_true rfl) (Nat.le_of_ble_eq_true rfl) dJ9_abs_067f4_12 (hT)
abbrev Rm_cX7_commonDivisor_2e0d5 : Room := { frames := 1, cells := 0, slots := 0, locals := 21 }
abbrev B_cX7_commonDivisor_2e0d5 (D : va_G) (k : Nat → ClassId) (h0 : Nat) (x1 : Int32) (A : Nat → Prop) (r : Int64) (H : Heap) : Prop := TP D A [(h0, aJ (k 1) 9 anJ)] H
set_option maxHeartbeats 4000000 in
set_option maxRecDepth 100000 in
theorem cX7_commonDivisor_2e0d5 (l : Launch) (D : va_G) (k : Nat → ClassId) (sz : Nat) (h0 : Nat) (x1 : Int32) (b_x1 : 1 ≤ x1.toInt ∧ x1.toInt ≤ 9) : Met l yX7_commonDivisor (Cond.code yX7_commonDivisor cX7_commonDivisor 10 (some .long) :: uw) Rm_cX7_commonDivisor_2e0d5 (pT D k sz [.ref h0, .int x1] [(h0, aJ (k 1) 9 anJ)]) (qL (B_cX7_commonDivisor_2e0d5 D k h0 x1 (zA [h0] sz)) (zA [h0] sz)) 0 0 (zA [h0] sz) := by
  refine tz_begin (as := [h0]) (Qc := fun A => qL (B_cX7_commonDivisor_2e0d5 D k h0 x1 A) A) (by decide +kernel) rfl (Nat.le_of_ble_eq_true rfl) ?_
  intro p e s m args below meth c ls A Q hx hb hr hml hown hlocks hin hU hK hT hS hA hl hQ
  have hl : lv_has ls 10 [(0, .ref h0), (1, .int x1)] := hl
  have hT : TP D A [(h0, aJ (k 1) 9 anJ)] s.heap := hT
  refine lv_lconst (v := 0) hx hb dX7_commonDivisor_0 (by decide) ?_
  refine lv_lstore_n (lv' := [(2, .long 0), (0, .ref h0), (1, .int x1)]) hx hb dX7_commonDivisor_1 rfl hl (by decide) rfl (fun ls hl => ?_)
  refine lv_iconst (v := 0) hx hb dX7_commonDivisor_2 (by decide) ?_
  refine lv_istore (lv' := [(4, .int 0), (2, .long 0), (0, .ref h0), (1, .int x1)]) hx hb dX7_commonDivisor_3 hl (by decide) rfl (fun ls hl => ?_)
  have lp5_15 : ∀ (n : Nat) (y13 : Int32) (y14 : Int64) (H : Heap) (locs : List Loc) (ls : Array Slot), (0 ≤ y13.toInt ∧ y13.toInt ≤ 9) → (x1.toInt + (-1) * y13.toInt + 1).toNat < n → TP D A [(h0, aJ (k 1) 9 anJ)] H → va_S A s.heap H locs → lv_has ls 10 [(0, .ref h0), (1, .int x1), (2, .long y14), (4, .int y13)] → W p l e Rm_cX7_commonDivisor_2e0d5 s m args below meth c H locs 0 0 Q (F0 m 5 ls []) := by
    intro n
    induction n with
    | zero => intro y13 y14 H locs ls b_y13 hm hT hS hl; exact absurd hm (Nat.not_lt_zero _)
    | succ n ih =>
      intro y13 y14 H locs ls b_y13 hm hT hS hl
      have ih5_15 := ih
      clear ih
      refine lv_iload hx hb dX7_commonDivisor_5 (lv_at hl 3 rfl) ?_
      refine lv_iload_n hx hb dX7_commonDivisor_7 rfl (lv_at hl 1 rfl) ?_
      refine lv_icmp_ge (tgt := 60) hx hb dX7_commonDivisor_8 (by decide) (fun c_16 => ?_) (fun c_16 => ?_)
      · skip
        have c_16 := ni_le c_16 rfl rfl
        refine lv_lload_n hx hb dX7_commonDivisor_60 rfl (lv_at hl 2 rfl) ?_
        refine tcL (Tc := []) (Tr := [(h0, aJ (k 1) 9 anJ)]) (as := []) (zcS (As := [.long y14]) (rest := []) (Tc := []) hx hb hml hown hU hK hT [] rfl (by decide) (cJ9_abs_067f4_c4792 l D k _ y14) w626 w624 w625 w77 hdJ9_abs_067f4 ⟨rfl, rfl⟩ ⟨Nat.le_of_ble_eq_true rfl, Nat.le_of_ble_eq_true rfl⟩ rfl hl.1 (Nat.le_of_ble_eq_true rfl) dX7_commonDivisor_61 ⟨Nat.le_of_ble_eq_true rfl, Nat.le_of_ble_eq_true rfl⟩) hT hS hA [] [0] rfl rfl rfl (by decide) (by decide) (fun r17 H locs hB J hS => ?_)
        have hT1 := hB
        have hT := J _ hT1
        have hT : TP D A [(h0, aJ (k 1) 9 anJ)] _ := hT
        exact tz_retL (B := B_cX7_commonDivisor_2e0d5 D k h0 x1) (v := r17) hQ hx hb hr hlocks hS (Nat.le_of_ble_eq_true rfl) (Nat.le_of_ble_eq_true rfl) dX7_commonDivisor_64 (hT)
      · skip
        have c_16 := ni_nle c_16 rfl rfl
        refine lv_aload_n hx hb dX7_commonDivisor_11 rfl (lv_at hl 0 rfl) ?_
        refine lv_iload hx hb dX7_commonDivisor_12 (lv_at hl 3 rfl) ?_
        refine tz_lald hx hb hK hT 0 rfl (by omega) dX7_commonDivisor_14 (fun v18 e_v18 => ?_)
        clear e_v18
        refine lv_lstore (lv' := [(5, .long v18), (0, .ref h0), (1, .int x1), (2, .long y14), (4, .int y13)]) hx hb dX7_commonDivisor_15 hl (by decide) rfl (fun ls hl => ?_)
        refine lv_iconst (v := 0) hx hb dX7_commonDivisor_17 (by decide) ?_
        refine lv_istore (lv' := [(7, .int 0), (5, .long v18), (0, .ref h0), (1, .int x1), (2, .long y14), (4, .int y13)]) hx hb dX7_commonDivisor_18 hl (by decide) rfl (fun ls hl => ?_)
        have lp20_79 : ∀ (n : Nat) (y76 : Int32) (y77 : Int64) (y78 : Int64) (H : Heap) (locs : List Loc) (ls : Array Slot), (0 ≤ y76.toInt ∧ y76.toInt ≤ 200) → ((-1) * y76.toInt + 200 + 1).toNat < n → TP D A [(h0, aJ (k 1) 9 anJ)] H → va_S A s.heap H locs → lv_has ls 10 [(0, .ref h0), (1, .int x1), (2, .long y78), (4, .int y13), (5, .long y77), (7, .int y76)] → W p l e Rm_cX7_commonDivisor_2e0d5 s m args below meth c H locs 0 0 Q (F0 m 20 ls []) := by
          intro n
          induction n with
          | zero => intro y76 y77 y78 H locs ls b_y76 hm hT hS hl; exact absurd hm (Nat.not_lt_zero _)
          | succ n ih =>
            intro y76 y77 y78 H locs ls b_y76 hm hT hS hl
            have ih20_79 := ih
            clear ih
            refine lv_iload hx hb dX7_commonDivisor_20 (lv_at hl 5 rfl) ?_
            refine lv_sipush (v := 200) hx hb dX7_commonDivisor_22 (by decide) ?_
            refine lv_icmp_ge (tgt := 54) hx hb dX7_commonDivisor_25 (by decide) (fun c_80 => ?_) (fun c_80 => ?_)
            · skip
              have c_80 := ni_le c_80 li_200 rfl
              obtain ⟨v81, e_v81⟩ : ∃ x : Int32, x = y13 + Int32.ofInt 1 := ⟨_, rfl⟩
              have f_v81 := e_v81.symm
              have e_v81 : v81.toInt = y13.toInt + 1 := ai_add e_v81 rfl (show (Int32.ofInt 1).toInt = 1 from (by decide +kernel)) (by omega)
              refine lv_iinc (v := v81) (lv' := [(4, .int v81), (0, .ref h0), (1, .int x1), (2, .long y78), (5, .long y77), (7, .int y76)]) hx hb dX7_commonDivisor_54 hl (k := 3) rfl f_v81 (by decide) rfl (fun ls hl => ?_)
              refine lv_goto (tgt := 5) hx hb dX7_commonDivisor_57 (by decide) ?_
              exact ih5_15 v81 y78 _ _ _ (by omega)  (by omega) hT hS (lv_sub hl [1, 2, 3, 0] rfl)
            · skip
              have c_80 := ni_nle c_80 li_200 rfl
              refine lv_lload hx hb dX7_commonDivisor_28 (lv_at hl 4 rfl) ?_
              refine lv_lconst (v := 0) hx hb dX7_commonDivisor_30 (by decide) ?_
              refine W.lcmp hx hb dX7_commonDivisor_31 ?_
              refine lv_if_eq (tgt := 54) hx hb dX7_commonDivisor_32 (by decide) (fun c_82 => ?_) (fun c_82 => ?_)
              · skip
                have c_82 := nl_eq c_82 rfl ll_0
                obtain ⟨v83, e_v83⟩ : ∃ x : Int32, x = y13 + Int32.ofInt 1 := ⟨_, rfl⟩
                have f_v83 := e_v83.symm
                have e_v83 : v83.toInt = y13.toInt + 1 := ai_add e_v83 rfl (show (Int32.ofInt 1).toInt = 1 from (by decide +kernel)) (by omega)
                refine lv_iinc (v := v83) (lv' := [(4, .int v83), (0, .ref h0), (1, .int x1), (2, .long y78), (5, .long y77), (7, .int y76)]) hx hb dX7_commonDivisor_54 hl (k := 3) rfl f_v83 (by decide) rfl (fun ls hl => ?_)
                refine lv_goto (tgt := 5) hx hb dX7_commonDivisor_57 (by decide) ?_
                exact ih5_15 v83 y78 _ _ _ (by omega)  (by omega) hT hS (lv_sub hl [1, 2, 3, 0] rfl)
              · skip
                have c_82 := nl_ne c_82 rfl ll_0
                refine lv_lload_n hx hb dX7_commonDivisor_35 rfl (lv_at hl 2 rfl) ?_
                refine lv_lload hx hb dX7_commonDivisor_36 (lv_at hl 4 rfl) ?_
                refine lv_lrem hx hb dX7_commonDivisor_38 (nz64 (y := y77.toInt) rfl (by omega)) (lv_topl (fun v84 e_v84 => ?_))
                have e_v84 := al_rem e_v84 (nz64 (y := y77.toInt) rfl (by omega))
                refine lv_lstore (lv' := [(8, .long v84), (0, .ref h0), (1, .int x1), (2, .long y78), (4, .int y13), (5, .long y77), (7, .int y76)]) hx hb dX7_commonDivisor_39 hl (by decide) rfl (fun ls hl => ?_)
                refine lv_lload hx hb dX7_commonDivisor_41 (lv_at hl 5 rfl) ?_
                refine lv_lstore_n (lv' := [(2, .long y77), (8, .long v84), (0, .ref h0), (1, .int x1), (4, .int y13), (5, .long y77), (7, .int y76)]) hx hb dX7_commonDivisor_43 rfl hl (by decide) rfl (fun ls hl => ?_)
                refine lv_lload hx hb dX7_commonDivisor_44 (lv_at hl 1 rfl) ?_
                refine lv_lstore (lv' := [(5, .long v84), (2, .long y77), (8, .long v84), (0, .ref h0), (1, .int x1), (4, .int y13), (7, .int y76)]) hx hb dX7_commonDivisor_46 hl (by decide) rfl (fun ls hl => ?_)
                obtain ⟨v85, e_v85⟩ : ∃ x : Int32, x = y76 + Int32.ofInt 1 := ⟨_, rfl⟩
                have f_v85 := e_v85.symm
                have e_v85 : v85.toInt = y76.toInt + 1 := ai_add e_v85 rfl (show (Int32.ofInt 1).toInt = 1 from (by decide +kernel)) (by omega)
                refine lv_iinc (v := v85) (lv' := [(7, .int v85), (5, .long v84), (2, .long y77), (8, .long v84), (0, .ref h0), (1, .int x1), (4, .int y13)]) hx hb dX7_commonDivisor_48 hl (k := 6) rfl f_v85 (by decide) rfl (fun ls hl => ?_)
                refine lv_goto (tgt := 20) hx hb dX7_commonDivisor_51 (by decide) ?_
                exact ih20_79 v85 v84 y77 _ _ _ (by omega)  (by omega) hT hS (lv_sub hl [4, 5, 2, 6, 1, 0] rfl)
        exact lp20_79 (((-1) * (0 : Int32).toInt + 200 + 1).toNat + 1) (0) v18 y14 _ _ _ (by have := li_0; omega)  (Nat.lt_succ_self _) hT hS (lv_sub hl [2, 3, 4, 5, 1, 0] rfl)
  exact lp5_15 ((x1.toInt + (-1) * (0 : Int32).toInt + 1).toNat + 1) (0) (0) _ _ _ (by have := li_0; have := ll_0; omega)  (Nat.lt_succ_self _) hT hS (lv_sub hl [2, 3, 1, 0] rfl)
abbrev Rm_cJ9_max_f86c9_eaa09 : Room := { frames := 0, cells := 0, slots := 0, locals := 0 }
abbrev B_cJ9_max_f86c9_eaa09 (D : va_G) (k : Nat → ClassId) (x0 : Int64) (x1 : Int64) (A : Nat → Prop) (r : Int64) (H : Heap) : Prop := (x0.toInt < x1.toInt ∧ x1 = r ∧ TP D A [] H) ∨ (x1.toInt ≤ x0.toInt ∧ x0 = r ∧ TP D A [] H)
set_option maxHeartbeats 4000000 in
set_option maxRecDepth 100000 in
theorem cJ9_max_f86c9_eaa09 (l : Launch) (D : va_G) (k : Nat → ClassId) (sz : Nat) (x0 : Int64) (x1 : Int64) (b_x0 : 1 ≤ x0.toInt ∧ x0.toInt ≤ 1) : Met l yJ9_max_f86c9 (Cond.code yJ9_max_f86c9 cJ9_max_f86c9 4 (some .long) :: uw) Rm_cJ9_max_f86c9_eaa09 (pT D k sz [.long x0, .long x1] []) (qL (B_cJ9_max_f86c9_eaa09 D k x0 x1 (zA [] sz)) (zA [] sz)) 0 0 (zA [] sz) := by
  refine tz_beginF (as := []) (Qc := fun A => qL (B_cJ9_max_f86c9_eaa09 D k x0 x1 A) A) (by decide +kernel) rfl (Nat.le_of_ble_eq_true rfl) ?_
  intro p e s m args below meth c ls A Q hx hb hr hml hown hlocks hin hU hK hT hS hA hl hQ
  have hl : lv_has ls 4 [(0, .long x0), (2, .long x1)] := hl
  have hT : TP D A [] s.heap := hT
  refine lv_lload_n hx hb dJ9_max_f86c9_0 rfl (lv_at hl 0 rfl) ?_
  refine lv_lload_n hx hb dJ9_max_f86c9_1 rfl (lv_at hl 1 rfl) ?_
  refine W.lcmp hx hb dJ9_max_f86c9_2 ?_
  refine lv_if_lt (tgt := 10) hx hb dJ9_max_f86c9_3 (by decide) (fun c_1 => ?_) (fun c_1 => ?_)
  · skip
    have c_1 := nl_lt c_1 rfl rfl
    refine lv_lload_n hx hb dJ9_max_f86c9_10 rfl (lv_at hl 1 rfl) ?_
    exact tz_retL (B := B_cJ9_max_f86c9_eaa09 D k x0 x1) (v := x1) hQ hx hb hr hlocks hS (Nat.le_of_ble_eq_true rfl) (Nat.le_of_ble_eq_true rfl) dJ9_max_f86c9_11 (Or.inl ⟨(by omega), rfl, hT⟩)
  · skip
    have c_1 := nl_nlt c_1 rfl rfl
    refine lv_lload_n hx hb dJ9_max_f86c9_6 rfl (lv_at hl 0 rfl) ?_
    refine lv_goto (tgt := 11) hx hb dJ9_max_f86c9_7 (by decide) ?_
    exact tz_retL (B := B_cJ9_max_f86c9_eaa09 D k x0 x1) (v := x0) hQ hx hb hr hlocks hS (Nat.le_of_ble_eq_true rfl) (Nat.le_of_ble_eq_true rfl) dJ9_max_f86c9_11 (Or.inr (⟨(by omega), rfl, hT⟩))
abbrev Rm_cX10_form_d1db2 : Room := { frames := 6, cells := 0, slots := 0, locals := 149 }
abbrev B_cX10_form_d1db2 (D : va_G) (k : Nat → ClassId) (h0 h1 h5 h8 h11 h12 h13 h21 h22 h23 h24 h25 h26 h27 h28 h2 h3 h4 h6 h7 h9 h10 : Nat) (x1 : Int32) (x2 : Int32) (h0f2 : Int32) (h0f6 : Int32) (h0f8 : Int32) (h0f11 : Int32) (h1f0 : Int32) (h1f1 : Int32) (h1f2 : Int32) (h5f8 : Int32) (h5f9 : Int32) (h5f10 : Int32) (h5f11 : Int32) (h8f1 : Int32) (A : Nat → Prop) (r : Int64) (H : Heap) : Prop := ∃ o0 : Int32, ∃ o1 : Int32, ∃ o2 : Int32, ∃ o3 : Int32, ∃ o4 : Int32, ∃ o5 : Int32, (0 ≤ o0.toInt ∧ o0.toInt ≤ 1) ∧ (0 ≤ o1.toInt ∧ o1.toInt ≤ 9) ∧ (0 ≤ o2.toInt ∧ o2.toInt ≤ 100) ∧ (0 ≤ o3.toInt ∧ o3.toInt ≤ 100) ∧ (0 ≤ o4.toInt ∧ o4.toInt ≤ 1) ∧ (0 ≤ o5.toInt ∧ o5.toInt ≤ 7) ∧ TP D A [(h0, ob 7 [.ref h1, .ref h2, .int h0f2, .ref h3, .ref h4, .ref h5, .int o0, .ref h6, .int h0f8, .null, .ref h7, .int h0f11, .ref h8, .ref h9, .ref h10, .ref h11, .ref h12]), (h1, ob 4 [.int h1f0, .int h1f1, .int h1f2, .ref h13]), (h5, ob 3 [.ref h21, .ref h22, .ref h23, .ref h24, .ref h25, .ref h26, .ref h27, .ref h28, .int o1, .int o2, .int o3, .int o4]), (h8, ob 2 [.ref h1, .int o5]), (h11, aJ (k 1) 9 anJ), (h12, aJ (k 1) 9 anJ), (h13, aJ (k 1) 36 anJ), (h21, aJ (k 1) 900 anJ), (h22, aI (k 0) 100 anI), (h23, aI (k 0) 100 anI), (h24, aI (k 0) 100 anI), (h25, aI (k 0) 400 anI), (h26, aI (k 0) 256 (rgI (-1) 99)), (h27, aI (k 0) 100 (rgI (-1) 99)), (h28, aJ (k 1) 60 anJ)] H
set_option maxHeartbeats 4000000 in
set_option maxRecDepth 100000 in
theorem cX10_form_d1db2 (l : Launch) (D : va_G) (k : Nat → ClassId) (sz : Nat) (h0 h1 h5 h8 h11 h12 h13 h21 h22 h23 h24 h25 h26 h27 h28 h2 h3 h4 h6 h7 h9 h10 : Nat) (x1 : Int32) (x2 : Int32) (h0f2 : Int32) (h0f6 : Int32) (h0f8 : Int32) (h0f11 : Int32) (h1f0 : Int32) (h1f1 : Int32) (h1f2 : Int32) (h5f8 : Int32) (h5f9 : Int32) (h5f10 : Int32) (h5f11 : Int32) (h8f1 : Int32) (b_h0f2 : 0 ≤ h0f2.toInt ∧ h0f2.toInt ≤ 1) (b_h0f6 : 0 ≤ h0f6.toInt ∧ h0f6.toInt ≤ 1) (b_h0f8 : 0 ≤ h0f8.toInt ∧ h0f8.toInt ≤ 1) (b_h0f11 : 0 ≤ h0f11.toInt ∧ h0f11.toInt ≤ 200) (b_h1f0 : 1 ≤ h1f0.toInt ∧ h1f0.toInt ≤ 3) (b_h1f1 : 0 ≤ h1f1.toInt ∧ h1f1.toInt ≤ 4) (b_h5f8 : 0 ≤ h5f8.toInt ∧ h5f8.toInt ≤ 9) (b_h5f9 : 0 ≤ h5f9.toInt ∧ h5f9.toInt ≤ 100) (b_h5f10 : 0 ≤ h5f10.toInt ∧ h5f10.toInt ≤ 100) (b_h5f11 : 0 ≤ h5f11.toInt ∧ h5f11.toInt ≤ 1) (b_h8f1 : 0 ≤ h8f1.toInt ∧ h8f1.toInt ≤ 7) : Met l yX10_form (Cond.code yX10_form cX10_form 5 (some .long) :: uw) Rm_cX10_form_d1db2 (pT D k sz [.ref h0, .int x1, .int x2] [(h0, ob 7 [.ref h1, .ref h2, .int h0f2, .ref h3, .ref h4, .ref h5, .int h0f6, .ref h6, .int h0f8, .null, .ref h7, .int h0f11, .ref h8, .ref h9, .ref h10, .ref h11, .ref h12]), (h1, ob 4 [.int h1f0, .int h1f1, .int h1f2, .ref h13]), (h5, ob 3 [.ref h21, .ref h22, .ref h23, .ref h24, .ref h25, .ref h26, .ref h27, .ref h28, .int h5f8, .int h5f9, .int h5f10, .int h5f11]), (h8, ob 2 [.ref h1, .int h8f1]), (h11, aJ (k 1) 9 anJ), (h12, aJ (k 1) 9 anJ), (h13, aJ (k 1) 36 anJ), (h21, aJ (k 1) 900 anJ), (h22, aI (k 0) 100 anI), (h23, aI (k 0) 100 anI), (h24, aI (k 0) 100 anI), (h25, aI (k 0) 400 anI), (h26, aI (k 0) 256 (rgI (-1) 99)), (h27, aI (k 0) 100 (rgI (-1) 99)), (h28, aJ (k 1) 60 anJ)]) (qL (B_cX10_form_d1db2 D k h0 h1 h5 h8 h11 h12 h13 h21 h22 h23 h24 h25 h26 h27 h28 h2 h3 h4 h6 h7 h9 h10 x1 x2 h0f2 h0f6 h0f8 h0f11 h1f0 h1f1 h1f2 h5f8 h5f9 h5f10 h5f11 h8f1 (zA [h0, h1, h5, h8, h11, h12, h13, h21, h22, h23, h24, h25, h26, h27, h28] sz)) (zA [h0, h1, h5, h8, h11, h12, h13, h21, h22, h23, h24, h25, h26, h27, h28] sz)) 0 0 (zA [h0, h1, h5, h8, h11, h12, h13, h21, h22, h23, h24, h25, h26, h27, h28] sz) := by
  refine tz_begin (as := [h0, h1, h5, h8, h11, h12, h13, h21, h22, h23, h24, h25, h26, h27, h28]) (Qc := fun A => qL (B_cX10_form_d1db2 D k h0 h1 h5 h8 h11 h12 h13 h21 h22 h23 h24 h25 h26 h27 h28 h2 h3 h4 h6 h7 h9 h10 x1 x2 h0f2 h0f6 h0f8 h0f11 h1f0 h1f1 h1f2 h5f8 h5f9 h5f10 h5f11 h8f1 A) A) (by decide +kernel) rfl (Nat.le_of_ble_eq_true rfl) ?_
  intro p e s m args below meth c ls A Q hx hb hr hml hown hlocks hin hU hK hT hS hA hl hQ
  have hl : lv_has ls 5 [(0, .ref h0), (1, .int x1), (2, .int x2)] := hl
  have hT : TP D A [(h0, ob 7 [.ref h1, .ref h2, .int h0f2, .ref h3, .ref h4, .ref h5, .int h0f6, .ref h6, .int h0f8, .null, .ref h7, .int h0f11, .ref h8, .ref h9, .ref h10, .ref h11, .ref h12]), (h1, ob 4 [.int h1f0, .int h1f1, .int h1f2, .ref h13]), (h5, ob 3 [.ref h21, .ref h22, .ref h23, .ref h24, .ref h25, .ref h26, .ref h27, .ref h28, .int h5f8, .int h5f9, .int h5f10, .int h5f11]), (h8, ob 2 [.ref h1, .int h8f1]), (h11, aJ (k 1) 9 anJ), (h12, aJ (k 1) 9 anJ), (h13, aJ (k 1) 36 anJ), (h21, aJ (k 1) 900 anJ), (h22, aI (k 0) 100 anI), (h23, aI (k 0) 100 anI), (h24, aI (k 0) 100 anI), (h25, aI (k 0) 400 anI), (h26, aI (k 0) 256 (rgI (-1) 99)), (h27, aI (k 0) 100 (rgI (-1) 99)), (h28, aJ (k 1) 60 anJ)] s.heap := hT
  refine lv_aload_n hx hb dX10_form_0 rfl (lv_at hl 0 rfl) ?_
  refine tz_get (ci := 7) (v := .ref h1) (C := RX10) (F := TX10) (N := 17) hx hb hU iX10 hown hK hT 0 rfl rfl 0 (by decide) w249 (fun _ h9 => h9) rfl dX10_form_1 ?_
  refine lv_iload_n hx hb dX10_form_4 rfl (lv_at hl 1 rfl) ?_
  refine lv_iload_n hx hb dX10_form_5 rfl (lv_at hl 2 rfl) ?_
  refine tcI (Tc := [(h1, ob 4 [.int h1f0, .int h1f1, .int h1f2, .ref h13])]) (Tr := [(h0, ob 7 [.ref h1, .ref h2, .int h0f2, .ref h3, .ref h4, .ref h5, .int h0f6, .ref h6, .int h0f8, .null, .ref h7, .int h0f11, .ref h8, .ref h9, .ref h10, .ref h11, .ref h12]), (h5, ob 3 [.ref h21, .ref h22, .ref h23, .ref h24, .ref h25, .ref h26, .ref h27, .ref h28, .int h5f8, .int h5f9, .int h5f10, .int h5f11]), (h8, ob 2 [.ref h1, .int h8f1]), (h11, aJ (k 1) 9 anJ), (h12, aJ (k 1) 9 anJ), (h13, aJ (k 1) 36 anJ), (h21, aJ (k 1) 900 anJ), (h22, aI (k 0) 100 anI), (h23, aI (k 0) 100 anI), (h24, aI (k 0) 100 anI), (h25, aI (k 0) 400 anI), (h26, aI (k 0) 256 (rgI (-1) 99)), (h27, aI (k 0) 100 (rgI (-1) 99)), (h28, aJ (k 1) 60 anJ)]) (as := [h1]) (zcV (q0 := 1) (ci := 4) (As := [.int x1, .int x2]) (rest := []) (Tc := [(h1, ob 4 [.int h1f0, .int h1f1, .int h1f2, .ref h13])]) hx hb hml hown hU hK hT rfl rfl [1] rfl (by decide) (cX5_isPlace_ce953 l D k _ h1 h13 x1 x2 h1f0 h1f1 h1f2 (by omega) (by omega)) w319 w316 w317 w318 w64 hdX5_isPlace ⟨rfl, rfl⟩ ⟨Nat.le_of_ble_eq_true rfl, Nat.le_of_ble_eq_true rfl⟩ rfl hl.1 (Nat.le_of_ble_eq_true rfl) dX10_form_6 ⟨Nat.le_of_ble_eq_true rfl, Nat.le_of_ble_eq_true rfl⟩) hT hS hA [1] [0, 2, 3, 4, 5, 6, 7, 8, 9, 10, 11, 12, 13, 14] rfl rfl rfl (by decide) (by decide) (fun r1 H locs hB J hS => ?_)
  rcases hB with ⟨rfl, hT1⟩ | ⟨c_2, c_3, c_4, c_5, rfl, hT1⟩
  · skip
    have hT := J _ hT1
    have hT : TP D A [(h0, ob 7 [.ref h1, .ref h2, .int h0f2, .ref h3, .ref h4, .ref h5, .int h0f6, .ref h6, .int h0f8, .null, .ref h7, .int h0f11, .ref h8, .ref h9, .ref h10, .ref h11, .ref h12]), (h5, ob 3 [.ref h21, .ref h22, .ref h23, .ref h24, .ref h25, .ref h26, .ref h27, .ref h28, .int h5f8, .int h5f9, .int h5f10, .int h5f11]), (h8, ob 2 [.ref h1, .int h8f1]), (h11, aJ (k 1) 9 anJ), (h12, aJ (k 1) 9 anJ), (h13, aJ (k 1) 36 anJ), (h21, aJ (k 1) 900 anJ), (h22, aI (k 0) 100 anI), (h23, aI (k 0) 100 anI), (h24, aI (k 0) 100 anI), (h25, aI (k 0) 400 anI), (h26, aI (k 0) 256 (rgI (-1) 99)), (h27, aI (k 0) 100 (rgI (-1) 99)), (h28, aJ (k 1) 60 anJ), (h1, ob 4 [.int h1f0, .int h1f1, .int h1f2, .ref h13])] _ := hT
    refine lv_if_ne (tgt := 17) hx hb dX10_form_9 (by decide) (fun cc => absurd (by decide +kernel) cc) (fun _ => ?_)
    refine lv_iconst (v := (-1)) hx hb dX10_form_12 (by decide) ?_
    have q_q7 := li_m1
    refine tcL (Tc := []) (Tr := [(h0, ob 7 [.ref h1, .ref h2, .int h0f2, .ref h3, .ref h4, .ref h5, .int h0f6, .ref h6, .int h0f8, .null, .ref h7, .int h0f11, .ref h8, .ref h9, .ref h10, .ref h11, .ref h12]), (h5, ob 3 [.ref h21, .ref h22, .ref h23, .ref h24, .ref h25, .ref h26, .ref h27, .ref h28, .int h5f8, .int h5f9, .int h5f10, .int h5f11]), (h8, ob 2 [.ref h1, .int h8f1]), (h11, aJ (k 1) 9 anJ), (h12, aJ (k 1) 9 anJ), (h13, aJ (k 1) 36 anJ), (h21, aJ (k 1) 900 anJ), (h22, aI (k 0) 100 anI), (h23, aI (k 0) 100 anI), (h24, aI (k 0) 100 anI), (h25, aI (k 0) 400 anI), (h26, aI (k 0) 256 (rgI (-1) 99)), (h27, aI (k 0) 100 (rgI (-1) 99)), (h28, aJ (k 1) 60 anJ), (h1, ob 4 [.int h1f0, .int h1f1, .int h1f2, .ref h13])]) (as := []) (zcS (As := [.int (-1)]) (rest := []) (Tc := []) hx hb hml hown hU hK hT [] rfl (by decide) (cX10_asLong_5cc16 l D k _ ((-1)) (by have := li_m1; omega)) w572 w570 w571 w63 hdX10_asLong ⟨rfl, rfl⟩ ⟨Nat.le_of_ble_eq_true rfl, Nat.le_of_ble_eq_true rfl⟩ rfl hl.1 (Nat.le_of_ble_eq_true rfl) dX10_form_13 ⟨Nat.le_of_ble_eq_true rfl, Nat.le_of_ble_eq_true rfl⟩) hT hS hA [] [0, 1, 2, 3, 4, 5, 6, 7, 8, 9, 10, 11, 12, 13, 14] rfl rfl rfl (by decide) (by decide) (fun r6 H locs hB J hS => ?_)
    obtain ⟨b_r6, hT1⟩ := hB
    have hT := J _ hT1
    have hT : TP D A [(h0, ob 7 [.ref h1, .ref h2, .int h0f2, .ref h3, .ref h4, .ref h5, .int h0f6, .ref h6, .int h0f8, .null, .ref h7, .int h0f11, .ref h8, .ref h9, .ref h10, .ref h11, .ref h12]), (h5, ob 3 [.ref h21, .ref h22, .ref h23, .ref h24, .ref h25, .ref h26, .ref h27, .ref h28, .int h5f8, .int h5f9, .int h5f10, .int h5f11]), (h8, ob 2 [.ref h1, .int h8f1]), (h11, aJ (k 1) 9 anJ), (h12, aJ (k 1) 9 anJ), (h13, aJ (k 1) 36 anJ), (h21, aJ (k 1) 900 anJ), (h22, aI (k 0) 100 anI), (h23, aI (k 0) 100 anI), (h24, aI (k 0) 100 anI), (h25, aI (k 0) 400 anI), (h26, aI (k 0) 256 (rgI (-1) 99)), (h27, aI (k 0) 100 (rgI (-1) 99)), (h28, aJ (k 1) 60 anJ), (h1, ob 4 [.int h1f0, .int h1f1, .int h1f2, .ref h13])] _ := hT
    exact tz_retL (B := B_cX10_form_d1db2 D k h0 h1 h5 h8 h11 h12 h13 h21 h22 h23 h24 h25 h26 h27 h28 h2 h3 h4 h6 h7 h9 h10 x1 x2 h0f2 h0f6 h0f8 h0f11 h1f0 h1f1 h1f2 h5f8 h5f9 h5f10 h5f11 h8f1) (v := r6) hQ hx hb hr hlocks hS (Nat.le_of_ble_eq_true rfl) (Nat.le_of_ble_eq_true rfl) dX10_form_16 (⟨h0f6, h5f8, h5f9, h5f10, h5f11, h8f1, (by omega), (by omega), (by omega), (by omega), (by omega), (by omega), (hT.sub [0, 14, 1, 2, 3, 4, 5, 6, 7, 8, 9, 10, 11, 12, 13] (by decide) rfl)⟩)
  · skip
    have hT := J _ hT1
    have hT : TP D A [(h0, ob 7 [.ref h1, .ref h2, .int h0f2, .ref h3, .ref h4, .ref h5, .int h0f6, .ref h6, .int h0f8, .null, .ref h7, .int h0f11, .ref h8, .ref h9, .ref h10, .ref h11, .ref h12]), (h5, ob 3 [.ref h21, .ref h22, .ref h23, .ref h24, .ref h25, .ref h26, .ref h27, .ref h28, .int h5f8, .int h5f9, .int h5f10, .int h5f11]), (h8, ob 2 [.ref h1, .int h8f1]), (h11, aJ (k 1) 9 anJ), (h12, aJ (k 1) 9 anJ), (h13, aJ (k 1) 36 anJ), (h21, aJ (k 1) 900 anJ), (h22, aI (k 0) 100 anI), (h23, aI (k 0) 100 anI), (h24, aI (k 0) 100 anI), (h25, aI (k 0) 400 anI), (h26, aI (k 0) 256 (rgI (-1) 99)), (h27, aI (k 0) 100 (rgI (-1) 99)), (h28, aJ (k 1) 60 anJ), (h1, ob 4 [.int h1f0, .int h1f1, .int h1f2, .ref h13])] _ := hT
    refine lv_if_ne (tgt := 17) hx hb dX10_form_9 (by decide) (fun _ => ?_) (fun cc => absurd cc (by decide +kernel))
    refine lv_aload_n hx hb dX10_form_17 rfl (lv_at hl 0 rfl) ?_
    refine tcV (Tc := [(h0, ob 7 [.ref h1, .ref h2, .int h0f2, .ref h3, .ref h4, .ref h5, .int h0f6, .ref h6, .int h0f8, .null, .ref h7, .int h0f11, .ref h8, .ref h9, .ref h10, .ref h11, .ref h12]), (h1, ob 4 [.int h1f0, .int h1f1, .int h1f2, .ref h13]), (h5, ob 3 [.ref h21, .ref h22, .ref h23, .ref h24, .ref h25, .ref h26, .ref h27, .ref h28, .int h5f8, .int h5f9, .int h5f10, .int h5f11]), (h8, ob 2 [.ref h1, .int h8f1]), (h11, aJ (k 1) 9 anJ), (h13, aJ (k 1) 36 anJ), (h21, aJ (k 1) 900 anJ), (h22, aI (k 0) 100 anI), (h23, aI (k 0) 100 anI), (h24, aI (k 0) 100 anI), (h25, aI (k 0) 400 anI), (h26, aI (k 0) 256 (rgI (-1) 99)), (h27, aI (k 0) 100 (rgI (-1) 99)), (h28, aJ (k 1) 60 anJ)]) (Tr := [(h12, aJ (k 1) 9 anJ)]) (as := [h0, h1, h5, h8, h11, h13, h21, h22, h23, h24, h25, h26, h27, h28]) (zcV (q0 := 0) (ci := 7) (As := []) (rest := []) (Tc := [(h0, ob 7 [.ref h1, .ref h2, .int h0f2, .ref h3, .ref h4, .ref h5, .int h0f6, .ref h6, .int h0f8, .null, .ref h7, .int h0f11, .ref h8, .ref h9, .ref h10, .ref h11, .ref h12]), (h1, ob 4 [.int h1f0, .int h1f1, .int h1f2, .ref h13]), (h5, ob 3 [.ref h21, .ref h22, .ref h23, .ref h24, .ref h25, .ref h26, .ref h27, .ref h28, .int h5f8, .int h5f9, .int h5f10, .int h5f11]), (h8, ob 2 [.ref h1, .int h8f1]), (h11, aJ (k 1) 9 anJ), (h13, aJ (k 1) 36 anJ), (h21, aJ (k 1) 900 anJ), (h22, aI (k 0) 100 anI), (h23, aI (k 0) 100 anI), (h24, aI (k 0) 100 anI), (h25, aI (k 0) 400 anI), (h26, aI (k 0) 256 (rgI (-1) 99)), (h27, aI (k 0) 100 (rgI (-1) 99)), (h28, aJ (k 1) 60 anJ)]) hx hb hml hown hU hK hT rfl rfl [0, 14, 1, 2, 3, 5, 6, 7, 8, 9, 10, 11, 12, 13] rfl (by decide) (cX10_listAll_fe300 l D k _ h0 h1 h5 h8 h11 h13 h21 h22 h23 h24 h25 h26 h27 h28 h2 h3 h4 h6 h7 h9 h10 h12 h0f2 h0f6 h0f8 h0f11 h1f0 h1f1 h1f2 h5f8 h5f9 h5f10 h5f11 h8f1 (by omega) (by omega) (by omega) (by omega) (by omega) (by omega) (by omega) (by omega) (by omega) (by omega) (by omega)) w492 w489 w491 w10 w63 hdX10_listAll ⟨rfl, rfl⟩ ⟨Nat.le_of_ble_eq_true rfl, Nat.le_of_ble_eq_true rfl⟩ rfl hl.1 (Nat.le_of_ble_eq_true rfl) dX10_form_18 ⟨Nat.le_of_ble_eq_true rfl, Nat.le_of_ble_eq_true rfl⟩) hT hS hA [0, 14, 1, 2, 3, 5, 6, 7, 8, 9, 10, 11, 12, 13] [4] rfl rfl rfl (by decide) (by decide) (fun H locs hB J hS => ?_)
    obtain ⟨v9, v10, v11, v12, v13, v14, b_v9, b_v10, b_v11, b_v12, b_v13, b_v14, hT1⟩ := hB
    have hT := J _ hT1
    have hT : TP D A [(h12, aJ (k 1) 9 anJ), (h0, ob 7 [.ref h1, .ref h2, .int h0f2, .ref h3, .ref h4, .ref h5, .int v9, .ref h6, .int h0f8, .null, .ref h7, .int h0f11, .ref h8, .ref h9, .ref h10, .ref h11, .ref h12]), (h1, ob 4 [.int h1f0, .int h1f1, .int h1f2, .ref h13]), (h5, ob 3 [.ref h21, .ref h22, .ref h23, .ref h24, .ref h25, .ref h26, .ref h27, .ref h28, .int v10, .int v11, .int v12, .int v13]), (h8, ob 2 [.ref h1, .int v14]), (h11, aJ (k 1) 9 anJ), (h13, aJ (k 1) 36 anJ), (h21, aJ (k 1) 900 anJ), (h22, aI (k 0) 100 anI), (h23, aI (k 0) 100 anI), (h24, aI (k 0) 100 anI), (h25, aI (k 0) 400 anI), (h26, aI (k 0) 256 (rgI (-1) 99)), (h27, aI (k 0) 100 (rgI (-1) 99)), (h28, aJ (k 1) 60 anJ)] _ := hT
    refine lv_aload_n hx hb dX10_form_21 rfl (lv_at hl 0 rfl) ?_
    refine tz_get (ci := 7) (v := .ref h5) (C := RX10) (F := TX10) (N := 17) hx hb hU iX10 hown hK hT 1 rfl rfl 5 (by decide) w254 (fun _ h9 => h9) rfl dX10_form_22 ?_
    refine tz_get (ci := 3) (v := .int v13) (C := RX4) (F := TX4) (N := 12) hx hb hU iX4 hown hK hT 3 rfl rfl 11 (by decide) w168 (fun _ h9 => h9) rfl dX10_form_25 ?_
    refine lv_if_ne (tgt := 37) hx hb dX10_form_28 (by decide) (fun c_15 => ?_) (fun c_15 => ?_)
    · skip
      have c_15 := ni_ne c_15 rfl li_0
      refine lv_aload_n hx hb dX10_form_37 rfl (lv_at hl 0 rfl) ?_
      refine tcI (Tc := [(h0, ob 7 [.ref h1, .ref h2, .int h0f2, .ref h3, .ref h4, .ref h5, .int v9, .ref h6, .int h0f8, .null, .ref h7, .int h0f11, .ref h8, .ref h9, .ref h10, .ref h11, .ref h12]), (h1, ob 4 [.int h1f0, .int h1f1, .int h1f2, .ref h13]), (h5, ob 3 [.ref h21, .ref h22, .ref h23, .ref h24, .ref h25, .ref h26, .ref h27, .ref h28, .int v10, .int v11, .int v12, .int v13]), (h11, aJ (k 1) 9 anJ), (h12, aJ (k 1) 9 anJ), (h21, aJ (k 1) 900 anJ)]) (Tr := [(h8, ob 2 [.ref h1, .int v14]), (h13, aJ (k 1) 36 anJ), (h22, aI (k 0) 100 anI), (h23, aI (k 0) 100 anI), (h24, aI (k 0) 100 anI), (h25, aI (k 0) 400 anI), (h26, aI (k 0) 256 (rgI (-1) 99)), (h27, aI (k 0) 100 (rgI (-1) 99)), (h28, aJ (k 1) 60 anJ)]) (as := [h0, h1, h5, h11, h12, h21]) (zcV (q0 := 1) (ci := 7) (As := []) (rest := []) (Tc := [(h0, ob 7 [.ref h1, .ref h2, .int h0f2, .ref h3, .ref h4, .ref h5, .int v9, .ref h6, .int h0f8, .null, .ref h7, .int h0f11, .ref h8, .ref h9, .ref h10, .ref h11, .ref h12]), (h1, ob 4 [.int h1f0, .int h1f1, .int h1f2, .ref h13]), (h5, ob 3 [.ref h21, .ref h22, .ref h23, .ref h24, .ref h25, .ref h26, .ref h27, .ref h28, .int v10, .int v11, .int v12, .int v13]), (h11, aJ (k 1) 9 anJ), (h12, aJ (k 1) 9 anJ), (h21, aJ (k 1) 900 anJ)]) hx hb hml hown hU hK hT rfl rfl [1, 2, 3, 5, 0, 7] rfl (by decide) (cX10_addUpForm_d1202 l D k _ h0 h1 h5 h11 h12 h21 h2 h3 h4 h6 h7 h8 h9 h10 h13 h22 h23 h24 h25 h26 h27 h28 h0f2 v9 h0f8 h0f11 h1f0 h1f1 h1f2 v10 v11 v12 v13 (by omega) (by omega) (by omega) (by omega) (by omega) (by omega) (by omega) (by omega) (by omega) (by omega)) w616 w613 w615 w17 w63 hdX10_addUpForm ⟨rfl, rfl⟩ ⟨Nat.le_of_ble_eq_true rfl, Nat.le_of_ble_eq_true rfl⟩ rfl hl.1 (Nat.le_of_ble_eq_true rfl) dX10_form_38 ⟨Nat.le_of_ble_eq_true rfl, Nat.le_of_ble_eq_true rfl⟩) hT hS hA [1, 2, 3, 5, 0, 7] [4, 6, 8, 9, 10, 11, 12, 13, 14] rfl rfl rfl (by decide) (by decide) (fun r16 H locs hB J hS => ?_)
      obtain ⟨b_r16, hT1⟩ := hB
      have hT := J _ hT1
      have hT : TP D A [(h8, ob 2 [.ref h1, .int v14]), (h13, aJ (k 1) 36 anJ), (h22, aI (k 0) 100 anI), (h23, aI (k 0) 100 anI), (h24, aI (k 0) 100 anI), (h25, aI (k 0) 400 anI), (h26, aI (k 0) 256 (rgI (-1) 99)), (h27, aI (k 0) 100 (rgI (-1) 99)), (h28, aJ (k 1) 60 anJ), (h0, ob 7 [.ref h1, .ref h2, .int h0f2, .ref h3, .ref h4, .ref h5, .int v9, .ref h6, .int h0f8, .null, .ref h7, .int h0f11, .ref h8, .ref h9, .ref h10, .ref h11, .ref h12]), (h1, ob 4 [.int h1f0, .int h1f1, .int h1f2, .ref h13]), (h5, ob 3 [.ref h21, .ref h22, .ref h23, .ref h24, .ref h25, .ref h26, .ref h27, .ref h28, .int v10, .int v11, .int v12, .int v13]), (h11, aJ (k 1) 9 anJ), (h12, aJ (k 1) 9 anJ), (h21, aJ (k 1) 900 anJ)] _ := hT
      refine lv_if_ne (tgt := 50) hx hb dX10_form_41 (by decide) (fun c_17 => ?_) (fun c_17 => ?_)
      · skip
        have c_17 := ni_ne c_17 rfl li_0
        refine lv_aload_n hx hb dX10_form_50 rfl (lv_at hl 0 rfl) ?_
        refine tz_get (ci := 7) (v := .ref h11) (C := RX10) (F := TX10) (N := 17) hx hb hU iX10 hown hK hT 9 rfl rfl 15 (by decide) w264 (fun _ h9 => h9) rfl dX10_form_51 ?_
        refine lv_aload_n hx hb dX10_form_54 rfl (lv_at hl 0 rfl) ?_
        refine tz_get (ci := 7) (v := .ref h1) (C := RX10) (F := TX10) (N := 17) hx hb hU iX10 hown hK hT 9 rfl rfl 0 (by decide) w249 (fun _ h9 => h9) rfl dX10_form_55 ?_
        refine tcI (Tc := [(h1, ob 4 [.int h1f0, .int h1f1, .int h1f2, .ref h13])]) (Tr := [(h8, ob 2 [.ref h1, .int v14]), (h13, aJ (k 1) 36 anJ), (h22, aI (k 0) 100 anI), (h23, aI (k 0) 100 anI), (h24, aI (k 0) 100 anI), (h25, aI (k 0) 400 anI), (h26, aI (k 0) 256 (rgI (-1) 99)), (h27, aI (k 0) 100 (rgI (-1) 99)), (h28, aJ (k 1) 60 anJ), (h0, ob 7 [.ref h1, .ref h2, .int h0f2, .ref h3, .ref h4, .ref h5, .int v9, .ref h6, .int h0f8, .null, .ref h7, .int h0f11, .ref h8, .ref h9, .ref h10, .ref h11, .ref h12]), (h5, ob 3 [.ref h21, .ref h22, .ref h23, .ref h24, .ref h25, .ref h26, .ref h27, .ref h28, .int v10, .int v11, .int v12, .int v13]), (h11, aJ (k 1) 9 anJ), (h12, aJ (k 1) 9 anJ), (h21, aJ (k 1) 900 anJ)]) (as := [h1]) (zcV (q0 := 10) (ci := 4) (As := []) (rest := [.ref h11]) (Tc := [(h1, ob 4 [.int h1f0, .int h1f1, .int h1f2, .ref h13])]) hx hb hml hown hU hK hT rfl rfl [10] rfl (by decide) (cX5_cellCount_642c9 l D k _ h1 h13 h1f0 h1f1 h1f2 (by omega) (by omega)) w385 w382 w383 w384 w64 hdX5_cellCount ⟨rfl, rfl⟩ ⟨Nat.le_of_ble_eq_true rfl, Nat.le_of_ble_eq_true rfl⟩ rfl hl.1 (Nat.le_of_ble_eq_true rfl) dX10_form_58 ⟨Nat.le_of_ble_eq_true rfl, Nat.le_of_ble_eq_true rfl⟩) hT hS hA [10] [0, 1, 2, 3, 4, 5, 6, 7, 8, 9, 11, 12, 13, 14] rfl rfl rfl (by decide) (by decide) (fun r18 H locs hB J hS => ?_)
        obtain ⟨b_r18, hT1⟩ := hB
        have hT := J _ hT1
        have hT : TP D A [(h8, ob 2 [.ref h1, .int v14]), (h13, aJ (k 1) 36 anJ), (h22, aI (k 0) 100 anI), (h23, aI (k 0) 100 anI), (h24, aI (k 0) 100 anI), (h25, aI (k 0) 400 anI), (h26, aI (k 0) 256 (rgI (-1) 99)), (h27, aI (k 0) 100 (rgI (-1) 99)), (h28, aJ (k 1) 60 anJ), (h0, ob 7 [.ref h1, .ref h2, .int h0f2, .ref h3, .ref h4, .ref h5, .int v9, .ref h6, .int h0f8, .null, .ref h7, .int h0f11, .ref h8, .ref h9, .ref h10, .ref h11, .ref h12]), (h5, ob 3 [.ref h21, .ref h22, .ref h23, .ref h24, .ref h25, .ref h26, .ref h27, .ref h28, .int v10, .int v11, .int v12, .int v13]), (h11, aJ (k 1) 9 anJ), (h12, aJ (k 1) 9 anJ), (h21, aJ (k 1) 900 anJ), (h1, ob 4 [.int h1f0, .int h1f1, .int h1f2, .ref h13])] _ := hT
        refine tcL (Tc := [(h11, aJ (k 1) 9 anJ)]) (Tr := [(h8, ob 2 [.ref h1, .int v14]), (h13, aJ (k 1) 36 anJ), (h22, aI (k 0) 100 anI), (h23, aI (k 0) 100 anI), (h24, aI (k 0) 100 anI), (h25, aI (k 0) 400 anI), (h26, aI (k 0) 256 (rgI (-1) 99)), (h27, aI (k 0) 100 (rgI (-1) 99)), (h28, aJ (k 1) 60 anJ), (h0, ob 7 [.ref h1, .ref h2, .int h0f2, .ref h3, .ref h4, .ref h5, .int v9, .ref h6, .int h0f8, .null, .ref h7, .int h0f11, .ref h8, .ref h9, .ref h10, .ref h11, .ref h12]), (h5, ob 3 [.ref h21, .ref h22, .ref h23, .ref h24, .ref h25, .ref h26, .ref h27, .ref h28, .int v10, .int v11, .int v12, .int v13]), (h12, aJ (k 1) 9 anJ), (h21, aJ (k 1) 900 anJ), (h1, ob 4 [.int h1f0, .int h1f1, .int h1f2, .ref h13])]) (as := [h11]) (zcS (As := [.ref h11, .int r18]) (rest := []) (Tc := [(h11, aJ (k 1) 9 anJ)]) hx hb hml hown hU hK hT [11] rfl (by decide) (cX7_commonDivisor_2e0d5 l D k _ h11 r18 (by omega)) w623 w621 w622 w74 hdX7_commonDivisor ⟨rfl, rfl⟩ ⟨Nat.le_of_ble_eq_true rfl, Nat.le_of_ble_eq_true rfl⟩ rfl hl.1 (Nat.le_of_ble_eq_true rfl) dX10_form_61 ⟨Nat.le_of_ble_eq_true rfl, Nat.le_of_ble_eq_true rfl⟩) hT hS hA [11] [0, 1, 2, 3, 4, 5, 6, 7, 8, 9, 10, 12, 13, 14] rfl rfl rfl (by decide) (by decide) (fun r19 H locs hB J hS => ?_)
        have hT1 := hB
        have hT := J _ hT1
        have hT : TP D A [(h8, ob 2 [.ref h1, .int v14]), (h13, aJ (k 1) 36 anJ), (h22, aI (k 0) 100 anI), (h23, aI (k 0) 100 anI), (h24, aI (k 0) 100 anI), (h25, aI (k 0) 400 anI), (h26, aI (k 0) 256 (rgI (-1) 99)), (h27, aI (k 0) 100 (rgI (-1) 99)), (h28, aJ (k 1) 60 anJ), (h0, ob 7 [.ref h1, .ref h2, .int h0f2, .ref h3, .ref h4, .ref h5, .int v9, .ref h6, .int h0f8, .null, .ref h7, .int h0f11, .ref h8, .ref h9, .ref h10, .ref h11, .ref h12]), (h5, ob 3 [.ref h21, .ref h22, .ref h23, .ref h24, .ref h25, .ref h26, .ref h27, .ref h28, .int v10, .int v11, .int v12, .int v13]), (h12, aJ (k 1) 9 anJ), (h21, aJ (k 1) 900 anJ), (h1, ob 4 [.int h1f0, .int h1f1, .int h1f2, .ref h13]), (h11, aJ (k 1) 9 anJ)] _ := hT
        refine lv_lstore_n (lv' := [(3, .long r19), (0, .ref h0), (1, .int x1), (2, .int x2)]) hx hb dX10_form_64 rfl hl (by decide) rfl (fun ls hl => ?_)
        refine lv_aload_n hx hb dX10_form_65 rfl (lv_at hl 1 rfl) ?_
        refine tz_get (ci := 7) (v := .ref h11) (C := RX10) (F := TX10) (N := 17) hx hb hU iX10 hown hK hT 9 rfl rfl 15 (by decide) w264 (fun _ h9 => h9) rfl dX10_form_66 ?_
        refine lv_iload_n hx hb dX10_form_69 rfl (lv_at hl 2 rfl) ?_
        refine lv_aload_n hx hb dX10_form_70 rfl (lv_at hl 1 rfl) ?_
        refine tz_get (ci := 7) (v := .ref h1) (C := RX10) (F := TX10) (N := 17) hx hb hU iX10 hown hK hT 9 rfl rfl 0 (by decide) w249 (fun _ h9 => h9) rfl dX10_form_71 ?_
        refine tz_get (ci := 4) (v := .int h1f0) (C := RX5) (F := TX5) (N := 4) hx hb hU iX5 hown hK hT 13 rfl rfl 0 (by decide) w93 (fun _ h9 => h9) rfl dX10_form_74 ?_
        refine lv_imul hx hb dX10_form_77 (lv_topi (fun v20 e_v20 => ?_))
        have e_v20 := ai_mm (la := 0) (ua := 2) (lb := 1) (ub := 3) e_v20 rfl rfl (by omega) (by decide)
        refine lv_iload_n hx hb dX10_form_78 rfl (lv_at hl 3 rfl) ?_
        refine lv_iadd hx hb dX10_form_79 (lv_topi (fun v21 e_v21 => ?_))
        have e_v21 := ai_add e_v21 rfl rfl (by omega)
        refine tz_lald hx hb hK hT 14 rfl (by omega) dX10_form_80 (fun v22 e_v22 => ?_)
        clear e_v22
        refine lv_lconst (v := 1) hx hb dX10_form_81 (by decide) ?_
        refine lv_lload_n hx hb dX10_form_82 rfl (lv_at hl 0 rfl) ?_
        have q_q24 := ll_1
        refine tcL (Tc := []) (Tr := [(h8, ob 2 [.ref h1, .int v14]), (h13, aJ (k 1) 36 anJ), (h22, aI (k 0) 100 anI), (h23, aI (k 0) 100 anI), (h24, aI (k 0) 100 anI), (h25, aI (k 0) 400 anI), (h26, aI (k 0) 256 (rgI (-1) 99)), (h27, aI (k 0) 100 (rgI (-1) 99)), (h28, aJ (k 1) 60 anJ), (h0, ob 7 [.ref h1, .ref h2, .int h0f2, .ref h3, .ref h4, .ref h5, .int v9, .ref h6, .int h0f8, .null, .ref h7, .int h0f11, .ref h8, .ref h9, .ref h10, .ref h11, .ref h12]), (h5, ob 3 [.ref h21, .ref h22, .ref h23, .ref h24, .ref h25, .ref h26, .ref h27, .ref h28, .int v10, .int v11, .int v12, .int v13]), (h12, aJ (k 1) 9 anJ), (h21, aJ (k 1) 900 anJ), (h1, ob 4 [.int h1f0, .int h1f1, .int h1f2, .ref h13]), (h11, aJ (k 1) 9 anJ)]) (as := []) (zcS (As := [.long 1, .long r19]) (rest := [.long v22]) (Tc := []) hx hb hml hown hU hK hT [] rfl (by decide) (cJ9_max_f86c9_eaa09 l D k _ (1) r19 (by have := ll_1; omega)) w629 w627 w628 w77 hdJ9_max_f86c9 ⟨rfl, rfl⟩ ⟨Nat.le_of_ble_eq_true rfl, Nat.le_of_ble_eq_true rfl⟩ rfl hl.1 (Nat.le_of_ble_eq_true rfl) dX10_form_83 ⟨Nat.le_of_ble_eq_true rfl, Nat.le_of_ble_eq_true rfl⟩) hT hS hA [] [0, 1, 2, 3, 4, 5, 6, 7, 8, 9, 10, 11, 12, 13, 14] rfl rfl rfl (by decide) (by decide) (fun r23 H locs hB J hS => ?_)
        rcases hB with ⟨c_25, rfl, hT1⟩ | ⟨c_26, rfl, hT1⟩
        · skip
          have hT := J _ hT1
          have hT : TP D A [(h8, ob 2 [.ref h1, .int v14]), (h13, aJ (k 1) 36 anJ), (h22, aI (k 0) 100 anI), (h23, aI (k 0) 100 anI), (h24, aI (k 0) 100 anI), (h25, aI (k 0) 400 anI), (h26, aI (k 0) 256 (rgI (-1) 99)), (h27, aI (k 0) 100 (rgI (-1) 99)), (h28, aJ (k 1) 60 anJ), (h0, ob 7 [.ref h1, .ref h2, .int h0f2, .ref h3, .ref h4, .ref h5, .int v9, .ref h6, .int h0f8, .null, .ref h7, .int h0f11, .ref h8, .ref h9, .ref h10, .ref h11, .ref h12]), (h5, ob 3 [.ref h21, .ref h22, .ref h23, .ref h24, .ref h25, .ref h26, .ref h27, .ref h28, .int v10, .int v11, .int v12, .int v13]), (h12, aJ (k 1) 9 anJ), (h21, aJ (k 1) 900 anJ), (h1, ob 4 [.int h1f0, .int h1f1, .int h1f2, .ref h13]), (h11, aJ (k 1) 9 anJ)] _ := hT
          refine lv_ldiv hx hb dX10_form_86 (nz64 (y := r19.toInt) rfl (by omega)) (lv_topl (fun v27 e_v27 => ?_))
          exact tz_retL (B := B_cX10_form_d1db2 D k h0 h1 h5 h8 h11 h12 h13 h21 h22 h23 h24 h25 h26 h27 h28 h2 h3 h4 h6 h7 h9 h10 x1 x2 h0f2 h0f6 h0f8 h0f11 h1f0 h1f1 h1f2 h5f8 h5f9 h5f10 h5f11 h8f1) (v := v27) hQ hx hb hr hlocks hS (Nat.le_of_ble_eq_true rfl) (Nat.le_of_ble_eq_true rfl) dX10_form_87 (⟨v9, v10, v11, v12, v13, v14, (by omega), (by omega), (by omega), (by omega), (by omega), (by omega), (hT.sub [9, 13, 10, 0, 14, 11, 1, 12, 2, 3, 4, 5, 6, 7, 8] (by decide) rfl)⟩)
        · skip
          have hT := J _ hT1
          have hT : TP D A [(h8, ob 2 [.ref h1, .int v14]), (h13, aJ (k 1) 36 anJ), (h22, aI (k 0) 100 anI), (h23, aI (k 0) 100 anI), (h24, aI (k 0) 100 anI), (h25, aI (k 0) 400 anI), (h26, aI (k 0) 256 (rgI (-1) 99)), (h27, aI (k 0) 100 (rgI (-1) 99)), (h28, aJ (k 1) 60 anJ), (h0, ob 7 [.ref h1, .ref h2, .int h0f2, .ref h3, .ref h4, .ref h5, .int v9, .ref h6, .int h0f8, .null, .ref h7, .int h0f11, .ref h8, .ref h9, .ref h10, .ref h11, .ref h12]), (h5, ob 3 [.ref h21, .ref h22, .ref h23, .ref h24, .ref h25, .ref h26, .ref h27, .ref h28, .int v10, .int v11, .int v12, .int v13]), (h12, aJ (k 1) 9 anJ), (h21, aJ (k 1) 900 anJ), (h1, ob 4 [.int h1f0, .int h1f1, .int h1f2, .ref h13]), (h11, aJ (k 1) 9 anJ)] _ := hT
          refine lv_ldiv hx hb dX10_form_86 (by decide +kernel) (lv_topl (fun v28 e_v28 => ?_))
          exact tz_retL (B := B_cX10_form_d1db2 D k h0 h1 h5 h8 h11 h12 h13 h21 h22 h23 h24 h25 h26 h27 h28 h2 h3 h4 h6 h7 h9 h10 x1 x2 h0f2 h0f6 h0f8 h0f11 h1f0 h1f1 h1f2 h5f8 h5f9 h5f10 h5f11 h8f1) (v := v28) hQ hx hb hr hlocks hS (Nat.le_of_ble_eq_true rfl) (Nat.le_of_ble_eq_true rfl) dX10_form_87 (⟨v9, v10, v11, v12, v13, v14, (by omega), (by omega), (by omega), (by omega), (by omega), (by omega), (hT.sub [9, 13, 10, 0, 14, 11, 1, 12, 2, 3, 4, 5, 6, 7, 8] (by decide) rfl)⟩)
      · skip
        have c_17 := ni_eq c_17 rfl li_0
        refine lv_bipush (v := (-16)) hx hb dX10_form_44 (by decide) ?_
        have q_q30 := li_m16
        refine tcL (Tc := []) (Tr := [(h8, ob 2 [.ref h1, .int v14]), (h13, aJ (k 1) 36 anJ), (h22, aI (k 0) 100 anI), (h23, aI (k 0) 100 anI), (h24, aI (k 0) 100 anI), (h25, aI (k 0) 400 anI), (h26, aI (k 0) 256 (rgI (-1) 99)), (h27, aI (k 0) 100 (rgI (-1) 99)), (h28, aJ (k 1) 60 anJ), (h0, ob 7 [.ref h1, .ref h2, .int h0f2, .ref h3, .ref h4, .ref h5, .int v9, .ref h6, .int h0f8, .null, .ref h7, .int h0f11, .ref h8, .ref h9, .ref h10, .ref h11, .ref h12]), (h1, ob 4 [.int h1f0, .int h1f1, .int h1f2, .ref h13]), (h5, ob 3 [.ref h21, .ref h22, .ref h23, .ref h24, .ref h25, .ref h26, .ref h27, .ref h28, .int v10, .int v11, .int v12, .int v13]), (h11, aJ (k 1) 9 anJ), (h12, aJ (k 1) 9 anJ), (h21, aJ (k 1) 900 anJ)]) (as := []) (zcS (As := [.int (-16)]) (rest := []) (Tc := []) hx hb hml hown hU hK hT [] rfl (by decide) (cX10_asLong_5cc16 l D k _ ((-16)) (by have := li_m16; omega)) w572 w570 w571 w63 hdX10_asLong ⟨rfl, rfl⟩ ⟨Nat.le_of_ble_eq_true rfl, Nat.le_of_ble_eq_true rfl⟩ rfl hl.1 (Nat.le_of_ble_eq_true rfl) dX10_form_46 ⟨Nat.le_of_ble_eq_true rfl, Nat.le_of_ble_eq_true rfl⟩) hT hS hA [] [0, 1, 2, 3, 4, 5, 6, 7, 8, 9, 10, 11, 12, 13, 14] rfl rfl rfl (by decide) (by decide) (fun r29 H locs hB J hS => ?_)
        obtain ⟨b_r29, hT1⟩ := hB
        have hT := J _ hT1
        have hT : TP D A [(h8, ob 2 [.ref h1, .int v14]), (h13, aJ (k 1) 36 anJ), (h22, aI (k 0) 100 anI), (h23, aI (k 0) 100 anI), (h24, aI (k 0) 100 anI), (h25, aI (k 0) 400 anI), (h26, aI (k 0) 256 (rgI (-1) 99)), (h27, aI (k 0) 100 (rgI (-1) 99)), (h28, aJ (k 1) 60 anJ), (h0, ob 7 [.ref h1, .ref h2, .int h0f2, .ref h3, .ref h4, .ref h5, .int v9, .ref h6, .int h0f8, .null, .ref h7, .int h0f11, .ref h8, .ref h9, .ref h10, .ref h11, .ref h12]), (h1, ob 4 [.int h1f0, .int h1f1, .int h1f2, .ref h13]), (h5, ob 3 [.ref h21, .ref h22, .ref h23, .ref h24, .ref h25, .ref h26, .ref h27, .ref h28, .int v10, .int v11, .int v12, .int v13]), (h11, aJ (k 1) 9 anJ), (h12, aJ (k 1) 9 anJ), (h21, aJ (k 1) 900 anJ)] _ := hT
        exact tz_retL (B := B_cX10_form_d1db2 D k h0 h1 h5 h8 h11 h12 h13 h21 h22 h23 h24 h25 h26 h27 h28 h2 h3 h4 h6 h7 h9 h10 x1 x2 h0f2 h0f6 h0f8 h0f11 h1f0 h1f1 h1f2 h5f8 h5f9 h5f10 h5f11 h8f1) (v := r29) hQ hx hb hr hlocks hS (Nat.le_of_ble_eq_true rfl) (Nat.le_of_ble_eq_true rfl) dX10_form_49 (⟨v9, v10, v11, v12, v13, v14, (by omega), (by omega), (by omega), (by omega), (by omega), (by omega), (hT.sub [9, 10, 11, 0, 12, 13, 1, 14, 2, 3, 4, 5, 6, 7, 8] (by decide) rfl)⟩)
    · skip
      have c_15 := ni_eq c_15 rfl li_0
      refine lv_bipush (v := (-3)) hx hb dX10_form_31 (by decide) ?_
      have q_q32 := li_m3
      refine tcL (Tc := []) (Tr := [(h12, aJ (k 1) 9 anJ), (h0, ob 7 [.ref h1, .ref h2, .int h0f2, .ref h3, .ref h4, .ref h5, .int v9, .ref h6, .int h0f8, .null, .ref h7, .int h0f11, .ref h8, .ref h9, .ref h10, .ref h11, .ref h12]), (h1, ob 4 [.int h1f0, .int h1f1, .int h1f2, .ref h13]), (h5, ob 3 [.ref h21, .ref h22, .ref h23, .ref h24, .ref h25, .ref h26, .ref h27, .ref h28, .int v10, .int v11, .int v12, .int v13]), (h8, ob 2 [.ref h1, .int v14]), (h11, aJ (k 1) 9 anJ), (h13, aJ (k 1) 36 anJ), (h21, aJ (k 1) 900 anJ), (h22, aI (k 0) 100 anI), (h23, aI (k 0) 100 anI), (h24, aI (k 0) 100 anI), (h25, aI (k 0) 400 anI), (h26, aI (k 0) 256 (rgI (-1) 99)), (h27, aI (k 0) 100 (rgI (-1) 99)), (h28, aJ (k 1) 60 anJ)]) (as := []) (zcS (As := [.int (-3)]) (rest := []) (Tc := []) hx hb hml hown hU hK hT [] rfl (by decide) (cX10_asLong_5cc16 l D k _ ((-3)) (by have := li_m3; omega)) w572 w570 w571 w63 hdX10_asLong ⟨rfl, rfl⟩ ⟨Nat.le_of_ble_eq_true rfl, Nat.le_of_ble_eq_true rfl⟩ rfl hl.1 (Nat.le_of_ble_eq_true rfl) dX10_form_33 ⟨Nat.le_of_ble_eq_true rfl, Nat.le_of_ble_eq_true rfl⟩) hT hS hA [] [0, 1, 2, 3, 4, 5, 6, 7, 8, 9, 10, 11, 12, 13, 14] rfl rfl rfl (by decide) (by decide) (fun r31 H locs hB J hS => ?_)
      obtain ⟨b_r31, hT1⟩ := hB
      have hT := J _ hT1
      have hT : TP D A [(h12, aJ (k 1) 9 anJ), (h0, ob 7 [.ref h1, .ref h2, .int h0f2, .ref h3, .ref h4, .ref h5, .int v9, .ref h6, .int h0f8, .null, .ref h7, .int h0f11, .ref h8, .ref h9, .ref h10, .ref h11, .ref h12]), (h1, ob 4 [.int h1f0, .int h1f1, .int h1f2, .ref h13]), (h5, ob 3 [.ref h21, .ref h22, .ref h23, .ref h24, .ref h25, .ref h26, .ref h27, .ref h28, .int v10, .int v11, .int v12, .int v13]), (h8, ob 2 [.ref h1, .int v14]), (h11, aJ (k 1) 9 anJ), (h13, aJ (k 1) 36 anJ), (h21, aJ (k 1) 900 anJ), (h22, aI (k 0) 100 anI), (h23, aI (k 0) 100 anI), (h24, aI (k 0) 100 anI), (h25, aI (k 0) 400 anI), (h26, aI (k 0) 256 (rgI (-1) 99)), (h27, aI (k 0) 100 (rgI (-1) 99)), (h28, aJ (k 1) 60 anJ)] _ := hT
      exact tz_retL (B := B_cX10_form_d1db2 D k h0 h1 h5 h8 h11 h12 h13 h21 h22 h23 h24 h25 h26 h27 h28 h2 h3 h4 h6 h7 h9 h10 x1 x2 h0f2 h0f6 h0f8 h0f11 h1f0 h1f1 h1f2 h5f8 h5f9 h5f10 h5f11 h8f1) (v := r31) hQ hx hb hr hlocks hS (Nat.le_of_ble_eq_true rfl) (Nat.le_of_ble_eq_true rfl) dX10_form_36 (⟨v9, v10, v11, v12, v13, v14, (by omega), (by omega), (by omega), (by omega), (by omega), (by omega), (hT.sub [1, 2, 3, 4, 5, 0, 6, 7, 8, 9, 10, 11, 12, 13, 14] (by decide) rfl)⟩)
abbrev Rm_cX10_addUpForm_bdb42 : Room := { frames := 2, cells := 0, slots := 0, locals := 56 }
abbrev B_cX10_addUpForm_bdb42 (D : va_G) (k : Nat → ClassId) (h0 h1 h5 h12 h13 h22 h2 h3 h4 h6 h7 h8 h9 h10 h11 h14 h23 h24 h25 h26 h27 h28 h29 : Nat) (h0f2 : Int32) (h0f6 : Int32) (h0f8 : Int32) (h0f11 : Int32) (h1f0 : Int32) (h1f1 : Int32) (h1f2 : Int32) (h5f8 : Int32) (h5f9 : Int32) (h5f10 : Int32) (h5f11 : Int32) (A : Nat → Prop) (r : Int32) (H : Heap) : Prop := (0 ≤ r.toInt ∧ r.toInt ≤ 1) ∧ TP D A [(h0, ob 7 [.ref h1, .ref h2, .int h0f2, .ref h3, .ref h4, .ref h5, .int h0f6, .ref h6, .int h0f8, .ref h7, .ref h8, .int h0f11, .ref h9, .ref h10, .ref h11, .ref h12, .ref h13]), (h1, ob 4 [.int h1f0, .int h1f1, .int h1f2, .ref h14]), (h5, ob 3 [.ref h22, .ref h23, .ref h24, .ref h25, .ref h26, .ref h27, .ref h28, .ref h29, .int h5f8, .int h5f9, .int h5f10, .int h5f11]), (h12, aJ (k 1) 9 anJ), (h13, aJ (k 1) 9 anJ), (h22, aJ (k 1) 900 anJ)] H
set_option maxHeartbeats 4000000 in
set_option maxRecDepth 100000 in
theorem cX10_addUpForm_bdb42 (l : Launch) (D : va_G) (k : Nat → ClassId) (sz : Nat) (h0 h1 h5 h12 h13 h22 h2 h3 h4 h6 h7 h8 h9 h10 h11 h14 h23 h24 h25 h26 h27 h28 h29 : Nat) (h0f2 : Int32) (h0f6 : Int32) (h0f8 : Int32) (h0f11 : Int32) (h1f0 : Int32) (h1f1 : Int32) (h1f2 : Int32) (h5f8 : Int32) (h5f9 : Int32) (h5f10 : Int32) (h5f11 : Int32) (b_h0f2 : 0 ≤ h0f2.toInt ∧ h0f2.toInt ≤ 1) (b_h0f6 : 1 ≤ h0f6.toInt ∧ h0f6.toInt ≤ 1) (b_h0f8 : 0 ≤ h0f8.toInt ∧ h0f8.toInt ≤ 1) (b_h0f11 : 0 ≤ h0f11.toInt ∧ h0f11.toInt ≤ 200) (b_h1f0 : 1 ≤ h1f0.toInt ∧ h1f0.toInt ≤ 3) (b_h1f1 : 0 ≤ h1f1.toInt ∧ h1f1.toInt ≤ 4) (b_h5f8 : 0 ≤ h5f8.toInt ∧ h5f8.toInt ≤ 9) (b_h5f9 : 0 ≤ h5f9.toInt ∧ h5f9.toInt ≤ 100) (b_h5f10 : 0 ≤ h5f10.toInt ∧ h5f10.toInt ≤ 100) (b_h5f11 : 1 ≤ h5f11.toInt ∧ h5f11.toInt ≤ 1) : Met l yX10_addUpForm (Cond.code yX10_addUpForm cX10_addUpForm 6 (some .boolean) :: uw) Rm_cX10_addUpForm_bdb42 (pT D k sz [.ref h0] [(h0, ob 7 [.ref h1, .ref h2, .int h0f2, .ref h3, .ref h4, .ref h5, .int h0f6, .ref h6, .int h0f8, .ref h7, .ref h8, .int h0f11, .ref h9, .ref h10, .ref h11, .ref h12, .ref h13]), (h1, ob 4 [.int h1f0, .int h1f1, .int h1f2, .ref h14]), (h5, ob 3 [.ref h22, .ref h23, .ref h24, .ref h25, .ref h26, .ref h27, .ref h28, .ref h29, .int h5f8, .int h5f9, .int h5f10, .int h5f11]), (h12, aJ (k 1) 9 anJ), (h13, aJ (k 1) 9 anJ), (h22, aJ (k 1) 900 anJ)]) (qI (B_cX10_addUpForm_bdb42 D k h0 h1 h5 h12 h13 h22 h2 h3 h4 h6 h7 h8 h9 h10 h11 h14 h23 h24 h25 h26 h27 h28 h29 h0f2 h0f6 h0f8 h0f11 h1f0 h1f1 h1f2 h5f8 h5f9 h5f10 h5f11 (zA [h0, h1, h5, h12, h13, h22] sz)) (zA [h0, h1, h5, h12, h13, h22] sz)) 0 0 (zA [h0, h1, h5, h12, h13, h22] sz) := by
  refine tz_begin (as := [h0, h1, h5, h12, h13, h22]) (Qc := fun A => qI (B_cX10_addUpForm_bdb42 D k h0 h1 h5 h12 h13 h22 h2 h3 h4 h6 h7 h8 h9 h10 h11 h14 h23 h24 h25 h26 h27 h28 h29 h0f2 h0f6 h0f8 h0f11 h1f0 h1f1 h1f2 h5f8 h5f9 h5f10 h5f11 A) A) (by decide +kernel) rfl (Nat.le_of_ble_eq_true rfl) ?_
  intro p e s m args below meth c ls A Q hx hb hr hml hown hlocks hin hU hK hT hS hA hl hQ
  have hl : lv_has ls 6 [(0, .ref h0)] := hl
  have hT : TP D A [(h0, ob 7 [.ref h1, .ref h2, .int h0f2, .ref h3, .ref h4, .ref h5, .int h0f6, .ref h6, .int h0f8, .ref h7, .ref h8, .int h0f11, .ref h9, .ref h10, .ref h11, .ref h12, .ref h13]), (h1, ob 4 [.int h1f0, .int h1f1, .int h1f2, .ref h14]), (h5, ob 3 [.ref h22, .ref h23, .ref h24, .ref h25, .ref h26, .ref h27, .ref h28, .ref h29, .int h5f8, .int h5f9, .int h5f10, .int h5f11]), (h12, aJ (k 1) 9 anJ), (h13, aJ (k 1) 9 anJ), (h22, aJ (k 1) 900 anJ)] s.heap := hT
  refine lv_aload_n hx hb dX10_addUpForm_0 rfl (lv_at hl 0 rfl) ?_
  refine tz_get (ci := 7) (v := .ref h1) (C := RX10) (F := TX10) (N := 17) hx hb hU iX10 hown hK hT 0 rfl rfl 0 (by decide) w249 (fun _ h9 => h9) rfl dX10_addUpForm_1 ?_
  refine tcI (Tc := [(h1, ob 4 [.int h1f0, .int h1f1, .int h1f2, .ref h14])]) (Tr := [(h0, ob 7 [.ref h1, .ref h2, .int h0f2, .ref h3, .ref h4, .ref h5, .int h0f6, .ref h6, .int h0f8, .ref h7, .ref h8, .int h0f11, .ref h9, .ref h10, .ref h11, .ref h12, .ref h13]), (h5, ob 3 [.ref h22, .ref h23, .ref h24, .ref h25, .ref h26, .ref h27, .ref h28, .ref h29, .int h5f8, .int h5f9, .int h5f10, .int h5f11]), (h12, aJ (k 1) 9 anJ), (h13, aJ (k 1) 9 anJ), (h22, aJ (k 1) 900 anJ)]) (as := [h1]) (zcV (q0 := 1) (ci := 4) (As := []) (rest := []) (Tc := [(h1, ob 4 [.int h1f0, .int h1f1, .int h1f2, .ref h14])]) hx hb hml hown hU hK hT rfl rfl [1] rfl (by decide) (cX5_cellCount_642c9 l D k _ h1 h14 h1f0 h1f1 h1f2 (by omega) (by omega)) w385 w382 w383 w384 w64 hdX5_cellCount ⟨rfl, rfl⟩ ⟨Nat.le_of_ble_eq_true rfl, Nat.le_of_ble_eq_true rfl⟩ rfl hl.1 (Nat.le_of_ble_eq_true rfl) dX10_addUpForm_4 ⟨Nat.le_of_ble_eq_true rfl, Nat.le_of_ble_eq_true rfl⟩) hT hS hA [1] [0, 2, 3, 4, 5] rfl rfl rfl (by decide) (by decide) (fun r1 H locs hB J hS => ?_)
  obtain ⟨b_r1, hT1⟩ := hB
  have hT := J _ hT1
  have hT : TP D A [(h0, ob 7 [.ref h1, .ref h2, .int h0f2, .ref h3, .ref h4, .ref h5, .int h0f6, .ref h6, .int h0f8, .ref h7, .ref h8, .int h0f11, .ref h9, .ref h10, .ref h11, .ref h12, .ref h13]), (h5, ob 3 [.ref h22, .ref h23, .ref h24, .ref h25, .ref h26, .ref h27, .ref h28, .ref h29, .int h5f8, .int h5f9, .int h5f10, .int h5f11]), (h12, aJ (k 1) 9 anJ), (h13, aJ (k 1) 9 anJ), (h22, aJ (k 1) 900 anJ), (h1, ob 4 [.int h1f0, .int h1f1, .int h1f2, .ref h14])] _ := hT
  refine lv_istore_n (lv' := [(1, .int r1), (0, .ref h0)]) hx hb dX10_addUpForm_7 rfl hl (by decide) rfl (fun ls hl => ?_)
  refine lv_aload_n hx hb dX10_addUpForm_8 rfl (lv_at hl 1 rfl) ?_
  refine tz_get (ci := 7) (v := .ref h12) (C := RX10) (F := TX10) (N := 17) hx hb hU iX10 hown hK hT 0 rfl rfl 15 (by decide) w264 (fun _ h9 => h9) rfl dX10_addUpForm_9 ?_
  refine lv_lconst (v := 0) hx hb dX10_addUpForm_12 (by decide) ?_
  have q_q3 := ll_0
  refine tcV (Tc := [(h12, aJ (k 1) 9 anJ)]) (Tr := [(h0, ob 7 [.ref h1, .ref h2, .int h0f2, .ref h3, .ref h4, .ref h5, .int h0f6, .ref h6, .int h0f8, .ref h7, .ref h8, .int h0f11, .ref h9, .ref h10, .ref h11, .ref h12, .ref h13]), (h5, ob 3 [.ref h22, .ref h23, .ref h24, .ref h25, .ref h26, .ref h27, .ref h28, .ref h29, .int h5f8, .int h5f9, .int h5f10, .int h5f11]), (h13, aJ (k 1) 9 anJ), (h22, aJ (k 1) 900 anJ), (h1, ob 4 [.int h1f0, .int h1f1, .int h1f2, .ref h14])]) (as := [h12]) (zcS (As := [.ref h12, .long 0]) (rest := []) (Tc := [(h12, aJ (k 1) 9 anJ)]) hx hb hml hown hU hK hT [2] rfl (by decide) (cJ7_fill_d0a16_660e4 l D k _ h12 (0) (by have := ll_0; omega)) w336 w617 w335 w73 hdJ7_fill_d0a16 ⟨rfl, rfl⟩ ⟨Nat.le_of_ble_eq_true rfl, Nat.le_of_ble_eq_true rfl⟩ rfl hl.1 (Nat.le_of_ble_eq_true rfl) dX10_addUpForm_13 ⟨Nat.le_of_ble_eq_true rfl, Nat.le_of_ble_eq_true rfl⟩) hT hS hA [2] [0, 1, 3, 4, 5] rfl rfl rfl (by decide) (by decide) (fun H locs hB J hS => ?_)
  have hT1 := hB
  have hT := J _ hT1
  have hT : TP D A [(h0, ob 7 [.ref h1, .ref h2, .int h0f2, .ref h3, .ref h4, .ref h5, .int h0f6, .ref h6, .int h0f8, .ref h7, .ref h8, .int h0f11, .ref h9, .ref h10, .ref h11, .ref h12, .ref h13]), (h5, ob 3 [.ref h22, .ref h23, .ref h24, .ref h25, .ref h26, .ref h27, .ref h28, .ref h29, .int h5f8, .int h5f9, .int h5f10, .int h5f11]), (h13, aJ (k 1) 9 anJ), (h22, aJ (k 1) 900 anJ), (h1, ob 4 [.int h1f0, .int h1f1, .int h1f2, .ref h14]), (h12, aJ (k 1) 9 anJ)] _ := hT
  refine lv_iconst (v := 0) hx hb dX10_addUpForm_16 (by decide) ?_
  refine lv_istore_n (lv' := [(2, .int 0), (1, .int r1), (0, .ref h0)]) hx hb dX10_addUpForm_17 rfl hl (by decide) rfl (fun ls hl => ?_)
  have lp18_17 : ∀ (n : Nat) (y16 : Int32) (H : Heap) (locs : List Loc) (ls : Array Slot), (0 ≤ y16.toInt ∧ y16.toInt ≤ 100) → (h5f10.toInt + (-1) * y16.toInt + 1).toNat < n → TP D A [(h0, ob 7 [.ref h1, .ref h2, .int h0f2, .ref h3, .ref h4, .ref h5, .int h0f6, .ref h6, .int h0f8, .ref h7, .ref h8, .int h0f11, .ref h9, .ref h10, .ref h11, .ref h12, .ref h13]), (h5, ob 3 [.ref h22, .ref h23, .ref h24, .ref h25, .ref h26, .ref h27, .ref h28, .ref h29, .int h5f8, .int h5f9, .int h5f10, .int h5f11]), (h13, aJ (k 1) 9 anJ), (h22, aJ (k 1) 900 anJ), (h1, ob 4 [.int h1f0, .int h1f1, .int h1f2, .ref h14]), (h12, aJ (k 1) 9 anJ)] H → va_S A s.heap H locs → lv_has ls 6 [(0, .ref h0), (1, .int r1), (2, .int y16)] → W p l e Rm_cX10_addUpForm_bdb42 s m args below meth c H locs 0 0 Q (F0 m 18 ls []) := by
    intro n
    induction n with
    | zero => intro y16 H locs ls b_y16 hm hT hS hl; exact absurd hm (Nat.not_lt_zero _)
    | succ n ih =>
      intro y16 H locs ls b_y16 hm hT hS hl
      have ih18_17 := ih
      clear ih
      refine lv_iload_n hx hb dX10_addUpForm_18 rfl (lv_at hl 2 rfl) ?_
      refine lv_aload_n hx hb dX10_addUpForm_19 rfl (lv_at hl 0 rfl) ?_
      refine tz_get (ci := 7) (v := .ref h5) (C := RX10) (F := TX10) (N := 17) hx hb hU iX10 hown hK hT 0 rfl rfl 5 (by decide) w254 (fun _ h9 => h9) rfl dX10_addUpForm_20 ?_
      refine tz_get (ci := 3) (v := .int h5f10) (C := RX4) (F := TX4) (N := 12) hx hb hU iX4 hown hK hT 1 rfl rfl 10 (by decide) w166 (fun _ h9 => h9) rfl dX10_addUpForm_23 ?_
      refine lv_icmp_ge (tgt := 141) hx hb dX10_addUpForm_26 (by decide) (fun c_18 => ?_) (fun c_18 => ?_)
      · skip
        have c_18 := ni_le c_18 rfl rfl
        refine lv_iconst (v := 1) hx hb dX10_addUpForm_141 (by decide) ?_
        exact tz_retZ (B := B_cX10_addUpForm_bdb42 D k h0 h1 h5 h12 h13 h22 h2 h3 h4 h6 h7 h8 h9 h10 h11 h14 h23 h24 h25 h26 h27 h28 h29 h0f2 h0f6 h0f8 h0f11 h1f0 h1f1 h1f2 h5f8 h5f9 h5f10 h5f11) (v := 1) hQ hx hb hr hlocks hS (Nat.le_of_ble_eq_true rfl) (Nat.le_of_ble_eq_true rfl) dX10_addUpForm_142 (by have := li_1; omega) (⟨(by have := li_1; omega), (hT.sub [0, 4, 1, 5, 2, 3] (by decide) rfl)⟩)
      · skip
        have c_18 := ni_nle c_18 rfl rfl
        refine lv_aload_n hx hb dX10_addUpForm_29 rfl (lv_at hl 0 rfl) ?_
        refine tz_get (ci := 7) (v := .ref h5) (C := RX10) (F := TX10) (N := 17) hx hb hU iX10 hown hK hT 0 rfl rfl 5 (by decide) w254 (fun _ h9 => h9) rfl dX10_addUpForm_30 ?_
        refine tz_get (ci := 3) (v := .ref h22) (C := RX4) (F := TX4) (N := 12) hx hb hU iX4 hown hK hT 1 rfl rfl 0 (by decide) w150 (fun _ h9 => h9) rfl dX10_addUpForm_33 ?_
        refine lv_aload_n hx hb dX10_addUpForm_36 rfl (lv_at hl 0 rfl) ?_
        refine tz_get (ci := 7) (v := .ref h5) (C := RX10) (F := TX10) (N := 17) hx hb hU iX10 hown hK hT 0 rfl rfl 5 (by decide) w254 (fun _ h9 => h9) rfl dX10_addUpForm_37 ?_
        refine lv_iload_n hx hb dX10_addUpForm_40 rfl (lv_at hl 2 rfl) ?_
        refine tcI (Tc := [(h5, ob 3 [.ref h22, .ref h23, .ref h24, .ref h25, .ref h26, .ref h27, .ref h28, .ref h29, .int h5f8, .int h5f9, .int h5f10, .int h5f11])]) (Tr := [(h0, ob 7 [.ref h1, .ref h2, .int h0f2, .ref h3, .ref h4, .ref h5, .int h0f6, .ref h6, .int h0f8, .ref h7, .ref h8, .int h0f11, .ref h9, .ref h10, .ref h11, .ref h12, .ref h13]), (h13, aJ (k 1) 9 anJ), (h22, aJ (k 1) 900 anJ), (h1, ob 4 [.int h1f0, .int h1f1, .int h1f2, .ref h14]), (h12, aJ (k 1) 9 anJ)]) (as := [h5]) (zcV (q0 := 1) (ci := 3) (As := [.int y16]) (rest := [.ref h22]) (Tc := [(h5, ob 3 [.ref h22, .ref h23, .ref h24, .ref h25, .ref h26, .ref h27, .ref h28, .ref h29, .int h5f8, .int h5f9, .int h5f10, .int h5f11])]) hx hb hml hown hU hK hT rfl rfl [1] rfl (by decide) (cX4_start_d01b0 l D k _ h5 h22 h23 h24 h25 h26 h27 h28 h29 y16 h5f8 h5f9 h5f10 h5f11 (by omega) (by omega) (by omega) (by omega) (by omega)) w505 w574 w503 w504 w66 hdX4_start ⟨rfl, rfl⟩ ⟨Nat.le_of_ble_eq_true rfl, Nat.le_of_ble_eq_true rfl⟩ rfl hl.1 (Nat.le_of_ble_eq_true rfl) dX10_addUpForm_41 ⟨Nat.le_of_ble_eq_true rfl, Nat.le_of_ble_eq_true rfl⟩) hT hS hA [1] [0, 2, 3, 4, 5] rfl rfl rfl (by decide) (by decide) (fun r19 H locs hB J hS => ?_)
        obtain ⟨b_r19, hT1⟩ := hB
        have hT := J _ hT1
        have hT : TP D A [(h0, ob 7 [.ref h1, .ref h2, .int h0f2, .ref h3, .ref h4, .ref h5, .int h0f6, .ref h6, .int h0f8, .ref h7, .ref h8, .int h0f11, .ref h9, .ref h10, .ref h11, .ref h12, .ref h13]), (h13, aJ (k 1) 9 anJ), (h22, aJ (k 1) 900 anJ), (h1, ob 4 [.int h1f0, .int h1f1, .int h1f2, .ref h14]), (h12, aJ (k 1) 9 anJ), (h5, ob 3 [.ref h22, .ref h23, .ref h24, .ref h25, .ref h26, .ref h27, .ref h28, .ref h29, .int h5f8, .int h5f9, .int h5f10, .int h5f11])] _ := hT
        refine lv_aload_n hx hb dX10_addUpForm_44 rfl (lv_at hl 0 rfl) ?_
        refine tz_get (ci := 7) (v := .ref h5) (C := RX10) (F := TX10) (N := 17) hx hb hU iX10 hown hK hT 0 rfl rfl 5 (by decide) w254 (fun _ h9 => h9) rfl dX10_addUpForm_45 ?_
        refine tz_get (ci := 3) (v := .ref h22) (C := RX4) (F := TX4) (N := 12) hx hb hU iX4 hown hK hT 5 rfl rfl 0 (by decide) w150 (fun _ h9 => h9) rfl dX10_addUpForm_48 ?_
        refine lv_aload_n hx hb dX10_addUpForm_51 rfl (lv_at hl 0 rfl) ?_
        refine tz_get (ci := 7) (v := .ref h5) (C := RX10) (F := TX10) (N := 17) hx hb hU iX10 hown hK hT 0 rfl rfl 5 (by decide) w254 (fun _ h9 => h9) rfl dX10_addUpForm_52 ?_
        refine lv_iload_n hx hb dX10_addUpForm_55 rfl (lv_at hl 2 rfl) ?_
        refine tcI (Tc := [(h5, ob 3 [.ref h22, .ref h23, .ref h24, .ref h25, .ref h26, .ref h27, .ref h28, .ref h29, .int h5f8, .int h5f9, .int h5f10, .int h5f11])]) (Tr := [(h0, ob 7 [.ref h1, .ref h2, .int h0f2, .ref h3, .ref h4, .ref h5, .int h0f6, .ref h6, .int h0f8, .ref h7, .ref h8, .int h0f11, .ref h9, .ref h10, .ref h11, .ref h12, .ref h13]), (h13, aJ (k 1) 9 anJ), (h22, aJ (k 1) 900 anJ), (h1, ob 4 [.int h1f0, .int h1f1, .int h1f2, .ref h14]), (h12, aJ (k 1) 9 anJ)]) (as := [h5]) (zcV (q0 := 5) (ci := 3) (As := [.int y16]) (rest := [.ref h22, .int r19, .ref h22]) (Tc := [(h5, ob 3 [.ref h22, .ref h23, .ref h24, .ref h25, .ref h26, .ref h27, .ref h28, .ref h29, .int h5f8, .int h5f9, .int h5f10, .int h5f11])]) hx hb hml hown hU hK hT rfl rfl [5] rfl (by decide) (cX4_start_d01b0 l D k _ h5 h22 h23 h24 h25 h26 h27 h28 h29 y16 h5f8 h5f9 h5f10 h5f11 (by omega) (by omega) (by omega) (by omega) (by omega)) w505 w574 w503 w504 w66 hdX4_start ⟨rfl, rfl⟩ ⟨Nat.le_of_ble_eq_true rfl, Nat.le_of_ble_eq_true rfl⟩ rfl hl.1 (Nat.le_of_ble_eq_true rfl) dX10_addUpForm_56 ⟨Nat.le_of_ble_eq_true rfl, Nat.le_of_ble_eq_true rfl⟩) hT hS hA [5] [0, 1, 2, 3, 4] rfl rfl rfl (by decide) (by decide) (fun r20 H locs hB J hS => ?_)
        obtain ⟨b_r20, hT1⟩ := hB
        have hT := J _ hT1
        have hT : TP D A [(h0, ob 7 [.ref h1, .ref h2, .int h0f2, .ref h3, .ref h4, .ref h5, .int h0f6, .ref h6, .int h0f8, .ref h7, .ref h8, .int h0f11, .ref h9, .ref h10, .ref h11, .ref h12, .ref h13]), (h13, aJ (k 1) 9 anJ), (h22, aJ (k 1) 900 anJ), (h1, ob 4 [.int h1f0, .int h1f1, .int h1f2, .ref h14]), (h12, aJ (k 1) 9 anJ), (h5, ob 3 [.ref h22, .ref h23, .ref h24, .ref h25, .ref h26, .ref h27, .ref h28, .ref h29, .int h5f8, .int h5f9, .int h5f10, .int h5f11])] _ := hT
        refine lv_aload_n hx hb dX10_addUpForm_59 rfl (lv_at hl 0 rfl) ?_
        refine tz_get (ci := 7) (v := .ref h13) (C := RX10) (F := TX10) (N := 17) hx hb hU iX10 hown hK hT 0 rfl rfl 16 (by decide) w265 (fun _ h9 => h9) rfl dX10_addUpForm_60 ?_
        refine lv_aload_n hx hb dX10_addUpForm_63 rfl (lv_at hl 0 rfl) ?_
        refine tz_get (ci := 7) (v := .ref h1) (C := RX10) (F := TX10) (N := 17) hx hb hU iX10 hown hK hT 0 rfl rfl 0 (by decide) w249 (fun _ h9 => h9) rfl dX10_addUpForm_64 ?_
        refine tz_get (ci := 4) (v := .int h1f0) (C := RX5) (F := TX5) (N := 4) hx hb hU iX5 hown hK hT 3 rfl rfl 0 (by decide) w93 (fun _ h9 => h9) rfl dX10_addUpForm_67 ?_
        refine tcV (Tc := [(h22, aJ (k 1) 900 anJ), (h13, aJ (k 1) 9 anJ)]) (Tr := [(h0, ob 7 [.ref h1, .ref h2, .int h0f2, .ref h3, .ref h4, .ref h5, .int h0f6, .ref h6, .int h0f8, .ref h7, .ref h8, .int h0f11, .ref h9, .ref h10, .ref h11, .ref h12, .ref h13]), (h1, ob 4 [.int h1f0, .int h1f1, .int h1f2, .ref h14]), (h12, aJ (k 1) 9 anJ), (h5, ob 3 [.ref h22, .ref h23, .ref h24, .ref h25, .ref h26, .ref h27, .ref h28, .ref h29, .int h5f8, .int h5f9, .int h5f10, .int h5f11])]) (as := [h22, h13]) (zcS (As := [.ref h22, .int r19, .ref h22, .int r20, .ref h13, .int h1f0]) (rest := []) (Tc := [(h22, aJ (k 1) 900 anJ), (h13, aJ (k 1) 9 anJ)]) hx hb hml hown hU hK hT [2, 1] rfl (by decide) (cX7_multiplyTurned_0e5b8 l D k _ h22 h13 r19 r20 h1f0 (by omega) (by omega) (by omega)) w620 w618 w619 w74 hdX7_multiplyTurned ⟨rfl, rfl⟩ ⟨Nat.le_of_ble_eq_true rfl, Nat.le_of_ble_eq_true rfl⟩ rfl hl.1 (Nat.le_of_ble_eq_true rfl) dX10_addUpForm_70 ⟨Nat.le_of_ble_eq_true rfl, Nat.le_of_ble_eq_true rfl⟩) hT hS hA [2, 1] [0, 3, 4, 5] rfl rfl rfl (by decide) (by decide) (fun H locs hB J hS => ?_)
        have hT1 := hB
        have hT := J _ hT1
        have hT : TP D A [(h0, ob 7 [.ref h1, .ref h2, .int h0f2, .ref h3, .ref h4, .ref h5, .int h0f6, .ref h6, .int h0f8, .ref h7, .ref h8, .int h0f11, .ref h9, .ref h10, .ref h11, .ref h12, .ref h13]), (h1, ob 4 [.int h1f0, .int h1f1, .int h1f2, .ref h14]), (h12, aJ (k 1) 9 anJ), (h5, ob 3 [.ref h22, .ref h23, .ref h24, .ref h25, .ref h26, .ref h27, .ref h28, .ref h29, .int h5f8, .int h5f9, .int h5f10, .int h5f11]), (h22, aJ (k 1) 900 anJ), (h13, aJ (k 1) 9 anJ)] _ := hT
        refine lv_iconst (v := 0) hx hb dX10_addUpForm_73 (by decide) ?_
        refine lv_istore_n (lv' := [(3, .int 0), (0, .ref h0), (1, .int r1), (2, .int y16)]) hx hb dX10_addUpForm_74 rfl hl (by decide) rfl (fun ls hl => ?_)
        have lp75_29 : ∀ (n : Nat) (y28 : Int32) (H : Heap) (locs : List Loc) (ls : Array Slot), (0 ≤ y28.toInt ∧ y28.toInt ≤ 9) → (r1.toInt + (-1) * y28.toInt + 1).toNat < n → TP D A [(h0, ob 7 [.ref h1, .ref h2, .int h0f2, .ref h3, .ref h4, .ref h5, .int h0f6, .ref h6, .int h0f8, .ref h7, .ref h8, .int h0f11, .ref h9, .ref h10, .ref h11, .ref h12, .ref h13]), (h1, ob 4 [.int h1f0, .int h1f1, .int h1f2, .ref h14]), (h12, aJ (k 1) 9 anJ), (h5, ob 3 [.ref h22, .ref h23, .ref h24, .ref h25, .ref h26, .ref h27, .ref h28, .ref h29, .int h5f8, .int h5f9, .int h5f10, .int h5f11]), (h22, aJ (k 1) 900 anJ), (h13, aJ (k 1) 9 anJ)] H → va_S A s.heap H locs → lv_has ls 6 [(0, .ref h0), (1, .int r1), (2, .int y16), (3, .int y28)] → W p l e Rm_cX10_addUpForm_bdb42 s m args below meth c H locs 0 0 Q (F0 m 75 ls []) := by
          intro n
          induction n with
          | zero => intro y28 H locs ls b_y28 hm hT hS hl; exact absurd hm (Nat.not_lt_zero _)
          | succ n ih =>
            intro y28 H locs ls b_y28 hm hT hS hl
            have ih75_29 := ih
            clear ih
            refine lv_iload_n hx hb dX10_addUpForm_75 rfl (lv_at hl 3 rfl) ?_
            refine lv_iload_n hx hb dX10_addUpForm_76 rfl (lv_at hl 1 rfl) ?_
            refine lv_icmp_ge (tgt := 135) hx hb dX10_addUpForm_77 (by decide) (fun c_30 => ?_) (fun c_30 => ?_)
            · skip
              have c_30 := ni_le c_30 rfl rfl
              obtain ⟨v31, e_v31⟩ : ∃ x : Int32, x = y16 + Int32.ofInt 1 := ⟨_, rfl⟩
              have f_v31 := e_v31.symm
              have e_v31 : v31.toInt = y16.toInt + 1 := ai_add e_v31 rfl (show (Int32.ofInt 1).toInt = 1 from (by decide +kernel)) (by omega)
              refine lv_iinc (v := v31) (lv' := [(2, .int v31), (0, .ref h0), (1, .int r1), (3, .int y28)]) hx hb dX10_addUpForm_135 hl (k := 2) rfl f_v31 (by decide) rfl (fun ls hl => ?_)
              refine lv_goto (tgt := 18) hx hb dX10_addUpForm_138 (by decide) ?_
              exact ih18_17 v31 _ _ _ (by omega)  (by omega) (hT.sub [0, 3, 5, 4, 1, 2] (by decide) rfl) hS (lv_sub hl [1, 2, 0] rfl)
            · skip
              have c_30 := ni_nle c_30 rfl rfl
              refine lv_aload_n hx hb dX10_addUpForm_80 rfl (lv_at hl 0 rfl) ?_
              refine tz_get (ci := 7) (v := .ref h12) (C := RX10) (F := TX10) (N := 17) hx hb hU iX10 hown hK hT 0 rfl rfl 15 (by decide) w264 (fun _ h9 => h9) rfl dX10_addUpForm_81 ?_
              refine lv_iload_n hx hb dX10_addUpForm_84 rfl (lv_at hl 3 rfl) ?_
              refine tz_lald hx hb hK hT 2 rfl (by omega) dX10_addUpForm_85 (fun v32 e_v32 => ?_)
              clear e_v32
              refine lv_aload_n hx hb dX10_addUpForm_86 rfl (lv_at hl 0 rfl) ?_
              refine tz_get (ci := 7) (v := .ref h13) (C := RX10) (F := TX10) (N := 17) hx hb hU iX10 hown hK hT 0 rfl rfl 16 (by decide) w265 (fun _ h9 => h9) rfl dX10_addUpForm_87 ?_
              refine lv_iload_n hx hb dX10_addUpForm_90 rfl (lv_at hl 3 rfl) ?_
              refine tz_lald hx hb hK hT 5 rfl (by omega) dX10_addUpForm_91 (fun v33 e_v33 => ?_)
              clear e_v33
              refine lv_ladd hx hb dX10_addUpForm_92 (lv_topl (fun v34 e_v34 => ?_))
              refine lv_lstore (lv' := [(4, .long v34), (0, .ref h0), (1, .int r1), (2, .int y16), (3, .int y28)]) hx hb dX10_addUpForm_93 hl (by decide) rfl (fun ls hl => ?_)
              refine lv_aload_n hx hb dX10_addUpForm_95 rfl (lv_at hl 1 rfl) ?_
              refine tz_get (ci := 7) (v := .ref h12) (C := RX10) (F := TX10) (N := 17) hx hb hU iX10 hown hK hT 0 rfl rfl 15 (by decide) w264 (fun _ h9 => h9) rfl dX10_addUpForm_96 ?_
              refine lv_iload_n hx hb dX10_addUpForm_99 rfl (lv_at hl 4 rfl) ?_
              refine tz_lald hx hb hK hT 2 rfl (by omega) dX10_addUpForm_100 (fun v35 e_v35 => ?_)
              clear e_v35
              refine lv_lload hx hb dX10_addUpForm_101 (lv_at hl 0 rfl) ?_
              refine lv_lxor hx hb dX10_addUpForm_103 (lv_topl (fun v36 e_v36 => ?_))
              refine lv_aload_n hx hb dX10_addUpForm_104 rfl (lv_at hl 1 rfl) ?_
              refine tz_get (ci := 7) (v := .ref h13) (C := RX10) (F := TX10) (N := 17) hx hb hU iX10 hown hK hT 0 rfl rfl 16 (by decide) w265 (fun _ h9 => h9) rfl dX10_addUpForm_105 ?_
              refine lv_iload_n hx hb dX10_addUpForm_108 rfl (lv_at hl 4 rfl) ?_
              refine tz_lald hx hb hK hT 5 rfl (by omega) dX10_addUpForm_109 (fun v37 e_v37 => ?_)
              clear e_v37
              refine lv_lload hx hb dX10_addUpForm_110 (lv_at hl 0 rfl) ?_
              refine lv_lxor hx hb dX10_addUpForm_112 (lv_topl (fun v38 e_v38 => ?_))
              refine lv_land hx hb dX10_addUpForm_113 (lv_topl (fun v39 e_v39 => ?_))
              refine lv_lconst (v := 0) hx hb dX10_addUpForm_114 (by decide) ?_
              refine W.lcmp hx hb dX10_addUpForm_115 ?_
              refine lv_if_ge (tgt := 121) hx hb dX10_addUpForm_116 (by decide) (fun c_40 => ?_) (fun c_40 => ?_)
              · skip
                have c_40 := nl_ge c_40 rfl ll_0
                refine lv_aload_n hx hb dX10_addUpForm_121 rfl (lv_at hl 1 rfl) ?_
                refine tz_get (ci := 7) (v := .ref h12) (C := RX10) (F := TX10) (N := 17) hx hb hU iX10 hown hK hT 0 rfl rfl 15 (by decide) w264 (fun _ h9 => h9) rfl dX10_addUpForm_122 ?_
                refine lv_iload_n hx hb dX10_addUpForm_125 rfl (lv_at hl 4 rfl) ?_
                refine lv_lload hx hb dX10_addUpForm_126 (lv_at hl 0 rfl) ?_
                refine tz_last hx hb hK hT hS 2 rfl (by omega) (fun _ _ => trivial) dX10_addUpForm_128 (fun H locs hT hS => ?_)
                obtain ⟨v41, e_v41⟩ : ∃ x : Int32, x = y28 + Int32.ofInt 1 := ⟨_, rfl⟩
                have f_v41 := e_v41.symm
                have e_v41 : v41.toInt = y28.toInt + 1 := ai_add e_v41 rfl (show (Int32.ofInt 1).toInt = 1 from (by decide +kernel)) (by omega)
                refine lv_iinc (v := v41) (lv' := [(3, .int v41), (4, .long v34), (0, .ref h0), (1, .int r1), (2, .int y16)]) hx hb dX10_addUpForm_129 hl (k := 4) rfl f_v41 (by decide) rfl (fun ls hl => ?_)
                refine lv_goto (tgt := 75) hx hb dX10_addUpForm_132 (by decide) ?_
                exact ih75_29 v41 _ _ _ (by omega)  (by omega) hT hS (lv_sub hl [2, 3, 4, 0] rfl)
              · skip
                have c_40 := nl_nge c_40 rfl ll_0
                refine lv_iconst (v := 0) hx hb dX10_addUpForm_119 (by decide) ?_
                exact tz_retZ (B := B_cX10_addUpForm_bdb42 D k h0 h1 h5 h12 h13 h22 h2 h3 h4 h6 h7 h8 h9 h10 h11 h14 h23 h24 h25 h26 h27 h28 h29 h0f2 h0f6 h0f8 h0f11 h1f0 h1f1 h1f2 h5f8 h5f9 h5f10 h5f11) (v := 0) hQ hx hb hr hlocks hS (Nat.le_of_ble_eq_true rfl) (Nat.le_of_ble_eq_true rfl) dX10_addUpForm_120 (by have := li_0; omega) (⟨(by have := li_0; omega), (hT.sub [0, 1, 3, 2, 5, 4] (by decide) rfl)⟩)
        exact lp75_29 ((r1.toInt + (-1) * (0 : Int32).toInt + 1).toNat + 1) (0) _ _ _ (by have := li_0; omega)  (Nat.lt_succ_self _) hT hS (lv_sub hl [1, 2, 3, 0] rfl)
  exact lp18_17 ((h5f10.toInt + (-1) * (0 : Int32).toInt + 1).toNat + 1) (0) _ _ _ (by have := li_0; omega)  (Nat.lt_succ_self _) hT hS (lv_sub hl [2, 1, 0] rfl)
abbrev Rm_cX10_form_13164 : Room := { frames := 6, cells := 0, slots := 0, locals := 149 }
abbrev B_cX10_form_13164 (D : va_G) (k : Nat → ClassId) (h0 h1 h5 h9 h12 h13 h14 h22 h23 h24 h25 h26 h27 h28 h29 h2 h3 h4 h6 h7 h8 h10 h11 : Nat) (x1 : Int32) (x2 : Int32) (h0f2 : Int32) (h0f6 : Int32) (h0f8 : Int32) (h0f11 : Int32) (h1f0 : Int32) (h1f1 : Int32) (h1f2 : Int32) (h5f8 : Int32) (h5f9 : Int32) (h5f10 : Int32) (h5f11 : Int32) (h9f1 : Int32) (A : Nat → Prop) (r : Int64) (H : Heap) : Prop := ∃ o0 : Int32, ∃ o1 : Int32, ∃ o2 : Int32, ∃ o3 : Int32, ∃ o4 : Int32, ∃ o5 : Int32, (0 ≤ o0.toInt ∧ o0.toInt ≤ 1) ∧ (0 ≤ o1.toInt ∧ o1.toInt ≤ 9) ∧ (0 ≤ o2.toInt ∧ o2.toInt ≤ 100) ∧ (0 ≤ o3.toInt ∧ o3.toInt ≤ 100) ∧ (0 ≤ o4.toInt ∧ o4.toInt ≤ 1) ∧ (0 ≤ o5.toInt ∧ o5.toInt ≤ 7) ∧ TP D A [(h0, ob 7 [.ref h1, .ref h2, .int h0f2, .ref h3, .ref h4, .ref h5, .int o0, .ref h6, .int h0f8, .ref h7, .ref h8, .int h0f11, .ref h9, .ref h10, .ref h11, .ref h12, .ref h13]), (h1, ob 4 [.int h1f0, .int h1f1, .int h1f2, .ref h14]), (h5, ob 3 [.ref h22, .ref h23, .ref h24, .ref h25, .ref h26, .ref h27, .ref h28, .ref h29, .int o1, .int o2, .int o3, .int o4]), (h9, ob 2 [.ref h1, .int o5]), (h12, aJ (k 1) 9 anJ), (h13, aJ (k 1) 9 anJ), (h14, aJ (k 1) 36 anJ), (h22, aJ (k 1) 900 anJ), (h23, aI (k 0) 100 anI), (h24, aI (k 0) 100 anI), (h25, aI (k 0) 100 anI), (h26, aI (k 0) 400 anI), (h27, aI (k 0) 256 (rgI (-1) 99)), (h28, aI (k 0) 100 (rgI (-1) 99)), (h29, aJ (k 1) 60 anJ)] H
set_option maxHeartbeats 4000000 in
set_option maxRecDepth 100000 in
theorem cX10_form_13164 (l : Launch) (D : va_G) (k : Nat → ClassId) (sz : Nat) (h0 h1 h5 h9 h12 h13 h14 h22 h23 h24 h25 h26 h27 h28 h29 h2 h3 h4 h6 h7 h8 h10 h11 : Nat) (x1 : Int32) (x2 : Int32) (h0f2 : Int32) (h0f6 : Int32) (h0f8 : Int32) (h0f11 : Int32) (h1f0 : Int32) (h1f1 : Int32) (h1f2 : Int32) (h5f8 : Int32) (h5f9 : Int32) (h5f10 : Int32) (h5f11 : Int32) (h9f1 : Int32) (b_h0f2 : 0 ≤ h0f2.toInt ∧ h0f2.toInt ≤ 1) (b_h0f6 : 0 ≤ h0f6.toInt ∧ h0f6.toInt ≤ 1) (b_h0f8 : 0 ≤ h0f8.toInt ∧ h0f8.toInt ≤ 1) (b_h0f11 : 0 ≤ h0f11.toInt ∧ h0f11.toInt ≤ 200) (b_h1f0 : 1 ≤ h1f0.toInt ∧ h1f0.toInt ≤ 3) (b_h1f1 : 0 ≤ h1f1.toInt ∧ h1f1.toInt ≤ 4) (b_h5f8 : 0 ≤ h5f8.toInt ∧ h5f8.toInt ≤ 9) (b_h5f9 : 0 ≤ h5f9.toInt ∧ h5f9.toInt ≤ 100) (b_h5f10 : 0 ≤ h5f10.toInt ∧ h5f10.toInt ≤ 100) (b_h5f11 : 0 ≤ h5f11.toInt ∧ h5f11.toInt ≤ 1) (b_h9f1 : 0 ≤ h9f1.toInt ∧ h9f1.toInt ≤ 7) : Met l yX10_form (Cond.code yX10_form cX10_form 5 (some .long) :: uw) Rm_cX10_form_13164 (pT D k sz [.ref h0, .int x1, .int x2] [(h0, ob 7 [.ref h1, .ref h2, .int h0f2, .ref h3, .ref h4, .ref h5, .int h0f6, .ref h6, .int h0f8, .ref h7, .ref h8, .int h0f11, .ref h9, .ref h10, .ref h11, .ref h12, .ref h13]), (h1, ob 4 [.int h1f0, .int h1f1, .int h1f2, .ref h14]), (h5, ob 3 [.ref h22, .ref h23, .ref h24, .ref h25, .ref h26, .ref h27, .ref h28, .ref h29, .int h5f8, .int h5f9, .int h5f10, .int h5f11]), (h9, ob 2 [.ref h1, .int h9f1]), (h12, aJ (k 1) 9 anJ), (h13, aJ (k 1) 9 anJ), (h14, aJ (k 1) 36 anJ), (h22, aJ (k 1) 900 anJ), (h23, aI (k 0) 100 anI), (h24, aI (k 0) 100 anI), (h25, aI (k 0) 100 anI), (h26, aI (k 0) 400 anI), (h27, aI (k 0) 256 (rgI (-1) 99)), (h28, aI (k 0) 100 (rgI (-1) 99)), (h29, aJ (k 1) 60 anJ)]) (qL (B_cX10_form_13164 D k h0 h1 h5 h9 h12 h13 h14 h22 h23 h24 h25 h26 h27 h28 h29 h2 h3 h4 h6 h7 h8 h10 h11 x1 x2 h0f2 h0f6 h0f8 h0f11 h1f0 h1f1 h1f2 h5f8 h5f9 h5f10 h5f11 h9f1 (zA [h0, h1, h5, h9, h12, h13, h14, h22, h23, h24, h25, h26, h27, h28, h29] sz)) (zA [h0, h1, h5, h9, h12, h13, h14, h22, h23, h24, h25, h26, h27, h28, h29] sz)) 0 0 (zA [h0, h1, h5, h9, h12, h13, h14, h22, h23, h24, h25, h26, h27, h28, h29] sz) := by
  refine tz_begin (as := [h0, h1, h5, h9, h12, h13, h14, h22, h23, h24, h25, h26, h27, h28, h29]) (Qc := fun A => qL (B_cX10_form_13164 D k h0 h1 h5 h9 h12 h13 h14 h22 h23 h24 h25 h26 h27 h28 h29 h2 h3 h4 h6 h7 h8 h10 h11 x1 x2 h0f2 h0f6 h0f8 h0f11 h1f0 h1f1 h1f2 h5f8 h5f9 h5f10 h5f11 h9f1 A) A) (by decide +kernel) rfl (Nat.le_of_ble_eq_true rfl) ?_
  intro p e s m args below meth c ls A Q hx hb hr hml hown hlocks hin hU hK hT hS hA hl hQ
  have hl : lv_has ls 5 [(0, .ref h0), (1, .int x1), (2, .int x2)] := hl
  have hT : TP D A [(h0, ob 7 [.ref h1, .ref h2, .int h0f2, .ref h3, .ref h4, .ref h5, .int h0f6, .ref h6, .int h0f8, .ref h7, .ref h8, .int h0f11, .ref h9, .ref h10, .ref h11, .ref h12, .ref h13]), (h1, ob 4 [.int h1f0, .int h1f1, .int h1f2, .ref h14]), (h5, ob 3 [.ref h22, .ref h23, .ref h24, .ref h25, .ref h26, .ref h27, .ref h28, .ref h29, .int h5f8, .int h5f9, .int h5f10, .int h5f11]), (h9, ob 2 [.ref h1, .int h9f1]), (h12, aJ (k 1) 9 anJ), (h13, aJ (k 1) 9 anJ), (h14, aJ (k 1) 36 anJ), (h22, aJ (k 1) 900 anJ), (h23, aI (k 0) 100 anI), (h24, aI (k 0) 100 anI), (h25, aI (k 0) 100 anI), (h26, aI (k 0) 400 anI), (h27, aI (k 0) 256 (rgI (-1) 99)), (h28, aI (k 0) 100 (rgI (-1) 99)), (h29, aJ (k 1) 60 anJ)] s.heap := hT
  refine lv_aload_n hx hb dX10_form_0 rfl (lv_at hl 0 rfl) ?_
  refine tz_get (ci := 7) (v := .ref h1) (C := RX10) (F := TX10) (N := 17) hx hb hU iX10 hown hK hT 0 rfl rfl 0 (by decide) w249 (fun _ h9 => h9) rfl dX10_form_1 ?_
  refine lv_iload_n hx hb dX10_form_4 rfl (lv_at hl 1 rfl) ?_
  refine lv_iload_n hx hb dX10_form_5 rfl (lv_at hl 2 rfl) ?_
  refine tcI (Tc := [(h1, ob 4 [.int h1f0, .int h1f1, .int h1f2, .ref h14])]) (Tr := [(h0, ob 7 [.ref h1, .ref h2, .int h0f2, .ref h3, .ref h4, .ref h5, .int h0f6, .ref h6, .int h0f8, .ref h7, .ref h8, .int h0f11, .ref h9, .ref h10, .ref h11, .ref h12, .ref h13]), (h5, ob 3 [.ref h22, .ref h23, .ref h24, .ref h25, .ref h26, .ref h27, .ref h28, .ref h29, .int h5f8, .int h5f9, .int h5f10, .int h5f11]), (h9, ob 2 [.ref h1, .int h9f1]), (h12, aJ (k 1) 9 anJ), (h13, aJ (k 1) 9 anJ), (h14, aJ (k 1) 36 anJ), (h22, aJ (k 1) 900 anJ), (h23, aI (k 0) 100 anI), (h24, aI (k 0) 100 anI), (h25, aI (k 0) 100 anI), (h26, aI (k 0) 400 anI), (h27, aI (k 0) 256 (rgI (-1) 99)), (h28, aI (k 0) 100 (rgI (-1) 99)), (h29, aJ (k 1) 60 anJ)]) (as := [h1]) (zcV (q0 := 1) (ci := 4) (As := [.int x1, .int x2]) (rest := []) (Tc := [(h1, ob 4 [.int h1f0, .int h1f1, .int h1f2, .ref h14])]) hx hb hml hown hU hK hT rfl rfl [1] rfl (by decide) (cX5_isPlace_ce953 l D k _ h1 h14 x1 x2 h1f0 h1f1 h1f2 (by omega) (by omega)) w319 w316 w317 w318 w64 hdX5_isPlace ⟨rfl, rfl⟩ ⟨Nat.le_of_ble_eq_true rfl, Nat.le_of_ble_eq_true rfl⟩ rfl hl.1 (Nat.le_of_ble_eq_true rfl) dX10_form_6 ⟨Nat.le_of_ble_eq_true rfl, Nat.le_of_ble_eq_true rfl⟩) hT hS hA [1] [0, 2, 3, 4, 5, 6, 7, 8, 9, 10, 11, 12, 13, 14] rfl rfl rfl (by decide) (by decide) (fun r1 H locs hB J hS => ?_)
  rcases hB with ⟨rfl, hT1⟩ | ⟨c_2, c_3, c_4, c_5, rfl, hT1⟩
  · skip
    have hT := J _ hT1
    have hT : TP D A [(h0, ob 7 [.ref h1, .ref h2, .int h0f2, .ref h3, .ref h4, .ref h5, .int h0f6, .ref h6, .int h0f8, .ref h7, .ref h8, .int h0f11, .ref h9, .ref h10, .ref h11, .ref h12, .ref h13]), (h5, ob 3 [.ref h22, .ref h23, .ref h24, .ref h25, .ref h26, .ref h27, .ref h28, .ref h29, .int h5f8, .int h5f9, .int h5f10, .int h5f11]), (h9, ob 2 [.ref h1, .int h9f1]), (h12, aJ (k 1) 9 anJ), (h13, aJ (k 1) 9 anJ), (h14, aJ (k 1) 36 anJ), (h22, aJ (k 1) 900 anJ), (h23, aI (k 0) 100 anI), (h24, aI (k 0) 100 anI), (h25, aI (k 0) 100 anI), (h26, aI (k 0) 400 anI), (h27, aI (k 0) 256 (rgI (-1) 99)), (h28, aI (k 0) 100 (rgI (-1) 99)), (h29, aJ (k 1) 60 anJ), (h1, ob 4 [.int h1f0, .int h1f1, .int h1f2, .ref h14])] _ := hT
    refine lv_if_ne (tgt := 17) hx hb dX10_form_9 (by decide) (fun cc => absurd (by decide +kernel) cc) (fun _ => ?_)
    refine lv_iconst (v := (-1)) hx hb dX10_form_12 (by decide) ?_
    have q_q7 := li_m1
    refine tcL (Tc := []) (Tr := [(h0, ob 7 [.ref h1, .ref h2, .int h0f2, .ref h3, .ref h4, .ref h5, .int h0f6, .ref h6, .int h0f8, .ref h7, .ref h8, .int h0f11, .ref h9, .ref h10, .ref h11, .ref h12, .ref h13]), (h5, ob 3 [.ref h22, .ref h23, .ref h24, .ref h25, .ref h26, .ref h27, .ref h28, .ref h29, .int h5f8, .int h5f9, .int h5f10, .int h5f11]), (h9, ob 2 [.ref h1, .int h9f1]), (h12, aJ (k 1) 9 anJ), (h13, aJ (k 1) 9 anJ), (h14, aJ (k 1) 36 anJ), (h22, aJ (k 1) 900 anJ), (h23, aI (k 0) 100 anI), (h24, aI (k 0) 100 anI), (h25, aI (k 0) 100 anI), (h26, aI (k 0) 400 anI), (h27, aI (k 0) 256 (rgI (-1) 99)), (h28, aI (k 0) 100 (rgI (-1) 99)), (h29, aJ (k 1) 60 anJ), (h1, ob 4 [.int h1f0, .int h1f1, .int h1f2, .ref h14])]) (as := []) (zcS (As := [.int (-1)]) (rest := []) (Tc := []) hx hb hml hown hU hK hT [] rfl (by decide) (cX10_asLong_5cc16 l D k _ ((-1)) (by have := li_m1; omega)) w572 w570 w571 w63 hdX10_asLong ⟨rfl, rfl⟩ ⟨Nat.le_of_ble_eq_true rfl, Nat.le_of_ble_eq_true rfl⟩ rfl hl.1 (Nat.le_of_ble_eq_true rfl) dX10_form_13 ⟨Nat.le_of_ble_eq_true rfl, Nat.le_of_ble_eq_true rfl⟩) hT hS hA [] [0, 1, 2, 3, 4, 5, 6, 7, 8, 9, 10, 11, 12, 13, 14] rfl rfl rfl (by decide) (by decide) (fun r6 H locs hB J hS => ?_)
    obtain ⟨b_r6, hT1⟩ := hB
    have hT := J _ hT1
    have hT : TP D A [(h0, ob 7 [.ref h1, .ref h2, .int h0f2, .ref h3, .ref h4, .ref h5, .int h0f6, .ref h6, .int h0f8, .ref h7, .ref h8, .int h0f11, .ref h9, .ref h10, .ref h11, .ref h12, .ref h13]), (h5, ob 3 [.ref h22, .ref h23, .ref h24, .ref h25, .ref h26, .ref h27, .ref h28, .ref h29, .int h5f8, .int h5f9, .int h5f10, .int h5f11]), (h9, ob 2 [.ref h1, .int h9f1]), (h12, aJ (k 1) 9 anJ), (h13, aJ (k 1) 9 anJ), (h14, aJ (k 1) 36 anJ), (h22, aJ (k 1) 900 anJ), (h23, aI (k 0) 100 anI), (h24, aI (k 0) 100 anI), (h25, aI (k 0) 100 anI), (h26, aI (k 0) 400 anI), (h27, aI (k 0) 256 (rgI (-1) 99)), (h28, aI (k 0) 100 (rgI (-1) 99)), (h29, aJ (k 1) 60 anJ), (h1, ob 4 [.int h1f0, .int h1f1, .int h1f2, .ref h14])] _ := hT
    exact tz_retL (B := B_cX10_form_13164 D k h0 h1 h5 h9 h12 h13 h14 h22 h23 h24 h25 h26 h27 h28 h29 h2 h3 h4 h6 h7 h8 h10 h11 x1 x2 h0f2 h0f6 h0f8 h0f11 h1f0 h1f1 h1f2 h5f8 h5f9 h5f10 h5f11 h9f1) (v := r6) hQ hx hb hr hlocks hS (Nat.le_of_ble_eq_true rfl) (Nat.le_of_ble_eq_true rfl) dX10_form_16 (⟨h0f6, h5f8, h5f9, h5f10, h5f11, h9f1, (by omega), (by omega), (by omega), (by omega), (by omega), (by omega), (hT.sub [0, 14, 1, 2, 3, 4, 5, 6, 7, 8, 9, 10, 11, 12, 13] (by decide) rfl)⟩)
  · skip
    have hT := J _ hT1
    have hT : TP D A [(h0, ob 7 [.ref h1, .ref h2, .int h0f2, .ref h3, .ref h4, .ref h5, .int h0f6, .ref h6, .int h0f8, .ref h7, .ref h8, .int h0f11, .ref h9, .ref h10, .ref h11, .ref h12, .ref h13]), (h5, ob 3 [.ref h22, .ref h23, .ref h24, .ref h25, .ref h26, .ref h27, .ref h28, .ref h29, .int h5f8, .int h5f9, .int h5f10, .int h5f11]), (h9, ob 2 [.ref h1, .int h9f1]), (h12, aJ (k 1) 9 anJ), (h13, aJ (k 1) 9 anJ), (h14, aJ (k 1) 36 anJ), (h22, aJ (k 1) 900 anJ), (h23, aI (k 0) 100 anI), (h24, aI (k 0) 100 anI), (h25, aI (k 0) 100 anI), (h26, aI (k 0) 400 anI), (h27, aI (k 0) 256 (rgI (-1) 99)), (h28, aI (k 0) 100 (rgI (-1) 99)), (h29, aJ (k 1) 60 anJ), (h1, ob 4 [.int h1f0, .int h1f1, .int h1f2, .ref h14])] _ := hT
    refine lv_if_ne (tgt := 17) hx hb dX10_form_9 (by decide) (fun _ => ?_) (fun cc => absurd cc (by decide +kernel))
    refine lv_aload_n hx hb dX10_form_17 rfl (lv_at hl 0 rfl) ?_
    refine tcV (Tc := [(h0, ob 7 [.ref h1, .ref h2, .int h0f2, .ref h3, .ref h4, .ref h5, .int h0f6, .ref h6, .int h0f8, .ref h7, .ref h8, .int h0f11, .ref h9, .ref h10, .ref h11, .ref h12, .ref h13]), (h1, ob 4 [.int h1f0, .int h1f1, .int h1f2, .ref h14]), (h5, ob 3 [.ref h22, .ref h23, .ref h24, .ref h25, .ref h26, .ref h27, .ref h28, .ref h29, .int h5f8, .int h5f9, .int h5f10, .int h5f11]), (h9, ob 2 [.ref h1, .int h9f1]), (h12, aJ (k 1) 9 anJ), (h14, aJ (k 1) 36 anJ), (h22, aJ (k 1) 900 anJ), (h23, aI (k 0) 100 anI), (h24, aI (k 0) 100 anI), (h25, aI (k 0) 100 anI), (h26, aI (k 0) 400 anI), (h27, aI (k 0) 256 (rgI (-1) 99)), (h28, aI (k 0) 100 (rgI (-1) 99)), (h29, aJ (k 1) 60 anJ)]) (Tr := [(h13, aJ (k 1) 9 anJ)]) (as := [h0, h1, h5, h9, h12, h14, h22, h23, h24, h25, h26, h27, h28, h29]) (zcV (q0 := 0) (ci := 7) (As := []) (rest := []) (Tc := [(h0, ob 7 [.ref h1, .ref h2, .int h0f2, .ref h3, .ref h4, .ref h5, .int h0f6, .ref h6, .int h0f8, .ref h7, .ref h8, .int h0f11, .ref h9, .ref h10, .ref h11, .ref h12, .ref h13]), (h1, ob 4 [.int h1f0, .int h1f1, .int h1f2, .ref h14]), (h5, ob 3 [.ref h22, .ref h23, .ref h24, .ref h25, .ref h26, .ref h27, .ref h28, .ref h29, .int h5f8, .int h5f9, .int h5f10, .int h5f11]), (h9, ob 2 [.ref h1, .int h9f1]), (h12, aJ (k 1) 9 anJ), (h14, aJ (k 1) 36 anJ), (h22, aJ (k 1) 900 anJ), (h23, aI (k 0) 100 anI), (h24, aI (k 0) 100 anI), (h25, aI (k 0) 100 anI), (h26, aI (k 0) 400 anI), (h27, aI (k 0) 256 (rgI (-1) 99)), (h28, aI (k 0) 100 (rgI (-1) 99)), (h29, aJ (k 1) 60 anJ)]) hx hb hml hown hU hK hT rfl rfl [0, 14, 1, 2, 3, 5, 6, 7, 8, 9, 10, 11, 12, 13] rfl (by decide) (cX10_listAll_d24ec l D k _ h0 h1 h5 h9 h12 h14 h22 h23 h24 h25 h26 h27 h28 h29 h2 h3 h4 h6 h7 h8 h10 h11 h13 h0f2 h0f6 h0f8 h0f11 h1f0 h1f1 h1f2 h5f8 h5f9 h5f10 h5f11 h9f1 (by omega) (by omega) (by omega) (by omega) (by omega) (by omega) (by omega) (by omega) (by omega) (by omega) (by omega)) w492 w489 w491 w10 w63 hdX10_listAll ⟨rfl, rfl⟩ ⟨Nat.le_of_ble_eq_true rfl, Nat.le_of_ble_eq_true rfl⟩ rfl hl.1 (Nat.le_of_ble_eq_true rfl) dX10_form_18 ⟨Nat.le_of_ble_eq_true rfl, Nat.le_of_ble_eq_true rfl⟩) hT hS hA [0, 14, 1, 2, 3, 5, 6, 7, 8, 9, 10, 11, 12, 13] [4] rfl rfl rfl (by decide) (by decide) (fun H locs hB J hS => ?_)
    obtain ⟨v9, v10, v11, v12, v13, v14, b_v9, b_v10, b_v11, b_v12, b_v13, b_v14, hT1⟩ := hB
    have hT := J _ hT1
    have hT : TP D A [(h13, aJ (k 1) 9 anJ), (h0, ob 7 [.ref h1, .ref h2, .int h0f2, .ref h3, .ref h4, .ref h5, .int v9, .ref h6, .int h0f8, .ref h7, .ref h8, .int h0f11, .ref h9, .ref h10, .ref h11, .ref h12, .ref h13]), (h1, ob 4 [.int h1f0, .int h1f1, .int h1f2, .ref h14]), (h5, ob 3 [.ref h22, .ref h23, .ref h24, .ref h25, .ref h26, .ref h27, .ref h28, .ref h29, .int v10, .int v11, .int v12, .int v13]), (h9, ob 2 [.ref h1, .int v14]), (h12, aJ (k 1) 9 anJ), (h14, aJ (k 1) 36 anJ), (h22, aJ (k 1) 900 anJ), (h23, aI (k 0) 100 anI), (h24, aI (k 0) 100 anI), (h25, aI (k 0) 100 anI), (h26, aI (k 0) 400 anI), (h27, aI (k 0) 256 (rgI (-1) 99)), (h28, aI (k 0) 100 (rgI (-1) 99)), (h29, aJ (k 1) 60 anJ)] _ := hT
    refine lv_aload_n hx hb dX10_form_21 rfl (lv_at hl 0 rfl) ?_
    refine tz_get (ci := 7) (v := .ref h5) (C := RX10) (F := TX10) (N := 17) hx hb hU iX10 hown hK hT 1 rfl rfl 5 (by decide) w254 (fun _ h9 => h9) rfl dX10_form_22 ?_
    refine tz_get (ci := 3) (v := .int v13) (C := RX4) (F := TX4) (N := 12) hx hb hU iX4 hown hK hT 3 rfl rfl 11 (by decide) w168 (fun _ h9 => h9) rfl dX10_form_25 ?_
    refine lv_if_ne (tgt := 37) hx hb dX10_form_28 (by decide) (fun c_15 => ?_) (fun c_15 => ?_)
    · skip
      have c_15 := ni_ne c_15 rfl li_0
      refine lv_aload_n hx hb dX10_form_37 rfl (lv_at hl 0 rfl) ?_
      refine tcI (Tc := [(h0, ob 7 [.ref h1, .ref h2, .int h0f2, .ref h3, .ref h4, .ref h5, .int v9, .ref h6, .int h0f8, .ref h7, .ref h8, .int h0f11, .ref h9, .ref h10, .ref h11, .ref h12, .ref h13]), (h1, ob 4 [.int h1f0, .int h1f1, .int h1f2, .ref h14]), (h5, ob 3 [.ref h22, .ref h23, .ref h24, .ref h25, .ref h26, .ref h27, .ref h28, .ref h29, .int v10, .int v11, .int v12, .int v13]), (h12, aJ (k 1) 9 anJ), (h13, aJ (k 1) 9 anJ), (h22, aJ (k 1) 900 anJ)]) (Tr := [(h9, ob 2 [.ref h1, .int v14]), (h14, aJ (k 1) 36 anJ), (h23, aI (k 0) 100 anI), (h24, aI (k 0) 100 anI), (h25, aI (k 0) 100 anI), (h26, aI (k 0) 400 anI), (h27, aI (k 0) 256 (rgI (-1) 99)), (h28, aI (k 0) 100 (rgI (-1) 99)), (h29, aJ (k 1) 60 anJ)]) (as := [h0, h1, h5, h12, h13, h22]) (zcV (q0 := 1) (ci := 7) (As := []) (rest := []) (Tc := [(h0, ob 7 [.ref h1, .ref h2, .int h0f2, .ref h3, .ref h4, .ref h5, .int v9, .ref h6, .int h0f8, .ref h7, .ref h8, .int h0f11, .ref h9, .ref h10, .ref h11, .ref h12, .ref h13]), (h1, ob 4 [.int h1f0, .int h1f1, .int h1f2, .ref h14]), (h5, ob 3 [.ref h22, .ref h23, .ref h24, .ref h25, .ref h26, .ref h27, .ref h28, .ref h29, .int v10, .int v11, .int v12, .int v13]), (h12, aJ (k 1) 9 anJ), (h13, aJ (k 1) 9 anJ), (h22, aJ (k 1) 900 anJ)]) hx hb hml hown hU hK hT rfl rfl [1, 2, 3, 5, 0, 7] rfl (by decide) (cX10_addUpForm_bdb42 l D k _ h0 h1 h5 h12 h13 h22 h2 h3 h4 h6 h7 h8 h9 h10 h11 h14 h23 h24 h25 h26 h27 h28 h29 h0f2 v9 h0f8 h0f11 h1f0 h1f1 h1f2 v10 v11 v12 v13 (by omega) (by omega) (by omega) (by omega) (by omega) (by omega) (by omega) (by omega) (by omega) (by omega)) w616 w613 w615 w17 w63 hdX10_addUpForm ⟨rfl, rfl⟩ ⟨Nat.le_of_ble_eq_true rfl, Nat.le_of_ble_eq_true rfl⟩ rfl hl.1 (Nat.le_of_ble_eq_true rfl) dX10_form_38 ⟨Nat.le_of_ble_eq_true rfl, Nat.le_of_ble_eq_true rfl⟩) hT hS hA [1, 2, 3, 5, 0, 7] [4, 6, 8, 9, 10, 11, 12, 13, 14] rfl rfl rfl (by decide) (by decide) (fun r16 H locs hB J hS => ?_)
      obtain ⟨b_r16, hT1⟩ := hB
      have hT := J _ hT1
      have hT : TP D A [(h9, ob 2 [.ref h1, .int v14]), (h14, aJ (k 1) 36 anJ), (h23, aI (k 0) 100 anI), (h24, aI (k 0) 100 anI), (h25, aI (k 0) 100 anI), (h26, aI (k 0) 400 anI), (h27, aI (k 0) 256 (rgI (-1) 99)), (h28, aI (k 0) 100 (rgI (-1) 99)), (h29, aJ (k 1) 60 anJ), (h0, ob 7 [.ref h1, .ref h2, .int h0f2, .ref h3, .ref h4, .ref h5, .int v9, .ref h6, .int h0f8, .ref h7, .ref h8, .int h0f11, .ref h9, .ref h10, .ref h11, .ref h12, .ref h13]), (h1, ob 4 [.int h1f0, .int h1f1, .int h1f2, .ref h14]), (h5, ob 3 [.ref h22, .ref h23, .ref h24, .ref h25, .ref h26, .ref h27, .ref h28, .ref h29, .int v10, .int v11, .int v12, .int v13]), (h12, aJ (k 1) 9 anJ), (h13, aJ (k 1) 9 anJ), (h22, aJ (k 1) 900 anJ)] _ := hT
      refine lv_if_ne (tgt := 50) hx hb dX10_form_41 (by decide) (fun c_17 => ?_) (fun c_17 => ?_)
      · skip
        have c_17 := ni_ne c_17 rfl li_0
        refine lv_aload_n hx hb dX10_form_50 rfl (lv_at hl 0 rfl) ?_
        refine tz_get (ci := 7) (v := .ref h12) (C := RX10) (F := TX10) (N := 17) hx hb hU iX10 hown hK hT 9 rfl rfl 15 (by decide) w264 (fun _ h9 => h9) rfl dX10_form_51 ?_
        refine lv_aload_n hx hb dX10_form_54 rfl (lv_at hl 0 rfl) ?_
        refine tz_get (ci := 7) (v := .ref h1) (C := RX10) (F := TX10) (N := 17) hx hb hU iX10 hown hK hT 9 rfl rfl 0 (by decide) w249 (fun _ h9 => h9) rfl dX10_form_55 ?_
        refine tcI (Tc := [(h1, ob 4 [.int h1f0, .int h1f1, .int h1f2, .ref h14])]) (Tr := [(h9, ob 2 [.ref h1, .int v14]), (h14, aJ (k 1) 36 anJ), (h23, aI (k 0) 100 anI), (h24, aI (k 0) 100 anI), (h25, aI (k 0) 100 anI), (h26, aI (k 0) 400 anI), (h27, aI (k 0) 256 (rgI (-1) 99)), (h28, aI (k 0) 100 (rgI (-1) 99)), (h29, aJ (k 1) 60 anJ), (h0, ob 7 [.ref h1, .ref h2, .int h0f2, .ref h3, .ref h4, .ref h5, .int v9, .ref h6, .int h0f8, .ref h7, .ref h8, .int h0f11, .ref h9, .ref h10, .ref h11, .ref h12, .ref h13]), (h5, ob 3 [.ref h22, .ref h23, .ref h24, .ref h25, .ref h26, .ref h27, .ref h28, .ref h29, .int v10, .int v11, .int v12, .int v13]), (h12, aJ (k 1) 9 anJ), (h13, aJ (k 1) 9 anJ), (h22, aJ (k 1) 900 anJ)]) (as := [h1]) (zcV (q0 := 10) (ci := 4) (As := []) (rest := [.ref h12]) (Tc := [(h1, ob 4 [.int h1f0, .int h1f1, .int h1f2, .ref h14])]) hx hb hml hown hU hK hT rfl rfl [10] rfl (by decide) (cX5_cellCount_642c9 l D k _ h1 h14 h1f0 h1f1 h1f2 (by omega) (by omega)) w385 w382 w383 w384 w64 hdX5_cellCount ⟨rfl, rfl⟩ ⟨Nat.le_of_ble_eq_true rfl, Nat.le_of_ble_eq_true rfl⟩ rfl hl.1 (Nat.le_of_ble_eq_true rfl) dX10_form_58 ⟨Nat.le_of_ble_eq_true rfl, Nat.le_of_ble_eq_true rfl⟩) hT hS hA [10] [0, 1, 2, 3, 4, 5, 6, 7, 8, 9, 11, 12, 13, 14] rfl rfl rfl (by decide) (by decide) (fun r18 H locs hB J hS => ?_)
        obtain ⟨b_r18, hT1⟩ := hB
        have hT := J _ hT1
        have hT : TP D A [(h9, ob 2 [.ref h1, .int v14]), (h14, aJ (k 1) 36 anJ), (h23, aI (k 0) 100 anI), (h24, aI (k 0) 100 anI), (h25, aI (k 0) 100 anI), (h26, aI (k 0) 400 anI), (h27, aI (k 0) 256 (rgI (-1) 99)), (h28, aI (k 0) 100 (rgI (-1) 99)), (h29, aJ (k 1) 60 anJ), (h0, ob 7 [.ref h1, .ref h2, .int h0f2, .ref h3, .ref h4, .ref h5, .int v9, .ref h6, .int h0f8, .ref h7, .ref h8, .int h0f11, .ref h9, .ref h10, .ref h11, .ref h12, .ref h13]), (h5, ob 3 [.ref h22, .ref h23, .ref h24, .ref h25, .ref h26, .ref h27, .ref h28, .ref h29, .int v10, .int v11, .int v12, .int v13]), (h12, aJ (k 1) 9 anJ), (h13, aJ (k 1) 9 anJ), (h22, aJ (k 1) 900 anJ), (h1, ob 4 [.int h1f0, .int h1f1, .int h1f2, .ref h14])] _ := hT
        refine tcL (Tc := [(h12, aJ (k 1) 9 anJ)]) (Tr := [(h9, ob 2 [.ref h1, .int v14]), (h14, aJ (k 1) 36 anJ), (h23, aI (k 0) 100 anI), (h24, aI (k 0) 100 anI), (h25, aI (k 0) 100 anI), (h26, aI (k 0) 400 anI), (h27, aI (k 0) 256 (rgI (-1) 99)), (h28, aI (k 0) 100 (rgI (-1) 99)), (h29, aJ (k 1) 60 anJ), (h0, ob 7 [.ref h1, .ref h2, .int h0f2, .ref h3, .ref h4, .ref h5, .int v9, .ref h6, .int h0f8, .ref h7, .ref h8, .int h0f11, .ref h9, .ref h10, .ref h11, .ref h12, .ref h13]), (h5, ob 3 [.ref h22, .ref h23, .ref h24, .ref h25, .ref h26, .ref h27, .ref h28, .ref h29, .int v10, .int v11, .int v12, .int v13]), (h13, aJ (k 1) 9 anJ), (h22, aJ (k 1) 900 anJ), (h1, ob 4 [.int h1f0, .int h1f1, .int h1f2, .ref h14])]) (as := [h12]) (zcS (As := [.ref h12, .int r18]) (rest := []) (Tc := [(h12, aJ (k 1) 9 anJ)]) hx hb hml hown hU hK hT [11] rfl (by decide) (cX7_commonDivisor_2e0d5 l D k _ h12 r18 (by omega)) w623 w621 w622 w74 hdX7_commonDivisor ⟨rfl, rfl⟩ ⟨Nat.le_of_ble_eq_true rfl, Nat.le_of_ble_eq_true rfl⟩ rfl hl.1 (Nat.le_of_ble_eq_true rfl) dX10_form_61 ⟨Nat.le_of_ble_eq_true rfl, Nat.le_of_ble_eq_true rfl⟩) hT hS hA [11] [0, 1, 2, 3, 4, 5, 6, 7, 8, 9, 10, 12, 13, 14] rfl rfl rfl (by decide) (by decide) (fun r19 H locs hB J hS => ?_)
        have hT1 := hB
        have hT := J _ hT1
        have hT : TP D A [(h9, ob 2 [.ref h1, .int v14]), (h14, aJ (k 1) 36 anJ), (h23, aI (k 0) 100 anI), (h24, aI (k 0) 100 anI), (h25, aI (k 0) 100 anI), (h26, aI (k 0) 400 anI), (h27, aI (k 0) 256 (rgI (-1) 99)), (h28, aI (k 0) 100 (rgI (-1) 99)), (h29, aJ (k 1) 60 anJ), (h0, ob 7 [.ref h1, .ref h2, .int h0f2, .ref h3, .ref h4, .ref h5, .int v9, .ref h6, .int h0f8, .ref h7, .ref h8, .int h0f11, .ref h9, .ref h10, .ref h11, .ref h12, .ref h13]), (h5, ob 3 [.ref h22, .ref h23, .ref h24, .ref h25, .ref h26, .ref h27, .ref h28, .ref h29, .int v10, .int v11, .int v12, .int v13]), (h13, aJ (k 1) 9 anJ), (h22, aJ (k 1) 900 anJ), (h1, ob 4 [.int h1f0, .int h1f1, .int h1f2, .ref h14]), (h12, aJ (k 1) 9 anJ)] _ := hT
        refine lv_lstore_n (lv' := [(3, .long r19), (0, .ref h0), (1, .int x1), (2, .int x2)]) hx hb dX10_form_64 rfl hl (by decide) rfl (fun ls hl => ?_)
        refine lv_aload_n hx hb dX10_form_65 rfl (lv_at hl 1 rfl) ?_
        refine tz_get (ci := 7) (v := .ref h12) (C := RX10) (F := TX10) (N := 17) hx hb hU iX10 hown hK hT 9 rfl rfl 15 (by decide) w264 (fun _ h9 => h9) rfl dX10_form_66 ?_
        refine lv_iload_n hx hb dX10_form_69 rfl (lv_at hl 2 rfl) ?_
        refine lv_aload_n hx hb dX10_form_70 rfl (lv_at hl 1 rfl) ?_
        refine tz_get (ci := 7) (v := .ref h1) (C := RX10) (F := TX10) (N := 17) hx hb hU iX10 hown hK hT 9 rfl rfl 0 (by decide) w249 (fun _ h9 => h9) rfl dX10_form_71 ?_
        refine tz_get (ci := 4) (v := .int h1f0) (C := RX5) (F := TX5) (N := 4) hx hb hU iX5 hown hK hT 13 rfl rfl 0 (by decide) w93 (fun _ h9 => h9) rfl dX10_form_74 ?_
        refine lv_imul hx hb dX10_form_77 (lv_topi (fun v20 e_v20 => ?_))
        have e_v20 := ai_mm (la := 0) (ua := 2) (lb := 1) (ub := 3) e_v20 rfl rfl (by omega) (by decide)
        refine lv_iload_n hx hb dX10_form_78 rfl (lv_at hl 3 rfl) ?_
        refine lv_iadd hx hb dX10_form_79 (lv_topi (fun v21 e_v21 => ?_))
        have e_v21 := ai_add e_v21 rfl rfl (by omega)
        refine tz_lald hx hb hK hT 14 rfl (by omega) dX10_form_80 (fun v22 e_v22 => ?_)
        clear e_v22
        refine lv_lconst (v := 1) hx hb dX10_form_81 (by decide) ?_
        refine lv_lload_n hx hb dX10_form_82 rfl (lv_at hl 0 rfl) ?_
        have q_q24 := ll_1
        refine tcL (Tc := []) (Tr := [(h9, ob 2 [.ref h1, .int v14]), (h14, aJ (k 1) 36 anJ), (h23, aI (k 0) 100 anI), (h24, aI (k 0) 100 anI), (h25, aI (k 0) 100 anI), (h26, aI (k 0) 400 anI), (h27, aI (k 0) 256 (rgI (-1) 99)), (h28, aI (k 0) 100 (rgI (-1) 99)), (h29, aJ (k 1) 60 anJ), (h0, ob 7 [.ref h1, .ref h2, .int h0f2, .ref h3, .ref h4, .ref h5, .int v9, .ref h6, .int h0f8, .ref h7, .ref h8, .int h0f11, .ref h9, .ref h10, .ref h11, .ref h12, .ref h13]), (h5, ob 3 [.ref h22, .ref h23, .ref h24, .ref h25, .ref h26, .ref h27, .ref h28, .ref h29, .int v10, .int v11, .int v12, .int v13]), (h13, aJ (k 1) 9 anJ), (h22, aJ (k 1) 900 anJ), (h1, ob 4 [.int h1f0, .int h1f1, .int h1f2, .ref h14]), (h12, aJ (k 1) 9 anJ)]) (as := []) (zcS (As := [.long 1, .long r19]) (rest := [.long v22]) (Tc := []) hx hb hml hown hU hK hT [] rfl (by decide) (cJ9_max_f86c9_eaa09 l D k _ (1) r19 (by have := ll_1; omega)) w629 w627 w628 w77 hdJ9_max_f86c9 ⟨rfl, rfl⟩ ⟨Nat.le_of_ble_eq_true rfl, Nat.le_of_ble_eq_true rfl⟩ rfl hl.1 (Nat.le_of_ble_eq_true rfl) dX10_form_83 ⟨Nat.le_of_ble_eq_true rfl, Nat.le_of_ble_eq_true rfl⟩) hT hS hA [] [0, 1, 2, 3, 4, 5, 6, 7, 8, 9, 10, 11, 12, 13, 14] rfl rfl rfl (by decide) (by decide) (fun r23 H locs hB J hS => ?_)
        rcases hB with ⟨c_25, rfl, hT1⟩ | ⟨c_26, rfl, hT1⟩
        · skip
          have hT := J _ hT1
          have hT : TP D A [(h9, ob 2 [.ref h1, .int v14]), (h14, aJ (k 1) 36 anJ), (h23, aI (k 0) 100 anI), (h24, aI (k 0) 100 anI), (h25, aI (k 0) 100 anI), (h26, aI (k 0) 400 anI), (h27, aI (k 0) 256 (rgI (-1) 99)), (h28, aI (k 0) 100 (rgI (-1) 99)), (h29, aJ (k 1) 60 anJ), (h0, ob 7 [.ref h1, .ref h2, .int h0f2, .ref h3, .ref h4, .ref h5, .int v9, .ref h6, .int h0f8, .ref h7, .ref h8, .int h0f11, .ref h9, .ref h10, .ref h11, .ref h12, .ref h13]), (h5, ob 3 [.ref h22, .ref h23, .ref h24, .ref h25, .ref h26, .ref h27, .ref h28, .ref h29, .int v10, .int v11, .int v12, .int v13]), (h13, aJ (k 1) 9 anJ), (h22, aJ (k 1) 900 anJ), (h1, ob 4 [.int h1f0, .int h1f1, .int h1f2, .ref h14]), (h12, aJ (k 1) 9 anJ)] _ := hT
          refine lv_ldiv hx hb dX10_form_86 (nz64 (y := r19.toInt) rfl (by omega)) (lv_topl (fun v27 e_v27 => ?_))
          exact tz_retL (B := B_cX10_form_13164 D k h0 h1 h5 h9 h12 h13 h14 h22 h23 h24 h25 h26 h27 h28 h29 h2 h3 h4 h6 h7 h8 h10 h11 x1 x2 h0f2 h0f6 h0f8 h0f11 h1f0 h1f1 h1f2 h5f8 h5f9 h5f10 h5f11 h9f1) (v := v27) hQ hx hb hr hlocks hS (Nat.le_of_ble_eq_true rfl) (Nat.le_of_ble_eq_true rfl) dX10_form_87 (⟨v9, v10, v11, v12, v13, v14, (by omega), (by omega), (by omega), (by omega), (by omega), (by omega), (hT.sub [9, 13, 10, 0, 14, 11, 1, 12, 2, 3, 4, 5, 6, 7, 8] (by decide) rfl)⟩)
        · skip
          have hT := J _ hT1
          have hT : TP D A [(h9, ob 2 [.ref h1, .int v14]), (h14, aJ (k 1) 36 anJ), (h23, aI (k 0) 100 anI), (h24, aI (k 0) 100 anI), (h25, aI (k 0) 100 anI), (h26, aI (k 0) 400 anI), (h27, aI (k 0) 256 (rgI (-1) 99)), (h28, aI (k 0) 100 (rgI (-1) 99)), (h29, aJ (k 1) 60 anJ), (h0, ob 7 [.ref h1, .ref h2, .int h0f2, .ref h3, .ref h4, .ref h5, .int v9, .ref h6, .int h0f8, .ref h7, .ref h8, .int h0f11, .ref h9, .ref h10, .ref h11, .ref h12, .ref h13]), (h5, ob 3 [.ref h22, .ref h23, .ref h24, .ref h25, .ref h26, .ref h27, .ref h28, .ref h29, .int v10, .int v11, .int v12, .int v13]), (h13, aJ (k 1) 9 anJ), (h22, aJ (k 1) 900 anJ), (h1, ob 4 [.int h1f0, .int h1f1, .int h1f2, .ref h14]), (h12, aJ (k 1) 9 anJ)] _ := hT
          refine lv_ldiv hx hb dX10_form_86 (by decide +kernel) (lv_topl (fun v28 e_v28 => ?_))
          exact tz_retL (B := B_cX10_form_13164 D k h0 h1 h5 h9 h12 h13 h14 h22 h23 h24 h25 h26 h27 h28 h29 h2 h3 h4 h6 h7 h8 h10 h11 x1 x2 h0f2 h0f6 h0f8 h0f11 h1f0 h1f1 h1f2 h5f8 h5f9 h5f10 h5f11 h9f1) (v := v28) hQ hx hb hr hlocks hS (Nat.le_of_ble_eq_true rfl) (Nat.le_of_ble_eq_true rfl) dX10_form_87 (⟨v9, v10, v11, v12, v13, v14, (by omega), (by omega), (by omega), (by omega), (by omega), (by omega), (hT.sub [9, 13, 10, 0, 14, 11, 1, 12, 2, 3, 4, 5, 6, 7, 8] (by decide) rfl)⟩)
      · skip
        have c_17 := ni_eq c_17 rfl li_0
        refine lv_bipush (v := (-16)) hx hb dX10_form_44 (by decide) ?_
        have q_q30 := li_m16
        refine tcL (Tc := []) (Tr := [(h9, ob 2 [.ref h1, .int v14]), (h14, aJ (k 1) 36 anJ), (h23, aI (k 0) 100 anI), (h24, aI (k 0) 100 anI), (h25, aI (k 0) 100 anI), (h26, aI (k 0) 400 anI), (h27, aI (k 0) 256 (rgI (-1) 99)), (h28, aI (k 0) 100 (rgI (-1) 99)), (h29, aJ (k 1) 60 anJ), (h0, ob 7 [.ref h1, .ref h2, .int h0f2, .ref h3, .ref h4, .ref h5, .int v9, .ref h6, .int h0f8, .ref h7, .ref h8, .int h0f11, .ref h9, .ref h10, .ref h11, .ref h12, .ref h13]), (h1, ob 4 [.int h1f0, .int h1f1, .int h1f2, .ref h14]), (h5, ob 3 [.ref h22, .ref h23, .ref h24, .ref h25, .ref h26, .ref h27, .ref h28, .ref h29, .int v10, .int v11, .int v12, .int v13]), (h12, aJ (k 1) 9 anJ), (h13, aJ (k 1) 9 anJ), (h22, aJ (k 1) 900 anJ)]) (as := []) (zcS (As := [.int (-16)]) (rest := []) (Tc := []) hx hb hml hown hU hK hT [] rfl (by decide) (cX10_asLong_5cc16 l D k _ ((-16)) (by have := li_m16; omega)) w572 w570 w571 w63 hdX10_asLong ⟨rfl, rfl⟩ ⟨Nat.le_of_ble_eq_true rfl, Nat.le_of_ble_eq_true rfl⟩ rfl hl.1 (Nat.le_of_ble_eq_true rfl) dX10_form_46 ⟨Nat.le_of_ble_eq_true rfl, Nat.le_of_ble_eq_true rfl⟩) hT hS hA [] [0, 1, 2, 3, 4, 5, 6, 7, 8, 9, 10, 11, 12, 13, 14] rfl rfl rfl (by decide) (by decide) (fun r29 H locs hB J hS => ?_)
        obtain ⟨b_r29, hT1⟩ := hB
        have hT := J _ hT1
        have hT : TP D A [(h9, ob 2 [.ref h1, .int v14]), (h14, aJ (k 1) 36 anJ), (h23, aI (k 0) 100 anI), (h24, aI (k 0) 100 anI), (h25, aI (k 0) 100 anI), (h26, aI (k 0) 400 anI), (h27, aI (k 0) 256 (rgI (-1) 99)), (h28, aI (k 0) 100 (rgI (-1) 99)), (h29, aJ (k 1) 60 anJ), (h0, ob 7 [.ref h1, .ref h2, .int h0f2, .ref h3, .ref h4, .ref h5, .int v9, .ref h6, .int h0f8, .ref h7, .ref h8, .int h0f11, .ref h9, .ref h10, .ref h11, .ref h12, .ref h13]), (h1, ob 4 [.int h1f0, .int h1f1, .int h1f2, .ref h14]), (h5, ob 3 [.ref h22, .ref h23, .ref h24, .ref h25, .ref h26, .ref h27, .ref h28, .ref h29, .int v10, .int v11, .int v12, .int v13]), (h12, aJ (k 1) 9 anJ), (h13, aJ (k 1) 9 anJ), (h22, aJ (k 1) 900 anJ)] _ := hT
        exact tz_retL (B := B_cX10_form_13164 D k h0 h1 h5 h9 h12 h13 h14 h22 h23 h24 h25 h26 h27 h28 h29 h2 h3 h4 h6 h7 h8 h10 h11 x1 x2 h0f2 h0f6 h0f8 h0f11 h1f0 h1f1 h1f2 h5f8 h5f9 h5f10 h5f11 h9f1) (v := r29) hQ hx hb hr hlocks hS (Nat.le_of_ble_eq_true rfl) (Nat.le_of_ble_eq_true rfl) dX10_form_49 (⟨v9, v10, v11, v12, v13, v14, (by omega), (by omega), (by omega), (by omega), (by omega), (by omega), (hT.sub [9, 10, 11, 0, 12, 13, 1, 14, 2, 3, 4, 5, 6, 7, 8] (by decide) rfl)⟩)
    · skip
      have c_15 := ni_eq c_15 rfl li_0
      refine lv_bipush (v := (-3)) hx hb dX10_form_31 (by decide) ?_
      have q_q32 := li_m3
      refine tcL (Tc := []) (Tr := [(h13, aJ (k 1) 9 anJ), (h0, ob 7 [.ref h1, .ref h2, .int h0f2, .ref h3, .ref h4, .ref h5, .int v9, .ref h6, .int h0f8, .ref h7, .ref h8, .int h0f11, .ref h9, .ref h10, .ref h11, .ref h12, .ref h13]), (h1, ob 4 [.int h1f0, .int h1f1, .int h1f2, .ref h14]), (h5, ob 3 [.ref h22, .ref h23, .ref h24, .ref h25, .ref h26, .ref h27, .ref h28, .ref h29, .int v10, .int v11, .int v12, .int v13]), (h9, ob 2 [.ref h1, .int v14]), (h12, aJ (k 1) 9 anJ), (h14, aJ (k 1) 36 anJ), (h22, aJ (k 1) 900 anJ), (h23, aI (k 0) 100 anI), (h24, aI (k 0) 100 anI), (h25, aI (k 0) 100 anI), (h26, aI (k 0) 400 anI), (h27, aI (k 0) 256 (rgI (-1) 99)), (h28, aI (k 0) 100 (rgI (-1) 99)), (h29, aJ (k 1) 60 anJ)]) (as := []) (zcS (As := [.int (-3)]) (rest := []) (Tc := []) hx hb hml hown hU hK hT [] rfl (by decide) (cX10_asLong_5cc16 l D k _ ((-3)) (by have := li_m3; omega)) w572 w570 w571 w63 hdX10_asLong ⟨rfl, rfl⟩ ⟨Nat.le_of_ble_eq_true rfl, Nat.le_of_ble_eq_true rfl⟩ rfl hl.1 (Nat.le_of_ble_eq_true rfl) dX10_form_33 ⟨Nat.le_of_ble_eq_true rfl, Nat.le_of_ble_eq_true rfl⟩) hT hS hA [] [0, 1, 2, 3, 4, 5, 6, 7, 8, 9, 10, 11, 12, 13, 14] rfl rfl rfl (by decide) (by decide) (fun r31 H locs hB J hS => ?_)
      obtain ⟨b_r31, hT1⟩ := hB
      have hT := J _ hT1
      have hT : TP D A [(h13, aJ (k 1) 9 anJ), (h0, ob 7 [.ref h1, .ref h2, .int h0f2, .ref h3, .ref h4, .ref h5, .int v9, .ref h6, .int h0f8, .ref h7, .ref h8, .int h0f11, .ref h9, .ref h10, .ref h11, .ref h12, .ref h13]), (h1, ob 4 [.int h1f0, .int h1f1, .int h1f2, .ref h14]), (h5, ob 3 [.ref h22, .ref h23, .ref h24, .ref h25, .ref h26, .ref h27, .ref h28, .ref h29, .int v10, .int v11, .int v12, .int v13]), (h9, ob 2 [.ref h1, .int v14]), (h12, aJ (k 1) 9 anJ), (h14, aJ (k 1) 36 anJ), (h22, aJ (k 1) 900 anJ), (h23, aI (k 0) 100 anI), (h24, aI (k 0) 100 anI), (h25, aI (k 0) 100 anI), (h26, aI (k 0) 400 anI), (h27, aI (k 0) 256 (rgI (-1) 99)), (h28, aI (k 0) 100 (rgI (-1) 99)), (h29, aJ (k 1) 60 anJ)] _ := hT
      exact tz_retL (B := B_cX10_form_13164 D k h0 h1 h5 h9 h12 h13 h14 h22 h23 h24 h25 h26 h27 h28 h29 h2 h3 h4 h6 h7 h8 h10 h11 x1 x2 h0f2 h0f6 h0f8 h0f11 h1f0 h1f1 h1f2 h5f8 h5f9 h5f10 h5f11 h9f1) (v := r31) hQ hx hb hr hlocks hS (Nat.le_of_ble_eq_true rfl) (Nat.le_of_ble_eq_true rfl) dX10_form_36 (⟨v9, v10, v11, v12, v13, v14, (by omega), (by omega), (by omega), (by omega), (by omega), (by omega), (hT.sub [1, 2, 3, 4, 5, 0, 6, 7, 8, 9, 10, 11, 12, 13, 14] (by decide) rfl)⟩)
abbrev Rm_cX11_clears_baa94 : Room := { frames := 0, cells := 0, slots := 0, locals := 0 }
abbrev B_cX11_clears_baa94 (D : va_G) (k : Nat → ClassId) (h0 h1 h2 h3 h4 h5 h6 h7 h8 h9 h10 h11 h12 h13 h14 h15 h16 h17 h18 h19 h20 h21 : Nat) (h0f0 : Int32) (h0f1 : Int32) (h0f2 : Int32) (h0f3 : Int32) (h0f4 : Int32) (h0f5 : Int32) (h0f8 : Int32) (h0f9 : Int32) (h0f17 : Int32) (h0f18 : Int32) (h0f19 : Int32) (h0f24 : Int32) (h0f25 : Int32) (h0f30 : Int32) (h0f31 : Int32) (A : Nat → Prop) (H : Heap) : Prop := TP D A [(h0, ob 8 [.int h0f0, .int h0f1, .int h0f2, .int h0f3, .int h0f4, .int h0f5, .ref h2, .ref h3, .int h0f8, .int h0f9, .ref h4, .ref h1, .ref h5, .ref h6, .ref h7, .ref h8, .ref h9, .int h0f17, .int h0f18, .int h0f19, .ref h10, .ref h11, .ref h12, .ref h13, .int h0f24, .int h0f25, .ref h14, .ref h15, .ref h16, .ref h17, .int h0f30, .int h0f31, .ref h18, .ref h19, .ref h20, .ref h21]), (h1, aJ (k 1) 9 (z9P ))] H
set_option maxHeartbeats 4000000 in
set_option maxRecDepth 100000 in
theorem cX11_clears_baa94 (l : Launch) (D : va_G) (k : Nat → ClassId) (sz : Nat) (h0 h1 h2 h3 h4 h5 h6 h7 h8 h9 h10 h11 h12 h13 h14 h15 h16 h17 h18 h19 h20 h21 : Nat) (h0f0 : Int32) (h0f1 : Int32) (h0f2 : Int32) (h0f3 : Int32) (h0f4 : Int32) (h0f5 : Int32) (h0f8 : Int32) (h0f9 : Int32) (h0f17 : Int32) (h0f18 : Int32) (h0f19 : Int32) (h0f24 : Int32) (h0f25 : Int32) (h0f30 : Int32) (h0f31 : Int32) (b_h0f0 : 1 ≤ h0f0.toInt ∧ h0f0.toInt ≤ 3) (b_h0f1 : 0 ≤ h0f1.toInt ∧ h0f1.toInt ≤ 4) (b_h0f3 : 0 ≤ h0f3.toInt ∧ h0f3.toInt ≤ 3) (b_h0f4 : 0 ≤ h0f4.toInt ∧ h0f4.toInt ≤ 4) (b_h0f8 : 0 ≤ h0f8.toInt ∧ h0f8.toInt ≤ 1) (b_h0f9 : 1 ≤ h0f9.toInt ∧ h0f9.toInt ≤ 1) (b_h0f17 : 0 ≤ h0f17.toInt ∧ h0f17.toInt ≤ 120) (b_h0f18 : 0 ≤ h0f18.toInt ∧ h0f18.toInt ≤ 120) (b_h0f19 : 0 ≤ h0f19.toInt ∧ h0f19.toInt ≤ 4) (b_h0f24 : 1 ≤ h0f24.toInt ∧ h0f24.toInt ≤ 100) (b_h0f25 : 1 ≤ h0f25.toInt ∧ h0f25.toInt ≤ 1) (b_h0f30 : 0 ≤ h0f30.toInt ∧ h0f30.toInt ≤ 60) (b_h0f31 : 0 ≤ h0f31.toInt ∧ h0f31.toInt ≤ 1) (i_0 : h0f8.toInt ≤ h0f3.toInt) (i_1 : h0f9.toInt ≤ h0f24.toInt) : Met l yX11_clears (Cond.code yX11_clears cX11_clears 3 none :: uw) Rm_cX11_clears_baa94 (pT D k sz [.ref h0, .ref h1] [(h0, ob 8 [.int h0f0, .int h0f1, .int h0f2, .int h0f3, .int h0f4, .int h0f5, .ref h2, .ref h3, .int h0f8, .int h0f9, .ref h4, .ref h1, .ref h5, .ref h6, .ref h7, .ref h8, .ref h9, .int h0f17, .int h0f18, .int h0f19, .ref h10, .ref h11, .ref h12, .ref h13, .int h0f24, .int h0f25, .ref h14, .ref h15, .ref h16, .ref h17, .int h0f30, .int h0f31, .ref h18, .ref h19, .ref h20, .ref h21]), (h1, aJ (k 1) 9 anJ)]) (qV (B_cX11_clears_baa94 D k h0 h1 h2 h3 h4 h5 h6 h7 h8 h9 h10 h11 h12 h13 h14 h15 h16 h17 h18 h19 h20 h21 h0f0 h0f1 h0f2 h0f3 h0f4 h0f5 h0f8 h0f9 h0f17 h0f18 h0f19 h0f24 h0f25 h0f30 h0f31 (zA [h0, h1] sz)) (zA [h0, h1] sz)) 0 0 (zA [h0, h1] sz) := by
  refine tz_begin (as := [h0, h1]) (Qc := fun A => qV (B_cX11_clears_baa94 D k h0 h1 h2 h3 h4 h5 h6 h7 h8 h9 h10 h11 h12 h13 h14 h15 h16 h17 h18 h19 h20 h21 h0f0 h0f1 h0f2 h0f3 h0f4 h0f5 h0f8 h0f9 h0f17 h0f18 h0f19 h0f24 h0f25 h0f30 h0f31 A) A) (by decide +kernel) rfl (Nat.le_of_ble_eq_true rfl) ?_
  intro p e s m args below meth c ls A Q hx hb hr hml hown hlocks hin hU hK hT hS hA hl hQ
  have hl : lv_has ls 3 [(0, .ref h0), (1, .ref h1)] := hl
  have hT : TP D A [(h0, ob 8 [.int h0f0, .int h0f1, .int h0f2, .int h0f3, .int h0f4, .int h0f5, .ref h2, .ref h3, .int h0f8, .int h0f9, .ref h4, .ref h1, .ref h5, .ref h6, .ref h7, .ref h8, .ref h9, .int h0f17, .int h0f18, .int h0f19, .ref h10, .ref h11, .ref h12, .ref h13, .int h0f24, .int h0f25, .ref h14, .ref h15, .ref h16, .ref h17, .int h0f30, .int h0f31, .ref h18, .ref h19, .ref h20, .ref h21]), (h1, aJ (k 1) 9 anJ)] s.heap := hT
  refine lv_iconst (v := 0) hx hb dX11_clears_0 (by decide) ?_
  refine lv_istore_n (lv' := [(2, .int 0), (0, .ref h0), (1, .ref h1)]) hx hb dX11_clears_1 rfl hl (by decide) rfl (fun ls hl => ?_)
  have hT := hT.wk (q := 1) (P' := aJ (k 1) 9 (zkP ((0 : Int32).toInt))) rfl (cv_zk_0 (by have := li_0; omega))
  have hT : TP D A [(h0, ob 8 [.int h0f0, .int h0f1, .int h0f2, .int h0f3, .int h0f4, .int h0f5, .ref h2, .ref h3, .int h0f8, .int h0f9, .ref h4, .ref h1, .ref h5, .ref h6, .ref h7, .ref h8, .ref h9, .int h0f17, .int h0f18, .int h0f19, .ref h10, .ref h11, .ref h12, .ref h13, .int h0f24, .int h0f25, .ref h14, .ref h15, .ref h16, .ref h17, .int h0f30, .int h0f31, .ref h18, .ref h19, .ref h20, .ref h21]), (h1, aJ (k 1) 9 (zkP ((0 : Int32).toInt)))] _ := hT
  have lp2_8 : ∀ (n : Nat) (y7 : Int32) (H : Heap) (locs : List Loc) (ls : Array Slot), (0 ≤ y7.toInt ∧ y7.toInt ≤ 9) → ((-1) * y7.toInt + 9 + 1).toNat < n → TP D A [(h0, ob 8 [.int h0f0, .int h0f1, .int h0f2, .int h0f3, .int h0f4, .int h0f5, .ref h2, .ref h3, .int h0f8, .int h0f9, .ref h4, .ref h1, .ref h5, .ref h6, .ref h7, .ref h8, .ref h9, .int h0f17, .int h0f18, .int h0f19, .ref h10, .ref h11, .ref h12, .ref h13, .int h0f24, .int h0f25, .ref h14, .ref h15, .ref h16, .ref h17, .int h0f30, .int h0f31, .ref h18, .ref h19, .ref h20, .ref h21]), (h1, aJ (k 1) 9 (zkP (y7.toInt)))] H → va_S A s.heap H locs → lv_has ls 3 [(1, .ref h1), (2, .int y7)] → W p l e Rm_cX11_clears_baa94 s m args below meth c H locs 0 0 Q (F0 m 2 ls []) := by
    intro n
    induction n with
    | zero => intro y7 H locs ls b_y7 hm hT hS hl; exact absurd hm (Nat.not_lt_zero _)
    | succ n ih =>
      intro y7 H locs ls b_y7 hm hT hS hl
      have ih2_8 := ih
      clear ih
      refine lv_iload_n hx hb dX11_clears_2 rfl (lv_at hl 1 rfl) ?_
      refine lv_bipush (v := 9) hx hb dX11_clears_3 (by decide) ?_
      refine lv_icmp_ge (tgt := 18) hx hb dX11_clears_5 (by decide) (fun c_9 => ?_) (fun c_9 => ?_)
      · skip
        have c_9 := ni_le c_9 li_9 rfl
        have hT := hT.wk (q := 1) (P' := aJ (k 1) 9 (z9P )) rfl (cv_zk_z9 (by omega))
        have hT : TP D A [(h0, ob 8 [.int h0f0, .int h0f1, .int h0f2, .int h0f3, .int h0f4, .int h0f5, .ref h2, .ref h3, .int h0f8, .int h0f9, .ref h4, .ref h1, .ref h5, .ref h6, .ref h7, .ref h8, .ref h9, .int h0f17, .int h0f18, .int h0f19, .ref h10, .ref h11, .ref h12, .ref h13, .int h0f24, .int h0f25, .ref h14, .ref h15, .ref h16, .ref h17, .int h0f30, .int h0f31, .ref h18, .ref h19, .ref h20, .ref h21]), (h1, aJ (k 1) 9 (z9P ))] _ := hT
        exact tz_retV (B := B_cX11_clears_baa94 D k h0 h1 h2 h3 h4 h5 h6 h7 h8 h9 h10 h11 h12 h13 h14 h15 h16 h17 h18 h19 h20 h21 h0f0 h0f1 h0f2 h0f3 h0f4 h0f5 h0f8 h0f9 h0f17 h0f18 h0f19 h0f24 h0f25 h0f30 h0f31) hQ hx hb hr hlocks hS (Nat.le_of_ble_eq_true rfl) (Nat.le_of_ble_eq_true rfl) dX11_clears_18 (hT)
      · skip
        have c_9 := ni_nle c_9 li_9 rfl
        refine lv_aload_n hx hb dX11_clears_8 rfl (lv_at hl 0 rfl) ?_
        refine lv_iload_n hx hb dX11_clears_9 rfl (lv_at hl 1 rfl) ?_
        refine lv_lconst (v := 0) hx hb dX11_clears_10 (by decide) ?_
        refine tz_lastP hx hb hK hT hS 1 (zkP (y7.toInt + 1)) rfl (by omega) (zk_put (by omega)) dX11_clears_11 (fun H locs hT hS => ?_)
        have hT : TP D A [(h0, ob 8 [.int h0f0, .int h0f1, .int h0f2, .int h0f3, .int h0f4, .int h0f5, .ref h2, .ref h3, .int h0f8, .int h0f9, .ref h4, .ref h1, .ref h5, .ref h6, .ref h7, .ref h8, .ref h9, .int h0f17, .int h0f18, .int h0f19, .ref h10, .ref h11, .ref h12, .ref h13, .int h0f24, .int h0f25, .ref h14, .ref h15, .ref h16, .ref h17, .int h0f30, .int h0f31, .ref h18, .ref h19, .ref h20, .ref h21]), (h1, aJ (k 1) 9 (zkP (y7.toInt + 1)))] _ := hT
        obtain ⟨v10, e_v10⟩ : ∃ x : Int32, x = y7 + Int32.ofInt 1 := ⟨_, rfl⟩
        have f_v10 := e_v10.symm
        have e_v10 : v10.toInt = y7.toInt + 1 := ai_add e_v10 rfl (show (Int32.ofInt 1).toInt = 1 from (by decide +kernel)) (by omega)
        refine lv_iinc (v := v10) (lv' := [(2, .int v10), (1, .ref h1)]) hx hb dX11_clears_12 hl (k := 1) rfl f_v10 (by decide) rfl (fun ls hl => ?_)
        refine lv_goto (tgt := 2) hx hb dX11_clears_15 (by decide) ?_
        have hT := hT.wk (q := 1) (P' := aJ (k 1) 9 (zkP (v10.toInt))) rfl (cv_zk_zk (by omega))
        have hT : TP D A [(h0, ob 8 [.int h0f0, .int h0f1, .int h0f2, .int h0f3, .int h0f4, .int h0f5, .ref h2, .ref h3, .int h0f8, .int h0f9, .ref h4, .ref h1, .ref h5, .ref h6, .ref h7, .ref h8, .ref h9, .int h0f17, .int h0f18, .int h0f19, .ref h10, .ref h11, .ref h12, .ref h13, .int h0f24, .int h0f25, .ref h14, .ref h15, .ref h16, .ref h17, .int h0f30, .int h0f31, .ref h18, .ref h19, .ref h20, .ref h21]), (h1, aJ (k 1) 9 (zkP (v10.toInt)))] _ := hT
        exact ih2_8 v10 _ _ _ (by omega)  (by omega) hT hS (lv_sub hl [1, 0] rfl)
  exact lp2_8 (((-1) * (0 : Int32).toInt + 9 + 1).toNat + 1) (0) _ _ _ (by have := li_0; omega)  (Nat.lt_succ_self _) hT hS (lv_sub hl [2, 0] rfl)
abbrev Rm_cX11_takesElement_12645 : Room := { frames := 0, cells := 0, slots := 0, locals := 0 }
abbrev B_cX11_takesElement_12645 (D : va_G) (k : Nat → ClassId) (h0 h1 h10 h2 h3 h4 h5 h6 h7 h8 h9 h11 h12 h13 h14 h15 h16 h17 h18 h19 h20 h21 : Nat) (x1 : Int32) (h0f0 : Int32) (h0f1 : Int32) (h0f2 : Int32) (h0f3 : Int32) (h0f4 : Int32) (h0f5 : Int32) (h0f8 : Int32) (h0f9 : Int32) (h0f17 : Int32) (h0f18 : Int32) (h0f19 : Int32) (h0f24 : Int32) (h0f25 : Int32) (h0f30 : Int32) (h0f31 : Int32) (A : Nat → Prop) (H : Heap) : Prop := TP D A [(h0, ob 8 [.int h0f0, .int h0f1, .int h0f2, .int h0f3, .int h0f4, .int h0f5, .ref h2, .ref h3, .int h0f8, .int h0f9, .ref h4, .ref h5, .ref h1, .ref h6, .ref h7, .ref h8, .ref h9, .int h0f17, .int h0f18, .int h0f19, .ref h10, .ref h11, .ref h12, .ref h13, .int h0f24, .int h0f25, .ref h14, .ref h15, .ref h16, .ref h17, .int h0f30, .int h0f31, .ref h18, .ref h19, .ref h20, .ref h21]), (h1, aJ (k 1) 9 (idP )), (h10, aJ (k 1) 900 (lsP (h0f9.toInt)))] H
set_option maxHeartbeats 4000000 in
set_option maxRecDepth 100000 in
theorem cX11_takesElement_12645 (l : Launch) (D : va_G) (k : Nat → ClassId) (sz : Nat) (h0 h1 h10 h2 h3 h4 h5 h6 h7 h8 h9 h11 h12 h13 h14 h15 h16 h17 h18 h19 h20 h21 : Nat) (x1 : Int32) (h0f0 : Int32) (h0f1 : Int32) (h0f2 : Int32) (h0f3 : Int32) (h0f4 : Int32) (h0f5 : Int32) (h0f8 : Int32) (h0f9 : Int32) (h0f17 : Int32) (h0f18 : Int32) (h0f19 : Int32) (h0f24 : Int32) (h0f25 : Int32) (h0f30 : Int32) (h0f31 : Int32) (b_x1 : 0 ≤ x1.toInt ∧ x1.toInt ≤ 0) (b_h0f0 : 1 ≤ h0f0.toInt ∧ h0f0.toInt ≤ 3) (b_h0f1 : 0 ≤ h0f1.toInt ∧ h0f1.toInt ≤ 4) (b_h0f3 : 0 ≤ h0f3.toInt ∧ h0f3.toInt ≤ 3) (b_h0f4 : 0 ≤ h0f4.toInt ∧ h0f4.toInt ≤ 4) (b_h0f8 : 0 ≤ h0f8.toInt ∧ h0f8.toInt ≤ 1) (b_h0f9 : 1 ≤ h0f9.toInt ∧ h0f9.toInt ≤ 1) (b_h0f17 : 0 ≤ h0f17.toInt ∧ h0f17.toInt ≤ 120) (b_h0f18 : 0 ≤ h0f18.toInt ∧ h0f18.toInt ≤ 120) (b_h0f19 : 0 ≤ h0f19.toInt ∧ h0f19.toInt ≤ 4) (b_h0f24 : 1 ≤ h0f24.toInt ∧ h0f24.toInt ≤ 100) (b_h0f25 : 1 ≤ h0f25.toInt ∧ h0f25.toInt ≤ 1) (b_h0f30 : 0 ≤ h0f30.toInt ∧ h0f30.toInt ≤ 60) (b_h0f31 : 0 ≤ h0f31.toInt ∧ h0f31.toInt ≤ 1) (i_0 : h0f8.toInt ≤ h0f3.toInt) (i_1 : h0f9.toInt ≤ h0f24.toInt) : Met l yX11_takesElement (Cond.code yX11_takesElement cX11_takesElement 4 none :: uw) Rm_cX11_takesElement_12645 (pT D k sz [.ref h0, .int x1, .ref h1] [(h0, ob 8 [.int h0f0, .int h0f1, .int h0f2, .int h0f3, .int h0f4, .int h0f5, .ref h2, .ref h3, .int h0f8, .int h0f9, .ref h4, .ref h5, .ref h1, .ref h6, .ref h7, .ref h8, .ref h9, .int h0f17, .int h0f18, .int h0f19, .ref h10, .ref h11, .ref h12, .ref h13, .int h0f24, .int h0f25, .ref h14, .ref h15, .ref h16, .ref h17, .int h0f30, .int h0f31, .ref h18, .ref h19, .ref h20, .ref h21]), (h1, aJ (k 1) 9 anJ), (h10, aJ (k 1) 900 (lsP (h0f9.toInt)))]) (qV (B_cX11_takesElement_12645 D k h0 h1 h10 h2 h3 h4 h5 h6 h7 h8 h9 h11 h12 h13 h14 h15 h16 h17 h18 h19 h20 h21 x1 h0f0 h0f1 h0f2 h0f3 h0f4 h0f5 h0f8 h0f9 h0f17 h0f18 h0f19 h0f24 h0f25 h0f30 h0f31 (zA [h0, h1, h10] sz)) (zA [h0, h1, h10] sz)) 0 0 (zA [h0, h1, h10] sz) := by
  refine tz_begin (as := [h0, h1, h10]) (Qc := fun A => qV (B_cX11_takesElement_12645 D k h0 h1 h10 h2 h3 h4 h5 h6 h7 h8 h9 h11 h12 h13 h14 h15 h16 h17 h18 h19 h20 h21 x1 h0f0 h0f1 h0f2 h0f3 h0f4 h0f5 h0f8 h0f9 h0f17 h0f18 h0f19 h0f24 h0f25 h0f30 h0f31 A) A) (by decide +kernel) rfl (Nat.le_of_ble_eq_true rfl) ?_
  intro p e s m args below meth c ls A Q hx hb hr hml hown hlocks hin hU hK hT hS hA hl hQ
  have hl : lv_has ls 4 [(0, .ref h0), (1, .int x1), (2, .ref h1)] := hl
  have hT : TP D A [(h0, ob 8 [.int h0f0, .int h0f1, .int h0f2, .int h0f3, .int h0f4, .int h0f5, .ref h2, .ref h3, .int h0f8, .int h0f9, .ref h4, .ref h5, .ref h1, .ref h6, .ref h7, .ref h8, .ref h9, .int h0f17, .int h0f18, .int h0f19, .ref h10, .ref h11, .ref h12, .ref h13, .int h0f24, .int h0f25, .ref h14, .ref h15, .ref h16, .ref h17, .int h0f30, .int h0f31, .ref h18, .ref h19, .ref h20, .ref h21]), (h1, aJ (k 1) 9 anJ), (h10, aJ (k 1) 900 (lsP (h0f9.toInt)))] s.heap := hT
  refine lv_iconst (v := 0) hx hb dX11_takesElement_0 (by decide) ?_
  refine lv_istore_n (lv' := [(3, .int 0), (0, .ref h0), (1, .int x1), (2, .ref h1)]) hx hb dX11_takesElement_1 rfl hl (by decide) rfl (fun ls hl => ?_)
  have hT := hT.wk (q := 1) (P' := aJ (k 1) 9 (ekP (1) ((0 : Int32).toInt))) rfl (cv_ek_0 (by have := li_0; omega))
  have hT : TP D A [(h0, ob 8 [.int h0f0, .int h0f1, .int h0f2, .int h0f3, .int h0f4, .int h0f5, .ref h2, .ref h3, .int h0f8, .int h0f9, .ref h4, .ref h5, .ref h1, .ref h6, .ref h7, .ref h8, .ref h9, .int h0f17, .int h0f18, .int h0f19, .ref h10, .ref h11, .ref h12, .ref h13, .int h0f24, .int h0f25, .ref h14, .ref h15, .ref h16, .ref h17, .int h0f30, .int h0f31, .ref h18, .ref h19, .ref h20, .ref h21]), (h1, aJ (k 1) 9 (ekP (1) ((0 : Int32).toInt))), (h10, aJ (k 1) 900 (lsP (h0f9.toInt)))] _ := hT
  have lp2_8 : ∀ (n : Nat) (y7 : Int32) (H : Heap) (locs : List Loc) (ls : Array Slot), (0 ≤ y7.toInt ∧ y7.toInt ≤ 9) → ((-1) * y7.toInt + 9 + 1).toNat < n → TP D A [(h0, ob 8 [.int h0f0, .int h0f1, .int h0f2, .int h0f3, .int h0f4, .int h0f5, .ref h2, .ref h3, .int h0f8, .int h0f9, .ref h4, .ref h5, .ref h1, .ref h6, .ref h7, .ref h8, .ref h9, .int h0f17, .int h0f18, .int h0f19, .ref h10, .ref h11, .ref h12, .ref h13, .int h0f24, .int h0f25, .ref h14, .ref h15, .ref h16, .ref h17, .int h0f30, .int h0f31, .ref h18, .ref h19, .ref h20, .ref h21]), (h1, aJ (k 1) 9 (ekP (1) (y7.toInt))), (h10, aJ (k 1) 900 (lsP (h0f9.toInt)))] H → va_S A s.heap H locs → lv_has ls 4 [(0, .ref h0), (1, .int x1), (2, .ref h1), (3, .int y7)] → W p l e Rm_cX11_takesElement_12645 s m args below meth c H locs 0 0 Q (F0 m 2 ls []) := by
    intro n
    induction n with
    | zero => intro y7 H locs ls b_y7 hm hT hS hl; exact absurd hm (Nat.not_lt_zero _)
    | succ n ih =>
      intro y7 H locs ls b_y7 hm hT hS hl
      have ih2_8 := ih
      clear ih
      refine lv_iload_n hx hb dX11_takesElement_2 rfl (lv_at hl 3 rfl) ?_
      refine lv_bipush (v := 9) hx hb dX11_takesElement_3 (by decide) ?_
      refine lv_icmp_ge (tgt := 28) hx hb dX11_takesElement_5 (by decide) (fun c_9 => ?_) (fun c_9 => ?_)
      · skip
        have c_9 := ni_le c_9 li_9 rfl
        have hT := hT.wk (q := 1) (P' := aJ (k 1) 9 (idP )) rfl (cv_ek_id (by omega))
        have hT : TP D A [(h0, ob 8 [.int h0f0, .int h0f1, .int h0f2, .int h0f3, .int h0f4, .int h0f5, .ref h2, .ref h3, .int h0f8, .int h0f9, .ref h4, .ref h5, .ref h1, .ref h6, .ref h7, .ref h8, .ref h9, .int h0f17, .int h0f18, .int h0f19, .ref h10, .ref h11, .ref h12, .ref h13, .int h0f24, .int h0f25, .ref h14, .ref h15, .ref h16, .ref h17, .int h0f30, .int h0f31, .ref h18, .ref h19, .ref h20, .ref h21]), (h1, aJ (k 1) 9 (idP )), (h10, aJ (k 1) 900 (lsP (h0f9.toInt)))] _ := hT
        exact tz_retV (B := B_cX11_takesElement_12645 D k h0 h1 h10 h2 h3 h4 h5 h6 h7 h8 h9 h11 h12 h13 h14 h15 h16 h17 h18 h19 h20 h21 x1 h0f0 h0f1 h0f2 h0f3 h0f4 h0f5 h0f8 h0f9 h0f17 h0f18 h0f19 h0f24 h0f25 h0f30 h0f31) hQ hx hb hr hlocks hS (Nat.le_of_ble_eq_true rfl) (Nat.le_of_ble_eq_true rfl) dX11_takesElement_28 (hT)
      · skip
        have c_9 := ni_nle c_9 li_9 rfl
        refine lv_aload_n hx hb dX11_takesElement_8 rfl (lv_at hl 2 rfl) ?_
        refine lv_iload_n hx hb dX11_takesElement_9 rfl (lv_at hl 3 rfl) ?_
        refine lv_aload_n hx hb dX11_takesElement_10 rfl (lv_at hl 0 rfl) ?_
        refine tz_get (ci := 8) (v := .ref h10) (C := RX11) (F := TX11) (N := 36) hx hb hU iX11 hown hK hT 0 rfl rfl 20 (by decide) w805 (fun _ h9 => h9) rfl dX11_takesElement_11 ?_
        refine lv_bipush (v := 9) hx hb dX11_takesElement_14 (by decide) ?_
        refine lv_iload_n hx hb dX11_takesElement_16 rfl (lv_at hl 1 rfl) ?_
        have hq10 : x1.toInt = 0 := by omega
        refine lv_imul hx hb dX11_takesElement_17 (lv_topi (fun v11 e_v11 => ?_))
        have e_v11 := ai_mul e_v11 li_9 hq10 (by omega)
        refine lv_iload_n hx hb dX11_takesElement_18 rfl (lv_at hl 3 rfl) ?_
        have hq12 : v11.toInt = 0 := by omega
        refine lv_iadd hx hb dX11_takesElement_19 (lv_topi (fun v13 e_v13 => ?_))
        have e_v13 := ai_add e_v13 hq12 rfl (by omega)
        refine tz_lald hx hb hK hT 2 rfl (by omega) dX11_takesElement_20 (fun v14 e_v14 => ?_)
        have e_v14 := ls_get e_v14
        refine tz_lastP hx hb hK hT hS 1 (ekP (1) (y7.toInt + 1)) rfl (by omega) (ek_put (by omega)) dX11_takesElement_21 (fun H locs hT hS => ?_)
        have hT : TP D A [(h0, ob 8 [.int h0f0, .int h0f1, .int h0f2, .int h0f3, .int h0f4, .int h0f5, .ref h2, .ref h3, .int h0f8, .int h0f9, .ref h4, .ref h5, .ref h1, .ref h6, .ref h7, .ref h8, .ref h9, .int h0f17, .int h0f18, .int h0f19, .ref h10, .ref h11, .ref h12, .ref h13, .int h0f24, .int h0f25, .ref h14, .ref h15, .ref h16, .ref h17, .int h0f30, .int h0f31, .ref h18, .ref h19, .ref h20, .ref h21]), (h1, aJ (k 1) 9 (ekP (1) (y7.toInt + 1))), (h10, aJ (k 1) 900 (lsP (h0f9.toInt)))] _ := hT
        obtain ⟨v15, e_v15⟩ : ∃ x : Int32, x = y7 + Int32.ofInt 1 := ⟨_, rfl⟩
        have f_v15 := e_v15.symm
        have e_v15 : v15.toInt = y7.toInt + 1 := ai_add e_v15 rfl (show (Int32.ofInt 1).toInt = 1 from (by decide +kernel)) (by omega)
        refine lv_iinc (v := v15) (lv' := [(3, .int v15), (0, .ref h0), (1, .int x1), (2, .ref h1)]) hx hb dX11_takesElement_22 hl (k := 3) rfl f_v15 (by decide) rfl (fun ls hl => ?_)
        refine lv_goto (tgt := 2) hx hb dX11_takesElement_25 (by decide) ?_
        have hT := hT.wk (q := 1) (P' := aJ (k 1) 9 (ekP (1) (v15.toInt))) rfl (cv_ek_ek (by omega))
        have hT : TP D A [(h0, ob 8 [.int h0f0, .int h0f1, .int h0f2, .int h0f3, .int h0f4, .int h0f5, .ref h2, .ref h3, .int h0f8, .int h0f9, .ref h4, .ref h5, .ref h1, .ref h6, .ref h7, .ref h8, .ref h9, .int h0f17, .int h0f18, .int h0f19, .ref h10, .ref h11, .ref h12, .ref h13, .int h0f24, .int h0f25, .ref h14, .ref h15, .ref h16, .ref h17, .int h0f30, .int h0f31, .ref h18, .ref h19, .ref h20, .ref h21]), (h1, aJ (k 1) 9 (ekP (1) (v15.toInt))), (h10, aJ (k 1) 900 (lsP (h0f9.toInt)))] _ := hT
        exact ih2_8 v15 _ _ _ (by omega)  (by omega) hT hS (lv_sub hl [1, 2, 3, 0] rfl)
  exact lp2_8 (((-1) * (0 : Int32).toInt + 9 + 1).toNat + 1) (0) _ _ _ (by have := li_0; omega)  (Nat.lt_succ_self _) hT hS (lv_sub hl [1, 2, 3, 0] rfl)
abbrev Rm_cX11_takesElement_1ccf7 : Room := { frames := 0, cells := 0, slots := 0, locals := 0 }
abbrev B_cX11_takesElement_1ccf7 (D : va_G) (k : Nat → ClassId) (h0 h1 h10 h2 h3 h4 h5 h6 h7 h8 h9 h11 h12 h13 h14 h15 h16 h17 h18 h19 h20 h21 : Nat) (x1 : Int32) (h0f0 : Int32) (h0f1 : Int32) (h0f2 : Int32) (h0f3 : Int32) (h0f4 : Int32) (h0f5 : Int32) (h0f8 : Int32) (h0f9 : Int32) (h0f17 : Int32) (h0f18 : Int32) (h0f19 : Int32) (h0f24 : Int32) (h0f25 : Int32) (h0f30 : Int32) (h0f31 : Int32) (A : Nat → Prop) (H : Heap) : Prop := TP D A [(h0, ob 8 [.int h0f0, .int h0f1, .int h0f2, .int h0f3, .int h0f4, .int h0f5, .ref h2, .ref h3, .int h0f8, .int h0f9, .ref h4, .ref h5, .ref h1, .ref h6, .ref h7, .ref h8, .ref h9, .int h0f17, .int h0f18, .int h0f19, .ref h10, .ref h11, .ref h12, .ref h13, .int h0f24, .int h0f25, .ref h14, .ref h15, .ref h16, .ref h17, .int h0f30, .int h0f31, .ref h18, .ref h19, .ref h20, .ref h21]), (h1, aJ (k 1) 9 (b9P )), (h10, aJ (k 1) 900 (lsP (h0f9.toInt)))] H
set_option maxHeartbeats 4000000 in
set_option maxRecDepth 100000 in
theorem cX11_takesElement_1ccf7 (l : Launch) (D : va_G) (k : Nat → ClassId) (sz : Nat) (h0 h1 h10 h2 h3 h4 h5 h6 h7 h8 h9 h11 h12 h13 h14 h15 h16 h17 h18 h19 h20 h21 : Nat) (x1 : Int32) (h0f0 : Int32) (h0f1 : Int32) (h0f2 : Int32) (h0f3 : Int32) (h0f4 : Int32) (h0f5 : Int32) (h0f8 : Int32) (h0f9 : Int32) (h0f17 : Int32) (h0f18 : Int32) (h0f19 : Int32) (h0f24 : Int32) (h0f25 : Int32) (h0f30 : Int32) (h0f31 : Int32) (b_x1 : 1 ≤ x1.toInt ∧ x1.toInt ≤ 99) (b_h0f0 : 1 ≤ h0f0.toInt ∧ h0f0.toInt ≤ 3) (b_h0f1 : 0 ≤ h0f1.toInt ∧ h0f1.toInt ≤ 4) (b_h0f3 : 0 ≤ h0f3.toInt ∧ h0f3.toInt ≤ 3) (b_h0f4 : 0 ≤ h0f4.toInt ∧ h0f4.toInt ≤ 4) (b_h0f8 : 0 ≤ h0f8.toInt ∧ h0f8.toInt ≤ 1) (b_h0f9 : 1 ≤ h0f9.toInt ∧ h0f9.toInt ≤ 1) (b_h0f17 : 0 ≤ h0f17.toInt ∧ h0f17.toInt ≤ 120) (b_h0f18 : 0 ≤ h0f18.toInt ∧ h0f18.toInt ≤ 120) (b_h0f19 : 0 ≤ h0f19.toInt ∧ h0f19.toInt ≤ 4) (b_h0f24 : 2 ≤ h0f24.toInt ∧ h0f24.toInt ≤ 100) (b_h0f25 : 1 ≤ h0f25.toInt ∧ h0f25.toInt ≤ 1) (b_h0f30 : 0 ≤ h0f30.toInt ∧ h0f30.toInt ≤ 60) (b_h0f31 : 0 ≤ h0f31.toInt ∧ h0f31.toInt ≤ 1) (i_0 : h0f8.toInt ≤ h0f3.toInt) (i_1 : h0f9.toInt ≤ h0f24.toInt) : Met l yX11_takesElement (Cond.code yX11_takesElement cX11_takesElement 4 none :: uw) Rm_cX11_takesElement_1ccf7 (pT D k sz [.ref h0, .int x1, .ref h1] [(h0, ob 8 [.int h0f0, .int h0f1, .int h0f2, .int h0f3, .int h0f4, .int h0f5, .ref h2, .ref h3, .int h0f8, .int h0f9, .ref h4, .ref h5, .ref h1, .ref h6, .ref h7, .ref h8, .ref h9, .int h0f17, .int h0f18, .int h0f19, .ref h10, .ref h11, .ref h12, .ref h13, .int h0f24, .int h0f25, .ref h14, .ref h15, .ref h16, .ref h17, .int h0f30, .int h0f31, .ref h18, .ref h19, .ref h20, .ref h21]), (h1, aJ (k 1) 9 anJ), (h10, aJ (k 1) 900 (lsP (h0f9.toInt)))]) (qV (B_cX11_takesElement_1ccf7 D k h0 h1 h10 h2 h3 h4 h5 h6 h7 h8 h9 h11 h12 h13 h14 h15 h16 h17 h18 h19 h20 h21 x1 h0f0 h0f1 h0f2 h0f3 h0f4 h0f5 h0f8 h0f9 h0f17 h0f18 h0f19 h0f24 h0f25 h0f30 h0f31 (zA [h0, h1, h10] sz)) (zA [h0, h1, h10] sz)) 0 0 (zA [h0, h1, h10] sz) := by
  refine tz_begin (as := [h0, h1, h10]) (Qc := fun A => qV (B_cX11_takesElement_1ccf7 D k h0 h1 h10 h2 h3 h4 h5 h6 h7 h8 h9 h11 h12 h13 h14 h15 h16 h17 h18 h19 h20 h21 x1 h0f0 h0f1 h0f2 h0f3 h0f4 h0f5 h0f8 h0f9 h0f17 h0f18 h0f19 h0f24 h0f25 h0f30 h0f31 A) A) (by decide +kernel) rfl (Nat.le_of_ble_eq_true rfl) ?_
  intro p e s m args below meth c ls A Q hx hb hr hml hown hlocks hin hU hK hT hS hA hl hQ
  have hl : lv_has ls 4 [(0, .ref h0), (1, .int x1), (2, .ref h1)] := hl
  have hT : TP D A [(h0, ob 8 [.int h0f0, .int h0f1, .int h0f2, .int h0f3, .int h0f4, .int h0f5, .ref h2, .ref h3, .int h0f8, .int h0f9, .ref h4, .ref h5, .ref h1, .ref h6, .ref h7, .ref h8, .ref h9, .int h0f17, .int h0f18, .int h0f19, .ref h10, .ref h11, .ref h12, .ref h13, .int h0f24, .int h0f25, .ref h14, .ref h15, .ref h16, .ref h17, .int h0f30, .int h0f31, .ref h18, .ref h19, .ref h20, .ref h21]), (h1, aJ (k 1) 9 anJ), (h10, aJ (k 1) 900 (lsP (h0f9.toInt)))] s.heap := hT
  refine lv_iconst (v := 0) hx hb dX11_takesElement_0 (by decide) ?_
  refine lv_istore_n (lv' := [(3, .int 0), (0, .ref h0), (1, .int x1), (2, .ref h1)]) hx hb dX11_takesElement_1 rfl hl (by decide) rfl (fun ls hl => ?_)
  have hT := hT.wk (q := 1) (P' := aJ (k 1) 9 (ekP (0) ((0 : Int32).toInt))) rfl (cv_ek_0 (by have := li_0; omega))
  have hT : TP D A [(h0, ob 8 [.int h0f0, .int h0f1, .int h0f2, .int h0f3, .int h0f4, .int h0f5, .ref h2, .ref h3, .int h0f8, .int h0f9, .ref h4, .ref h5, .ref h1, .ref h6, .ref h7, .ref h8, .ref h9, .int h0f17, .int h0f18, .int h0f19, .ref h10, .ref h11, .ref h12, .ref h13, .int h0f24, .int h0f25, .ref h14, .ref h15, .ref h16, .ref h17, .int h0f30, .int h0f31, .ref h18, .ref h19, .ref h20, .ref h21]), (h1, aJ (k 1) 9 (ekP (0) ((0 : Int32).toInt))), (h10, aJ (k 1) 900 (lsP (h0f9.toInt)))] _ := hT
  have lp2_8 : ∀ (n : Nat) (y7 : Int32) (H : Heap) (locs : List Loc) (ls : Array Slot), (0 ≤ y7.toInt ∧ y7.toInt ≤ 9) → ((-1) * y7.toInt + 9 + 1).toNat < n → TP D A [(h0, ob 8 [.int h0f0, .int h0f1, .int h0f2, .int h0f3, .int h0f4, .int h0f5, .ref h2, .ref h3, .int h0f8, .int h0f9, .ref h4, .ref h5, .ref h1, .ref h6, .ref h7, .ref h8, .ref h9, .int h0f17, .int h0f18, .int h0f19, .ref h10, .ref h11, .ref h12, .ref h13, .int h0f24, .int h0f25, .ref h14, .ref h15, .ref h16, .ref h17, .int h0f30, .int h0f31, .ref h18, .ref h19, .ref h20, .ref h21]), (h1, aJ (k 1) 9 (ekP (0) (y7.toInt))), (h10, aJ (k 1) 900 (lsP (h0f9.toInt)))] H → va_S A s.heap H locs → lv_has ls 4 [(0, .ref h0), (1, .int x1), (2, .ref h1), (3, .int y7)] → W p l e Rm_cX11_takesElement_1ccf7 s m args below meth c H locs 0 0 Q (F0 m 2 ls []) := by
    intro n
    induction n with
    | zero => intro y7 H locs ls b_y7 hm hT hS hl; exact absurd hm (Nat.not_lt_zero _)
    | succ n ih =>
      intro y7 H locs ls b_y7 hm hT hS hl
      have ih2_8 := ih
      clear ih
      refine lv_iload_n hx hb dX11_takesElement_2 rfl (lv_at hl 3 rfl) ?_
      refine lv_bipush (v := 9) hx hb dX11_takesElement_3 (by decide) ?_
      refine lv_icmp_ge (tgt := 28) hx hb dX11_takesElement_5 (by decide) (fun c_9 => ?_) (fun c_9 => ?_)
      · skip
        have c_9 := ni_le c_9 li_9 rfl
        have hT := hT.wk (q := 1) (P' := aJ (k 1) 9 (b9P )) rfl (cv_ek_b9 (by omega))
        have hT : TP D A [(h0, ob 8 [.int h0f0, .int h0f1, .int h0f2, .int h0f3, .int h0f4, .int h0f5, .ref h2, .ref h3, .int h0f8, .int h0f9, .ref h4, .ref h5, .ref h1, .ref h6, .ref h7, .ref h8, .ref h9, .int h0f17, .int h0f18, .int h0f19, .ref h10, .ref h11, .ref h12, .ref h13, .int h0f24, .int h0f25, .ref h14, .ref h15, .ref h16, .ref h17, .int h0f30, .int h0f31, .ref h18, .ref h19, .ref h20, .ref h21]), (h1, aJ (k 1) 9 (b9P )), (h10, aJ (k 1) 900 (lsP (h0f9.toInt)))] _ := hT
        exact tz_retV (B := B_cX11_takesElement_1ccf7 D k h0 h1 h10 h2 h3 h4 h5 h6 h7 h8 h9 h11 h12 h13 h14 h15 h16 h17 h18 h19 h20 h21 x1 h0f0 h0f1 h0f2 h0f3 h0f4 h0f5 h0f8 h0f9 h0f17 h0f18 h0f19 h0f24 h0f25 h0f30 h0f31) hQ hx hb hr hlocks hS (Nat.le_of_ble_eq_true rfl) (Nat.le_of_ble_eq_true rfl) dX11_takesElement_28 (hT)
      · skip
        have c_9 := ni_nle c_9 li_9 rfl
        refine lv_aload_n hx hb dX11_takesElement_8 rfl (lv_at hl 2 rfl) ?_
        refine lv_iload_n hx hb dX11_takesElement_9 rfl (lv_at hl 3 rfl) ?_
        refine lv_aload_n hx hb dX11_takesElement_10 rfl (lv_at hl 0 rfl) ?_
        refine tz_get (ci := 8) (v := .ref h10) (C := RX11) (F := TX11) (N := 36) hx hb hU iX11 hown hK hT 0 rfl rfl 20 (by decide) w805 (fun _ h9 => h9) rfl dX11_takesElement_11 ?_
        refine lv_bipush (v := 9) hx hb dX11_takesElement_14 (by decide) ?_
        refine lv_iload_n hx hb dX11_takesElement_16 rfl (lv_at hl 1 rfl) ?_
        refine lv_imul hx hb dX11_takesElement_17 (lv_topi (fun v10 e_v10 => ?_))
        have e_v10 := ai_mul e_v10 li_9 rfl (by omega)
        refine lv_iload_n hx hb dX11_takesElement_18 rfl (lv_at hl 3 rfl) ?_
        refine lv_iadd hx hb dX11_takesElement_19 (lv_topi (fun v11 e_v11 => ?_))
        have e_v11 := ai_add e_v11 rfl rfl (by omega)
        refine tz_lald hx hb hK hT 2 rfl (by omega) dX11_takesElement_20 (fun v12 e_v12 => ?_)
        have e_v12 := ls_get e_v12
        refine tz_lastP hx hb hK hT hS 1 (ekP (0) (y7.toInt + 1)) rfl (by omega) (ek_put (by omega)) dX11_takesElement_21 (fun H locs hT hS => ?_)
        have hT : TP D A [(h0, ob 8 [.int h0f0, .int h0f1, .int h0f2, .int h0f3, .int h0f4, .int h0f5, .ref h2, .ref h3, .int h0f8, .int h0f9, .ref h4, .ref h5, .ref h1, .ref h6, .ref h7, .ref h8, .ref h9, .int h0f17, .int h0f18, .int h0f19, .ref h10, .ref h11, .ref h12, .ref h13, .int h0f24, .int h0f25, .ref h14, .ref h15, .ref h16, .ref h17, .int h0f30, .int h0f31, .ref h18, .ref h19, .ref h20, .ref h21]), (h1, aJ (k 1) 9 (ekP (0) (y7.toInt + 1))), (h10, aJ (k 1) 900 (lsP (h0f9.toInt)))] _ := hT
        obtain ⟨v13, e_v13⟩ : ∃ x : Int32, x = y7 + Int32.ofInt 1 := ⟨_, rfl⟩
        have f_v13 := e_v13.symm
        have e_v13 : v13.toInt = y7.toInt + 1 := ai_add e_v13 rfl (show (Int32.ofInt 1).toInt = 1 from (by decide +kernel)) (by omega)
        refine lv_iinc (v := v13) (lv' := [(3, .int v13), (0, .ref h0), (1, .int x1), (2, .ref h1)]) hx hb dX11_takesElement_22 hl (k := 3) rfl f_v13 (by decide) rfl (fun ls hl => ?_)
        refine lv_goto (tgt := 2) hx hb dX11_takesElement_25 (by decide) ?_
        have hT := hT.wk (q := 1) (P' := aJ (k 1) 9 (ekP (0) (v13.toInt))) rfl (cv_ek_ek (by omega))
        have hT : TP D A [(h0, ob 8 [.int h0f0, .int h0f1, .int h0f2, .int h0f3, .int h0f4, .int h0f5, .ref h2, .ref h3, .int h0f8, .int h0f9, .ref h4, .ref h5, .ref h1, .ref h6, .ref h7, .ref h8, .ref h9, .int h0f17, .int h0f18, .int h0f19, .ref h10, .ref h11, .ref h12, .ref h13, .int h0f24, .int h0f25, .ref h14, .ref h15, .ref h16, .ref h17, .int h0f30, .int h0f31, .ref h18, .ref h19, .ref h20, .ref h21]), (h1, aJ (k 1) 9 (ekP (0) (v13.toInt))), (h10, aJ (k 1) 900 (lsP (h0f9.toInt)))] _ := hT
        exact ih2_8 v13 _ _ _ (by omega)  (by omega) hT hS (lv_sub hl [1, 2, 3, 0] rfl)
  exact lp2_8 (((-1) * (0 : Int32).toInt + 9 + 1).toNat + 1) (0) _ _ _ (by have := li_0; omega)  (Nat.lt_succ_self _) hT hS (lv_sub hl [1, 2, 3, 0] rfl)
abbrev Rm_cX11_findForm_b515d : Room := { frames := 1, cells := 0, slots := 0, locals := 23 }
abbrev B_cX11_findForm_b515d (D : va_G) (k : Nat → ClassId) (h0 h4 h5 h10 h1 h2 h3 h6 h7 h8 h9 h11 h12 h13 h14 h15 h16 h17 h18 h19 h20 h21 : Nat) (h0f0 : Int32) (h0f1 : Int32) (h0f2 : Int32) (h0f3 : Int32) (h0f4 : Int32) (h0f5 : Int32) (h0f8 : Int32) (h0f9 : Int32) (h0f17 : Int32) (h0f18 : Int32) (h0f19 : Int32) (h0f24 : Int32) (h0f25 : Int32) (h0f30 : Int32) (h0f31 : Int32) (A : Nat → Prop) (r : Int32) (H : Heap) : Prop := (∃ o0 : Int32, ∃ o1 : Int32, (0 ≤ o0.toInt ∧ o0.toInt ≤ 0) ∧ (1 ≤ o1.toInt ∧ o1.toInt ≤ 100) ∧ h0f8.toInt ≤ h0f3.toInt ∧ h0f9.toInt ≤ h0f24.toInt ∧ h0f24.toInt ≤ o1.toInt ∧ o0.toInt = 0 ∧ o0 = r ∧ TP D A [(h0, ob 8 [.int h0f0, .int h0f1, .int h0f2, .int h0f3, .int h0f4, .int h0f5, .ref h1, .ref h2, .int h0f8, .int h0f9, .ref h3, .ref h4, .ref h5, .ref h6, .ref h7, .ref h8, .ref h9, .int h0f17, .int h0f18, .int h0f19, .ref h10, .ref h11, .ref h12, .ref h13, .int h0f24, .int h0f25, .ref h14, .ref h15, .ref h16, .ref h17, .int h0f30, .int h0f31, .ref h18, .ref h19, .ref h20, .ref h21]), (h4, aJ (k 1) 9 anJ), (h5, aJ (k 1) 9 anJ), (h10, aJ (k 1) 900 (lsP (h0f9.toInt)))] H) ∨ (∃ o0 : Int32, ∃ o1 : Int32, (1 ≤ o0.toInt ∧ o0.toInt ≤ 1) ∧ (1 ≤ o1.toInt ∧ o1.toInt ≤ 100) ∧ h0f8.toInt ≤ h0f3.toInt ∧ h0f9.toInt ≤ h0f24.toInt ∧ h0f24.toInt ≤ o1.toInt ∧ o0.toInt = 1 ∧ o0 = r ∧ TP D A [(h0, ob 8 [.int h0f0, .int h0f1, .int h0f2, .int h0f3, .int h0f4, .int h0f5, .ref h1, .ref h2, .int h0f8, .int h0f9, .ref h3, .ref h4, .ref h5, .ref h6, .ref h7, .ref h8, .ref h9, .int h0f17, .int h0f18, .int h0f19, .ref h10, .ref h11, .ref h12, .ref h13, .int h0f24, .int h0f25, .ref h14, .ref h15, .ref h16, .ref h17, .int h0f30, .int h0f31, .ref h18, .ref h19, .ref h20, .ref h21]), (h4, aJ (k 1) 9 (f1P )), (h5, aJ (k 1) 9 anJ), (h10, aJ (k 1) 900 (lsP (h0f9.toInt)))] H)
set_option maxHeartbeats 4000000 in
set_option maxRecDepth 100000 in
theorem cX11_findForm_b515d (l : Launch) (D : va_G) (k : Nat → ClassId) (sz : Nat) (h0 h4 h5 h10 h1 h2 h3 h6 h7 h8 h9 h11 h12 h13 h14 h15 h16 h17 h18 h19 h20 h21 : Nat) (h0f0 : Int32) (h0f1 : Int32) (h0f2 : Int32) (h0f3 : Int32) (h0f4 : Int32) (h0f5 : Int32) (h0f8 : Int32) (h0f9 : Int32) (h0f17 : Int32) (h0f18 : Int32) (h0f19 : Int32) (h0f24 : Int32) (h0f25 : Int32) (h0f30 : Int32) (h0f31 : Int32) (b_h0f0 : 1 ≤ h0f0.toInt ∧ h0f0.toInt ≤ 3) (b_h0f1 : 0 ≤ h0f1.toInt ∧ h0f1.toInt ≤ 4) (b_h0f3 : 0 ≤ h0f3.toInt ∧ h0f3.toInt ≤ 3) (b_h0f4 : 0 ≤ h0f4.toInt ∧ h0f4.toInt ≤ 4) (b_h0f8 : 0 ≤ h0f8.toInt ∧ h0f8.toInt ≤ 1) (b_h0f9 : 1 ≤ h0f9.toInt ∧ h0f9.toInt ≤ 1) (b_h0f17 : 0 ≤ h0f17.toInt ∧ h0f17.toInt ≤ 120) (b_h0f18 : 0 ≤ h0f18.toInt ∧ h0f18.toInt ≤ 120) (b_h0f19 : 0 ≤ h0f19.toInt ∧ h0f19.toInt ≤ 4) (b_h0f24 : 1 ≤ h0f24.toInt ∧ h0f24.toInt ≤ 100) (b_h0f25 : 1 ≤ h0f25.toInt ∧ h0f25.toInt ≤ 1) (b_h0f30 : 0 ≤ h0f30.toInt ∧ h0f30.toInt ≤ 60) (b_h0f31 : 0 ≤ h0f31.toInt ∧ h0f31.toInt ≤ 1) (i_0 : h0f8.toInt ≤ h0f3.toInt) (i_1 : h0f9.toInt ≤ h0f24.toInt) : Met l yX11_findForm (Cond.code yX11_findForm cX11_findForm 9 (some .boolean) :: uw) Rm_cX11_findForm_b515d (pT D k sz [.ref h0] [(h0, ob 8 [.int h0f0, .int h0f1, .int h0f2, .int h0f3, .int h0f4, .int h0f5, .ref h1, .ref h2, .int h0f8, .int h0f9, .ref h3, .ref h4, .ref h5, .ref h6, .ref h7, .ref h8, .ref h9, .int h0f17, .int h0f18, .int h0f19, .ref h10, .ref h11, .ref h12, .ref h13, .int h0f24, .int h0f25, .ref h14, .ref h15, .ref h16, .ref h17, .int h0f30, .int h0f31, .ref h18, .ref h19, .ref h20, .ref h21]), (h4, aJ (k 1) 9 anJ), (h5, aJ (k 1) 9 anJ), (h10, aJ (k 1) 900 (lsP (h0f9.toInt)))]) (qI (B_cX11_findForm_b515d D k h0 h4 h5 h10 h1 h2 h3 h6 h7 h8 h9 h11 h12 h13 h14 h15 h16 h17 h18 h19 h20 h21 h0f0 h0f1 h0f2 h0f3 h0f4 h0f5 h0f8 h0f9 h0f17 h0f18 h0f19 h0f24 h0f25 h0f30 h0f31 (zA [h0, h4, h5, h10] sz)) (zA [h0, h4, h5, h10] sz)) 0 0 (zA [h0, h4, h5, h10] sz) := by
  refine tz_begin (as := [h0, h4, h5, h10]) (Qc := fun A => qI (B_cX11_findForm_b515d D k h0 h4 h5 h10 h1 h2 h3 h6 h7 h8 h9 h11 h12 h13 h14 h15 h16 h17 h18 h19 h20 h21 h0f0 h0f1 h0f2 h0f3 h0f4 h0f5 h0f8 h0f9 h0f17 h0f18 h0f19 h0f24 h0f25 h0f30 h0f31 A) A) (by decide +kernel) rfl (Nat.le_of_ble_eq_true rfl) ?_
  intro p e s m args below meth c ls A Q hx hb hr hml hown hlocks hin hU hK hT hS hA hl hQ
  have hl : lv_has ls 9 [(0, .ref h0)] := hl
  have hT : TP D A [(h0, ob 8 [.int h0f0, .int h0f1, .int h0f2, .int h0f3, .int h0f4, .int h0f5, .ref h1, .ref h2, .int h0f8, .int h0f9, .ref h3, .ref h4, .ref h5, .ref h6, .ref h7, .ref h8, .ref h9, .int h0f17, .int h0f18, .int h0f19, .ref h10, .ref h11, .ref h12, .ref h13, .int h0f24, .int h0f25, .ref h14, .ref h15, .ref h16, .ref h17, .int h0f30, .int h0f31, .ref h18, .ref h19, .ref h20, .ref h21]), (h4, aJ (k 1) 9 anJ), (h5, aJ (k 1) 9 anJ), (h10, aJ (k 1) 900 (lsP (h0f9.toInt)))] s.heap := hT
  refine lv_aload_n hx hb dX11_findForm_0 rfl (lv_at hl 0 rfl) ?_
  refine lv_aload_n hx hb dX11_findForm_1 rfl (lv_at hl 0 rfl) ?_
  refine tz_get (ci := 8) (v := .ref h4) (C := RX11) (F := TX11) (N := 36) hx hb hU iX11 hown hK hT 0 rfl rfl 11 (by decide) w796 (fun _ h9 => h9) rfl dX11_findForm_2 ?_
  refine tcV (Tc := [(h0, ob 8 [.int h0f0, .int h0f1, .int h0f2, .int h0f3, .int h0f4, .int h0f5, .ref h1, .ref h2, .int h0f8, .int h0f9, .ref h3, .ref h4, .ref h5, .ref h6, .ref h7, .ref h8, .ref h9, .int h0f17, .int h0f18, .int h0f19, .ref h10, .ref h11, .ref h12, .ref h13, .int h0f24, .int h0f25, .ref h14, .ref h15, .ref h16, .ref h17, .int h0f30, .int h0f31, .ref h18, .ref h19, .ref h20, .ref h21]), (h4, aJ (k 1) 9 anJ)]) (Tr := [(h5, aJ (k 1) 9 anJ), (h10, aJ (k 1) 900 (lsP (h0f9.toInt)))]) (as := [h0, h4]) (zcV (q0 := 0) (ci := 8) (As := [.ref h4]) (rest := []) (Tc := [(h0, ob 8 [.int h0f0, .int h0f1, .int h0f2, .int h0f3, .int h0f4, .int h0f5, .ref h1, .ref h2, .int h0f8, .int h0f9, .ref h3, .ref h4, .ref h5, .ref h6, .ref h7, .ref h8, .ref h9, .int h0f17, .int h0f18, .int h0f19, .ref h10, .ref h11, .ref h12, .ref h13, .int h0f24, .int h0f25, .ref h14, .ref h15, .ref h16, .ref h17, .int h0f30, .int h0f31, .ref h18, .ref h19, .ref h20, .ref h21]), (h4, aJ (k 1) 9 anJ)]) hx hb hml hown hU hK hT rfl rfl [0, 1] rfl (by decide) (cX11_clears_baa94 l D k _ h0 h4 h1 h2 h3 h5 h6 h7 h8 h9 h10 h11 h12 h13 h14 h15 h16 h17 h18 h19 h20 h21 h0f0 h0f1 h0f2 h0f3 h0f4 h0f5 h0f8 h0f9 h0f17 h0f18 h0f19 h0f24 h0f25 h0f30 h0f31 (by omega) (by omega) (by omega) (by omega) (by omega) (by omega) (by omega) (by omega) (by omega) (by omega) (by omega) (by omega) (by omega) (by omega) (by omega)) w923 w920 w922 w29 w72 hdX11_clears ⟨rfl, rfl⟩ ⟨Nat.le_of_ble_eq_true rfl, Nat.le_of_ble_eq_true rfl⟩ rfl hl.1 (Nat.le_of_ble_eq_true rfl) dX11_findForm_5 ⟨Nat.le_of_ble_eq_true rfl, Nat.le_of_ble_eq_true rfl⟩) hT hS hA [0, 1] [2, 3] rfl rfl rfl (by decide) (by decide) (fun H locs hB J hS => ?_)
  have hT1 := hB
  have hT := J _ hT1
  have hT : TP D A [(h5, aJ (k 1) 9 anJ), (h10, aJ (k 1) 900 (lsP (h0f9.toInt))), (h0, ob 8 [.int h0f0, .int h0f1, .int h0f2, .int h0f3, .int h0f4, .int h0f5, .ref h1, .ref h2, .int h0f8, .int h0f9, .ref h3, .ref h4, .ref h5, .ref h6, .ref h7, .ref h8, .ref h9, .int h0f17, .int h0f18, .int h0f19, .ref h10, .ref h11, .ref h12, .ref h13, .int h0f24, .int h0f25, .ref h14, .ref h15, .ref h16, .ref h17, .int h0f30, .int h0f31, .ref h18, .ref h19, .ref h20, .ref h21]), (h4, aJ (k 1) 9 (z9P ))] _ := hT
  refine lv_iconst (v := 1) hx hb dX11_findForm_8 (by decide) ?_
  refine lv_istore_n (lv' := [(1, .int 1), (0, .ref h0)]) hx hb dX11_findForm_9 rfl hl (by decide) rfl (fun ls hl => ?_)
  refine lv_iconst (v := 0) hx hb dX11_findForm_10 (by decide) ?_
  refine lv_istore_n (lv' := [(2, .int 0), (1, .int 1), (0, .ref h0)]) hx hb dX11_findForm_11 rfl hl (by decide) rfl (fun ls hl => ?_)
  have hT := hT.wk (q := 3) (P' := aJ (k 1) 9 (oP ((1 : Int32).toInt) ((0 : Int32).toInt))) rfl (cv_z9_o (by have := li_1; have := li_0; omega))
  have hT : TP D A [(h5, aJ (k 1) 9 anJ), (h10, aJ (k 1) 900 (lsP (h0f9.toInt))), (h0, ob 8 [.int h0f0, .int h0f1, .int h0f2, .int h0f3, .int h0f4, .int h0f5, .ref h1, .ref h2, .int h0f8, .int h0f9, .ref h3, .ref h4, .ref h5, .ref h6, .ref h7, .ref h8, .ref h9, .int h0f17, .int h0f18, .int h0f19, .ref h10, .ref h11, .ref h12, .ref h13, .int h0f24, .int h0f25, .ref h14, .ref h15, .ref h16, .ref h17, .int h0f30, .int h0f31, .ref h18, .ref h19, .ref h20, .ref h21]), (h4, aJ (k 1) 9 (oP ((1 : Int32).toInt) ((0 : Int32).toInt)))] _ := hT
  have lp12_4 : ∀ (n : Nat) (y2 : Int32) (y3 : Int32) (H : Heap) (locs : List Loc) (ls : Array Slot), (0 ≤ y2.toInt ∧ y2.toInt ≤ 100) → (0 ≤ y3.toInt ∧ y3.toInt ≤ 1) → (h0f24.toInt + (-1) * y2.toInt + 1).toNat < n → TP D A [(h5, aJ (k 1) 9 anJ), (h10, aJ (k 1) 900 (lsP (h0f9.toInt))), (h0, ob 8 [.int h0f0, .int h0f1, .int h0f2, .int h0f3, .int h0f4, .int h0f5, .ref h1, .ref h2, .int h0f8, .int h0f9, .ref h3, .ref h4, .ref h5, .ref h6, .ref h7, .ref h8, .ref h9, .int h0f17, .int h0f18, .int h0f19, .ref h10, .ref h11, .ref h12, .ref h13, .int h0f24, .int h0f25, .ref h14, .ref h15, .ref h16, .ref h17, .int h0f30, .int h0f31, .ref h18, .ref h19, .ref h20, .ref h21]), (h4, aJ (k 1) 9 (oP (y3.toInt) (y2.toInt)))] H → va_S A s.heap H locs → lv_has ls 9 [(0, .ref h0), (1, .int y3), (2, .int y2)] → W p l e Rm_cX11_findForm_b515d s m args below meth c H locs 0 0 Q (F0 m 12 ls []) := by
    intro n
    induction n with
    | zero => intro y2 y3 H locs ls b_y2 b_y3 hm hT hS hl; exact absurd hm (Nat.not_lt_zero _)
    | succ n ih =>
      intro y2 y3 H locs ls b_y2 b_y3 hm hT hS hl
      have ih12_4 := ih
      clear ih
      refine lv_iload_n hx hb dX11_findForm_12 rfl (lv_at hl 2 rfl) ?_
      refine lv_aload_n hx hb dX11_findForm_13 rfl (lv_at hl 0 rfl) ?_
      refine tz_get (ci := 8) (v := .int h0f24) (C := RX11) (F := TX11) (N := 36) hx hb hU iX11 hown hK hT 2 rfl rfl 24 (by decide) w809 (fun _ h9 => h9) rfl dX11_findForm_14 ?_
      refine lv_icmp_ge (tgt := 221) hx hb dX11_findForm_17 (by decide) (fun c_5 => ?_) (fun c_5 => ?_)
      · skip
        have c_5 := ni_le c_5 rfl rfl
        refine lv_iload_n hx hb dX11_findForm_221 rfl (lv_at hl 1 rfl) ?_
        rcases (show y3.toInt = 0 ∨ y3.toInt = 1 by omega) with hq6 | hq6
        · skip
          have hT := hT.wk (q := 3) (P' := aJ (k 1) 9 anJ) rfl (an_J)
          have hT : TP D A [(h5, aJ (k 1) 9 anJ), (h10, aJ (k 1) 900 (lsP (h0f9.toInt))), (h0, ob 8 [.int h0f0, .int h0f1, .int h0f2, .int h0f3, .int h0f4, .int h0f5, .ref h1, .ref h2, .int h0f8, .int h0f9, .ref h3, .ref h4, .ref h5, .ref h6, .ref h7, .ref h8, .ref h9, .int h0f17, .int h0f18, .int h0f19, .ref h10, .ref h11, .ref h12, .ref h13, .int h0f24, .int h0f25, .ref h14, .ref h15, .ref h16, .ref h17, .int h0f30, .int h0f31, .ref h18, .ref h19, .ref h20, .ref h21]), (h4, aJ (k 1) 9 anJ)] _ := hT
          exact tz_retZ (B := B_cX11_findForm_b515d D k h0 h4 h5 h10 h1 h2 h3 h6 h7 h8 h9 h11 h12 h13 h14 h15 h16 h17 h18 h19 h20 h21 h0f0 h0f1 h0f2 h0f3 h0f4 h0f5 h0f8 h0f9 h0f17 h0f18 h0f19 h0f24 h0f25 h0f30 h0f31) (v := y3) hQ hx hb hr hlocks hS (Nat.le_of_ble_eq_true rfl) (Nat.le_of_ble_eq_true rfl) dX11_findForm_222 (by omega) (Or.inl ⟨y3, y2, (by omega), (by omega), (by omega), (by omega), (by omega), (by omega), rfl, (hT.sub [2, 3, 0, 1] (by decide) rfl)⟩)
        · skip
          have hT := hT.wk (q := 3) (P' := aJ (k 1) 9 (f1P )) rfl (cv_o_f1 (by omega))
          have hT : TP D A [(h5, aJ (k 1) 9 anJ), (h10, aJ (k 1) 900 (lsP (h0f9.toInt))), (h0, ob 8 [.int h0f0, .int h0f1, .int h0f2, .int h0f3, .int h0f4, .int h0f5, .ref h1, .ref h2, .int h0f8, .int h0f9, .ref h3, .ref h4, .ref h5, .ref h6, .ref h7, .ref h8, .ref h9, .int h0f17, .int h0f18, .int h0f19, .ref h10, .ref h11, .ref h12, .ref h13, .int h0f24, .int h0f25, .ref h14, .ref h15, .ref h16, .ref h17, .int h0f30, .int h0f31, .ref h18, .ref h19, .ref h20, .ref h21]), (h4, aJ (k 1) 9 (f1P ))] _ := hT
          exact tz_retZ (B := B_cX11_findForm_b515d D k h0 h4 h5 h10 h1 h2 h3 h6 h7 h8 h9 h11 h12 h13 h14 h15 h16 h17 h18 h19 h20 h21 h0f0 h0f1 h0f2 h0f3 h0f4 h0f5 h0f8 h0f9 h0f17 h0f18 h0f19 h0f24 h0f25 h0f30 h0f31) (v := y3) hQ hx hb hr hlocks hS (Nat.le_of_ble_eq_true rfl) (Nat.le_of_ble_eq_true rfl) dX11_findForm_222 (by omega) (Or.inr (⟨y3, y2, (by omega), (by omega), (by omega), (by omega), (by omega), (by omega), rfl, (hT.sub [2, 3, 0, 1] (by decide) rfl)⟩))
      · skip
        have c_5 := ni_nle c_5 rfl rfl
        rcases (show y2.toInt = 0 ∨ 1 ≤ y2.toInt by omega) with hz7 | hz7
        · skip
          refine lv_aload_n hx hb dX11_findForm_20 rfl (lv_at hl 0 rfl) ?_
          refine lv_iload_n hx hb dX11_findForm_21 rfl (lv_at hl 2 rfl) ?_
          refine lv_aload_n hx hb dX11_findForm_22 rfl (lv_at hl 0 rfl) ?_
          refine tz_get (ci := 8) (v := .ref h5) (C := RX11) (F := TX11) (N := 36) hx hb hU iX11 hown hK hT 2 rfl rfl 12 (by decide) w797 (fun _ h9 => h9) rfl dX11_findForm_23 ?_
          refine tcV (Tc := [(h0, ob 8 [.int h0f0, .int h0f1, .int h0f2, .int h0f3, .int h0f4, .int h0f5, .ref h1, .ref h2, .int h0f8, .int h0f9, .ref h3, .ref h4, .ref h5, .ref h6, .ref h7, .ref h8, .ref h9, .int h0f17, .int h0f18, .int h0f19, .ref h10, .ref h11, .ref h12, .ref h13, .int h0f24, .int h0f25, .ref h14, .ref h15, .ref h16, .ref h17, .int h0f30, .int h0f31, .ref h18, .ref h19, .ref h20, .ref h21]), (h5, aJ (k 1) 9 anJ), (h10, aJ (k 1) 900 (lsP (h0f9.toInt)))]) (Tr := [(h4, aJ (k 1) 9 (oP (y3.toInt) (y2.toInt)))]) (as := [h0, h5, h10]) (zcV (q0 := 2) (ci := 8) (As := [.int y2, .ref h5]) (rest := []) (Tc := [(h0, ob 8 [.int h0f0, .int h0f1, .int h0f2, .int h0f3, .int h0f4, .int h0f5, .ref h1, .ref h2, .int h0f8, .int h0f9, .ref h3, .ref h4, .ref h5, .ref h6, .ref h7, .ref h8, .ref h9, .int h0f17, .int h0f18, .int h0f19, .ref h10, .ref h11, .ref h12, .ref h13, .int h0f24, .int h0f25, .ref h14, .ref h15, .ref h16, .ref h17, .int h0f30, .int h0f31, .ref h18, .ref h19, .ref h20, .ref h21]), (h5, aJ (k 1) 9 anJ), (h10, aJ (k 1) 900 (lsP (h0f9.toInt)))]) hx hb hml hown hU hK hT rfl rfl [2, 0, 1] rfl (by decide) (cX11_takesElement_12645 l D k _ h0 h5 h10 h1 h2 h3 h4 h6 h7 h8 h9 h11 h12 h13 h14 h15 h16 h17 h18 h19 h20 h21 y2 h0f0 h0f1 h0f2 h0f3 h0f4 h0f5 h0f8 h0f9 h0f17 h0f18 h0f19 h0f24 h0f25 h0f30 h0f31 (by omega) (by omega) (by omega) (by omega) (by omega) (by omega) (by omega) (by omega) (by omega) (by omega) (by omega) (by omega) (by omega) (by omega) (by omega) (by omega)) w1047 w1044 w1046 w49 w72 hdX11_takesElement ⟨rfl, rfl⟩ ⟨Nat.le_of_ble_eq_true rfl, Nat.le_of_ble_eq_true rfl⟩ rfl hl.1 (Nat.le_of_ble_eq_true rfl) dX11_findForm_26 ⟨Nat.le_of_ble_eq_true rfl, Nat.le_of_ble_eq_true rfl⟩) hT hS hA [2, 0, 1] [3] rfl rfl rfl (by decide) (by decide) (fun H locs hB J hS => ?_)
          have hT1 := hB
          have hT := J _ hT1
          have hT : TP D A [(h4, aJ (k 1) 9 (oP (y3.toInt) (y2.toInt))), (h0, ob 8 [.int h0f0, .int h0f1, .int h0f2, .int h0f3, .int h0f4, .int h0f5, .ref h1, .ref h2, .int h0f8, .int h0f9, .ref h3, .ref h4, .ref h5, .ref h6, .ref h7, .ref h8, .ref h9, .int h0f17, .int h0f18, .int h0f19, .ref h10, .ref h11, .ref h12, .ref h13, .int h0f24, .int h0f25, .ref h14, .ref h15, .ref h16, .ref h17, .int h0f30, .int h0f31, .ref h18, .ref h19, .ref h20, .ref h21]), (h5, aJ (k 1) 9 (idP )), (h10, aJ (k 1) 900 (lsP (h0f9.toInt)))] _ := hT
          refine lv_iconst (v := 0) hx hb dX11_findForm_29 (by decide) ?_
          refine lv_istore_n (lv' := [(3, .int 0), (0, .ref h0), (1, .int y3), (2, .int y2)]) hx hb dX11_findForm_30 rfl hl (by decide) rfl (fun ls hl => ?_)
          have hT := hT.wk (q := 0) (P' := aJ (k 1) 9 (oP (y3.toInt) (y2.toInt + (0 : Int32).toInt))) rfl (cv_o_o (by have := li_0; omega))
          have hT : TP D A [(h4, aJ (k 1) 9 (oP (y3.toInt) (y2.toInt + (0 : Int32).toInt))), (h0, ob 8 [.int h0f0, .int h0f1, .int h0f2, .int h0f3, .int h0f4, .int h0f5, .ref h1, .ref h2, .int h0f8, .int h0f9, .ref h3, .ref h4, .ref h5, .ref h6, .ref h7, .ref h8, .ref h9, .int h0f17, .int h0f18, .int h0f19, .ref h10, .ref h11, .ref h12, .ref h13, .int h0f24, .int h0f25, .ref h14, .ref h15, .ref h16, .ref h17, .int h0f30, .int h0f31, .ref h18, .ref h19, .ref h20, .ref h21]), (h5, aJ (k 1) 9 (idP )), (h10, aJ (k 1) 900 (lsP (h0f9.toInt)))] _ := hT
          have lp31_11 : ∀ (n : Nat) (y9 : Int32) (y10 : Int32) (H : Heap) (locs : List Loc) (ls : Array Slot), (0 ≤ y9.toInt ∧ y9.toInt ≤ 3) → (0 ≤ y10.toInt ∧ y10.toInt ≤ 1) → (h0f0.toInt + (-1) * y9.toInt + 1).toNat < n → TP D A [(h4, aJ (k 1) 9 (oP (y10.toInt) (y2.toInt + y9.toInt))), (h0, ob 8 [.int h0f0, .int h0f1, .int h0f2, .int h0f3, .int h0f4, .int h0f5, .ref h1, .ref h2, .int h0f8, .int h0f9, .ref h3, .ref h4, .ref h5, .ref h6, .ref h7, .ref h8, .ref h9, .int h0f17, .int h0f18, .int h0f19, .ref h10, .ref h11, .ref h12, .ref h13, .int h0f24, .int h0f25, .ref h14, .ref h15, .ref h16, .ref h17, .int h0f30, .int h0f31, .ref h18, .ref h19, .ref h20, .ref h21]), (h5, aJ (k 1) 9 (idP )), (h10, aJ (k 1) 900 (lsP (h0f9.toInt)))] H → va_S A s.heap H locs → lv_has ls 9 [(0, .ref h0), (1, .int y10), (2, .int y2), (3, .int y9)] → W p l e Rm_cX11_findForm_b515d s m args below meth c H locs 0 0 Q (F0 m 31 ls []) := by
            intro n
            induction n with
            | zero => intro y9 y10 H locs ls b_y9 b_y10 hm hT hS hl; exact absurd hm (Nat.not_lt_zero _)
            | succ n ih =>
              intro y9 y10 H locs ls b_y9 b_y10 hm hT hS hl
              have ih31_11 := ih
              clear ih
              refine lv_iload_n hx hb dX11_findForm_31 rfl (lv_at hl 3 rfl) ?_
              refine lv_aload_n hx hb dX11_findForm_32 rfl (lv_at hl 0 rfl) ?_
              refine tz_get (ci := 8) (v := .int h0f0) (C := RX11) (F := TX11) (N := 36) hx hb hU iX11 hown hK hT 1 rfl rfl 0 (by decide) w785 (fun _ h9 => h9) rfl dX11_findForm_33 ?_
              refine lv_icmp_ge (tgt := 215) hx hb dX11_findForm_36 (by decide) (fun c_12 => ?_) (fun c_12 => ?_)
              · skip
                have c_12 := ni_le c_12 rfl rfl
                obtain ⟨v13, e_v13⟩ : ∃ x : Int32, x = y2 + Int32.ofInt 1 := ⟨_, rfl⟩
                have f_v13 := e_v13.symm
                have e_v13 : v13.toInt = 0 + 1 := ai_add e_v13 hz7 (show (Int32.ofInt 1).toInt = 1 from (by decide +kernel)) (by omega)
                refine lv_iinc (v := v13) (lv' := [(2, .int v13), (0, .ref h0), (1, .int y10), (3, .int y9)]) hx hb dX11_findForm_215 hl (k := 2) rfl f_v13 (by decide) rfl (fun ls hl => ?_)
                refine lv_goto (tgt := 12) hx hb dX11_findForm_218 (by decide) ?_
                have hT := hT.wk (q := 0) (P' := aJ (k 1) 9 (oP (y10.toInt) (v13.toInt))) rfl (cv_o_o (by omega))
                have hT : TP D A [(h4, aJ (k 1) 9 (oP (y10.toInt) (v13.toInt))), (h0, ob 8 [.int h0f0, .int h0f1, .int h0f2, .int h0f3, .int h0f4, .int h0f5, .ref h1, .ref h2, .int h0f8, .int h0f9, .ref h3, .ref h4, .ref h5, .ref h6, .ref h7, .ref h8, .ref h9, .int h0f17, .int h0f18, .int h0f19, .ref h10, .ref h11, .ref h12, .ref h13, .int h0f24, .int h0f25, .ref h14, .ref h15, .ref h16, .ref h17, .int h0f30, .int h0f31, .ref h18, .ref h19, .ref h20, .ref h21]), (h5, aJ (k 1) 9 (idP )), (h10, aJ (k 1) 900 (lsP (h0f9.toInt)))] _ := hT
                have hT := hT.wk (q := 2) (P' := aJ (k 1) 9 anJ) rfl (an_J)
                have hT : TP D A [(h4, aJ (k 1) 9 (oP (y10.toInt) (v13.toInt))), (h0, ob 8 [.int h0f0, .int h0f1, .int h0f2, .int h0f3, .int h0f4, .int h0f5, .ref h1, .ref h2, .int h0f8, .int h0f9, .ref h3, .ref h4, .ref h5, .ref h6, .ref h7, .ref h8, .ref h9, .int h0f17, .int h0f18, .int h0f19, .ref h10, .ref h11, .ref h12, .ref h13, .int h0f24, .int h0f25, .ref h14, .ref h15, .ref h16, .ref h17, .int h0f30, .int h0f31, .ref h18, .ref h19, .ref h20, .ref h21]), (h5, aJ (k 1) 9 anJ), (h10, aJ (k 1) 900 (lsP (h0f9.toInt)))] _ := hT
                exact ih12_4 v13 y10 _ _ _ (by omega) (by omega)  (by omega) (hT.sub [2, 3, 1, 0] (by decide) rfl) hS (lv_sub hl [1, 2, 0] rfl)
              · skip
                have c_12 := ni_nle c_12 rfl rfl
                refine lv_iconst (v := 0) hx hb dX11_findForm_39 (by decide) ?_
                refine lv_istore (lv' := [(4, .int 0), (0, .ref h0), (1, .int y10), (2, .int y2), (3, .int y9)]) hx hb dX11_findForm_40 hl (by decide) rfl (fun ls hl => ?_)
                have hT := hT.wk (q := 0) (P' := aJ (k 1) 9 (oP (y10.toInt) (y2.toInt + y9.toInt + (0 : Int32).toInt))) rfl (cv_o_o (by have := li_0; omega))
                have hT : TP D A [(h4, aJ (k 1) 9 (oP (y10.toInt) (y2.toInt + y9.toInt + (0 : Int32).toInt))), (h0, ob 8 [.int h0f0, .int h0f1, .int h0f2, .int h0f3, .int h0f4, .int h0f5, .ref h1, .ref h2, .int h0f8, .int h0f9, .ref h3, .ref h4, .ref h5, .ref h6, .ref h7, .ref h8, .ref h9, .int h0f17, .int h0f18, .int h0f19, .ref h10, .ref h11, .ref h12, .ref h13, .int h0f24, .int h0f25, .ref h14, .ref h15, .ref h16, .ref h17, .int h0f30, .int h0f31, .ref h18, .ref h19, .ref h20, .ref h21]), (h5, aJ (k 1) 9 (idP )), (h10, aJ (k 1) 900 (lsP (h0f9.toInt)))] _ := hT
                have lp42_16 : ∀ (n : Nat) (y14 : Int32) (y15 : Int32) (H : Heap) (locs : List Loc) (ls : Array Slot), (0 ≤ y14.toInt ∧ y14.toInt ≤ 3) → (0 ≤ y15.toInt ∧ y15.toInt ≤ 1) → (h0f0.toInt + (-1) * y14.toInt + 1).toNat < n → TP D A [(h4, aJ (k 1) 9 (oP (y15.toInt) (y2.toInt + y9.toInt + y14.toInt))), (h0, ob 8 [.int h0f0, .int h0f1, .int h0f2, .int h0f3, .int h0f4, .int h0f5, .ref h1, .ref h2, .int h0f8, .int h0f9, .ref h3, .ref h4, .ref h5, .ref h6, .ref h7, .ref h8, .ref h9, .int h0f17, .int h0f18, .int h0f19, .ref h10, .ref h11, .ref h12, .ref h13, .int h0f24, .int h0f25, .ref h14, .ref h15, .ref h16, .ref h17, .int h0f30, .int h0f31, .ref h18, .ref h19, .ref h20, .ref h21]), (h5, aJ (k 1) 9 (idP )), (h10, aJ (k 1) 900 (lsP (h0f9.toInt)))] H → va_S A s.heap H locs → lv_has ls 9 [(0, .ref h0), (1, .int y15), (2, .int y2), (3, .int y9), (4, .int y14)] → W p l e Rm_cX11_findForm_b515d s m args below meth c H locs 0 0 Q (F0 m 42 ls []) := by
                  intro n
                  induction n with
                  | zero => intro y14 y15 H locs ls b_y14 b_y15 hm hT hS hl; exact absurd hm (Nat.not_lt_zero _)
                  | succ n ih =>
                    intro y14 y15 H locs ls b_y14 b_y15 hm hT hS hl
                    have ih42_16 := ih
                    clear ih
                    refine lv_iload hx hb dX11_findForm_42 (lv_at hl 4 rfl) ?_
                    refine lv_aload_n hx hb dX11_findForm_44 rfl (lv_at hl 0 rfl) ?_
                    refine tz_get (ci := 8) (v := .int h0f0) (C := RX11) (F := TX11) (N := 36) hx hb hU iX11 hown hK hT 1 rfl rfl 0 (by decide) w785 (fun _ h9 => h9) rfl dX11_findForm_45 ?_
                    refine lv_icmp_ge (tgt := 209) hx hb dX11_findForm_48 (by decide) (fun c_17 => ?_) (fun c_17 => ?_)
                    · skip
                      have c_17 := ni_le c_17 rfl rfl
                      obtain ⟨v18, e_v18⟩ : ∃ x : Int32, x = y9 + Int32.ofInt 1 := ⟨_, rfl⟩
                      have f_v18 := e_v18.symm
                      have e_v18 : v18.toInt = y9.toInt + 1 := ai_add e_v18 rfl (show (Int32.ofInt 1).toInt = 1 from (by decide +kernel)) (by omega)
                      refine lv_iinc (v := v18) (lv' := [(3, .int v18), (0, .ref h0), (1, .int y15), (2, .int y2), (4, .int y14)]) hx hb dX11_findForm_209 hl (k := 3) rfl f_v18 (by decide) rfl (fun ls hl => ?_)
                      refine lv_goto (tgt := 31) hx hb dX11_findForm_212 (by decide) ?_
                      have hT := hT.wk (q := 0) (P' := aJ (k 1) 9 (oP (y15.toInt) (y2.toInt + v18.toInt))) rfl (cv_o_o (by omega))
                      have hT : TP D A [(h4, aJ (k 1) 9 (oP (y15.toInt) (y2.toInt + v18.toInt))), (h0, ob 8 [.int h0f0, .int h0f1, .int h0f2, .int h0f3, .int h0f4, .int h0f5, .ref h1, .ref h2, .int h0f8, .int h0f9, .ref h3, .ref h4, .ref h5, .ref h6, .ref h7, .ref h8, .ref h9, .int h0f17, .int h0f18, .int h0f19, .ref h10, .ref h11, .ref h12, .ref h13, .int h0f24, .int h0f25, .ref h14, .ref h15, .ref h16, .ref h17, .int h0f30, .int h0f31, .ref h18, .ref h19, .ref h20, .ref h21]), (h5, aJ (k 1) 9 (idP )), (h10, aJ (k 1) 900 (lsP (h0f9.toInt)))] _ := hT
                      exact ih31_11 v18 y15 _ _ _ (by omega) (by omega)  (by omega) hT hS (lv_sub hl [1, 2, 3, 0] rfl)
                    · skip
                      have c_17 := ni_nle c_17 rfl rfl
                      rcases (show y9.toInt = 0 ∨ 1 ≤ y9.toInt by omega) with hz19 | hz19
                      · skip
                        rcases (show y14.toInt = 0 ∨ 1 ≤ y14.toInt by omega) with hz20 | hz20
                        · skip
                          refine lv_lconst (v := 0) hx hb dX11_findForm_51 (by decide) ?_
                          refine lv_lstore (lv' := [(5, .long 0), (0, .ref h0), (1, .int y15), (2, .int y2), (3, .int y9), (4, .int y14)]) hx hb dX11_findForm_52 hl (by decide) rfl (fun ls hl => ?_)
                          refine lv_iconst (v := 0) hx hb dX11_findForm_54 (by decide) ?_
                          refine lv_istore (lv' := [(7, .int 0), (5, .long 0), (0, .ref h0), (1, .int y15), (2, .int y2), (3, .int y9), (4, .int y14)]) hx hb dX11_findForm_55 hl (by decide) rfl (fun ls hl => ?_)
                          have lp57_23 : ∀ (n : Nat) (y21 : Int32) (y22 : Int64) (H : Heap) (locs : List Loc) (ls : Array Slot), (0 ≤ y21.toInt ∧ y21.toInt ≤ 3) → (0 ≤ y22.toInt ∧ y22.toInt ≤ 3000000000000000000) → (0 ≤ y22.toInt) → (y22.toInt ≤ 1000000000000000000 * y21.toInt) → (y21.toInt ≤ 3 * y22.toInt) → (h0f0.toInt + (-1) * y21.toInt + 1).toNat < n → TP D A [(h4, aJ (k 1) 9 (oP (y15.toInt) (y2.toInt + y9.toInt + y14.toInt))), (h0, ob 8 [.int h0f0, .int h0f1, .int h0f2, .int h0f3, .int h0f4, .int h0f5, .ref h1, .ref h2, .int h0f8, .int h0f9, .ref h3, .ref h4, .ref h5, .ref h6, .ref h7, .ref h8, .ref h9, .int h0f17, .int h0f18, .int h0f19, .ref h10, .ref h11, .ref h12, .ref h13, .int h0f24, .int h0f25, .ref h14, .ref h15, .ref h16, .ref h17, .int h0f30, .int h0f31, .ref h18, .ref h19, .ref h20, .ref h21]), (h5, aJ (k 1) 9 (idP )), (h10, aJ (k 1) 900 (lsP (h0f9.toInt)))] H → va_S A s.heap H locs → lv_has ls 9 [(0, .ref h0), (1, .int y15), (2, .int y2), (3, .int y9), (4, .int y14), (5, .long y22), (7, .int y21)] → W p l e Rm_cX11_findForm_b515d s m args below meth c H locs 0 0 Q (F0 m 57 ls []) := by
                            intro n
                            induction n with
                            | zero => intro y21 y22 H locs ls b_y21 b_y22 x_0 x_1 x_2 hm hT hS hl; exact absurd hm (Nat.not_lt_zero _)
                            | succ n ih =>
                              intro y21 y22 H locs ls b_y21 b_y22 x_0 x_1 x_2 hm hT hS hl
                              have ih57_23 := ih
                              clear ih
                              refine lv_iload hx hb dX11_findForm_57 (lv_at hl 6 rfl) ?_
                              refine lv_aload_n hx hb dX11_findForm_59 rfl (lv_at hl 0 rfl) ?_
                              refine tz_get (ci := 8) (v := .int h0f0) (C := RX11) (F := TX11) (N := 36) hx hb hU iX11 hown hK hT 1 rfl rfl 0 (by decide) w785 (fun _ h9 => h9) rfl dX11_findForm_60 ?_
                              refine lv_icmp_ge (tgt := 101) hx hb dX11_findForm_63 (by decide) (fun c_24 => ?_) (fun c_24 => ?_)
                              · skip
                                have c_24 := ni_le c_24 rfl rfl
                                refine lv_aload_n hx hb dX11_findForm_101 rfl (lv_at hl 0 rfl) ?_
                                refine tz_get (ci := 8) (v := .ref h4) (C := RX11) (F := TX11) (N := 36) hx hb hU iX11 hown hK hT 1 rfl rfl 11 (by decide) w796 (fun _ h9 => h9) rfl dX11_findForm_102 ?_
                                refine lv_iconst (v := 3) hx hb dX11_findForm_105 (by decide) ?_
                                refine lv_iload_n hx hb dX11_findForm_106 rfl (lv_at hl 3 rfl) ?_
                                refine lv_imul hx hb dX11_findForm_107 (lv_topi (fun v25 e_v25 => ?_))
                                have e_v25 := ai_mul e_v25 li_3 hz19 (by omega)
                                refine lv_iload hx hb dX11_findForm_108 (lv_at hl 4 rfl) ?_
                                have hq26 : v25.toInt = 0 := by omega
                                refine lv_iadd hx hb dX11_findForm_110 (lv_topi (fun v27 e_v27 => ?_))
                                have e_v27 := ai_add e_v27 hq26 hz20 (by omega)
                                refine tz_laldS hx hb hK hT 0 rfl (by omega) dX11_findForm_111 (fun v28 e_v28 hT => ?_)
                                have hT : TP D A [(h4, aJ (k 1) 9 (rdJ ((oP (y15.toInt) (y2.toInt + y9.toInt + y14.toInt))) (v27) (v28))), (h0, ob 8 [.int h0f0, .int h0f1, .int h0f2, .int h0f3, .int h0f4, .int h0f5, .ref h1, .ref h2, .int h0f8, .int h0f9, .ref h3, .ref h4, .ref h5, .ref h6, .ref h7, .ref h8, .ref h9, .int h0f17, .int h0f18, .int h0f19, .ref h10, .ref h11, .ref h12, .ref h13, .int h0f24, .int h0f25, .ref h14, .ref h15, .ref h16, .ref h17, .int h0f30, .int h0f31, .ref h18, .ref h19, .ref h20, .ref h21]), (h5, aJ (k 1) 9 (idP )), (h10, aJ (k 1) 900 (lsP (h0f9.toInt)))] _ := hT
                                have e_v28 := o_get e_v28 (by omega)
                                refine lv_lload hx hb dX11_findForm_112 (lv_at hl 5 rfl) ?_
                                refine lv_ladd hx hb dX11_findForm_114 (lv_topl (fun v29 e_v29 => ?_))
                                refine lv_lstore (lv' := [(7, .long v29), (0, .ref h0), (1, .int y15), (2, .int y2), (3, .int y9), (4, .int y14), (5, .long y22)]) hx hb dX11_findForm_115 hl (by decide) rfl (fun ls hl => ?_)
                                refine lv_iload_n hx hb dX11_findForm_117 rfl (lv_at hl 2 rfl) ?_
                                refine lv_if_eq (tgt := 188) hx hb dX11_findForm_118 (by decide) (fun c_30 => ?_) (fun c_30 => ?_)
                                · skip
                                  have c_30 := ni_eq c_30 rfl li_0
                                  refine lv_iconst (v := 0) hx hb dX11_findForm_188 (by decide) ?_
                                  refine lv_istore_n (lv' := [(1, .int 0), (7, .long v29), (0, .ref h0), (2, .int y2), (3, .int y9), (4, .int y14), (5, .long y22)]) hx hb dX11_findForm_189 rfl hl (by decide) rfl (fun ls hl => ?_)
                                  refine lv_aload_n hx hb dX11_findForm_190 rfl (lv_at hl 2 rfl) ?_
                                  refine tz_get (ci := 8) (v := .ref h4) (C := RX11) (F := TX11) (N := 36) hx hb hU iX11 hown hK hT 1 rfl rfl 11 (by decide) w796 (fun _ h9 => h9) rfl dX11_findForm_191 ?_
                                  refine lv_iconst (v := 3) hx hb dX11_findForm_194 (by decide) ?_
                                  refine lv_iload_n hx hb dX11_findForm_195 rfl (lv_at hl 4 rfl) ?_
                                  refine lv_imul hx hb dX11_findForm_196 (lv_topi (fun v31 e_v31 => ?_))
                                  have e_v31 := ai_mul e_v31 li_3 hz19 (by omega)
                                  refine lv_iload hx hb dX11_findForm_197 (lv_at hl 5 rfl) ?_
                                  have hq32 : v31.toInt = 0 := by omega
                                  refine lv_iadd hx hb dX11_findForm_199 (lv_topi (fun v33 e_v33 => ?_))
                                  have e_v33 := ai_add e_v33 hq32 hz20 (by omega)
                                  refine lv_lload hx hb dX11_findForm_200 (lv_at hl 1 rfl) ?_
                                  refine tz_lastP hx hb hK hT hS 0 (oP ((0 : Int32).toInt) (y2.toInt + y9.toInt + y14.toInt + 1)) rfl (by omega) (o_putr (P := anJ) (by omega) (fun h => absurd h (by decide +kernel))) dX11_findForm_202 (fun H locs hT hS => ?_)
                                  have hT : TP D A [(h4, aJ (k 1) 9 (oP ((0 : Int32).toInt) (y2.toInt + y9.toInt + y14.toInt + 1))), (h0, ob 8 [.int h0f0, .int h0f1, .int h0f2, .int h0f3, .int h0f4, .int h0f5, .ref h1, .ref h2, .int h0f8, .int h0f9, .ref h3, .ref h4, .ref h5, .ref h6, .ref h7, .ref h8, .ref h9, .int h0f17, .int h0f18, .int h0f19, .ref h10, .ref h11, .ref h12, .ref h13, .int h0f24, .int h0f25, .ref h14, .ref h15, .ref h16, .ref h17, .int h0f30, .int h0f31, .ref h18, .ref h19, .ref h20, .ref h21]), (h5, aJ (k 1) 9 (idP )), (h10, aJ (k 1) 900 (lsP (h0f9.toInt)))] _ := hT
                                  obtain ⟨v34, e_v34⟩ : ∃ x : Int32, x = y14 + Int32.ofInt 1 := ⟨_, rfl⟩
                                  have f_v34 := e_v34.symm
                                  have e_v34 : v34.toInt = 0 + 1 := ai_add e_v34 hz20 (show (Int32.ofInt 1).toInt = 1 from (by decide +kernel)) (by omega)
                                  refine lv_iinc (v := v34) (lv' := [(4, .int v34), (1, .int 0), (7, .long v29), (0, .ref h0), (2, .int y2), (3, .int y9), (5, .long y22)]) hx hb dX11_findForm_203 hl (k := 5) rfl f_v34 (by decide) rfl (fun ls hl => ?_)
                                  refine lv_goto (tgt := 42) hx hb dX11_findForm_206 (by decide) ?_
                                  have hT := hT.wk (q := 0) (P' := aJ (k 1) 9 (oP ((0 : Int32).toInt) (y2.toInt + y9.toInt + v34.toInt))) rfl (cv_o_o (by have := li_0; omega))
                                  have hT : TP D A [(h4, aJ (k 1) 9 (oP ((0 : Int32).toInt) (y2.toInt + y9.toInt + v34.toInt))), (h0, ob 8 [.int h0f0, .int h0f1, .int h0f2, .int h0f3, .int h0f4, .int h0f5, .ref h1, .ref h2, .int h0f8, .int h0f9, .ref h3, .ref h4, .ref h5, .ref h6, .ref h7, .ref h8, .ref h9, .int h0f17, .int h0f18, .int h0f19, .ref h10, .ref h11, .ref h12, .ref h13, .int h0f24, .int h0f25, .ref h14, .ref h15, .ref h16, .ref h17, .int h0f30, .int h0f31, .ref h18, .ref h19, .ref h20, .ref h21]), (h5, aJ (k 1) 9 (idP )), (h10, aJ (k 1) 900 (lsP (h0f9.toInt)))] _ := hT
                                  exact ih42_16 v34 (0) _ _ _ (by have := li_0; omega) (by have := li_0; omega)  (by have := li_0; omega) hT hS (lv_sub hl [3, 1, 4, 5, 0] rfl)
                                · skip
                                  have c_30 := ni_ne c_30 rfl li_0
                                  refine lv_aload_n hx hb dX11_findForm_121 rfl (lv_at hl 1 rfl) ?_
                                  refine tz_get (ci := 8) (v := .ref h4) (C := RX11) (F := TX11) (N := 36) hx hb hU iX11 hown hK hT 1 rfl rfl 11 (by decide) w796 (fun _ h9 => h9) rfl dX11_findForm_122 ?_
                                  refine lv_iconst (v := 3) hx hb dX11_findForm_125 (by decide) ?_
                                  refine lv_iload_n hx hb dX11_findForm_126 rfl (lv_at hl 4 rfl) ?_
                                  refine lv_imul hx hb dX11_findForm_127 (lv_topi (fun v35 e_v35 => ?_))
                                  have e_v35 := ai_mul e_v35 li_3 hz19 (by omega)
                                  refine lv_iload hx hb dX11_findForm_128 (lv_at hl 5 rfl) ?_
                                  have hq36 : v35.toInt = 0 := by omega
                                  refine lv_iadd hx hb dX11_findForm_130 (lv_topi (fun v37 e_v37 => ?_))
                                  have e_v37 := ai_add e_v37 hq36 hz20 (by omega)
                                  refine tz_lald hx hb hK hT 0 rfl (by omega) dX11_findForm_131 (fun v38 e_v38 => ?_)
                                  have e_v38 := rd_same e_v38 (by omega)
                                  subst e_v38
                                  refine lv_lconst (v := 0) hx hb dX11_findForm_132 (by decide) ?_
                                  refine W.lcmp hx hb dX11_findForm_133 ?_
                                  refine lv_if_lt (tgt := 141) hx hb dX11_findForm_134 (by decide) (fun c_39 => ?_) (fun c_39 => ?_)
                                  · skip
                                    have c_39 := nl_lt c_39 rfl ll_0
                                    refine lv_iconst (v := 0) hx hb dX11_findForm_141 (by decide) ?_
                                    refine lv_lload hx hb dX11_findForm_142 (lv_at hl 6 rfl) ?_
                                    refine lv_lconst (v := 0) hx hb dX11_findForm_144 (by decide) ?_
                                    refine W.lcmp hx hb dX11_findForm_145 ?_
                                    refine lv_if_lt (tgt := 153) hx hb dX11_findForm_146 (by decide) (fun c_40 => ?_) (fun c_40 => ?_)
                                    · skip
                                      have c_40 := nl_lt c_40 rfl ll_0
                                      exfalso; omega
                                    · skip
                                      have c_40 := nl_nlt c_40 rfl ll_0
                                      refine lv_iconst (v := 1) hx hb dX11_findForm_149 (by decide) ?_
                                      refine lv_goto (tgt := 154) hx hb dX11_findForm_150 (by decide) ?_
                                      refine lv_icmp_ne (tgt := 184) hx hb dX11_findForm_154 (by decide) (fun _ => ?_) (fun cc => absurd cc (by decide +kernel))
                                      refine lv_iconst (v := 1) hx hb dX11_findForm_184 (by decide) ?_
                                      refine lv_goto (tgt := 189) hx hb dX11_findForm_185 (by decide) ?_
                                      refine lv_istore_n (lv' := [(1, .int 1), (7, .long v29), (0, .ref h0), (2, .int y2), (3, .int y9), (4, .int y14), (5, .long y22)]) hx hb dX11_findForm_189 rfl hl (by decide) rfl (fun ls hl => ?_)
                                      refine lv_aload_n hx hb dX11_findForm_190 rfl (lv_at hl 2 rfl) ?_
                                      refine tz_get (ci := 8) (v := .ref h4) (C := RX11) (F := TX11) (N := 36) hx hb hU iX11 hown hK hT 1 rfl rfl 11 (by decide) w796 (fun _ h9 => h9) rfl dX11_findForm_191 ?_
                                      refine lv_iconst (v := 3) hx hb dX11_findForm_194 (by decide) ?_
                                      refine lv_iload_n hx hb dX11_findForm_195 rfl (lv_at hl 4 rfl) ?_
                                      refine lv_imul hx hb dX11_findForm_196 (lv_topi (fun v41 e_v41 => ?_))
                                      have e_v41 := ai_mul e_v41 li_3 hz19 (by omega)
                                      refine lv_iload hx hb dX11_findForm_197 (lv_at hl 5 rfl) ?_
                                      have hq42 : v41.toInt = 0 := by omega
                                      refine lv_iadd hx hb dX11_findForm_199 (lv_topi (fun v43 e_v43 => ?_))
                                      have e_v43 := ai_add e_v43 hq42 hz20 (by omega)
                                      refine lv_lload hx hb dX11_findForm_200 (lv_at hl 1 rfl) ?_
                                      refine tz_lastP hx hb hK hT hS 0 (oP ((1 : Int32).toInt) (y2.toInt + y9.toInt + y14.toInt + 1)) rfl (by omega) (o_putr (P := anJ) (by omega) (fun _ => by have := al_addnn e_v29 (by omega) (by omega) (by omega); omega)) dX11_findForm_202 (fun H locs hT hS => ?_)
                                      have hT : TP D A [(h4, aJ (k 1) 9 (oP ((1 : Int32).toInt) (y2.toInt + y9.toInt + y14.toInt + 1))), (h0, ob 8 [.int h0f0, .int h0f1, .int h0f2, .int h0f3, .int h0f4, .int h0f5, .ref h1, .ref h2, .int h0f8, .int h0f9, .ref h3, .ref h4, .ref h5, .ref h6, .ref h7, .ref h8, .ref h9, .int h0f17, .int h0f18, .int h0f19, .ref h10, .ref h11, .ref h12, .ref h13, .int h0f24, .int h0f25, .ref h14, .ref h15, .ref h16, .ref h17, .int h0f30, .int h0f31, .ref h18, .ref h19, .ref h20, .ref h21]), (h5, aJ (k 1) 9 (idP )), (h10, aJ (k 1) 900 (lsP (h0f9.toInt)))] _ := hT
                                      obtain ⟨v44, e_v44⟩ : ∃ x : Int32, x = y14 + Int32.ofInt 1 := ⟨_, rfl⟩
                                      have f_v44 := e_v44.symm
                                      have e_v44 : v44.toInt = 0 + 1 := ai_add e_v44 hz20 (show (Int32.ofInt 1).toInt = 1 from (by decide +kernel)) (by omega)
                                      refine lv_iinc (v := v44) (lv' := [(4, .int v44), (1, .int 1), (7, .long v29), (0, .ref h0), (2, .int y2), (3, .int y9), (5, .long y22)]) hx hb dX11_findForm_203 hl (k := 5) rfl f_v44 (by decide) rfl (fun ls hl => ?_)
                                      refine lv_goto (tgt := 42) hx hb dX11_findForm_206 (by decide) ?_
                                      have hT := hT.wk (q := 0) (P' := aJ (k 1) 9 (oP ((1 : Int32).toInt) (y2.toInt + y9.toInt + v44.toInt))) rfl (cv_o_o (by have := li_1; omega))
                                      have hT : TP D A [(h4, aJ (k 1) 9 (oP ((1 : Int32).toInt) (y2.toInt + y9.toInt + v44.toInt))), (h0, ob 8 [.int h0f0, .int h0f1, .int h0f2, .int h0f3, .int h0f4, .int h0f5, .ref h1, .ref h2, .int h0f8, .int h0f9, .ref h3, .ref h4, .ref h5, .ref h6, .ref h7, .ref h8, .ref h9, .int h0f17, .int h0f18, .int h0f19, .ref h10, .ref h11, .ref h12, .ref h13, .int h0f24, .int h0f25, .ref h14, .ref h15, .ref h16, .ref h17, .int h0f30, .int h0f31, .ref h18, .ref h19, .ref h20, .ref h21]), (h5, aJ (k 1) 9 (idP )), (h10, aJ (k 1) 900 (lsP (h0f9.toInt)))] _ := hT
                                      exact ih42_16 v44 (1) _ _ _ (by have := li_1; omega) (by have := li_1; omega)  (by have := li_1; omega) hT hS (lv_sub hl [3, 1, 4, 5, 0] rfl)
                                  · skip
                                    have c_39 := nl_nlt c_39 rfl ll_0
                                    refine lv_iconst (v := 1) hx hb dX11_findForm_137 (by decide) ?_
                                    refine lv_goto (tgt := 142) hx hb dX11_findForm_138 (by decide) ?_
                                    refine lv_lload hx hb dX11_findForm_142 (lv_at hl 6 rfl) ?_
                                    refine lv_lconst (v := 0) hx hb dX11_findForm_144 (by decide) ?_
                                    refine W.lcmp hx hb dX11_findForm_145 ?_
                                    refine lv_if_lt (tgt := 153) hx hb dX11_findForm_146 (by decide) (fun c_45 => ?_) (fun c_45 => ?_)
                                    · skip
                                      have c_45 := nl_lt c_45 rfl ll_0
                                      exfalso; omega
                                    · skip
                                      have c_45 := nl_nlt c_45 rfl ll_0
                                      refine lv_iconst (v := 1) hx hb dX11_findForm_149 (by decide) ?_
                                      refine lv_goto (tgt := 154) hx hb dX11_findForm_150 (by decide) ?_
                                      refine lv_icmp_ne (tgt := 184) hx hb dX11_findForm_154 (by decide) (fun cc => absurd (by decide +kernel) cc) (fun _ => ?_)
                                      refine lv_lload hx hb dX11_findForm_157 (lv_at hl 0 rfl) ?_
                                      refine lv_lconst (v := 0) hx hb dX11_findForm_159 (by decide) ?_
                                      refine W.lcmp hx hb dX11_findForm_160 ?_
                                      refine lv_if_lt (tgt := 168) hx hb dX11_findForm_161 (by decide) (fun c_46 => ?_) (fun c_46 => ?_)
                                      · skip
                                        have c_46 := nl_lt c_46 rfl ll_0
                                        refine lv_iconst (v := 0) hx hb dX11_findForm_168 (by decide) ?_
                                        refine lv_lload hx hb dX11_findForm_169 (lv_at hl 6 rfl) ?_
                                        refine lv_lconst (v := 0) hx hb dX11_findForm_171 (by decide) ?_
                                        refine W.lcmp hx hb dX11_findForm_172 ?_
                                        refine lv_if_lt (tgt := 180) hx hb dX11_findForm_173 (by decide) (fun c_47 => ?_) (fun c_47 => ?_)
                                        · skip
                                          have c_47 := nl_lt c_47 rfl ll_0
                                          exfalso; omega
                                        · skip
                                          have c_47 := nl_nlt c_47 rfl ll_0
                                          refine lv_iconst (v := 1) hx hb dX11_findForm_176 (by decide) ?_
                                          refine lv_goto (tgt := 181) hx hb dX11_findForm_177 (by decide) ?_
                                          refine lv_icmp_ne (tgt := 188) hx hb dX11_findForm_181 (by decide) (fun _ => ?_) (fun cc => absurd cc (by decide +kernel))
                                          refine lv_iconst (v := 0) hx hb dX11_findForm_188 (by decide) ?_
                                          refine lv_istore_n (lv' := [(1, .int 0), (7, .long v29), (0, .ref h0), (2, .int y2), (3, .int y9), (4, .int y14), (5, .long y22)]) hx hb dX11_findForm_189 rfl hl (by decide) rfl (fun ls hl => ?_)
                                          refine lv_aload_n hx hb dX11_findForm_190 rfl (lv_at hl 2 rfl) ?_
                                          refine tz_get (ci := 8) (v := .ref h4) (C := RX11) (F := TX11) (N := 36) hx hb hU iX11 hown hK hT 1 rfl rfl 11 (by decide) w796 (fun _ h9 => h9) rfl dX11_findForm_191 ?_
                                          refine lv_iconst (v := 3) hx hb dX11_findForm_194 (by decide) ?_
                                          refine lv_iload_n hx hb dX11_findForm_195 rfl (lv_at hl 4 rfl) ?_
                                          refine lv_imul hx hb dX11_findForm_196 (lv_topi (fun v48 e_v48 => ?_))
                                          have e_v48 := ai_mul e_v48 li_3 hz19 (by omega)
                                          refine lv_iload hx hb dX11_findForm_197 (lv_at hl 5 rfl) ?_
                                          have hq49 : v48.toInt = 0 := by omega
                                          refine lv_iadd hx hb dX11_findForm_199 (lv_topi (fun v50 e_v50 => ?_))
                                          have e_v50 := ai_add e_v50 hq49 hz20 (by omega)
                                          refine lv_lload hx hb dX11_findForm_200 (lv_at hl 1 rfl) ?_
                                          refine tz_lastP hx hb hK hT hS 0 (oP ((0 : Int32).toInt) (y2.toInt + y9.toInt + y14.toInt + 1)) rfl (by omega) (o_putr (P := anJ) (by omega) (fun h => absurd h (by decide +kernel))) dX11_findForm_202 (fun H locs hT hS => ?_)
                                          have hT : TP D A [(h4, aJ (k 1) 9 (oP ((0 : Int32).toInt) (y2.toInt + y9.toInt + y14.toInt + 1))), (h0, ob 8 [.int h0f0, .int h0f1, .int h0f2, .int h0f3, .int h0f4, .int h0f5, .ref h1, .ref h2, .int h0f8, .int h0f9, .ref h3, .ref h4, .ref h5, .ref h6, .ref h7, .ref h8, .ref h9, .int h0f17, .int h0f18, .int h0f19, .ref h10, .ref h11, .ref h12, .ref h13, .int h0f24, .int h0f25, .ref h14, .ref h15, .ref h16, .ref h17, .int h0f30, .int h0f31, .ref h18, .ref h19, .ref h20, .ref h21]), (h5, aJ (k 1) 9 (idP )), (h10, aJ (k 1) 900 (lsP (h0f9.toInt)))] _ := hT
                                          obtain ⟨v51, e_v51⟩ : ∃ x : Int32, x = y14 + Int32.ofInt 1 := ⟨_, rfl⟩
                                          have f_v51 := e_v51.symm
                                          have e_v51 : v51.toInt = 0 + 1 := ai_add e_v51 hz20 (show (Int32.ofInt 1).toInt = 1 from (by decide +kernel)) (by omega)
                                          refine lv_iinc (v := v51) (lv' := [(4, .int v51), (1, .int 0), (7, .long v29), (0, .ref h0), (2, .int y2), (3, .int y9), (5, .long y22)]) hx hb dX11_findForm_203 hl (k := 5) rfl f_v51 (by decide) rfl (fun ls hl => ?_)
                                          refine lv_goto (tgt := 42) hx hb dX11_findForm_206 (by decide) ?_
                                          have hT := hT.wk (q := 0) (P' := aJ (k 1) 9 (oP ((0 : Int32).toInt) (y2.toInt + y9.toInt + v51.toInt))) rfl (cv_o_o (by have := li_0; omega))
                                          have hT : TP D A [(h4, aJ (k 1) 9 (oP ((0 : Int32).toInt) (y2.toInt + y9.toInt + v51.toInt))), (h0, ob 8 [.int h0f0, .int h0f1, .int h0f2, .int h0f3, .int h0f4, .int h0f5, .ref h1, .ref h2, .int h0f8, .int h0f9, .ref h3, .ref h4, .ref h5, .ref h6, .ref h7, .ref h8, .ref h9, .int h0f17, .int h0f18, .int h0f19, .ref h10, .ref h11, .ref h12, .ref h13, .int h0f24, .int h0f25, .ref h14, .ref h15, .ref h16, .ref h17, .int h0f30, .int h0f31, .ref h18, .ref h19, .ref h20, .ref h21]), (h5, aJ (k 1) 9 (idP )), (h10, aJ (k 1) 900 (lsP (h0f9.toInt)))] _ := hT
                                          exact ih42_16 v51 (0) _ _ _ (by have := li_0; omega) (by have := li_0; omega)  (by have := li_0; omega) hT hS (lv_sub hl [3, 1, 4, 5, 0] rfl)
                                      · skip
                                        have c_46 := nl_nlt c_46 rfl ll_0
                                        refine lv_iconst (v := 1) hx hb dX11_findForm_164 (by decide) ?_
                                        refine lv_goto (tgt := 169) hx hb dX11_findForm_165 (by decide) ?_
                                        refine lv_lload hx hb dX11_findForm_169 (lv_at hl 6 rfl) ?_
                                        refine lv_lconst (v := 0) hx hb dX11_findForm_171 (by decide) ?_
                                        refine W.lcmp hx hb dX11_findForm_172 ?_
                                        refine lv_if_lt (tgt := 180) hx hb dX11_findForm_173 (by decide) (fun c_52 => ?_) (fun c_52 => ?_)
                                        · skip
                                          have c_52 := nl_lt c_52 rfl ll_0
                                          exfalso; omega
                                        · skip
                                          have c_52 := nl_nlt c_52 rfl ll_0
                                          refine lv_iconst (v := 1) hx hb dX11_findForm_176 (by decide) ?_
                                          refine lv_goto (tgt := 181) hx hb dX11_findForm_177 (by decide) ?_
                                          refine lv_icmp_ne (tgt := 188) hx hb dX11_findForm_181 (by decide) (fun cc => absurd (by decide +kernel) cc) (fun _ => ?_)
                                          refine lv_iconst (v := 1) hx hb dX11_findForm_184 (by decide) ?_
                                          refine lv_goto (tgt := 189) hx hb dX11_findForm_185 (by decide) ?_
                                          refine lv_istore_n (lv' := [(1, .int 1), (7, .long v29), (0, .ref h0), (2, .int y2), (3, .int y9), (4, .int y14), (5, .long y22)]) hx hb dX11_findForm_189 rfl hl (by decide) rfl (fun ls hl => ?_)
                                          refine lv_aload_n hx hb dX11_findForm_190 rfl (lv_at hl 2 rfl) ?_
                                          refine tz_get (ci := 8) (v := .ref h4) (C := RX11) (F := TX11) (N := 36) hx hb hU iX11 hown hK hT 1 rfl rfl 11 (by decide) w796 (fun _ h9 => h9) rfl dX11_findForm_191 ?_
                                          refine lv_iconst (v := 3) hx hb dX11_findForm_194 (by decide) ?_
                                          refine lv_iload_n hx hb dX11_findForm_195 rfl (lv_at hl 4 rfl) ?_
                                          refine lv_imul hx hb dX11_findForm_196 (lv_topi (fun v53 e_v53 => ?_))
                                          have e_v53 := ai_mul e_v53 li_3 hz19 (by omega)
                                          refine lv_iload hx hb dX11_findForm_197 (lv_at hl 5 rfl) ?_
                                          have hq54 : v53.toInt = 0 := by omega
                                          refine lv_iadd hx hb dX11_findForm_199 (lv_topi (fun v55 e_v55 => ?_))
                                          have e_v55 := ai_add e_v55 hq54 hz20 (by omega)
                                          refine lv_lload hx hb dX11_findForm_200 (lv_at hl 1 rfl) ?_
                                          refine tz_lastP hx hb hK hT hS 0 (oP ((1 : Int32).toInt) (y2.toInt + y9.toInt + y14.toInt + 1)) rfl (by omega) (o_putr (P := anJ) (by omega) (fun _ => by have := al_addnn e_v29 (by omega) (by omega) (by omega); omega)) dX11_findForm_202 (fun H locs hT hS => ?_)
                                          have hT : TP D A [(h4, aJ (k 1) 9 (oP ((1 : Int32).toInt) (y2.toInt + y9.toInt + y14.toInt + 1))), (h0, ob 8 [.int h0f0, .int h0f1, .int h0f2, .int h0f3, .int h0f4, .int h0f5, .ref h1, .ref h2, .int h0f8, .int h0f9, .ref h3, .ref h4, .ref h5, .ref h6, .ref h7, .ref h8, .ref h9, .int h0f17, .int h0f18, .int h0f19, .ref h10, .ref h11, .ref h12, .ref h13, .int h0f24, .int h0f25, .ref h14, .ref h15, .ref h16, .ref h17, .int h0f30, .int h0f31, .ref h18, .ref h19, .ref h20, .ref h21]), (h5, aJ (k 1) 9 (idP )), (h10, aJ (k 1) 900 (lsP (h0f9.toInt)))] _ := hT
                                          obtain ⟨v56, e_v56⟩ : ∃ x : Int32, x = y14 + Int32.ofInt 1 := ⟨_, rfl⟩
                                          have f_v56 := e_v56.symm
                                          have e_v56 : v56.toInt = 0 + 1 := ai_add e_v56 hz20 (show (Int32.ofInt 1).toInt = 1 from (by decide +kernel)) (by omega)
                                          refine lv_iinc (v := v56) (lv' := [(4, .int v56), (1, .int 1), (7, .long v29), (0, .ref h0), (2, .int y2), (3, .int y9), (5, .long y22)]) hx hb dX11_findForm_203 hl (k := 5) rfl f_v56 (by decide) rfl (fun ls hl => ?_)
                                          refine lv_goto (tgt := 42) hx hb dX11_findForm_206 (by decide) ?_
                                          have hT := hT.wk (q := 0) (P' := aJ (k 1) 9 (oP ((1 : Int32).toInt) (y2.toInt + y9.toInt + v56.toInt))) rfl (cv_o_o (by have := li_1; omega))
                                          have hT : TP D A [(h4, aJ (k 1) 9 (oP ((1 : Int32).toInt) (y2.toInt + y9.toInt + v56.toInt))), (h0, ob 8 [.int h0f0, .int h0f1, .int h0f2, .int h0f3, .int h0f4, .int h0f5, .ref h1, .ref h2, .int h0f8, .int h0f9, .ref h3, .ref h4, .ref h5, .ref h6, .ref h7, .ref h8, .ref h9, .int h0f17, .int h0f18, .int h0f19, .ref h10, .ref h11, .ref h12, .ref h13, .int h0f24, .int h0f25, .ref h14, .ref h15, .ref h16, .ref h17, .int h0f30, .int h0f31, .ref h18, .ref h19, .ref h20, .ref h21]), (h5, aJ (k 1) 9 (idP )), (h10, aJ (k 1) 900 (lsP (h0f9.toInt)))] _ := hT
                                          exact ih42_16 v56 (1) _ _ _ (by have := li_1; omega) (by have := li_1; omega)  (by have := li_1; omega) hT hS (lv_sub hl [3, 1, 4, 5, 0] rfl)
                              · skip
                                have c_24 := ni_nle c_24 rfl rfl
                                refine lv_lload hx hb dX11_findForm_66 (lv_at hl 5 rfl) ?_
                                refine lv_aload_n hx hb dX11_findForm_68 rfl (lv_at hl 0 rfl) ?_
                                refine tz_get (ci := 8) (v := .ref h5) (C := RX11) (F := TX11) (N := 36) hx hb hU iX11 hown hK hT 1 rfl rfl 12 (by decide) w797 (fun _ h9 => h9) rfl dX11_findForm_69 ?_
                                refine lv_iconst (v := 3) hx hb dX11_findForm_72 (by decide) ?_
                                refine lv_iload hx hb dX11_findForm_73 (lv_at hl 6 rfl) ?_
                                refine lv_imul hx hb dX11_findForm_75 (lv_topi (fun v57 e_v57 => ?_))
                                have e_v57 := ai_mul e_v57 li_3 rfl (by omega)
                                refine lv_iload_n hx hb dX11_findForm_76 rfl (lv_at hl 3 rfl) ?_
                                refine lv_iadd hx hb dX11_findForm_77 (lv_topi (fun v58 e_v58 => ?_))
                                have e_v58 := ai_add e_v58 rfl hz19 (by omega)
                                refine tz_laldS hx hb hK hT 2 rfl (by omega) dX11_findForm_78 (fun v59 e_v59 hT => ?_)
                                have hT : TP D A [(h4, aJ (k 1) 9 (oP (y15.toInt) (y2.toInt + y9.toInt + y14.toInt))), (h0, ob 8 [.int h0f0, .int h0f1, .int h0f2, .int h0f3, .int h0f4, .int h0f5, .ref h1, .ref h2, .int h0f8, .int h0f9, .ref h3, .ref h4, .ref h5, .ref h6, .ref h7, .ref h8, .ref h9, .int h0f17, .int h0f18, .int h0f19, .ref h10, .ref h11, .ref h12, .ref h13, .int h0f24, .int h0f25, .ref h14, .ref h15, .ref h16, .ref h17, .int h0f30, .int h0f31, .ref h18, .ref h19, .ref h20, .ref h21]), (h5, aJ (k 1) 9 (rdJ ((idP )) (v58) (v59))), (h10, aJ (k 1) 900 (lsP (h0f9.toInt)))] _ := hT
                                have e_v59 := id_get e_v59 (by omega)
                                refine lv_aload_n hx hb dX11_findForm_79 rfl (lv_at hl 0 rfl) ?_
                                refine tz_get (ci := 8) (v := .ref h5) (C := RX11) (F := TX11) (N := 36) hx hb hU iX11 hown hK hT 1 rfl rfl 12 (by decide) w797 (fun _ h9 => h9) rfl dX11_findForm_80 ?_
                                refine lv_iconst (v := 3) hx hb dX11_findForm_83 (by decide) ?_
                                refine lv_iload hx hb dX11_findForm_84 (lv_at hl 6 rfl) ?_
                                refine lv_imul hx hb dX11_findForm_86 (lv_topi (fun v60 e_v60 => ?_))
                                have e_v60 := ai_mul e_v60 li_3 rfl (by omega)
                                refine lv_iload hx hb dX11_findForm_87 (lv_at hl 4 rfl) ?_
                                refine lv_iadd hx hb dX11_findForm_89 (lv_topi (fun v61 e_v61 => ?_))
                                have e_v61 := ai_add e_v61 rfl hz20 (by omega)
                                refine tz_lald hx hb hK hT 2 rfl (by omega) dX11_findForm_90 (fun v62 e_v62 => ?_)
                                have e_v62 := rd_same e_v62 (by omega)
                                subst e_v62
                                have hT := hT.wk (q := 2) (P' := aJ (k 1) 9 (idP )) rfl cv_rd
                                have hT : TP D A [(h4, aJ (k 1) 9 (oP (y15.toInt) (y2.toInt + y9.toInt + y14.toInt))), (h0, ob 8 [.int h0f0, .int h0f1, .int h0f2, .int h0f3, .int h0f4, .int h0f5, .ref h1, .ref h2, .int h0f8, .int h0f9, .ref h3, .ref h4, .ref h5, .ref h6, .ref h7, .ref h8, .ref h9, .int h0f17, .int h0f18, .int h0f19, .ref h10, .ref h11, .ref h12, .ref h13, .int h0f24, .int h0f25, .ref h14, .ref h15, .ref h16, .ref h17, .int h0f30, .int h0f31, .ref h18, .ref h19, .ref h20, .ref h21]), (h5, aJ (k 1) 9 (idP )), (h10, aJ (k 1) 900 (lsP (h0f9.toInt)))] _ := hT
                                refine lv_lmul hx hb dX11_findForm_91 (lv_topl (fun v63 e_v63 => ?_))
                                have e_v63 := al_sq e_v63 (by omega)
                                refine lv_ladd hx hb dX11_findForm_92 (lv_topl (fun v64 e_v64 => ?_))
                                have e_v64 := al_add e_v64 rfl rfl (by omega)
                                refine lv_lstore (lv' := [(5, .long v64), (0, .ref h0), (1, .int y15), (2, .int y2), (3, .int y9), (4, .int y14), (7, .int y21)]) hx hb dX11_findForm_93 hl (by decide) rfl (fun ls hl => ?_)
                                obtain ⟨v65, e_v65⟩ : ∃ x : Int32, x = y21 + Int32.ofInt 1 := ⟨_, rfl⟩
                                have f_v65 := e_v65.symm
                                have e_v65 : v65.toInt = y21.toInt + 1 := ai_add e_v65 rfl (show (Int32.ofInt 1).toInt = 1 from (by decide +kernel)) (by omega)
                                refine lv_iinc (v := v65) (lv' := [(7, .int v65), (5, .long v64), (0, .ref h0), (1, .int y15), (2, .int y2), (3, .int y9), (4, .int y14)]) hx hb dX11_findForm_95 hl (k := 6) rfl f_v65 (by decide) rfl (fun ls hl => ?_)
                                refine lv_goto (tgt := 57) hx hb dX11_findForm_98 (by decide) ?_
                                exact ih57_23 v65 v64 _ _ _ (by omega) (by omega) (by omega) (by omega) (by omega) (by omega) hT hS (lv_sub hl [2, 3, 4, 5, 6, 1, 0] rfl)
                          exact lp57_23 ((h0f0.toInt + (-1) * (0 : Int32).toInt + 1).toNat + 1) (0) (0) _ _ _ (by have := li_0; have := ll_0; omega) (by have := li_0; have := ll_0; omega) (by have := li_0; have := ll_0; omega) (by have := li_0; have := ll_0; omega) (by have := li_0; have := ll_0; omega) (Nat.lt_succ_self _) hT hS (lv_sub hl [2, 3, 4, 5, 6, 1, 0] rfl)
                        · skip
                          refine lv_lconst (v := 0) hx hb dX11_findForm_51 (by decide) ?_
                          refine lv_lstore (lv' := [(5, .long 0), (0, .ref h0), (1, .int y15), (2, .int y2), (3, .int y9), (4, .int y14)]) hx hb dX11_findForm_52 hl (by decide) rfl (fun ls hl => ?_)
                          refine lv_iconst (v := 0) hx hb dX11_findForm_54 (by decide) ?_
                          refine lv_istore (lv' := [(7, .int 0), (5, .long 0), (0, .ref h0), (1, .int y15), (2, .int y2), (3, .int y9), (4, .int y14)]) hx hb dX11_findForm_55 hl (by decide) rfl (fun ls hl => ?_)
                          have lp57_68 : ∀ (n : Nat) (y66 : Int32) (y67 : Int64) (H : Heap) (locs : List Loc) (ls : Array Slot), (0 ≤ y66.toInt ∧ y66.toInt ≤ 3) → (h0f0.toInt + (-1) * y66.toInt + 1).toNat < n → TP D A [(h4, aJ (k 1) 9 (oP (y15.toInt) (y2.toInt + y9.toInt + y14.toInt))), (h0, ob 8 [.int h0f0, .int h0f1, .int h0f2, .int h0f3, .int h0f4, .int h0f5, .ref h1, .ref h2, .int h0f8, .int h0f9, .ref h3, .ref h4, .ref h5, .ref h6, .ref h7, .ref h8, .ref h9, .int h0f17, .int h0f18, .int h0f19, .ref h10, .ref h11, .ref h12, .ref h13, .int h0f24, .int h0f25, .ref h14, .ref h15, .ref h16, .ref h17, .int h0f30, .int h0f31, .ref h18, .ref h19, .ref h20, .ref h21]), (h5, aJ (k 1) 9 (idP )), (h10, aJ (k 1) 900 (lsP (h0f9.toInt)))] H → va_S A s.heap H locs → lv_has ls 9 [(0, .ref h0), (1, .int y15), (2, .int y2), (3, .int y9), (4, .int y14), (5, .long y67), (7, .int y66)] → W p l e Rm_cX11_findForm_b515d s m args below meth c H locs 0 0 Q (F0 m 57 ls []) := by
                            intro n
                            induction n with
                            | zero => intro y66 y67 H locs ls b_y66 hm hT hS hl; exact absurd hm (Nat.not_lt_zero _)
                            | succ n ih =>
                              intro y66 y67 H locs ls b_y66 hm hT hS hl
                              have ih57_68 := ih
                              clear ih
                              refine lv_iload hx hb dX11_findForm_57 (lv_at hl 6 rfl) ?_
                              refine lv_aload_n hx hb dX11_findForm_59 rfl (lv_at hl 0 rfl) ?_
                              refine tz_get (ci := 8) (v := .int h0f0) (C := RX11) (F := TX11) (N := 36) hx hb hU iX11 hown hK hT 1 rfl rfl 0 (by decide) w785 (fun _ h9 => h9) rfl dX11_findForm_60 ?_
                              refine lv_icmp_ge (tgt := 101) hx hb dX11_findForm_63 (by decide) (fun c_69 => ?_) (fun c_69 => ?_)
                              · skip
                                have c_69 := ni_le c_69 rfl rfl
                                refine lv_aload_n hx hb dX11_findForm_101 rfl (lv_at hl 0 rfl) ?_
                                refine tz_get (ci := 8) (v := .ref h4) (C := RX11) (F := TX11) (N := 36) hx hb hU iX11 hown hK hT 1 rfl rfl 11 (by decide) w796 (fun _ h9 => h9) rfl dX11_findForm_102 ?_
                                refine lv_iconst (v := 3) hx hb dX11_findForm_105 (by decide) ?_
                                refine lv_iload_n hx hb dX11_findForm_106 rfl (lv_at hl 3 rfl) ?_
                                refine lv_imul hx hb dX11_findForm_107 (lv_topi (fun v70 e_v70 => ?_))
                                have e_v70 := ai_mul e_v70 li_3 hz19 (by omega)
                                refine lv_iload hx hb dX11_findForm_108 (lv_at hl 4 rfl) ?_
                                have hq71 : v70.toInt = 0 := by omega
                                refine lv_iadd hx hb dX11_findForm_110 (lv_topi (fun v72 e_v72 => ?_))
                                have e_v72 := ai_add e_v72 hq71 rfl (by omega)
                                refine tz_lald hx hb hK hT 0 rfl (by omega) dX11_findForm_111 (fun v73 e_v73 => ?_)
                                clear e_v73
                                refine lv_lload hx hb dX11_findForm_112 (lv_at hl 5 rfl) ?_
                                refine lv_ladd hx hb dX11_findForm_114 (lv_topl (fun v74 e_v74 => ?_))
                                refine lv_lstore (lv' := [(7, .long v74), (0, .ref h0), (1, .int y15), (2, .int y2), (3, .int y9), (4, .int y14), (5, .long y67)]) hx hb dX11_findForm_115 hl (by decide) rfl (fun ls hl => ?_)
                                refine lv_iload_n hx hb dX11_findForm_117 rfl (lv_at hl 2 rfl) ?_
                                refine lv_if_eq (tgt := 188) hx hb dX11_findForm_118 (by decide) (fun c_75 => ?_) (fun c_75 => ?_)
                                · skip
                                  have c_75 := ni_eq c_75 rfl li_0
                                  refine lv_iconst (v := 0) hx hb dX11_findForm_188 (by decide) ?_
                                  refine lv_istore_n (lv' := [(1, .int 0), (7, .long v74), (0, .ref h0), (2, .int y2), (3, .int y9), (4, .int y14), (5, .long y67)]) hx hb dX11_findForm_189 rfl hl (by decide) rfl (fun ls hl => ?_)
                                  refine lv_aload_n hx hb dX11_findForm_190 rfl (lv_at hl 2 rfl) ?_
                                  refine tz_get (ci := 8) (v := .ref h4) (C := RX11) (F := TX11) (N := 36) hx hb hU iX11 hown hK hT 1 rfl rfl 11 (by decide) w796 (fun _ h9 => h9) rfl dX11_findForm_191 ?_
                                  refine lv_iconst (v := 3) hx hb dX11_findForm_194 (by decide) ?_
                                  refine lv_iload_n hx hb dX11_findForm_195 rfl (lv_at hl 4 rfl) ?_
                                  refine lv_imul hx hb dX11_findForm_196 (lv_topi (fun v76 e_v76 => ?_))
                                  have e_v76 := ai_mul e_v76 li_3 hz19 (by omega)
                                  refine lv_iload hx hb dX11_findForm_197 (lv_at hl 5 rfl) ?_
                                  have hq77 : v76.toInt = 0 := by omega
                                  refine lv_iadd hx hb dX11_findForm_199 (lv_topi (fun v78 e_v78 => ?_))
                                  have e_v78 := ai_add e_v78 hq77 rfl (by omega)
                                  refine lv_lload hx hb dX11_findForm_200 (lv_at hl 1 rfl) ?_
                                  refine tz_lastP hx hb hK hT hS 0 (oP ((0 : Int32).toInt) (y2.toInt + y9.toInt + y14.toInt)) rfl (by omega) (o_putx (by omega) (by have := li_0; omega)) dX11_findForm_202 (fun H locs hT hS => ?_)
                                  have hT : TP D A [(h4, aJ (k 1) 9 (oP ((0 : Int32).toInt) (y2.toInt + y9.toInt + y14.toInt))), (h0, ob 8 [.int h0f0, .int h0f1, .int h0f2, .int h0f3, .int h0f4, .int h0f5, .ref h1, .ref h2, .int h0f8, .int h0f9, .ref h3, .ref h4, .ref h5, .ref h6, .ref h7, .ref h8, .ref h9, .int h0f17, .int h0f18, .int h0f19, .ref h10, .ref h11, .ref h12, .ref h13, .int h0f24, .int h0f25, .ref h14, .ref h15, .ref h16, .ref h17, .int h0f30, .int h0f31, .ref h18, .ref h19, .ref h20, .ref h21]), (h5, aJ (k 1) 9 (idP )), (h10, aJ (k 1) 900 (lsP (h0f9.toInt)))] _ := hT
                                  obtain ⟨v79, e_v79⟩ : ∃ x : Int32, x = y14 + Int32.ofInt 1 := ⟨_, rfl⟩
                                  have f_v79 := e_v79.symm
                                  have e_v79 : v79.toInt = y14.toInt + 1 := ai_add e_v79 rfl (show (Int32.ofInt 1).toInt = 1 from (by decide +kernel)) (by omega)
                                  refine lv_iinc (v := v79) (lv' := [(4, .int v79), (1, .int 0), (7, .long v74), (0, .ref h0), (2, .int y2), (3, .int y9), (5, .long y67)]) hx hb dX11_findForm_203 hl (k := 5) rfl f_v79 (by decide) rfl (fun ls hl => ?_)
                                  refine lv_goto (tgt := 42) hx hb dX11_findForm_206 (by decide) ?_
                                  have hT := hT.wk (q := 0) (P' := aJ (k 1) 9 (oP ((0 : Int32).toInt) (y2.toInt + y9.toInt + v79.toInt))) rfl (cv_o_o (by have := li_0; omega))
                                  have hT : TP D A [(h4, aJ (k 1) 9 (oP ((0 : Int32).toInt) (y2.toInt + y9.toInt + v79.toInt))), (h0, ob 8 [.int h0f0, .int h0f1, .int h0f2, .int h0f3, .int h0f4, .int h0f5, .ref h1, .ref h2, .int h0f8, .int h0f9, .ref h3, .ref h4, .ref h5, .ref h6, .ref h7, .ref h8, .ref h9, .int h0f17, .int h0f18, .int h0f19, .ref h10, .ref h11, .ref h12, .ref h13, .int h0f24, .int h0f25, .ref h14, .ref h15, .ref h16, .ref h17, .int h0f30, .int h0f31, .ref h18, .ref h19, .ref h20, .ref h21]), (h5, aJ (k 1) 9 (idP )), (h10, aJ (k 1) 900 (lsP (h0f9.toInt)))] _ := hT
                                  exact ih42_16 v79 (0) _ _ _ (by have := li_0; omega) (by have := li_0; omega)  (by have := li_0; omega) hT hS (lv_sub hl [3, 1, 4, 5, 0] rfl)
                                · skip
                                  have c_75 := ni_ne c_75 rfl li_0
                                  refine lv_aload_n hx hb dX11_findForm_121 rfl (lv_at hl 1 rfl) ?_
                                  refine tz_get (ci := 8) (v := .ref h4) (C := RX11) (F := TX11) (N := 36) hx hb hU iX11 hown hK hT 1 rfl rfl 11 (by decide) w796 (fun _ h9 => h9) rfl dX11_findForm_122 ?_
                                  refine lv_iconst (v := 3) hx hb dX11_findForm_125 (by decide) ?_
                                  refine lv_iload_n hx hb dX11_findForm_126 rfl (lv_at hl 4 rfl) ?_
                                  refine lv_imul hx hb dX11_findForm_127 (lv_topi (fun v80 e_v80 => ?_))
                                  have e_v80 := ai_mul e_v80 li_3 hz19 (by omega)
                                  refine lv_iload hx hb dX11_findForm_128 (lv_at hl 5 rfl) ?_
                                  have hq81 : v80.toInt = 0 := by omega
                                  refine lv_iadd hx hb dX11_findForm_130 (lv_topi (fun v82 e_v82 => ?_))
                                  have e_v82 := ai_add e_v82 hq81 rfl (by omega)
                                  refine tz_lald hx hb hK hT 0 rfl (by omega) dX11_findForm_131 (fun v83 e_v83 => ?_)
                                  clear e_v83
                                  refine lv_lconst (v := 0) hx hb dX11_findForm_132 (by decide) ?_
                                  refine W.lcmp hx hb dX11_findForm_133 ?_
                                  refine lv_if_lt (tgt := 141) hx hb dX11_findForm_134 (by decide) (fun c_84 => ?_) (fun c_84 => ?_)
                                  · skip
                                    have c_84 := nl_lt c_84 rfl ll_0
                                    refine lv_iconst (v := 0) hx hb dX11_findForm_141 (by decide) ?_
                                    refine lv_lload hx hb dX11_findForm_142 (lv_at hl 6 rfl) ?_
                                    refine lv_lconst (v := 0) hx hb dX11_findForm_144 (by decide) ?_
                                    refine W.lcmp hx hb dX11_findForm_145 ?_
                                    refine lv_if_lt (tgt := 153) hx hb dX11_findForm_146 (by decide) (fun c_85 => ?_) (fun c_85 => ?_)
                                    · skip
                                      have c_85 := nl_lt c_85 rfl ll_0
                                      refine lv_iconst (v := 0) hx hb dX11_findForm_153 (by decide) ?_
                                      refine lv_icmp_ne (tgt := 184) hx hb dX11_findForm_154 (by decide) (fun cc => absurd (by decide +kernel) cc) (fun _ => ?_)
                                      refine lv_lload hx hb dX11_findForm_157 (lv_at hl 0 rfl) ?_
                                      refine lv_lconst (v := 0) hx hb dX11_findForm_159 (by decide) ?_
                                      refine W.lcmp hx hb dX11_findForm_160 ?_
                                      refine lv_if_lt (tgt := 168) hx hb dX11_findForm_161 (by decide) (fun c_86 => ?_) (fun c_86 => ?_)
                                      · skip
                                        have c_86 := nl_lt c_86 rfl ll_0
                                        refine lv_iconst (v := 0) hx hb dX11_findForm_168 (by decide) ?_
                                        refine lv_lload hx hb dX11_findForm_169 (lv_at hl 6 rfl) ?_
                                        refine lv_lconst (v := 0) hx hb dX11_findForm_171 (by decide) ?_
                                        refine W.lcmp hx hb dX11_findForm_172 ?_
                                        refine lv_if_lt (tgt := 180) hx hb dX11_findForm_173 (by decide) (fun c_87 => ?_) (fun c_87 => ?_)
                                        · skip
                                          have c_87 := nl_lt c_87 rfl ll_0
                                          refine lv_iconst (v := 0) hx hb dX11_findForm_180 (by decide) ?_
                                          refine lv_icmp_ne (tgt := 188) hx hb dX11_findForm_181 (by decide) (fun cc => absurd (by decide +kernel) cc) (fun _ => ?_)
                                          refine lv_iconst (v := 1) hx hb dX11_findForm_184 (by decide) ?_
                                          refine lv_goto (tgt := 189) hx hb dX11_findForm_185 (by decide) ?_
                                          refine lv_istore_n (lv' := [(1, .int 1), (7, .long v74), (0, .ref h0), (2, .int y2), (3, .int y9), (4, .int y14), (5, .long y67)]) hx hb dX11_findForm_189 rfl hl (by decide) rfl (fun ls hl => ?_)
                                          refine lv_aload_n hx hb dX11_findForm_190 rfl (lv_at hl 2 rfl) ?_
                                          refine tz_get (ci := 8) (v := .ref h4) (C := RX11) (F := TX11) (N := 36) hx hb hU iX11 hown hK hT 1 rfl rfl 11 (by decide) w796 (fun _ h9 => h9) rfl dX11_findForm_191 ?_
                                          refine lv_iconst (v := 3) hx hb dX11_findForm_194 (by decide) ?_
                                          refine lv_iload_n hx hb dX11_findForm_195 rfl (lv_at hl 4 rfl) ?_
                                          refine lv_imul hx hb dX11_findForm_196 (lv_topi (fun v88 e_v88 => ?_))
                                          have e_v88 := ai_mul e_v88 li_3 hz19 (by omega)
                                          refine lv_iload hx hb dX11_findForm_197 (lv_at hl 5 rfl) ?_
                                          have hq89 : v88.toInt = 0 := by omega
                                          refine lv_iadd hx hb dX11_findForm_199 (lv_topi (fun v90 e_v90 => ?_))
                                          have e_v90 := ai_add e_v90 hq89 rfl (by omega)
                                          refine lv_lload hx hb dX11_findForm_200 (lv_at hl 1 rfl) ?_
                                          refine tz_lastP hx hb hK hT hS 0 (oP ((1 : Int32).toInt) (y2.toInt + y9.toInt + y14.toInt)) rfl (by omega) (o_putx (by omega) (by have := li_1; omega)) dX11_findForm_202 (fun H locs hT hS => ?_)
                                          have hT : TP D A [(h4, aJ (k 1) 9 (oP ((1 : Int32).toInt) (y2.toInt + y9.toInt + y14.toInt))), (h0, ob 8 [.int h0f0, .int h0f1, .int h0f2, .int h0f3, .int h0f4, .int h0f5, .ref h1, .ref h2, .int h0f8, .int h0f9, .ref h3, .ref h4, .ref h5, .ref h6, .ref h7, .ref h8, .ref h9, .int h0f17, .int h0f18, .int h0f19, .ref h10, .ref h11, .ref h12, .ref h13, .int h0f24, .int h0f25, .ref h14, .ref h15, .ref h16, .ref h17, .int h0f30, .int h0f31, .ref h18, .ref h19, .ref h20, .ref h21]), (h5, aJ (k 1) 9 (idP )), (h10, aJ (k 1) 900 (lsP (h0f9.toInt)))] _ := hT
                                          obtain ⟨v91, e_v91⟩ : ∃ x : Int32, x = y14 + Int32.ofInt 1 := ⟨_, rfl⟩
                                          have f_v91 := e_v91.symm
                                          have e_v91 : v91.toInt = y14.toInt + 1 := ai_add e_v91 rfl (show (Int32.ofInt 1).toInt = 1 from (by decide +kernel)) (by omega)
                                          refine lv_iinc (v := v91) (lv' := [(4, .int v91), (1, .int 1), (7, .long v74), (0, .ref h0), (2, .int y2), (3, .int y9), (5, .long y67)]) hx hb dX11_findForm_203 hl (k := 5) rfl f_v91 (by decide) rfl (fun ls hl => ?_)
                                          refine lv_goto (tgt := 42) hx hb dX11_findForm_206 (by decide) ?_
                                          have hT := hT.wk (q := 0) (P' := aJ (k 1) 9 (oP ((1 : Int32).toInt) (y2.toInt + y9.toInt + v91.toInt))) rfl (cv_o_o (by have := li_1; omega))
                                          have hT : TP D A [(h4, aJ (k 1) 9 (oP ((1 : Int32).toInt) (y2.toInt + y9.toInt + v91.toInt))), (h0, ob 8 [.int h0f0, .int h0f1, .int h0f2, .int h0f3, .int h0f4, .int h0f5, .ref h1, .ref h2, .int h0f8, .int h0f9, .ref h3, .ref h4, .ref h5, .ref h6, .ref h7, .ref h8, .ref h9, .int h0f17, .int h0f18, .int h0f19, .ref h10, .ref h11, .ref h12, .ref h13, .int h0f24, .int h0f25, .ref h14, .ref h15, .ref h16, .ref h17, .int h0f30, .int h0f31, .ref h18, .ref h19, .ref h20, .ref h21]), (h5, aJ (k 1) 9 (idP )), (h10, aJ (k 1) 900 (lsP (h0f9.toInt)))] _ := hT
                                          exact ih42_16 v91 (1) _ _ _ (by have := li_1; omega) (by have := li_1; omega)  (by have := li_1; omega) hT hS (lv_sub hl [3, 1, 4, 5, 0] rfl)
                                        · skip
                                          have c_87 := nl_nlt c_87 rfl ll_0
                                          exfalso; omega
                                      · skip
                                        have c_86 := nl_nlt c_86 rfl ll_0
                                        refine lv_iconst (v := 1) hx hb dX11_findForm_164 (by decide) ?_
                                        refine lv_goto (tgt := 169) hx hb dX11_findForm_165 (by decide) ?_
                                        refine lv_lload hx hb dX11_findForm_169 (lv_at hl 6 rfl) ?_
                                        refine lv_lconst (v := 0) hx hb dX11_findForm_171 (by decide) ?_
                                        refine W.lcmp hx hb dX11_findForm_172 ?_
                                        refine lv_if_lt (tgt := 180) hx hb dX11_findForm_173 (by decide) (fun c_92 => ?_) (fun c_92 => ?_)
                                        · skip
                                          have c_92 := nl_lt c_92 rfl ll_0
                                          refine lv_iconst (v := 0) hx hb dX11_findForm_180 (by decide) ?_
                                          refine lv_icmp_ne (tgt := 188) hx hb dX11_findForm_181 (by decide) (fun _ => ?_) (fun cc => absurd cc (by decide +kernel))
                                          refine lv_iconst (v := 0) hx hb dX11_findForm_188 (by decide) ?_
                                          refine lv_istore_n (lv' := [(1, .int 0), (7, .long v74), (0, .ref h0), (2, .int y2), (3, .int y9), (4, .int y14), (5, .long y67)]) hx hb dX11_findForm_189 rfl hl (by decide) rfl (fun ls hl => ?_)
                                          refine lv_aload_n hx hb dX11_findForm_190 rfl (lv_at hl 2 rfl) ?_
                                          refine tz_get (ci := 8) (v := .ref h4) (C := RX11) (F := TX11) (N := 36) hx hb hU iX11 hown hK hT 1 rfl rfl 11 (by decide) w796 (fun _ h9 => h9) rfl dX11_findForm_191 ?_
                                          refine lv_iconst (v := 3) hx hb dX11_findForm_194 (by decide) ?_
                                          refine lv_iload_n hx hb dX11_findForm_195 rfl (lv_at hl 4 rfl) ?_
                                          refine lv_imul hx hb dX11_findForm_196 (lv_topi (fun v93 e_v93 => ?_))
                                          have e_v93 := ai_mul e_v93 li_3 hz19 (by omega)
                                          refine lv_iload hx hb dX11_findForm_197 (lv_at hl 5 rfl) ?_
                                          have hq94 : v93.toInt = 0 := by omega
                                          refine lv_iadd hx hb dX11_findForm_199 (lv_topi (fun v95 e_v95 => ?_))
                                          have e_v95 := ai_add e_v95 hq94 rfl (by omega)
                                          refine lv_lload hx hb dX11_findForm_200 (lv_at hl 1 rfl) ?_
                                          refine tz_lastP hx hb hK hT hS 0 (oP ((0 : Int32).toInt) (y2.toInt + y9.toInt + y14.toInt)) rfl (by omega) (o_putx (by omega) (by have := li_0; omega)) dX11_findForm_202 (fun H locs hT hS => ?_)
                                          have hT : TP D A [(h4, aJ (k 1) 9 (oP ((0 : Int32).toInt) (y2.toInt + y9.toInt + y14.toInt))), (h0, ob 8 [.int h0f0, .int h0f1, .int h0f2, .int h0f3, .int h0f4, .int h0f5, .ref h1, .ref h2, .int h0f8, .int h0f9, .ref h3, .ref h4, .ref h5, .ref h6, .ref h7, .ref h8, .ref h9, .int h0f17, .int h0f18, .int h0f19, .ref h10, .ref h11, .ref h12, .ref h13, .int h0f24, .int h0f25, .ref h14, .ref h15, .ref h16, .ref h17, .int h0f30, .int h0f31, .ref h18, .ref h19, .ref h20, .ref h21]), (h5, aJ (k 1) 9 (idP )), (h10, aJ (k 1) 900 (lsP (h0f9.toInt)))] _ := hT
                                          obtain ⟨v96, e_v96⟩ : ∃ x : Int32, x = y14 + Int32.ofInt 1 := ⟨_, rfl⟩
                                          have f_v96 := e_v96.symm
                                          have e_v96 : v96.toInt = y14.toInt + 1 := ai_add e_v96 rfl (show (Int32.ofInt 1).toInt = 1 from (by decide +kernel)) (by omega)
                                          refine lv_iinc (v := v96) (lv' := [(4, .int v96), (1, .int 0), (7, .long v74), (0, .ref h0), (2, .int y2), (3, .int y9), (5, .long y67)]) hx hb dX11_findForm_203 hl (k := 5) rfl f_v96 (by decide) rfl (fun ls hl => ?_)
                                          refine lv_goto (tgt := 42) hx hb dX11_findForm_206 (by decide) ?_
                                          have hT := hT.wk (q := 0) (P' := aJ (k 1) 9 (oP ((0 : Int32).toInt) (y2.toInt + y9.toInt + v96.toInt))) rfl (cv_o_o (by have := li_0; omega))
                                          have hT : TP D A [(h4, aJ (k 1) 9 (oP ((0 : Int32).toInt) (y2.toInt + y9.toInt + v96.toInt))), (h0, ob 8 [.int h0f0, .int h0f1, .int h0f2, .int h0f3, .int h0f4, .int h0f5, .ref h1, .ref h2, .int h0f8, .int h0f9, .ref h3, .ref h4, .ref h5, .ref h6, .ref h7, .ref h8, .ref h9, .int h0f17, .int h0f18, .int h0f19, .ref h10, .ref h11, .ref h12, .ref h13, .int h0f24, .int h0f25, .ref h14, .ref h15, .ref h16, .ref h17, .int h0f30, .int h0f31, .ref h18, .ref h19, .ref h20, .ref h21]), (h5, aJ (k 1) 9 (idP )), (h10, aJ (k 1) 900 (lsP (h0f9.toInt)))] _ := hT
                                          exact ih42_16 v96 (0) _ _ _ (by have := li_0; omega) (by have := li_0; omega)  (by have := li_0; omega) hT hS (lv_sub hl [3, 1, 4, 5, 0] rfl)
                                        · skip
                                          have c_92 := nl_nlt c_92 rfl ll_0
                                          exfalso; omega
                                    · skip
                                      have c_85 := nl_nlt c_85 rfl ll_0
                                      refine lv_iconst (v := 1) hx hb dX11_findForm_149 (by decide) ?_
                                      refine lv_goto (tgt := 154) hx hb dX11_findForm_150 (by decide) ?_
                                      refine lv_icmp_ne (tgt := 184) hx hb dX11_findForm_154 (by decide) (fun _ => ?_) (fun cc => absurd cc (by decide +kernel))
                                      refine lv_iconst (v := 1) hx hb dX11_findForm_184 (by decide) ?_
                                      refine lv_goto (tgt := 189) hx hb dX11_findForm_185 (by decide) ?_
                                      refine lv_istore_n (lv' := [(1, .int 1), (7, .long v74), (0, .ref h0), (2, .int y2), (3, .int y9), (4, .int y14), (5, .long y67)]) hx hb dX11_findForm_189 rfl hl (by decide) rfl (fun ls hl => ?_)
                                      refine lv_aload_n hx hb dX11_findForm_190 rfl (lv_at hl 2 rfl) ?_
                                      refine tz_get (ci := 8) (v := .ref h4) (C := RX11) (F := TX11) (N := 36) hx hb hU iX11 hown hK hT 1 rfl rfl 11 (by decide) w796 (fun _ h9 => h9) rfl dX11_findForm_191 ?_
                                      refine lv_iconst (v := 3) hx hb dX11_findForm_194 (by decide) ?_
                                      refine lv_iload_n hx hb dX11_findForm_195 rfl (lv_at hl 4 rfl) ?_
                                      refine lv_imul hx hb dX11_findForm_196 (lv_topi (fun v97 e_v97 => ?_))
                                      have e_v97 := ai_mul e_v97 li_3 hz19 (by omega)
                                      refine lv_iload hx hb dX11_findForm_197 (lv_at hl 5 rfl) ?_
                                      have hq98 : v97.toInt = 0 := by omega
                                      refine lv_iadd hx hb dX11_findForm_199 (lv_topi (fun v99 e_v99 => ?_))
                                      have e_v99 := ai_add e_v99 hq98 rfl (by omega)
                                      refine lv_lload hx hb dX11_findForm_200 (lv_at hl 1 rfl) ?_
                                      refine tz_lastP hx hb hK hT hS 0 (oP ((1 : Int32).toInt) (y2.toInt + y9.toInt + y14.toInt)) rfl (by omega) (o_putx (by omega) (by have := li_1; omega)) dX11_findForm_202 (fun H locs hT hS => ?_)
                                      have hT : TP D A [(h4, aJ (k 1) 9 (oP ((1 : Int32).toInt) (y2.toInt + y9.toInt + y14.toInt))), (h0, ob 8 [.int h0f0, .int h0f1, .int h0f2, .int h0f3, .int h0f4, .int h0f5, .ref h1, .ref h2, .int h0f8, .int h0f9, .ref h3, .ref h4, .ref h5, .ref h6, .ref h7, .ref h8, .ref h9, .int h0f17, .int h0f18, .int h0f19, .ref h10, .ref h11, .ref h12, .ref h13, .int h0f24, .int h0f25, .ref h14, .ref h15, .ref h16, .ref h17, .int h0f30, .int h0f31, .ref h18, .ref h19, .ref h20, .ref h21]), (h5, aJ (k 1) 9 (idP )), (h10, aJ (k 1) 900 (lsP (h0f9.toInt)))] _ := hT
                                      obtain ⟨v100, e_v100⟩ : ∃ x : Int32, x = y14 + Int32.ofInt 1 := ⟨_, rfl⟩
                                      have f_v100 := e_v100.symm
                                      have e_v100 : v100.toInt = y14.toInt + 1 := ai_add e_v100 rfl (show (Int32.ofInt 1).toInt = 1 from (by decide +kernel)) (by omega)
                                      refine lv_iinc (v := v100) (lv' := [(4, .int v100), (1, .int 1), (7, .long v74), (0, .ref h0), (2, .int y2), (3, .int y9), (5, .long y67)]) hx hb dX11_findForm_203 hl (k := 5) rfl f_v100 (by decide) rfl (fun ls hl => ?_)
                                      refine lv_goto (tgt := 42) hx hb dX11_findForm_206 (by decide) ?_
                                      have hT := hT.wk (q := 0) (P' := aJ (k 1) 9 (oP ((1 : Int32).toInt) (y2.toInt + y9.toInt + v100.toInt))) rfl (cv_o_o (by have := li_1; omega))
                                      have hT : TP D A [(h4, aJ (k 1) 9 (oP ((1 : Int32).toInt) (y2.toInt + y9.toInt + v100.toInt))), (h0, ob 8 [.int h0f0, .int h0f1, .int h0f2, .int h0f3, .int h0f4, .int h0f5, .ref h1, .ref h2, .int h0f8, .int h0f9, .ref h3, .ref h4, .ref h5, .ref h6, .ref h7, .ref h8, .ref h9, .int h0f17, .int h0f18, .int h0f19, .ref h10, .ref h11, .ref h12, .ref h13, .int h0f24, .int h0f25, .ref h14, .ref h15, .ref h16, .ref h17, .int h0f30, .int h0f31, .ref h18, .ref h19, .ref h20, .ref h21]), (h5, aJ (k 1) 9 (idP )), (h10, aJ (k 1) 900 (lsP (h0f9.toInt)))] _ := hT
                                      exact ih42_16 v100 (1) _ _ _ (by have := li_1; omega) (by have := li_1; omega)  (by have := li_1; omega) hT hS (lv_sub hl [3, 1, 4, 5, 0] rfl)
                                  · skip
                                    have c_84 := nl_nlt c_84 rfl ll_0
                                    refine lv_iconst (v := 1) hx hb dX11_findForm_137 (by decide) ?_
                                    refine lv_goto (tgt := 142) hx hb dX11_findForm_138 (by decide) ?_
                                    refine lv_lload hx hb dX11_findForm_142 (lv_at hl 6 rfl) ?_
                                    refine lv_lconst (v := 0) hx hb dX11_findForm_144 (by decide) ?_
                                    refine W.lcmp hx hb dX11_findForm_145 ?_
                                    refine lv_if_lt (tgt := 153) hx hb dX11_findForm_146 (by decide) (fun c_101 => ?_) (fun c_101 => ?_)
                                    · skip
                                      have c_101 := nl_lt c_101 rfl ll_0
                                      refine lv_iconst (v := 0) hx hb dX11_findForm_153 (by decide) ?_
                                      refine lv_icmp_ne (tgt := 184) hx hb dX11_findForm_154 (by decide) (fun _ => ?_) (fun cc => absurd cc (by decide +kernel))
                                      refine lv_iconst (v := 1) hx hb dX11_findForm_184 (by decide) ?_
                                      refine lv_goto (tgt := 189) hx hb dX11_findForm_185 (by decide) ?_
                                      refine lv_istore_n (lv' := [(1, .int 1), (7, .long v74), (0, .ref h0), (2, .int y2), (3, .int y9), (4, .int y14), (5, .long y67)]) hx hb dX11_findForm_189 rfl hl (by decide) rfl (fun ls hl => ?_)
                                      refine lv_aload_n hx hb dX11_findForm_190 rfl (lv_at hl 2 rfl) ?_
                                      refine tz_get (ci := 8) (v := .ref h4) (C := RX11) (F := TX11) (N := 36) hx hb hU iX11 hown hK hT 1 rfl rfl 11 (by decide) w796 (fun _ h9 => h9) rfl dX11_findForm_191 ?_
                                      refine lv_iconst (v := 3) hx hb dX11_findForm_194 (by decide) ?_
                                      refine lv_iload_n hx hb dX11_findForm_195 rfl (lv_at hl 4 rfl) ?_
                                      refine lv_imul hx hb dX11_findForm_196 (lv_topi (fun v102 e_v102 => ?_))
                                      have e_v102 := ai_mul e_v102 li_3 hz19 (by omega)
                                      refine lv_iload hx hb dX11_findForm_197 (lv_at hl 5 rfl) ?_
                                      have hq103 : v102.toInt = 0 := by omega
                                      refine lv_iadd hx hb dX11_findForm_199 (lv_topi (fun v104 e_v104 => ?_))
                                      have e_v104 := ai_add e_v104 hq103 rfl (by omega)
                                      refine lv_lload hx hb dX11_findForm_200 (lv_at hl 1 rfl) ?_
                                      refine tz_lastP hx hb hK hT hS 0 (oP ((1 : Int32).toInt) (y2.toInt + y9.toInt + y14.toInt)) rfl (by omega) (o_putx (by omega) (by have := li_1; omega)) dX11_findForm_202 (fun H locs hT hS => ?_)
                                      have hT : TP D A [(h4, aJ (k 1) 9 (oP ((1 : Int32).toInt) (y2.toInt + y9.toInt + y14.toInt))), (h0, ob 8 [.int h0f0, .int h0f1, .int h0f2, .int h0f3, .int h0f4, .int h0f5, .ref h1, .ref h2, .int h0f8, .int h0f9, .ref h3, .ref h4, .ref h5, .ref h6, .ref h7, .ref h8, .ref h9, .int h0f17, .int h0f18, .int h0f19, .ref h10, .ref h11, .ref h12, .ref h13, .int h0f24, .int h0f25, .ref h14, .ref h15, .ref h16, .ref h17, .int h0f30, .int h0f31, .ref h18, .ref h19, .ref h20, .ref h21]), (h5, aJ (k 1) 9 (idP )), (h10, aJ (k 1) 900 (lsP (h0f9.toInt)))] _ := hT
                                      obtain ⟨v105, e_v105⟩ : ∃ x : Int32, x = y14 + Int32.ofInt 1 := ⟨_, rfl⟩
                                      have f_v105 := e_v105.symm
                                      have e_v105 : v105.toInt = y14.toInt + 1 := ai_add e_v105 rfl (show (Int32.ofInt 1).toInt = 1 from (by decide +kernel)) (by omega)
                                      refine lv_iinc (v := v105) (lv' := [(4, .int v105), (1, .int 1), (7, .long v74), (0, .ref h0), (2, .int y2), (3, .int y9), (5, .long y67)]) hx hb dX11_findForm_203 hl (k := 5) rfl f_v105 (by decide) rfl (fun ls hl => ?_)
                                      refine lv_goto (tgt := 42) hx hb dX11_findForm_206 (by decide) ?_
                                      have hT := hT.wk (q := 0) (P' := aJ (k 1) 9 (oP ((1 : Int32).toInt) (y2.toInt + y9.toInt + v105.toInt))) rfl (cv_o_o (by have := li_1; omega))
                                      have hT : TP D A [(h4, aJ (k 1) 9 (oP ((1 : Int32).toInt) (y2.toInt + y9.toInt + v105.toInt))), (h0, ob 8 [.int h0f0, .int h0f1, .int h0f2, .int h0f3, .int h0f4, .int h0f5, .ref h1, .ref h2, .int h0f8, .int h0f9, .ref h3, .ref h4, .ref h5, .ref h6, .ref h7, .ref h8, .ref h9, .int h0f17, .int h0f18, .int h0f19, .ref h10, .ref h11, .ref h12, .ref h13, .int h0f24, .int h0f25, .ref h14, .ref h15, .ref h16, .ref h17, .int h0f30, .int h0f31, .ref h18, .ref h19, .ref h20, .ref h21]), (h5, aJ (k 1) 9 (idP )), (h10, aJ (k 1) 900 (lsP (h0f9.toInt)))] _ := hT
                                      exact ih42_16 v105 (1) _ _ _ (by have := li_1; omega) (by have := li_1; omega)  (by have := li_1; omega) hT hS (lv_sub hl [3, 1, 4, 5, 0] rfl)
                                    · skip
                                      have c_101 := nl_nlt c_101 rfl ll_0
                                      refine lv_iconst (v := 1) hx hb dX11_findForm_149 (by decide) ?_
                                      refine lv_goto (tgt := 154) hx hb dX11_findForm_150 (by decide) ?_
                                      refine lv_icmp_ne (tgt := 184) hx hb dX11_findForm_154 (by decide) (fun cc => absurd (by decide +kernel) cc) (fun _ => ?_)
                                      refine lv_lload hx hb dX11_findForm_157 (lv_at hl 0 rfl) ?_
                                      refine lv_lconst (v := 0) hx hb dX11_findForm_159 (by decide) ?_
                                      refine W.lcmp hx hb dX11_findForm_160 ?_
                                      refine lv_if_lt (tgt := 168) hx hb dX11_findForm_161 (by decide) (fun c_106 => ?_) (fun c_106 => ?_)
                                      · skip
                                        have c_106 := nl_lt c_106 rfl ll_0
                                        refine lv_iconst (v := 0) hx hb dX11_findForm_168 (by decide) ?_
                                        refine lv_lload hx hb dX11_findForm_169 (lv_at hl 6 rfl) ?_
                                        refine lv_lconst (v := 0) hx hb dX11_findForm_171 (by decide) ?_
                                        refine W.lcmp hx hb dX11_findForm_172 ?_
                                        refine lv_if_lt (tgt := 180) hx hb dX11_findForm_173 (by decide) (fun c_107 => ?_) (fun c_107 => ?_)
                                        · skip
                                          have c_107 := nl_lt c_107 rfl ll_0
                                          exfalso; omega
                                        · skip
                                          have c_107 := nl_nlt c_107 rfl ll_0
                                          refine lv_iconst (v := 1) hx hb dX11_findForm_176 (by decide) ?_
                                          refine lv_goto (tgt := 181) hx hb dX11_findForm_177 (by decide) ?_
                                          refine lv_icmp_ne (tgt := 188) hx hb dX11_findForm_181 (by decide) (fun _ => ?_) (fun cc => absurd cc (by decide +kernel))
                                          refine lv_iconst (v := 0) hx hb dX11_findForm_188 (by decide) ?_
                                          refine lv_istore_n (lv' := [(1, .int 0), (7, .long v74), (0, .ref h0), (2, .int y2), (3, .int y9), (4, .int y14), (5, .long y67)]) hx hb dX11_findForm_189 rfl hl (by decide) rfl (fun ls hl => ?_)
                                          refine lv_aload_n hx hb dX11_findForm_190 rfl (lv_at hl 2 rfl) ?_
                                          refine tz_get (ci := 8) (v := .ref h4) (C := RX11) (F := TX11) (N := 36) hx hb hU iX11 hown hK hT 1 rfl rfl 11 (by decide) w796 (fun _ h9 => h9) rfl dX11_findForm_191 ?_
                                          refine lv_iconst (v := 3) hx hb dX11_findForm_194 (by decide) ?_
                                          refine lv_iload_n hx hb dX11_findForm_195 rfl (lv_at hl 4 rfl) ?_
                                          refine lv_imul hx hb dX11_findForm_196 (lv_topi (fun v108 e_v108 => ?_))
                                          have e_v108 := ai_mul e_v108 li_3 hz19 (by omega)
                                          refine lv_iload hx hb dX11_findForm_197 (lv_at hl 5 rfl) ?_
                                          have hq109 : v108.toInt = 0 := by omega
                                          refine lv_iadd hx hb dX11_findForm_199 (lv_topi (fun v110 e_v110 => ?_))
                                          have e_v110 := ai_add e_v110 hq109 rfl (by omega)
                                          refine lv_lload hx hb dX11_findForm_200 (lv_at hl 1 rfl) ?_
                                          refine tz_lastP hx hb hK hT hS 0 (oP ((0 : Int32).toInt) (y2.toInt + y9.toInt + y14.toInt)) rfl (by omega) (o_putx (by omega) (by have := li_0; omega)) dX11_findForm_202 (fun H locs hT hS => ?_)
                                          have hT : TP D A [(h4, aJ (k 1) 9 (oP ((0 : Int32).toInt) (y2.toInt + y9.toInt + y14.toInt))), (h0, ob 8 [.int h0f0, .int h0f1, .int h0f2, .int h0f3, .int h0f4, .int h0f5, .ref h1, .ref h2, .int h0f8, .int h0f9, .ref h3, .ref h4, .ref h5, .ref h6, .ref h7, .ref h8, .ref h9, .int h0f17, .int h0f18, .int h0f19, .ref h10, .ref h11, .ref h12, .ref h13, .int h0f24, .int h0f25, .ref h14, .ref h15, .ref h16, .ref h17, .int h0f30, .int h0f31, .ref h18, .ref h19, .ref h20, .ref h21]), (h5, aJ (k 1) 9 (idP )), (h10, aJ (k 1) 900 (lsP (h0f9.toInt)))] _ := hT
                                          obtain ⟨v111, e_v111⟩ : ∃ x : Int32, x = y14 + Int32.ofInt 1 := ⟨_, rfl⟩
                                          have f_v111 := e_v111.symm
                                          have e_v111 : v111.toInt = y14.toInt + 1 := ai_add e_v111 rfl (show (Int32.ofInt 1).toInt = 1 from (by decide +kernel)) (by omega)
                                          refine lv_iinc (v := v111) (lv' := [(4, .int v111), (1, .int 0), (7, .long v74), (0, .ref h0), (2, .int y2), (3, .int y9), (5, .long y67)]) hx hb dX11_findForm_203 hl (k := 5) rfl f_v111 (by decide) rfl (fun ls hl => ?_)
                                          refine lv_goto (tgt := 42) hx hb dX11_findForm_206 (by decide) ?_
                                          have hT := hT.wk (q := 0) (P' := aJ (k 1) 9 (oP ((0 : Int32).toInt) (y2.toInt + y9.toInt + v111.toInt))) rfl (cv_o_o (by have := li_0; omega))
                                          have hT : TP D A [(h4, aJ (k 1) 9 (oP ((0 : Int32).toInt) (y2.toInt + y9.toInt + v111.toInt))), (h0, ob 8 [.int h0f0, .int h0f1, .int h0f2, .int h0f3, .int h0f4, .int h0f5, .ref h1, .ref h2, .int h0f8, .int h0f9, .ref h3, .ref h4, .ref h5, .ref h6, .ref h7, .ref h8, .ref h9, .int h0f17, .int h0f18, .int h0f19, .ref h10, .ref h11, .ref h12, .ref h13, .int h0f24, .int h0f25, .ref h14, .ref h15, .ref h16, .ref h17, .int h0f30, .int h0f31, .ref h18, .ref h19, .ref h20, .ref h21]), (h5, aJ (k 1) 9 (idP )), (h10, aJ (k 1) 900 (lsP (h0f9.toInt)))] _ := hT
                                          exact ih42_16 v111 (0) _ _ _ (by have := li_0; omega) (by have := li_0; omega)  (by have := li_0; omega) hT hS (lv_sub hl [3, 1, 4, 5, 0] rfl)
                                      · skip
                                        have c_106 := nl_nlt c_106 rfl ll_0
                                        refine lv_iconst (v := 1) hx hb dX11_findForm_164 (by decide) ?_
                                        refine lv_goto (tgt := 169) hx hb dX11_findForm_165 (by decide) ?_
                                        refine lv_lload hx hb dX11_findForm_169 (lv_at hl 6 rfl) ?_
                                        refine lv_lconst (v := 0) hx hb dX11_findForm_171 (by decide) ?_
                                        refine W.lcmp hx hb dX11_findForm_172 ?_
                                        refine lv_if_lt (tgt := 180) hx hb dX11_findForm_173 (by decide) (fun c_112 => ?_) (fun c_112 => ?_)
                                        · skip
                                          have c_112 := nl_lt c_112 rfl ll_0
                                          exfalso; omega
                                        · skip
                                          have c_112 := nl_nlt c_112 rfl ll_0
                                          refine lv_iconst (v := 1) hx hb dX11_findForm_176 (by decide) ?_
                                          refine lv_goto (tgt := 181) hx hb dX11_findForm_177 (by decide) ?_
                                          refine lv_icmp_ne (tgt := 188) hx hb dX11_findForm_181 (by decide) (fun cc => absurd (by decide +kernel) cc) (fun _ => ?_)
                                          refine lv_iconst (v := 1) hx hb dX11_findForm_184 (by decide) ?_
                                          refine lv_goto (tgt := 189) hx hb dX11_findForm_185 (by decide) ?_
                                          refine lv_istore_n (lv' := [(1, .int 1), (7, .long v74), (0, .ref h0), (2, .int y2), (3, .int y9), (4, .int y14), (5, .long y67)]) hx hb dX11_findForm_189 rfl hl (by decide) rfl (fun ls hl => ?_)
                                          refine lv_aload_n hx hb dX11_findForm_190 rfl (lv_at hl 2 rfl) ?_
                                          refine tz_get (ci := 8) (v := .ref h4) (C := RX11) (F := TX11) (N := 36) hx hb hU iX11 hown hK hT 1 rfl rfl 11 (by decide) w796 (fun _ h9 => h9) rfl dX11_findForm_191 ?_
                                          refine lv_iconst (v := 3) hx hb dX11_findForm_194 (by decide) ?_
                                          refine lv_iload_n hx hb dX11_findForm_195 rfl (lv_at hl 4 rfl) ?_
                                          refine lv_imul hx hb dX11_findForm_196 (lv_topi (fun v113 e_v113 => ?_))
                                          have e_v113 := ai_mul e_v113 li_3 hz19 (by omega)
                                          refine lv_iload hx hb dX11_findForm_197 (lv_at hl 5 rfl) ?_
                                          have hq114 : v113.toInt = 0 := by omega
                                          refine lv_iadd hx hb dX11_findForm_199 (lv_topi (fun v115 e_v115 => ?_))
                                          have e_v115 := ai_add e_v115 hq114 rfl (by omega)
                                          refine lv_lload hx hb dX11_findForm_200 (lv_at hl 1 rfl) ?_
                                          refine tz_lastP hx hb hK hT hS 0 (oP ((1 : Int32).toInt) (y2.toInt + y9.toInt + y14.toInt)) rfl (by omega) (o_putx (by omega) (by have := li_1; omega)) dX11_findForm_202 (fun H locs hT hS => ?_)
                                          have hT : TP D A [(h4, aJ (k 1) 9 (oP ((1 : Int32).toInt) (y2.toInt + y9.toInt + y14.toInt))), (h0, ob 8 [.int h0f0, .int h0f1, .int h0f2, .int h0f3, .int h0f4, .int h0f5, .ref h1, .ref h2, .int h0f8, .int h0f9, .ref h3, .ref h4, .ref h5, .ref h6, .ref h7, .ref h8, .ref h9, .int h0f17, .int h0f18, .int h0f19, .ref h10, .ref h11, .ref h12, .ref h13, .int h0f24, .int h0f25, .ref h14, .ref h15, .ref h16, .ref h17, .int h0f30, .int h0f31, .ref h18, .ref h19, .ref h20, .ref h21]), (h5, aJ (k 1) 9 (idP )), (h10, aJ (k 1) 900 (lsP (h0f9.toInt)))] _ := hT
                                          obtain ⟨v116, e_v116⟩ : ∃ x : Int32, x = y14 + Int32.ofInt 1 := ⟨_, rfl⟩
                                          have f_v116 := e_v116.symm
                                          have e_v116 : v116.toInt = y14.toInt + 1 := ai_add e_v116 rfl (show (Int32.ofInt 1).toInt = 1 from (by decide +kernel)) (by omega)
                                          refine lv_iinc (v := v116) (lv' := [(4, .int v116), (1, .int 1), (7, .long v74), (0, .ref h0), (2, .int y2), (3, .int y9), (5, .long y67)]) hx hb dX11_findForm_203 hl (k := 5) rfl f_v116 (by decide) rfl (fun ls hl => ?_)
                                          refine lv_goto (tgt := 42) hx hb dX11_findForm_206 (by decide) ?_
                                          have hT := hT.wk (q := 0) (P' := aJ (k 1) 9 (oP ((1 : Int32).toInt) (y2.toInt + y9.toInt + v116.toInt))) rfl (cv_o_o (by have := li_1; omega))
                                          have hT : TP D A [(h4, aJ (k 1) 9 (oP ((1 : Int32).toInt) (y2.toInt + y9.toInt + v116.toInt))), (h0, ob 8 [.int h0f0, .int h0f1, .int h0f2, .int h0f3, .int h0f4, .int h0f5, .ref h1, .ref h2, .int h0f8, .int h0f9, .ref h3, .ref h4, .ref h5, .ref h6, .ref h7, .ref h8, .ref h9, .int h0f17, .int h0f18, .int h0f19, .ref h10, .ref h11, .ref h12, .ref h13, .int h0f24, .int h0f25, .ref h14, .ref h15, .ref h16, .ref h17, .int h0f30, .int h0f31, .ref h18, .ref h19, .ref h20, .ref h21]), (h5, aJ (k 1) 9 (idP )), (h10, aJ (k 1) 900 (lsP (h0f9.toInt)))] _ := hT
                                          exact ih42_16 v116 (1) _ _ _ (by have := li_1; omega) (by have := li_1; omega)  (by have := li_1; omega) hT hS (lv_sub hl [3, 1, 4, 5, 0] rfl)
                              · skip
                                have c_69 := ni_nle c_69 rfl rfl
                                refine lv_lload hx hb dX11_findForm_66 (lv_at hl 5 rfl) ?_
                                refine lv_aload_n hx hb dX11_findForm_68 rfl (lv_at hl 0 rfl) ?_
                                refine tz_get (ci := 8) (v := .ref h5) (C := RX11) (F := TX11) (N := 36) hx hb hU iX11 hown hK hT 1 rfl rfl 12 (by decide) w797 (fun _ h9 => h9) rfl dX11_findForm_69 ?_
                                refine lv_iconst (v := 3) hx hb dX11_findForm_72 (by decide) ?_
                                refine lv_iload hx hb dX11_findForm_73 (lv_at hl 6 rfl) ?_
                                refine lv_imul hx hb dX11_findForm_75 (lv_topi (fun v117 e_v117 => ?_))
                                have e_v117 := ai_mul e_v117 li_3 rfl (by omega)
                                refine lv_iload_n hx hb dX11_findForm_76 rfl (lv_at hl 3 rfl) ?_
                                refine lv_iadd hx hb dX11_findForm_77 (lv_topi (fun v118 e_v118 => ?_))
                                have e_v118 := ai_add e_v118 rfl hz19 (by omega)
                                refine tz_lald hx hb hK hT 2 rfl (by omega) dX11_findForm_78 (fun v119 e_v119 => ?_)
                                clear e_v119
                                refine lv_aload_n hx hb dX11_findForm_79 rfl (lv_at hl 0 rfl) ?_
                                refine tz_get (ci := 8) (v := .ref h5) (C := RX11) (F := TX11) (N := 36) hx hb hU iX11 hown hK hT 1 rfl rfl 12 (by decide) w797 (fun _ h9 => h9) rfl dX11_findForm_80 ?_
                                refine lv_iconst (v := 3) hx hb dX11_findForm_83 (by decide) ?_
                                refine lv_iload hx hb dX11_findForm_84 (lv_at hl 6 rfl) ?_
                                refine lv_imul hx hb dX11_findForm_86 (lv_topi (fun v120 e_v120 => ?_))
                                have e_v120 := ai_mul e_v120 li_3 rfl (by omega)
                                refine lv_iload hx hb dX11_findForm_87 (lv_at hl 4 rfl) ?_
                                refine lv_iadd hx hb dX11_findForm_89 (lv_topi (fun v121 e_v121 => ?_))
                                have e_v121 := ai_add e_v121 rfl rfl (by omega)
                                refine tz_lald hx hb hK hT 2 rfl (by omega) dX11_findForm_90 (fun v122 e_v122 => ?_)
                                clear e_v122
                                refine lv_lmul hx hb dX11_findForm_91 (lv_topl (fun v123 e_v123 => ?_))
                                refine lv_ladd hx hb dX11_findForm_92 (lv_topl (fun v124 e_v124 => ?_))
                                refine lv_lstore (lv' := [(5, .long v124), (0, .ref h0), (1, .int y15), (2, .int y2), (3, .int y9), (4, .int y14), (7, .int y66)]) hx hb dX11_findForm_93 hl (by decide) rfl (fun ls hl => ?_)
                                obtain ⟨v125, e_v125⟩ : ∃ x : Int32, x = y66 + Int32.ofInt 1 := ⟨_, rfl⟩
                                have f_v125 := e_v125.symm
                                have e_v125 : v125.toInt = y66.toInt + 1 := ai_add e_v125 rfl (show (Int32.ofInt 1).toInt = 1 from (by decide +kernel)) (by omega)
                                refine lv_iinc (v := v125) (lv' := [(7, .int v125), (5, .long v124), (0, .ref h0), (1, .int y15), (2, .int y2), (3, .int y9), (4, .int y14)]) hx hb dX11_findForm_95 hl (k := 6) rfl f_v125 (by decide) rfl (fun ls hl => ?_)
                                refine lv_goto (tgt := 57) hx hb dX11_findForm_98 (by decide) ?_
                                exact ih57_68 v125 v124 _ _ _ (by omega)  (by omega) hT hS (lv_sub hl [2, 3, 4, 5, 6, 1, 0] rfl)
                          exact lp57_68 ((h0f0.toInt + (-1) * (0 : Int32).toInt + 1).toNat + 1) (0) (0) _ _ _ (by have := li_0; have := ll_0; omega)  (Nat.lt_succ_self _) hT hS (lv_sub hl [2, 3, 4, 5, 6, 1, 0] rfl)
                      · skip
                        rcases (show y14.toInt = 0 ∨ 1 ≤ y14.toInt by omega) with hz126 | hz126
                        · skip
                          refine lv_lconst (v := 0) hx hb dX11_findForm_51 (by decide) ?_
                          refine lv_lstore (lv' := [(5, .long 0), (0, .ref h0), (1, .int y15), (2, .int y2), (3, .int y9), (4, .int y14)]) hx hb dX11_findForm_52 hl (by decide) rfl (fun ls hl => ?_)
                          refine lv_iconst (v := 0) hx hb dX11_findForm_54 (by decide) ?_
                          refine lv_istore (lv' := [(7, .int 0), (5, .long 0), (0, .ref h0), (1, .int y15), (2, .int y2), (3, .int y9), (4, .int y14)]) hx hb dX11_findForm_55 hl (by decide) rfl (fun ls hl => ?_)
                          have lp57_129 : ∀ (n : Nat) (y127 : Int32) (y128 : Int64) (H : Heap) (locs : List Loc) (ls : Array Slot), (0 ≤ y127.toInt ∧ y127.toInt ≤ 3) → (h0f0.toInt + (-1) * y127.toInt + 1).toNat < n → TP D A [(h4, aJ (k 1) 9 (oP (y15.toInt) (y2.toInt + y9.toInt + y14.toInt))), (h0, ob 8 [.int h0f0, .int h0f1, .int h0f2, .int h0f3, .int h0f4, .int h0f5, .ref h1, .ref h2, .int h0f8, .int h0f9, .ref h3, .ref h4, .ref h5, .ref h6, .ref h7, .ref h8, .ref h9, .int h0f17, .int h0f18, .int h0f19, .ref h10, .ref h11, .ref h12, .ref h13, .int h0f24, .int h0f25, .ref h14, .ref h15, .ref h16, .ref h17, .int h0f30, .int h0f31, .ref h18, .ref h19, .ref h20, .ref h21]), (h5, aJ (k 1) 9 (idP )), (h10, aJ (k 1) 900 (lsP (h0f9.toInt)))] H → va_S A s.heap H locs → lv_has ls 9 [(0, .ref h0), (1, .int y15), (2, .int y2), (3, .int y9), (4, .int y14), (5, .long y128), (7, .int y127)] → W p l e Rm_cX11_findForm_b515d s m args below meth c H locs 0 0 Q (F0 m 57 ls []) := by
                            intro n
                            induction n with
                            | zero => intro y127 y128 H locs ls b_y127 hm hT hS hl; exact absurd hm (Nat.not_lt_zero _)
                            | succ n ih =>
                              intro y127 y128 H locs ls b_y127 hm hT hS hl
                              have ih57_129 := ih
                              clear ih
                              refine lv_iload hx hb dX11_findForm_57 (lv_at hl 6 rfl) ?_
                              refine lv_aload_n hx hb dX11_findForm_59 rfl (lv_at hl 0 rfl) ?_
                              refine tz_get (ci := 8) (v := .int h0f0) (C := RX11) (F := TX11) (N := 36) hx hb hU iX11 hown hK hT 1 rfl rfl 0 (by decide) w785 (fun _ h9 => h9) rfl dX11_findForm_60 ?_
                              refine lv_icmp_ge (tgt := 101) hx hb dX11_findForm_63 (by decide) (fun c_130 => ?_) (fun c_130 => ?_)
                              · skip
                                have c_130 := ni_le c_130 rfl rfl
                                refine lv_aload_n hx hb dX11_findForm_101 rfl (lv_at hl 0 rfl) ?_
                                refine tz_get (ci := 8) (v := .ref h4) (C := RX11) (F := TX11) (N := 36) hx hb hU iX11 hown hK hT 1 rfl rfl 11 (by decide) w796 (fun _ h9 => h9) rfl dX11_findForm_102 ?_
                                refine lv_iconst (v := 3) hx hb dX11_findForm_105 (by decide) ?_
                                refine lv_iload_n hx hb dX11_findForm_106 rfl (lv_at hl 3 rfl) ?_
                                refine lv_imul hx hb dX11_findForm_107 (lv_topi (fun v131 e_v131 => ?_))
                                have e_v131 := ai_mul e_v131 li_3 rfl (by omega)
                                refine lv_iload hx hb dX11_findForm_108 (lv_at hl 4 rfl) ?_
                                refine lv_iadd hx hb dX11_findForm_110 (lv_topi (fun v132 e_v132 => ?_))
                                have e_v132 := ai_add e_v132 rfl hz126 (by omega)
                                refine tz_lald hx hb hK hT 0 rfl (by omega) dX11_findForm_111 (fun v133 e_v133 => ?_)
                                clear e_v133
                                refine lv_lload hx hb dX11_findForm_112 (lv_at hl 5 rfl) ?_
                                refine lv_ladd hx hb dX11_findForm_114 (lv_topl (fun v134 e_v134 => ?_))
                                refine lv_lstore (lv' := [(7, .long v134), (0, .ref h0), (1, .int y15), (2, .int y2), (3, .int y9), (4, .int y14), (5, .long y128)]) hx hb dX11_findForm_115 hl (by decide) rfl (fun ls hl => ?_)
                                refine lv_iload_n hx hb dX11_findForm_117 rfl (lv_at hl 2 rfl) ?_
                                refine lv_if_eq (tgt := 188) hx hb dX11_findForm_118 (by decide) (fun c_135 => ?_) (fun c_135 => ?_)
                                · skip
                                  have c_135 := ni_eq c_135 rfl li_0
                                  refine lv_iconst (v := 0) hx hb dX11_findForm_188 (by decide) ?_
                                  refine lv_istore_n (lv' := [(1, .int 0), (7, .long v134), (0, .ref h0), (2, .int y2), (3, .int y9), (4, .int y14), (5, .long y128)]) hx hb dX11_findForm_189 rfl hl (by decide) rfl (fun ls hl => ?_)
                                  refine lv_aload_n hx hb dX11_findForm_190 rfl (lv_at hl 2 rfl) ?_
                                  refine tz_get (ci := 8) (v := .ref h4) (C := RX11) (F := TX11) (N := 36) hx hb hU iX11 hown hK hT 1 rfl rfl 11 (by decide) w796 (fun _ h9 => h9) rfl dX11_findForm_191 ?_
                                  refine lv_iconst (v := 3) hx hb dX11_findForm_194 (by decide) ?_
                                  refine lv_iload_n hx hb dX11_findForm_195 rfl (lv_at hl 4 rfl) ?_
                                  refine lv_imul hx hb dX11_findForm_196 (lv_topi (fun v136 e_v136 => ?_))
                                  have e_v136 := ai_mul e_v136 li_3 rfl (by omega)
                                  refine lv_iload hx hb dX11_findForm_197 (lv_at hl 5 rfl) ?_
                                  refine lv_iadd hx hb dX11_findForm_199 (lv_topi (fun v137 e_v137 => ?_))
                                  have e_v137 := ai_add e_v137 rfl hz126 (by omega)
                                  refine lv_lload hx hb dX11_findForm_200 (lv_at hl 1 rfl) ?_
                                  refine tz_lastP hx hb hK hT hS 0 (oP ((0 : Int32).toInt) (y2.toInt + y9.toInt + y14.toInt)) rfl (by omega) (o_putx (by omega) (by have := li_0; omega)) dX11_findForm_202 (fun H locs hT hS => ?_)
                                  have hT : TP D A [(h4, aJ (k 1) 9 (oP ((0 : Int32).toInt) (y2.toInt + y9.toInt + y14.toInt))), (h0, ob 8 [.int h0f0, .int h0f1, .int h0f2, .int h0f3, .int h0f4, .int h0f5, .ref h1, .ref h2, .int h0f8, .int h0f9, .ref h3, .ref h4, .ref h5, .ref h6, .ref h7, .ref h8, .ref h9, .int h0f17, .int h0f18, .int h0f19, .ref h10, .ref h11, .ref h12, .ref h13, .int h0f24, .int h0f25, .ref h14, .ref h15, .ref h16, .ref h17, .int h0f30, .int h0f31, .ref h18, .ref h19, .ref h20, .ref h21]), (h5, aJ (k 1) 9 (idP )), (h10, aJ (k 1) 900 (lsP (h0f9.toInt)))] _ := hT
                                  obtain ⟨v138, e_v138⟩ : ∃ x : Int32, x = y14 + Int32.ofInt 1 := ⟨_, rfl⟩
                                  have f_v138 := e_v138.symm
                                  have e_v138 : v138.toInt = 0 + 1 := ai_add e_v138 hz126 (show (Int32.ofInt 1).toInt = 1 from (by decide +kernel)) (by omega)
                                  refine lv_iinc (v := v138) (lv' := [(4, .int v138), (1, .int 0), (7, .long v134), (0, .ref h0), (2, .int y2), (3, .int y9), (5, .long y128)]) hx hb dX11_findForm_203 hl (k := 5) rfl f_v138 (by decide) rfl (fun ls hl => ?_)
                                  refine lv_goto (tgt := 42) hx hb dX11_findForm_206 (by decide) ?_
                                  have hT := hT.wk (q := 0) (P' := aJ (k 1) 9 (oP ((0 : Int32).toInt) (y2.toInt + y9.toInt + v138.toInt))) rfl (cv_o_o (by have := li_0; omega))
                                  have hT : TP D A [(h4, aJ (k 1) 9 (oP ((0 : Int32).toInt) (y2.toInt + y9.toInt + v138.toInt))), (h0, ob 8 [.int h0f0, .int h0f1, .int h0f2, .int h0f3, .int h0f4, .int h0f5, .ref h1, .ref h2, .int h0f8, .int h0f9, .ref h3, .ref h4, .ref h5, .ref h6, .ref h7, .ref h8, .ref h9, .int h0f17, .int h0f18, .int h0f19, .ref h10, .ref h11, .ref h12, .ref h13, .int h0f24, .int h0f25, .ref h14, .ref h15, .ref h16, .ref h17, .int h0f30, .int h0f31, .ref h18, .ref h19, .ref h20, .ref h21]), (h5, aJ (k 1) 9 (idP )), (h10, aJ (k 1) 900 (lsP (h0f9.toInt)))] _ := hT
                                  exact ih42_16 v138 (0) _ _ _ (by have := li_0; omega) (by have := li_0; omega)  (by have := li_0; omega) hT hS (lv_sub hl [3, 1, 4, 5, 0] rfl)
                                · skip
                                  have c_135 := ni_ne c_135 rfl li_0
                                  refine lv_aload_n hx hb dX11_findForm_121 rfl (lv_at hl 1 rfl) ?_
                                  refine tz_get (ci := 8) (v := .ref h4) (C := RX11) (F := TX11) (N := 36) hx hb hU iX11 hown hK hT 1 rfl rfl 11 (by decide) w796 (fun _ h9 => h9) rfl dX11_findForm_122 ?_
                                  refine lv_iconst (v := 3) hx hb dX11_findForm_125 (by decide) ?_
                                  refine lv_iload_n hx hb dX11_findForm_126 rfl (lv_at hl 4 rfl) ?_
                                  refine lv_imul hx hb dX11_findForm_127 (lv_topi (fun v139 e_v139 => ?_))
                                  have e_v139 := ai_mul e_v139 li_3 rfl (by omega)
                                  refine lv_iload hx hb dX11_findForm_128 (lv_at hl 5 rfl) ?_
                                  refine lv_iadd hx hb dX11_findForm_130 (lv_topi (fun v140 e_v140 => ?_))
                                  have e_v140 := ai_add e_v140 rfl hz126 (by omega)
                                  refine tz_lald hx hb hK hT 0 rfl (by omega) dX11_findForm_131 (fun v141 e_v141 => ?_)
                                  clear e_v141
                                  refine lv_lconst (v := 0) hx hb dX11_findForm_132 (by decide) ?_
                                  refine W.lcmp hx hb dX11_findForm_133 ?_
                                  refine lv_if_lt (tgt := 141) hx hb dX11_findForm_134 (by decide) (fun c_142 => ?_) (fun c_142 => ?_)
                                  · skip
                                    have c_142 := nl_lt c_142 rfl ll_0
                                    refine lv_iconst (v := 0) hx hb dX11_findForm_141 (by decide) ?_
                                    refine lv_lload hx hb dX11_findForm_142 (lv_at hl 6 rfl) ?_
                                    refine lv_lconst (v := 0) hx hb dX11_findForm_144 (by decide) ?_
                                    refine W.lcmp hx hb dX11_findForm_145 ?_
                                    refine lv_if_lt (tgt := 153) hx hb dX11_findForm_146 (by decide) (fun c_143 => ?_) (fun c_143 => ?_)
                                    · skip
                                      have c_143 := nl_lt c_143 rfl ll_0
                                      refine lv_iconst (v := 0) hx hb dX11_findForm_153 (by decide) ?_
                                      refine lv_icmp_ne (tgt := 184) hx hb dX11_findForm_154 (by decide) (fun cc => absurd (by decide +kernel) cc) (fun _ => ?_)
                                      refine lv_lload hx hb dX11_findForm_157 (lv_at hl 0 rfl) ?_
                                      refine lv_lconst (v := 0) hx hb dX11_findForm_159 (by decide) ?_
                                      refine W.lcmp hx hb dX11_findForm_160 ?_
                                      refine lv_if_lt (tgt := 168) hx hb dX11_findForm_161 (by decide) (fun c_144 => ?_) (fun c_144 => ?_)
                                      · skip
                                        have c_144 := nl_lt c_144 rfl ll_0
                                        refine lv_iconst (v := 0) hx hb dX11_findForm_168 (by decide) ?_
                                        refine lv_lload hx hb dX11_findForm_169 (lv_at hl 6 rfl) ?_
                                        refine lv_lconst (v := 0) hx hb dX11_findForm_171 (by decide) ?_
                                        refine W.lcmp hx hb dX11_findForm_172 ?_
                                        refine lv_if_lt (tgt := 180) hx hb dX11_findForm_173 (by decide) (fun c_145 => ?_) (fun c_145 => ?_)
                                        · skip
                                          have c_145 := nl_lt c_145 rfl ll_0
                                          refine lv_iconst (v := 0) hx hb dX11_findForm_180 (by decide) ?_
                                          refine lv_icmp_ne (tgt := 188) hx hb dX11_findForm_181 (by decide) (fun cc => absurd (by decide +kernel) cc) (fun _ => ?_)
                                          refine lv_iconst (v := 1) hx hb dX11_findForm_184 (by decide) ?_
                                          refine lv_goto (tgt := 189) hx hb dX11_findForm_185 (by decide) ?_
                                          refine lv_istore_n (lv' := [(1, .int 1), (7, .long v134), (0, .ref h0), (2, .int y2), (3, .int y9), (4, .int y14), (5, .long y128)]) hx hb dX11_findForm_189 rfl hl (by decide) rfl (fun ls hl => ?_)
                                          refine lv_aload_n hx hb dX11_findForm_190 rfl (lv_at hl 2 rfl) ?_
                                          refine tz_get (ci := 8) (v := .ref h4) (C := RX11) (F := TX11) (N := 36) hx hb hU iX11 hown hK hT 1 rfl rfl 11 (by decide) w796 (fun _ h9 => h9) rfl dX11_findForm_191 ?_
                                          refine lv_iconst (v := 3) hx hb dX11_findForm_194 (by decide) ?_
                                          refine lv_iload_n hx hb dX11_findForm_195 rfl (lv_at hl 4 rfl) ?_
                                          refine lv_imul hx hb dX11_findForm_196 (lv_topi (fun v146 e_v146 => ?_))
                                          have e_v146 := ai_mul e_v146 li_3 rfl (by omega)
                                          refine lv_iload hx hb dX11_findForm_197 (lv_at hl 5 rfl) ?_
                                          refine lv_iadd hx hb dX11_findForm_199 (lv_topi (fun v147 e_v147 => ?_))
                                          have e_v147 := ai_add e_v147 rfl hz126 (by omega)
                                          refine lv_lload hx hb dX11_findForm_200 (lv_at hl 1 rfl) ?_
                                          refine tz_lastP hx hb hK hT hS 0 (oP ((1 : Int32).toInt) (y2.toInt + y9.toInt + y14.toInt)) rfl (by omega) (o_putx (by omega) (by have := li_1; omega)) dX11_findForm_202 (fun H locs hT hS => ?_)
                                          have hT : TP D A [(h4, aJ (k 1) 9 (oP ((1 : Int32).toInt) (y2.toInt + y9.toInt + y14.toInt))), (h0, ob 8 [.int h0f0, .int h0f1, .int h0f2, .int h0f3, .int h0f4, .int h0f5, .ref h1, .ref h2, .int h0f8, .int h0f9, .ref h3, .ref h4, .ref h5, .ref h6, .ref h7, .ref h8, .ref h9, .int h0f17, .int h0f18, .int h0f19, .ref h10, .ref h11, .ref h12, .ref h13, .int h0f24, .int h0f25, .ref h14, .ref h15, .ref h16, .ref h17, .int h0f30, .int h0f31, .ref h18, .ref h19, .ref h20, .ref h21]), (h5, aJ (k 1) 9 (idP )), (h10, aJ (k 1) 900 (lsP (h0f9.toInt)))] _ := hT
                                          obtain ⟨v148, e_v148⟩ : ∃ x : Int32, x = y14 + Int32.ofInt 1 := ⟨_, rfl⟩
                                          have f_v148 := e_v148.symm
                                          have e_v148 : v148.toInt = 0 + 1 := ai_add e_v148 hz126 (show (Int32.ofInt 1).toInt = 1 from (by decide +kernel)) (by omega)
                                          refine lv_iinc (v := v148) (lv' := [(4, .int v148), (1, .int 1), (7, .long v134), (0, .ref h0), (2, .int y2), (3, .int y9), (5, .long y128)]) hx hb dX11_findForm_203 hl (k := 5) rfl f_v148 (by decide) rfl (fun ls hl => ?_)
                                          refine lv_goto (tgt := 42) hx hb dX11_findForm_206 (by decide) ?_
                                          have hT := hT.wk (q := 0) (P' := aJ (k 1) 9 (oP ((1 : Int32).toInt) (y2.toInt + y9.toInt + v148.toInt))) rfl (cv_o_o (by have := li_1; omega))
                                          have hT : TP D A [(h4, aJ (k 1) 9 (oP ((1 : Int32).toInt) (y2.toInt + y9.toInt + v148.toInt))), (h0, ob 8 [.int h0f0, .int h0f1, .int h0f2, .int h0f3, .int h0f4, .int h0f5, .ref h1, .ref h2, .int h0f8, .int h0f9, .ref h3, .ref h4, .ref h5, .ref h6, .ref h7, .ref h8, .ref h9, .int h0f17, .int h0f18, .int h0f19, .ref h10, .ref h11, .ref h12, .ref h13, .int h0f24, .int h0f25, .ref h14, .ref h15, .ref h16, .ref h17, .int h0f30, .int h0f31, .ref h18, .ref h19, .ref h20, .ref h21]), (h5, aJ (k 1) 9 (idP )), (h10, aJ (k 1) 900 (lsP (h0f9.toInt)))] _ := hT
                                          exact ih42_16 v148 (1) _ _ _ (by have := li_1; omega) (by have := li_1; omega)  (by have := li_1; omega) hT hS (lv_sub hl [3, 1, 4, 5, 0] rfl)
                                        · skip
                                          have c_145 := nl_nlt c_145 rfl ll_0
                                          exfalso; omega
                                      · skip
                                        have c_144 := nl_nlt c_144 rfl ll_0
                                        refine lv_iconst (v := 1) hx hb dX11_findForm_164 (by decide) ?_
                                        refine lv_goto (tgt := 169) hx hb dX11_findForm_165 (by decide) ?_
                                        refine lv_lload hx hb dX11_findForm_169 (lv_at hl 6 rfl) ?_
                                        refine lv_lconst (v := 0) hx hb dX11_findForm_171 (by decide) ?_
                                        refine W.lcmp hx hb dX11_findForm_172 ?_
                                        refine lv_if_lt (tgt := 180) hx hb dX11_findForm_173 (by decide) (fun c_149 => ?_) (fun c_149 => ?_)
                                        · skip
                                          have c_149 := nl_lt c_149 rfl ll_0
                                          refine lv_iconst (v := 0) hx hb dX11_findForm_180 (by decide) ?_
                                          refine lv_icmp_ne (tgt := 188) hx hb dX11_findForm_181 (by decide) (fun _ => ?_) (fun cc => absurd cc (by decide +kernel))
                                          refine lv_iconst (v := 0) hx hb dX11_findForm_188 (by decide) ?_
                                          refine lv_istore_n (lv' := [(1, .int 0), (7, .long v134), (0, .ref h0), (2, .int y2), (3, .int y9), (4, .int y14), (5, .long y128)]) hx hb dX11_findForm_189 rfl hl (by decide) rfl (fun ls hl => ?_)
                                          refine lv_aload_n hx hb dX11_findForm_190 rfl (lv_at hl 2 rfl) ?_
                                          refine tz_get (ci := 8) (v := .ref h4) (C := RX11) (F := TX11) (N := 36) hx hb hU iX11 hown hK hT 1 rfl rfl 11 (by decide) w796 (fun _ h9 => h9) rfl dX11_findForm_191 ?_
                                          refine lv_iconst (v := 3) hx hb dX11_findForm_194 (by decide) ?_
                                          refine lv_iload_n hx hb dX11_findForm_195 rfl (lv_at hl 4 rfl) ?_
                                          refine lv_imul hx hb dX11_findForm_196 (lv_topi (fun v150 e_v150 => ?_))
                                          have e_v150 := ai_mul e_v150 li_3 rfl (by omega)
                                          refine lv_iload hx hb dX11_findForm_197 (lv_at hl 5 rfl) ?_
                                          refine lv_iadd hx hb dX11_findForm_199 (lv_topi (fun v151 e_v151 => ?_))
                                          have e_v151 := ai_add e_v151 rfl hz126 (by omega)
                                          refine lv_lload hx hb dX11_findForm_200 (lv_at hl 1 rfl) ?_
                                          refine tz_lastP hx hb hK hT hS 0 (oP ((0 : Int32).toInt) (y2.toInt + y9.toInt + y14.toInt)) rfl (by omega) (o_putx (by omega) (by have := li_0; omega)) dX11_findForm_202 (fun H locs hT hS => ?_)
                                          have hT : TP D A [(h4, aJ (k 1) 9 (oP ((0 : Int32).toInt) (y2.toInt + y9.toInt + y14.toInt))), (h0, ob 8 [.int h0f0, .int h0f1, .int h0f2, .int h0f3, .int h0f4, .int h0f5, .ref h1, .ref h2, .int h0f8, .int h0f9, .ref h3, .ref h4, .ref h5, .ref h6, .ref h7, .ref h8, .ref h9, .int h0f17, .int h0f18, .int h0f19, .ref h10, .ref h11, .ref h12, .ref h13, .int h0f24, .int h0f25, .ref h14, .ref h15, .ref h16, .ref h17, .int h0f30, .int h0f31, .ref h18, .ref h19, .ref h20, .ref h21]), (h5, aJ (k 1) 9 (idP )), (h10, aJ (k 1) 900 (lsP (h0f9.toInt)))] _ := hT
                                          obtain ⟨v152, e_v152⟩ : ∃ x : Int32, x = y14 + Int32.ofInt 1 := ⟨_, rfl⟩
                                          have f_v152 := e_v152.symm
                                          have e_v152 : v152.toInt = 0 + 1 := ai_add e_v152 hz126 (show (Int32.ofInt 1).toInt = 1 from (by decide +kernel)) (by omega)
                                          refine lv_iinc (v := v152) (lv' := [(4, .int v152), (1, .int 0), (7, .long v134), (0, .ref h0), (2, .int y2), (3, .int y9), (5, .long y128)]) hx hb dX11_findForm_203 hl (k := 5) rfl f_v152 (by decide) rfl (fun ls hl => ?_)
                                          refine lv_goto (tgt := 42) hx hb dX11_findForm_206 (by decide) ?_
                                          have hT := hT.wk (q := 0) (P' := aJ (k 1) 9 (oP ((0 : Int32).toInt) (y2.toInt + y9.toInt + v152.toInt))) rfl (cv_o_o (by have := li_0; omega))
                                          have hT : TP D A [(h4, aJ (k 1) 9 (oP ((0 : Int32).toInt) (y2.toInt + y9.toInt + v152.toInt))), (h0, ob 8 [.int h0f0, .int h0f1, .int h0f2, .int h0f3, .int h0f4, .int h0f5, .ref h1, .ref h2, .int h0f8, .int h0f9, .ref h3, .ref h4, .ref h5, .ref h6, .ref h7, .ref h8, .ref h9, .int h0f17, .int h0f18, .int h0f19, .ref h10, .ref h11, .ref h12, .ref h13, .int h0f24, .int h0f25, .ref h14, .ref h15, .ref h16, .ref h17, .int h0f30, .int h0f31, .ref h18, .ref h19, .ref h20, .ref h21]), (h5, aJ (k 1) 9 (idP )), (h10, aJ (k 1) 900 (lsP (h0f9.toInt)))] _ := hT
                                          exact ih42_16 v152 (0) _ _ _ (by have := li_0; omega) (by have := li_0; omega)  (by have := li_0; omega) hT hS (lv_sub hl [3, 1, 4, 5, 0] rfl)
                                        · skip
                                          have c_149 := nl_nlt c_149 rfl ll_0
                                          exfalso; omega
                                    · skip
                                      have c_143 := nl_nlt c_143 rfl ll_0
                                      refine lv_iconst (v := 1) hx hb dX11_findForm_149 (by decide) ?_
                                      refine lv_goto (tgt := 154) hx hb dX11_findForm_150 (by decide) ?_
                                      refine lv_icmp_ne (tgt := 184) hx hb dX11_findForm_154 (by decide) (fun _ => ?_) (fun cc => absurd cc (by decide +kernel))
                                      refine lv_iconst (v := 1) hx hb dX11_findForm_184 (by decide) ?_
                                      refine lv_goto (tgt := 189) hx hb dX11_findForm_185 (by decide) ?_
                                      refine lv_istore_n (lv' := [(1, .int 1), (7, .long v134), (0, .ref h0), (2, .int y2), (3, .int y9), (4, .int y14), (5, .long y128)]) hx hb dX11_findForm_189 rfl hl (by decide) rfl (fun ls hl => ?_)
                                      refine lv_aload_n hx hb dX11_findForm_190 rfl (lv_at hl 2 rfl) ?_
                                      refine tz_get (ci := 8) (v := .ref h4) (C := RX11) (F := TX11) (N := 36) hx hb hU iX11 hown hK hT 1 rfl rfl 11 (by decide) w796 (fun _ h9 => h9) rfl dX11_findForm_191 ?_
                                      refine lv_iconst (v := 3) hx hb dX11_findForm_194 (by decide) ?_
                                      refine lv_iload_n hx hb dX11_findForm_195 rfl (lv_at hl 4 rfl) ?_
                                      refine lv_imul hx hb dX11_findForm_196 (lv_topi (fun v153 e_v153 => ?_))
                                      have e_v153 := ai_mul e_v153 li_3 rfl (by omega)
                                      refine lv_iload hx hb dX11_findForm_197 (lv_at hl 5 rfl) ?_
                                      refine lv_iadd hx hb dX11_findForm_199 (lv_topi (fun v154 e_v154 => ?_))
                                      have e_v154 := ai_add e_v154 rfl hz126 (by omega)
                                      refine lv_lload hx hb dX11_findForm_200 (lv_at hl 1 rfl) ?_
                                      refine tz_lastP hx hb hK hT hS 0 (oP ((1 : Int32).toInt) (y2.toInt + y9.toInt + y14.toInt)) rfl (by omega) (o_putx (by omega) (by have := li_1; omega)) dX11_findForm_202 (fun H locs hT hS => ?_)
                                      have hT : TP D A [(h4, aJ (k 1) 9 (oP ((1 : Int32).toInt) (y2.toInt + y9.toInt + y14.toInt))), (h0, ob 8 [.int h0f0, .int h0f1, .int h0f2, .int h0f3, .int h0f4, .int h0f5, .ref h1, .ref h2, .int h0f8, .int h0f9, .ref h3, .ref h4, .ref h5, .ref h6, .ref h7, .ref h8, .ref h9, .int h0f17, .int h0f18, .int h0f19, .ref h10, .ref h11, .ref h12, .ref h13, .int h0f24, .int h0f25, .ref h14, .ref h15, .ref h16, .ref h17, .int h0f30, .int h0f31, .ref h18, .ref h19, .ref h20, .ref h21]), (h5, aJ (k 1) 9 (idP )), (h10, aJ (k 1) 900 (lsP (h0f9.toInt)))] _ := hT
                                      obtain ⟨v155, e_v155⟩ : ∃ x : Int32, x = y14 + Int32.ofInt 1 := ⟨_, rfl⟩
                                      have f_v155 := e_v155.symm
                                      have e_v155 : v155.toInt = 0 + 1 := ai_add e_v155 hz126 (show (Int32.ofInt 1).toInt = 1 from (by decide +kernel)) (by omega)
                                      refine lv_iinc (v := v155) (lv' := [(4, .int v155), (1, .int 1), (7, .long v134), (0, .ref h0), (2, .int y2), (3, .int y9), (5, .long y128)]) hx hb dX11_findForm_203 hl (k := 5) rfl f_v155 (by decide) rfl (fun ls hl => ?_)
                                      refine lv_goto (tgt := 42) hx hb dX11_findForm_206 (by decide) ?_
                                      have hT := hT.wk (q := 0) (P' := aJ (k 1) 9 (oP ((1 : Int32).toInt) (y2.toInt + y9.toInt + v155.toInt))) rfl (cv_o_o (by have := li_1; omega))
                                      have hT : TP D A [(h4, aJ (k 1) 9 (oP ((1 : Int32).toInt) (y2.toInt + y9.toInt + v155.toInt))), (h0, ob 8 [.int h0f0, .int h0f1, .int h0f2, .int h0f3, .int h0f4, .int h0f5, .ref h1, .ref h2, .int h0f8, .int h0f9, .ref h3, .ref h4, .ref h5, .ref h6, .ref h7, .ref h8, .ref h9, .int h0f17, .int h0f18, .int h0f19, .ref h10, .ref h11, .ref h12, .ref h13, .int h0f24, .int h0f25, .ref h14, .ref h15, .ref h16, .ref h17, .int h0f30, .int h0f31, .ref h18, .ref h19, .ref h20, .ref h21]), (h5, aJ (k 1) 9 (idP )), (h10, aJ (k 1) 900 (lsP (h0f9.toInt)))] _ := hT
                                      exact ih42_16 v155 (1) _ _ _ (by have := li_1; omega) (by have := li_1; omega)  (by have := li_1; omega) hT hS (lv_sub hl [3, 1, 4, 5, 0] rfl)
                                  · skip
                                    have c_142 := nl_nlt c_142 rfl ll_0
                                    refine lv_iconst (v := 1) hx hb dX11_findForm_137 (by decide) ?_
                                    refine lv_goto (tgt := 142) hx hb dX11_findForm_138 (by decide) ?_
                                    refine lv_lload hx hb dX11_findForm_142 (lv_at hl 6 rfl) ?_
                                    refine lv_lconst (v := 0) hx hb dX11_findForm_144 (by decide) ?_
                                    refine W.lcmp hx hb dX11_findForm_145 ?_
                                    refine lv_if_lt (tgt := 153) hx hb dX11_findForm_146 (by decide) (fun c_156 => ?_) (fun c_156 => ?_)
                                    · skip
                                      have c_156 := nl_lt c_156 rfl ll_0
                                      refine lv_iconst (v := 0) hx hb dX11_findForm_153 (by decide) ?_
                                      refine lv_icmp_ne (tgt := 184) hx hb dX11_findForm_154 (by decide) (fun _ => ?_) (fun cc => absurd cc (by decide +kernel))
                                      refine lv_iconst (v := 1) hx hb dX11_findForm_184 (by decide) ?_
                                      refine lv_goto (tgt := 189) hx hb dX11_findForm_185 (by decide) ?_
                                      refine lv_istore_n (lv' := [(1, .int 1), (7, .long v134), (0, .ref h0), (2, .int y2), (3, .int y9), (4, .int y14), (5, .long y128)]) hx hb dX11_findForm_189 rfl hl (by decide) rfl (fun ls hl => ?_)
                                      refine lv_aload_n hx hb dX11_findForm_190 rfl (lv_at hl 2 rfl) ?_
                                      refine tz_get (ci := 8) (v := .ref h4) (C := RX11) (F := TX11) (N := 36) hx hb hU iX11 hown hK hT 1 rfl rfl 11 (by decide) w796 (fun _ h9 => h9) rfl dX11_findForm_191 ?_
                                      refine lv_iconst (v := 3) hx hb dX11_findForm_194 (by decide) ?_
                                      refine lv_iload_n hx hb dX11_findForm_195 rfl (lv_at hl 4 rfl) ?_
                                      refine lv_imul hx hb dX11_findForm_196 (lv_topi (fun v157 e_v157 => ?_))
                                      have e_v157 := ai_mul e_v157 li_3 rfl (by omega)
                                      refine lv_iload hx hb dX11_findForm_197 (lv_at hl 5 rfl) ?_
                                      refine lv_iadd hx hb dX11_findForm_199 (lv_topi (fun v158 e_v158 => ?_))
                                      have e_v158 := ai_add e_v158 rfl hz126 (by omega)
                                      refine lv_lload hx hb dX11_findForm_200 (lv_at hl 1 rfl) ?_
                                      refine tz_lastP hx hb hK hT hS 0 (oP ((1 : Int32).toInt) (y2.toInt + y9.toInt + y14.toInt)) rfl (by omega) (o_putx (by omega) (by have := li_1; omega)) dX11_findForm_202 (fun H locs hT hS => ?_)
                                      have hT : TP D A [(h4, aJ (k 1) 9 (oP ((1 : Int32).toInt) (y2.toInt + y9.toInt + y14.toInt))), (h0, ob 8 [.int h0f0, .int h0f1, .int h0f2, .int h0f3, .int h0f4, .int h0f5, .ref h1, .ref h2, .int h0f8, .int h0f9, .ref h3, .ref h4, .ref h5, .ref h6, .ref h7, .ref h8, .ref h9, .int h0f17, .int h0f18, .int h0f19, .ref h10, .ref h11, .ref h12, .ref h13, .int h0f24, .int h0f25, .ref h14, .ref h15, .ref h16, .ref h17, .int h0f30, .int h0f31, .ref h18, .ref h19, .ref h20, .ref h21]), (h5, aJ (k 1) 9 (idP )), (h10, aJ (k 1) 900 (lsP (h0f9.toInt)))] _ := hT
                                      obtain ⟨v159, e_v159⟩ : ∃ x : Int32, x = y14 + Int32.ofInt 1 := ⟨_, rfl⟩
                                      have f_v159 := e_v159.symm
                                      have e_v159 : v159.toInt = 0 + 1 := ai_add e_v159 hz126 (show (Int32.ofInt 1).toInt = 1 from (by decide +kernel)) (by omega)
                                      refine lv_iinc (v := v159) (lv' := [(4, .int v159), (1, .int 1), (7, .long v134), (0, .ref h0), (2, .int y2), (3, .int y9), (5, .long y128)]) hx hb dX11_findForm_203 hl (k := 5) rfl f_v159 (by decide) rfl (fun ls hl => ?_)
                                      refine lv_goto (tgt := 42) hx hb dX11_findForm_206 (by decide) ?_
                                      have hT := hT.wk (q := 0) (P' := aJ (k 1) 9 (oP ((1 : Int32).toInt) (y2.toInt + y9.toInt + v159.toInt))) rfl (cv_o_o (by have := li_1; omega))
                                      have hT : TP D A [(h4, aJ (k 1) 9 (oP ((1 : Int32).toInt) (y2.toInt + y9.toInt + v159.toInt))), (h0, ob 8 [.int h0f0, .int h0f1, .int h0f2, .int h0f3, .int h0f4, .int h0f5, .ref h1, .ref h2, .int h0f8, .int h0f9, .ref h3, .ref h4, .ref h5, .ref h6, .ref h7, .ref h8, .ref h9, .int h0f17, .int h0f18, .int h0f19, .ref h10, .ref h11, .ref h12, .ref h13, .int h0f24, .int h0f25, .ref h14, .ref h15, .ref h16, .ref h17, .int h0f30, .int h0f31, .ref h18, .ref h19, .ref h20, .ref h21]), (h5, aJ (k 1) 9 (idP )), (h10, aJ (k 1) 900 (lsP (h0f9.toInt)))] _ := hT
                                      exact ih42_16 v159 (1) _ _ _ (by have := li_1; omega) (by have := li_1; omega)  (by have := li_1; omega) hT hS (lv_sub hl [3, 1, 4, 5, 0] rfl)
                                    · skip
                                      have c_156 := nl_nlt c_156 rfl ll_0
                                      refine lv_iconst (v := 1) hx hb dX11_findForm_149 (by decide) ?_
                                      refine lv_goto (tgt := 154) hx hb dX11_findForm_150 (by decide) ?_
                                      refine lv_icmp_ne (tgt := 184) hx hb dX11_findForm_154 (by decide) (fun cc => absurd (by decide +kernel) cc) (fun _ => ?_)
                                      refine lv_lload hx hb dX11_findForm_157 (lv_at hl 0 rfl) ?_
                                      refine lv_lconst (v := 0) hx hb dX11_findForm_159 (by decide) ?_
                                      refine W.lcmp hx hb dX11_findForm_160 ?_
                                      refine lv_if_lt (tgt := 168) hx hb dX11_findForm_161 (by decide) (fun c_160 => ?_) (fun c_160 => ?_)
                                      · skip
                                        have c_160 := nl_lt c_160 rfl ll_0
                                        refine lv_iconst (v := 0) hx hb dX11_findForm_168 (by decide) ?_
                                        refine lv_lload hx hb dX11_findForm_169 (lv_at hl 6 rfl) ?_
                                        refine lv_lconst (v := 0) hx hb dX11_findForm_171 (by decide) ?_
                                        refine W.lcmp hx hb dX11_findForm_172 ?_
                                        refine lv_if_lt (tgt := 180) hx hb dX11_findForm_173 (by decide) (fun c_161 => ?_) (fun c_161 => ?_)
                                        · skip
                                          have c_161 := nl_lt c_161 rfl ll_0
                                          exfalso; omega
                                        · skip
                                          have c_161 := nl_nlt c_161 rfl ll_0
                                          refine lv_iconst (v := 1) hx hb dX11_findForm_176 (by decide) ?_
                                          refine lv_goto (tgt := 181) hx hb dX11_findForm_177 (by decide) ?_
                                          refine lv_icmp_ne (tgt := 188) hx hb dX11_findForm_181 (by decide) (fun _ => ?_) (fun cc => absurd cc (by decide +kernel))
                                          refine lv_iconst (v := 0) hx hb dX11_findForm_188 (by decide) ?_
                                          refine lv_istore_n (lv' := [(1, .int 0), (7, .long v134), (0, .ref h0), (2, .int y2), (3, .int y9), (4, .int y14), (5, .long y128)]) hx hb dX11_findForm_189 rfl hl (by decide) rfl (fun ls hl => ?_)
                                          refine lv_aload_n hx hb dX11_findForm_190 rfl (lv_at hl 2 rfl) ?_
                                          refine tz_get (ci := 8) (v := .ref h4) (C := RX11) (F := TX11) (N := 36) hx hb hU iX11 hown hK hT 1 rfl rfl 11 (by decide) w796 (fun _ h9 => h9) rfl dX11_findForm_191 ?_
                                          refine lv_iconst (v := 3) hx hb dX11_findForm_194 (by decide) ?_
                                          refine lv_iload_n hx hb dX11_findForm_195 rfl (lv_at hl 4 rfl) ?_
                                          refine lv_imul hx hb dX11_findForm_196 (lv_topi (fun v162 e_v162 => ?_))
                                          have e_v162 := ai_mul e_v162 li_3 rfl (by omega)
                                          refine lv_iload hx hb dX11_findForm_197 (lv_at hl 5 rfl) ?_
                                          refine lv_iadd hx hb dX11_findForm_199 (lv_topi (fun v163 e_v163 => ?_))
                                          have e_v163 := ai_add e_v163 rfl hz126 (by omega)
                                          refine lv_lload hx hb dX11_findForm_200 (lv_at hl 1 rfl) ?_
                                          refine tz_lastP hx hb hK hT hS 0 (oP ((0 : Int32).toInt) (y2.toInt + y9.toInt + y14.toInt)) rfl (by omega) (o_putx (by omega) (by have := li_0; omega)) dX11_findForm_202 (fun H locs hT hS => ?_)
                                          have hT : TP D A [(h4, aJ (k 1) 9 (oP ((0 : Int32).toInt) (y2.toInt + y9.toInt + y14.toInt))), (h0, ob 8 [.int h0f0, .int h0f1, .int h0f2, .int h0f3, .int h0f4, .int h0f5, .ref h1, .ref h2, .int h0f8, .int h0f9, .ref h3, .ref h4, .ref h5, .ref h6, .ref h7, .ref h8, .ref h9, .int h0f17, .int h0f18, .int h0f19, .ref h10, .ref h11, .ref h12, .ref h13, .int h0f24, .int h0f25, .ref h14, .ref h15, .ref h16, .ref h17, .int h0f30, .int h0f31, .ref h18, .ref h19, .ref h20, .ref h21]), (h5, aJ (k 1) 9 (idP )), (h10, aJ (k 1) 900 (lsP (h0f9.toInt)))] _ := hT
                                          obtain ⟨v164, e_v164⟩ : ∃ x : Int32, x = y14 + Int32.ofInt 1 := ⟨_, rfl⟩
                                          have f_v164 := e_v164.symm
                                          have e_v164 : v164.toInt = 0 + 1 := ai_add e_v164 hz126 (show (Int32.ofInt 1).toInt = 1 from (by decide +kernel)) (by omega)
                                          refine lv_iinc (v := v164) (lv' := [(4, .int v164), (1, .int 0), (7, .long v134), (0, .ref h0), (2, .int y2), (3, .int y9), (5, .long y128)]) hx hb dX11_findForm_203 hl (k := 5) rfl f_v164 (by decide) rfl (fun ls hl => ?_)
                                          refine lv_goto (tgt := 42) hx hb dX11_findForm_206 (by decide) ?_
                                          have hT := hT.wk (q := 0) (P' := aJ (k 1) 9 (oP ((0 : Int32).toInt) (y2.toInt + y9.toInt + v164.toInt))) rfl (cv_o_o (by have := li_0; omega))
                                          have hT : TP D A [(h4, aJ (k 1) 9 (oP ((0 : Int32).toInt) (y2.toInt + y9.toInt + v164.toInt))), (h0, ob 8 [.int h0f0, .int h0f1, .int h0f2, .int h0f3, .int h0f4, .int h0f5, .ref h1, .ref h2, .int h0f8, .int h0f9, .ref h3, .ref h4, .ref h5, .ref h6, .ref h7, .ref h8, .ref h9, .int h0f17, .int h0f18, .int h0f19, .ref h10, .ref h11, .ref h12, .ref h13, .int h0f24, .int h0f25, .ref h14, .ref h15, .ref h16, .ref h17, .int h0f30, .int h0f31, .ref h18, .ref h19, .ref h20, .ref h21]), (h5, aJ (k 1) 9 (idP )), (h10, aJ (k 1) 900 (lsP (h0f9.toInt)))] _ := hT
                                          exact ih42_16 v164 (0) _ _ _ (by have := li_0; omega) (by have := li_0; omega)  (by have := li_0; omega) hT hS (lv_sub hl [3, 1, 4, 5, 0] rfl)
                                      · skip
                                        have c_160 := nl_nlt c_160 rfl ll_0
                                        refine lv_iconst (v := 1) hx hb dX11_findForm_164 (by decide) ?_
                                        refine lv_goto (tgt := 169) hx hb dX11_findForm_165 (by decide) ?_
                                        refine lv_lload hx hb dX11_findForm_169 (lv_at hl 6 rfl) ?_
                                        refine lv_lconst (v := 0) hx hb dX11_findForm_171 (by decide) ?_
                                        refine W.lcmp hx hb dX11_findForm_172 ?_
                                        refine lv_if_lt (tgt := 180) hx hb dX11_findForm_173 (by decide) (fun c_165 => ?_) (fun c_165 => ?_)
                                        · skip
                                          have c_165 := nl_lt c_165 rfl ll_0
                                          exfalso; omega
                                        · skip
                                          have c_165 := nl_nlt c_165 rfl ll_0
                                          refine lv_iconst (v := 1) hx hb dX11_findForm_176 (by decide) ?_
                                          refine lv_goto (tgt := 181) hx hb dX11_findForm_177 (by decide) ?_
                                          refine lv_icmp_ne (tgt := 188) hx hb dX11_findForm_181 (by decide) (fun cc => absurd (by decide +kernel) cc) (fun _ => ?_)
                                          refine lv_iconst (v := 1) hx hb dX11_findForm_184 (by decide) ?_
                                          refine lv_goto (tgt := 189) hx hb dX11_findForm_185 (by decide) ?_
                                          refine lv_istore_n (lv' := [(1, .int 1), (7, .long v134), (0, .ref h0), (2, .int y2), (3, .int y9), (4, .int y14), (5, .long y128)]) hx hb dX11_findForm_189 rfl hl (by decide) rfl (fun ls hl => ?_)
                                          refine lv_aload_n hx hb dX11_findForm_190 rfl (lv_at hl 2 rfl) ?_
                                          refine tz_get (ci := 8) (v := .ref h4) (C := RX11) (F := TX11) (N := 36) hx hb hU iX11 hown hK hT 1 rfl rfl 11 (by decide) w796 (fun _ h9 => h9) rfl dX11_findForm_191 ?_
                                          refine lv_iconst (v := 3) hx hb dX11_findForm_194 (by decide) ?_
                                          refine lv_iload_n hx hb dX11_findForm_195 rfl (lv_at hl 4 rfl) ?_
                                          refine lv_imul hx hb dX11_findForm_196 (lv_topi (fun v166 e_v166 => ?_))
                                          have e_v166 := ai_mul e_v166 li_3 rfl (by omega)
                                          refine lv_iload hx hb dX11_findForm_197 (lv_at hl 5 rfl) ?_
                                          refine lv_iadd hx hb dX11_findForm_199 (lv_topi (fun v167 e_v167 => ?_))
                                          have e_v167 := ai_add e_v167 rfl hz126 (by omega)
                                          refine lv_lload hx hb dX11_findForm_200 (lv_at hl 1 rfl) ?_
                                          refine tz_lastP hx hb hK hT hS 0 (oP ((1 : Int32).toInt) (y2.toInt + y9.toInt + y14.toInt)) rfl (by omega) (o_putx (by omega) (by have := li_1; omega)) dX11_findForm_202 (fun H locs hT hS => ?_)
                                          have hT : TP D A [(h4, aJ (k 1) 9 (oP ((1 : Int32).toInt) (y2.toInt + y9.toInt + y14.toInt))), (h0, ob 8 [.int h0f0, .int h0f1, .int h0f2, .int h0f3, .int h0f4, .int h0f5, .ref h1, .ref h2, .int h0f8, .int h0f9, .ref h3, .ref h4, .ref h5, .ref h6, .ref h7, .ref h8, .ref h9, .int h0f17, .int h0f18, .int h0f19, .ref h10, .ref h11, .ref h12, .ref h13, .int h0f24, .int h0f25, .ref h14, .ref h15, .ref h16, .ref h17, .int h0f30, .int h0f31, .ref h18, .ref h19, .ref h20, .ref h21]), (h5, aJ (k 1) 9 (idP )), (h10, aJ (k 1) 900 (lsP (h0f9.toInt)))] _ := hT
                                          obtain ⟨v168, e_v168⟩ : ∃ x : Int32, x = y14 + Int32.ofInt 1 := ⟨_, rfl⟩
                                          have f_v168 := e_v168.symm
                                          have e_v168 : v168.toInt = 0 + 1 := ai_add e_v168 hz126 (show (Int32.ofInt 1).toInt = 1 from (by decide +kernel)) (by omega)
                                          refine lv_iinc (v := v168) (lv' := [(4, .int v168), (1, .int 1), (7, .long v134), (0, .ref h0), (2, .int y2), (3, .int y9), (5, .long y128)]) hx hb dX11_findForm_203 hl (k := 5) rfl f_v168 (by decide) rfl (fun ls hl => ?_)
                                          refine lv_goto (tgt := 42) hx hb dX11_findForm_206 (by decide) ?_
                                          have hT := hT.wk (q := 0) (P' := aJ (k 1) 9 (oP ((1 : Int32).toInt) (y2.toInt + y9.toInt + v168.toInt))) rfl (cv_o_o (by have := li_1; omega))
                                          have hT : TP D A [(h4, aJ (k 1) 9 (oP ((1 : Int32).toInt) (y2.toInt + y9.toInt + v168.toInt))), (h0, ob 8 [.int h0f0, .int h0f1, .int h0f2, .int h0f3, .int h0f4, .int h0f5, .ref h1, .ref h2, .int h0f8, .int h0f9, .ref h3, .ref h4, .ref h5, .ref h6, .ref h7, .ref h8, .ref h9, .int h0f17, .int h0f18, .int h0f19, .ref h10, .ref h11, .ref h12, .ref h13, .int h0f24, .int h0f25, .ref h14, .ref h15, .ref h16, .ref h17, .int h0f30, .int h0f31, .ref h18, .ref h19, .ref h20, .ref h21]), (h5, aJ (k 1) 9 (idP )), (h10, aJ (k 1) 900 (lsP (h0f9.toInt)))] _ := hT
                                          exact ih42_16 v168 (1) _ _ _ (by have := li_1; omega) (by have := li_1; omega)  (by have := li_1; omega) hT hS (lv_sub hl [3, 1, 4, 5, 0] rfl)
                              · skip
                                have c_130 := ni_nle c_130 rfl rfl
                                refine lv_lload hx hb dX11_findForm_66 (lv_at hl 5 rfl) ?_
                                refine lv_aload_n hx hb dX11_findForm_68 rfl (lv_at hl 0 rfl) ?_
                                refine tz_get (ci := 8) (v := .ref h5) (C := RX11) (F := TX11) (N := 36) hx hb hU iX11 hown hK hT 1 rfl rfl 12 (by decide) w797 (fun _ h9 => h9) rfl dX11_findForm_69 ?_
                                refine lv_iconst (v := 3) hx hb dX11_findForm_72 (by decide) ?_
                                refine lv_iload hx hb dX11_findForm_73 (lv_at hl 6 rfl) ?_
                                refine lv_imul hx hb dX11_findForm_75 (lv_topi (fun v169 e_v169 => ?_))
                                have e_v169 := ai_mul e_v169 li_3 rfl (by omega)
                                refine lv_iload_n hx hb dX11_findForm_76 rfl (lv_at hl 3 rfl) ?_
                                refine lv_iadd hx hb dX11_findForm_77 (lv_topi (fun v170 e_v170 => ?_))
                                have e_v170 := ai_add e_v170 rfl rfl (by omega)
                                refine tz_lald hx hb hK hT 2 rfl (by omega) dX11_findForm_78 (fun v171 e_v171 => ?_)
                                clear e_v171
                                refine lv_aload_n hx hb dX11_findForm_79 rfl (lv_at hl 0 rfl) ?_
                                refine tz_get (ci := 8) (v := .ref h5) (C := RX11) (F := TX11) (N := 36) hx hb hU iX11 hown hK hT 1 rfl rfl 12 (by decide) w797 (fun _ h9 => h9) rfl dX11_findForm_80 ?_
                                refine lv_iconst (v := 3) hx hb dX11_findForm_83 (by decide) ?_
                                refine lv_iload hx hb dX11_findForm_84 (lv_at hl 6 rfl) ?_
                                refine lv_imul hx hb dX11_findForm_86 (lv_topi (fun v172 e_v172 => ?_))
                                have e_v172 := ai_mul e_v172 li_3 rfl (by omega)
                                refine lv_iload hx hb dX11_findForm_87 (lv_at hl 4 rfl) ?_
                                refine lv_iadd hx hb dX11_findForm_89 (lv_topi (fun v173 e_v173 => ?_))
                                have e_v173 := ai_add e_v173 rfl hz126 (by omega)
                                refine tz_lald hx hb hK hT 2 rfl (by omega) dX11_findForm_90 (fun v174 e_v174 => ?_)
                                clear e_v174
                                refine lv_lmul hx hb dX11_findForm_91 (lv_topl (fun v175 e_v175 => ?_))
                                refine lv_ladd hx hb dX11_findForm_92 (lv_topl (fun v176 e_v176 => ?_))
                                refine lv_lstore (lv' := [(5, .long v176), (0, .ref h0), (1, .int y15), (2, .int y2), (3, .int y9), (4, .int y14), (7, .int y127)]) hx hb dX11_findForm_93 hl (by decide) rfl (fun ls hl => ?_)
                                obtain ⟨v177, e_v177⟩ : ∃ x : Int32, x = y127 + Int32.ofInt 1 := ⟨_, rfl⟩
                                have f_v177 := e_v177.symm
                                have e_v177 : v177.toInt = y127.toInt + 1 := ai_add e_v177 rfl (show (Int32.ofInt 1).toInt = 1 from (by decide +kernel)) (by omega)
                                refine lv_iinc (v := v177) (lv' := [(7, .int v177), (5, .long v176), (0, .ref h0), (1, .int y15), (2, .int y2), (3, .int y9), (4, .int y14)]) hx hb dX11_findForm_95 hl (k := 6) rfl f_v177 (by decide) rfl (fun ls hl => ?_)
                                refine lv_goto (tgt := 57) hx hb dX11_findForm_98 (by decide) ?_
                                exact ih57_129 v177 v176 _ _ _ (by omega)  (by omega) hT hS (lv_sub hl [2, 3, 4, 5, 6, 1, 0] rfl)
                          exact lp57_129 ((h0f0.toInt + (-1) * (0 : Int32).toInt + 1).toNat + 1) (0) (0) _ _ _ (by have := li_0; have := ll_0; omega)  (Nat.lt_succ_self _) hT hS (lv_sub hl [2, 3, 4, 5, 6, 1, 0] rfl)
                        · skip
                          refine lv_lconst (v := 0) hx hb dX11_findForm_51 (by decide) ?_
                          refine lv_lstore (lv' := [(5, .long 0), (0, .ref h0), (1, .int y15), (2, .int y2), (3, .int y9), (4, .int y14)]) hx hb dX11_findForm_52 hl (by decide) rfl (fun ls hl => ?_)
                          refine lv_iconst (v := 0) hx hb dX11_findForm_54 (by decide) ?_
                          refine lv_istore (lv' := [(7, .int 0), (5, .long 0), (0, .ref h0), (1, .int y15), (2, .int y2), (3, .int y9), (4, .int y14)]) hx hb dX11_findForm_55 hl (by decide) rfl (fun ls hl => ?_)
                          have lp57_180 : ∀ (n : Nat) (y178 : Int32) (y179 : Int64) (H : Heap) (locs : List Loc) (ls : Array Slot), (0 ≤ y178.toInt ∧ y178.toInt ≤ 3) → (h0f0.toInt + (-1) * y178.toInt + 1).toNat < n → TP D A [(h4, aJ (k 1) 9 (oP (y15.toInt) (y2.toInt + y9.toInt + y14.toInt))), (h0, ob 8 [.int h0f0, .int h0f1, .int h0f2, .int h0f3, .int h0f4, .int h0f5, .ref h1, .ref h2, .int h0f8, .int h0f9, .ref h3, .ref h4, .ref h5, .ref h6, .ref h7, .ref h8, .ref h9, .int h0f17, .int h0f18, .int h0f19, .ref h10, .ref h11, .ref h12, .ref h13, .int h0f24, .int h0f25, .ref h14, .ref h15, .ref h16, .ref h17, .int h0f30, .int h0f31, .ref h18, .ref h19, .ref h20, .ref h21]), (h5, aJ (k 1) 9 (idP )), (h10, aJ (k 1) 900 (lsP (h0f9.toInt)))] H → va_S A s.heap H locs → lv_has ls 9 [(0, .ref h0), (1, .int y15), (2, .int y2), (3, .int y9), (4, .int y14), (5, .long y179), (7, .int y178)] → W p l e Rm_cX11_findForm_b515d s m args below meth c H locs 0 0 Q (F0 m 57 ls []) := by
                            intro n
                            induction n with
                            | zero => intro y178 y179 H locs ls b_y178 hm hT hS hl; exact absurd hm (Nat.not_lt_zero _)
                            | succ n ih =>
                              intro y178 y179 H locs ls b_y178 hm hT hS hl
                              have ih57_180 := ih
                              clear ih
                              refine lv_iload hx hb dX11_findForm_57 (lv_at hl 6 rfl) ?_
                              refine lv_aload_n hx hb dX11_findForm_59 rfl (lv_at hl 0 rfl) ?_
                              refine tz_get (ci := 8) (v := .int h0f0) (C := RX11) (F := TX11) (N := 36) hx hb hU iX11 hown hK hT 1 rfl rfl 0 (by decide) w785 (fun _ h9 => h9) rfl dX11_findForm_60 ?_
                              refine lv_icmp_ge (tgt := 101) hx hb dX11_findForm_63 (by decide) (fun c_181 => ?_) (fun c_181 => ?_)
                              · skip
                                have c_181 := ni_le c_181 rfl rfl
                                refine lv_aload_n hx hb dX11_findForm_101 rfl (lv_at hl 0 rfl) ?_
                                refine tz_get (ci := 8) (v := .ref h4) (C := RX11) (F := TX11) (N := 36) hx hb hU iX11 hown hK hT 1 rfl rfl 11 (by decide) w796 (fun _ h9 => h9) rfl dX11_findForm_102 ?_
                                refine lv_iconst (v := 3) hx hb dX11_findForm_105 (by decide) ?_
                                refine lv_iload_n hx hb dX11_findForm_106 rfl (lv_at hl 3 rfl) ?_
                                refine lv_imul hx hb dX11_findForm_107 (lv_topi (fun v182 e_v182 => ?_))
                                have e_v182 := ai_mul e_v182 li_3 rfl (by omega)
                                refine lv_iload hx hb dX11_findForm_108 (lv_at hl 4 rfl) ?_
                                refine lv_iadd hx hb dX11_findForm_110 (lv_topi (fun v183 e_v183 => ?_))
                                have e_v183 := ai_add e_v183 rfl rfl (by omega)
                                refine tz_lald hx hb hK hT 0 rfl (by omega) dX11_findForm_111 (fun v184 e_v184 => ?_)
                                clear e_v184
                                refine lv_lload hx hb dX11_findForm_112 (lv_at hl 5 rfl) ?_
                                refine lv_ladd hx hb dX11_findForm_114 (lv_topl (fun v185 e_v185 => ?_))
                                refine lv_lstore (lv' := [(7, .long v185), (0, .ref h0), (1, .int y15), (2, .int y2), (3, .int y9), (4, .int y14), (5, .long y179)]) hx hb dX11_findForm_115 hl (by decide) rfl (fun ls hl => ?_)
                                refine lv_iload_n hx hb dX11_findForm_117 rfl (lv_at hl 2 rfl) ?_
                                refine lv_if_eq (tgt := 188) hx hb dX11_findForm_118 (by decide) (fun c_186 => ?_) (fun c_186 => ?_)
                                · skip
                                  have c_186 := ni_eq c_186 rfl li_0
                                  refine lv_iconst (v := 0) hx hb dX11_findForm_188 (by decide) ?_
                                  refine lv_istore_n (lv' := [(1, .int 0), (7, .long v185), (0, .ref h0), (2, .int y2), (3, .int y9), (4, .int y14), (5, .long y179)]) hx hb dX11_findForm_189 rfl hl (by decide) rfl (fun ls hl => ?_)
                                  refine lv_aload_n hx hb dX11_findForm_190 rfl (lv_at hl 2 rfl) ?_
                                  refine tz_get (ci := 8) (v := .ref h4) (C := RX11) (F := TX11) (N := 36) hx hb hU iX11 hown hK hT 1 rfl rfl 11 (by decide) w796 (fun _ h9 => h9) rfl dX11_findForm_191 ?_
                                  refine lv_iconst (v := 3) hx hb dX11_findForm_194 (by decide) ?_
                                  refine lv_iload_n hx hb dX11_findForm_195 rfl (lv_at hl 4 rfl) ?_
                                  refine lv_imul hx hb dX11_findForm_196 (lv_topi (fun v187 e_v187 => ?_))
                                  have e_v187 := ai_mul e_v187 li_3 rfl (by omega)
                                  refine lv_iload hx hb dX11_findForm_197 (lv_at hl 5 rfl) ?_
                                  refine lv_iadd hx hb dX11_findForm_199 (lv_topi (fun v188 e_v188 => ?_))
                                  have e_v188 := ai_add e_v188 rfl rfl (by omega)
                                  refine lv_lload hx hb dX11_findForm_200 (lv_at hl 1 rfl) ?_
                                  refine tz_lastP hx hb hK hT hS 0 (oP ((0 : Int32).toInt) (y2.toInt + y9.toInt + y14.toInt)) rfl (by omega) (o_putx (by omega) (by have := li_0; omega)) dX11_findForm_202 (fun H locs hT hS => ?_)
                                  have hT : TP D A [(h4, aJ (k 1) 9 (oP ((0 : Int32).toInt) (y2.toInt + y9.toInt + y14.toInt))), (h0, ob 8 [.int h0f0, .int h0f1, .int h0f2, .int h0f3, .int h0f4, .int h0f5, .ref h1, .ref h2, .int h0f8, .int h0f9, .ref h3, .ref h4, .ref h5, .ref h6, .ref h7, .ref h8, .ref h9, .int h0f17, .int h0f18, .int h0f19, .ref h10, .ref h11, .ref h12, .ref h13, .int h0f24, .int h0f25, .ref h14, .ref h15, .ref h16, .ref h17, .int h0f30, .int h0f31, .ref h18, .ref h19, .ref h20, .ref h21]), (h5, aJ (k 1) 9 (idP )), (h10, aJ (k 1) 900 (lsP (h0f9.toInt)))] _ := hT
                                  obtain ⟨v189, e_v189⟩ : ∃ x : Int32, x = y14 + Int32.ofInt 1 := ⟨_, rfl⟩
                                  have f_v189 := e_v189.symm
                                  have e_v189 : v189.toInt = y14.toInt + 1 := ai_add e_v189 rfl (show (Int32.ofInt 1).toInt = 1 from (by decide +kernel)) (by omega)
                                  refine lv_iinc (v := v189) (lv' := [(4, .int v189), (1, .int 0), (7, .long v185), (0, .ref h0), (2, .int y2), (3, .int y9), (5, .long y179)]) hx hb dX11_findForm_203 hl (k := 5) rfl f_v189 (by decide) rfl (fun ls hl => ?_)
                                  refine lv_goto (tgt := 42) hx hb dX11_findForm_206 (by decide) ?_
                                  have hT := hT.wk (q := 0) (P' := aJ (k 1) 9 (oP ((0 : Int32).toInt) (y2.toInt + y9.toInt + v189.toInt))) rfl (cv_o_o (by have := li_0; omega))
                                  have hT : TP D A [(h4, aJ (k 1) 9 (oP ((0 : Int32).toInt) (y2.toInt + y9.toInt + v189.toInt))), (h0, ob 8 [.int h0f0, .int h0f1, .int h0f2, .int h0f3, .int h0f4, .int h0f5, .ref h1, .ref h2, .int h0f8, .int h0f9, .ref h3, .ref h4, .ref h5, .ref h6, .ref h7, .ref h8, .ref h9, .int h0f17, .int h0f18, .int h0f19, .ref h10, .ref h11, .ref h12, .ref h13, .int h0f24, .int h0f25, .ref h14, .ref h15, .ref h16, .ref h17, .int h0f30, .int h0f31, .ref h18, .ref h19, .ref h20, .ref h21]), (h5, aJ (k 1) 9 (idP )), (h10, aJ (k 1) 900 (lsP (h0f9.toInt)))] _ := hT
                                  exact ih42_16 v189 (0) _ _ _ (by have := li_0; omega) (by have := li_0; omega)  (by have := li_0; omega) hT hS (lv_sub hl [3, 1, 4, 5, 0] rfl)
                                · skip
                                  have c_186 := ni_ne c_186 rfl li_0
                                  refine lv_aload_n hx hb dX11_findForm_121 rfl (lv_at hl 1 rfl) ?_
                                  refine tz_get (ci := 8) (v := .ref h4) (C := RX11) (F := TX11) (N := 36) hx hb hU iX11 hown hK hT 1 rfl rfl 11 (by decide) w796 (fun _ h9 => h9) rfl dX11_findForm_122 ?_
                                  refine lv_iconst (v := 3) hx hb dX11_findForm_125 (by decide) ?_
                                  refine lv_iload_n hx hb dX11_findForm_126 rfl (lv_at hl 4 rfl) ?_
                                  refine lv_imul hx hb dX11_findForm_127 (lv_topi (fun v190 e_v190 => ?_))
                                  have e_v190 := ai_mul e_v190 li_3 rfl (by omega)
                                  refine lv_iload hx hb dX11_findForm_128 (lv_at hl 5 rfl) ?_
                                  refine lv_iadd hx hb dX11_findForm_130 (lv_topi (fun v191 e_v191 => ?_))
                                  have e_v191 := ai_add e_v191 rfl rfl (by omega)
                                  refine tz_lald hx hb hK hT 0 rfl (by omega) dX11_findForm_131 (fun v192 e_v192 => ?_)
                                  clear e_v192
                                  refine lv_lconst (v := 0) hx hb dX11_findForm_132 (by decide) ?_
                                  refine W.lcmp hx hb dX11_findForm_133 ?_
                                  refine lv_if_lt (tgt := 141) hx hb dX11_findForm_134 (by decide) (fun c_193 => ?_) (fun c_193 => ?_)
                                  · skip
                                    have c_193 := nl_lt c_193 rfl ll_0
                                    refine lv_iconst (v := 0) hx hb dX11_findForm_141 (by decide) ?_
                                    refine lv_lload hx hb dX11_findForm_142 (lv_at hl 6 rfl) ?_
                                    refine lv_lconst (v := 0) hx hb dX11_findForm_144 (by decide) ?_
                                    refine W.lcmp hx hb dX11_findForm_145 ?_
                                    refine lv_if_lt (tgt := 153) hx hb dX11_findForm_146 (by decide) (fun c_194 => ?_) (fun c_194 => ?_)
                                    · skip
                                      have c_194 := nl_lt c_194 rfl ll_0
                                      refine lv_iconst (v := 0) hx hb dX11_findForm_153 (by decide) ?_
                                      refine lv_icmp_ne (tgt := 184) hx hb dX11_findForm_154 (by decide) (fun cc => absurd (by decide +kernel) cc) (fun _ => ?_)
                                      refine lv_lload hx hb dX11_findForm_157 (lv_at hl 0 rfl) ?_
                                      refine lv_lconst (v := 0) hx hb dX11_findForm_159 (by decide) ?_
                                      refine W.lcmp hx hb dX11_findForm_160 ?_
                                      refine lv_if_lt (tgt := 168) hx hb dX11_findForm_161 (by decide) (fun c_195 => ?_) (fun c_195 => ?_)
                                      · skip
                                        have c_195 := nl_lt c_195 rfl ll_0
                                        refine lv_iconst (v := 0) hx hb dX11_findForm_168 (by decide) ?_
                                        refine lv_lload hx hb dX11_findForm_169 (lv_at hl 6 rfl) ?_
                                        refine lv_lconst (v := 0) hx hb dX11_findForm_171 (by decide) ?_
                                        refine W.lcmp hx hb dX11_findForm_172 ?_
                                        refine lv_if_lt (tgt := 180) hx hb dX11_findForm_173 (by decide) (fun c_196 => ?_) (fun c_196 => ?_)
                                        · skip
                                          have c_196 := nl_lt c_196 rfl ll_0
                                          refine lv_iconst (v := 0) hx hb dX11_findForm_180 (by decide) ?_
                                          refine lv_icmp_ne (tgt := 188) hx hb dX11_findForm_181 (by decide) (fun cc => absurd (by decide +kernel) cc) (fun _ => ?_)
                                          refine lv_iconst (v := 1) hx hb dX11_findForm_184 (by decide) ?_
                                          refine lv_goto (tgt := 189) hx hb dX11_findForm_185 (by decide) ?_
                                          refine lv_istore_n (lv' := [(1, .int 1), (7, .long v185), (0, .ref h0), (2, .int y2), (3, .int y9), (4, .int y14), (5, .long y179)]) hx hb dX11_findForm_189 rfl hl (by decide) rfl (fun ls hl => ?_)
                                          refine lv_aload_n hx hb dX11_findForm_190 rfl (lv_at hl 2 rfl) ?_
                                          refine tz_get (ci := 8) (v := .ref h4) (C := RX11) (F := TX11) (N := 36) hx hb hU iX11 hown hK hT 1 rfl rfl 11 (by decide) w796 (fun _ h9 => h9) rfl dX11_findForm_191 ?_
                                          refine lv_iconst (v := 3) hx hb dX11_findForm_194 (by decide) ?_
                                          refine lv_iload_n hx hb dX11_findForm_195 rfl (lv_at hl 4 rfl) ?_
                                          refine lv_imul hx hb dX11_findForm_196 (lv_topi (fun v197 e_v197 => ?_))
                                          have e_v197 := ai_mul e_v197 li_3 rfl (by omega)
                                          refine lv_iload hx hb dX11_findForm_197 (lv_at hl 5 rfl) ?_
                                          refine lv_iadd hx hb dX11_findForm_199 (lv_topi (fun v198 e_v198 => ?_))
                                          have e_v198 := ai_add e_v198 rfl rfl (by omega)
                                          refine lv_lload hx hb dX11_findForm_200 (lv_at hl 1 rfl) ?_
                                          refine tz_lastP hx hb hK hT hS 0 (oP ((1 : Int32).toInt) (y2.toInt + y9.toInt + y14.toInt)) rfl (by omega) (o_putx (by omega) (by have := li_1; omega)) dX11_findForm_202 (fun H locs hT hS => ?_)
                                          have hT : TP D A [(h4, aJ (k 1) 9 (oP ((1 : Int32).toInt) (y2.toInt + y9.toInt + y14.toInt))), (h0, ob 8 [.int h0f0, .int h0f1, .int h0f2, .int h0f3, .int h0f4, .int h0f5, .ref h1, .ref h2, .int h0f8, .int h0f9, .ref h3, .ref h4, .ref h5, .ref h6, .ref h7, .ref h8, .ref h9, .int h0f17, .int h0f18, .int h0f19, .ref h10, .ref h11, .ref h12, .ref h13, .int h0f24, .int h0f25, .ref h14, .ref h15, .ref h16, .ref h17, .int h0f30, .int h0f31, .ref h18, .ref h19, .ref h20, .ref h21]), (h5, aJ (k 1) 9 (idP )), (h10, aJ (k 1) 900 (lsP (h0f9.toInt)))] _ := hT
                                          obtain ⟨v199, e_v199⟩ : ∃ x : Int32, x = y14 + Int32.ofInt 1 := ⟨_, rfl⟩
                                          have f_v199 := e_v199.symm
                                          have e_v199 : v199.toInt = y14.toInt + 1 := ai_add e_v199 rfl (show (Int32.ofInt 1).toInt = 1 from (by decide +kernel)) (by omega)
                                          refine lv_iinc (v := v199) (lv' := [(4, .int v199), (1, .int 1), (7, .long v185), (0, .ref h0), (2, .int y2), (3, .int y9), (5, .long y179)]) hx hb dX11_findForm_203 hl (k := 5) rfl f_v199 (by decide) rfl (fun ls hl => ?_)
                                          refine lv_goto (tgt := 42) hx hb dX11_findForm_206 (by decide) ?_
                                          have hT := hT.wk (q := 0) (P' := aJ (k 1) 9 (oP ((1 : Int32).toInt) (y2.toInt + y9.toInt + v199.toInt))) rfl (cv_o_o (by have := li_1; omega))
                                          have hT : TP D A [(h4, aJ (k 1) 9 (oP ((1 : Int32).toInt) (y2.toInt + y9.toInt + v199.toInt))), (h0, ob 8 [.int h0f0, .int h0f1, .int h0f2, .int h0f3, .int h0f4, .int h0f5, .ref h1, .ref h2, .int h0f8, .int h0f9, .ref h3, .ref h4, .ref h5, .ref h6, .ref h7, .ref h8, .ref h9, .int h0f17, .int h0f18, .int h0f19, .ref h10, .ref h11, .ref h12, .ref h13, .int h0f24, .int h0f25, .ref h14, .ref h15, .ref h16, .ref h17, .int h0f30, .int h0f31, .ref h18, .ref h19, .ref h20, .ref h21]), (h5, aJ (k 1) 9 (idP )), (h10, aJ (k 1) 900 (lsP (h0f9.toInt)))] _ := hT
                                          exact ih42_16 v199 (1) _ _ _ (by have := li_1; omega) (by have := li_1; omega)  (by have := li_1; omega) hT hS (lv_sub hl [3, 1, 4, 5, 0] rfl)
                                        · skip
                                          have c_196 := nl_nlt c_196 rfl ll_0
                                          exfalso; omega
                                      · skip
                                        have c_195 := nl_nlt c_195 rfl ll_0
                                        refine lv_iconst (v := 1) hx hb dX11_findForm_164 (by decide) ?_
                                        refine lv_goto (tgt := 169) hx hb dX11_findForm_165 (by decide) ?_
                                        refine lv_lload hx hb dX11_findForm_169 (lv_at hl 6 rfl) ?_
                                        refine lv_lconst (v := 0) hx hb dX11_findForm_171 (by decide) ?_
                                        refine W.lcmp hx hb dX11_findForm_172 ?_
                                        refine lv_if_lt (tgt := 180) hx hb dX11_findForm_173 (by decide) (fun c_200 => ?_) (fun c_200 => ?_)
                                        · skip
                                          have c_200 := nl_lt c_200 rfl ll_0
                                          refine lv_iconst (v := 0) hx hb dX11_findForm_180 (by decide) ?_
                                          refine lv_icmp_ne (tgt := 188) hx hb dX11_findForm_181 (by decide) (fun _ => ?_) (fun cc => absurd cc (by decide +kernel))
                                          refine lv_iconst (v := 0) hx hb dX11_findForm_188 (by decide) ?_
                                          refine lv_istore_n (lv' := [(1, .int 0), (7, .long v185), (0, .ref h0), (2, .int y2), (3, .int y9), (4, .int y14), (5, .long y179)]) hx hb dX11_findForm_189 rfl hl (by decide) rfl (fun ls hl => ?_)
                                          refine lv_aload_n hx hb dX11_findForm_190 rfl (lv_at hl 2 rfl) ?_
                                          refine tz_get (ci := 8) (v := .ref h4) (C := RX11) (F := TX11) (N := 36) hx hb hU iX11 hown hK hT 1 rfl rfl 11 (by decide) w796 (fun _ h9 => h9) rfl dX11_findForm_191 ?_
                                          refine lv_iconst (v := 3) hx hb dX11_findForm_194 (by decide) ?_
                                          refine lv_iload_n hx hb dX11_findForm_195 rfl (lv_at hl 4 rfl) ?_
                                          refine lv_imul hx hb dX11_findForm_196 (lv_topi (fun v201 e_v201 => ?_))
                                          have e_v201 := ai_mul e_v201 li_3 rfl (by omega)
                                          refine lv_iload hx hb dX11_findForm_197 (lv_at hl 5 rfl) ?_
                                          refine lv_iadd hx hb dX11_findForm_199 (lv_topi (fun v202 e_v202 => ?_))
                                          have e_v202 := ai_add e_v202 rfl rfl (by omega)
                                          refine lv_lload hx hb dX11_findForm_200 (lv_at hl 1 rfl) ?_
                                          refine tz_lastP hx hb hK hT hS 0 (oP ((0 : Int32).toInt) (y2.toInt + y9.toInt + y14.toInt)) rfl (by omega) (o_putx (by omega) (by have := li_0; omega)) dX11_findForm_202 (fun H locs hT hS => ?_)
                                          have hT : TP D A [(h4, aJ (k 1) 9 (oP ((0 : Int32).toInt) (y2.toInt + y9.toInt + y14.toInt))), (h0, ob 8 [.int h0f0, .int h0f1, .int h0f2, .int h0f3, .int h0f4, .int h0f5, .ref h1, .ref h2, .int h0f8, .int h0f9, .ref h3, .ref h4, .ref h5, .ref h6, .ref h7, .ref h8, .ref h9, .int h0f17, .int h0f18, .int h0f19, .ref h10, .ref h11, .ref h12, .ref h13, .int h0f24, .int h0f25, .ref h14, .ref h15, .ref h16, .ref h17, .int h0f30, .int h0f31, .ref h18, .ref h19, .ref h20, .ref h21]), (h5, aJ (k 1) 9 (idP )), (h10, aJ (k 1) 900 (lsP (h0f9.toInt)))] _ := hT
                                          obtain ⟨v203, e_v203⟩ : ∃ x : Int32, x = y14 + Int32.ofInt 1 := ⟨_, rfl⟩
                                          have f_v203 := e_v203.symm
                                          have e_v203 : v203.toInt = y14.toInt + 1 := ai_add e_v203 rfl (show (Int32.ofInt 1).toInt = 1 from (by decide +kernel)) (by omega)
                                          refine lv_iinc (v := v203) (lv' := [(4, .int v203), (1, .int 0), (7, .long v185), (0, .ref h0), (2, .int y2), (3, .int y9), (5, .long y179)]) hx hb dX11_findForm_203 hl (k := 5) rfl f_v203 (by decide) rfl (fun ls hl => ?_)
                                          refine lv_goto (tgt := 42) hx hb dX11_findForm_206 (by decide) ?_
                                          have hT := hT.wk (q := 0) (P' := aJ (k 1) 9 (oP ((0 : Int32).toInt) (y2.toInt + y9.toInt + v203.toInt))) rfl (cv_o_o (by have := li_0; omega))
                                          have hT : TP D A [(h4, aJ (k 1) 9 (oP ((0 : Int32).toInt) (y2.toInt + y9.toInt + v203.toInt))), (h0, ob 8 [.int h0f0, .int h0f1, .int h0f2, .int h0f3, .int h0f4, .int h0f5, .ref h1, .ref h2, .int h0f8, .int h0f9, .ref h3, .ref h4, .ref h5, .ref h6, .ref h7, .ref h8, .ref h9, .int h0f17, .int h0f18, .int h0f19, .ref h10, .ref h11, .ref h12, .ref h13, .int h0f24, .int h0f25, .ref h14, .ref h15, .ref h16, .ref h17, .int h0f30, .int h0f31, .ref h18, .ref h19, .ref h20, .ref h21]), (h5, aJ (k 1) 9 (idP )), (h10, aJ (k 1) 900 (lsP (h0f9.toInt)))] _ := hT
                                          exact ih42_16 v203 (0) _ _ _ (by have := li_0; omega) (by have := li_0; omega)  (by have := li_0; omega) hT hS (lv_sub hl [3, 1, 4, 5, 0] rfl)
                                        · skip
                                          have c_200 := nl_nlt c_200 rfl ll_0
                                          exfalso; omega
                                    · skip
                                      have c_194 := nl_nlt c_194 rfl ll_0
                                      refine lv_iconst (v := 1) hx hb dX11_findForm_149 (by decide) ?_
                                      refine lv_goto (tgt := 154) hx hb dX11_findForm_150 (by decide) ?_
                                      refine lv_icmp_ne (tgt := 184) hx hb dX11_findForm_154 (by decide) (fun _ => ?_) (fun cc => absurd cc (by decide +kernel))
                                      refine lv_iconst (v := 1) hx hb dX11_findForm_184 (by decide) ?_
                                      refine lv_goto (tgt := 189) hx hb dX11_findForm_185 (by decide) ?_
                                      refine lv_istore_n (lv' := [(1, .int 1), (7, .long v185), (0, .ref h0), (2, .int y2), (3, .int y9), (4, .int y14), (5, .long y179)]) hx hb dX11_findForm_189 rfl hl (by decide) rfl (fun ls hl => ?_)
                                      refine lv_aload_n hx hb dX11_findForm_190 rfl (lv_at hl 2 rfl) ?_
                                      refine tz_get (ci := 8) (v := .ref h4) (C := RX11) (F := TX11) (N := 36) hx hb hU iX11 hown hK hT 1 rfl rfl 11 (by decide) w796 (fun _ h9 => h9) rfl dX11_findForm_191 ?_
                                      refine lv_iconst (v := 3) hx hb dX11_findForm_194 (by decide) ?_
                                      refine lv_iload_n hx hb dX11_findForm_195 rfl (lv_at hl 4 rfl) ?_
                                      refine lv_imul hx hb dX11_findForm_196 (lv_topi (fun v204 e_v204 => ?_))
                                      have e_v204 := ai_mul e_v204 li_3 rfl (by omega)
                                      refine lv_iload hx hb dX11_findForm_197 (lv_at hl 5 rfl) ?_
                                      refine lv_iadd hx hb dX11_findForm_199 (lv_topi (fun v205 e_v205 => ?_))
                                      have e_v205 := ai_add e_v205 rfl rfl (by omega)
                                      refine lv_lload hx hb dX11_findForm_200 (lv_at hl 1 rfl) ?_
                                      refine tz_lastP hx hb hK hT hS 0 (oP ((1 : Int32).toInt) (y2.toInt + y9.toInt + y14.toInt)) rfl (by omega) (o_putx (by omega) (by have := li_1; omega)) dX11_findForm_202 (fun H locs hT hS => ?_)
                                      have hT : TP D A [(h4, aJ (k 1) 9 (oP ((1 : Int32).toInt) (y2.toInt + y9.toInt + y14.toInt))), (h0, ob 8 [.int h0f0, .int h0f1, .int h0f2, .int h0f3, .int h0f4, .int h0f5, .ref h1, .ref h2, .int h0f8, .int h0f9, .ref h3, .ref h4, .ref h5, .ref h6, .ref h7, .ref h8, .ref h9, .int h0f17, .int h0f18, .int h0f19, .ref h10, .ref h11, .ref h12, .ref h13, .int h0f24, .int h0f25, .ref h14, .ref h15, .ref h16, .ref h17, .int h0f30, .int h0f31, .ref h18, .ref h19, .ref h20, .ref h21]), (h5, aJ (k 1) 9 (idP )), (h10, aJ (k 1) 900 (lsP (h0f9.toInt)))] _ := hT
                                      obtain ⟨v206, e_v206⟩ : ∃ x : Int32, x = y14 + Int32.ofInt 1 := ⟨_, rfl⟩
                                      have f_v206 := e_v206.symm
                                      have e_v206 : v206.toInt = y14.toInt + 1 := ai_add e_v206 rfl (show (Int32.ofInt 1).toInt = 1 from (by decide +kernel)) (by omega)
                                      refine lv_iinc (v := v206) (lv' := [(4, .int v206), (1, .int 1), (7, .long v185), (0, .ref h0), (2, .int y2), (3, .int y9), (5, .long y179)]) hx hb dX11_findForm_203 hl (k := 5) rfl f_v206 (by decide) rfl (fun ls hl => ?_)
                                      refine lv_goto (tgt := 42) hx hb dX11_findForm_206 (by decide) ?_
                                      have hT := hT.wk (q := 0) (P' := aJ (k 1) 9 (oP ((1 : Int32).toInt) (y2.toInt + y9.toInt + v206.toInt))) rfl (cv_o_o (by have := li_1; omega))
                                      have hT : TP D A [(h4, aJ (k 1) 9 (oP ((1 : Int32).toInt) (y2.toInt + y9.toInt + v206.toInt))), (h0, ob 8 [.int h0f0, .int h0f1, .int h0f2, .int h0f3, .int h0f4, .int h0f5, .ref h1, .ref h2, .int h0f8, .int h0f9, .ref h3, .ref h4, .ref h5, .ref h6, .ref h7, .ref h8, .ref h9, .int h0f17, .int h0f18, .int h0f19, .ref h10, .ref h11, .ref h12, .ref h13, .int h0f24, .int h0f25, .ref h14, .ref h15, .ref h16, .ref h17, .int h0f30, .int h0f31, .ref h18, .ref h19, .ref h20, .ref h21]), (h5, aJ (k 1) 9 (idP )), (h10, aJ (k 1) 900 (lsP (h0f9.toInt)))] _ := hT
                                      exact ih42_16 v206 (1) _ _ _ (by have := li_1; omega) (by have := li_1; omega)  (by have := li_1; omega) hT hS (lv_sub hl [3, 1, 4, 5, 0] rfl)
                                  · skip
                                    have c_193 := nl_nlt c_193 rfl ll_0
                                    refine lv_iconst (v := 1) hx hb dX11_findForm_137 (by decide) ?_
                                    refine lv_goto (tgt := 142) hx hb dX11_findForm_138 (by decide) ?_
                                    refine lv_lload hx hb dX11_findForm_142 (lv_at hl 6 rfl) ?_
                                    refine lv_lconst (v := 0) hx hb dX11_findForm_144 (by decide) ?_
                                    refine W.lcmp hx hb dX11_findForm_145 ?_
                                    refine lv_if_lt (tgt := 153) hx hb dX11_findForm_146 (by decide) (fun c_207 => ?_) (fun c_207 => ?_)
                                    · skip
                                      have c_207 := nl_lt c_207 rfl ll_0
                                      refine lv_iconst (v := 0) hx hb dX11_findForm_153 (by decide) ?_
                                      refine lv_icmp_ne (tgt := 184) hx hb dX11_findForm_154 (by decide) (fun _ => ?_) (fun cc => absurd cc (by decide +kernel))
                                      refine lv_iconst (v := 1) hx hb dX11_findForm_184 (by decide) ?_
                                      refine lv_goto (tgt := 189) hx hb dX11_findForm_185 (by decide) ?_
                                      refine lv_istore_n (lv' := [(1, .int 1), (7, .long v185), (0, .ref h0), (2, .int y2), (3, .int y9), (4, .int y14), (5, .long y179)]) hx hb dX11_findForm_189 rfl hl (by decide) rfl (fun ls hl => ?_)
                                      refine lv_aload_n hx hb dX11_findForm_190 rfl (lv_at hl 2 rfl) ?_
                                      refine tz_get (ci := 8) (v := .ref h4) (C := RX11) (F := TX11) (N := 36) hx hb hU iX11 hown hK hT 1 rfl rfl 11 (by decide) w796 (fun _ h9 => h9) rfl dX11_findForm_191 ?_
                                      refine lv_iconst (v := 3) hx hb dX11_findForm_194 (by decide) ?_
                                      refine lv_iload_n hx hb dX11_findForm_195 rfl (lv_at hl 4 rfl) ?_
                                      refine lv_imul hx hb dX11_findForm_196 (lv_topi (fun v208 e_v208 => ?_))
                                      have e_v208 := ai_mul e_v208 li_3 rfl (by omega)
                                      refine lv_iload hx hb dX11_findForm_197 (lv_at hl 5 rfl) ?_
                                      refine lv_iadd hx hb dX11_findForm_199 (lv_topi (fun v209 e_v209 => ?_))
                                      have e_v209 := ai_add e_v209 rfl rfl (by omega)
                                      refine lv_lload hx hb dX11_findForm_200 (lv_at hl 1 rfl) ?_
                                      refine tz_lastP hx hb hK hT hS 0 (oP ((1 : Int32).toInt) (y2.toInt + y9.toInt + y14.toInt)) rfl (by omega) (o_putx (by omega) (by have := li_1; omega)) dX11_findForm_202 (fun H locs hT hS => ?_)
                                      have hT : TP D A [(h4, aJ (k 1) 9 (oP ((1 : Int32).toInt) (y2.toInt + y9.toInt + y14.toInt))), (h0, ob 8 [.int h0f0, .int h0f1, .int h0f2, .int h0f3, .int h0f4, .int h0f5, .ref h1, .ref h2, .int h0f8, .int h0f9, .ref h3, .ref h4, .ref h5, .ref h6, .ref h7, .ref h8, .ref h9, .int h0f17, .int h0f18, .int h0f19, .ref h10, .ref h11, .ref h12, .ref h13, .int h0f24, .int h0f25, .ref h14, .ref h15, .ref h16, .ref h17, .int h0f30, .int h0f31, .ref h18, .ref h19, .ref h20, .ref h21]), (h5, aJ (k 1) 9 (idP )), (h10, aJ (k 1) 900 (lsP (h0f9.toInt)))] _ := hT
                                      obtain ⟨v210, e_v210⟩ : ∃ x : Int32, x = y14 + Int32.ofInt 1 := ⟨_, rfl⟩
                                      have f_v210 := e_v210.symm
                                      have e_v210 : v210.toInt = y14.toInt + 1 := ai_add e_v210 rfl (show (Int32.ofInt 1).toInt = 1 from (by decide +kernel)) (by omega)
                                      refine lv_iinc (v := v210) (lv' := [(4, .int v210), (1, .int 1), (7, .long v185), (0, .ref h0), (2, .int y2), (3, .int y9), (5, .long y179)]) hx hb dX11_findForm_203 hl (k := 5) rfl f_v210 (by decide) rfl (fun ls hl => ?_)
                                      refine lv_goto (tgt := 42) hx hb dX11_findForm_206 (by decide) ?_
                                      have hT := hT.wk (q := 0) (P' := aJ (k 1) 9 (oP ((1 : Int32).toInt) (y2.toInt + y9.toInt + v210.toInt))) rfl (cv_o_o (by have := li_1; omega))
                                      have hT : TP D A [(h4, aJ (k 1) 9 (oP ((1 : Int32).toInt) (y2.toInt + y9.toInt + v210.toInt))), (h0, ob 8 [.int h0f0, .int h0f1, .int h0f2, .int h0f3, .int h0f4, .int h0f5, .ref h1, .ref h2, .int h0f8, .int h0f9, .ref h3, .ref h4, .ref h5, .ref h6, .ref h7, .ref h8, .ref h9, .int h0f17, .int h0f18, .int h0f19, .ref h10, .ref h11, .ref h12, .ref h13, .int h0f24, .int h0f25, .ref h14, .ref h15, .ref h16, .ref h17, .int h0f30, .int h0f31, .ref h18, .ref h19, .ref h20, .ref h21]), (h5, aJ (k 1) 9 (idP )), (h10, aJ (k 1) 900 (lsP (h0f9.toInt)))] _ := hT
                                      exact ih42_16 v210 (1) _ _ _ (by have := li_1; omega) (by have := li_1; omega)  (by have := li_1; omega) hT hS (lv_sub hl [3, 1, 4, 5, 0] rfl)
                                    · skip
                                      have c_207 := nl_nlt c_207 rfl ll_0
                                      refine lv_iconst (v := 1) hx hb dX11_findForm_149 (by decide) ?_
                                      refine lv_goto (tgt := 154) hx hb dX11_findForm_150 (by decide) ?_
                                      refine lv_icmp_ne (tgt := 184) hx hb dX11_findForm_154 (by decide) (fun cc => absurd (by decide +kernel) cc) (fun _ => ?_)
                                      refine lv_lload hx hb dX11_findForm_157 (lv_at hl 0 rfl) ?_
                                      refine lv_lconst (v := 0) hx hb dX11_findForm_159 (by decide) ?_
                                      refine W.lcmp hx hb dX11_findForm_160 ?_
                                      refine lv_if_lt (tgt := 168) hx hb dX11_findForm_161 (by decide) (fun c_211 => ?_) (fun c_211 => ?_)
                                      · skip
                                        have c_211 := nl_lt c_211 rfl ll_0
                                        refine lv_iconst (v := 0) hx hb dX11_findForm_168 (by decide) ?_
                                        refine lv_lload hx hb dX11_findForm_169 (lv_at hl 6 rfl) ?_
                                        refine lv_lconst (v := 0) hx hb dX11_findForm_171 (by decide) ?_
                                        refine W.lcmp hx hb dX11_findForm_172 ?_
                                        refine lv_if_lt (tgt := 180) hx hb dX11_findForm_173 (by decide) (fun c_212 => ?_) (fun c_212 => ?_)
                                        · skip
                                          have c_212 := nl_lt c_212 rfl ll_0
                                          exfalso; omega
                                        · skip
                                          have c_212 := nl_nlt c_212 rfl ll_0
                                          refine lv_iconst (v := 1) hx hb dX11_findForm_176 (by decide) ?_
                                          refine lv_goto (tgt := 181) hx hb dX11_findForm_177 (by decide) ?_
                                          refine lv_icmp_ne (tgt := 188) hx hb dX11_findForm_181 (by decide) (fun _ => ?_) (fun cc => absurd cc (by decide +kernel))
                                          refine lv_iconst (v := 0) hx hb dX11_findForm_188 (by decide) ?_
                                          refine lv_istore_n (lv' := [(1, .int 0), (7, .long v185), (0, .ref h0), (2, .int y2), (3, .int y9), (4, .int y14), (5, .long y179)]) hx hb dX11_findForm_189 rfl hl (by decide) rfl (fun ls hl => ?_)
                                          refine lv_aload_n hx hb dX11_findForm_190 rfl (lv_at hl 2 rfl) ?_
                                          refine tz_get (ci := 8) (v := .ref h4) (C := RX11) (F := TX11) (N := 36) hx hb hU iX11 hown hK hT 1 rfl rfl 11 (by decide) w796 (fun _ h9 => h9) rfl dX11_findForm_191 ?_
                                          refine lv_iconst (v := 3) hx hb dX11_findForm_194 (by decide) ?_
                                          refine lv_iload_n hx hb dX11_findForm_195 rfl (lv_at hl 4 rfl) ?_
                                          refine lv_imul hx hb dX11_findForm_196 (lv_topi (fun v213 e_v213 => ?_))
                                          have e_v213 := ai_mul e_v213 li_3 rfl (by omega)
                                          refine lv_iload hx hb dX11_findForm_197 (lv_at hl 5 rfl) ?_
                                          refine lv_iadd hx hb dX11_findForm_199 (lv_topi (fun v214 e_v214 => ?_))
                                          have e_v214 := ai_add e_v214 rfl rfl (by omega)
                                          refine lv_lload hx hb dX11_findForm_200 (lv_at hl 1 rfl) ?_
                                          refine tz_lastP hx hb hK hT hS 0 (oP ((0 : Int32).toInt) (y2.toInt + y9.toInt + y14.toInt)) rfl (by omega) (o_putx (by omega) (by have := li_0; omega)) dX11_findForm_202 (fun H locs hT hS => ?_)
                                          have hT : TP D A [(h4, aJ (k 1) 9 (oP ((0 : Int32).toInt) (y2.toInt + y9.toInt + y14.toInt))), (h0, ob 8 [.int h0f0, .int h0f1, .int h0f2, .int h0f3, .int h0f4, .int h0f5, .ref h1, .ref h2, .int h0f8, .int h0f9, .ref h3, .ref h4, .ref h5, .ref h6, .ref h7, .ref h8, .ref h9, .int h0f17, .int h0f18, .int h0f19, .ref h10, .ref h11, .ref h12, .ref h13, .int h0f24, .int h0f25, .ref h14, .ref h15, .ref h16, .ref h17, .int h0f30, .int h0f31, .ref h18, .ref h19, .ref h20, .ref h21]), (h5, aJ (k 1) 9 (idP )), (h10, aJ (k 1) 900 (lsP (h0f9.toInt)))] _ := hT
                                          obtain ⟨v215, e_v215⟩ : ∃ x : Int32, x = y14 + Int32.ofInt 1 := ⟨_, rfl⟩
                                          have f_v215 := e_v215.symm
                                          have e_v215 : v215.toInt = y14.toInt + 1 := ai_add e_v215 rfl (show (Int32.ofInt 1).toInt = 1 from (by decide +kernel)) (by omega)
                                          refine lv_iinc (v := v215) (lv' := [(4, .int v215), (1, .int 0), (7, .long v185), (0, .ref h0), (2, .int y2), (3, .int y9), (5, .long y179)]) hx hb dX11_findForm_203 hl (k := 5) rfl f_v215 (by decide) rfl (fun ls hl => ?_)
                                          refine lv_goto (tgt := 42) hx hb dX11_findForm_206 (by decide) ?_
                                          have hT := hT.wk (q := 0) (P' := aJ (k 1) 9 (oP ((0 : Int32).toInt) (y2.toInt + y9.toInt + v215.toInt))) rfl (cv_o_o (by have := li_0; omega))
                                          have hT : TP D A [(h4, aJ (k 1) 9 (oP ((0 : Int32).toInt) (y2.toInt + y9.toInt + v215.toInt))), (h0, ob 8 [.int h0f0, .int h0f1, .int h0f2, .int h0f3, .int h0f4, .int h0f5, .ref h1, .ref h2, .int h0f8, .int h0f9, .ref h3, .ref h4, .ref h5, .ref h6, .ref h7, .ref h8, .ref h9, .int h0f17, .int h0f18, .int h0f19, .ref h10, .ref h11, .ref h12, .ref h13, .int h0f24, .int h0f25, .ref h14, .ref h15, .ref h16, .ref h17, .int h0f30, .int h0f31, .ref h18, .ref h19, .ref h20, .ref h21]), (h5, aJ (k 1) 9 (idP )), (h10, aJ (k 1) 900 (lsP (h0f9.toInt)))] _ := hT
                                          exact ih42_16 v215 (0) _ _ _ (by have := li_0; omega) (by have := li_0; omega)  (by have := li_0; omega) hT hS (lv_sub hl [3, 1, 4, 5, 0] rfl)
                                      · skip
                                        have c_211 := nl_nlt c_211 rfl ll_0
                                        refine lv_iconst (v := 1) hx hb dX11_findForm_164 (by decide) ?_
                                        refine lv_goto (tgt := 169) hx hb dX11_findForm_165 (by decide) ?_
                                        refine lv_lload hx hb dX11_findForm_169 (lv_at hl 6 rfl) ?_
                                        refine lv_lconst (v := 0) hx hb dX11_findForm_171 (by decide) ?_
                                        refine W.lcmp hx hb dX11_findForm_172 ?_
                                        refine lv_if_lt (tgt := 180) hx hb dX11_findForm_173 (by decide) (fun c_216 => ?_) (fun c_216 => ?_)
                                        · skip
                                          have c_216 := nl_lt c_216 rfl ll_0
                                          exfalso; omega
                                        · skip
                                          have c_216 := nl_nlt c_216 rfl ll_0
                                          refine lv_iconst (v := 1) hx hb dX11_findForm_176 (by decide) ?_
                                          refine lv_goto (tgt := 181) hx hb dX11_findForm_177 (by decide) ?_
                                          refine lv_icmp_ne (tgt := 188) hx hb dX11_findForm_181 (by decide) (fun cc => absurd (by decide +kernel) cc) (fun _ => ?_)
                                          refine lv_iconst (v := 1) hx hb dX11_findForm_184 (by decide) ?_
                                          refine lv_goto (tgt := 189) hx hb dX11_findForm_185 (by decide) ?_
                                          refine lv_istore_n (lv' := [(1, .int 1), (7, .long v185), (0, .ref h0), (2, .int y2), (3, .int y9), (4, .int y14), (5, .long y179)]) hx hb dX11_findForm_189 rfl hl (by decide) rfl (fun ls hl => ?_)
                                          refine lv_aload_n hx hb dX11_findForm_190 rfl (lv_at hl 2 rfl) ?_
                                          refine tz_get (ci := 8) (v := .ref h4) (C := RX11) (F := TX11) (N := 36) hx hb hU iX11 hown hK hT 1 rfl rfl 11 (by decide) w796 (fun _ h9 => h9) rfl dX11_findForm_191 ?_
                                          refine lv_iconst (v := 3) hx hb dX11_findForm_194 (by decide) ?_
                                          refine lv_iload_n hx hb dX11_findForm_195 rfl (lv_at hl 4 rfl) ?_
                                          refine lv_imul hx hb dX11_findForm_196 (lv_topi (fun v217 e_v217 => ?_))
                                          have e_v217 := ai_mul e_v217 li_3 rfl (by omega)
                                          refine lv_iload hx hb dX11_findForm_197 (lv_at hl 5 rfl) ?_
                                          refine lv_iadd hx hb dX11_findForm_199 (lv_topi (fun v218 e_v218 => ?_))
                                          have e_v218 := ai_add e_v218 rfl rfl (by omega)
                                          refine lv_lload hx hb dX11_findForm_200 (lv_at hl 1 rfl) ?_
                                          refine tz_lastP hx hb hK hT hS 0 (oP ((1 : Int32).toInt) (y2.toInt + y9.toInt + y14.toInt)) rfl (by omega) (o_putx (by omega) (by have := li_1; omega)) dX11_findForm_202 (fun H locs hT hS => ?_)
                                          have hT : TP D A [(h4, aJ (k 1) 9 (oP ((1 : Int32).toInt) (y2.toInt + y9.toInt + y14.toInt))), (h0, ob 8 [.int h0f0, .int h0f1, .int h0f2, .int h0f3, .int h0f4, .int h0f5, .ref h1, .ref h2, .int h0f8, .int h0f9, .ref h3, .ref h4, .ref h5, .ref h6, .ref h7, .ref h8, .ref h9, .int h0f17, .int h0f18, .int h0f19, .ref h10, .ref h11, .ref h12, .ref h13, .int h0f24, .int h0f25, .ref h14, .ref h15, .ref h16, .ref h17, .int h0f30, .int h0f31, .ref h18, .ref h19, .ref h20, .ref h21]), (h5, aJ (k 1) 9 (idP )), (h10, aJ (k 1) 900 (lsP (h0f9.toInt)))] _ := hT
                                          obtain ⟨v219, e_v219⟩ : ∃ x : Int32, x = y14 + Int32.ofInt 1 := ⟨_, rfl⟩
                                          have f_v219 := e_v219.symm
                                          have e_v219 : v219.toInt = y14.toInt + 1 := ai_add e_v219 rfl (show (Int32.ofInt 1).toInt = 1 from (by decide +kernel)) (by omega)
                                          refine lv_iinc (v := v219) (lv' := [(4, .int v219), (1, .int 1), (7, .long v185), (0, .ref h0), (2, .int y2), (3, .int y9), (5, .long y179)]) hx hb dX11_findForm_203 hl (k := 5) rfl f_v219 (by decide) rfl (fun ls hl => ?_)
                                          refine lv_goto (tgt := 42) hx hb dX11_findForm_206 (by decide) ?_
                                          have hT := hT.wk (q := 0) (P' := aJ (k 1) 9 (oP ((1 : Int32).toInt) (y2.toInt + y9.toInt + v219.toInt))) rfl (cv_o_o (by have := li_1; omega))
                                          have hT : TP D A [(h4, aJ (k 1) 9 (oP ((1 : Int32).toInt) (y2.toInt + y9.toInt + v219.toInt))), (h0, ob 8 [.int h0f0, .int h0f1, .int h0f2, .int h0f3, .int h0f4, .int h0f5, .ref h1, .ref h2, .int h0f8, .int h0f9, .ref h3, .ref h4, .ref h5, .ref h6, .ref h7, .ref h8, .ref h9, .int h0f17, .int h0f18, .int h0f19, .ref h10, .ref h11, .ref h12, .ref h13, .int h0f24, .int h0f25, .ref h14, .ref h15, .ref h16, .ref h17, .int h0f30, .int h0f31, .ref h18, .ref h19, .ref h20, .ref h21]), (h5, aJ (k 1) 9 (idP )), (h10, aJ (k 1) 900 (lsP (h0f9.toInt)))] _ := hT
                                          exact ih42_16 v219 (1) _ _ _ (by have := li_1; omega) (by have := li_1; omega)  (by have := li_1; omega) hT hS (lv_sub hl [3, 1, 4, 5, 0] rfl)
                              · skip
                                have c_181 := ni_nle c_181 rfl rfl
                                refine lv_lload hx hb dX11_findForm_66 (lv_at hl 5 rfl) ?_
                                refine lv_aload_n hx hb dX11_findForm_68 rfl (lv_at hl 0 rfl) ?_
                                refine tz_get (ci := 8) (v := .ref h5) (C := RX11) (F := TX11) (N := 36) hx hb hU iX11 hown hK hT 1 rfl rfl 12 (by decide) w797 (fun _ h9 => h9) rfl dX11_findForm_69 ?_
                                refine lv_iconst (v := 3) hx hb dX11_findForm_72 (by decide) ?_
                                refine lv_iload hx hb dX11_findForm_73 (lv_at hl 6 rfl) ?_
                                refine lv_imul hx hb dX11_findForm_75 (lv_topi (fun v220 e_v220 => ?_))
                                have e_v220 := ai_mul e_v220 li_3 rfl (by omega)
                                refine lv_iload_n hx hb dX11_findForm_76 rfl (lv_at hl 3 rfl) ?_
                                refine lv_iadd hx hb dX11_findForm_77 (lv_topi (fun v221 e_v221 => ?_))
                                have e_v221 := ai_add e_v221 rfl rfl (by omega)
                                refine tz_lald hx hb hK hT 2 rfl (by omega) dX11_findForm_78 (fun v222 e_v222 => ?_)
                                clear e_v222
                                refine lv_aload_n hx hb dX11_findForm_79 rfl (lv_at hl 0 rfl) ?_
                                refine tz_get (ci := 8) (v := .ref h5) (C := RX11) (F := TX11) (N := 36) hx hb hU iX11 hown hK hT 1 rfl rfl 12 (by decide) w797 (fun _ h9 => h9) rfl dX11_findForm_80 ?_
                                refine lv_iconst (v := 3) hx hb dX11_findForm_83 (by decide) ?_
                                refine lv_iload hx hb dX11_findForm_84 (lv_at hl 6 rfl) ?_
                                refine lv_imul hx hb dX11_findForm_86 (lv_topi (fun v223 e_v223 => ?_))
                                have e_v223 := ai_mul e_v223 li_3 rfl (by omega)
                                refine lv_iload hx hb dX11_findForm_87 (lv_at hl 4 rfl) ?_
                                refine lv_iadd hx hb dX11_findForm_89 (lv_topi (fun v224 e_v224 => ?_))
                                have e_v224 := ai_add e_v224 rfl rfl (by omega)
                                refine tz_lald hx hb hK hT 2 rfl (by omega) dX11_findForm_90 (fun v225 e_v225 => ?_)
                                clear e_v225
                                refine lv_lmul hx hb dX11_findForm_91 (lv_topl (fun v226 e_v226 => ?_))
                                refine lv_ladd hx hb dX11_findForm_92 (lv_topl (fun v227 e_v227 => ?_))
                                refine lv_lstore (lv' := [(5, .long v227), (0, .ref h0), (1, .int y15), (2, .int y2), (3, .int y9), (4, .int y14), (7, .int y178)]) hx hb dX11_findForm_93 hl (by decide) rfl (fun ls hl => ?_)
                                obtain ⟨v228, e_v228⟩ : ∃ x : Int32, x = y178 + Int32.ofInt 1 := ⟨_, rfl⟩
                                have f_v228 := e_v228.symm
                                have e_v228 : v228.toInt = y178.toInt + 1 := ai_add e_v228 rfl (show (Int32.ofInt 1).toInt = 1 from (by decide +kernel)) (by omega)
                                refine lv_iinc (v := v228) (lv' := [(7, .int v228), (5, .long v227), (0, .ref h0), (1, .int y15), (2, .int y2), (3, .int y9), (4, .int y14)]) hx hb dX11_findForm_95 hl (k := 6) rfl f_v228 (by decide) rfl (fun ls hl => ?_)
                                refine lv_goto (tgt := 57) hx hb dX11_findForm_98 (by decide) ?_
                                exact ih57_180 v228 v227 _ _ _ (by omega)  (by omega) hT hS (lv_sub hl [2, 3, 4, 5, 6, 1, 0] rfl)
                          exact lp57_180 ((h0f0.toInt + (-1) * (0 : Int32).toInt + 1).toNat + 1) (0) (0) _ _ _ (by have := li_0; have := ll_0; omega)  (Nat.lt_succ_self _) hT hS (lv_sub hl [2, 3, 4, 5, 6, 1, 0] rfl)
                exact lp42_16 ((h0f0.toInt + (-1) * (0 : Int32).toInt + 1).toNat + 1) (0) y10 _ _ _ (by have := li_0; omega) (by have := li_0; omega)  (Nat.lt_succ_self _) hT hS (lv_sub hl [1, 2, 3, 4, 0] rfl)
          exact lp31_11 ((h0f0.toInt + (-1) * (0 : Int32).toInt + 1).toNat + 1) (0) y3 _ _ _ (by have := li_0; omega) (by have := li_0; omega)  (Nat.lt_succ_self _) hT hS (lv_sub hl [1, 2, 3, 0] rfl)
        · skip
          refine lv_aload_n hx hb dX11_findForm_20 rfl (lv_at hl 0 rfl) ?_
          refine lv_iload_n hx hb dX11_findForm_21 rfl (lv_at hl 2 rfl) ?_
          refine lv_aload_n hx hb dX11_findForm_22 rfl (lv_at hl 0 rfl) ?_
          refine tz_get (ci := 8) (v := .ref h5) (C := RX11) (F := TX11) (N := 36) hx hb hU iX11 hown hK hT 2 rfl rfl 12 (by decide) w797 (fun _ h9 => h9) rfl dX11_findForm_23 ?_
          refine tcV (Tc := [(h0, ob 8 [.int h0f0, .int h0f1, .int h0f2, .int h0f3, .int h0f4, .int h0f5, .ref h1, .ref h2, .int h0f8, .int h0f9, .ref h3, .ref h4, .ref h5, .ref h6, .ref h7, .ref h8, .ref h9, .int h0f17, .int h0f18, .int h0f19, .ref h10, .ref h11, .ref h12, .ref h13, .int h0f24, .int h0f25, .ref h14, .ref h15, .ref h16, .ref h17, .int h0f30, .int h0f31, .ref h18, .ref h19, .ref h20, .ref h21]), (h5, aJ (k 1) 9 anJ), (h10, aJ (k 1) 900 (lsP (h0f9.toInt)))]) (Tr := [(h4, aJ (k 1) 9 (oP (y3.toInt) (y2.toInt)))]) (as := [h0, h5, h10]) (zcV (q0 := 2) (ci := 8) (As := [.int y2, .ref h5]) (rest := []) (Tc := [(h0, ob 8 [.int h0f0, .int h0f1, .int h0f2, .int h0f3, .int h0f4, .int h0f5, .ref h1, .ref h2, .int h0f8, .int h0f9, .ref h3, .ref h4, .ref h5, .ref h6, .ref h7, .ref h8, .ref h9, .int h0f17, .int h0f18, .int h0f19, .ref h10, .ref h11, .ref h12, .ref h13, .int h0f24, .int h0f25, .ref h14, .ref h15, .ref h16, .ref h17, .int h0f30, .int h0f31, .ref h18, .ref h19, .ref h20, .ref h21]), (h5, aJ (k 1) 9 anJ), (h10, aJ (k 1) 900 (lsP (h0f9.toInt)))]) hx hb hml hown hU hK hT rfl rfl [2, 0, 1] rfl (by decide) (cX11_takesElement_1ccf7 l D k _ h0 h5 h10 h1 h2 h3 h4 h6 h7 h8 h9 h11 h12 h13 h14 h15 h16 h17 h18 h19 h20 h21 y2 h0f0 h0f1 h0f2 h0f3 h0f4 h0f5 h0f8 h0f9 h0f17 h0f18 h0f19 h0f24 h0f25 h0f30 h0f31 (by omega) (by omega) (by omega) (by omega) (by omega) (by omega) (by omega) (by omega) (by omega) (by omega) (by omega) (by omega) (by omega) (by omega) (by omega) (by omega)) w1047 w1044 w1046 w49 w72 hdX11_takesElement ⟨rfl, rfl⟩ ⟨Nat.le_of_ble_eq_true rfl, Nat.le_of_ble_eq_true rfl⟩ rfl hl.1 (Nat.le_of_ble_eq_true rfl) dX11_findForm_26 ⟨Nat.le_of_ble_eq_true rfl, Nat.le_of_ble_eq_true rfl⟩) hT hS hA [2, 0, 1] [3] rfl rfl rfl (by decide) (by decide) (fun H locs hB J hS => ?_)
          have hT1 := hB
          have hT := J _ hT1
          have hT : TP D A [(h4, aJ (k 1) 9 (oP (y3.toInt) (y2.toInt))), (h0, ob 8 [.int h0f0, .int h0f1, .int h0f2, .int h0f3, .int h0f4, .int h0f5, .ref h1, .ref h2, .int h0f8, .int h0f9, .ref h3, .ref h4, .ref h5, .ref h6, .ref h7, .ref h8, .ref h9, .int h0f17, .int h0f18, .int h0f19, .ref h10, .ref h11, .ref h12, .ref h13, .int h0f24, .int h0f25, .ref h14, .ref h15, .ref h16, .ref h17, .int h0f30, .int h0f31, .ref h18, .ref h19, .ref h20, .ref h21]), (h5, aJ (k 1) 9 (b9P )), (h10, aJ (k 1) 900 (lsP (h0f9.toInt)))] _ := hT
          refine lv_iconst (v := 0) hx hb dX11_findForm_29 (by decide) ?_
          refine lv_istore_n (lv' := [(3, .int 0), (0, .ref h0), (1, .int y3), (2, .int y2)]) hx hb dX11_findForm_30 rfl hl (by decide) rfl (fun ls hl => ?_)
          have hT := hT.wk (q := 0) (P' := aJ (k 1) 9 (oP (y3.toInt) (y2.toInt + (0 : Int32).toInt))) rfl (cv_o_o (by have := li_0; omega))
          have hT : TP D A [(h4, aJ (k 1) 9 (oP (y3.toInt) (y2.toInt + (0 : Int32).toInt))), (h0, ob 8 [.int h0f0, .int h0f1, .int h0f2, .int h0f3, .int h0f4, .int h0f5, .ref h1, .ref h2, .int h0f8, .int h0f9, .ref h3, .ref h4, .ref h5, .ref h6, .ref h7, .ref h8, .ref h9, .int h0f17, .int h0f18, .int h0f19, .ref h10, .ref h11, .ref h12, .ref h13, .int h0f24, .int h0f25, .ref h14, .ref h15, .ref h16, .ref h17, .int h0f30, .int h0f31, .ref h18, .ref h19, .ref h20, .ref h21]), (h5, aJ (k 1) 9 (b9P )), (h10, aJ (k 1) 900 (lsP (h0f9.toInt)))] _ := hT
          have lp31_232 : ∀ (n : Nat) (y230 : Int32) (y231 : Int32) (H : Heap) (locs : List Loc) (ls : Array Slot), (0 ≤ y230.toInt ∧ y230.toInt ≤ 3) → (0 ≤ y231.toInt ∧ y231.toInt ≤ 1) → (h0f0.toInt + (-1) * y230.toInt + 1).toNat < n → TP D A [(h4, aJ (k 1) 9 (oP (y231.toInt) (y2.toInt + y230.toInt))), (h0, ob 8 [.int h0f0, .int h0f1, .int h0f2, .int h0f3, .int h0f4, .int h0f5, .ref h1, .ref h2, .int h0f8, .int h0f9, .ref h3, .ref h4, .ref h5, .ref h6, .ref h7, .ref h8, .ref h9, .int h0f17, .int h0f18, .int h0f19, .ref h10, .ref h11, .ref h12, .ref h13, .int h0f24, .int h0f25, .ref h14, .ref h15, .ref h16, .ref h17, .int h0f30, .int h0f31, .ref h18, .ref h19, .ref h20, .ref h21]), (h5, aJ (k 1) 9 (b9P )), (h10, aJ (k 1) 900 (lsP (h0f9.toInt)))] H → va_S A s.heap H locs → lv_has ls 9 [(0, .ref h0), (1, .int y231), (2, .int y2), (3, .int y230)] → W p l e Rm_cX11_findForm_b515d s m args below meth c H locs 0 0 Q (F0 m 31 ls []) := by
            intro n
            induction n with
            | zero => intro y230 y231 H locs ls b_y230 b_y231 hm hT hS hl; exact absurd hm (Nat.not_lt_zero _)
            | succ n ih =>
              intro y230 y231 H locs ls b_y230 b_y231 hm hT hS hl
              have ih31_232 := ih
              clear ih
              refine lv_iload_n hx hb dX11_findForm_31 rfl (lv_at hl 3 rfl) ?_
              refine lv_aload_n hx hb dX11_findForm_32 rfl (lv_at hl 0 rfl) ?_
              refine tz_get (ci := 8) (v := .int h0f0) (C := RX11) (F := TX11) (N := 36) hx hb hU iX11 hown hK hT 1 rfl rfl 0 (by decide) w785 (fun _ h9 => h9) rfl dX11_findForm_33 ?_
              refine lv_icmp_ge (tgt := 215) hx hb dX11_findForm_36 (by decide) (fun c_233 => ?_) (fun c_233 => ?_)
              · skip
                have c_233 := ni_le c_233 rfl rfl
                obtain ⟨v234, e_v234⟩ : ∃ x : Int32, x = y2 + Int32.ofInt 1 := ⟨_, rfl⟩
                have f_v234 := e_v234.symm
                have e_v234 : v234.toInt = y2.toInt + 1 := ai_add e_v234 rfl (show (Int32.ofInt 1).toInt = 1 from (by decide +kernel)) (by omega)
                refine lv_iinc (v := v234) (lv' := [(2, .int v234), (0, .ref h0), (1, .int y231), (3, .int y230)]) hx hb dX11_findForm_215 hl (k := 2) rfl f_v234 (by decide) rfl (fun ls hl => ?_)
                refine lv_goto (tgt := 12) hx hb dX11_findForm_218 (by decide) ?_
                have hT := hT.wk (q := 0) (P' := aJ (k 1) 9 (oP (y231.toInt) (v234.toInt))) rfl (cv_o_o (by omega))
                have hT : TP D A [(h4, aJ (k 1) 9 (oP (y231.toInt) (v234.toInt))), (h0, ob 8 [.int h0f0, .int h0f1, .int h0f2, .int h0f3, .int h0f4, .int h0f5, .ref h1, .ref h2, .int h0f8, .int h0f9, .ref h3, .ref h4, .ref h5, .ref h6, .ref h7, .ref h8, .ref h9, .int h0f17, .int h0f18, .int h0f19, .ref h10, .ref h11, .ref h12, .ref h13, .int h0f24, .int h0f25, .ref h14, .ref h15, .ref h16, .ref h17, .int h0f30, .int h0f31, .ref h18, .ref h19, .ref h20, .ref h21]), (h5, aJ (k 1) 9 (b9P )), (h10, aJ (k 1) 900 (lsP (h0f9.toInt)))] _ := hT
                have hT := hT.wk (q := 2) (P' := aJ (k 1) 9 anJ) rfl (an_J)
                have hT : TP D A [(h4, aJ (k 1) 9 (oP (y231.toInt) (v234.toInt))), (h0, ob 8 [.int h0f0, .int h0f1, .int h0f2, .int h0f3, .int h0f4, .int h0f5, .ref h1, .ref h2, .int h0f8, .int h0f9, .ref h3, .ref h4, .ref h5, .ref h6, .ref h7, .ref h8, .ref h9, .int h0f17, .int h0f18, .int h0f19, .ref h10, .ref h11, .ref h12, .ref h13, .int h0f24, .int h0f25, .ref h14, .ref h15, .ref h16, .ref h17, .int h0f30, .int h0f31, .ref h18, .ref h19, .ref h20, .ref h21]), (h5, aJ (k 1) 9 anJ), (h10, aJ (k 1) 900 (lsP (h0f9.toInt)))] _ := hT
                exact ih12_4 v234 y231 _ _ _ (by omega) (by omega)  (by omega) (hT.sub [2, 3, 1, 0] (by decide) rfl) hS (lv_sub hl [1, 2, 0] rfl)
              · skip
                have c_233 := ni_nle c_233 rfl rfl
                refine lv_iconst (v := 0) hx hb dX11_findForm_39 (by decide) ?_
                refine lv_istore (lv' := [(4, .int 0), (0, .ref h0), (1, .int y231), (2, .int y2), (3, .int y230)]) hx hb dX11_findForm_40 hl (by decide) rfl (fun ls hl => ?_)
                have hT := hT.wk (q := 0) (P' := aJ (k 1) 9 (oP (y231.toInt) (y2.toInt + y230.toInt + (0 : Int32).toInt))) rfl (cv_o_o (by have := li_0; omega))
                have hT : TP D A [(h4, aJ (k 1) 9 (oP (y231.toInt) (y2.toInt + y230.toInt + (0 : Int32).toInt))), (h0, ob 8 [.int h0f0, .int h0f1, .int h0f2, .int h0f3, .int h0f4, .int h0f5, .ref h1, .ref h2, .int h0f8, .int h0f9, .ref h3, .ref h4, .ref h5, .ref h6, .ref h7, .ref h8, .ref h9, .int h0f17, .int h0f18, .int h0f19, .ref h10, .ref h11, .ref h12, .ref h13, .int h0f24, .int h0f25, .ref h14, .ref h15, .ref h16, .ref h17, .int h0f30, .int h0f31, .ref h18, .ref h19, .ref h20, .ref h21]), (h5, aJ (k 1) 9 (b9P )), (h10, aJ (k 1) 900 (lsP (h0f9.toInt)))] _ := hT
                have lp42_237 : ∀ (n : Nat) (y235 : Int32) (y236 : Int32) (H : Heap) (locs : List Loc) (ls : Array Slot), (0 ≤ y235.toInt ∧ y235.toInt ≤ 3) → (0 ≤ y236.toInt ∧ y236.toInt ≤ 1) → (h0f0.toInt + (-1) * y235.toInt + 1).toNat < n → TP D A [(h4, aJ (k 1) 9 (oP (y236.toInt) (y2.toInt + y230.toInt + y235.toInt))), (h0, ob 8 [.int h0f0, .int h0f1, .int h0f2, .int h0f3, .int h0f4, .int h0f5, .ref h1, .ref h2, .int h0f8, .int h0f9, .ref h3, .ref h4, .ref h5, .ref h6, .ref h7, .ref h8, .ref h9, .int h0f17, .int h0f18, .int h0f19, .ref h10, .ref h11, .ref h12, .ref h13, .int h0f24, .int h0f25, .ref h14, .ref h15, .ref h16, .ref h17, .int h0f30, .int h0f31, .ref h18, .ref h19, .ref h20, .ref h21]), (h5, aJ (k 1) 9 (b9P )), (h10, aJ (k 1) 900 (lsP (h0f9.toInt)))] H → va_S A s.heap H locs → lv_has ls 9 [(0, .ref h0), (1, .int y236), (2, .int y2), (3, .int y230), (4, .int y235)] → W p l e Rm_cX11_findForm_b515d s m args below meth c H locs 0 0 Q (F0 m 42 ls []) := by
                  intro n
                  induction n with
                  | zero => intro y235 y236 H locs ls b_y235 b_y236 hm hT hS hl; exact absurd hm (Nat.not_lt_zero _)
                  | succ n ih =>
                    intro y235 y236 H locs ls b_y235 b_y236 hm hT hS hl
                    have ih42_237 := ih
                    clear ih
                    refine lv_iload hx hb dX11_findForm_42 (lv_at hl 4 rfl) ?_
                    refine lv_aload_n hx hb dX11_findForm_44 rfl (lv_at hl 0 rfl) ?_
                    refine tz_get (ci := 8) (v := .int h0f0) (C := RX11) (F := TX11) (N := 36) hx hb hU iX11 hown hK hT 1 rfl rfl 0 (by decide) w785 (fun _ h9 => h9) rfl dX11_findForm_45 ?_
                    refine lv_icmp_ge (tgt := 209) hx hb dX11_findForm_48 (by decide) (fun c_238 => ?_) (fun c_238 => ?_)
                    · skip
                      have c_238 := ni_le c_238 rfl rfl
                      obtain ⟨v239, e_v239⟩ : ∃ x : Int32, x = y230 + Int32.ofInt 1 := ⟨_, rfl⟩
                      have f_v239 := e_v239.symm
                      have e_v239 : v239.toInt = y230.toInt + 1 := ai_add e_v239 rfl (show (Int32.ofInt 1).toInt = 1 from (by decide +kernel)) (by omega)
                      refine lv_iinc (v := v239) (lv' := [(3, .int v239), (0, .ref h0), (1, .int y236), (2, .int y2), (4, .int y235)]) hx hb dX11_findForm_209 hl (k := 3) rfl f_v239 (by decide) rfl (fun ls hl => ?_)
                      refine lv_goto (tgt := 31) hx hb dX11_findForm_212 (by decide) ?_
                      have hT := hT.wk (q := 0) (P' := aJ (k 1) 9 (oP (y236.toInt) (y2.toInt + v239.toInt))) rfl (cv_o_o (by omega))
                      have hT : TP D A [(h4, aJ (k 1) 9 (oP (y236.toInt) (y2.toInt + v239.toInt))), (h0, ob 8 [.int h0f0, .int h0f1, .int h0f2, .int h0f3, .int h0f4, .int h0f5, .ref h1, .ref h2, .int h0f8, .int h0f9, .ref h3, .ref h4, .ref h5, .ref h6, .ref h7, .ref h8, .ref h9, .int h0f17, .int h0f18, .int h0f19, .ref h10, .ref h11, .ref h12, .ref h13, .int h0f24, .int h0f25, .ref h14, .ref h15, .ref h16, .ref h17, .int h0f30, .int h0f31, .ref h18, .ref h19, .ref h20, .ref h21]), (h5, aJ (k 1) 9 (b9P )), (h10, aJ (k 1) 900 (lsP (h0f9.toInt)))] _ := hT
                      exact ih31_232 v239 y236 _ _ _ (by omega) (by omega)  (by omega) hT hS (lv_sub hl [1, 2, 3, 0] rfl)
                    · skip
                      have c_238 := ni_nle c_238 rfl rfl
                      rcases (show y230.toInt = 0 ∨ 1 ≤ y230.toInt by omega) with hz240 | hz240
                      · skip
                        rcases (show y235.toInt = 0 ∨ 1 ≤ y235.toInt by omega) with hz241 | hz241
                        · skip
                          refine lv_lconst (v := 0) hx hb dX11_findForm_51 (by decide) ?_
                          refine lv_lstore (lv' := [(5, .long 0), (0, .ref h0), (1, .int y236), (2, .int y2), (3, .int y230), (4, .int y235)]) hx hb dX11_findForm_52 hl (by decide) rfl (fun ls hl => ?_)
                          refine lv_iconst (v := 0) hx hb dX11_findForm_54 (by decide) ?_
                          refine lv_istore (lv' := [(7, .int 0), (5, .long 0), (0, .ref h0), (1, .int y236), (2, .int y2), (3, .int y230), (4, .int y235)]) hx hb dX11_findForm_55 hl (by decide) rfl (fun ls hl => ?_)
                          have lp57_244 : ∀ (n : Nat) (y242 : Int32) (y243 : Int64) (H : Heap) (locs : List Loc) (ls : Array Slot), (0 ≤ y242.toInt ∧ y242.toInt ≤ 3) → (0 ≤ y243.toInt ∧ y243.toInt ≤ 3000000000000000000) → (0 ≤ y243.toInt) → (y243.toInt ≤ 1000000000000000000 * y242.toInt) → (h0f0.toInt + (-1) * y242.toInt + 1).toNat < n → TP D A [(h4, aJ (k 1) 9 (oP (y236.toInt) (y2.toInt + y230.toInt + y235.toInt))), (h0, ob 8 [.int h0f0, .int h0f1, .int h0f2, .int h0f3, .int h0f4, .int h0f5, .ref h1, .ref h2, .int h0f8, .int h0f9, .ref h3, .ref h4, .ref h5, .ref h6, .ref h7, .ref h8, .ref h9, .int h0f17, .int h0f18, .int h0f19, .ref h10, .ref h11, .ref h12, .ref h13, .int h0f24, .int h0f25, .ref h14, .ref h15, .ref h16, .ref h17, .int h0f30, .int h0f31, .ref h18, .ref h19, .ref h20, .ref h21]), (h5, aJ (k 1) 9 (b9P )), (h10, aJ (k 1) 900 (lsP (h0f9.toInt)))] H → va_S A s.heap H locs → lv_has ls 9 [(0, .ref h0), (1, .int y236), (2, .int y2), (3, .int y230), (4, .int y235), (5, .long y243), (7, .int y242)] → W p l e Rm_cX11_findForm_b515d s m args below meth c H locs 0 0 Q (F0 m 57 ls []) := by
                            intro n
                            induction n with
                            | zero => intro y242 y243 H locs ls b_y242 b_y243 x_0 x_1 hm hT hS hl; exact absurd hm (Nat.not_lt_zero _)
                            | succ n ih =>
                              intro y242 y243 H locs ls b_y242 b_y243 x_0 x_1 hm hT hS hl
                              have ih57_244 := ih
                              clear ih
                              refine lv_iload hx hb dX11_findForm_57 (lv_at hl 6 rfl) ?_
                              refine lv_aload_n hx hb dX11_findForm_59 rfl (lv_at hl 0 rfl) ?_
                              refine tz_get (ci := 8) (v := .int h0f0) (C := RX11) (F := TX11) (N := 36) hx hb hU iX11 hown hK hT 1 rfl rfl 0 (by decide) w785 (fun _ h9 => h9) rfl dX11_findForm_60 ?_
                              refine lv_icmp_ge (tgt := 101) hx hb dX11_findForm_63 (by decide) (fun c_245 => ?_) (fun c_245 => ?_)
                              · skip
                                have c_245 := ni_le c_245 rfl rfl
                                refine lv_aload_n hx hb dX11_findForm_101 rfl (lv_at hl 0 rfl) ?_
                                refine tz_get (ci := 8) (v := .ref h4) (C := RX11) (F := TX11) (N := 36) hx hb hU iX11 hown hK hT 1 rfl rfl 11 (by decide) w796 (fun _ h9 => h9) rfl dX11_findForm_102 ?_
                                refine lv_iconst (v := 3) hx hb dX11_findForm_105 (by decide) ?_
                                refine lv_iload_n hx hb dX11_findForm_106 rfl (lv_at hl 3 rfl) ?_
                                refine lv_imul hx hb dX11_findForm_107 (lv_topi (fun v246 e_v246 => ?_))
                                have e_v246 := ai_mul e_v246 li_3 hz240 (by omega)
                                refine lv_iload hx hb dX11_findForm_108 (lv_at hl 4 rfl) ?_
                                have hq247 : v246.toInt = 0 := by omega
                                refine lv_iadd hx hb dX11_findForm_110 (lv_topi (fun v248 e_v248 => ?_))
                                have e_v248 := ai_add e_v248 hq247 hz241 (by omega)
                                refine tz_laldS hx hb hK hT 0 rfl (by omega) dX11_findForm_111 (fun v249 e_v249 hT => ?_)
                                have hT : TP D A [(h4, aJ (k 1) 9 (rdJ ((oP (y236.toInt) (y2.toInt + y230.toInt + y235.toInt))) (v248) (v249))), (h0, ob 8 [.int h0f0, .int h0f1, .int h0f2, .int h0f3, .int h0f4, .int h0f5, .ref h1, .ref h2, .int h0f8, .int h0f9, .ref h3, .ref h4, .ref h5, .ref h6, .ref h7, .ref h8, .ref h9, .int h0f17, .int h0f18, .int h0f19, .ref h10, .ref h11, .ref h12, .ref h13, .int h0f24, .int h0f25, .ref h14, .ref h15, .ref h16, .ref h17, .int h0f30, .int h0f31, .ref h18, .ref h19, .ref h20, .ref h21]), (h5, aJ (k 1) 9 (b9P )), (h10, aJ (k 1) 900 (lsP (h0f9.toInt)))] _ := hT
                                have e_v249 := o_get e_v249 (by omega)
                                refine lv_lload hx hb dX11_findForm_112 (lv_at hl 5 rfl) ?_
                                refine lv_ladd hx hb dX11_findForm_114 (lv_topl (fun v250 e_v250 => ?_))
                                refine lv_lstore (lv' := [(7, .long v250), (0, .ref h0), (1, .int y236), (2, .int y2), (3, .int y230), (4, .int y235), (5, .long y243)]) hx hb dX11_findForm_115 hl (by decide) rfl (fun ls hl => ?_)
                                refine lv_iload_n hx hb dX11_findForm_117 rfl (lv_at hl 2 rfl) ?_
                                refine lv_if_eq (tgt := 188) hx hb dX11_findForm_118 (by decide) (fun c_251 => ?_) (fun c_251 => ?_)
                                · skip
                                  have c_251 := ni_eq c_251 rfl li_0
                                  refine lv_iconst (v := 0) hx hb dX11_findForm_188 (by decide) ?_
                                  refine lv_istore_n (lv' := [(1, .int 0), (7, .long v250), (0, .ref h0), (2, .int y2), (3, .int y230), (4, .int y235), (5, .long y243)]) hx hb dX11_findForm_189 rfl hl (by decide) rfl (fun ls hl => ?_)
                                  refine lv_aload_n hx hb dX11_findForm_190 rfl (lv_at hl 2 rfl) ?_
                                  refine tz_get (ci := 8) (v := .ref h4) (C := RX11) (F := TX11) (N := 36) hx hb hU iX11 hown hK hT 1 rfl rfl 11 (by decide) w796 (fun _ h9 => h9) rfl dX11_findForm_191 ?_
                                  refine lv_iconst (v := 3) hx hb dX11_findForm_194 (by decide) ?_
                                  refine lv_iload_n hx hb dX11_findForm_195 rfl (lv_at hl 4 rfl) ?_
                                  refine lv_imul hx hb dX11_findForm_196 (lv_topi (fun v252 e_v252 => ?_))
                                  have e_v252 := ai_mul e_v252 li_3 hz240 (by omega)
                                  refine lv_iload hx hb dX11_findForm_197 (lv_at hl 5 rfl) ?_
                                  have hq253 : v252.toInt = 0 := by omega
                                  refine lv_iadd hx hb dX11_findForm_199 (lv_topi (fun v254 e_v254 => ?_))
                                  have e_v254 := ai_add e_v254 hq253 hz241 (by omega)
                                  refine lv_lload hx hb dX11_findForm_200 (lv_at hl 1 rfl) ?_
                                  refine tz_lastP hx hb hK hT hS 0 (oP ((0 : Int32).toInt) (y2.toInt + y230.toInt + y235.toInt + 1)) rfl (by omega) (o_putr (P := anJ) (by omega) (fun h => absurd h (by decide +kernel))) dX11_findForm_202 (fun H locs hT hS => ?_)
                                  have hT : TP D A [(h4, aJ (k 1) 9 (oP ((0 : Int32).toInt) (y2.toInt + y230.toInt + y235.toInt + 1))), (h0, ob 8 [.int h0f0, .int h0f1, .int h0f2, .int h0f3, .int h0f4, .int h0f5, .ref h1, .ref h2, .int h0f8, .int h0f9, .ref h3, .ref h4, .ref h5, .ref h6, .ref h7, .ref h8, .ref h9, .int h0f17, .int h0f18, .int h0f19, .ref h10, .ref h11, .ref h12, .ref h13, .int h0f24, .int h0f25, .ref h14, .ref h15, .ref h16, .ref h17, .int h0f30, .int h0f31, .ref h18, .ref h19, .ref h20, .ref h21]), (h5, aJ (k 1) 9 (b9P )), (h10, aJ (k 1) 900 (lsP (h0f9.toInt)))] _ := hT
                                  obtain ⟨v255, e_v255⟩ : ∃ x : Int32, x = y235 + Int32.ofInt 1 := ⟨_, rfl⟩
                                  have f_v255 := e_v255.symm
                                  have e_v255 : v255.toInt = 0 + 1 := ai_add e_v255 hz241 (show (Int32.ofInt 1).toInt = 1 from (by decide +kernel)) (by omega)
                                  refine lv_iinc (v := v255) (lv' := [(4, .int v255), (1, .int 0), (7, .long v250), (0, .ref h0), (2, .int y2), (3, .int y230), (5, .long y243)]) hx hb dX11_findForm_203 hl (k := 5) rfl f_v255 (by decide) rfl (fun ls hl => ?_)
                                  refine lv_goto (tgt := 42) hx hb dX11_findForm_206 (by decide) ?_
                                  have hT := hT.wk (q := 0) (P' := aJ (k 1) 9 (oP ((0 : Int32).toInt) (y2.toInt + y230.toInt + v255.toInt))) rfl (cv_o_o (by have := li_0; omega))
                                  have hT : TP D A [(h4, aJ (k 1) 9 (oP ((0 : Int32).toInt) (y2.toInt + y230.toInt + v255.toInt))), (h0, ob 8 [.int h0f0, .int h0f1, .int h0f2, .int h0f3, .int h0f4, .int h0f5, .ref h1, .ref h2, .int h0f8, .int h0f9, .ref h3, .ref h4, .ref h5, .ref h6, .ref h7, .ref h8, .ref h9, .int h0f17, .int h0f18, .int h0f19, .ref h10, .ref h11, .ref h12, .ref h13, .int h0f24, .int h0f25, .ref h14, .ref h15, .ref h16, .ref h17, .int h0f30, .int h0f31, .ref h18, .ref h19, .ref h20, .ref h21]), (h5, aJ (k 1) 9 (b9P )), (h10, aJ (k 1) 900 (lsP (h0f9.toInt)))] _ := hT
                                  exact ih42_237 v255 (0) _ _ _ (by have := li_0; omega) (by have := li_0; omega)  (by have := li_0; omega) hT hS (lv_sub hl [3, 1, 4, 5, 0] rfl)
                                · skip
                                  have c_251 := ni_ne c_251 rfl li_0
                                  refine lv_aload_n hx hb dX11_findForm_121 rfl (lv_at hl 1 rfl) ?_
                                  refine tz_get (ci := 8) (v := .ref h4) (C := RX11) (F := TX11) (N := 36) hx hb hU iX11 hown hK hT 1 rfl rfl 11 (by decide) w796 (fun _ h9 => h9) rfl dX11_findForm_122 ?_
                                  refine lv_iconst (v := 3) hx hb dX11_findForm_125 (by decide) ?_
                                  refine lv_iload_n hx hb dX11_findForm_126 rfl (lv_at hl 4 rfl) ?_
                                  refine lv_imul hx hb dX11_findForm_127 (lv_topi (fun v256 e_v256 => ?_))
                                  have e_v256 := ai_mul e_v256 li_3 hz240 (by omega)
                                  refine lv_iload hx hb dX11_findForm_128 (lv_at hl 5 rfl) ?_
                                  have hq257 : v256.toInt = 0 := by omega
                                  refine lv_iadd hx hb dX11_findForm_130 (lv_topi (fun v258 e_v258 => ?_))
                                  have e_v258 := ai_add e_v258 hq257 hz241 (by omega)
                                  refine tz_lald hx hb hK hT 0 rfl (by omega) dX11_findForm_131 (fun v259 e_v259 => ?_)
                                  have e_v259 := rd_same e_v259 (by omega)
                                  subst e_v259
                                  refine lv_lconst (v := 0) hx hb dX11_findForm_132 (by decide) ?_
                                  refine W.lcmp hx hb dX11_findForm_133 ?_
                                  refine lv_if_lt (tgt := 141) hx hb dX11_findForm_134 (by decide) (fun c_260 => ?_) (fun c_260 => ?_)
                                  · skip
                                    have c_260 := nl_lt c_260 rfl ll_0
                                    refine lv_iconst (v := 0) hx hb dX11_findForm_141 (by decide) ?_
                                    refine lv_lload hx hb dX11_findForm_142 (lv_at hl 6 rfl) ?_
                                    refine lv_lconst (v := 0) hx hb dX11_findForm_144 (by decide) ?_
                                    refine W.lcmp hx hb dX11_findForm_145 ?_
                                    refine lv_if_lt (tgt := 153) hx hb dX11_findForm_146 (by decide) (fun c_261 => ?_) (fun c_261 => ?_)
                                    · skip
                                      have c_261 := nl_lt c_261 rfl ll_0
                                      exfalso; omega
                                    · skip
                                      have c_261 := nl_nlt c_261 rfl ll_0
                                      refine lv_iconst (v := 1) hx hb dX11_findForm_149 (by decide) ?_
                                      refine lv_goto (tgt := 154) hx hb dX11_findForm_150 (by decide) ?_
                                      refine lv_icmp_ne (tgt := 184) hx hb dX11_findForm_154 (by decide) (fun _ => ?_) (fun cc => absurd cc (by decide +kernel))
                                      refine lv_iconst (v := 1) hx hb dX11_findForm_184 (by decide) ?_
                                      refine lv_goto (tgt := 189) hx hb dX11_findForm_185 (by decide) ?_
                                      refine lv_istore_n (lv' := [(1, .int 1), (7, .long v250), (0, .ref h0), (2, .int y2), (3, .int y230), (4, .int y235), (5, .long y243)]) hx hb dX11_findForm_189 rfl hl (by decide) rfl (fun ls hl => ?_)
                                      refine lv_aload_n hx hb dX11_findForm_190 rfl (lv_at hl 2 rfl) ?_
                                      refine tz_get (ci := 8) (v := .ref h4) (C := RX11) (F := TX11) (N := 36) hx hb hU iX11 hown hK hT 1 rfl rfl 11 (by decide) w796 (fun _ h9 => h9) rfl dX11_findForm_191 ?_
                                      refine lv_iconst (v := 3) hx hb dX11_findForm_194 (by decide) ?_
                                      refine lv_iload_n hx hb dX11_findForm_195 rfl (lv_at hl 4 rfl) ?_
                                      refine lv_imul hx hb dX11_findForm_196 (lv_topi (fun v262 e_v262 => ?_))
                                      have e_v262 := ai_mul e_v262 li_3 hz240 (by omega)
                                      refine lv_iload hx hb dX11_findForm_197 (lv_at hl 5 rfl) ?_
                                      have hq263 : v262.toInt = 0 := by omega
                                      refine lv_iadd hx hb dX11_findForm_199 (lv_topi (fun v264 e_v264 => ?_))
                                      have e_v264 := ai_add e_v264 hq263 hz241 (by omega)
                                      refine lv_lload hx hb dX11_findForm_200 (lv_at hl 1 rfl) ?_
                                      refine tz_lastP hx hb hK hT hS 0 (oP ((1 : Int32).toInt) (y2.toInt + y230.toInt + y235.toInt + 1)) rfl (by omega) (o_putr (P := anJ) (by omega) (fun _ => by have := al_addnn e_v250 (by omega) (by omega) (by omega); omega)) dX11_findForm_202 (fun H locs hT hS => ?_)
                                      have hT : TP D A [(h4, aJ (k 1) 9 (oP ((1 : Int32).toInt) (y2.toInt + y230.toInt + y235.toInt + 1))), (h0, ob 8 [.int h0f0, .int h0f1, .int h0f2, .int h0f3, .int h0f4, .int h0f5, .ref h1, .ref h2, .int h0f8, .int h0f9, .ref h3, .ref h4, .ref h5, .ref h6, .ref h7, .ref h8, .ref h9, .int h0f17, .int h0f18, .int h0f19, .ref h10, .ref h11, .ref h12, .ref h13, .int h0f24, .int h0f25, .ref h14, .ref h15, .ref h16, .ref h17, .int h0f30, .int h0f31, .ref h18, .ref h19, .ref h20, .ref h21]), (h5, aJ (k 1) 9 (b9P )), (h10, aJ (k 1) 900 (lsP (h0f9.toInt)))] _ := hT
                                      obtain ⟨v265, e_v265⟩ : ∃ x : Int32, x = y235 + Int32.ofInt 1 := ⟨_, rfl⟩
                                      have f_v265 := e_v265.symm
                                      have e_v265 : v265.toInt = 0 + 1 := ai_add e_v265 hz241 (show (Int32.ofInt 1).toInt = 1 from (by decide +kernel)) (by omega)
                                      refine lv_iinc (v := v265) (lv' := [(4, .int v265), (1, .int 1), (7, .long v250), (0, .ref h0), (2, .int y2), (3, .int y230), (5, .long y243)]) hx hb dX11_findForm_203 hl (k := 5) rfl f_v265 (by decide) rfl (fun ls hl => ?_)
                                      refine lv_goto (tgt := 42) hx hb dX11_findForm_206 (by decide) ?_
                                      have hT := hT.wk (q := 0) (P' := aJ (k 1) 9 (oP ((1 : Int32).toInt) (y2.toInt + y230.toInt + v265.toInt))) rfl (cv_o_o (by have := li_1; omega))
                                      have hT : TP D A [(h4, aJ (k 1) 9 (oP ((1 : Int32).toInt) (y2.toInt + y230.toInt + v265.toInt))), (h0, ob 8 [.int h0f0, .int h0f1, .int h0f2, .int h0f3, .int h0f4, .int h0f5, .ref h1, .ref h2, .int h0f8, .int h0f9, .ref h3, .ref h4, .ref h5, .ref h6, .ref h7, .ref h8, .ref h9, .int h0f17, .int h0f18, .int h0f19, .ref h10, .ref h11, .ref h12, .ref h13, .int h0f24, .int h0f25, .ref h14, .ref h15, .ref h16, .ref h17, .int h0f30, .int h0f31, .ref h18, .ref h19, .ref h20, .ref h21]), (h5, aJ (k 1) 9 (b9P )), (h10, aJ (k 1) 900 (lsP (h0f9.toInt)))] _ := hT
                                      exact ih42_237 v265 (1) _ _ _ (by have := li_1; omega) (by have := li_1; omega)  (by have := li_1; omega) hT hS (lv_sub hl [3, 1, 4, 5, 0] rfl)
                                  · skip
                                    have c_260 := nl_nlt c_260 rfl ll_0
                                    refine lv_iconst (v := 1) hx hb dX11_findForm_137 (by decide) ?_
                                    refine lv_goto (tgt := 142) hx hb dX11_findForm_138 (by decide) ?_
                                    refine lv_lload hx hb dX11_findForm_142 (lv_at hl 6 rfl) ?_
                                    refine lv_lconst (v := 0) hx hb dX11_findForm_144 (by decide) ?_
                                    refine W.lcmp hx hb dX11_findForm_145 ?_
                                    refine lv_if_lt (tgt := 153) hx hb dX11_findForm_146 (by decide) (fun c_266 => ?_) (fun c_266 => ?_)
                                    · skip
                                      have c_266 := nl_lt c_266 rfl ll_0
                                      exfalso; omega
                                    · skip
                                      have c_266 := nl_nlt c_266 rfl ll_0
                                      refine lv_iconst (v := 1) hx hb dX11_findForm_149 (by decide) ?_
                                      refine lv_goto (tgt := 154) hx hb dX11_findForm_150 (by decide) ?_
                                      refine lv_icmp_ne (tgt := 184) hx hb dX11_findForm_154 (by decide) (fun cc => absurd (by decide +kernel) cc) (fun _ => ?_)
                                      refine lv_lload hx hb dX11_findForm_157 (lv_at hl 0 rfl) ?_
                                      refine lv_lconst (v := 0) hx hb dX11_findForm_159 (by decide) ?_
                                      refine W.lcmp hx hb dX11_findForm_160 ?_
                                      refine lv_if_lt (tgt := 168) hx hb dX11_findForm_161 (by decide) (fun c_267 => ?_) (fun c_267 => ?_)
                                      · skip
                                        have c_267 := nl_lt c_267 rfl ll_0
                                        refine lv_iconst (v := 0) hx hb dX11_findForm_168 (by decide) ?_
                                        refine lv_lload hx hb dX11_findForm_169 (lv_at hl 6 rfl) ?_
                                        refine lv_lconst (v := 0) hx hb dX11_findForm_171 (by decide) ?_
                                        refine W.lcmp hx hb dX11_findForm_172 ?_
                                        refine lv_if_lt (tgt := 180) hx hb dX11_findForm_173 (by decide) (fun c_268 => ?_) (fun c_268 => ?_)
                                        · skip
                                          have c_268 := nl_lt c_268 rfl ll_0
                                          exfalso; omega
                                        · skip
                                          have c_268 := nl_nlt c_268 rfl ll_0
                                          refine lv_iconst (v := 1) hx hb dX11_findForm_176 (by decide) ?_
                                          refine lv_goto (tgt := 181) hx hb dX11_findForm_177 (by decide) ?_
                                          refine lv_icmp_ne (tgt := 188) hx hb dX11_findForm_181 (by decide) (fun _ => ?_) (fun cc => absurd cc (by decide +kernel))
                                          refine lv_iconst (v := 0) hx hb dX11_findForm_188 (by decide) ?_
                                          refine lv_istore_n (lv' := [(1, .int 0), (7, .long v250), (0, .ref h0), (2, .int y2), (3, .int y230), (4, .int y235), (5, .long y243)]) hx hb dX11_findForm_189 rfl hl (by decide) rfl (fun ls hl => ?_)
                                          refine lv_aload_n hx hb dX11_findForm_190 rfl (lv_at hl 2 rfl) ?_
                                          refine tz_get (ci := 8) (v := .ref h4) (C := RX11) (F := TX11) (N := 36) hx hb hU iX11 hown hK hT 1 rfl rfl 11 (by decide) w796 (fun _ h9 => h9) rfl dX11_findForm_191 ?_
                                          refine lv_iconst (v := 3) hx hb dX11_findForm_194 (by decide) ?_
                                          refine lv_iload_n hx hb dX11_findForm_195 rfl (lv_at hl 4 rfl) ?_
                                          refine lv_imul hx hb dX11_findForm_196 (lv_topi (fun v269 e_v269 => ?_))
                                          have e_v269 := ai_mul e_v269 li_3 hz240 (by omega)
                                          refine lv_iload hx hb dX11_findForm_197 (lv_at hl 5 rfl) ?_
                                          have hq270 : v269.toInt = 0 := by omega
                                          refine lv_iadd hx hb dX11_findForm_199 (lv_topi (fun v271 e_v271 => ?_))
                                          have e_v271 := ai_add e_v271 hq270 hz241 (by omega)
                                          refine lv_lload hx hb dX11_findForm_200 (lv_at hl 1 rfl) ?_
                                          refine tz_lastP hx hb hK hT hS 0 (oP ((0 : Int32).toInt) (y2.toInt + y230.toInt + y235.toInt + 1)) rfl (by omega) (o_putr (P := anJ) (by omega) (fun h => absurd h (by decide +kernel))) dX11_findForm_202 (fun H locs hT hS => ?_)
                                          have hT : TP D A [(h4, aJ (k 1) 9 (oP ((0 : Int32).toInt) (y2.toInt + y230.toInt + y235.toInt + 1))), (h0, ob 8 [.int h0f0, .int h0f1, .int h0f2, .int h0f3, .int h0f4, .int h0f5, .ref h1, .ref h2, .int h0f8, .int h0f9, .ref h3, .ref h4, .ref h5, .ref h6, .ref h7, .ref h8, .ref h9, .int h0f17, .int h0f18, .int h0f19, .ref h10, .ref h11, .ref h12, .ref h13, .int h0f24, .int h0f25, .ref h14, .ref h15, .ref h16, .ref h17, .int h0f30, .int h0f31, .ref h18, .ref h19, .ref h20, .ref h21]), (h5, aJ (k 1) 9 (b9P )), (h10, aJ (k 1) 900 (lsP (h0f9.toInt)))] _ := hT
                                          obtain ⟨v272, e_v272⟩ : ∃ x : Int32, x = y235 + Int32.ofInt 1 := ⟨_, rfl⟩
                                          have f_v272 := e_v272.symm
                                          have e_v272 : v272.toInt = 0 + 1 := ai_add e_v272 hz241 (show (Int32.ofInt 1).toInt = 1 from (by decide +kernel)) (by omega)
                                          refine lv_iinc (v := v272) (lv' := [(4, .int v272), (1, .int 0), (7, .long v250), (0, .ref h0), (2, .int y2), (3, .int y230), (5, .long y243)]) hx hb dX11_findForm_203 hl (k := 5) rfl f_v272 (by decide) rfl (fun ls hl => ?_)
                                          refine lv_goto (tgt := 42) hx hb dX11_findForm_206 (by decide) ?_
                                          have hT := hT.wk (q := 0) (P' := aJ (k 1) 9 (oP ((0 : Int32).toInt) (y2.toInt + y230.toInt + v272.toInt))) rfl (cv_o_o (by have := li_0; omega))
                                          have hT : TP D A [(h4, aJ (k 1) 9 (oP ((0 : Int32).toInt) (y2.toInt + y230.toInt + v272.toInt))), (h0, ob 8 [.int h0f0, .int h0f1, .int h0f2, .int h0f3, .int h0f4, .int h0f5, .ref h1, .ref h2, .int h0f8, .int h0f9, .ref h3, .ref h4, .ref h5, .ref h6, .ref h7, .ref h8, .ref h9, .int h0f17, .int h0f18, .int h0f19, .ref h10, .ref h11, .ref h12, .ref h13, .int h0f24, .int h0f25, .ref h14, .ref h15, .ref h16, .ref h17, .int h0f30, .int h0f31, .ref h18, .ref h19, .ref h20, .ref h21]), (h5, aJ (k 1) 9 (b9P )), (h10, aJ (k 1) 900 (lsP (h0f9.toInt)))] _ := hT
                                          exact ih42_237 v272 (0) _ _ _ (by have := li_0; omega) (by have := li_0; omega)  (by have := li_0; omega) hT hS (lv_sub hl [3, 1, 4, 5, 0] rfl)
                                      · skip
                                        have c_267 := nl_nlt c_267 rfl ll_0
                                        refine lv_iconst (v := 1) hx hb dX11_findForm_164 (by decide) ?_
                                        refine lv_goto (tgt := 169) hx hb dX11_findForm_165 (by decide) ?_
                                        refine lv_lload hx hb dX11_findForm_169 (lv_at hl 6 rfl) ?_
                                        refine lv_lconst (v := 0) hx hb dX11_findForm_171 (by decide) ?_
                                        refine W.lcmp hx hb dX11_findForm_172 ?_
                                        refine lv_if_lt (tgt := 180) hx hb dX11_findForm_173 (by decide) (fun c_273 => ?_) (fun c_273 => ?_)
                                        · skip
                                          have c_273 := nl_lt c_273 rfl ll_0
                                          exfalso; omega
                                        · skip
                                          have c_273 := nl_nlt c_273 rfl ll_0
                                          refine lv_iconst (v := 1) hx hb dX11_findForm_176 (by decide) ?_
                                          refine lv_goto (tgt := 181) hx hb dX11_findForm_177 (by decide) ?_
                                          refine lv_icmp_ne (tgt := 188) hx hb dX11_findForm_181 (by decide) (fun cc => absurd (by decide +kernel) cc) (fun _ => ?_)
                                          refine lv_iconst (v := 1) hx hb dX11_findForm_184 (by decide) ?_
                                          refine lv_goto (tgt := 189) hx hb dX11_findForm_185 (by decide) ?_
                                          refine lv_istore_n (lv' := [(1, .int 1), (7, .long v250), (0, .ref h0), (2, .int y2), (3, .int y230), (4, .int y235), (5, .long y243)]) hx hb dX11_findForm_189 rfl hl (by decide) rfl (fun ls hl => ?_)
                                          refine lv_aload_n hx hb dX11_findForm_190 rfl (lv_at hl 2 rfl) ?_
                                          refine tz_get (ci := 8) (v := .ref h4) (C := RX11) (F := TX11) (N := 36) hx hb hU iX11 hown hK hT 1 rfl rfl 11 (by decide) w796 (fun _ h9 => h9) rfl dX11_findForm_191 ?_
                                          refine lv_iconst (v := 3) hx hb dX11_findForm_194 (by decide) ?_
                                          refine lv_iload_n hx hb dX11_findForm_195 rfl (lv_at hl 4 rfl) ?_
                                          refine lv_imul hx hb dX11_findForm_196 (lv_topi (fun v274 e_v274 => ?_))
                                          have e_v274 := ai_mul e_v274 li_3 hz240 (by omega)
                                          refine lv_iload hx hb dX11_findForm_197 (lv_at hl 5 rfl) ?_
                                          have hq275 : v274.toInt = 0 := by omega
                                          refine lv_iadd hx hb dX11_findForm_199 (lv_topi (fun v276 e_v276 => ?_))
                                          have e_v276 := ai_add e_v276 hq275 hz241 (by omega)
                                          refine lv_lload hx hb dX11_findForm_200 (lv_at hl 1 rfl) ?_
                                          refine tz_lastP hx hb hK hT hS 0 (oP ((1 : Int32).toInt) (y2.toInt + y230.toInt + y235.toInt + 1)) rfl (by omega) (o_putr (P := anJ) (by omega) (fun _ => by have := al_addnn e_v250 (by omega) (by omega) (by omega); omega)) dX11_findForm_202 (fun H locs hT hS => ?_)
                                          have hT : TP D A [(h4, aJ (k 1) 9 (oP ((1 : Int32).toInt) (y2.toInt + y230.toInt + y235.toInt + 1))), (h0, ob 8 [.int h0f0, .int h0f1, .int h0f2, .int h0f3, .int h0f4, .int h0f5, .ref h1, .ref h2, .int h0f8, .int h0f9, .ref h3, .ref h4, .ref h5, .ref h6, .ref h7, .ref h8, .ref h9, .int h0f17, .int h0f18, .int h0f19, .ref h10, .ref h11, .ref h12, .ref h13, .int h0f24, .int h0f25, .ref h14, .ref h15, .ref h16, .ref h17, .int h0f30, .int h0f31, .ref h18, .ref h19, .ref h20, .ref h21]), (h5, aJ (k 1) 9 (b9P )), (h10, aJ (k 1) 900 (lsP (h0f9.toInt)))] _ := hT
                                          obtain ⟨v277, e_v277⟩ : ∃ x : Int32, x = y235 + Int32.ofInt 1 := ⟨_, rfl⟩
                                          have f_v277 := e_v277.symm
                                          have e_v277 : v277.toInt = 0 + 1 := ai_add e_v277 hz241 (show (Int32.ofInt 1).toInt = 1 from (by decide +kernel)) (by omega)
                                          refine lv_iinc (v := v277) (lv' := [(4, .int v277), (1, .int 1), (7, .long v250), (0, .ref h0), (2, .int y2), (3, .int y230), (5, .long y243)]) hx hb dX11_findForm_203 hl (k := 5) rfl f_v277 (by decide) rfl (fun ls hl => ?_)
                                          refine lv_goto (tgt := 42) hx hb dX11_findForm_206 (by decide) ?_
                                          have hT := hT.wk (q := 0) (P' := aJ (k 1) 9 (oP ((1 : Int32).toInt) (y2.toInt + y230.toInt + v277.toInt))) rfl (cv_o_o (by have := li_1; omega))
                                          have hT : TP D A [(h4, aJ (k 1) 9 (oP ((1 : Int32).toInt) (y2.toInt + y230.toInt + v277.toInt))), (h0, ob 8 [.int h0f0, .int h0f1, .int h0f2, .int h0f3, .int h0f4, .int h0f5, .ref h1, .ref h2, .int h0f8, .int h0f9, .ref h3, .ref h4, .ref h5, .ref h6, .ref h7, .ref h8, .ref h9, .int h0f17, .int h0f18, .int h0f19, .ref h10, .ref h11, .ref h12, .ref h13, .int h0f24, .int h0f25, .ref h14, .ref h15, .ref h16, .ref h17, .int h0f30, .int h0f31, .ref h18, .ref h19, .ref h20, .ref h21]), (h5, aJ (k 1) 9 (b9P )), (h10, aJ (k 1) 900 (lsP (h0f9.toInt)))] _ := hT
                                          exact ih42_237 v277 (1) _ _ _ (by have := li_1; omega) (by have := li_1; omega)  (by have := li_1; omega) hT hS (lv_sub hl [3, 1, 4, 5, 0] rfl)
                              · skip
                                have c_245 := ni_nle c_245 rfl rfl
                                refine lv_lload hx hb dX11_findForm_66 (lv_at hl 5 rfl) ?_
                                refine lv_aload_n hx hb dX11_findForm_68 rfl (lv_at hl 0 rfl) ?_
                                refine tz_get (ci := 8) (v := .ref h5) (C := RX11) (F := TX11) (N := 36) hx hb hU iX11 hown hK hT 1 rfl rfl 12 (by decide) w797 (fun _ h9 => h9) rfl dX11_findForm_69 ?_
                                refine lv_iconst (v := 3) hx hb dX11_findForm_72 (by decide) ?_
                                refine lv_iload hx hb dX11_findForm_73 (lv_at hl 6 rfl) ?_
                                refine lv_imul hx hb dX11_findForm_75 (lv_topi (fun v278 e_v278 => ?_))
                                have e_v278 := ai_mul e_v278 li_3 rfl (by omega)
                                refine lv_iload_n hx hb dX11_findForm_76 rfl (lv_at hl 3 rfl) ?_
                                refine lv_iadd hx hb dX11_findForm_77 (lv_topi (fun v279 e_v279 => ?_))
                                have e_v279 := ai_add e_v279 rfl hz240 (by omega)
                                refine tz_laldS hx hb hK hT 2 rfl (by omega) dX11_findForm_78 (fun v280 e_v280 hT => ?_)
                                have hT : TP D A [(h4, aJ (k 1) 9 (oP (y236.toInt) (y2.toInt + y230.toInt + y235.toInt))), (h0, ob 8 [.int h0f0, .int h0f1, .int h0f2, .int h0f3, .int h0f4, .int h0f5, .ref h1, .ref h2, .int h0f8, .int h0f9, .ref h3, .ref h4, .ref h5, .ref h6, .ref h7, .ref h8, .ref h9, .int h0f17, .int h0f18, .int h0f19, .ref h10, .ref h11, .ref h12, .ref h13, .int h0f24, .int h0f25, .ref h14, .ref h15, .ref h16, .ref h17, .int h0f30, .int h0f31, .ref h18, .ref h19, .ref h20, .ref h21]), (h5, aJ (k 1) 9 (rdJ ((b9P )) (v279) (v280))), (h10, aJ (k 1) 900 (lsP (h0f9.toInt)))] _ := hT
                                have e_v280 := b9_get e_v280 (by omega)
                                refine lv_aload_n hx hb dX11_findForm_79 rfl (lv_at hl 0 rfl) ?_
                                refine tz_get (ci := 8) (v := .ref h5) (C := RX11) (F := TX11) (N := 36) hx hb hU iX11 hown hK hT 1 rfl rfl 12 (by decide) w797 (fun _ h9 => h9) rfl dX11_findForm_80 ?_
                                refine lv_iconst (v := 3) hx hb dX11_findForm_83 (by decide) ?_
                                refine lv_iload hx hb dX11_findForm_84 (lv_at hl 6 rfl) ?_
                                refine lv_imul hx hb dX11_findForm_86 (lv_topi (fun v281 e_v281 => ?_))
                                have e_v281 := ai_mul e_v281 li_3 rfl (by omega)
                                refine lv_iload hx hb dX11_findForm_87 (lv_at hl 4 rfl) ?_
                                refine lv_iadd hx hb dX11_findForm_89 (lv_topi (fun v282 e_v282 => ?_))
                                have e_v282 := ai_add e_v282 rfl hz241 (by omega)
                                refine tz_lald hx hb hK hT 2 rfl (by omega) dX11_findForm_90 (fun v283 e_v283 => ?_)
                                have e_v283 := rd_same e_v283 (by omega)
                                subst e_v283
                                have hT := hT.wk (q := 2) (P' := aJ (k 1) 9 (b9P )) rfl cv_rd
                                have hT : TP D A [(h4, aJ (k 1) 9 (oP (y236.toInt) (y2.toInt + y230.toInt + y235.toInt))), (h0, ob 8 [.int h0f0, .int h0f1, .int h0f2, .int h0f3, .int h0f4, .int h0f5, .ref h1, .ref h2, .int h0f8, .int h0f9, .ref h3, .ref h4, .ref h5, .ref h6, .ref h7, .ref h8, .ref h9, .int h0f17, .int h0f18, .int h0f19, .ref h10, .ref h11, .ref h12, .ref h13, .int h0f24, .int h0f25, .ref h14, .ref h15, .ref h16, .ref h17, .int h0f30, .int h0f31, .ref h18, .ref h19, .ref h20, .ref h21]), (h5, aJ (k 1) 9 (b9P )), (h10, aJ (k 1) 900 (lsP (h0f9.toInt)))] _ := hT
                                refine lv_lmul hx hb dX11_findForm_91 (lv_topl (fun v284 e_v284 => ?_))
                                have e_v284 := al_sq e_v284 (by omega)
                                refine lv_ladd hx hb dX11_findForm_92 (lv_topl (fun v285 e_v285 => ?_))
                                have e_v285 := al_add e_v285 rfl rfl (by omega)
                                refine lv_lstore (lv' := [(5, .long v285), (0, .ref h0), (1, .int y236), (2, .int y2), (3, .int y230), (4, .int y235), (7, .int y242)]) hx hb dX11_findForm_93 hl (by decide) rfl (fun ls hl => ?_)
                                obtain ⟨v286, e_v286⟩ : ∃ x : Int32, x = y242 + Int32.ofInt 1 := ⟨_, rfl⟩
                                have f_v286 := e_v286.symm
                                have e_v286 : v286.toInt = y242.toInt + 1 := ai_add e_v286 rfl (show (Int32.ofInt 1).toInt = 1 from (by decide +kernel)) (by omega)
                                refine lv_iinc (v := v286) (lv' := [(7, .int v286), (5, .long v285), (0, .ref h0), (1, .int y236), (2, .int y2), (3, .int y230), (4, .int y235)]) hx hb dX11_findForm_95 hl (k := 6) rfl f_v286 (by decide) rfl (fun ls hl => ?_)
                                refine lv_goto (tgt := 57) hx hb dX11_findForm_98 (by decide) ?_
                                exact ih57_244 v286 v285 _ _ _ (by omega) (by omega) (by omega) (by omega) (by omega) hT hS (lv_sub hl [2, 3, 4, 5, 6, 1, 0] rfl)
                          exact lp57_244 ((h0f0.toInt + (-1) * (0 : Int32).toInt + 1).toNat + 1) (0) (0) _ _ _ (by have := li_0; have := ll_0; omega) (by have := li_0; have := ll_0; omega) (by have := li_0; have := ll_0; omega) (by have := li_0; have := ll_0; omega) (Nat.lt_succ_self _) hT hS (lv_sub hl [2, 3, 4, 5, 6, 1, 0] rfl)
                        · skip
                          refine lv_lconst (v := 0) hx hb dX11_findForm_51 (by decide) ?_
                          refine lv_lstore (lv' := [(5, .long 0), (0, .ref h0), (1, .int y236), (2, .int y2), (3, .int y230), (4, .int y235)]) hx hb dX11_findForm_52 hl (by decide) rfl (fun ls hl => ?_)
                          refine lv_iconst (v := 0) hx hb dX11_findForm_54 (by decide) ?_
                          refine lv_istore (lv' := [(7, .int 0), (5, .long 0), (0, .ref h0), (1, .int y236), (2, .int y2), (3, .int y230), (4, .int y235)]) hx hb dX11_findForm_55 hl (by decide) rfl (fun ls hl => ?_)
                          have lp57_289 : ∀ (n : Nat) (y287 : Int32) (y288 : Int64) (H : Heap) (locs : List Loc) (ls : Array Slot), (0 ≤ y287.toInt ∧ y287.toInt ≤ 3) → (h0f0.toInt + (-1) * y287.toInt + 1).toNat < n → TP D A [(h4, aJ (k 1) 9 (oP (y236.toInt) (y2.toInt + y230.toInt + y235.toInt))), (h0, ob 8 [.int h0f0, .int h0f1, .int h0f2, .int h0f3, .int h0f4, .int h0f5, .ref h1, .ref h2, .int h0f8, .int h0f9, .ref h3, .ref h4, .ref h5, .ref h6, .ref h7, .ref h8, .ref h9, .int h0f17, .int h0f18, .int h0f19, .ref h10, .ref h11, .ref h12, .ref h13, .int h0f24, .int h0f25, .ref h14, .ref h15, .ref h16, .ref h17, .int h0f30, .int h0f31, .ref h18, .ref h19, .ref h20, .ref h21]), (h5, aJ (k 1) 9 (b9P )), (h10, aJ (k 1) 900 (lsP (h0f9.toInt)))] H → va_S A s.heap H locs → lv_has ls 9 [(0, .ref h0), (1, .int y236), (2, .int y2), (3, .int y230), (4, .int y235), (5, .long y288), (7, .int y287)] → W p l e Rm_cX11_findForm_b515d s m args below meth c H locs 0 0 Q (F0 m 57 ls []) := by
                            intro n
                            induction n with
                            | zero => intro y287 y288 H locs ls b_y287 hm hT hS hl; exact absurd hm (Nat.not_lt_zero _)
                            | succ n ih =>
                              intro y287 y288 H locs ls b_y287 hm hT hS hl
                              have ih57_289 := ih
                              clear ih
                              refine lv_iload hx hb dX11_findForm_57 (lv_at hl 6 rfl) ?_
                              refine lv_aload_n hx hb dX11_findForm_59 rfl (lv_at hl 0 rfl) ?_
                              refine tz_get (ci := 8) (v := .int h0f0) (C := RX11) (F := TX11) (N := 36) hx hb hU iX11 hown hK hT 1 rfl rfl 0 (by decide) w785 (fun _ h9 => h9) rfl dX11_findForm_60 ?_
                              refine lv_icmp_ge (tgt := 101) hx hb dX11_findForm_63 (by decide) (fun c_290 => ?_) (fun c_290 => ?_)
                              · skip
                                have c_290 := ni_le c_290 rfl rfl
                                refine lv_aload_n hx hb dX11_findForm_101 rfl (lv_at hl 0 rfl) ?_
                                refine tz_get (ci := 8) (v := .ref h4) (C := RX11) (F := TX11) (N := 36) hx hb hU iX11 hown hK hT 1 rfl rfl 11 (by decide) w796 (fun _ h9 => h9) rfl dX11_findForm_102 ?_
                                refine lv_iconst (v := 3) hx hb dX11_findForm_105 (by decide) ?_
                                refine lv_iload_n hx hb dX11_findForm_106 rfl (lv_at hl 3 rfl) ?_
                                refine lv_imul hx hb dX11_findForm_107 (lv_topi (fun v291 e_v291 => ?_))
                                have e_v291 := ai_mul e_v291 li_3 hz240 (by omega)
                                refine lv_iload hx hb dX11_findForm_108 (lv_at hl 4 rfl) ?_
                                have hq292 : v291.toInt = 0 := by omega
                                refine lv_iadd hx hb dX11_findForm_110 (lv_topi (fun v293 e_v293 => ?_))
                                have e_v293 := ai_add e_v293 hq292 rfl (by omega)
                                refine tz_lald hx hb hK hT 0 rfl (by omega) dX11_findForm_111 (fun v294 e_v294 => ?_)
                                clear e_v294
                                refine lv_lload hx hb dX11_findForm_112 (lv_at hl 5 rfl) ?_
                                refine lv_ladd hx hb dX11_findForm_114 (lv_topl (fun v295 e_v295 => ?_))
                                refine lv_lstore (lv' := [(7, .long v295), (0, .ref h0), (1, .int y236), (2, .int y2), (3, .int y230), (4, .int y235), (5, .long y288)]) hx hb dX11_findForm_115 hl (by decide) rfl (fun ls hl => ?_)
                                refine lv_iload_n hx hb dX11_findForm_117 rfl (lv_at hl 2 rfl) ?_
                                refine lv_if_eq (tgt := 188) hx hb dX11_findForm_118 (by decide) (fun c_296 => ?_) (fun c_296 => ?_)
                                · skip
                                  have c_296 := ni_eq c_296 rfl li_0
                                  refine lv_iconst (v := 0) hx hb dX11_findForm_188 (by decide) ?_
                                  refine lv_istore_n (lv' := [(1, .int 0), (7, .long v295), (0, .ref h0), (2, .int y2), (3, .int y230), (4, .int y235), (5, .long y288)]) hx hb dX11_findForm_189 rfl hl (by decide) rfl (fun ls hl => ?_)
                                  refine lv_aload_n hx hb dX11_findForm_190 rfl (lv_at hl 2 rfl) ?_
                                  refine tz_get (ci := 8) (v := .ref h4) (C := RX11) (F := TX11) (N := 36) hx hb hU iX11 hown hK hT 1 rfl rfl 11 (by decide) w796 (fun _ h9 => h9) rfl dX11_findForm_191 ?_
                                  refine lv_iconst (v := 3) hx hb dX11_findForm_194 (by decide) ?_
                                  refine lv_iload_n hx hb dX11_findForm_195 rfl (lv_at hl 4 rfl) ?_
                                  refine lv_imul hx hb dX11_findForm_196 (lv_topi (fun v297 e_v297 => ?_))
                                  have e_v297 := ai_mul e_v297 li_3 hz240 (by omega)
                                  refine lv_iload hx hb dX11_findForm_197 (lv_at hl 5 rfl) ?_
                                  have hq298 : v297.toInt = 0 := by omega
                                  refine lv_iadd hx hb dX11_findForm_199 (lv_topi (fun v299 e_v299 => ?_))
                                  have e_v299 := ai_add e_v299 hq298 rfl (by omega)
                                  refine lv_lload hx hb dX11_findForm_200 (lv_at hl 1 rfl) ?_
                                  refine tz_lastP hx hb hK hT hS 0 (oP ((0 : Int32).toInt) (y2.toInt + y230.toInt + y235.toInt)) rfl (by omega) (o_putx (by omega) (by have := li_0; omega)) dX11_findForm_202 (fun H locs hT hS => ?_)
                                  have hT : TP D A [(h4, aJ (k 1) 9 (oP ((0 : Int32).toInt) (y2.toInt + y230.toInt + y235.toInt))), (h0, ob 8 [.int h0f0, .int h0f1, .int h0f2, .int h0f3, .int h0f4, .int h0f5, .ref h1, .ref h2, .int h0f8, .int h0f9, .ref h3, .ref h4, .ref h5, .ref h6, .ref h7, .ref h8, .ref h9, .int h0f17, .int h0f18, .int h0f19, .ref h10, .ref h11, .ref h12, .ref h13, .int h0f24, .int h0f25, .ref h14, .ref h15, .ref h16, .ref h17, .int h0f30, .int h0f31, .ref h18, .ref h19, .ref h20, .ref h21]), (h5, aJ (k 1) 9 (b9P )), (h10, aJ (k 1) 900 (lsP (h0f9.toInt)))] _ := hT
                                  obtain ⟨v300, e_v300⟩ : ∃ x : Int32, x = y235 + Int32.ofInt 1 := ⟨_, rfl⟩
                                  have f_v300 := e_v300.symm
                                  have e_v300 : v300.toInt = y235.toInt + 1 := ai_add e_v300 rfl (show (Int32.ofInt 1).toInt = 1 from (by decide +kernel)) (by omega)
                                  refine lv_iinc (v := v300) (lv' := [(4, .int v300), (1, .int 0), (7, .long v295), (0, .ref h0), (2, .int y2), (3, .int y230), (5, .long y288)]) hx hb dX11_findForm_203 hl (k := 5) rfl f_v300 (by decide) rfl (fun ls hl => ?_)
                                  refine lv_goto (tgt := 42) hx hb dX11_findForm_206 (by decide) ?_
                                  have hT := hT.wk (q := 0) (P' := aJ (k 1) 9 (oP ((0 : Int32).toInt) (y2.toInt + y230.toInt + v300.toInt))) rfl (cv_o_o (by have := li_0; omega))
                                  have hT : TP D A [(h4, aJ (k 1) 9 (oP ((0 : Int32).toInt) (y2.toInt + y230.toInt + v300.toInt))), (h0, ob 8 [.int h0f0, .int h0f1, .int h0f2, .int h0f3, .int h0f4, .int h0f5, .ref h1, .ref h2, .int h0f8, .int h0f9, .ref h3, .ref h4, .ref h5, .ref h6, .ref h7, .ref h8, .ref h9, .int h0f17, .int h0f18, .int h0f19, .ref h10, .ref h11, .ref h12, .ref h13, .int h0f24, .int h0f25, .ref h14, .ref h15, .ref h16, .ref h17, .int h0f30, .int h0f31, .ref h18, .ref h19, .ref h20, .ref h21]), (h5, aJ (k 1) 9 (b9P )), (h10, aJ (k 1) 900 (lsP (h0f9.toInt)))] _ := hT
                                  exact ih42_237 v300 (0) _ _ _ (by have := li_0; omega) (by have := li_0; omega)  (by have := li_0; omega) hT hS (lv_sub hl [3, 1, 4, 5, 0] rfl)
                                · skip
                                  have c_296 := ni_ne c_296 rfl li_0
                                  refine lv_aload_n hx hb dX11_findForm_121 rfl (lv_at hl 1 rfl) ?_
                                  refine tz_get (ci := 8) (v := .ref h4) (C := RX11) (F := TX11) (N := 36) hx hb hU iX11 hown hK hT 1 rfl rfl 11 (by decide) w796 (fun _ h9 => h9) rfl dX11_findForm_122 ?_
                                  refine lv_iconst (v := 3) hx hb dX11_findForm_125 (by decide) ?_
                                  refine lv_iload_n hx hb dX11_findForm_126 rfl (lv_at hl 4 rfl) ?_
                                  refine lv_imul hx hb dX11_findForm_127 (lv_topi (fun v301 e_v301 => ?_))
                                  have e_v301 := ai_mul e_v301 li_3 hz240 (by omega)
                                  refine lv_iload hx hb dX11_findForm_128 (lv_at hl 5 rfl) ?_
                                  have hq302 : v301.toInt = 0 := by omega
                                  refine lv_iadd hx hb dX11_findForm_130 (lv_topi (fun v303 e_v303 => ?_))
                                  have e_v303 := ai_add e_v303 hq302 rfl (by omega)
                                  refine tz_lald hx hb hK hT 0 rfl (by omega) dX11_findForm_131 (fun v304 e_v304 => ?_)
                                  clear e_v304
                                  refine lv_lconst (v := 0) hx hb dX11_findForm_132 (by decide) ?_
                                  refine W.lcmp hx hb dX11_findForm_133 ?_
                                  refine lv_if_lt (tgt := 141) hx hb dX11_findForm_134 (by decide) (fun c_305 => ?_) (fun c_305 => ?_)
                                  · skip
                                    have c_305 := nl_lt c_305 rfl ll_0
                                    refine lv_iconst (v := 0) hx hb dX11_findForm_141 (by decide) ?_
                                    refine lv_lload hx hb dX11_findForm_142 (lv_at hl 6 rfl) ?_
                                    refine lv_lconst (v := 0) hx hb dX11_findForm_144 (by decide) ?_
                                    refine W.lcmp hx hb dX11_findForm_145 ?_
                                    refine lv_if_lt (tgt := 153) hx hb dX11_findForm_146 (by decide) (fun c_306 => ?_) (fun c_306 => ?_)
                                    · skip
                                      have c_306 := nl_lt c_306 rfl ll_0
                                      refine lv_iconst (v := 0) hx hb dX11_findForm_153 (by decide) ?_
                                      refine lv_icmp_ne (tgt := 184) hx hb dX11_findForm_154 (by decide) (fun cc => absurd (by decide +kernel) cc) (fun _ => ?_)
                                      refine lv_lload hx hb dX11_findForm_157 (lv_at hl 0 rfl) ?_
                                      refine lv_lconst (v := 0) hx hb dX11_findForm_159 (by decide) ?_
                                      refine W.lcmp hx hb dX11_findForm_160 ?_
                                      refine lv_if_lt (tgt := 168) hx hb dX11_findForm_161 (by decide) (fun c_307 => ?_) (fun c_307 => ?_)
                                      · skip
                                        have c_307 := nl_lt c_307 rfl ll_0
                                        refine lv_iconst (v := 0) hx hb dX11_findForm_168 (by decide) ?_
                                        refine lv_lload hx hb dX11_findForm_169 (lv_at hl 6 rfl) ?_
                                        refine lv_lconst (v := 0) hx hb dX11_findForm_171 (by decide) ?_
                                        refine W.lcmp hx hb dX11_findForm_172 ?_
                                        refine lv_if_lt (tgt := 180) hx hb dX11_findForm_173 (by decide) (fun c_308 => ?_) (fun c_308 => ?_)
                                        · skip
                                          have c_308 := nl_lt c_308 rfl ll_0
                                          refine lv_iconst (v := 0) hx hb dX11_findForm_180 (by decide) ?_
                                          refine lv_icmp_ne (tgt := 188) hx hb dX11_findForm_181 (by decide) (fun cc => absurd (by decide +kernel) cc) (fun _ => ?_)
                                          refine lv_iconst (v := 1) hx hb dX11_findForm_184 (by decide) ?_
                                          refine lv_goto (tgt := 189) hx hb dX11_findForm_185 (by decide) ?_
                                          refine lv_istore_n (lv' := [(1, .int 1), (7, .long v295), (0, .ref h0), (2, .int y2), (3, .int y230), (4, .int y235), (5, .long y288)]) hx hb dX11_findForm_189 rfl hl (by decide) rfl (fun ls hl => ?_)
                                          refine lv_aload_n hx hb dX11_findForm_190 rfl (lv_at hl 2 rfl) ?_
                                          refine tz_get (ci := 8) (v := .ref h4) (C := RX11) (F := TX11) (N := 36) hx hb hU iX11 hown hK hT 1 rfl rfl 11 (by decide) w796 (fun _ h9 => h9) rfl dX11_findForm_191 ?_
                                          refine lv_iconst (v := 3) hx hb dX11_findForm_194 (by decide) ?_
                                          refine lv_iload_n hx hb dX11_findForm_195 rfl (lv_at hl 4 rfl) ?_
                                          refine lv_imul hx hb dX11_findForm_196 (lv_topi (fun v309 e_v309 => ?_))
                                          have e_v309 := ai_mul e_v309 li_3 hz240 (by omega)
                                          refine lv_iload hx hb dX11_findForm_197 (lv_at hl 5 rfl) ?_
                                          have hq310 : v309.toInt = 0 := by omega
                                          refine lv_iadd hx hb dX11_findForm_199 (lv_topi (fun v311 e_v311 => ?_))
                                          have e_v311 := ai_add e_v311 hq310 rfl (by omega)
                                          refine lv_lload hx hb dX11_findForm_200 (lv_at hl 1 rfl) ?_
                                          refine tz_lastP hx hb hK hT hS 0 (oP ((1 : Int32).toInt) (y2.toInt + y230.toInt + y235.toInt)) rfl (by omega) (o_putx (by omega) (by have := li_1; omega)) dX11_findForm_202 (fun H locs hT hS => ?_)
                                          have hT : TP D A [(h4, aJ (k 1) 9 (oP ((1 : Int32).toInt) (y2.toInt + y230.toInt + y235.toInt))), (h0, ob 8 [.int h0f0, .int h0f1, .int h0f2, .int h0f3, .int h0f4, .int h0f5, .ref h1, .ref h2, .int h0f8, .int h0f9, .ref h3, .ref h4, .ref h5, .ref h6, .ref h7, .ref h8, .ref h9, .int h0f17, .int h0f18, .int h0f19, .ref h10, .ref h11, .ref h12, .ref h13, .int h0f24, .int h0f25, .ref h14, .ref h15, .ref h16, .ref h17, .int h0f30, .int h0f31, .ref h18, .ref h19, .ref h20, .ref h21]), (h5, aJ (k 1) 9 (b9P )), (h10, aJ (k 1) 900 (lsP (h0f9.toInt)))] _ := hT
                                          obtain ⟨v312, e_v312⟩ : ∃ x : Int32, x = y235 + Int32.ofInt 1 := ⟨_, rfl⟩
                                          have f_v312 := e_v312.symm
                                          have e_v312 : v312.toInt = y235.toInt + 1 := ai_add e_v312 rfl (show (Int32.ofInt 1).toInt = 1 from (by decide +kernel)) (by omega)
                                          refine lv_iinc (v := v312) (lv' := [(4, .int v312), (1, .int 1), (7, .long v295), (0, .ref h0), (2, .int y2), (3, .int y230), (5, .long y288)]) hx hb dX11_findForm_203 hl (k := 5) rfl f_v312 (by decide) rfl (fun ls hl => ?_)
                                          refine lv_goto (tgt := 42) hx hb dX11_findForm_206 (by decide) ?_
                                          have hT := hT.wk (q := 0) (P' := aJ (k 1) 9 (oP ((1 : Int32).toInt) (y2.toInt + y230.toInt + v312.toInt))) rfl (cv_o_o (by have := li_1; omega))
                                          have hT : TP D A [(h4, aJ (k 1) 9 (oP ((1 : Int32).toInt) (y2.toInt + y230.toInt + v312.toInt))), (h0, ob 8 [.int h0f0, .int h0f1, .int h0f2, .int h0f3, .int h0f4, .int h0f5, .ref h1, .ref h2, .int h0f8, .int h0f9, .ref h3, .ref h4, .ref h5, .ref h6, .ref h7, .ref h8, .ref h9, .int h0f17, .int h0f18, .int h0f19, .ref h10, .ref h11, .ref h12, .ref h13, .int h0f24, .int h0f25, .ref h14, .ref h15, .ref h16, .ref h17, .int h0f30, .int h0f31, .ref h18, .ref h19, .ref h20, .ref h21]), (h5, aJ (k 1) 9 (b9P )), (h10, aJ (k 1) 900 (lsP (h0f9.toInt)))] _ := hT
                                          exact ih42_237 v312 (1) _ _ _ (by have := li_1; omega) (by have := li_1; omega)  (by have := li_1; omega) hT hS (lv_sub hl [3, 1, 4, 5, 0] rfl)
                                        · skip
                                          have c_308 := nl_nlt c_308 rfl ll_0
                                          exfalso; omega
                                      · skip
                                        have c_307 := nl_nlt c_307 rfl ll_0
                                        refine lv_iconst (v := 1) hx hb dX11_findForm_164 (by decide) ?_
                                        refine lv_goto (tgt := 169) hx hb dX11_findForm_165 (by decide) ?_
                                        refine lv_lload hx hb dX11_findForm_169 (lv_at hl 6 rfl) ?_
                                        refine lv_lconst (v := 0) hx hb dX11_findForm_171 (by decide) ?_
                                        refine W.lcmp hx hb dX11_findForm_172 ?_
                                        refine lv_if_lt (tgt := 180) hx hb dX11_findForm_173 (by decide) (fun c_313 => ?_) (fun c_313 => ?_)
                                        · skip
                                          have c_313 := nl_lt c_313 rfl ll_0
                                          refine lv_iconst (v := 0) hx hb dX11_findForm_180 (by decide) ?_
                                          refine lv_icmp_ne (tgt := 188) hx hb dX11_findForm_181 (by decide) (fun _ => ?_) (fun cc => absurd cc (by decide +kernel))
                                          refine lv_iconst (v := 0) hx hb dX11_findForm_188 (by decide) ?_
                                          refine lv_istore_n (lv' := [(1, .int 0), (7, .long v295), (0, .ref h0), (2, .int y2), (3, .int y230), (4, .int y235), (5, .long y288)]) hx hb dX11_findForm_189 rfl hl (by decide) rfl (fun ls hl => ?_)
                                          refine lv_aload_n hx hb dX11_findForm_190 rfl (lv_at hl 2 rfl) ?_
                                          refine tz_get (ci := 8) (v := .ref h4) (C := RX11) (F := TX11) (N := 36) hx hb hU iX11 hown hK hT 1 rfl rfl 11 (by decide) w796 (fun _ h9 => h9) rfl dX11_findForm_191 ?_
                                          refine lv_iconst (v := 3) hx hb dX11_findForm_194 (by decide) ?_
                                          refine lv_iload_n hx hb dX11_findForm_195 rfl (lv_at hl 4 rfl) ?_
                                          refine lv_imul hx hb dX11_findForm_196 (lv_topi (fun v314 e_v314 => ?_))
                                          have e_v314 := ai_mul e_v314 li_3 hz240 (by omega)
                                          refine lv_iload hx hb dX11_findForm_197 (lv_at hl 5 rfl) ?_
                                          have hq315 : v314.toInt = 0 := by omega
                                          refine lv_iadd hx hb dX11_findForm_199 (lv_topi (fun v316 e_v316 => ?_))
                                          have e_v316 := ai_add e_v316 hq315 rfl (by omega)
                                          refine lv_lload hx hb dX11_findForm_200 (lv_at hl 1 rfl) ?_
                                          refine tz_lastP hx hb hK hT hS 0 (oP ((0 : Int32).toInt) (y2.toInt + y230.toInt + y235.toInt)) rfl (by omega) (o_putx (by omega) (by have := li_0; omega)) dX11_findForm_202 (fun H locs hT hS => ?_)
                                          have hT : TP D A [(h4, aJ (k 1) 9 (oP ((0 : Int32).toInt) (y2.toInt + y230.toInt + y235.toInt))), (h0, ob 8 [.int h0f0, .int h0f1, .int h0f2, .int h0f3, .int h0f4, .int h0f5, .ref h1, .ref h2, .int h0f8, .int h0f9, .ref h3, .ref h4, .ref h5, .ref h6, .ref h7, .ref h8, .ref h9, .int h0f17, .int h0f18, .int h0f19, .ref h10, .ref h11, .ref h12, .ref h13, .int h0f24, .int h0f25, .ref h14, .ref h15, .ref h16, .ref h17, .int h0f30, .int h0f31, .ref h18, .ref h19, .ref h20, .ref h21]), (h5, aJ (k 1) 9 (b9P )), (h10, aJ (k 1) 900 (lsP (h0f9.toInt)))] _ := hT
                                          obtain ⟨v317, e_v317⟩ : ∃ x : Int32, x = y235 + Int32.ofInt 1 := ⟨_, rfl⟩
                                          have f_v317 := e_v317.symm
                                          have e_v317 : v317.toInt = y235.toInt + 1 := ai_add e_v317 rfl (show (Int32.ofInt 1).toInt = 1 from (by decide +kernel)) (by omega)
                                          refine lv_iinc (v := v317) (lv' := [(4, .int v317), (1, .int 0), (7, .long v295), (0, .ref h0), (2, .int y2), (3, .int y230), (5, .long y288)]) hx hb dX11_findForm_203 hl (k := 5) rfl f_v317 (by decide) rfl (fun ls hl => ?_)
                                          refine lv_goto (tgt := 42) hx hb dX11_findForm_206 (by decide) ?_
                                          have hT := hT.wk (q := 0) (P' := aJ (k 1) 9 (oP ((0 : Int32).toInt) (y2.toInt + y230.toInt + v317.toInt))) rfl (cv_o_o (by have := li_0; omega))
                                          have hT : TP D A [(h4, aJ (k 1) 9 (oP ((0 : Int32).toInt) (y2.toInt + y230.toInt + v317.toInt))), (h0, ob 8 [.int h0f0, .int h0f1, .int h0f2, .int h0f3, .int h0f4, .int h0f5, .ref h1, .ref h2, .int h0f8, .int h0f9, .ref h3, .ref h4, .ref h5, .ref h6, .ref h7, .ref h8, .ref h9, .int h0f17, .int h0f18, .int h0f19, .ref h10, .ref h11, .ref h12, .ref h13, .int h0f24, .int h0f25, .ref h14, .ref h15, .ref h16, .ref h17, .int h0f30, .int h0f31, .ref h18, .ref h19, .ref h20, .ref h21]), (h5, aJ (k 1) 9 (b9P )), (h10, aJ (k 1) 900 (lsP (h0f9.toInt)))] _ := hT
                                          exact ih42_237 v317 (0) _ _ _ (by have := li_0; omega) (by have := li_0; omega)  (by have := li_0; omega) hT hS (lv_sub hl [3, 1, 4, 5, 0] rfl)
                                        · skip
                                          have c_313 := nl_nlt c_313 rfl ll_0
                                          exfalso; omega
                                    · skip
                                      have c_306 := nl_nlt c_306 rfl ll_0
                                      refine lv_iconst (v := 1) hx hb dX11_findForm_149 (by decide) ?_
                                      refine lv_goto (tgt := 154) hx hb dX11_findForm_150 (by decide) ?_
                                      refine lv_icmp_ne (tgt := 184) hx hb dX11_findForm_154 (by decide) (fun _ => ?_) (fun cc => absurd cc (by decide +kernel))
                                      refine lv_iconst (v := 1) hx hb dX11_findForm_184 (by decide) ?_
                                      refine lv_goto (tgt := 189) hx hb dX11_findForm_185 (by decide) ?_
                                      refine lv_istore_n (lv' := [(1, .int 1), (7, .long v295), (0, .ref h0), (2, .int y2), (3, .int y230), (4, .int y235), (5, .long y288)]) hx hb dX11_findForm_189 rfl hl (by decide) rfl (fun ls hl => ?_)
                                      refine lv_aload_n hx hb dX11_findForm_190 rfl (lv_at hl 2 rfl) ?_
                                      refine tz_get (ci := 8) (v := .ref h4) (C := RX11) (F := TX11) (N := 36) hx hb hU iX11 hown hK hT 1 rfl rfl 11 (by decide) w796 (fun _ h9 => h9) rfl dX11_findForm_191 ?_
                                      refine lv_iconst (v := 3) hx hb dX11_findForm_194 (by decide) ?_
                                      refine lv_iload_n hx hb dX11_findForm_195 rfl (lv_at hl 4 rfl) ?_
                                      refine lv_imul hx hb dX11_findForm_196 (lv_topi (fun v318 e_v318 => ?_))
                                      have e_v318 := ai_mul e_v318 li_3 hz240 (by omega)
                                      refine lv_iload hx hb dX11_findForm_197 (lv_at hl 5 rfl) ?_
                                      have hq319 : v318.toInt = 0 := by omega
                                      refine lv_iadd hx hb dX11_findForm_199 (lv_topi (fun v320 e_v320 => ?_))
                                      have e_v320 := ai_add e_v320 hq319 rfl (by omega)
                                      refine lv_lload hx hb dX11_findForm_200 (lv_at hl 1 rfl) ?_
                                      refine tz_lastP hx hb hK hT hS 0 (oP ((1 : Int32).toInt) (y2.toInt + y230.toInt + y235.toInt)) rfl (by omega) (o_putx (by omega) (by have := li_1; omega)) dX11_findForm_202 (fun H locs hT hS => ?_)
                                      have hT : TP D A [(h4, aJ (k 1) 9 (oP ((1 : Int32).toInt) (y2.toInt + y230.toInt + y235.toInt))), (h0, ob 8 [.int h0f0, .int h0f1, .int h0f2, .int h0f3, .int h0f4, .int h0f5, .ref h1, .ref h2, .int h0f8, .int h0f9, .ref h3, .ref h4, .ref h5, .ref h6, .ref h7, .ref h8, .ref h9, .int h0f17, .int h0f18, .int h0f19, .ref h10, .ref h11, .ref h12, .ref h13, .int h0f24, .int h0f25, .ref h14, .ref h15, .ref h16, .ref h17, .int h0f30, .int h0f31, .ref h18, .ref h19, .ref h20, .ref h21]), (h5, aJ (k 1) 9 (b9P )), (h10, aJ (k 1) 900 (lsP (h0f9.toInt)))] _ := hT
                                      obtain ⟨v321, e_v321⟩ : ∃ x : Int32, x = y235 + Int32.ofInt 1 := ⟨_, rfl⟩
                                      have f_v321 := e_v321.symm
                                      have e_v321 : v321.toInt = y235.toInt + 1 := ai_add e_v321 rfl (show (Int32.ofInt 1).toInt = 1 from (by decide +kernel)) (by omega)
                                      refine lv_iinc (v := v321) (lv' := [(4, .int v321), (1, .int 1), (7, .long v295), (0, .ref h0), (2, .int y2), (3, .int y230), (5, .long y288)]) hx hb dX11_findForm_203 hl (k := 5) rfl f_v321 (by decide) rfl (fun ls hl => ?_)
                                      refine lv_goto (tgt := 42) hx hb dX11_findForm_206 (by decide) ?_
                                      have hT := hT.wk (q := 0) (P' := aJ (k 1) 9 (oP ((1 : Int32).toInt) (y2.toInt + y230.toInt + v321.toInt))) rfl (cv_o_o (by have := li_1; omega))
                                      have hT : TP D A [(h4, aJ (k 1) 9 (oP ((1 : Int32).toInt) (y2.toInt + y230.toInt + v321.toInt))), (h0, ob 8 [.int h0f0, .int h0f1, .int h0f2, .int h0f3, .int h0f4, .int h0f5, .ref h1, .ref h2, .int h0f8, .int h0f9, .ref h3, .ref h4, .ref h5, .ref h6, .ref h7, .ref h8, .ref h9, .int h0f17, .int h0f18, .int h0f19, .ref h10, .ref h11, .ref h12, .ref h13, .int h0f24, .int h0f25, .ref h14, .ref h15, .ref h16, .ref h17, .int h0f30, .int h0f31, .ref h18, .ref h19, .ref h20, .ref h21]), (h5, aJ (k 1) 9 (b9P )), (h10, aJ (k 1) 900 (lsP (h0f9.toInt)))] _ := hT
                                      exact ih42_237 v321 (1) _ _ _ (by have := li_1; omega) (by have := li_1; omega)  (by have := li_1; omega) hT hS (lv_sub hl [3, 1, 4, 5, 0] rfl)
                                  · skip
                                    have c_305 := nl_nlt c_305 rfl ll_0
                                    refine lv_iconst (v := 1) hx hb dX11_findForm_137 (by decide) ?_
                                    refine lv_goto (tgt := 142) hx hb dX11_findForm_138 (by decide) ?_
                                    refine lv_lload hx hb dX11_findForm_142 (lv_at hl 6 rfl) ?_
                                    refine lv_lconst (v := 0) hx hb dX11_findForm_144 (by decide) ?_
                                    refine W.lcmp hx hb dX11_findForm_145 ?_
                                    refine lv_if_lt (tgt := 153) hx hb dX11_findForm_146 (by decide) (fun c_322 => ?_) (fun c_322 => ?_)
                                    · skip
                                      have c_322 := nl_lt c_322 rfl ll_0
                                      refine lv_iconst (v := 0) hx hb dX11_findForm_153 (by decide) ?_
                                      refine lv_icmp_ne (tgt := 184) hx hb dX11_findForm_154 (by decide) (fun _ => ?_) (fun cc => absurd cc (by decide +kernel))
                                      refine lv_iconst (v := 1) hx hb dX11_findForm_184 (by decide) ?_
                                      refine lv_goto (tgt := 189) hx hb dX11_findForm_185 (by decide) ?_
                                      refine lv_istore_n (lv' := [(1, .int 1), (7, .long v295), (0, .ref h0), (2, .int y2), (3, .int y230), (4, .int y235), (5, .long y288)]) hx hb dX11_findForm_189 rfl hl (by decide) rfl (fun ls hl => ?_)
                                      refine lv_aload_n hx hb dX11_findForm_190 rfl (lv_at hl 2 rfl) ?_
                                      refine tz_get (ci := 8) (v := .ref h4) (C := RX11) (F := TX11) (N := 36) hx hb hU iX11 hown hK hT 1 rfl rfl 11 (by decide) w796 (fun _ h9 => h9) rfl dX11_findForm_191 ?_
                                      refine lv_iconst (v := 3) hx hb dX11_findForm_194 (by decide) ?_
                                      refine lv_iload_n hx hb dX11_findForm_195 rfl (lv_at hl 4 rfl) ?_
                                      refine lv_imul hx hb dX11_findForm_196 (lv_topi (fun v323 e_v323 => ?_))
                                      have e_v323 := ai_mul e_v323 li_3 hz240 (by omega)
                                      refine lv_iload hx hb dX11_findForm_197 (lv_at hl 5 rfl) ?_
                                      have hq324 : v323.toInt = 0 := by omega
                                      refine lv_iadd hx hb dX11_findForm_199 (lv_topi (fun v325 e_v325 => ?_))
                                      have e_v325 := ai_add e_v325 hq324 rfl (by omega)
                                      refine lv_lload hx hb dX11_findForm_200 (lv_at hl 1 rfl) ?_
                                      refine tz_lastP hx hb hK hT hS 0 (oP ((1 : Int32).toInt) (y2.toInt + y230.toInt + y235.toInt)) rfl (by omega) (o_putx (by omega) (by have := li_1; omega)) dX11_findForm_202 (fun H locs hT hS => ?_)
                                      have hT : TP D A [(h4, aJ (k 1) 9 (oP ((1 : Int32).toInt) (y2.toInt + y230.toInt + y235.toInt))), (h0, ob 8 [.int h0f0, .int h0f1, .int h0f2, .int h0f3, .int h0f4, .int h0f5, .ref h1, .ref h2, .int h0f8, .int h0f9, .ref h3, .ref h4, .ref h5, .ref h6, .ref h7, .ref h8, .ref h9, .int h0f17, .int h0f18, .int h0f19, .ref h10, .ref h11, .ref h12, .ref h13, .int h0f24, .int h0f25, .ref h14, .ref h15, .ref h16, .ref h17, .int h0f30, .int h0f31, .ref h18, .ref h19, .ref h20, .ref h21]), (h5, aJ (k 1) 9 (b9P )), (h10, aJ (k 1) 900 (lsP (h0f9.toInt)))] _ := hT
                                      obtain ⟨v326, e_v326⟩ : ∃ x : Int32, x = y235 + Int32.ofInt 1 := ⟨_, rfl⟩
                                      have f_v326 := e_v326.symm
                                      have e_v326 : v326.toInt = y235.toInt + 1 := ai_add e_v326 rfl (show (Int32.ofInt 1).toInt = 1 from (by decide +kernel)) (by omega)
                                      refine lv_iinc (v := v326) (lv' := [(4, .int v326), (1, .int 1), (7, .long v295), (0, .ref h0), (2, .int y2), (3, .int y230), (5, .long y288)]) hx hb dX11_findForm_203 hl (k := 5) rfl f_v326 (by decide) rfl (fun ls hl => ?_)
                                      refine lv_goto (tgt := 42) hx hb dX11_findForm_206 (by decide) ?_
                                      have hT := hT.wk (q := 0) (P' := aJ (k 1) 9 (oP ((1 : Int32).toInt) (y2.toInt + y230.toInt + v326.toInt))) rfl (cv_o_o (by have := li_1; omega))
                                      have hT : TP D A [(h4, aJ (k 1) 9 (oP ((1 : Int32).toInt) (y2.toInt + y230.toInt + v326.toInt))), (h0, ob 8 [.int h0f0, .int h0f1, .int h0f2, .int h0f3, .int h0f4, .int h0f5, .ref h1, .ref h2, .int h0f8, .int h0f9, .ref h3, .ref h4, .ref h5, .ref h6, .ref h7, .ref h8, .ref h9, .int h0f17, .int h0f18, .int h0f19, .ref h10, .ref h11, .ref h12, .ref h13, .int h0f24, .int h0f25, .ref h14, .ref h15, .ref h16, .ref h17, .int h0f30, .int h0f31, .ref h18, .ref h19, .ref h20, .ref h21]), (h5, aJ (k 1) 9 (b9P )), (h10, aJ (k 1) 900 (lsP (h0f9.toInt)))] _ := hT
                                      exact ih42_237 v326 (1) _ _ _ (by have := li_1; omega) (by have := li_1; omega)  (by have := li_1; omega) hT hS (lv_sub hl [3, 1, 4, 5, 0] rfl)
                                    · skip
                                      have c_322 := nl_nlt c_322 rfl ll_0
                                      refine lv_iconst (v := 1) hx hb dX11_findForm_149 (by decide) ?_
                                      refine lv_goto (tgt := 154) hx hb dX11_findForm_150 (by decide) ?_
                                      refine lv_icmp_ne (tgt := 184) hx hb dX11_findForm_154 (by decide) (fun cc => absurd (by decide +kernel) cc) (fun _ => ?_)
                                      refine lv_lload hx hb dX11_findForm_157 (lv_at hl 0 rfl) ?_
                                      refine lv_lconst (v := 0) hx hb dX11_findForm_159 (by decide) ?_
                                      refine W.lcmp hx hb dX11_findForm_160 ?_
                                      refine lv_if_lt (tgt := 168) hx hb dX11_findForm_161 (by decide) (fun c_327 => ?_) (fun c_327 => ?_)
                                      · skip
                                        have c_327 := nl_lt c_327 rfl ll_0
                                        refine lv_iconst (v := 0) hx hb dX11_findForm_168 (by decide) ?_
                                        refine lv_lload hx hb dX11_findForm_169 (lv_at hl 6 rfl) ?_
                                        refine lv_lconst (v := 0) hx hb dX11_findForm_171 (by decide) ?_
                                        refine W.lcmp hx hb dX11_findForm_172 ?_
                                        refine lv_if_lt (tgt := 180) hx hb dX11_findForm_173 (by decide) (fun c_328 => ?_) (fun c_328 => ?_)
                                        · skip
                                          have c_328 := nl_lt c_328 rfl ll_0
                                          exfalso; omega
                                        · skip
                                          have c_328 := nl_nlt c_328 rfl ll_0
                                          refine lv_iconst (v := 1) hx hb dX11_findForm_176 (by decide) ?_
                                          refine lv_goto (tgt := 181) hx hb dX11_findForm_177 (by decide) ?_
                                          refine lv_icmp_ne (tgt := 188) hx hb dX11_findForm_181 (by decide) (fun _ => ?_) (fun cc => absurd cc (by decide +kernel))
                                          refine lv_iconst (v := 0) hx hb dX11_findForm_188 (by decide) ?_
                                          refine lv_istore_n (lv' := [(1, .int 0), (7, .long v295), (0, .ref h0), (2, .int y2), (3, .int y230), (4, .int y235), (5, .long y288)]) hx hb dX11_findForm_189 rfl hl (by decide) rfl (fun ls hl => ?_)
                                          refine lv_aload_n hx hb dX11_findForm_190 rfl (lv_at hl 2 rfl) ?_
                                          refine tz_get (ci := 8) (v := .ref h4) (C := RX11) (F := TX11) (N := 36) hx hb hU iX11 hown hK hT 1 rfl rfl 11 (by decide) w796 (fun _ h9 => h9) rfl dX11_findForm_191 ?_
                                          refine lv_iconst (v := 3) hx hb dX11_findForm_194 (by decide) ?_
                                          refine lv_iload_n hx hb dX11_findForm_195 rfl (lv_at hl 4 rfl) ?_
                                          refine lv_imul hx hb dX11_findForm_196 (lv_topi (fun v329 e_v329 => ?_))
                                          have e_v329 := ai_mul e_v329 li_3 hz240 (by omega)
                                          refine lv_iload hx hb dX11_findForm_197 (lv_at hl 5 rfl) ?_
                                          have hq330 : v329.toInt = 0 := by omega
                                          refine lv_iadd hx hb dX11_findForm_199 (lv_topi (fun v331 e_v331 => ?_))
                                          have e_v331 := ai_add e_v331 hq330 rfl (by omega)
                                          refine lv_lload hx hb dX11_findForm_200 (lv_at hl 1 rfl) ?_
                                          refine tz_lastP hx hb hK hT hS 0 (oP ((0 : Int32).toInt) (y2.toInt + y230.toInt + y235.toInt)) rfl (by omega) (o_putx (by omega) (by have := li_0; omega)) dX11_findForm_202 (fun H locs hT hS => ?_)
                                          have hT : TP D A [(h4, aJ (k 1) 9 (oP ((0 : Int32).toInt) (y2.toInt + y230.toInt + y235.toInt))), (h0, ob 8 [.int h0f0, .int h0f1, .int h0f2, .int h0f3, .int h0f4, .int h0f5, .ref h1, .ref h2, .int h0f8, .int h0f9, .ref h3, .ref h4, .ref h5, .ref h6, .ref h7, .ref h8, .ref h9, .int h0f17, .int h0f18, .int h0f19, .ref h10, .ref h11, .ref h12, .ref h13, .int h0f24, .int h0f25, .ref h14, .ref h15, .ref h16, .ref h17, .int h0f30, .int h0f31, .ref h18, .ref h19, .ref h20, .ref h21]), (h5, aJ (k 1) 9 (b9P )), (h10, aJ (k 1) 900 (lsP (h0f9.toInt)))] _ := hT
                                          obtain ⟨v332, e_v332⟩ : ∃ x : Int32, x = y235 + Int32.ofInt 1 := ⟨_, rfl⟩
                                          have f_v332 := e_v332.symm
                                          have e_v332 : v332.toInt = y235.toInt + 1 := ai_add e_v332 rfl (show (Int32.ofInt 1).toInt = 1 from (by decide +kernel)) (by omega)
                                          refine lv_iinc (v := v332) (lv' := [(4, .int v332), (1, .int 0), (7, .long v295), (0, .ref h0), (2, .int y2), (3, .int y230), (5, .long y288)]) hx hb dX11_findForm_203 hl (k := 5) rfl f_v332 (by decide) rfl (fun ls hl => ?_)
                                          refine lv_goto (tgt := 42) hx hb dX11_findForm_206 (by decide) ?_
                                          have hT := hT.wk (q := 0) (P' := aJ (k 1) 9 (oP ((0 : Int32).toInt) (y2.toInt + y230.toInt + v332.toInt))) rfl (cv_o_o (by have := li_0; omega))
                                          have hT : TP D A [(h4, aJ (k 1) 9 (oP ((0 : Int32).toInt) (y2.toInt + y230.toInt + v332.toInt))), (h0, ob 8 [.int h0f0, .int h0f1, .int h0f2, .int h0f3, .int h0f4, .int h0f5, .ref h1, .ref h2, .int h0f8, .int h0f9, .ref h3, .ref h4, .ref h5, .ref h6, .ref h7, .ref h8, .ref h9, .int h0f17, .int h0f18, .int h0f19, .ref h10, .ref h11, .ref h12, .ref h13, .int h0f24, .int h0f25, .ref h14, .ref h15, .ref h16, .ref h17, .int h0f30, .int h0f31, .ref h18, .ref h19, .ref h20, .ref h21]), (h5, aJ (k 1) 9 (b9P )), (h10, aJ (k 1) 900 (lsP (h0f9.toInt)))] _ := hT
                                          exact ih42_237 v332 (0) _ _ _ (by have := li_0; omega) (by have := li_0; omega)  (by have := li_0; omega) hT hS (lv_sub hl [3, 1, 4, 5, 0] rfl)
                                      · skip
                                        have c_327 := nl_nlt c_327 rfl ll_0
                                        refine lv_iconst (v := 1) hx hb dX11_findForm_164 (by decide) ?_
                                        refine lv_goto (tgt := 169) hx hb dX11_findForm_165 (by decide) ?_
                                        refine lv_lload hx hb dX11_findForm_169 (lv_at hl 6 rfl) ?_
                                        refine lv_lconst (v := 0) hx hb dX11_findForm_171 (by decide) ?_
                                        refine W.lcmp hx hb dX11_findForm_172 ?_
                                        refine lv_if_lt (tgt := 180) hx hb dX11_findForm_173 (by decide) (fun c_333 => ?_) (fun c_333 => ?_)
                                        · skip
                                          have c_333 := nl_lt c_333 rfl ll_0
                                          exfalso; omega
                                        · skip
                                          have c_333 := nl_nlt c_333 rfl ll_0
                                          refine lv_iconst (v := 1) hx hb dX11_findForm_176 (by decide) ?_
                                          refine lv_goto (tgt := 181) hx hb dX11_findForm_177 (by decide) ?_
                                          refine lv_icmp_ne (tgt := 188) hx hb dX11_findForm_181 (by decide) (fun cc => absurd (by decide +kernel) cc) (fun _ => ?_)
                                          refine lv_iconst (v := 1) hx hb dX11_findForm_184 (by decide) ?_
                                          refine lv_goto (tgt := 189) hx hb dX11_findForm_185 (by decide) ?_
                                          refine lv_istore_n (lv' := [(1, .int 1), (7, .long v295), (0, .ref h0), (2, .int y2), (3, .int y230), (4, .int y235), (5, .long y288)]) hx hb dX11_findForm_189 rfl hl (by decide) rfl (fun ls hl => ?_)
                                          refine lv_aload_n hx hb dX11_findForm_190 rfl (lv_at hl 2 rfl) ?_
                                          refine tz_get (ci := 8) (v := .ref h4) (C := RX11) (F := TX11) (N := 36) hx hb hU iX11 hown hK hT 1 rfl rfl 11 (by decide) w796 (fun _ h9 => h9) rfl dX11_findForm_191 ?_
                                          refine lv_iconst (v := 3) hx hb dX11_findForm_194 (by decide) ?_
                                          refine lv_iload_n hx hb dX11_findForm_195 rfl (lv_at hl 4 rfl) ?_
                                          refine lv_imul hx hb dX11_findForm_196 (lv_topi (fun v334 e_v334 => ?_))
                                          have e_v334 := ai_mul e_v334 li_3 hz240 (by omega)
                                          refine lv_iload hx hb dX11_findForm_197 (lv_at hl 5 rfl) ?_
                                          have hq335 : v334.toInt = 0 := by omega
                                          refine lv_iadd hx hb dX11_findForm_199 (lv_topi (fun v336 e_v336 => ?_))
                                          have e_v336 := ai_add e_v336 hq335 rfl (by omega)
                                          refine lv_lload hx hb dX11_findForm_200 (lv_at hl 1 rfl) ?_
                                          refine tz_lastP hx hb hK hT hS 0 (oP ((1 : Int32).toInt) (y2.toInt + y230.toInt + y235.toInt)) rfl (by omega) (o_putx (by omega) (by have := li_1; omega)) dX11_findForm_202 (fun H locs hT hS => ?_)
                                          have hT : TP D A [(h4, aJ (k 1) 9 (oP ((1 : Int32).toInt) (y2.toInt + y230.toInt + y235.toInt))), (h0, ob 8 [.int h0f0, .int h0f1, .int h0f2, .int h0f3, .int h0f4, .int h0f5, .ref h1, .ref h2, .int h0f8, .int h0f9, .ref h3, .ref h4, .ref h5, .ref h6, .ref h7, .ref h8, .ref h9, .int h0f17, .int h0f18, .int h0f19, .ref h10, .ref h11, .ref h12, .ref h13, .int h0f24, .int h0f25, .ref h14, .ref h15, .ref h16, .ref h17, .int h0f30, .int h0f31, .ref h18, .ref h19, .ref h20, .ref h21]), (h5, aJ (k 1) 9 (b9P )), (h10, aJ (k 1) 900 (lsP (h0f9.toInt)))] _ := hT
                                          obtain ⟨v337, e_v337⟩ : ∃ x : Int32, x = y235 + Int32.ofInt 1 := ⟨_, rfl⟩
                                          have f_v337 := e_v337.symm
                                          have e_v337 : v337.toInt = y235.toInt + 1 := ai_add e_v337 rfl (show (Int32.ofInt 1).toInt = 1 from (by decide +kernel)) (by omega)
                                          refine lv_iinc (v := v337) (lv' := [(4, .int v337), (1, .int 1), (7, .long v295), (0, .ref h0), (2, .int y2), (3, .int y230), (5, .long y288)]) hx hb dX11_findForm_203 hl (k := 5) rfl f_v337 (by decide) rfl (fun ls hl => ?_)
                                          refine lv_goto (tgt := 42) hx hb dX11_findForm_206 (by decide) ?_
                                          have hT := hT.wk (q := 0) (P' := aJ (k 1) 9 (oP ((1 : Int32).toInt) (y2.toInt + y230.toInt + v337.toInt))) rfl (cv_o_o (by have := li_1; omega))
                                          have hT : TP D A [(h4, aJ (k 1) 9 (oP ((1 : Int32).toInt) (y2.toInt + y230.toInt + v337.toInt))), (h0, ob 8 [.int h0f0, .int h0f1, .int h0f2, .int h0f3, .int h0f4, .int h0f5, .ref h1, .ref h2, .int h0f8, .int h0f9, .ref h3, .ref h4, .ref h5, .ref h6, .ref h7, .ref h8, .ref h9, .int h0f17, .int h0f18, .int h0f19, .ref h10, .ref h11, .ref h12, .ref h13, .int h0f24, .int h0f25, .ref h14, .ref h15, .ref h16, .ref h17, .int h0f30, .int h0f31, .ref h18, .ref h19, .ref h20, .ref h21]), (h5, aJ (k 1) 9 (b9P )), (h10, aJ (k 1) 900 (lsP (h0f9.toInt)))] _ := hT
                                          exact ih42_237 v337 (1) _ _ _ (by have := li_1; omega) (by have := li_1; omega)  (by have := li_1; omega) hT hS (lv_sub hl [3, 1, 4, 5, 0] rfl)
                              · skip
                                have c_290 := ni_nle c_290 rfl rfl
                                refine lv_lload hx hb dX11_findForm_66 (lv_at hl 5 rfl) ?_
                                refine lv_aload_n hx hb dX11_findForm_68 rfl (lv_at hl 0 rfl) ?_
                                refine tz_get (ci := 8) (v := .ref h5) (C := RX11) (F := TX11) (N := 36) hx hb hU iX11 hown hK hT 1 rfl rfl 12 (by decide) w797 (fun _ h9 => h9) rfl dX11_findForm_69 ?_
                                refine lv_iconst (v := 3) hx hb dX11_findForm_72 (by decide) ?_
                                refine lv_iload hx hb dX11_findForm_73 (lv_at hl 6 rfl) ?_
                                refine lv_imul hx hb dX11_findForm_75 (lv_topi (fun v338 e_v338 => ?_))
                                have e_v338 := ai_mul e_v338 li_3 rfl (by omega)
                                refine lv_iload_n hx hb dX11_findForm_76 rfl (lv_at hl 3 rfl) ?_
                                refine lv_iadd hx hb dX11_findForm_77 (lv_topi (fun v339 e_v339 => ?_))
                                have e_v339 := ai_add e_v339 rfl hz240 (by omega)
                                refine tz_lald hx hb hK hT 2 rfl (by omega) dX11_findForm_78 (fun v340 e_v340 => ?_)
                                clear e_v340
                                refine lv_aload_n hx hb dX11_findForm_79 rfl (lv_at hl 0 rfl) ?_
                                refine tz_get (ci := 8) (v := .ref h5) (C := RX11) (F := TX11) (N := 36) hx hb hU iX11 hown hK hT 1 rfl rfl 12 (by decide) w797 (fun _ h9 => h9) rfl dX11_findForm_80 ?_
                                refine lv_iconst (v := 3) hx hb dX11_findForm_83 (by decide) ?_
                                refine lv_iload hx hb dX11_findForm_84 (lv_at hl 6 rfl) ?_
                                refine lv_imul hx hb dX11_findForm_86 (lv_topi (fun v341 e_v341 => ?_))
                                have e_v341 := ai_mul e_v341 li_3 rfl (by omega)
                                refine lv_iload hx hb dX11_findForm_87 (lv_at hl 4 rfl) ?_
                                refine lv_iadd hx hb dX11_findForm_89 (lv_topi (fun v342 e_v342 => ?_))
                                have e_v342 := ai_add e_v342 rfl rfl (by omega)
                                refine tz_lald hx hb hK hT 2 rfl (by omega) dX11_findForm_90 (fun v343 e_v343 => ?_)
                                clear e_v343
                                refine lv_lmul hx hb dX11_findForm_91 (lv_topl (fun v344 e_v344 => ?_))
                                refine lv_ladd hx hb dX11_findForm_92 (lv_topl (fun v345 e_v345 => ?_))
                                refine lv_lstore (lv' := [(5, .long v345), (0, .ref h0), (1, .int y236), (2, .int y2), (3, .int y230), (4, .int y235), (7, .int y287)]) hx hb dX11_findForm_93 hl (by decide) rfl (fun ls hl => ?_)
                                obtain ⟨v346, e_v346⟩ : ∃ x : Int32, x = y287 + Int32.ofInt 1 := ⟨_, rfl⟩
                                have f_v346 := e_v346.symm
                                have e_v346 : v346.toInt = y287.toInt + 1 := ai_add e_v346 rfl (show (Int32.ofInt 1).toInt = 1 from (by decide +kernel)) (by omega)
                                refine lv_iinc (v := v346) (lv' := [(7, .int v346), (5, .long v345), (0, .ref h0), (1, .int y236), (2, .int y2), (3, .int y230), (4, .int y235)]) hx hb dX11_findForm_95 hl (k := 6) rfl f_v346 (by decide) rfl (fun ls hl => ?_)
                                refine lv_goto (tgt := 57) hx hb dX11_findForm_98 (by decide) ?_
                                exact ih57_289 v346 v345 _ _ _ (by omega)  (by omega) hT hS (lv_sub hl [2, 3, 4, 5, 6, 1, 0] rfl)
                          exact lp57_289 ((h0f0.toInt + (-1) * (0 : Int32).toInt + 1).toNat + 1) (0) (0) _ _ _ (by have := li_0; have := ll_0; omega)  (Nat.lt_succ_self _) hT hS (lv_sub hl [2, 3, 4, 5, 6, 1, 0] rfl)
                      · skip
                        rcases (show y235.toInt = 0 ∨ 1 ≤ y235.toInt by omega) with hz347 | hz347
                        · skip
                          refine lv_lconst (v := 0) hx hb dX11_findForm_51 (by decide) ?_
                          refine lv_lstore (lv' := [(5, .long 0), (0, .ref h0), (1, .int y236), (2, .int y2), (3, .int y230), (4, .int y235)]) hx hb dX11_findForm_52 hl (by decide) rfl (fun ls hl => ?_)
                          refine lv_iconst (v := 0) hx hb dX11_findForm_54 (by decide) ?_
                          refine lv_istore (lv' := [(7, .int 0), (5, .long 0), (0, .ref h0), (1, .int y236), (2, .int y2), (3, .int y230), (4, .int y235)]) hx hb dX11_findForm_55 hl (by decide) rfl (fun ls hl => ?_)
                          have lp57_350 : ∀ (n : Nat) (y348 : Int32) (y349 : Int64) (H : Heap) (locs : List Loc) (ls : Array Slot), (0 ≤ y348.toInt ∧ y348.toInt ≤ 3) → (h0f0.toInt + (-1) * y348.toInt + 1).toNat < n → TP D A [(h4, aJ (k 1) 9 (oP (y236.toInt) (y2.toInt + y230.toInt + y235.toInt))), (h0, ob 8 [.int h0f0, .int h0f1, .int h0f2, .int h0f3, .int h0f4, .int h0f5, .ref h1, .ref h2, .int h0f8, .int h0f9, .ref h3, .ref h4, .ref h5, .ref h6, .ref h7, .ref h8, .ref h9, .int h0f17, .int h0f18, .int h0f19, .ref h10, .ref h11, .ref h12, .ref h13, .int h0f24, .int h0f25, .ref h14, .ref h15, .ref h16, .ref h17, .int h0f30, .int h0f31, .ref h18, .ref h19, .ref h20, .ref h21]), (h5, aJ (k 1) 9 (b9P )), (h10, aJ (k 1) 900 (lsP (h0f9.toInt)))] H → va_S A s.heap H locs → lv_has ls 9 [(0, .ref h0), (1, .int y236), (2, .int y2), (3, .int y230), (4, .int y235), (5, .long y349), (7, .int y348)] → W p l e Rm_cX11_findForm_b515d s m args below meth c H locs 0 0 Q (F0 m 57 ls []) := by
                            intro n
                            induction n with
                            | zero => intro y348 y349 H locs ls b_y348 hm hT hS hl; exact absurd hm (Nat.not_lt_zero _)
                            | succ n ih =>
                              intro y348 y349 H locs ls b_y348 hm hT hS hl
                              have ih57_350 := ih
                              clear ih
                              refine lv_iload hx hb dX11_findForm_57 (lv_at hl 6 rfl) ?_
                              refine lv_aload_n hx hb dX11_findForm_59 rfl (lv_at hl 0 rfl) ?_
                              refine tz_get (ci := 8) (v := .int h0f0) (C := RX11) (F := TX11) (N := 36) hx hb hU iX11 hown hK hT 1 rfl rfl 0 (by decide) w785 (fun _ h9 => h9) rfl dX11_findForm_60 ?_
                              refine lv_icmp_ge (tgt := 101) hx hb dX11_findForm_63 (by decide) (fun c_351 => ?_) (fun c_351 => ?_)
                              · skip
                                have c_351 := ni_le c_351 rfl rfl
                                refine lv_aload_n hx hb dX11_findForm_101 rfl (lv_at hl 0 rfl) ?_
                                refine tz_get (ci := 8) (v := .ref h4) (C := RX11) (F := TX11) (N := 36) hx hb hU iX11 hown hK hT 1 rfl rfl 11 (by decide) w796 (fun _ h9 => h9) rfl dX11_findForm_102 ?_
                                refine lv_iconst (v := 3) hx hb dX11_findForm_105 (by decide) ?_
                                refine lv_iload_n hx hb dX11_findForm_106 rfl (lv_at hl 3 rfl) ?_
                                refine lv_imul hx hb dX11_findForm_107 (lv_topi (fun v352 e_v352 => ?_))
                                have e_v352 := ai_mul e_v352 li_3 rfl (by omega)
                                refine lv_iload hx hb dX11_findForm_108 (lv_at hl 4 rfl) ?_
                                refine lv_iadd hx hb dX11_findForm_110 (lv_topi (fun v353 e_v353 => ?_))
                                have e_v353 := ai_add e_v353 rfl hz347 (by omega)
                                refine tz_lald hx hb hK hT 0 rfl (by omega) dX11_findForm_111 (fun v354 e_v354 => ?_)
                                clear e_v354
                                refine lv_lload hx hb dX11_findForm_112 (lv_at hl 5 rfl) ?_
                                refine lv_ladd hx hb dX11_findForm_114 (lv_topl (fun v355 e_v355 => ?_))
                                refine lv_lstore (lv' := [(7, .long v355), (0, .ref h0), (1, .int y236), (2, .int y2), (3, .int y230), (4, .int y235), (5, .long y349)]) hx hb dX11_findForm_115 hl (by decide) rfl (fun ls hl => ?_)
                                refine lv_iload_n hx hb dX11_findForm_117 rfl (lv_at hl 2 rfl) ?_
                                refine lv_if_eq (tgt := 188) hx hb dX11_findForm_118 (by decide) (fun c_356 => ?_) (fun c_356 => ?_)
                                · skip
                                  have c_356 := ni_eq c_356 rfl li_0
                                  refine lv_iconst (v := 0) hx hb dX11_findForm_188 (by decide) ?_
                                  refine lv_istore_n (lv' := [(1, .int 0), (7, .long v355), (0, .ref h0), (2, .int y2), (3, .int y230), (4, .int y235), (5, .long y349)]) hx hb dX11_findForm_189 rfl hl (by decide) rfl (fun ls hl => ?_)
                                  refine lv_aload_n hx hb dX11_findForm_190 rfl (lv_at hl 2 rfl) ?_
                                  refine tz_get (ci := 8) (v := .ref h4) (C := RX11) (F := TX11) (N := 36) hx hb hU iX11 hown hK hT 1 rfl rfl 11 (by decide) w796 (fun _ h9 => h9) rfl dX11_findForm_191 ?_
                                  refine lv_iconst (v := 3) hx hb dX11_findForm_194 (by decide) ?_
                                  refine lv_iload_n hx hb dX11_findForm_195 rfl (lv_at hl 4 rfl) ?_
                                  refine lv_imul hx hb dX11_findForm_196 (lv_topi (fun v357 e_v357 => ?_))
                                  have e_v357 := ai_mul e_v357 li_3 rfl (by omega)
                                  refine lv_iload hx hb dX11_findForm_197 (lv_at hl 5 rfl) ?_
                                  refine lv_iadd hx hb dX11_findForm_199 (lv_topi (fun v358 e_v358 => ?_))
                                  have e_v358 := ai_add e_v358 rfl hz347 (by omega)
                                  refine lv_lload hx hb dX11_findForm_200 (lv_at hl 1 rfl) ?_
                                  refine tz_lastP hx hb hK hT hS 0 (oP ((0 : Int32).toInt) (y2.toInt + y230.toInt + y235.toInt)) rfl (by omega) (o_putx (by omega) (by have := li_0; omega)) dX11_findForm_202 (fun H locs hT hS => ?_)
                                  have hT : TP D A [(h4, aJ (k 1) 9 (oP ((0 : Int32).toInt) (y2.toInt + y230.toInt + y235.toInt))), (h0, ob 8 [.int h0f0, .int h0f1, .int h0f2, .int h0f3, .int h0f4, .int h0f5, .ref h1, .ref h2, .int h0f8, .int h0f9, .ref h3, .ref h4, .ref h5, .ref h6, .ref h7, .ref h8, .ref h9, .int h0f17, .int h0f18, .int h0f19, .ref h10, .ref h11, .ref h12, .ref h13, .int h0f24, .int h0f25, .ref h14, .ref h15, .ref h16, .ref h17, .int h0f30, .int h0f31, .ref h18, .ref h19, .ref h20, .ref h21]), (h5, aJ (k 1) 9 (b9P )), (h10, aJ (k 1) 900 (lsP (h0f9.toInt)))] _ := hT
                                  obtain ⟨v359, e_v359⟩ : ∃ x : Int32, x = y235 + Int32.ofInt 1 := ⟨_, rfl⟩
                                  have f_v359 := e_v359.symm
                                  have e_v359 : v359.toInt = 0 + 1 := ai_add e_v359 hz347 (show (Int32.ofInt 1).toInt = 1 from (by decide +kernel)) (by omega)
                                  refine lv_iinc (v := v359) (lv' := [(4, .int v359), (1, .int 0), (7, .long v355), (0, .ref h0), (2, .int y2), (3, .int y230), (5, .long y349)]) hx hb dX11_findForm_203 hl (k := 5) rfl f_v359 (by decide) rfl (fun ls hl => ?_)
                                  refine lv_goto (tgt := 42) hx hb dX11_findForm_206 (by decide) ?_
                                  have hT := hT.wk (q := 0) (P' := aJ (k 1) 9 (oP ((0 : Int32).toInt) (y2.toInt + y230.toInt + v359.toInt))) rfl (cv_o_o (by have := li_0; omega))
                                  have hT : TP D A [(h4, aJ (k 1) 9 (oP ((0 : Int32).toInt) (y2.toInt + y230.toInt + v359.toInt))), (h0, ob 8 [.int h0f0, .int h0f1, .int h0f2, .int h0f3, .int h0f4, .int h0f5, .ref h1, .ref h2, .int h0f8, .int h0f9, .ref h3, .ref h4, .ref h5, .ref h6, .ref h7, .ref h8, .ref h9, .int h0f17, .int h0f18, .int h0f19, .ref h10, .ref h11, .ref h12, .ref h13, .int h0f24, .int h0f25, .ref h14, .ref h15, .ref h16, .ref h17, .int h0f30, .int h0f31, .ref h18, .ref h19, .ref h20, .ref h21]), (h5, aJ (k 1) 9 (b9P )), (h10, aJ (k 1) 900 (lsP (h0f9.toInt)))] _ := hT
                                  exact ih42_237 v359 (0) _ _ _ (by have := li_0; omega) (by have := li_0; omega)  (by have := li_0; omega) hT hS (lv_sub hl [3, 1, 4, 5, 0] rfl)
                                · skip
                                  have c_356 := ni_ne c_356 rfl li_0
                                  refine lv_aload_n hx hb dX11_findForm_121 rfl (lv_at hl 1 rfl) ?_
                                  refine tz_get (ci := 8) (v := .ref h4) (C := RX11) (F := TX11) (N := 36) hx hb hU iX11 hown hK hT 1 rfl rfl 11 (by decide) w796 (fun _ h9 => h9) rfl dX11_findForm_122 ?_
                                  refine lv_iconst (v := 3) hx hb dX11_findForm_125 (by decide) ?_
                                  refine lv_iload_n hx hb dX11_findForm_126 rfl (lv_at hl 4 rfl) ?_
                                  refine lv_imul hx hb dX11_findForm_127 (lv_topi (fun v360 e_v360 => ?_))
                                  have e_v360 := ai_mul e_v360 li_3 rfl (by omega)
                                  refine lv_iload hx hb dX11_findForm_128 (lv_at hl 5 rfl) ?_
                                  refine lv_iadd hx hb dX11_findForm_130 (lv_topi (fun v361 e_v361 => ?_))
                                  have e_v361 := ai_add e_v361 rfl hz347 (by omega)
                                  refine tz_lald hx hb hK hT 0 rfl (by omega) dX11_findForm_131 (fun v362 e_v362 => ?_)
                                  clear e_v362
                                  refine lv_lconst (v := 0) hx hb dX11_findForm_132 (by decide) ?_
                                  refine W.lcmp hx hb dX11_findForm_133 ?_
                                  refine lv_if_lt (tgt := 141) hx hb dX11_findForm_134 (by decide) (fun c_363 => ?_) (fun c_363 => ?_)
                                  · skip
                                    have c_363 := nl_lt c_363 rfl ll_0
                                    refine lv_iconst (v := 0) hx hb dX11_findForm_141 (by decide) ?_
                                    refine lv_lload hx hb dX11_findForm_142 (lv_at hl 6 rfl) ?_
                                    refine lv_lconst (v := 0) hx hb dX11_findForm_144 (by decide) ?_
                                    refine W.lcmp hx hb dX11_findForm_145 ?_
                                    refine lv_if_lt (tgt := 153) hx hb dX11_findForm_146 (by decide) (fun c_364 => ?_) (fun c_364 => ?_)
                                    · skip
                                      have c_364 := nl_lt c_364 rfl ll_0
                                      refine lv_iconst (v := 0) hx hb dX11_findForm_153 (by decide) ?_
                                      refine lv_icmp_ne (tgt := 184) hx hb dX11_findForm_154 (by decide) (fun cc => absurd (by decide +kernel) cc) (fun _ => ?_)
                                      refine lv_lload hx hb dX11_findForm_157 (lv_at hl 0 rfl) ?_
                                      refine lv_lconst (v := 0) hx hb dX11_findForm_159 (by decide) ?_
                                      refine W.lcmp hx hb dX11_findForm_160 ?_
                                      refine lv_if_lt (tgt := 168) hx hb dX11_findForm_161 (by decide) (fun c_365 => ?_) (fun c_365 => ?_)
                                      · skip
                                        have c_365 := nl_lt c_365 rfl ll_0
                                        refine lv_iconst (v := 0) hx hb dX11_findForm_168 (by decide) ?_
                                        refine lv_lload hx hb dX11_findForm_169 (lv_at hl 6 rfl) ?_
                                        refine lv_lconst (v := 0) hx hb dX11_findForm_171 (by decide) ?_
                                        refine W.lcmp hx hb dX11_findForm_172 ?_
                                        refine lv_if_lt (tgt := 180) hx hb dX11_findForm_173 (by decide) (fun c_366 => ?_) (fun c_366 => ?_)
                                        · skip
                                          have c_366 := nl_lt c_366 rfl ll_0
                                          refine lv_iconst (v := 0) hx hb dX11_findForm_180 (by decide) ?_
                                          refine lv_icmp_ne (tgt := 188) hx hb dX11_findForm_181 (by decide) (fun cc => absurd (by decide +kernel) cc) (fun _ => ?_)
                                          refine lv_iconst (v := 1) hx hb dX11_findForm_184 (by decide) ?_
                                          refine lv_goto (tgt := 189) hx hb dX11_findForm_185 (by decide) ?_
                                          refine lv_istore_n (lv' := [(1, .int 1), (7, .long v355), (0, .ref h0), (2, .int y2), (3, .int y230), (4, .int y235), (5, .long y349)]) hx hb dX11_findForm_189 rfl hl (by decide) rfl (fun ls hl => ?_)
                                          refine lv_aload_n hx hb dX11_findForm_190 rfl (lv_at hl 2 rfl) ?_
                                          refine tz_get (ci := 8) (v := .ref h4) (C := RX11) (F := TX11) (N := 36) hx hb hU iX11 hown hK hT 1 rfl rfl 11 (by decide) w796 (fun _ h9 => h9) rfl dX11_findForm_191 ?_
                                          refine lv_iconst (v := 3) hx hb dX11_findForm_194 (by decide) ?_
                                          refine lv_iload_n hx hb dX11_findForm_195 rfl (lv_at hl 4 rfl) ?_
                                          refine lv_imul hx hb dX11_findForm_196 (lv_topi (fun v367 e_v367 => ?_))
                                          have e_v367 := ai_mul e_v367 li_3 rfl (by omega)
                                          refine lv_iload hx hb dX11_findForm_197 (lv_at hl 5 rfl) ?_
                                          refine lv_iadd hx hb dX11_findForm_199 (lv_topi (fun v368 e_v368 => ?_))
                                          have e_v368 := ai_add e_v368 rfl hz347 (by omega)
                                          refine lv_lload hx hb dX11_findForm_200 (lv_at hl 1 rfl) ?_
                                          refine tz_lastP hx hb hK hT hS 0 (oP ((1 : Int32).toInt) (y2.toInt + y230.toInt + y235.toInt)) rfl (by omega) (o_putx (by omega) (by have := li_1; omega)) dX11_findForm_202 (fun H locs hT hS => ?_)
                                          have hT : TP D A [(h4, aJ (k 1) 9 (oP ((1 : Int32).toInt) (y2.toInt + y230.toInt + y235.toInt))), (h0, ob 8 [.int h0f0, .int h0f1, .int h0f2, .int h0f3, .int h0f4, .int h0f5, .ref h1, .ref h2, .int h0f8, .int h0f9, .ref h3, .ref h4, .ref h5, .ref h6, .ref h7, .ref h8, .ref h9, .int h0f17, .int h0f18, .int h0f19, .ref h10, .ref h11, .ref h12, .ref h13, .int h0f24, .int h0f25, .ref h14, .ref h15, .ref h16, .ref h17, .int h0f30, .int h0f31, .ref h18, .ref h19, .ref h20, .ref h21]), (h5, aJ (k 1) 9 (b9P )), (h10, aJ (k 1) 900 (lsP (h0f9.toInt)))] _ := hT
                                          obtain ⟨v369, e_v369⟩ : ∃ x : Int32, x = y235 + Int32.ofInt 1 := ⟨_, rfl⟩
                                          have f_v369 := e_v369.symm
                                          have e_v369 : v369.toInt = 0 + 1 := ai_add e_v369 hz347 (show (Int32.ofInt 1).toInt = 1 from (by decide +kernel)) (by omega)
                                          refine lv_iinc (v := v369) (lv' := [(4, .int v369), (1, .int 1), (7, .long v355), (0, .ref h0), (2, .int y2), (3, .int y230), (5, .long y349)]) hx hb dX11_findForm_203 hl (k := 5) rfl f_v369 (by decide) rfl (fun ls hl => ?_)
                                          refine lv_goto (tgt := 42) hx hb dX11_findForm_206 (by decide) ?_
                                          have hT := hT.wk (q := 0) (P' := aJ (k 1) 9 (oP ((1 : Int32).toInt) (y2.toInt + y230.toInt + v369.toInt))) rfl (cv_o_o (by have := li_1; omega))
                                          have hT : TP D A [(h4, aJ (k 1) 9 (oP ((1 : Int32).toInt) (y2.toInt + y230.toInt + v369.toInt))), (h0, ob 8 [.int h0f0, .int h0f1, .int h0f2, .int h0f3, .int h0f4, .int h0f5, .ref h1, .ref h2, .int h0f8, .int h0f9, .ref h3, .ref h4, .ref h5, .ref h6, .ref h7, .ref h8, .ref h9, .int h0f17, .int h0f18, .int h0f19, .ref h10, .ref h11, .ref h12, .ref h13, .int h0f24, .int h0f25, .ref h14, .ref h15, .ref h16, .ref h17, .int h0f30, .int h0f31, .ref h18, .ref h19, .ref h20, .ref h21]), (h5, aJ (k 1) 9 (b9P )), (h10, aJ (k 1) 900 (lsP (h0f9.toInt)))] _ := hT
                                          exact ih42_237 v369 (1) _ _ _ (by have := li_1; omega) (by have := li_1; omega)  (by have := li_1; omega) hT hS (lv_sub hl [3, 1, 4, 5, 0] rfl)
                                        · skip
                                          have c_366 := nl_nlt c_366 rfl ll_0
                                          exfalso; omega
                                      · skip
                                        have c_365 := nl_nlt c_365 rfl ll_0
                                        refine lv_iconst (v := 1) hx hb dX11_findForm_164 (by decide) ?_
                                        refine lv_goto (tgt := 169) hx hb dX11_findForm_165 (by decide) ?_
                                        refine lv_lload hx hb dX11_findForm_169 (lv_at hl 6 rfl) ?_
                                        refine lv_lconst (v := 0) hx hb dX11_findForm_171 (by decide) ?_
                                        refine W.lcmp hx hb dX11_findForm_172 ?_
                                        refine lv_if_lt (tgt := 180) hx hb dX11_findForm_173 (by decide) (fun c_370 => ?_) (fun c_370 => ?_)
                                        · skip
                                          have c_370 := nl_lt c_370 rfl ll_0
                                          refine lv_iconst (v := 0) hx hb dX11_findForm_180 (by decide) ?_
                                          refine lv_icmp_ne (tgt := 188) hx hb dX11_findForm_181 (by decide) (fun _ => ?_) (fun cc => absurd cc (by decide +kernel))
                                          refine lv_iconst (v := 0) hx hb dX11_findForm_188 (by decide) ?_
                                          refine lv_istore_n (lv' := [(1, .int 0), (7, .long v355), (0, .ref h0), (2, .int y2), (3, .int y230), (4, .int y235), (5, .long y349)]) hx hb dX11_findForm_189 rfl hl (by decide) rfl (fun ls hl => ?_)
                                          refine lv_aload_n hx hb dX11_findForm_190 rfl (lv_at hl 2 rfl) ?_
                                          refine tz_get (ci := 8) (v := .ref h4) (C := RX11) (F := TX11) (N := 36) hx hb hU iX11 hown hK hT 1 rfl rfl 11 (by decide) w796 (fun _ h9 => h9) rfl dX11_findForm_191 ?_
                                          refine lv_iconst (v := 3) hx hb dX11_findForm_194 (by decide) ?_
                                          refine lv_iload_n hx hb dX11_findForm_195 rfl (lv_at hl 4 rfl) ?_
                                          refine lv_imul hx hb dX11_findForm_196 (lv_topi (fun v371 e_v371 => ?_))
                                          have e_v371 := ai_mul e_v371 li_3 rfl (by omega)
                                          refine lv_iload hx hb dX11_findForm_197 (lv_at hl 5 rfl) ?_
                                          refine lv_iadd hx hb dX11_findForm_199 (lv_topi (fun v372 e_v372 => ?_))
                                          have e_v372 := ai_add e_v372 rfl hz347 (by omega)
                                          refine lv_lload hx hb dX11_findForm_200 (lv_at hl 1 rfl) ?_
                                          refine tz_lastP hx hb hK hT hS 0 (oP ((0 : Int32).toInt) (y2.toInt + y230.toInt + y235.toInt)) rfl (by omega) (o_putx (by omega) (by have := li_0; omega)) dX11_findForm_202 (fun H locs hT hS => ?_)
                                          have hT : TP D A [(h4, aJ (k 1) 9 (oP ((0 : Int32).toInt) (y2.toInt + y230.toInt + y235.toInt))), (h0, ob 8 [.int h0f0, .int h0f1, .int h0f2, .int h0f3, .int h0f4, .int h0f5, .ref h1, .ref h2, .int h0f8, .int h0f9, .ref h3, .ref h4, .ref h5, .ref h6, .ref h7, .ref h8, .ref h9, .int h0f17, .int h0f18, .int h0f19, .ref h10, .ref h11, .ref h12, .ref h13, .int h0f24, .int h0f25, .ref h14, .ref h15, .ref h16, .ref h17, .int h0f30, .int h0f31, .ref h18, .ref h19, .ref h20, .ref h21]), (h5, aJ (k 1) 9 (b9P )), (h10, aJ (k 1) 900 (lsP (h0f9.toInt)))] _ := hT
                                          obtain ⟨v373, e_v373⟩ : ∃ x : Int32, x = y235 + Int32.ofInt 1 := ⟨_, rfl⟩
                                          have f_v373 := e_v373.symm
                                          have e_v373 : v373.toInt = 0 + 1 := ai_add e_v373 hz347 (show (Int32.ofInt 1).toInt = 1 from (by decide +kernel)) (by omega)
                                          refine lv_iinc (v := v373) (lv' := [(4, .int v373), (1, .int 0), (7, .long v355), (0, .ref h0), (2, .int y2), (3, .int y230), (5, .long y349)]) hx hb dX11_findForm_203 hl (k := 5) rfl f_v373 (by decide) rfl (fun ls hl => ?_)
                                          refine lv_goto (tgt := 42) hx hb dX11_findForm_206 (by decide) ?_
                                          have hT := hT.wk (q := 0) (P' := aJ (k 1) 9 (oP ((0 : Int32).toInt) (y2.toInt + y230.toInt + v373.toInt))) rfl (cv_o_o (by have := li_0; omega))
                                          have hT : TP D A [(h4, aJ (k 1) 9 (oP ((0 : Int32).toInt) (y2.toInt + y230.toInt + v373.toInt))), (h0, ob 8 [.int h0f0, .int h0f1, .int h0f2, .int h0f3, .int h0f4, .int h0f5, .ref h1, .ref h2, .int h0f8, .int h0f9, .ref h3, .ref h4, .ref h5, .ref h6, .ref h7, .ref h8, .ref h9, .int h0f17, .int h0f18, .int h0f19, .ref h10, .ref h11, .ref h12, .ref h13, .int h0f24, .int h0f25, .ref h14, .ref h15, .ref h16, .ref h17, .int h0f30, .int h0f31, .ref h18, .ref h19, .ref h20, .ref h21]), (h5, aJ (k 1) 9 (b9P )), (h10, aJ (k 1) 900 (lsP (h0f9.toInt)))] _ := hT
                                          exact ih42_237 v373 (0) _ _ _ (by have := li_0; omega) (by have := li_0; omega)  (by have := li_0; omega) hT hS (lv_sub hl [3, 1, 4, 5, 0] rfl)
                                        · skip
                                          have c_370 := nl_nlt c_370 rfl ll_0
                                          exfalso; omega
                                    · skip
                                      have c_364 := nl_nlt c_364 rfl ll_0
                                      refine lv_iconst (v := 1) hx hb dX11_findForm_149 (by decide) ?_
                                      refine lv_goto (tgt := 154) hx hb dX11_findForm_150 (by decide) ?_
                                      refine lv_icmp_ne (tgt := 184) hx hb dX11_findForm_154 (by decide) (fun _ => ?_) (fun cc => absurd cc (by decide +kernel))
                                      refine lv_iconst (v := 1) hx hb dX11_findForm_184 (by decide) ?_
                                      refine lv_goto (tgt := 189) hx hb dX11_findForm_185 (by decide) ?_
                                      refine lv_istore_n (lv' := [(1, .int 1), (7, .long v355), (0, .ref h0), (2, .int y2), (3, .int y230), (4, .int y235), (5, .long y349)]) hx hb dX11_findForm_189 rfl hl (by decide) rfl (fun ls hl => ?_)
                                      refine lv_aload_n hx hb dX11_findForm_190 rfl (lv_at hl 2 rfl) ?_
                                      refine tz_get (ci := 8) (v := .ref h4) (C := RX11) (F := TX11) (N := 36) hx hb hU iX11 hown hK hT 1 rfl rfl 11 (by decide) w796 (fun _ h9 => h9) rfl dX11_findForm_191 ?_
                                      refine lv_iconst (v := 3) hx hb dX11_findForm_194 (by decide) ?_
                                      refine lv_iload_n hx hb dX11_findForm_195 rfl (lv_at hl 4 rfl) ?_
                                      refine lv_imul hx hb dX11_findForm_196 (lv_topi (fun v374 e_v374 => ?_))
                                      have e_v374 := ai_mul e_v374 li_3 rfl (by omega)
                                      refine lv_iload hx hb dX11_findForm_197 (lv_at hl 5 rfl) ?_
                                      refine lv_iadd hx hb dX11_findForm_199 (lv_topi (fun v375 e_v375 => ?_))
                                      have e_v375 := ai_add e_v375 rfl hz347 (by omega)
                                      refine lv_lload hx hb dX11_findForm_200 (lv_at hl 1 rfl) ?_
                                      refine tz_lastP hx hb hK hT hS 0 (oP ((1 : Int32).toInt) (y2.toInt + y230.toInt + y235.toInt)) rfl (by omega) (o_putx (by omega) (by have := li_1; omega)) dX11_findForm_202 (fun H locs hT hS => ?_)
                                      have hT : TP D A [(h4, aJ (k 1) 9 (oP ((1 : Int32).toInt) (y2.toInt + y230.toInt + y235.toInt))), (h0, ob 8 [.int h0f0, .int h0f1, .int h0f2, .int h0f3, .int h0f4, .int h0f5, .ref h1, .ref h2, .int h0f8, .int h0f9, .ref h3, .ref h4, .ref h5, .ref h6, .ref h7, .ref h8, .ref h9, .int h0f17, .int h0f18, .int h0f19, .ref h10, .ref h11, .ref h12, .ref h13, .int h0f24, .int h0f25, .ref h14, .ref h15, .ref h16, .ref h17, .int h0f30, .int h0f31, .ref h18, .ref h19, .ref h20, .ref h21]), (h5, aJ (k 1) 9 (b9P )), (h10, aJ (k 1) 900 (lsP (h0f9.toInt)))] _ := hT
                                      obtain ⟨v376, e_v376⟩ : ∃ x : Int32, x = y235 + Int32.ofInt 1 := ⟨_, rfl⟩
                                      have f_v376 := e_v376.symm
                                      have e_v376 : v376.toInt = 0 + 1 := ai_add e_v376 hz347 (show (Int32.ofInt 1).toInt = 1 from (by decide +kernel)) (by omega)
                                      refine lv_iinc (v := v376) (lv' := [(4, .int v376), (1, .int 1), (7, .long v355), (0, .ref h0), (2, .int y2), (3, .int y230), (5, .long y349)]) hx hb dX11_findForm_203 hl (k := 5) rfl f_v376 (by decide) rfl (fun ls hl => ?_)
                                      refine lv_goto (tgt := 42) hx hb dX11_findForm_206 (by decide) ?_
                                      have hT := hT.wk (q := 0) (P' := aJ (k 1) 9 (oP ((1 : Int32).toInt) (y2.toInt + y230.toInt + v376.toInt))) rfl (cv_o_o (by have := li_1; omega))
                                      have hT : TP D A [(h4, aJ (k 1) 9 (oP ((1 : Int32).toInt) (y2.toInt + y230.toInt + v376.toInt))), (h0, ob 8 [.int h0f0, .int h0f1, .int h0f2, .int h0f3, .int h0f4, .int h0f5, .ref h1, .ref h2, .int h0f8, .int h0f9, .ref h3, .ref h4, .ref h5, .ref h6, .ref h7, .ref h8, .ref h9, .int h0f17, .int h0f18, .int h0f19, .ref h10, .ref h11, .ref h12, .ref h13, .int h0f24, .int h0f25, .ref h14, .ref h15, .ref h16, .ref h17, .int h0f30, .int h0f31, .ref h18, .ref h19, .ref h20, .ref h21]), (h5, aJ (k 1) 9 (b9P )), (h10, aJ (k 1) 900 (lsP (h0f9.toInt)))] _ := hT
                                      exact ih42_237 v376 (1) _ _ _ (by have := li_1; omega) (by have := li_1; omega)  (by have := li_1; omega) hT hS (lv_sub hl [3, 1, 4, 5, 0] rfl)
                                  · skip
                                    have c_363 := nl_nlt c_363 rfl ll_0
                                    refine lv_iconst (v := 1) hx hb dX11_findForm_137 (by decide) ?_
                                    refine lv_goto (tgt := 142) hx hb dX11_findForm_138 (by decide) ?_
                                    refine lv_lload hx hb dX11_findForm_142 (lv_at hl 6 rfl) ?_
                                    refine lv_lconst (v := 0) hx hb dX11_findForm_144 (by decide) ?_
                                    refine W.lcmp hx hb dX11_findForm_145 ?_
                                    refine lv_if_lt (tgt := 153) hx hb dX11_findForm_146 (by decide) (fun c_377 => ?_) (fun c_377 => ?_)
                                    · skip
                                      have c_377 := nl_lt c_377 rfl ll_0
                                      refine lv_iconst (v := 0) hx hb dX11_findForm_153 (by decide) ?_
                                      refine lv_icmp_ne (tgt := 184) hx hb dX11_findForm_154 (by decide) (fun _ => ?_) (fun cc => absurd cc (by decide +kernel))
                                      refine lv_iconst (v := 1) hx hb dX11_findForm_184 (by decide) ?_
                                      refine lv_goto (tgt := 189) hx hb dX11_findForm_185 (by decide) ?_
                                      refine lv_istore_n (lv' := [(1, .int 1), (7, .long v355), (0, .ref h0), (2, .int y2), (3, .int y230), (4, .int y235), (5, .long y349)]) hx hb dX11_findForm_189 rfl hl (by decide) rfl (fun ls hl => ?_)
                                      refine lv_aload_n hx hb dX11_findForm_190 rfl (lv_at hl 2 rfl) ?_
                                      refine tz_get (ci := 8) (v := .ref h4) (C := RX11) (F := TX11) (N := 36) hx hb hU iX11 hown hK hT 1 rfl rfl 11 (by decide) w796 (fun _ h9 => h9) rfl dX11_findForm_191 ?_
                                      refine lv_iconst (v := 3) hx hb dX11_findForm_194 (by decide) ?_
                                      refine lv_iload_n hx hb dX11_findForm_195 rfl (lv_at hl 4 rfl) ?_
                                      refine lv_imul hx hb dX11_findForm_196 (lv_topi (fun v378 e_v378 => ?_))
                                      have e_v378 := ai_mul e_v378 li_3 rfl (by omega)
                                      refine lv_iload hx hb dX11_findForm_197 (lv_at hl 5 rfl) ?_
                                      refine lv_iadd hx hb dX11_findForm_199 (lv_topi (fun v379 e_v379 => ?_))
                                      have e_v379 := ai_add e_v379 rfl hz347 (by omega)
                                      refine lv_lload hx hb dX11_findForm_200 (lv_at hl 1 rfl) ?_
                                      refine tz_lastP hx hb hK hT hS 0 (oP ((1 : Int32).toInt) (y2.toInt + y230.toInt + y235.toInt)) rfl (by omega) (o_putx (by omega) (by have := li_1; omega)) dX11_findForm_202 (fun H locs hT hS => ?_)
                                      have hT : TP D A [(h4, aJ (k 1) 9 (oP ((1 : Int32).toInt) (y2.toInt + y230.toInt + y235.toInt))), (h0, ob 8 [.int h0f0, .int h0f1, .int h0f2, .int h0f3, .int h0f4, .int h0f5, .ref h1, .ref h2, .int h0f8, .int h0f9, .ref h3, .ref h4, .ref h5, .ref h6, .ref h7, .ref h8, .ref h9, .int h0f17, .int h0f18, .int h0f19, .ref h10, .ref h11, .ref h12, .ref h13, .int h0f24, .int h0f25, .ref h14, .ref h15, .ref h16, .ref h17, .int h0f30, .int h0f31, .ref h18, .ref h19, .ref h20, .ref h21]), (h5, aJ (k 1) 9 (b9P )), (h10, aJ (k 1) 900 (lsP (h0f9.toInt)))] _ := hT
                                      obtain ⟨v380, e_v380⟩ : ∃ x : Int32, x = y235 + Int32.ofInt 1 := ⟨_, rfl⟩
                                      have f_v380 := e_v380.symm
                                      have e_v380 : v380.toInt = 0 + 1 := ai_add e_v380 hz347 (show (Int32.ofInt 1).toInt = 1 from (by decide +kernel)) (by omega)
                                      refine lv_iinc (v := v380) (lv' := [(4, .int v380), (1, .int 1), (7, .long v355), (0, .ref h0), (2, .int y2), (3, .int y230), (5, .long y349)]) hx hb dX11_findForm_203 hl (k := 5) rfl f_v380 (by decide) rfl (fun ls hl => ?_)
                                      refine lv_goto (tgt := 42) hx hb dX11_findForm_206 (by decide) ?_
                                      have hT := hT.wk (q := 0) (P' := aJ (k 1) 9 (oP ((1 : Int32).toInt) (y2.toInt + y230.toInt + v380.toInt))) rfl (cv_o_o (by have := li_1; omega))
                                      have hT : TP D A [(h4, aJ (k 1) 9 (oP ((1 : Int32).toInt) (y2.toInt + y230.toInt + v380.toInt))), (h0, ob 8 [.int h0f0, .int h0f1, .int h0f2, .int h0f3, .int h0f4, .int h0f5, .ref h1, .ref h2, .int h0f8, .int h0f9, .ref h3, .ref h4, .ref h5, .ref h6, .ref h7, .ref h8, .ref h9, .int h0f17, .int h0f18, .int h0f19, .ref h10, .ref h11, .ref h12, .ref h13, .int h0f24, .int h0f25, .ref h14, .ref h15, .ref h16, .ref h17, .int h0f30, .int h0f31, .ref h18, .ref h19, .ref h20, .ref h21]), (h5, aJ (k 1) 9 (b9P )), (h10, aJ (k 1) 900 (lsP (h0f9.toInt)))] _ := hT
                                      exact ih42_237 v380 (1) _ _ _ (by have := li_1; omega) (by have := li_1; omega)  (by have := li_1; omega) hT hS (lv_sub hl [3, 1, 4, 5, 0] rfl)
                                    · skip
                                      have c_377 := nl_nlt c_377 rfl ll_0
                                      refine lv_iconst (v := 1) hx hb dX11_findForm_149 (by decide) ?_
                                      refine lv_goto (tgt := 154) hx hb dX11_findForm_150 (by decide) ?_
                                      refine lv_icmp_ne (tgt := 184) hx hb dX11_findForm_154 (by decide) (fun cc => absurd (by decide +kernel) cc) (fun _ => ?_)
                                      refine lv_lload hx hb dX11_findForm_157 (lv_at hl 0 rfl) ?_
                                      refine lv_lconst (v := 0) hx hb dX11_findForm_159 (by decide) ?_
                                      refine W.lcmp hx hb dX11_findForm_160 ?_
                                      refine lv_if_lt (tgt := 168) hx hb dX11_findForm_161 (by decide) (fun c_381 => ?_) (fun c_381 => ?_)
                                      · skip
                                        have c_381 := nl_lt c_381 rfl ll_0
                                        refine lv_iconst (v := 0) hx hb dX11_findForm_168 (by decide) ?_
                                        refine lv_lload hx hb dX11_findForm_169 (lv_at hl 6 rfl) ?_
                                        refine lv_lconst (v := 0) hx hb dX11_findForm_171 (by decide) ?_
                                        refine W.lcmp hx hb dX11_findForm_172 ?_
                                        refine lv_if_lt (tgt := 180) hx hb dX11_findForm_173 (by decide) (fun c_382 => ?_) (fun c_382 => ?_)
                                        · skip
                                          have c_382 := nl_lt c_382 rfl ll_0
                                          exfalso; omega
                                        · skip
                                          have c_382 := nl_nlt c_382 rfl ll_0
                                          refine lv_iconst (v := 1) hx hb dX11_findForm_176 (by decide) ?_
                                          refine lv_goto (tgt := 181) hx hb dX11_findForm_177 (by decide) ?_
                                          refine lv_icmp_ne (tgt := 188) hx hb dX11_findForm_181 (by decide) (fun _ => ?_) (fun cc => absurd cc (by decide +kernel))
                                          refine lv_iconst (v := 0) hx hb dX11_findForm_188 (by decide) ?_
                                          refine lv_istore_n (lv' := [(1, .int 0), (7, .long v355), (0, .ref h0), (2, .int y2), (3, .int y230), (4, .int y235), (5, .long y349)]) hx hb dX11_findForm_189 rfl hl (by decide) rfl (fun ls hl => ?_)
                                          refine lv_aload_n hx hb dX11_findForm_190 rfl (lv_at hl 2 rfl) ?_
                                          refine tz_get (ci := 8) (v := .ref h4) (C := RX11) (F := TX11) (N := 36) hx hb hU iX11 hown hK hT 1 rfl rfl 11 (by decide) w796 (fun _ h9 => h9) rfl dX11_findForm_191 ?_
                                          refine lv_iconst (v := 3) hx hb dX11_findForm_194 (by decide) ?_
                                          refine lv_iload_n hx hb dX11_findForm_195 rfl (lv_at hl 4 rfl) ?_
                                          refine lv_imul hx hb dX11_findForm_196 (lv_topi (fun v383 e_v383 => ?_))
                                          have e_v383 := ai_mul e_v383 li_3 rfl (by omega)
                                          refine lv_iload hx hb dX11_findForm_197 (lv_at hl 5 rfl) ?_
                                          refine lv_iadd hx hb dX11_findForm_199 (lv_topi (fun v384 e_v384 => ?_))
                                          have e_v384 := ai_add e_v384 rfl hz347 (by omega)
                                          refine lv_lload hx hb dX11_findForm_200 (lv_at hl 1 rfl) ?_
                                          refine tz_lastP hx hb hK hT hS 0 (oP ((0 : Int32).toInt) (y2.toInt + y230.toInt + y235.toInt)) rfl (by omega) (o_putx (by omega) (by have := li_0; omega)) dX11_findForm_202 (fun H locs hT hS => ?_)
                                          have hT : TP D A [(h4, aJ (k 1) 9 (oP ((0 : Int32).toInt) (y2.toInt + y230.toInt + y235.toInt))), (h0, ob 8 [.int h0f0, .int h0f1, .int h0f2, .int h0f3, .int h0f4, .int h0f5, .ref h1, .ref h2, .int h0f8, .int h0f9, .ref h3, .ref h4, .ref h5, .ref h6, .ref h7, .ref h8, .ref h9, .int h0f17, .int h0f18, .int h0f19, .ref h10, .ref h11, .ref h12, .ref h13, .int h0f24, .int h0f25, .ref h14, .ref h15, .ref h16, .ref h17, .int h0f30, .int h0f31, .ref h18, .ref h19, .ref h20, .ref h21]), (h5, aJ (k 1) 9 (b9P )), (h10, aJ (k 1) 900 (lsP (h0f9.toInt)))] _ := hT
                                          obtain ⟨v385, e_v385⟩ : ∃ x : Int32, x = y235 + Int32.ofInt 1 := ⟨_, rfl⟩
                                          have f_v385 := e_v385.symm
                                          have e_v385 : v385.toInt = 0 + 1 := ai_add e_v385 hz347 (show (Int32.ofInt 1).toInt = 1 from (by decide +kernel)) (by omega)
                                          refine lv_iinc (v := v385) (lv' := [(4, .int v385), (1, .int 0), (7, .long v355), (0, .ref h0), (2, .int y2), (3, .int y230), (5, .long y349)]) hx hb dX11_findForm_203 hl (k := 5) rfl f_v385 (by decide) rfl (fun ls hl => ?_)
                                          refine lv_goto (tgt := 42) hx hb dX11_findForm_206 (by decide) ?_
                                          have hT := hT.wk (q := 0) (P' := aJ (k 1) 9 (oP ((0 : Int32).toInt) (y2.toInt + y230.toInt + v385.toInt))) rfl (cv_o_o (by have := li_0; omega))
                                          have hT : TP D A [(h4, aJ (k 1) 9 (oP ((0 : Int32).toInt) (y2.toInt + y230.toInt + v385.toInt))), (h0, ob 8 [.int h0f0, .int h0f1, .int h0f2, .int h0f3, .int h0f4, .int h0f5, .ref h1, .ref h2, .int h0f8, .int h0f9, .ref h3, .ref h4, .ref h5, .ref h6, .ref h7, .ref h8, .ref h9, .int h0f17, .int h0f18, .int h0f19, .ref h10, .ref h11, .ref h12, .ref h13, .int h0f24, .int h0f25, .ref h14, .ref h15, .ref h16, .ref h17, .int h0f30, .int h0f31, .ref h18, .ref h19, .ref h20, .ref h21]), (h5, aJ (k 1) 9 (b9P )), (h10, aJ (k 1) 900 (lsP (h0f9.toInt)))] _ := hT
                                          exact ih42_237 v385 (0) _ _ _ (by have := li_0; omega) (by have := li_0; omega)  (by have := li_0; omega) hT hS (lv_sub hl [3, 1, 4, 5, 0] rfl)
                                      · skip
                                        have c_381 := nl_nlt c_381 rfl ll_0
                                        refine lv_iconst (v := 1) hx hb dX11_findForm_164 (by decide) ?_
                                        refine lv_goto (tgt := 169) hx hb dX11_findForm_165 (by decide) ?_
                                        refine lv_lload hx hb dX11_findForm_169 (lv_at hl 6 rfl) ?_
                                        refine lv_lconst (v := 0) hx hb dX11_findForm_171 (by decide) ?_
                                        refine W.lcmp hx hb dX11_findForm_172 ?_
                                        refine lv_if_lt (tgt := 180) hx hb dX11_findForm_173 (by decide) (fun c_386 => ?_) (fun c_386 => ?_)
                                        · skip
                                          have c_386 := nl_lt c_386 rfl ll_0
                                          exfalso; omega
                                        · skip
                                          have c_386 := nl_nlt c_386 rfl ll_0
                                          refine lv_iconst (v := 1) hx hb dX11_findForm_176 (by decide) ?_
                                          refine lv_goto (tgt := 181) hx hb dX11_findForm_177 (by decide) ?_
                                          refine lv_icmp_ne (tgt := 188) hx hb dX11_findForm_181 (by decide) (fun cc => absurd (by decide +kernel) cc) (fun _ => ?_)
                                          refine lv_iconst (v := 1) hx hb dX11_findForm_184 (by decide) ?_
                                          refine lv_goto (tgt := 189) hx hb dX11_findForm_185 (by decide) ?_
                                          refine lv_istore_n (lv' := [(1, .int 1), (7, .long v355), (0, .ref h0), (2, .int y2), (3, .int y230), (4, .int y235), (5, .long y349)]) hx hb dX11_findForm_189 rfl hl (by decide) rfl (fun ls hl => ?_)
                                          refine lv_aload_n hx hb dX11_findForm_190 rfl (lv_at hl 2 rfl) ?_
                                          refine tz_get (ci := 8) (v := .ref h4) (C := RX11) (F := TX11) (N := 36) hx hb hU iX11 hown hK hT 1 rfl rfl 11 (by decide) w796 (fun _ h9 => h9) rfl dX11_findForm_191 ?_
                                          refine lv_iconst (v := 3) hx hb dX11_findForm_194 (by decide) ?_
                                          refine lv_iload_n hx hb dX11_findForm_195 rfl (lv_at hl 4 rfl) ?_
                                          refine lv_imul hx hb dX11_findForm_196 (lv_topi (fun v387 e_v387 => ?_))
                                          have e_v387 := ai_mul e_v387 li_3 rfl (by omega)
                                          refine lv_iload hx hb dX11_findForm_197 (lv_at hl 5 rfl) ?_
                                          refine lv_iadd hx hb dX11_findForm_199 (lv_topi (fun v388 e_v388 => ?_))
                                          have e_v388 := ai_add e_v388 rfl hz347 (by omega)
                                          refine lv_lload hx hb dX11_findForm_200 (lv_at hl 1 rfl) ?_
                                          refine tz_lastP hx hb hK hT hS 0 (oP ((1 : Int32).toInt) (y2.toInt + y230.toInt + y235.toInt)) rfl (by omega) (o_putx (by omega) (by have := li_1; omega)) dX11_findForm_202 (fun H locs hT hS => ?_)
                                          have hT : TP D A [(h4, aJ (k 1) 9 (oP ((1 : Int32).toInt) (y2.toInt + y230.toInt + y235.toInt))), (h0, ob 8 [.int h0f0, .int h0f1, .int h0f2, .int h0f3, .int h0f4, .int h0f5, .ref h1, .ref h2, .int h0f8, .int h0f9, .ref h3, .ref h4, .ref h5, .ref h6, .ref h7, .ref h8, .ref h9, .int h0f17, .int h0f18, .int h0f19, .ref h10, .ref h11, .ref h12, .ref h13, .int h0f24, .int h0f25, .ref h14, .ref h15, .ref h16, .ref h17, .int h0f30, .int h0f31, .ref h18, .ref h19, .ref h20, .ref h21]), (h5, aJ (k 1) 9 (b9P )), (h10, aJ (k 1) 900 (lsP (h0f9.toInt)))] _ := hT
                                          obtain ⟨v389, e_v389⟩ : ∃ x : Int32, x = y235 + Int32.ofInt 1 := ⟨_, rfl⟩
                                          have f_v389 := e_v389.symm
                                          have e_v389 : v389.toInt = 0 + 1 := ai_add e_v389 hz347 (show (Int32.ofInt 1).toInt = 1 from (by decide +kernel)) (by omega)
                                          refine lv_iinc (v := v389) (lv' := [(4, .int v389), (1, .int 1), (7, .long v355), (0, .ref h0), (2, .int y2), (3, .int y230), (5, .long y349)]) hx hb dX11_findForm_203 hl (k := 5) rfl f_v389 (by decide) rfl (fun ls hl => ?_)
                                          refine lv_goto (tgt := 42) hx hb dX11_findForm_206 (by decide) ?_
                                          have hT := hT.wk (q := 0) (P' := aJ (k 1) 9 (oP ((1 : Int32).toInt) (y2.toInt + y230.toInt + v389.toInt))) rfl (cv_o_o (by have := li_1; omega))
                                          have hT : TP D A [(h4, aJ (k 1) 9 (oP ((1 : Int32).toInt) (y2.toInt + y230.toInt + v389.toInt))), (h0, ob 8 [.int h0f0, .int h0f1, .int h0f2, .int h0f3, .int h0f4, .int h0f5, .ref h1, .ref h2, .int h0f8, .int h0f9, .ref h3, .ref h4, .ref h5, .ref h6, .ref h7, .ref h8, .ref h9, .int h0f17, .int h0f18, .int h0f19, .ref h10, .ref h11, .ref h12, .ref h13, .int h0f24, .int h0f25, .ref h14, .ref h15, .ref h16, .ref h17, .int h0f30, .int h0f31, .ref h18, .ref h19, .ref h20, .ref h21]), (h5, aJ (k 1) 9 (b9P )), (h10, aJ (k 1) 900 (lsP (h0f9.toInt)))] _ := hT
                                          exact ih42_237 v389 (1) _ _ _ (by have := li_1; omega) (by have := li_1; omega)  (by have := li_1; omega) hT hS (lv_sub hl [3, 1, 4, 5, 0] rfl)
                              · skip
                                have c_351 := ni_nle c_351 rfl rfl
                                refine lv_lload hx hb dX11_findForm_66 (lv_at hl 5 rfl) ?_
                                refine lv_aload_n hx hb dX11_findForm_68 rfl (lv_at hl 0 rfl) ?_
                                refine tz_get (ci := 8) (v := .ref h5) (C := RX11) (F := TX11) (N := 36) hx hb hU iX11 hown hK hT 1 rfl rfl 12 (by decide) w797 (fun _ h9 => h9) rfl dX11_findForm_69 ?_
                                refine lv_iconst (v := 3) hx hb dX11_findForm_72 (by decide) ?_
                                refine lv_iload hx hb dX11_findForm_73 (lv_at hl 6 rfl) ?_
                                refine lv_imul hx hb dX11_findForm_75 (lv_topi (fun v390 e_v390 => ?_))
                                have e_v390 := ai_mul e_v390 li_3 rfl (by omega)
                                refine lv_iload_n hx hb dX11_findForm_76 rfl (lv_at hl 3 rfl) ?_
                                refine lv_iadd hx hb dX11_findForm_77 (lv_topi (fun v391 e_v391 => ?_))
                                have e_v391 := ai_add e_v391 rfl rfl (by omega)
                                refine tz_lald hx hb hK hT 2 rfl (by omega) dX11_findForm_78 (fun v392 e_v392 => ?_)
                                clear e_v392
                                refine lv_aload_n hx hb dX11_findForm_79 rfl (lv_at hl 0 rfl) ?_
                                refine tz_get (ci := 8) (v := .ref h5) (C := RX11) (F := TX11) (N := 36) hx hb hU iX11 hown hK hT 1 rfl rfl 12 (by decide) w797 (fun _ h9 => h9) rfl dX11_findForm_80 ?_
                                refine lv_iconst (v := 3) hx hb dX11_findForm_83 (by decide) ?_
                                refine lv_iload hx hb dX11_findForm_84 (lv_at hl 6 rfl) ?_
                                refine lv_imul hx hb dX11_findForm_86 (lv_topi (fun v393 e_v393 => ?_))
                                have e_v393 := ai_mul e_v393 li_3 rfl (by omega)
                                refine lv_iload hx hb dX11_findForm_87 (lv_at hl 4 rfl) ?_
                                refine lv_iadd hx hb dX11_findForm_89 (lv_topi (fun v394 e_v394 => ?_))
                                have e_v394 := ai_add e_v394 rfl hz347 (by omega)
                                refine tz_lald hx hb hK hT 2 rfl (by omega) dX11_findForm_90 (fun v395 e_v395 => ?_)
                                clear e_v395
                                refine lv_lmul hx hb dX11_findForm_91 (lv_topl (fun v396 e_v396 => ?_))
                                refine lv_ladd hx hb dX11_findForm_92 (lv_topl (fun v397 e_v397 => ?_))
                                refine lv_lstore (lv' := [(5, .long v397), (0, .ref h0), (1, .int y236), (2, .int y2), (3, .int y230), (4, .int y235), (7, .int y348)]) hx hb dX11_findForm_93 hl (by decide) rfl (fun ls hl => ?_)
                                obtain ⟨v398, e_v398⟩ : ∃ x : Int32, x = y348 + Int32.ofInt 1 := ⟨_, rfl⟩
                                have f_v398 := e_v398.symm
                                have e_v398 : v398.toInt = y348.toInt + 1 := ai_add e_v398 rfl (show (Int32.ofInt 1).toInt = 1 from (by decide +kernel)) (by omega)
                                refine lv_iinc (v := v398) (lv' := [(7, .int v398), (5, .long v397), (0, .ref h0), (1, .int y236), (2, .int y2), (3, .int y230), (4, .int y235)]) hx hb dX11_findForm_95 hl (k := 6) rfl f_v398 (by decide) rfl (fun ls hl => ?_)
                                refine lv_goto (tgt := 57) hx hb dX11_findForm_98 (by decide) ?_
                                exact ih57_350 v398 v397 _ _ _ (by omega)  (by omega) hT hS (lv_sub hl [2, 3, 4, 5, 6, 1, 0] rfl)
                          exact lp57_350 ((h0f0.toInt + (-1) * (0 : Int32).toInt + 1).toNat + 1) (0) (0) _ _ _ (by have := li_0; have := ll_0; omega)  (Nat.lt_succ_self _) hT hS (lv_sub hl [2, 3, 4, 5, 6, 1, 0] rfl)
                        · skip
                          refine lv_lconst (v := 0) hx hb dX11_findForm_51 (by decide) ?_
                          refine lv_lstore (lv' := [(5, .long 0), (0, .ref h0), (1, .int y236), (2, .int y2), (3, .int y230), (4, .int y235)]) hx hb dX11_findForm_52 hl (by decide) rfl (fun ls hl => ?_)
                          refine lv_iconst (v := 0) hx hb dX11_findForm_54 (by decide) ?_
                          refine lv_istore (lv' := [(7, .int 0), (5, .long 0), (0, .ref h0), (1, .int y236), (2, .int y2), (3, .int y230), (4, .int y235)]) hx hb dX11_findForm_55 hl (by decide) rfl (fun ls hl => ?_)
                          have lp57_401 : ∀ (n : Nat) (y399 : Int32) (y400 : Int64) (H : Heap) (locs : List Loc) (ls : Array Slot), (0 ≤ y399.toInt ∧ y399.toInt ≤ 3) → (h0f0.toInt + (-1) * y399.toInt + 1).toNat < n → TP D A [(h4, aJ (k 1) 9 (oP (y236.toInt) (y2.toInt + y230.toInt + y235.toInt))), (h0, ob 8 [.int h0f0, .int h0f1, .int h0f2, .int h0f3, .int h0f4, .int h0f5, .ref h1, .ref h2, .int h0f8, .int h0f9, .ref h3, .ref h4, .ref h5, .ref h6, .ref h7, .ref h8, .ref h9, .int h0f17, .int h0f18, .int h0f19, .ref h10, .ref h11, .ref h12, .ref h13, .int h0f24, .int h0f25, .ref h14, .ref h15, .ref h16, .ref h17, .int h0f30, .int h0f31, .ref h18, .ref h19, .ref h20, .ref h21]), (h5, aJ (k 1) 9 (b9P )), (h10, aJ (k 1) 900 (lsP (h0f9.toInt)))] H → va_S A s.heap H locs → lv_has ls 9 [(0, .ref h0), (1, .int y236), (2, .int y2), (3, .int y230), (4, .int y235), (5, .long y400), (7, .int y399)] → W p l e Rm_cX11_findForm_b515d s m args below meth c H locs 0 0 Q (F0 m 57 ls []) := by
                            intro n
                            induction n with
                            | zero => intro y399 y400 H locs ls b_y399 hm hT hS hl; exact absurd hm (Nat.not_lt_zero _)
                            | succ n ih =>
                              intro y399 y400 H locs ls b_y399 hm hT hS hl
                              have ih57_401 := ih
                              clear ih
                              refine lv_iload hx hb dX11_findForm_57 (lv_at hl 6 rfl) ?_
                              refine lv_aload_n hx hb dX11_findForm_59 rfl (lv_at hl 0 rfl) ?_
                              refine tz_get (ci := 8) (v := .int h0f0) (C := RX11) (F := TX11) (N := 36) hx hb hU iX11 hown hK hT 1 rfl rfl 0 (by decide) w785 (fun _ h9 => h9) rfl dX11_findForm_60 ?_
                              refine lv_icmp_ge (tgt := 101) hx hb dX11_findForm_63 (by decide) (fun c_402 => ?_) (fun c_402 => ?_)
                              · skip
                                have c_402 := ni_le c_402 rfl rfl
                                refine lv_aload_n hx hb dX11_findForm_101 rfl (lv_at hl 0 rfl) ?_
                                refine tz_get (ci := 8) (v := .ref h4) (C := RX11) (F := TX11) (N := 36) hx hb hU iX11 hown hK hT 1 rfl rfl 11 (by decide) w796 (fun _ h9 => h9) rfl dX11_findForm_102 ?_
                                refine lv_iconst (v := 3) hx hb dX11_findForm_105 (by decide) ?_
                                refine lv_iload_n hx hb dX11_findForm_106 rfl (lv_at hl 3 rfl) ?_
                                refine lv_imul hx hb dX11_findForm_107 (lv_topi (fun v403 e_v403 => ?_))
                                have e_v403 := ai_mul e_v403 li_3 rfl (by omega)
                                refine lv_iload hx hb dX11_findForm_108 (lv_at hl 4 rfl) ?_
                                refine lv_iadd hx hb dX11_findForm_110 (lv_topi (fun v404 e_v404 => ?_))
                                have e_v404 := ai_add e_v404 rfl rfl (by omega)
                                refine tz_lald hx hb hK hT 0 rfl (by omega) dX11_findForm_111 (fun v405 e_v405 => ?_)
                                clear e_v405
                                refine lv_lload hx hb dX11_findForm_112 (lv_at hl 5 rfl) ?_
                                refine lv_ladd hx hb dX11_findForm_114 (lv_topl (fun v406 e_v406 => ?_))
                                refine lv_lstore (lv' := [(7, .long v406), (0, .ref h0), (1, .int y236), (2, .int y2), (3, .int y230), (4, .int y235), (5, .long y400)]) hx hb dX11_findForm_115 hl (by decide) rfl (fun ls hl => ?_)
                                refine lv_iload_n hx hb dX11_findForm_117 rfl (lv_at hl 2 rfl) ?_
                                refine lv_if_eq (tgt := 188) hx hb dX11_findForm_118 (by decide) (fun c_407 => ?_) (fun c_407 => ?_)
                                · skip
                                  have c_407 := ni_eq c_407 rfl li_0
                                  refine lv_iconst (v := 0) hx hb dX11_findForm_188 (by decide) ?_
                                  refine lv_istore_n (lv' := [(1, .int 0), (7, .long v406), (0, .ref h0), (2, .int y2), (3, .int y230), (4, .int y235), (5, .long y400)]) hx hb dX11_findForm_189 rfl hl (by decide) rfl (fun ls hl => ?_)
                                  refine lv_aload_n hx hb dX11_findForm_190 rfl (lv_at hl 2 rfl) ?_
                                  refine tz_get (ci := 8) (v := .ref h4) (C := RX11) (F := TX11) (N := 36) hx hb hU iX11 hown hK hT 1 rfl rfl 11 (by decide) w796 (fun _ h9 => h9) rfl dX11_findForm_191 ?_
                                  refine lv_iconst (v := 3) hx hb dX11_findForm_194 (by decide) ?_
                                  refine lv_iload_n hx hb dX11_findForm_195 rfl (lv_at hl 4 rfl) ?_
                                  refine lv_imul hx hb dX11_findForm_196 (lv_topi (fun v408 e_v408 => ?_))
                                  have e_v408 := ai_mul e_v408 li_3 rfl (by omega)
                                  refine lv_iload hx hb dX11_findForm_197 (lv_at hl 5 rfl) ?_
                                  refine lv_iadd hx hb dX11_findForm_199 (lv_topi (fun v409 e_v409 => ?_))
                                  have e_v409 := ai_add e_v409 rfl rfl (by omega)
                                  refine lv_lload hx hb dX11_findForm_200 (lv_at hl 1 rfl) ?_
                                  refine tz_lastP hx hb hK hT hS 0 (oP ((0 : Int32).toInt) (y2.toInt + y230.toInt + y235.toInt)) rfl (by omega) (o_putx (by omega) (by have := li_0; omega)) dX11_findForm_202 (fun H locs hT hS => ?_)
                                  have hT : TP D A [(h4, aJ (k 1) 9 (oP ((0 : Int32).toInt) (y2.toInt + y230.toInt + y235.toInt))), (h0, ob 8 [.int h0f0, .int h0f1, .int h0f2, .int h0f3, .int h0f4, .int h0f5, .ref h1, .ref h2, .int h0f8, .int h0f9, .ref h3, .ref h4, .ref h5, .ref h6, .ref h7, .ref h8, .ref h9, .int h0f17, .int h0f18, .int h0f19, .ref h10, .ref h11, .ref h12, .ref h13, .int h0f24, .int h0f25, .ref h14, .ref h15, .ref h16, .ref h17, .int h0f30, .int h0f31, .ref h18, .ref h19, .ref h20, .ref h21]), (h5, aJ (k 1) 9 (b9P )), (h10, aJ (k 1) 900 (lsP (h0f9.toInt)))] _ := hT
                                  obtain ⟨v410, e_v410⟩ : ∃ x : Int32, x = y235 + Int32.ofInt 1 := ⟨_, rfl⟩
                                  have f_v410 := e_v410.symm
                                  have e_v410 : v410.toInt = y235.toInt + 1 := ai_add e_v410 rfl (show (Int32.ofInt 1).toInt = 1 from (by decide +kernel)) (by omega)
                                  refine lv_iinc (v := v410) (lv' := [(4, .int v410), (1, .int 0), (7, .long v406), (0, .ref h0), (2, .int y2), (3, .int y230), (5, .long y400)]) hx hb dX11_findForm_203 hl (k := 5) rfl f_v410 (by decide) rfl (fun ls hl => ?_)
                                  refine lv_goto (tgt := 42) hx hb dX11_findForm_206 (by decide) ?_
                                  have hT := hT.wk (q := 0) (P' := aJ (k 1) 9 (oP ((0 : Int32).toInt) (y2.toInt + y230.toInt + v410.toInt))) rfl (cv_o_o (by have := li_0; omega))
                                  have hT : TP D A [(h4, aJ (k 1) 9 (oP ((0 : Int32).toInt) (y2.toInt + y230.toInt + v410.toInt))), (h0, ob 8 [.int h0f0, .int h0f1, .int h0f2, .int h0f3, .int h0f4, .int h0f5, .ref h1, .ref h2, .int h0f8, .int h0f9, .ref h3, .ref h4, .ref h5, .ref h6, .ref h7, .ref h8, .ref h9, .int h0f17, .int h0f18, .int h0f19, .ref h10, .ref h11, .ref h12, .ref h13, .int h0f24, .int h0f25, .ref h14, .ref h15, .ref h16, .ref h17, .int h0f30, .int h0f31, .ref h18, .ref h19, .ref h20, .ref h21]), (h5, aJ (k 1) 9 (b9P )), (h10, aJ (k 1) 900 (lsP (h0f9.toInt)))] _ := hT
                                  exact ih42_237 v410 (0) _ _ _ (by have := li_0; omega) (by have := li_0; omega)  (by have := li_0; omega) hT hS (lv_sub hl [3, 1, 4, 5, 0] rfl)
                                · skip
                                  have c_407 := ni_ne c_407 rfl li_0
                                  refine lv_aload_n hx hb dX11_findForm_121 rfl (lv_at hl 1 rfl) ?_
                                  refine tz_get (ci := 8) (v := .ref h4) (C := RX11) (F := TX11) (N := 36) hx hb hU iX11 hown hK hT 1 rfl rfl 11 (by decide) w796 (fun _ h9 => h9) rfl dX11_findForm_122 ?_
                                  refine lv_iconst (v := 3) hx hb dX11_findForm_125 (by decide) ?_
                                  refine lv_iload_n hx hb dX11_findForm_126 rfl (lv_at hl 4 rfl) ?_
                                  refine lv_imul hx hb dX11_findForm_127 (lv_topi (fun v411 e_v411 => ?_))
                                  have e_v411 := ai_mul e_v411 li_3 rfl (by omega)
                                  refine lv_iload hx hb dX11_findForm_128 (lv_at hl 5 rfl) ?_
                                  refine lv_iadd hx hb dX11_findForm_130 (lv_topi (fun v412 e_v412 => ?_))
                                  have e_v412 := ai_add e_v412 rfl rfl (by omega)
                                  refine tz_lald hx hb hK hT 0 rfl (by omega) dX11_findForm_131 (fun v413 e_v413 => ?_)
                                  clear e_v413
                                  refine lv_lconst (v := 0) hx hb dX11_findForm_132 (by decide) ?_
                                  refine W.lcmp hx hb dX11_findForm_133 ?_
                                  refine lv_if_lt (tgt := 141) hx hb dX11_findForm_134 (by decide) (fun c_414 => ?_) (fun c_414 => ?_)
                                  · skip
                                    have c_414 := nl_lt c_414 rfl ll_0
                                    refine lv_iconst (v := 0) hx hb dX11_findForm_141 (by decide) ?_
                                    refine lv_lload hx hb dX11_findForm_142 (lv_at hl 6 rfl) ?_
                                    refine lv_lconst (v := 0) hx hb dX11_findForm_144 (by decide) ?_
                                    refine W.lcmp hx hb dX11_findForm_145 ?_
                                    refine lv_if_lt (tgt := 153) hx hb dX11_findForm_146 (by decide) (fun c_415 => ?_) (fun c_415 => ?_)
                                    · skip
                                      have c_415 := nl_lt c_415 rfl ll_0
                                      refine lv_iconst (v := 0) hx hb dX11_findForm_153 (by decide) ?_
                                      refine lv_icmp_ne (tgt := 184) hx hb dX11_findForm_154 (by decide) (fun cc => absurd (by decide +kernel) cc) (fun _ => ?_)
                                      refine lv_lload hx hb dX11_findForm_157 (lv_at hl 0 rfl) ?_
                                      refine lv_lconst (v := 0) hx hb dX11_findForm_159 (by decide) ?_
                                      refine W.lcmp hx hb dX11_findForm_160 ?_
                                      refine lv_if_lt (tgt := 168) hx hb dX11_findForm_161 (by decide) (fun c_416 => ?_) (fun c_416 => ?_)
                                      · skip
                                        have c_416 := nl_lt c_416 rfl ll_0
                                        refine lv_iconst (v := 0) hx hb dX11_findForm_168 (by decide) ?_
                                        refine lv_lload hx hb dX11_findForm_169 (lv_at hl 6 rfl) ?_
                                        refine lv_lconst (v := 0) hx hb dX11_findForm_171 (by decide) ?_
                                        refine W.lcmp hx hb dX11_findForm_172 ?_
                                        refine lv_if_lt (tgt := 180) hx hb dX11_findForm_173 (by decide) (fun c_417 => ?_) (fun c_417 => ?_)
                                        · skip
                                          have c_417 := nl_lt c_417 rfl ll_0
                                          refine lv_iconst (v := 0) hx hb dX11_findForm_180 (by decide) ?_
                                          refine lv_icmp_ne (tgt := 188) hx hb dX11_findForm_181 (by decide) (fun cc => absurd (by decide +kernel) cc) (fun _ => ?_)
                                          refine lv_iconst (v := 1) hx hb dX11_findForm_184 (by decide) ?_
                                          refine lv_goto (tgt := 189) hx hb dX11_findForm_185 (by decide) ?_
                                          refine lv_istore_n (lv' := [(1, .int 1), (7, .long v406), (0, .ref h0), (2, .int y2), (3, .int y230), (4, .int y235), (5, .long y400)]) hx hb dX11_findForm_189 rfl hl (by decide) rfl (fun ls hl => ?_)
                                          refine lv_aload_n hx hb dX11_findForm_190 rfl (lv_at hl 2 rfl) ?_
                                          refine tz_get (ci := 8) (v := .ref h4) (C := RX11) (F := TX11) (N := 36) hx hb hU iX11 hown hK hT 1 rfl rfl 11 (by decide) w796 (fun _ h9 => h9) rfl dX11_findForm_191 ?_
                                          refine lv_iconst (v := 3) hx hb dX11_findForm_194 (by decide) ?_
                                          refine lv_iload_n hx hb dX11_findForm_195 rfl (lv_at hl 4 rfl) ?_
                                          refine lv_imul hx hb dX11_findForm_196 (lv_topi (fun v418 e_v418 => ?_))
                                          have e_v418 := ai_mul e_v418 li_3 rfl (by omega)
                                          refine lv_iload hx hb dX11_findForm_197 (lv_at hl 5 rfl) ?_
                                          refine lv_iadd hx hb dX11_findForm_199 (lv_topi (fun v419 e_v419 => ?_))
                                          have e_v419 := ai_add e_v419 rfl rfl (by omega)
                                          refine lv_lload hx hb dX11_findForm_200 (lv_at hl 1 rfl) ?_
                                          refine tz_lastP hx hb hK hT hS 0 (oP ((1 : Int32).toInt) (y2.toInt + y230.toInt + y235.toInt)) rfl (by omega) (o_putx (by omega) (by have := li_1; omega)) dX11_findForm_202 (fun H locs hT hS => ?_)
                                          have hT : TP D A [(h4, aJ (k 1) 9 (oP ((1 : Int32).toInt) (y2.toInt + y230.toInt + y235.toInt))), (h0, ob 8 [.int h0f0, .int h0f1, .int h0f2, .int h0f3, .int h0f4, .int h0f5, .ref h1, .ref h2, .int h0f8, .int h0f9, .ref h3, .ref h4, .ref h5, .ref h6, .ref h7, .ref h8, .ref h9, .int h0f17, .int h0f18, .int h0f19, .ref h10, .ref h11, .ref h12, .ref h13, .int h0f24, .int h0f25, .ref h14, .ref h15, .ref h16, .ref h17, .int h0f30, .int h0f31, .ref h18, .ref h19, .ref h20, .ref h21]), (h5, aJ (k 1) 9 (b9P )), (h10, aJ (k 1) 900 (lsP (h0f9.toInt)))] _ := hT
                                          obtain ⟨v420, e_v420⟩ : ∃ x : Int32, x = y235 + Int32.ofInt 1 := ⟨_, rfl⟩
                                          have f_v420 := e_v420.symm
                                          have e_v420 : v420.toInt = y235.toInt + 1 := ai_add e_v420 rfl (show (Int32.ofInt 1).toInt = 1 from (by decide +kernel)) (by omega)
                                          refine lv_iinc (v := v420) (lv' := [(4, .int v420), (1, .int 1), (7, .long v406), (0, .ref h0), (2, .int y2), (3, .int y230), (5, .long y400)]) hx hb dX11_findForm_203 hl (k := 5) rfl f_v420 (by decide) rfl (fun ls hl => ?_)
                                          refine lv_goto (tgt := 42) hx hb dX11_findForm_206 (by decide) ?_
                                          have hT := hT.wk (q := 0) (P' := aJ (k 1) 9 (oP ((1 : Int32).toInt) (y2.toInt + y230.toInt + v420.toInt))) rfl (cv_o_o (by have := li_1; omega))
                                          have hT : TP D A [(h4, aJ (k 1) 9 (oP ((1 : Int32).toInt) (y2.toInt + y230.toInt + v420.toInt))), (h0, ob 8 [.int h0f0, .int h0f1, .int h0f2, .int h0f3, .int h0f4, .int h0f5, .ref h1, .ref h2, .int h0f8, .int h0f9, .ref h3, .ref h4, .ref h5, .ref h6, .ref h7, .ref h8, .ref h9, .int h0f17, .int h0f18, .int h0f19, .ref h10, .ref h11, .ref h12, .ref h13, .int h0f24, .int h0f25, .ref h14, .ref h15, .ref h16, .ref h17, .int h0f30, .int h0f31, .ref h18, .ref h19, .ref h20, .ref h21]), (h5, aJ (k 1) 9 (b9P )), (h10, aJ (k 1) 900 (lsP (h0f9.toInt)))] _ := hT
                                          exact ih42_237 v420 (1) _ _ _ (by have := li_1; omega) (by have := li_1; omega)  (by have := li_1; omega) hT hS (lv_sub hl [3, 1, 4, 5, 0] rfl)
                                        · skip
                                          have c_417 := nl_nlt c_417 rfl ll_0
                                          exfalso; omega
                                      · skip
                                        have c_416 := nl_nlt c_416 rfl ll_0
                                        refine lv_iconst (v := 1) hx hb dX11_findForm_164 (by decide) ?_
                                        refine lv_goto (tgt := 169) hx hb dX11_findForm_165 (by decide) ?_
                                        refine lv_lload hx hb dX11_findForm_169 (lv_at hl 6 rfl) ?_
                                        refine lv_lconst (v := 0) hx hb dX11_findForm_171 (by decide) ?_
                                        refine W.lcmp hx hb dX11_findForm_172 ?_
                                        refine lv_if_lt (tgt := 180) hx hb dX11_findForm_173 (by decide) (fun c_421 => ?_) (fun c_421 => ?_)
                                        · skip
                                          have c_421 := nl_lt c_421 rfl ll_0
                                          refine lv_iconst (v := 0) hx hb dX11_findForm_180 (by decide) ?_
                                          refine lv_icmp_ne (tgt := 188) hx hb dX11_findForm_181 (by decide) (fun _ => ?_) (fun cc => absurd cc (by decide +kernel))
                                          refine lv_iconst (v := 0) hx hb dX11_findForm_188 (by decide) ?_
                                          refine lv_istore_n (lv' := [(1, .int 0), (7, .long v406), (0, .ref h0), (2, .int y2), (3, .int y230), (4, .int y235), (5, .long y400)]) hx hb dX11_findForm_189 rfl hl (by decide) rfl (fun ls hl => ?_)
                                          refine lv_aload_n hx hb dX11_findForm_190 rfl (lv_at hl 2 rfl) ?_
                                          refine tz_get (ci := 8) (v := .ref h4) (C := RX11) (F := TX11) (N := 36) hx hb hU iX11 hown hK hT 1 rfl rfl 11 (by decide) w796 (fun _ h9 => h9) rfl dX11_findForm_191 ?_
                                          refine lv_iconst (v := 3) hx hb dX11_findForm_194 (by decide) ?_
                                          refine lv_iload_n hx hb dX11_findForm_195 rfl (lv_at hl 4 rfl) ?_
                                          refine lv_imul hx hb dX11_findForm_196 (lv_topi (fun v422 e_v422 => ?_))
                                          have e_v422 := ai_mul e_v422 li_3 rfl (by omega)
                                          refine lv_iload hx hb dX11_findForm_197 (lv_at hl 5 rfl) ?_
                                          refine lv_iadd hx hb dX11_findForm_199 (lv_topi (fun v423 e_v423 => ?_))
                                          have e_v423 := ai_add e_v423 rfl rfl (by omega)
                                          refine lv_lload hx hb dX11_findForm_200 (lv_at hl 1 rfl) ?_
                                          refine tz_lastP hx hb hK hT hS 0 (oP ((0 : Int32).toInt) (y2.toInt + y230.toInt + y235.toInt)) rfl (by omega) (o_putx (by omega) (by have := li_0; omega)) dX11_findForm_202 (fun H locs hT hS => ?_)
                                          have hT : TP D A [(h4, aJ (k 1) 9 (oP ((0 : Int32).toInt) (y2.toInt + y230.toInt + y235.toInt))), (h0, ob 8 [.int h0f0, .int h0f1, .int h0f2, .int h0f3, .int h0f4, .int h0f5, .ref h1, .ref h2, .int h0f8, .int h0f9, .ref h3, .ref h4, .ref h5, .ref h6, .ref h7, .ref h8, .ref h9, .int h0f17, .int h0f18, .int h0f19, .ref h10, .ref h11, .ref h12, .ref h13, .int h0f24, .int h0f25, .ref h14, .ref h15, .ref h16, .ref h17, .int h0f30, .int h0f31, .ref h18, .ref h19, .ref h20, .ref h21]), (h5, aJ (k 1) 9 (b9P )), (h10, aJ (k 1) 900 (lsP (h0f9.toInt)))] _ := hT
                                          obtain ⟨v424, e_v424⟩ : ∃ x : Int32, x = y235 + Int32.ofInt 1 := ⟨_, rfl⟩
                                          have f_v424 := e_v424.symm
                                          have e_v424 : v424.toInt = y235.toInt + 1 := ai_add e_v424 rfl (show (Int32.ofInt 1).toInt = 1 from (by decide +kernel)) (by omega)
                                          refine lv_iinc (v := v424) (lv' := [(4, .int v424), (1, .int 0), (7, .long v406), (0, .ref h0), (2, .int y2), (3, .int y230), (5, .long y400)]) hx hb dX11_findForm_203 hl (k := 5) rfl f_v424 (by decide) rfl (fun ls hl => ?_)
                                          refine lv_goto (tgt := 42) hx hb dX11_findForm_206 (by decide) ?_
                                          have hT := hT.wk (q := 0) (P' := aJ (k 1) 9 (oP ((0 : Int32).toInt) (y2.toInt + y230.toInt + v424.toInt))) rfl (cv_o_o (by have := li_0; omega))
                                          have hT : TP D A [(h4, aJ (k 1) 9 (oP ((0 : Int32).toInt) (y2.toInt + y230.toInt + v424.toInt))), (h0, ob 8 [.int h0f0, .int h0f1, .int h0f2, .int h0f3, .int h0f4, .int h0f5, .ref h1, .ref h2, .int h0f8, .int h0f9, .ref h3, .ref h4, .ref h5, .ref h6, .ref h7, .ref h8, .ref h9, .int h0f17, .int h0f18, .int h0f19, .ref h10, .ref h11, .ref h12, .ref h13, .int h0f24, .int h0f25, .ref h14, .ref h15, .ref h16, .ref h17, .int h0f30, .int h0f31, .ref h18, .ref h19, .ref h20, .ref h21]), (h5, aJ (k 1) 9 (b9P )), (h10, aJ (k 1) 900 (lsP (h0f9.toInt)))] _ := hT
                                          exact ih42_237 v424 (0) _ _ _ (by have := li_0; omega) (by have := li_0; omega)  (by have := li_0; omega) hT hS (lv_sub hl [3, 1, 4, 5, 0] rfl)
                                        · skip
                                          have c_421 := nl_nlt c_421 rfl ll_0
                                          exfalso; omega
                                    · skip
                                      have c_415 := nl_nlt c_415 rfl ll_0
                                      refine lv_iconst (v := 1) hx hb dX11_findForm_149 (by decide) ?_
                                      refine lv_goto (tgt := 154) hx hb dX11_findForm_150 (by decide) ?_
                                      refine lv_icmp_ne (tgt := 184) hx hb dX11_findForm_154 (by decide) (fun _ => ?_) (fun cc => absurd cc (by decide +kernel))
                                      refine lv_iconst (v := 1) hx hb dX11_findForm_184 (by decide) ?_
                                      refine lv_goto (tgt := 189) hx hb dX11_findForm_185 (by decide) ?_
                                      refine lv_istore_n (lv' := [(1, .int 1), (7, .long v406), (0, .ref h0), (2, .int y2), (3, .int y230), (4, .int y235), (5, .long y400)]) hx hb dX11_findForm_189 rfl hl (by decide) rfl (fun ls hl => ?_)
                                      refine lv_aload_n hx hb dX11_findForm_190 rfl (lv_at hl 2 rfl) ?_
                                      refine tz_get (ci := 8) (v := .ref h4) (C := RX11) (F := TX11) (N := 36) hx hb hU iX11 hown hK hT 1 rfl rfl 11 (by decide) w796 (fun _ h9 => h9) rfl dX11_findForm_191 ?_
                                      refine lv_iconst (v := 3) hx hb dX11_findForm_194 (by decide) ?_
                                      refine lv_iload_n hx hb dX11_findForm_195 rfl (lv_at hl 4 rfl) ?_
                                      refine lv_imul hx hb dX11_findForm_196 (lv_topi (fun v425 e_v425 => ?_))
                                      have e_v425 := ai_mul e_v425 li_3 rfl (by omega)
                                      refine lv_iload hx hb dX11_findForm_197 (lv_at hl 5 rfl) ?_
                                      refine lv_iadd hx hb dX11_findForm_199 (lv_topi (fun v426 e_v426 => ?_))
                                      have e_v426 := ai_add e_v426 rfl rfl (by omega)
                                      refine lv_lload hx hb dX11_findForm_200 (lv_at hl 1 rfl) ?_
                                      refine tz_lastP hx hb hK hT hS 0 (oP ((1 : Int32).toInt) (y2.toInt + y230.toInt + y235.toInt)) rfl (by omega) (o_putx (by omega) (by have := li_1; omega)) dX11_findForm_202 (fun H locs hT hS => ?_)
                                      have hT : TP D A [(h4, aJ (k 1) 9 (oP ((1 : Int32).toInt) (y2.toInt + y230.toInt + y235.toInt))), (h0, ob 8 [.int h0f0, .int h0f1, .int h0f2, .int h0f3, .int h0f4, .int h0f5, .ref h1, .ref h2, .int h0f8, .int h0f9, .ref h3, .ref h4, .ref h5, .ref h6, .ref h7, .ref h8, .ref h9, .int h0f17, .int h0f18, .int h0f19, .ref h10, .ref h11, .ref h12, .ref h13, .int h0f24, .int h0f25, .ref h14, .ref h15, .ref h16, .ref h17, .int h0f30, .int h0f31, .ref h18, .ref h19, .ref h20, .ref h21]), (h5, aJ (k 1) 9 (b9P )), (h10, aJ (k 1) 900 (lsP (h0f9.toInt)))] _ := hT
                                      obtain ⟨v427, e_v427⟩ : ∃ x : Int32, x = y235 + Int32.ofInt 1 := ⟨_, rfl⟩
                                      have f_v427 := e_v427.symm
                                      have e_v427 : v427.toInt = y235.toInt + 1 := ai_add e_v427 rfl (show (Int32.ofInt 1).toInt = 1 from (by decide +kernel)) (by omega)
                                      refine lv_iinc (v := v427) (lv' := [(4, .int v427), (1, .int 1), (7, .long v406), (0, .ref h0), (2, .int y2), (3, .int y230), (5, .long y400)]) hx hb dX11_findForm_203 hl (k := 5) rfl f_v427 (by decide) rfl (fun ls hl => ?_)
                                      refine lv_goto (tgt := 42) hx hb dX11_findForm_206 (by decide) ?_
                                      have hT := hT.wk (q := 0) (P' := aJ (k 1) 9 (oP ((1 : Int32).toInt) (y2.toInt + y230.toInt + v427.toInt))) rfl (cv_o_o (by have := li_1; omega))
                                      have hT : TP D A [(h4, aJ (k 1) 9 (oP ((1 : Int32).toInt) (y2.toInt + y230.toInt + v427.toInt))), (h0, ob 8 [.int h0f0, .int h0f1, .int h0f2, .int h0f3, .int h0f4, .int h0f5, .ref h1, .ref h2, .int h0f8, .int h0f9, .ref h3, .ref h4, .ref h5, .ref h6, .ref h7, .ref h8, .ref h9, .int h0f17, .int h0f18, .int h0f19, .ref h10, .ref h11, .ref h12, .ref h13, .int h0f24, .int h0f25, .ref h14, .ref h15, .ref h16, .ref h17, .int h0f30, .int h0f31, .ref h18, .ref h19, .ref h20, .ref h21]), (h5, aJ (k 1) 9 (b9P )), (h10, aJ (k 1) 900 (lsP (h0f9.toInt)))] _ := hT
                                      exact ih42_237 v427 (1) _ _ _ (by have := li_1; omega) (by have := li_1; omega)  (by have := li_1; omega) hT hS (lv_sub hl [3, 1, 4, 5, 0] rfl)
                                  · skip
                                    have c_414 := nl_nlt c_414 rfl ll_0
                                    refine lv_iconst (v := 1) hx hb dX11_findForm_137 (by decide) ?_
                                    refine lv_goto (tgt := 142) hx hb dX11_findForm_138 (by decide) ?_
                                    refine lv_lload hx hb dX11_findForm_142 (lv_at hl 6 rfl) ?_
                                    refine lv_lconst (v := 0) hx hb dX11_findForm_144 (by decide) ?_
                                    refine W.lcmp hx hb dX11_findForm_145 ?_
                                    refine lv_if_lt (tgt := 153) hx hb dX11_findForm_146 (by decide) (fun c_428 => ?_) (fun c_428 => ?_)
                                    · skip
                                      have c_428 := nl_lt c_428 rfl ll_0
                                      refine lv_iconst (v := 0) hx hb dX11_findForm_153 (by decide) ?_
                                      refine lv_icmp_ne (tgt := 184) hx hb dX11_findForm_154 (by decide) (fun _ => ?_) (fun cc => absurd cc (by decide +kernel))
                                      refine lv_iconst (v := 1) hx hb dX11_findForm_184 (by decide) ?_
                                      refine lv_goto (tgt := 189) hx hb dX11_findForm_185 (by decide) ?_
                                      refine lv_istore_n (lv' := [(1, .int 1), (7, .long v406), (0, .ref h0), (2, .int y2), (3, .int y230), (4, .int y235), (5, .long y400)]) hx hb dX11_findForm_189 rfl hl (by decide) rfl (fun ls hl => ?_)
                                      refine lv_aload_n hx hb dX11_findForm_190 rfl (lv_at hl 2 rfl) ?_
                                      refine tz_get (ci := 8) (v := .ref h4) (C := RX11) (F := TX11) (N := 36) hx hb hU iX11 hown hK hT 1 rfl rfl 11 (by decide) w796 (fun _ h9 => h9) rfl dX11_findForm_191 ?_
                                      refine lv_iconst (v := 3) hx hb dX11_findForm_194 (by decide) ?_
                                      refine lv_iload_n hx hb dX11_findForm_195 rfl (lv_at hl 4 rfl) ?_
                                      refine lv_imul hx hb dX11_findForm_196 (lv_topi (fun v429 e_v429 => ?_))
                                      have e_v429 := ai_mul e_v429 li_3 rfl (by omega)
                                      refine lv_iload hx hb dX11_findForm_197 (lv_at hl 5 rfl) ?_
                                      refine lv_iadd hx hb dX11_findForm_199 (lv_topi (fun v430 e_v430 => ?_))
                                      have e_v430 := ai_add e_v430 rfl rfl (by omega)
                                      refine lv_lload hx hb dX11_findForm_200 (lv_at hl 1 rfl) ?_
                                      refine tz_lastP hx hb hK hT hS 0 (oP ((1 : Int32).toInt) (y2.toInt + y230.toInt + y235.toInt)) rfl (by omega) (o_putx (by omega) (by have := li_1; omega)) dX11_findForm_202 (fun H locs hT hS => ?_)
                                      have hT : TP D A [(h4, aJ (k 1) 9 (oP ((1 : Int32).toInt) (y2.toInt + y230.toInt + y235.toInt))), (h0, ob 8 [.int h0f0, .int h0f1, .int h0f2, .int h0f3, .int h0f4, .int h0f5, .ref h1, .ref h2, .int h0f8, .int h0f9, .ref h3, .ref h4, .ref h5, .ref h6, .ref h7, .ref h8, .ref h9, .int h0f17, .int h0f18, .int h0f19, .ref h10, .ref h11, .ref h12, .ref h13, .int h0f24, .int h0f25, .ref h14, .ref h15, .ref h16, .ref h17, .int h0f30, .int h0f31, .ref h18, .ref h19, .ref h20, .ref h21]), (h5, aJ (k 1) 9 (b9P )), (h10, aJ (k 1) 900 (lsP (h0f9.toInt)))] _ := hT
                                      obtain ⟨v431, e_v431⟩ : ∃ x : Int32, x = y235 + Int32.ofInt 1 := ⟨_, rfl⟩
                                      have f_v431 := e_v431.symm
                                      have e_v431 : v431.toInt = y235.toInt + 1 := ai_add e_v431 rfl (show (Int32.ofInt 1).toInt = 1 from (by decide +kernel)) (by omega)
                                      refine lv_iinc (v := v431) (lv' := [(4, .int v431), (1, .int 1), (7, .long v406), (0, .ref h0), (2, .int y2), (3, .int y230), (5, .long y400)]) hx hb dX11_findForm_203 hl (k := 5) rfl f_v431 (by decide) rfl (fun ls hl => ?_)
                                      refine lv_goto (tgt := 42) hx hb dX11_findForm_206 (by decide) ?_
                                      have hT := hT.wk (q := 0) (P' := aJ (k 1) 9 (oP ((1 : Int32).toInt) (y2.toInt + y230.toInt + v431.toInt))) rfl (cv_o_o (by have := li_1; omega))
                                      have hT : TP D A [(h4, aJ (k 1) 9 (oP ((1 : Int32).toInt) (y2.toInt + y230.toInt + v431.toInt))), (h0, ob 8 [.int h0f0, .int h0f1, .int h0f2, .int h0f3, .int h0f4, .int h0f5, .ref h1, .ref h2, .int h0f8, .int h0f9, .ref h3, .ref h4, .ref h5, .ref h6, .ref h7, .ref h8, .ref h9, .int h0f17, .int h0f18, .int h0f19, .ref h10, .ref h11, .ref h12, .ref h13, .int h0f24, .int h0f25, .ref h14, .ref h15, .ref h16, .ref h17, .int h0f30, .int h0f31, .ref h18, .ref h19, .ref h20, .ref h21]), (h5, aJ (k 1) 9 (b9P )), (h10, aJ (k 1) 900 (lsP (h0f9.toInt)))] _ := hT
                                      exact ih42_237 v431 (1) _ _ _ (by have := li_1; omega) (by have := li_1; omega)  (by have := li_1; omega) hT hS (lv_sub hl [3, 1, 4, 5, 0] rfl)
                                    · skip
                                      have c_428 := nl_nlt c_428 rfl ll_0
                                      refine lv_iconst (v := 1) hx hb dX11_findForm_149 (by decide) ?_
                                      refine lv_goto (tgt := 154) hx hb dX11_findForm_150 (by decide) ?_
                                      refine lv_icmp_ne (tgt := 184) hx hb dX11_findForm_154 (by decide) (fun cc => absurd (by decide +kernel) cc) (fun _ => ?_)
                                      refine lv_lload hx hb dX11_findForm_157 (lv_at hl 0 rfl) ?_
                                      refine lv_lconst (v := 0) hx hb dX11_findForm_159 (by decide) ?_
                                      refine W.lcmp hx hb dX11_findForm_160 ?_
                                      refine lv_if_lt (tgt := 168) hx hb dX11_findForm_161 (by decide) (fun c_432 => ?_) (fun c_432 => ?_)
                                      · skip
                                        have c_432 := nl_lt c_432 rfl ll_0
                                        refine lv_iconst (v := 0) hx hb dX11_findForm_168 (by decide) ?_
                                        refine lv_lload hx hb dX11_findForm_169 (lv_at hl 6 rfl) ?_
                                        refine lv_lconst (v := 0) hx hb dX11_findForm_171 (by decide) ?_
                                        refine W.lcmp hx hb dX11_findForm_172 ?_
                                        refine lv_if_lt (tgt := 180) hx hb dX11_findForm_173 (by decide) (fun c_433 => ?_) (fun c_433 => ?_)
                                        · skip
                                          have c_433 := nl_lt c_433 rfl ll_0
                                          exfalso; omega
                                        · skip
                                          have c_433 := nl_nlt c_433 rfl ll_0
                                          refine lv_iconst (v := 1) hx hb dX11_findForm_176 (by decide) ?_
                                          refine lv_goto (tgt := 181) hx hb dX11_findForm_177 (by decide) ?_
                                          refine lv_icmp_ne (tgt := 188) hx hb dX11_findForm_181 (by decide) (fun _ => ?_) (fun cc => absurd cc (by decide +kernel))
                                          refine lv_iconst (v := 0) hx hb dX11_findForm_188 (by decide) ?_
                                          refine lv_istore_n (lv' := [(1, .int 0), (7, .long v406), (0, .ref h0), (2, .int y2), (3, .int y230), (4, .int y235), (5, .long y400)]) hx hb dX11_findForm_189 rfl hl (by decide) rfl (fun ls hl => ?_)
                                          refine lv_aload_n hx hb dX11_findForm_190 rfl (lv_at hl 2 rfl) ?_
                                          refine tz_get (ci := 8) (v := .ref h4) (C := RX11) (F := TX11) (N := 36) hx hb hU iX11 hown hK hT 1 rfl rfl 11 (by decide) w796 (fun _ h9 => h9) rfl dX11_findForm_191 ?_
                                          refine lv_iconst (v := 3) hx hb dX11_findForm_194 (by decide) ?_
                                          refine lv_iload_n hx hb dX11_findForm_195 rfl (lv_at hl 4 rfl) ?_
                                          refine lv_imul hx hb dX11_findForm_196 (lv_topi (fun v434 e_v434 => ?_))
                                          have e_v434 := ai_mul e_v434 li_3 rfl (by omega)
                                          refine lv_iload hx hb dX11_findForm_197 (lv_at hl 5 rfl) ?_
                                          refine lv_iadd hx hb dX11_findForm_199 (lv_topi (fun v435 e_v435 => ?_))
                                          have e_v435 := ai_add e_v435 rfl rfl (by omega)
                                          refine lv_lload hx hb dX11_findForm_200 (lv_at hl 1 rfl) ?_
                                          refine tz_lastP hx hb hK hT hS 0 (oP ((0 : Int32).toInt) (y2.toInt + y230.toInt + y235.toInt)) rfl (by omega) (o_putx (by omega) (by have := li_0; omega)) dX11_findForm_202 (fun H locs hT hS => ?_)
                                          have hT : TP D A [(h4, aJ (k 1) 9 (oP ((0 : Int32).toInt) (y2.toInt + y230.toInt + y235.toInt))), (h0, ob 8 [.int h0f0, .int h0f1, .int h0f2, .int h0f3, .int h0f4, .int h0f5, .ref h1, .ref h2, .int h0f8, .int h0f9, .ref h3, .ref h4, .ref h5, .ref h6, .ref h7, .ref h8, .ref h9, .int h0f17, .int h0f18, .int h0f19, .ref h10, .ref h11, .ref h12, .ref h13, .int h0f24, .int h0f25, .ref h14, .ref h15, .ref h16, .ref h17, .int h0f30, .int h0f31, .ref h18, .ref h19, .ref h20, .ref h21]), (h5, aJ (k 1) 9 (b9P )), (h10, aJ (k 1) 900 (lsP (h0f9.toInt)))] _ := hT
                                          obtain ⟨v436, e_v436⟩ : ∃ x : Int32, x = y235 + Int32.ofInt 1 := ⟨_, rfl⟩
                                          have f_v436 := e_v436.symm
                                          have e_v436 : v436.toInt = y235.toInt + 1 := ai_add e_v436 rfl (show (Int32.ofInt 1).toInt = 1 from (by decide +kernel)) (by omega)
                                          refine lv_iinc (v := v436) (lv' := [(4, .int v436), (1, .int 0), (7, .long v406), (0, .ref h0), (2, .int y2), (3, .int y230), (5, .long y400)]) hx hb dX11_findForm_203 hl (k := 5) rfl f_v436 (by decide) rfl (fun ls hl => ?_)
                                          refine lv_goto (tgt := 42) hx hb dX11_findForm_206 (by decide) ?_
                                          have hT := hT.wk (q := 0) (P' := aJ (k 1) 9 (oP ((0 : Int32).toInt) (y2.toInt + y230.toInt + v436.toInt))) rfl (cv_o_o (by have := li_0; omega))
                                          have hT : TP D A [(h4, aJ (k 1) 9 (oP ((0 : Int32).toInt) (y2.toInt + y230.toInt + v436.toInt))), (h0, ob 8 [.int h0f0, .int h0f1, .int h0f2, .int h0f3, .int h0f4, .int h0f5, .ref h1, .ref h2, .int h0f8, .int h0f9, .ref h3, .ref h4, .ref h5, .ref h6, .ref h7, .ref h8, .ref h9, .int h0f17, .int h0f18, .int h0f19, .ref h10, .ref h11, .ref h12, .ref h13, .int h0f24, .int h0f25, .ref h14, .ref h15, .ref h16, .ref h17, .int h0f30, .int h0f31, .ref h18, .ref h19, .ref h20, .ref h21]), (h5, aJ (k 1) 9 (b9P )), (h10, aJ (k 1) 900 (lsP (h0f9.toInt)))] _ := hT
                                          exact ih42_237 v436 (0) _ _ _ (by have := li_0; omega) (by have := li_0; omega)  (by have := li_0; omega) hT hS (lv_sub hl [3, 1, 4, 5, 0] rfl)
                                      · skip
                                        have c_432 := nl_nlt c_432 rfl ll_0
                                        refine lv_iconst (v := 1) hx hb dX11_findForm_164 (by decide) ?_
                                        refine lv_goto (tgt := 169) hx hb dX11_findForm_165 (by decide) ?_
                                        refine lv_lload hx hb dX11_findForm_169 (lv_at hl 6 rfl) ?_
                                        refine lv_lconst (v := 0) hx hb dX11_findForm_171 (by decide) ?_
                                        refine W.lcmp hx hb dX11_findForm_172 ?_
                                        refine lv_if_lt (tgt := 180) hx hb dX11_findForm_173 (by decide) (fun c_437 => ?_) (fun c_437 => ?_)
                                        · skip
                                          have c_437 := nl_lt c_437 rfl ll_0
                                          exfalso; omega
                                        · skip
                                          have c_437 := nl_nlt c_437 rfl ll_0
                                          refine lv_iconst (v := 1) hx hb dX11_findForm_176 (by decide) ?_
                                          refine lv_goto (tgt := 181) hx hb dX11_findForm_177 (by decide) ?_
                                          refine lv_icmp_ne (tgt := 188) hx hb dX11_findForm_181 (by decide) (fun cc => absurd (by decide +kernel) cc) (fun _ => ?_)
                                          refine lv_iconst (v := 1) hx hb dX11_findForm_184 (by decide) ?_
                                          refine lv_goto (tgt := 189) hx hb dX11_findForm_185 (by decide) ?_
                                          refine lv_istore_n (lv' := [(1, .int 1), (7, .long v406), (0, .ref h0), (2, .int y2), (3, .int y230), (4, .int y235), (5, .long y400)]) hx hb dX11_findForm_189 rfl hl (by decide) rfl (fun ls hl => ?_)
                                          refine lv_aload_n hx hb dX11_findForm_190 rfl (lv_at hl 2 rfl) ?_
                                          refine tz_get (ci := 8) (v := .ref h4) (C := RX11) (F := TX11) (N := 36) hx hb hU iX11 hown hK hT 1 rfl rfl 11 (by decide) w796 (fun _ h9 => h9) rfl dX11_findForm_191 ?_
                                          refine lv_iconst (v := 3) hx hb dX11_findForm_194 (by decide) ?_
                                          refine lv_iload_n hx hb dX11_findForm_195 rfl (lv_at hl 4 rfl) ?_
                                          refine lv_imul hx hb dX11_findForm_196 (lv_topi (fun v438 e_v438 => ?_))
                                          have e_v438 := ai_mul e_v438 li_3 rfl (by omega)
                                          refine lv_iload hx hb dX11_findForm_197 (lv_at hl 5 rfl) ?_
                                          refine lv_iadd hx hb dX11_findForm_199 (lv_topi (fun v439 e_v439 => ?_))
                                          have e_v439 := ai_add e_v439 rfl rfl (by omega)
                                          refine lv_lload hx hb dX11_findForm_200 (lv_at hl 1 rfl) ?_
                                          refine tz_lastP hx hb hK hT hS 0 (oP ((1 : Int32).toInt) (y2.toInt + y230.toInt + y235.toInt)) rfl (by omega) (o_putx (by omega) (by have := li_1; omega)) dX11_findForm_202 (fun H locs hT hS => ?_)
                                          have hT : TP D A [(h4, aJ (k 1) 9 (oP ((1 : Int32).toInt) (y2.toInt + y230.toInt + y235.toInt))), (h0, ob 8 [.int h0f0, .int h0f1, .int h0f2, .int h0f3, .int h0f4, .int h0f5, .ref h1, .ref h2, .int h0f8, .int h0f9, .ref h3, .ref h4, .ref h5, .ref h6, .ref h7, .ref h8, .ref h9, .int h0f17, .int h0f18, .int h0f19, .ref h10, .ref h11, .ref h12, .ref h13, .int h0f24, .int h0f25, .ref h14, .ref h15, .ref h16, .ref h17, .int h0f30, .int h0f31, .ref h18, .ref h19, .ref h20, .ref h21]), (h5, aJ (k 1) 9 (b9P )), (h10, aJ (k 1) 900 (lsP (h0f9.toInt)))] _ := hT
                                          obtain ⟨v440, e_v440⟩ : ∃ x : Int32, x = y235 + Int32.ofInt 1 := ⟨_, rfl⟩
                                          have f_v440 := e_v440.symm
                                          have e_v440 : v440.toInt = y235.toInt + 1 := ai_add e_v440 rfl (show (Int32.ofInt 1).toInt = 1 from (by decide +kernel)) (by omega)
                                          refine lv_iinc (v := v440) (lv' := [(4, .int v440), (1, .int 1), (7, .long v406), (0, .ref h0), (2, .int y2), (3, .int y230), (5, .long y400)]) hx hb dX11_findForm_203 hl (k := 5) rfl f_v440 (by decide) rfl (fun ls hl => ?_)
                                          refine lv_goto (tgt := 42) hx hb dX11_findForm_206 (by decide) ?_
                                          have hT := hT.wk (q := 0) (P' := aJ (k 1) 9 (oP ((1 : Int32).toInt) (y2.toInt + y230.toInt + v440.toInt))) rfl (cv_o_o (by have := li_1; omega))
                                          have hT : TP D A [(h4, aJ (k 1) 9 (oP ((1 : Int32).toInt) (y2.toInt + y230.toInt + v440.toInt))), (h0, ob 8 [.int h0f0, .int h0f1, .int h0f2, .int h0f3, .int h0f4, .int h0f5, .ref h1, .ref h2, .int h0f8, .int h0f9, .ref h3, .ref h4, .ref h5, .ref h6, .ref h7, .ref h8, .ref h9, .int h0f17, .int h0f18, .int h0f19, .ref h10, .ref h11, .ref h12, .ref h13, .int h0f24, .int h0f25, .ref h14, .ref h15, .ref h16, .ref h17, .int h0f30, .int h0f31, .ref h18, .ref h19, .ref h20, .ref h21]), (h5, aJ (k 1) 9 (b9P )), (h10, aJ (k 1) 900 (lsP (h0f9.toInt)))] _ := hT
                                          exact ih42_237 v440 (1) _ _ _ (by have := li_1; omega) (by have := li_1; omega)  (by have := li_1; omega) hT hS (lv_sub hl [3, 1, 4, 5, 0] rfl)
                              · skip
                                have c_402 := ni_nle c_402 rfl rfl
                                refine lv_lload hx hb dX11_findForm_66 (lv_at hl 5 rfl) ?_
                                refine lv_aload_n hx hb dX11_findForm_68 rfl (lv_at hl 0 rfl) ?_
                                refine tz_get (ci := 8) (v := .ref h5) (C := RX11) (F := TX11) (N := 36) hx hb hU iX11 hown hK hT 1 rfl rfl 12 (by decide) w797 (fun _ h9 => h9) rfl dX11_findForm_69 ?_
                                refine lv_iconst (v := 3) hx hb dX11_findForm_72 (by decide) ?_
                                refine lv_iload hx hb dX11_findForm_73 (lv_at hl 6 rfl) ?_
                                refine lv_imul hx hb dX11_findForm_75 (lv_topi (fun v441 e_v441 => ?_))
                                have e_v441 := ai_mul e_v441 li_3 rfl (by omega)
                                refine lv_iload_n hx hb dX11_findForm_76 rfl (lv_at hl 3 rfl) ?_
                                refine lv_iadd hx hb dX11_findForm_77 (lv_topi (fun v442 e_v442 => ?_))
                                have e_v442 := ai_add e_v442 rfl rfl (by omega)
                                refine tz_lald hx hb hK hT 2 rfl (by omega) dX11_findForm_78 (fun v443 e_v443 => ?_)
                                clear e_v443
                                refine lv_aload_n hx hb dX11_findForm_79 rfl (lv_at hl 0 rfl) ?_
                                refine tz_get (ci := 8) (v := .ref h5) (C := RX11) (F := TX11) (N := 36) hx hb hU iX11 hown hK hT 1 rfl rfl 12 (by decide) w797 (fun _ h9 => h9) rfl dX11_findForm_80 ?_
                                refine lv_iconst (v := 3) hx hb dX11_findForm_83 (by decide) ?_
                                refine lv_iload hx hb dX11_findForm_84 (lv_at hl 6 rfl) ?_
                                refine lv_imul hx hb dX11_findForm_86 (lv_topi (fun v444 e_v444 => ?_))
                                have e_v444 := ai_mul e_v444 li_3 rfl (by omega)
                                refine lv_iload hx hb dX11_findForm_87 (lv_at hl 4 rfl) ?_
                                refine lv_iadd hx hb dX11_findForm_89 (lv_topi (fun v445 e_v445 => ?_))
                                have e_v445 := ai_add e_v445 rfl rfl (by omega)
                                refine tz_lald hx hb hK hT 2 rfl (by omega) dX11_findForm_90 (fun v446 e_v446 => ?_)
                                clear e_v446
                                refine lv_lmul hx hb dX11_findForm_91 (lv_topl (fun v447 e_v447 => ?_))
                                refine lv_ladd hx hb dX11_findForm_92 (lv_topl (fun v448 e_v448 => ?_))
                                refine lv_lstore (lv' := [(5, .long v448), (0, .ref h0), (1, .int y236), (2, .int y2), (3, .int y230), (4, .int y235), (7, .int y399)]) hx hb dX11_findForm_93 hl (by decide) rfl (fun ls hl => ?_)
                                obtain ⟨v449, e_v449⟩ : ∃ x : Int32, x = y399 + Int32.ofInt 1 := ⟨_, rfl⟩
                                have f_v449 := e_v449.symm
                                have e_v449 : v449.toInt = y399.toInt + 1 := ai_add e_v449 rfl (show (Int32.ofInt 1).toInt = 1 from (by decide +kernel)) (by omega)
                                refine lv_iinc (v := v449) (lv' := [(7, .int v449), (5, .long v448), (0, .ref h0), (1, .int y236), (2, .int y2), (3, .int y230), (4, .int y235)]) hx hb dX11_findForm_95 hl (k := 6) rfl f_v449 (by decide) rfl (fun ls hl => ?_)
                                refine lv_goto (tgt := 57) hx hb dX11_findForm_98 (by decide) ?_
                                exact ih57_401 v449 v448 _ _ _ (by omega)  (by omega) hT hS (lv_sub hl [2, 3, 4, 5, 6, 1, 0] rfl)
                          exact lp57_401 ((h0f0.toInt + (-1) * (0 : Int32).toInt + 1).toNat + 1) (0) (0) _ _ _ (by have := li_0; have := ll_0; omega)  (Nat.lt_succ_self _) hT hS (lv_sub hl [2, 3, 4, 5, 6, 1, 0] rfl)
                exact lp42_237 ((h0f0.toInt + (-1) * (0 : Int32).toInt + 1).toNat + 1) (0) y231 _ _ _ (by have := li_0; omega) (by have := li_0; omega)  (Nat.lt_succ_self _) hT hS (lv_sub hl [1, 2, 3, 4, 0] rfl)
          exact lp31_232 ((h0f0.toInt + (-1) * (0 : Int32).toInt + 1).toNat + 1) (0) y3 _ _ _ (by have := li_0; omega) (by have := li_0; omega)  (Nat.lt_succ_self _) hT hS (lv_sub hl [1, 2, 3, 0] rfl)
  exact lp12_4 ((h0f24.toInt + (-1) * (0 : Int32).toInt + 1).toNat + 1) (0) (1) _ _ _ (by have := li_0; have := li_1; omega) (by have := li_0; have := li_1; omega)  (Nat.lt_succ_self _) hT hS (lv_sub hl [2, 1, 0] rfl)
